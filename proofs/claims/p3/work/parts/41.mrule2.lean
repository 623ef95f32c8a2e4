
set_option maxHeartbeats 4000000 in
set_option maxRecDepth 100000 in
theorem g_X13_hidden (l : Launch) (D : va_G) (cy : Nat → ClassId) (K : Kp) (L : List Nat) (M : Hp) (sz : Nat) (za : Nat) (z0 : Int32) (z1 : Nat) (z2 : Nat) (z3 : Nat) (z4 : Int32) (z5 : Int32) (z6 : Nat) (z7 : Nat) (z8 : Nat) (z9 : Nat) (z10 : Nat) (z11 : Nat) (z12 : Nat) (z13 : Nat) (z14 : Nat) (z15 : Nat) (z16 : Nat) (z17 : Nat) (z18 : Int32) (z19 : Nat) (k1 : Int32) (k2 : Int32) (k3 : Int32) (hW : WOM cy K L M) (i1 : isk K L z1 23 8) (b2 : z2 ≤ 8) (b3 : z3 ≤ 40) (i6 : isk K L z6 47 40) (i7 : isk K L z7 48 40) (i8 : isk K L z8 49 8) (i9 : isk K L z9 50 8) (b10 : z10 ≤ 8) (i11 : isk K L z11 32 24) (i12 : isk K L z12 14 24) (i13 : isk K L z13 15 24) (i14 : isk K L z14 15 24) (i15 : isk K L z15 15 24) (b16 : z16 ≤ 24) (i17 : isk K L z17 14 24) (i19 : isk K L z19 15 25) (hGI : GI K L z1 z2 M) : Met l yX13_hidden (wsM yX13_hidden cX13_hidden 6 (some .int)) ({ frames := 3, cells := 0, slots := 0, locals := 78 }) (va_Pc [.ref za, .int k1, .int k2, .int k3] (PG D cy [(za, .inr (13, [.int z0, .ref z1, .int (nI z2), .int (nI z3), .int z4, .int z5, .ref z6, .ref z7, .ref z8, .ref z9, .int (nI z10), .ref z11, .ref z12, .ref z13, .ref z14, .ref z15, .int (nI z16), .ref z17, .int z18, .ref z19]))] L M sz)) (va_Qi (fun (r : Int32) (M9 : Hp) => WOM cy K L M9 ∧ fr K L [14, 15, 32] M M9 ∧ (GI K L z1 z2 M9) ∧ (True)) (fun M9 t => ∃ (w4 : Int32) (w5 : Int32) (w16 : Nat), w16 ≤ 24 ∧ PQ D [(za, .inr (13, [.int 0, .ref z1, .int (nI z2), .int (nI z3), .int w4, .int w5, .ref z6, .ref z7, .ref z8, .ref z9, .int (nI z10), .ref z11, .ref z12, .ref z13, .ref z14, .ref z15, .int (nI w16), .ref z17, .int z18, .ref z19]))] L M9 (va_A ([(za, .inr (13, [.int z0, .ref z1, .int (nI z2), .int (nI z3), .int z4, .int z5, .ref z6, .ref z7, .ref z8, .ref z9, .int (nI z10), .ref z11, .ref z12, .ref z13, .ref z14, .ref z15, .int (nI z16), .ref z17, .int z18, .ref z19]))] ++ va_pl L M) sz) t) (va_A ([(za, .inr (13, [.int z0, .ref z1, .int (nI z2), .int (nI z3), .int z4, .int z5, .ref z6, .ref z7, .ref z8, .ref z9, .int (nI z10), .ref z11, .ref z12, .ref z13, .ref z14, .ref z15, .int (nI z16), .ref z17, .int z18, .ref z19]))] ++ va_pl L M) sz)) 0 0 (va_A ([(za, .inr (13, [.int z0, .ref z1, .int (nI z2), .int (nI z3), .int z4, .int z5, .ref z6, .ref z7, .ref z8, .ref z9, .int (nI z10), .ref z11, .ref z12, .ref z13, .ref z14, .ref z15, .int (nI z16), .ref z17, .int z18, .ref z19]))] ++ va_pl L M) sz) := by
  refine Met.ofW (cc := cX13_hidden) (maxL := 6) (ret := (some .int)) (by decide) rfl ?_
  intro p e s m args below meth c s₁ B hml hv
  obtain ⟨rfl, hsz, hP, hK, hD0, hN⟩ := hv
  have hx := B.exec
  have hb := B.bytes
  have hr := B.returns
  have hts := atoms_spec (ws := (wsM yX13_hidden cX13_hidden 6 (some .int))) B.pre
  have hg : ∀ w ∈ lw_good, w.before _ s = true := fun w h => hts w (List.mem_cons_of_mem _ h)
  have hown : s.vm.findClass RX13 = some m.cls := findClass_of_methodNamed B.named
  have hlocks := B.notSynchronized
  subst hsz
  have hD := hD0.self (sz := s.heap.size)
  generalize hAe : va_A ([(za, .inr (13, [.int z0, .ref z1, .int (nI z2), .int (nI z3), .int z4, .int z5, .ref z6, .ref z7, .ref z8, .ref z9, .int (nI z10), .ref z11, .ref z12, .ref z13, .ref z14, .ref z15, .int (nI z16), .ref z17, .int z18, .ref z19]))] ++ va_pl L M) s.heap.size = A at hD ⊢
  have hA : ∀ q : Nat, s.heap.size ≤ q → A q := fun q h => by rw [← hAe]; exact Or.inr h
  have hS : va_S A s.heap s.heap [] := va_S.rf
  have hl := lv_entry ([.ref za, .int k1, .int k2, .int k3]) (n := 6) (Nat.le_of_ble_eq_true rfl)
  rw [lg_entry_eq]
  generalize (lg_sl ([.ref za, .int k1, .int k2, .int k3]) ++ List.replicate (6 - (lg_sl ([.ref za, .int k1, .int k2, .int k3])).length) Slot.unset).toArray = ls at hl ⊢
  refine W.nameQ (fun Q hQ => ?_)
  refine W.nameR (fun R hR => ?_)
  have hRf : 3 ≤ R.frames := by rw [hR]; exact Nat.le_of_ble_eq_true rfl
  have hRl : 78 ≤ R.locals := by rw [hR]; exact Nat.le_of_ble_eq_true rfl
  have hRc : 0 ≤ R.cells := by rw [hR]; exact Nat.le_of_ble_eq_true rfl
  have hRs : 0 ≤ R.slots := by rw [hR]; exact Nat.le_of_ble_eq_true rfl
  have hF : fr K L [14, 15, 32] M M := fr.rf
  have hl : lv_has ls 6 [(0, .ref za), (1, .int k1), (2, .int k2), (3, .int k3)] := hl
  have hW0 := hW
  refine lv_aload_n hx hb dX13_hidden_0 rfl (lv_at hl 0 rfl) ?_
  refine lv_iconst (v := 0) hx hb dX13_hidden_1 (by decide) ?_
  refine va_put (D := D) (ci := 13) (v := .int 0) (ty := .int) (C := RX13) (T := TX13) (N := 20) hx hb hg inG13 tyX13 tyX13_ok nmX13 hown hK hP hD hS 0 rfl rfl 0 (by decide) (hg _ wd_720) (fun _ h9 => h9) rfl (by decide +kernel) rfl rfl (Nat.le_of_ble_eq_true rfl) dX13_hidden_2 (fun H_1 locs hP hD hS => ?_)
  have hP : va_P D vwCl ([(za, .inr (13, [.int 0, .ref z1, .int (nI z2), .int (nI z3), .int z4, .int z5, .ref z6, .ref z7, .ref z8, .ref z9, .int (nI z10), .ref z11, .ref z12, .ref z13, .ref z14, .ref z15, .int (nI z16), .ref z17, .int z18, .ref z19]))] ++ va_pl L M) H_1 := hP
  have hD : va_D A ([(za, .inr (13, [.int 0, .ref z1, .int (nI z2), .int (nI z3), .int z4, .int z5, .ref z6, .ref z7, .ref z8, .ref z9, .int (nI z10), .ref z11, .ref z12, .ref z13, .ref z14, .ref z15, .int (nI z16), .ref z17, .int z18, .ref z19]))] ++ va_pl L M) := hD
  refine lv_aload_n hx hb dX13_hidden_5 rfl (lv_at hl 0 rfl) ?_
  refine lv_iload_n hx hb dX13_hidden_6 rfl (lv_at hl 1 rfl) ?_
  have hPc : va_P D vwCl ([(za, .inr (13, [.int 0, .ref z1, .int (nI z2), .int (nI z3), .int z4, .int z5, .ref z6, .ref z7, .ref z8, .ref z9, .int (nI z10), .ref z11, .ref z12, .ref z13, .ref z14, .ref z15, .int (nI z16), .ref z17, .int z18, .ref z19]))] ++ va_pl L M) H_1 := hP
  have hDc : va_D A ([(za, .inr (13, [.int 0, .ref z1, .int (nI z2), .int (nI z3), .int z4, .int z5, .ref z6, .ref z7, .ref z8, .ref z9, .int (nI z10), .ref z11, .ref z12, .ref z13, .ref z14, .ref z15, .int (nI z16), .ref z17, .int z18, .ref z19]))] ++ va_pl L M) := hD
  have hFc : ∀ q, va_A ([(za, .inr (13, [.int 0, .ref z1, .int (nI z2), .int (nI z3), .int z4, .int z5, .ref z6, .ref z7, .ref z8, .ref z9, .int (nI z10), .ref z11, .ref z12, .ref z13, .ref z14, .ref z15, .int (nI z16), .ref z17, .int z18, .ref z19]))] ++ va_pl L M) H_1.size q → A q := pg_free hDc hS hA
  refine va_calli (va_runV (As := [.int k1]) (rest := []) ⟨hx, hb, hml, hown, hg⟩ (r_X13_isHouse l D cy K L M H_1.size za 0 z1 z2 z3 z4 z5 z6 z7 z8 z9 z10 z11 z12 z13 z14 z15 z16 z17 z18 z19 k1  hW i1 b2 b3 i6 i7 i8 i9 b10 i11 i12 i13 i14 i15 b16 i17 i19) (cwV 1 hg (gV wd_714 wd_715 wd_716 wd_717 wd_718) rfl rfl rfl (by decide +kernel) ⟨(Nat.le_trans (Nat.le_of_ble_eq_true rfl) hRf), (Nat.le_trans (Nat.le_of_ble_eq_true rfl) hRl)⟩) ⟨PG.blind, va_recv hK hP (ci := 13) (q0 := 0) rfl rfl, fun U hU hW => ⟨rfl, PG.at hPc hK hDc hN hU hW⟩⟩ rfl rfl hl.1 rfl (lv_room (Nat.le_of_ble_eq_true rfl)) dX13_hidden_7 ⟨(Nat.le_trans (Nat.le_of_ble_eq_true rfl) hRc), (Nat.le_trans (Nat.le_of_ble_eq_true rfl) hRs)⟩) hS (fun q _ h => hFc q h) hFc (fun r_3 M_4 t H_2 locs ht hvm hw hB hz1 hk1 hS => ?_)
  have hp_5 := hw
  obtain ⟨hP1, hD1⟩ := hB
  rw [ht] at hP1
  have hP : va_P D vwCl ([(za, .inr (13, [.int 0, .ref z1, .int (nI z2), .int (nI z3), .int z4, .int z5, .ref z6, .ref z7, .ref z8, .ref z9, .int (nI z10), .ref z11, .ref z12, .ref z13, .ref z14, .ref z15, .int (nI z16), .ref z17, .int z18, .ref z19]))] ++ va_pl L M) H_2 := hP1
  have hD : va_D A ([(za, .inr (13, [.int 0, .ref z1, .int (nI z2), .int (nI z3), .int z4, .int z5, .ref z6, .ref z7, .ref z8, .ref z9, .int (nI z10), .ref z11, .ref z12, .ref z13, .ref z14, .ref z15, .int (nI z16), .ref z17, .int z18, .ref z19]))] ++ va_pl L M) := hD1.mono hFc
  rcases hp_5 with ⟨rfl, c_6, c_7⟩ | rfl
  · have hz := rfl (a := 0)
    refine lv_if_eq (tgt := 25) hx hb dX13_hidden_10 (by decide) (fun c_8 => absurd c_8 (by decide)) (fun _ => ?_)
    refine lv_aload_n hx hb dX13_hidden_13 rfl (lv_at hl 0 rfl) ?_
    refine va_get (D := D) (ci := 13) (v := .ref z1) (C := RX13) (T := TX13) (N := 20) hx hb hg inG13 hown hK hP 0 rfl rfl 1 (by decide) (hg _ wd_739) (fun _ h9 => h9) rfl dX13_hidden_14 ?_
    refine lv_iload_n hx hb dX13_hidden_17 rfl (lv_at hl 1 rfl) ?_
    obtain ⟨f9, hM9, hf9⟩ := hW.open_23 i1
    have hi_10 : vp_in k1 8 := (inbW (a := z2) (by omega) (inb k1 z2 (by omega) c_6 c_7))
    refine pg_aldq hx hb hK hP i1.1 9 hM9 rfl hi_10 dX13_hidden_18 ?_
    obtain ⟨b11, eb_12, hb_13⟩ := hf9 _ (vp_lt hi_10)
    rw [eb_12]
    have hact : ACT z1 z2 b11 M := ⟨(k1 : Int32).toNatClampNeg, vp_lt (inb k1 z2 (by omega) c_6 c_7), by rw [show RFc (M z1) = f9 from by rw [hM9]; rfl]; exact eb_12⟩
    have hAT := GI.at hGI hact
    have hV : VW K L M M b11 (fx M b11) (ax M b11) := VW.rf b11 hGI.2.2.2
    obtain ⟨fs14, hM14, hn14, hl14⟩ := hW.open_12 hb_13
    obtain ⟨v15, hv15, hc15⟩ : ∃ v : Nat, fs14[11]? = some (.int (nI v) : Value) ∧ v ≤ 16 := hl14 11 (by decide)
    refine pg_getN (D := D) (ci := 12) (v := .int (nI v15)) (C := RX12) (T := TX12) (N := 51) hx hb hg inG12 hown hK hP hb_13.1 hM14 rfl 11 (by decide) (hN.use (Cond.fieldLinkNest RX13 142 RX12 "rules" "I" RX13) 20 rfl rfl) (fun _ h9 => h9) hv15 dX13_hidden_19 ?_
    refine lv_if_ne (tgt := 31) hx hb dX13_hidden_22 (by decide) (fun c_16 => ?_) (fun c_16 => ?_)
    · have hz := rfl (a := 0)
      have n_17 : ¬ (v15 = 0) := fun q => c_16 ((iEQ (a := v15) (b := 0) (by omega) (by omega)).mpr q)
      refine lv_iload_n hx hb dX13_hidden_31 rfl (lv_at hl 3 rfl) ?_
      have hPc : va_P D vwCl ([] ++ va_pl L M) H_2 := hP.part (cx := []) [] rfl
      have hDc : va_D A ([] ++ va_pl L M) := hD.part (cx := []) [] (by decide) rfl
      have hFc : ∀ q, va_A ([] ++ va_pl L M) H_2.size q → A q := pg_free hDc hS hA
      refine va_calli (va_runS (As := [.int k3]) (rest := []) ⟨hx, hb, hml, hown, hg⟩ (r_X13_isSum l D cy K L M H_2.size k3  hW ) (va_cwS 1 hg (gS wd_774 wd_775 wd_717 wd_776) rfl rfl rfl (by decide +kernel) ⟨(Nat.le_trans (Nat.le_of_ble_eq_true rfl) hRf), (Nat.le_trans (Nat.le_of_ble_eq_true rfl) hRl)⟩) ⟨PG.blind, fun U hU hW => ⟨rfl, PG.at hPc hK hDc hN hU hW⟩⟩ rfl rfl hl.1 rfl (lv_room (Nat.le_of_ble_eq_true rfl)) dX13_hidden_32 ⟨(Nat.le_trans (Nat.le_of_ble_eq_true rfl) hRc), (Nat.le_trans (Nat.le_of_ble_eq_true rfl) hRs)⟩) hS (fun q _ h => hFc q h) hFc (fun r_19 M_20 t H_18 locs ht hvm hw hB hz1 hk1 hS => ?_)
      have hp_21 := hw
      obtain ⟨hP1, hD1⟩ := hB
      rw [ht] at hP1
      obtain ⟨hP, hD⟩ := va_joinP (X := [(za, .inr (13, [.int 0, .ref z1, .int (nI z2), .int (nI z3), .int z4, .int z5, .ref z6, .ref z7, .ref z8, .ref z9, .int (nI z10), .ref z11, .ref z12, .ref z13, .ref z14, .ref z15, .int (nI z16), .ref z17, .int z18, .ref z19]))]) (cx := []) (wr := [(za, .inr (13, [.int 0, .ref z1, .int (nI z2), .int (nI z3), .int z4, .int z5, .ref z6, .ref z7, .ref z8, .ref z9, .int (nI z10), .ref z11, .ref z12, .ref z13, .ref z14, .ref z15, .int (nI z16), .ref z17, .int z18, .ref z19]))]) (rx := []) (pl := va_pl L M) (pl1 := va_pl L M) hP hD [] [0] rfl rfl (by decide) (by decide) hk1 hFc hP1 hD1
      have hP : va_P D vwCl ([(za, .inr (13, [.int 0, .ref z1, .int (nI z2), .int (nI z3), .int z4, .int z5, .ref z6, .ref z7, .ref z8, .ref z9, .int (nI z10), .ref z11, .ref z12, .ref z13, .ref z14, .ref z15, .int (nI z16), .ref z17, .int z18, .ref z19]))] ++ va_pl L M) H_18 := hP
      have hD : va_D A ([(za, .inr (13, [.int 0, .ref z1, .int (nI z2), .int (nI z3), .int z4, .int z5, .ref z6, .ref z7, .ref z8, .ref z9, .int (nI z10), .ref z11, .ref z12, .ref z13, .ref z14, .ref z15, .int (nI z16), .ref z17, .int z18, .ref z19]))] ++ va_pl L M) := hD
      rcases hp_21 with rfl | rfl
      · have hz := rfl (a := 0)
        refine lv_if_ne (tgt := 44) hx hb dX13_hidden_35 (by decide) (fun _ => ?_) (fun c_22 => absurd c_22 (by decide))
        refine lv_aload_n hx hb dX13_hidden_44 rfl (lv_at hl 0 rfl) ?_
        refine va_get (D := D) (ci := 13) (v := .ref z1) (C := RX13) (T := TX13) (N := 20) hx hb hg inG13 hown hK hP 0 rfl rfl 1 (by decide) (hg _ wd_739) (fun _ h9 => h9) rfl dX13_hidden_45 ?_
        refine lv_iload_n hx hb dX13_hidden_48 rfl (lv_at hl 1 rfl) ?_
        have hi_23 : vp_in k1 8 := (inbW (a := z2) (by omega) (inb k1 z2 (by omega) c_6 c_7))
        refine pg_aldq hx hb hK hP i1.1 9 hM9 rfl hi_23 dX13_hidden_49 ?_
        rw [show f9 (k1 : Int32).toNatClampNeg = some b11 from eb_12]
        refine lv_astore (lv' := [(4, .ref b11), (0, .ref za), (1, .int k1), (2, .int k2), (3, .int k3)]) hx hb dX13_hidden_50 hl (by decide) rfl (fun ls hl => ?_)
        refine lv_iload_n hx hb dX13_hidden_52 rfl (lv_at hl 3 rfl) ?_
        refine lv_aload hx hb dX13_hidden_53 (lv_at hl 0 rfl) ?_
        obtain ⟨v24, hv24, hc24⟩ : ∃ v : Nat, fs14[0]? = some (.int (nI v) : Value) ∧ v ≤ 999 := hl14 0 (by decide)
        refine pg_getN (D := D) (ci := 12) (v := .int (nI v24)) (C := RX12) (T := TX12) (N := 51) hx hb hg inG12 hown hK hP hb_13.1 hM14 rfl 0 (by decide) (hN.use (Cond.fieldLinkNest RX13 77 RX12 "first" "I" RX13) 9 rfl rfl) (fun _ h9 => h9) hv24 dX13_hidden_55 ?_
        refine lv_icmp_lt (tgt := 68) hx hb dX13_hidden_58 (by decide) (fun c_25 => ?_) (fun c_25 => ?_)
        · have hz := rfl (a := 0)
          have n_26 : ¬ 999 ≤ k2 := ltB (b := 999) (by decide) hc24 c_25
          refine lv_aload_n hx hb dX13_hidden_68 rfl (lv_at hl 1 rfl) ?_
          refine lv_iconst (v := 3) hx hb dX13_hidden_69 (by decide) ?_
          have hPc := hP.sub (ws' := [(za, .inr (13, [.int 0, .ref z1, .int (nI z2), .int (nI z3), .int z4, .int z5, .ref z6, .ref z7, .ref z8, .ref z9, .int (nI z10), .ref z11, .ref z12, .ref z13, .ref z14, .ref z15, .int (nI z16), .ref z17, .int z18, .ref z19]))]) [0] rfl
          have hDc := hD.sub (ws' := [(za, .inr (13, [.int 0, .ref z1, .int (nI z2), .int (nI z3), .int z4, .int z5, .ref z6, .ref z7, .ref z8, .ref z9, .int (nI z10), .ref z11, .ref z12, .ref z13, .ref z14, .ref z15, .int (nI z16), .ref z17, .int z18, .ref z19]))]) [0] (by decide) rfl
          have hKc := hK.sub (tys' := []) [] rfl
          have hFc := va_free (wc := [(za, .inr (13, [.int 0, .ref z1, .int (nI z2), .int (nI z3), .int z4, .int z5, .ref z6, .ref z7, .ref z8, .ref z9, .int (nI z10), .ref z11, .ref z12, .ref z13, .ref z14, .ref z15, .int (nI z16), .ref z17, .int z18, .ref z19]))]) hD hS hA [0] rfl
          refine va_calli (va_runV (As := [.int 3]) (rest := []) ⟨hx, hb, hml, hown, hg⟩ (m_refused l D H_18.size za 0 z1 (nI z2) (nI z3) z4 z5 z6 z7 z8 z9 (nI z10) z11 z12 z13 z14 z15 (nI z16) z17 z18 z19 3) (cwV 1 hg (gV wd_725 wd_726 wd_727 wd_717 wd_728) rfl rfl rfl (by decide +kernel) ⟨(Nat.le_trans (Nat.le_of_ble_eq_true rfl) hRf), (Nat.le_trans (Nat.le_of_ble_eq_true rfl) hRl)⟩) ⟨Pr.blind, va_recv hK hP (ci := 13) (q0 := 0) rfl rfl, fun U hU hW => ⟨rfl, Pr.at hPc hKc hDc hN hU hW⟩⟩ rfl rfl hl.1 rfl (lv_room (Nat.le_of_ble_eq_true rfl)) dX13_hidden_70 ⟨(Nat.le_trans (Nat.le_of_ble_eq_true rfl) hRc), (Nat.le_trans (Nat.le_of_ble_eq_true rfl) hRs)⟩) hS (fun q _ h => hFc q h) hFc (fun r_28 M_29 t H_27 locs ht hvm hw hB hz1 hk1 hS => ?_)
          have hp_30 := hw
          obtain ⟨hP1, hK1, hD1⟩ := hB
          rw [ht] at hP1
          obtain ⟨hP, hD⟩ := va_joinQ (X := [(za, .inr (13, [.int 0, .ref z1, .int (nI z2), .int (nI z3), .int z4, .int z5, .ref z6, .ref z7, .ref z8, .ref z9, .int (nI z10), .ref z11, .ref z12, .ref z13, .ref z14, .ref z15, .int (nI z16), .ref z17, .int z18, .ref z19]))]) (cx := [(za, .inr (13, [.int 0, .ref z1, .int (nI z2), .int (nI z3), .int z4, .int z5, .ref z6, .ref z7, .ref z8, .ref z9, .int (nI z10), .ref z11, .ref z12, .ref z13, .ref z14, .ref z15, .int (nI z16), .ref z17, .int z18, .ref z19]))]) (wr := []) (w1 := [(za, .inr (13, [.int 0, .ref z1, .int (nI z2), .int (nI z3), .int 3, .int (-1), .ref z6, .ref z7, .ref z8, .ref z9, .int (nI z10), .ref z11, .ref z12, .ref z13, .ref z14, .ref z15, .int (nI z16), .ref z17, .int z18, .ref z19]))]) (pl := va_pl L M) hP hD [0] [] rfl rfl (by decide) (by decide) hk1 hFc hP1 hD1
          have hP : va_P D vwCl ([(za, .inr (13, [.int 0, .ref z1, .int (nI z2), .int (nI z3), .int 3, .int (-1), .ref z6, .ref z7, .ref z8, .ref z9, .int (nI z10), .ref z11, .ref z12, .ref z13, .ref z14, .ref z15, .int (nI z16), .ref z17, .int z18, .ref z19]))] ++ va_pl L M) H_27 := hP
          have hD : va_D A ([(za, .inr (13, [.int 0, .ref z1, .int (nI z2), .int (nI z3), .int 3, .int (-1), .ref z6, .ref z7, .ref z8, .ref z9, .int (nI z10), .ref z11, .ref z12, .ref z13, .ref z14, .ref z15, .int (nI z16), .ref z17, .int z18, .ref z19]))] ++ va_pl L M) := hD
          have hq := Eq.symm hp_30
          subst hq
          rw [hQ]
          exact W.iret (v := (-1)) hx hb hr (fun t ht hW9 => ⟨⟨(-1), M, rfl, ⟨hW, hF, hGI, trivial⟩, ⟨3, (-1), z16, (by omega), by rw [ht]; exact hP, hD⟩⟩, hS.F ht⟩) hS.2.2 dX13_hidden_73
        · have hz := rfl (a := 0)
          refine lv_iload_n hx hb dX13_hidden_61 rfl (lv_at hl 3 rfl) ?_
          refine lv_sipush (v := 1000) hx hb dX13_hidden_62 (by decide) ?_
          refine lv_icmp_lt (tgt := 74) hx hb dX13_hidden_65 (by decide) (fun c_31 => ?_) (fun c_31 => ?_)
          · have hz := rfl (a := 0)
            refine lv_aload_n hx hb dX13_hidden_74 rfl (lv_at hl 1 rfl) ?_
            refine lv_aload hx hb dX13_hidden_75 (lv_at hl 0 rfl) ?_
            refine lv_iload_n hx hb dX13_hidden_77 rfl (lv_at hl 3 rfl) ?_
            have hPc : va_P D vwCl ([(za, .inr (13, [.int 0, .ref z1, .int (nI z2), .int (nI z3), .int z4, .int z5, .ref z6, .ref z7, .ref z8, .ref z9, .int (nI z10), .ref z11, .ref z12, .ref z13, .ref z14, .ref z15, .int (nI z16), .ref z17, .int z18, .ref z19]))] ++ va_pl L M) H_18 := hP
            have hDc : va_D A ([(za, .inr (13, [.int 0, .ref z1, .int (nI z2), .int (nI z3), .int z4, .int z5, .ref z6, .ref z7, .ref z8, .ref z9, .int (nI z10), .ref z11, .ref z12, .ref z13, .ref z14, .ref z15, .int (nI z16), .ref z17, .int z18, .ref z19]))] ++ va_pl L M) := hD
            have hFc : ∀ q, va_A ([(za, .inr (13, [.int 0, .ref z1, .int (nI z2), .int (nI z3), .int z4, .int z5, .ref z6, .ref z7, .ref z8, .ref z9, .int (nI z10), .ref z11, .ref z12, .ref z13, .ref z14, .ref z15, .int (nI z16), .ref z17, .int z18, .ref z19]))] ++ va_pl L M) H_18.size q → A q := pg_free hDc hS hA
            refine va_callv (va_runV (As := [.ref b11, .int k2]) (rest := []) ⟨hx, hb, hml, hown, hg⟩ (r_X13_present l D cy K L M H_18.size za 0 z1 z2 z3 z4 z5 z6 z7 z8 z9 z10 z11 z12 z13 z14 z15 z16 z17 z18 z19 b11 k2  hW i1 b2 b3 i6 i7 i8 i9 b10 i11 i12 i13 i14 i15 b16 i17 i19 hb_13) (cwV 2 hg (gV wd_811 wd_812 wd_813 wd_717 wd_814) rfl rfl rfl (by decide +kernel) ⟨(Nat.le_trans (Nat.le_of_ble_eq_true rfl) hRf), (Nat.le_trans (Nat.le_of_ble_eq_true rfl) hRl)⟩) ⟨PG.blind, va_recv hK hP (ci := 13) (q0 := 0) rfl rfl, fun U hU hW => ⟨rfl, PG.at hPc hK hDc hN hU hW⟩⟩ rfl rfl hl.1 rfl (lv_room (Nat.le_of_ble_eq_true rfl)) dX13_hidden_78 ⟨(Nat.le_trans (Nat.le_of_ble_eq_true rfl) hRc), (Nat.le_trans (Nat.le_of_ble_eq_true rfl) hRs)⟩) hS (fun q _ h => hFc q h) hFc (fun M_34 t H_32 locs ht hvm hw hB hz1 hk1 hS => ?_)
            have hWb := hW
            obtain ⟨hW, hF2, hp_35⟩ := hw
            obtain ⟨w16_36, hg_37, hP1, hD1⟩ := hB
            rw [ht] at hP1
            have hP : va_P D vwCl ([(za, .inr (13, [.int 0, .ref z1, .int (nI z2), .int (nI z3), .int z4, .int z5, .ref z6, .ref z7, .ref z8, .ref z9, .int (nI z10), .ref z11, .ref z12, .ref z13, .ref z14, .ref z15, .int (nI w16_36), .ref z17, .int z18, .ref z19]))] ++ va_pl L M_34) H_32 := hP1
            have hD : va_D A ([(za, .inr (13, [.int 0, .ref z1, .int (nI z2), .int (nI z3), .int z4, .int z5, .ref z6, .ref z7, .ref z8, .ref z9, .int (nI z10), .ref z11, .ref z12, .ref z13, .ref z14, .ref z15, .int (nI w16_36), .ref z17, .int z18, .ref z19]))] ++ va_pl L M_34) := hD1.mono hFc
            have hM_38 : M_34 z1 = .inl (cy 23, 8, .inr (.inr (.inr (.inr (f9))))) := (hF2.at i1 (by decide)).trans hM9
            have hM_39 : M_34 b11 = .inr (12, fs14) := (hF2.at hb_13 (by decide)).trans hM14
            have hF : fr K L [14, 15, 32] M M_34 := hF.tr hF2 (by decide)
            have hV : VW K L M M_34 b11 (fx M b11) (ax M b11) := hV.cal hWb hW hF2 ((fG.rf (js := [])).frR hF2 (by decide)) (by decide) (by decide) hb_13
            refine lv_aload_n hx hb dX13_hidden_81 rfl (lv_at hl 1 rfl) ?_
            refine lv_aload hx hb dX13_hidden_82 (lv_at hl 0 rfl) ?_
            refine lv_aload hx hb dX13_hidden_84 (lv_at hl 0 rfl) ?_
            refine lv_iload_n hx hb dX13_hidden_86 rfl (lv_at hl 3 rfl) ?_
            have hPc : va_P D vwCl ([] ++ va_pl L M_34) H_32 := hP.part (cx := []) [] rfl
            have hDc : va_D A ([] ++ va_pl L M_34) := hD.part (cx := []) [] (by decide) rfl
            have hFc : ∀ q, va_A ([] ++ va_pl L M_34) H_32.size q → A q := pg_free hDc hS hA
            have hx0 : (fx M b11 0) = ((v24 : Nat) : Int) := (congrFun hV.2.1 0).symm.trans ((fx_of hM_39 rfl hv24).trans (nI_toInt (by omega)))
            have hx11 : (fx M b11 11) = ((v15 : Nat) : Int) := (congrFun hV.2.1 11).symm.trans ((fx_of hM_39 rfl hv15).trans (nI_toInt (by omega)))
            obtain ⟨v40, hv40, hc40⟩ : ∃ v : Nat, fs14[34]? = some (.ref v : Value) ∧ isk K L v 43 16 := hl14 34 (by decide)
            obtain ⟨f41, hM41⟩ := hW.open_43 hc40
            have hy34 : (ax M b11 34) = f41 := (congrFun hV.2.2.1 34).symm.trans (ax_of hM_39 (by decide) hv40 hM41)
            refine va_calli (va_runV (As := [.int k2]) (rest := [.ref b11, .ref za]) ⟨hx, hb, hml, hown, hg⟩ (r_ruleOnP l D cy K L M_34 H_32.size b11 k2  hW hb_13 ⟨_, _, _, _, hM_39, hv15, by omega, by omega, hv40, hc40, hM41, rldp hy34 (hAT.2.2.2.1.1 (by omega)) (by rw [hx0]; exact geI c_25 (by omega))⟩) (cwV 1 hg (gV wd_815 wd_816 wd_817 wd_737 wd_818) rfl rfl rfl (by decide +kernel) ⟨(Nat.le_trans (Nat.le_of_ble_eq_true rfl) hRf), (Nat.le_trans (Nat.le_of_ble_eq_true rfl) hRl)⟩) ⟨PG.blind, pg_recv hK hP hb_13.1 hM_39 rfl, fun U hU hW => ⟨rfl, PG.at hPc hK hDc hN hU hW⟩⟩ rfl rfl hl.1 rfl (lv_room (Nat.le_of_ble_eq_true rfl)) dX13_hidden_87 ⟨(Nat.le_trans (Nat.le_of_ble_eq_true rfl) hRc), (Nat.le_trans (Nat.le_of_ble_eq_true rfl) hRs)⟩) hS (fun q _ h => hFc q h) hFc (fun r_43 M_44 t H_42 locs ht hvm hw hB hz1 hk1 hS => ?_)
            have hp_45 := hw
            obtain ⟨hP1, hD1⟩ := hB
            rw [ht] at hP1
            obtain ⟨hP, hD⟩ := va_joinP (X := [(za, .inr (13, [.int 0, .ref z1, .int (nI z2), .int (nI z3), .int z4, .int z5, .ref z6, .ref z7, .ref z8, .ref z9, .int (nI z10), .ref z11, .ref z12, .ref z13, .ref z14, .ref z15, .int (nI w16_36), .ref z17, .int z18, .ref z19]))]) (cx := []) (wr := [(za, .inr (13, [.int 0, .ref z1, .int (nI z2), .int (nI z3), .int z4, .int z5, .ref z6, .ref z7, .ref z8, .ref z9, .int (nI z10), .ref z11, .ref z12, .ref z13, .ref z14, .ref z15, .int (nI w16_36), .ref z17, .int z18, .ref z19]))]) (rx := []) (pl := va_pl L M_34) (pl1 := va_pl L M_34) hP hD [] [0] rfl rfl (by decide) (by decide) hk1 hFc hP1 hD1
            have hP : va_P D vwCl ([(za, .inr (13, [.int 0, .ref z1, .int (nI z2), .int (nI z3), .int z4, .int z5, .ref z6, .ref z7, .ref z8, .ref z9, .int (nI z10), .ref z11, .ref z12, .ref z13, .ref z14, .ref z15, .int (nI w16_36), .ref z17, .int z18, .ref z19]))] ++ va_pl L M_34) H_42 := hP
            have hD : va_D A ([(za, .inr (13, [.int 0, .ref z1, .int (nI z2), .int (nI z3), .int z4, .int z5, .ref z6, .ref z7, .ref z8, .ref z9, .int (nI z10), .ref z11, .ref z12, .ref z13, .ref z14, .ref z15, .int (nI w16_36), .ref z17, .int z18, .ref z19]))] ++ va_pl L M_34) := hD
            obtain ⟨j_46, rfl, c_47⟩ := hp_45
            refine lv_iconst (v := 2) hx hb dX13_hidden_90 (by decide) ?_
            have hPc : va_P D vwCl ([(za, .inr (13, [.int 0, .ref z1, .int (nI z2), .int (nI z3), .int z4, .int z5, .ref z6, .ref z7, .ref z8, .ref z9, .int (nI z10), .ref z11, .ref z12, .ref z13, .ref z14, .ref z15, .int (nI w16_36), .ref z17, .int z18, .ref z19]))] ++ va_pl L M_34) H_42 := hP
            have hDc : va_D A ([(za, .inr (13, [.int 0, .ref z1, .int (nI z2), .int (nI z3), .int z4, .int z5, .ref z6, .ref z7, .ref z8, .ref z9, .int (nI z10), .ref z11, .ref z12, .ref z13, .ref z14, .ref z15, .int (nI w16_36), .ref z17, .int z18, .ref z19]))] ++ va_pl L M_34) := hD
            have hFc : ∀ q, va_A ([(za, .inr (13, [.int 0, .ref z1, .int (nI z2), .int (nI z3), .int z4, .int z5, .ref z6, .ref z7, .ref z8, .ref z9, .int (nI z10), .ref z11, .ref z12, .ref z13, .ref z14, .ref z15, .int (nI w16_36), .ref z17, .int z18, .ref z19]))] ++ va_pl L M_34) H_42.size q → A q := pg_free hDc hS hA
            refine va_callv (va_runV (As := [.ref b11, .int (nI j_46), .int 2]) (rest := []) ⟨hx, hb, hml, hown, hg⟩ (r_X13_weights l D cy K L M_34 H_42.size za 0 z1 z2 z3 z4 z5 z6 z7 z8 z9 z10 z11 z12 z13 z14 z15 w16_36 z17 z18 z19 b11 j_46 2  hW i1 b2 b3 i6 i7 i8 i9 b10 i11 i12 i13 i14 i15 (by omega) i17 i19 hb_13 c_47 (by omega)) (cwV 3 hg (gV wd_795 wd_796 wd_797 wd_717 wd_798) rfl rfl rfl (by decide +kernel) ⟨(Nat.le_trans (Nat.le_of_ble_eq_true rfl) hRf), (Nat.le_trans (Nat.le_of_ble_eq_true rfl) hRl)⟩) ⟨PG.blind, va_recv hK hP (ci := 13) (q0 := 0) rfl rfl, fun U hU hW => ⟨rfl, PG.at hPc hK hDc hN hU hW⟩⟩ rfl rfl hl.1 rfl (lv_room (Nat.le_of_ble_eq_true rfl)) dX13_hidden_91 ⟨(Nat.le_trans (Nat.le_of_ble_eq_true rfl) hRc), (Nat.le_trans (Nat.le_of_ble_eq_true rfl) hRs)⟩) hS (fun q _ h => hFc q h) hFc (fun M_50 t H_48 locs ht hvm hw hB hz1 hk1 hS => ?_)
            have hWb := hW
            obtain ⟨hW, hF2, hp_51⟩ := hw
            obtain ⟨hP1, hD1⟩ := hB
            rw [ht] at hP1
            have hP : va_P D vwCl ([(za, .inr (13, [.int 0, .ref z1, .int (nI z2), .int (nI z3), .int z4, .int z5, .ref z6, .ref z7, .ref z8, .ref z9, .int (nI z10), .ref z11, .ref z12, .ref z13, .ref z14, .ref z15, .int (nI w16_36), .ref z17, .int z18, .ref z19]))] ++ va_pl L M_50) H_48 := hP1
            have hD : va_D A ([(za, .inr (13, [.int 0, .ref z1, .int (nI z2), .int (nI z3), .int z4, .int z5, .ref z6, .ref z7, .ref z8, .ref z9, .int (nI z10), .ref z11, .ref z12, .ref z13, .ref z14, .ref z15, .int (nI w16_36), .ref z17, .int z18, .ref z19]))] ++ va_pl L M_50) := hD1.mono hFc
            have hM_52 : M_50 z1 = .inl (cy 23, 8, .inr (.inr (.inr (.inr (f9))))) := (hF2.at i1 (by decide)).trans hM_38
            have hM_53 : M_50 b11 = .inr (12, fs14) := (hF2.at hb_13 (by decide)).trans hM_39
            have hM_54 : M_50 v40 = .inl (cy 14, 16, .inl (f41)) := (hF2.at hc40 (by decide)).trans hM41
            have hF : fr K L [14, 15, 32] M M_50 := hF.tr hF2 (by decide)
            have hV : VW K L M M_50 b11 (fx M b11) (ax M b11) := hV.cal hWb hW hF2 ((fG.rf (js := [])).frR hF2 (by decide)) (by decide) (by decide) hb_13
            refine lv_aload_n hx hb dX13_hidden_94 rfl (lv_at hl 1 rfl) ?_
            refine lv_iload_n hx hb dX13_hidden_95 rfl (lv_at hl 4 rfl) ?_
            refine lv_i2l hx hb dX13_hidden_96 rfl ?_
            refine lv_topl (fun f_55 ef_55 => ?_)
            refine lv_aload_n hx hb dX13_hidden_97 rfl (lv_at hl 1 rfl) ?_
            refine va_get (D := D) (ci := 13) (v := .ref z13) (C := RX13) (T := TX13) (N := 20) hx hb hg inG13 hown hK hP 0 rfl rfl 13 (by decide) (hg _ wd_789) (fun _ h9 => h9) rfl dX13_hidden_98 ?_
            refine lv_iconst (v := 0) hx hb dX13_hidden_101 (by decide) ?_
            refine lv_aload hx hb dX13_hidden_102 (lv_at hl 0 rfl) ?_
            have hPc : va_P D vwCl ([(za, .inr (13, [.int 0, .ref z1, .int (nI z2), .int (nI z3), .int z4, .int z5, .ref z6, .ref z7, .ref z8, .ref z9, .int (nI z10), .ref z11, .ref z12, .ref z13, .ref z14, .ref z15, .int (nI w16_36), .ref z17, .int z18, .ref z19]))] ++ va_pl L M_50) H_48 := hP
            have hDc : va_D A ([(za, .inr (13, [.int 0, .ref z1, .int (nI z2), .int (nI z3), .int z4, .int z5, .ref z6, .ref z7, .ref z8, .ref z9, .int (nI z10), .ref z11, .ref z12, .ref z13, .ref z14, .ref z15, .int (nI w16_36), .ref z17, .int z18, .ref z19]))] ++ va_pl L M_50) := hD
            have hFc : ∀ q, va_A ([(za, .inr (13, [.int 0, .ref z1, .int (nI z2), .int (nI z3), .int z4, .int z5, .ref z6, .ref z7, .ref z8, .ref z9, .int (nI z10), .ref z11, .ref z12, .ref z13, .ref z14, .ref z15, .int (nI w16_36), .ref z17, .int z18, .ref z19]))] ++ va_pl L M_50) H_48.size q → A q := pg_free hDc hS hA
            refine va_calli (va_runV (As := [.long f_55, .ref z13, .int 0, .ref b11]) (rest := []) ⟨hx, hb, hml, hown, hg⟩ (r_X13_cut l D cy K L M_50 H_48.size za 0 z1 z2 z3 z4 z5 z6 z7 z8 z9 z10 z11 z12 z13 z14 z15 w16_36 z17 z18 z19 f_55 z13 0 b11  hW i1 b2 b3 i6 i7 i8 i9 b10 i11 i12 i13 i14 i15 (by omega) i17 i19 i13 hb_13) (cwV 4 hg (gV wd_790 wd_791 wd_792 wd_717 wd_793) rfl rfl rfl (by decide +kernel) ⟨(Nat.le_trans (Nat.le_of_ble_eq_true rfl) hRf), (Nat.le_trans (Nat.le_of_ble_eq_true rfl) hRl)⟩) ⟨PG.blind, va_recv hK hP (ci := 13) (q0 := 0) rfl rfl, fun U hU hW => ⟨rfl, PG.at hPc hK hDc hN hU hW⟩⟩ rfl rfl hl.1 rfl (lv_room (Nat.le_of_ble_eq_true rfl)) dX13_hidden_104 ⟨(Nat.le_trans (Nat.le_of_ble_eq_true rfl) hRc), (Nat.le_trans (Nat.le_of_ble_eq_true rfl) hRs)⟩) hS (fun q _ h => hFc q h) hFc (fun r_57 M_58 t H_56 locs ht hvm hw hB hz1 hk1 hS => ?_)
            have hWb := hW
            obtain ⟨hW, hF2, hp_59⟩ := hw
            obtain ⟨hP1, hD1⟩ := hB
            rw [ht] at hP1
            have hP : va_P D vwCl ([(za, .inr (13, [.int 0, .ref z1, .int (nI z2), .int (nI z3), .int z4, .int z5, .ref z6, .ref z7, .ref z8, .ref z9, .int (nI z10), .ref z11, .ref z12, .ref z13, .ref z14, .ref z15, .int (nI w16_36), .ref z17, .int z18, .ref z19]))] ++ va_pl L M_58) H_56 := hP1
            have hD : va_D A ([(za, .inr (13, [.int 0, .ref z1, .int (nI z2), .int (nI z3), .int z4, .int z5, .ref z6, .ref z7, .ref z8, .ref z9, .int (nI z10), .ref z11, .ref z12, .ref z13, .ref z14, .ref z15, .int (nI w16_36), .ref z17, .int z18, .ref z19]))] ++ va_pl L M_58) := hD1.mono hFc
            have hM_60 : M_58 z1 = .inl (cy 23, 8, .inr (.inr (.inr (.inr (f9))))) := (hF2.at i1 (by decide)).trans hM_52
            have hM_61 : M_58 b11 = .inr (12, fs14) := (hF2.at hb_13 (by decide)).trans hM_53
            have hM_62 : M_58 v40 = .inl (cy 14, 16, .inl (f41)) := (hF2.at hc40 (by decide)).trans hM_54
            have hF : fr K L [14, 15, 32] M M_58 := hF.tr hF2 (by decide)
            have hV : VW K L M M_58 b11 (fx M b11) (ax M b11) := hV.cal hWb hW hF2 ((fG.rf (js := [])).frR hF2 (by decide)) (by decide) (by decide) hb_13
            rcases hp_59 with rfl | rfl
            · have hz := rfl (a := 0)
              refine lv_if_ne (tgt := 116) hx hb dX13_hidden_107 (by decide) (fun _ => ?_) (fun c_63 => absurd c_63 (by decide))
              refine lv_iconst (v := 0) hx hb dX13_hidden_116 (by decide) ?_
              refine lv_istore (lv' := [(5, .int 0), (4, .ref b11), (0, .ref za), (1, .int k1), (2, .int k2), (3, .int k3)]) hx hb dX13_hidden_117 hl (by decide) rfl (fun ls hl => ?_)
              have key_64 : ∀ (fu_66 : Nat) (v5w67 : Nat) (M_69 : Hp) (H_70 : Heap) (locs : List Loc) (ls : Array Slot), 24 - v5w67 < fu_66 → v5w67 ≤ 24 → WOM cy K L M_69 → fr K L [14, 15, 32] M M_69 → VW K L M M_69 b11 (fx M b11) (ax M b11) → va_P D vwCl ([(za, .inr (13, [.int 0, .ref z1, .int (nI z2), .int (nI z3), .int z4, .int z5, .ref z6, .ref z7, .ref z8, .ref z9, .int (nI z10), .ref z11, .ref z12, .ref z13, .ref z14, .ref z15, .int (nI w16_36), .ref z17, .int z18, .ref z19]))] ++ va_pl L M_69) H_70 → va_D A ([(za, .inr (13, [.int 0, .ref z1, .int (nI z2), .int (nI z3), .int z4, .int z5, .ref z6, .ref z7, .ref z8, .ref z9, .int (nI z10), .ref z11, .ref z12, .ref z13, .ref z14, .ref z15, .int (nI w16_36), .ref z17, .int z18, .ref z19]))] ++ va_pl L M_69) → va_S A s.heap H_70 locs → lv_has ls 6 [(5, .int (nI v5w67)), (4, .ref b11), (0, .ref za), (1, .int k1), (2, .int k2), (3, .int k3)] → W p l e R s m ([.ref za, .int k1, .int k2, .int k3] : List Value).toArray below meth c H_70 locs 0 0 Q (F0 m 119 ls []) := by
                intro fu_66
                induction fu_66 with
                | zero => intro v5w67 M_69 H_70 locs ls h; exact absurd h (Nat.not_lt_zero _)
                | succ fu_66 ih_65 =>
                  intro v5w67 M_69 H_70 locs ls hfu hx_68 hW hF hV hP hD hS hl
                  refine lv_iload hx hb dX13_hidden_119 (lv_at hl 0 rfl) ?_
                  refine lv_aload_n hx hb dX13_hidden_121 rfl (lv_at hl 2 rfl) ?_
                  refine va_get (D := D) (ci := 13) (v := .int (nI w16_36)) (C := RX13) (T := TX13) (N := 20) hx hb hg inG13 hown hK hP 0 rfl rfl 16 (by decide) (hg _ wd_769) (fun _ h9 => h9) rfl dX13_hidden_122 ?_
                  refine lv_icmp_ge (tgt := 157) hx hb dX13_hidden_125 (by decide) (fun c_71 => ?_) (fun c_71 => ?_)
                  · have hz := rfl (a := 0)
                    have n_72 : w16_36 ≤ v5w67 := (iLE (a := w16_36) (b := v5w67) (by omega) (by omega)).mp c_71
                    refine lv_aload_n hx hb dX13_hidden_157 rfl (lv_at hl 2 rfl) ?_
                    refine lv_iload_n hx hb dX13_hidden_158 rfl (lv_at hl 5 rfl) ?_
                    have hPc := hP.sub (ws' := [(za, .inr (13, [.int 0, .ref z1, .int (nI z2), .int (nI z3), .int z4, .int z5, .ref z6, .ref z7, .ref z8, .ref z9, .int (nI z10), .ref z11, .ref z12, .ref z13, .ref z14, .ref z15, .int (nI w16_36), .ref z17, .int z18, .ref z19]))]) [0] rfl
                    have hDc := hD.sub (ws' := [(za, .inr (13, [.int 0, .ref z1, .int (nI z2), .int (nI z3), .int z4, .int z5, .ref z6, .ref z7, .ref z8, .ref z9, .int (nI z10), .ref z11, .ref z12, .ref z13, .ref z14, .ref z15, .int (nI w16_36), .ref z17, .int z18, .ref z19]))]) [0] (by decide) rfl
                    have hKc := hK.sub (tys' := []) [] rfl
                    have hFc := va_free (wc := [(za, .inr (13, [.int 0, .ref z1, .int (nI z2), .int (nI z3), .int z4, .int z5, .ref z6, .ref z7, .ref z8, .ref z9, .int (nI z10), .ref z11, .ref z12, .ref z13, .ref z14, .ref z15, .int (nI w16_36), .ref z17, .int z18, .ref z19]))]) hD hS hA [0] rfl
                    refine va_calli (va_runV (As := [.int k3]) (rest := []) ⟨hx, hb, hml, hown, hg⟩ (m_done l D H_70.size za 0 z1 (nI z2) (nI z3) z4 z5 z6 z7 z8 z9 (nI z10) z11 z12 z13 z14 z15 (nI w16_36) z17 z18 z19 k3) (cwV 1 hg (gV wd_730 wd_731 wd_732 wd_717 wd_733) rfl rfl rfl (by decide +kernel) ⟨(Nat.le_trans (Nat.le_of_ble_eq_true rfl) hRf), (Nat.le_trans (Nat.le_of_ble_eq_true rfl) hRl)⟩) ⟨Pr.blind, va_recv hK hP (ci := 13) (q0 := 0) rfl rfl, fun U hU hW => ⟨rfl, Pr.at hPc hKc hDc hN hU hW⟩⟩ rfl rfl hl.1 rfl (lv_room (Nat.le_of_ble_eq_true rfl)) dX13_hidden_159 ⟨(Nat.le_trans (Nat.le_of_ble_eq_true rfl) hRc), (Nat.le_trans (Nat.le_of_ble_eq_true rfl) hRs)⟩) hS (fun q _ h => hFc q h) hFc (fun r_74 M_75 t H_73 locs ht hvm hw hB hz1 hk1 hS => ?_)
                    have hp_76 := hw
                    obtain ⟨hP1, hK1, hD1⟩ := hB
                    rw [ht] at hP1
                    obtain ⟨hP, hD⟩ := va_joinQ (X := [(za, .inr (13, [.int 0, .ref z1, .int (nI z2), .int (nI z3), .int z4, .int z5, .ref z6, .ref z7, .ref z8, .ref z9, .int (nI z10), .ref z11, .ref z12, .ref z13, .ref z14, .ref z15, .int (nI w16_36), .ref z17, .int z18, .ref z19]))]) (cx := [(za, .inr (13, [.int 0, .ref z1, .int (nI z2), .int (nI z3), .int z4, .int z5, .ref z6, .ref z7, .ref z8, .ref z9, .int (nI z10), .ref z11, .ref z12, .ref z13, .ref z14, .ref z15, .int (nI w16_36), .ref z17, .int z18, .ref z19]))]) (wr := []) (w1 := [(za, .inr (13, [.int 0, .ref z1, .int (nI z2), .int (nI z3), .int 0, .int (-1), .ref z6, .ref z7, .ref z8, .ref z9, .int (nI z10), .ref z11, .ref z12, .ref z13, .ref z14, .ref z15, .int (nI w16_36), .ref z17, .int z18, .ref z19]))]) (pl := va_pl L M_69) hP hD [0] [] rfl rfl (by decide) (by decide) hk1 hFc hP1 hD1
                    have hP : va_P D vwCl ([(za, .inr (13, [.int 0, .ref z1, .int (nI z2), .int (nI z3), .int 0, .int (-1), .ref z6, .ref z7, .ref z8, .ref z9, .int (nI z10), .ref z11, .ref z12, .ref z13, .ref z14, .ref z15, .int (nI w16_36), .ref z17, .int z18, .ref z19]))] ++ va_pl L M_69) H_73 := hP
                    have hD : va_D A ([(za, .inr (13, [.int 0, .ref z1, .int (nI z2), .int (nI z3), .int 0, .int (-1), .ref z6, .ref z7, .ref z8, .ref z9, .int (nI z10), .ref z11, .ref z12, .ref z13, .ref z14, .ref z15, .int (nI w16_36), .ref z17, .int z18, .ref z19]))] ++ va_pl L M_69) := hD
                    have hq := Eq.symm hp_76
                    subst hq
                    have hA9 : HA (ax M b11 2) (ax M b11 3) := hAT.1
                    have hB9 : HB (fx M b11 16) (fx M b11 14) (ax M b11 3) (ax M b11 43) := hAT.2.1
                    have hC9 : HC (fx M b11 10) (ax M b11 22) (ax M b11 23) := hAT.2.2.1
                    have hD9 : HD (fx M b11 0) (fx M b11 11) (fx M b11 15) (ax M b11 34) (ax M b11 41) := hAT.2.2.2.1
                    have hE9 : HE (fx M b11 0) (fx M b11 1) (fx M b11 12) (fx M b11 13) (ax M b11 37) := hAT.2.2.2.2
                    have hH9 : HI (fx M b11) (ax M b11) := ⟨hA9, hB9, hC9, hD9, hE9⟩
                    have hGI9 : GI K L z1 z2 M_69 := GI.fin hW0 i1 b2 hGI hact hV (hF.at i1 (by decide)) hH9
                    rw [hQ]
                    exact W.iret (v := k3) hx hb hr (fun t ht hW9 => ⟨⟨k3, M_69, rfl, ⟨hW, hF, hGI9, trivial⟩, ⟨0, (-1), w16_36, (by omega), by rw [ht]; exact hP, hD⟩⟩, hS.F ht⟩) hS.2.2 dX13_hidden_162
                  · have hz := rfl (a := 0)
                    have n_77 : ¬ (w16_36 ≤ v5w67) := fun q => c_71 ((iLE (a := w16_36) (b := v5w67) (by omega) (by omega)).mpr q)
                    refine lv_aload hx hb dX13_hidden_128 (lv_at hl 1 rfl) ?_
                    obtain ⟨fs78, hM78, hn78, hl78⟩ := hW.open_12 hb_13
                    obtain ⟨v79, hv79, hc79⟩ : ∃ v : Nat, fs78[28]? = some (.ref v : Value) ∧ isk K L v 15 24 := hl78 28 (by decide)
                    refine pg_getN (D := D) (ci := 12) (v := .ref v79) (C := RX12) (T := TX12) (N := 51) hx hb hg inG12 hown hK hP hb_13.1 hM78 rfl 28 (by decide) (hN.use (Cond.fieldLinkNest RX13 370 RX12 "hidden" "[J" RX13) 37 rfl rfl) (fun _ h9 => h9) hv79 dX13_hidden_130 ?_
                    refine lv_aload_n hx hb dX13_hidden_133 rfl (lv_at hl 2 rfl) ?_
                    refine va_get (D := D) (ci := 13) (v := .ref z11) (C := RX13) (T := TX13) (N := 20) hx hb hg inG13 hown hK hP 0 rfl rfl 11 (by decide) (hg _ wd_764) (fun _ h9 => h9) rfl dX13_hidden_134 ?_
                    refine lv_iload hx hb dX13_hidden_137 (lv_at hl 0 rfl) ?_
                    obtain ⟨f80, hM80, hf80⟩ := hW.open_32 i11
                    have hi_81 : vp_in (nI v5w67) 24 := (inbN v5w67 24 (by omega) (by omega))
                    refine pg_iald hx hb hK hP i11.1 0 hM80 rfl hi_81 dX13_hidden_139 ?_
                    have hp_82 := hf80 _ (vp_lt hi_81)
                    obtain ⟨c_83, hc_84, ec_85⟩ := hp_82
                    rw [ec_85]
                    refine lv_dup2_11 hx hb dX13_hidden_140 rfl rfl ?_
                    obtain ⟨f86, hM86⟩ := hW.open_15 hc79
                    refine pg_lald hx hb hK hP hc79.1 1 hM86 rfl (inbN c_83 24 (by omega) (by omega)) dX13_hidden_141 ?_
                    refine lv_topl (fun f_87 ef_87 => ?_)
                    refine lv_aload_n hx hb dX13_hidden_142 rfl (lv_at hl 2 rfl) ?_
                    refine va_get (D := D) (ci := 13) (v := .ref z13) (C := RX13) (T := TX13) (N := 20) hx hb hg inG13 hown hK hP 0 rfl rfl 13 (by decide) (hg _ wd_789) (fun _ h9 => h9) rfl dX13_hidden_143 ?_
                    refine lv_iload hx hb dX13_hidden_146 (lv_at hl 0 rfl) ?_
                    obtain ⟨f88, hM88⟩ := hW.open_15 i13
                    refine pg_lald hx hb hK hP i13.1 1 hM88 rfl (inbN v5w67 24 (by omega) (by omega)) dX13_hidden_148 ?_
                    refine lv_topl (fun f_89 ef_89 => ?_)
                    refine lv_ladd hx hb dX13_hidden_149 ?_
                    refine lv_topl (fun f_90 ef_90 => ?_)
                    refine pg_last hx hb hK hP hD hS hc79.1 1 hM86 rfl (inbN c_83 24 (by omega) (by omega)) dX13_hidden_150 (fun H_91 locs hP hD hS => ?_)
                    obtain ⟨M_92, eM_92⟩ : ∃ M1 : Hp, M1 = va_up M_69 v79 (.inl (cy 15, 24, .inr (.inl (vp_updL f86 ((nI c_83) : Int32).toNatClampNeg f_90)))) := ⟨_, rfl⟩
                    have hV : VW K L M M_92 b11 (fx M b11) (ax M b11) := by rw [eM_92]; exact hV.oth hW hb_13 hc79 (by decide)
                    have hP : va_P D vwCl ([(za, .inr (13, [.int 0, .ref z1, .int (nI z2), .int (nI z3), .int z4, .int z5, .ref z6, .ref z7, .ref z8, .ref z9, .int (nI z10), .ref z11, .ref z12, .ref z13, .ref z14, .ref z15, .int (nI w16_36), .ref z17, .int z18, .ref z19]))] ++ va_pl L M_92) H_91 := by rw [eM_92]; exact hP
                    have hD : va_D A ([(za, .inr (13, [.int 0, .ref z1, .int (nI z2), .int (nI z3), .int z4, .int z5, .ref z6, .ref z7, .ref z8, .ref z9, .int (nI z10), .ref z11, .ref z12, .ref z13, .ref z14, .ref z15, .int (nI w16_36), .ref z17, .int z18, .ref z19]))] ++ va_pl L M_92) := by rw [eM_92]; exact hD
                    have hW : WOM cy K L M_92 := by rw [eM_92]; exact hW.up_15 hc79 ⟨_, rfl⟩
                    have hF : fr K L [14, 15, 32] M M_92 := by rw [eM_92]; exact hF.up hc79 (by decide)
                    have hM_93 : M_92 v79 = .inl (cy 15, 24, .inr (.inl (vp_updL f86 ((nI c_83) : Int32).toNatClampNeg f_90))) := by rw [eM_92]; exact va_up_self _ _ _
                    have hM_94 : M_92 b11 = .inr (12, fs78) := by rw [eM_92, va_up_ne _ _ (hb_13.neT hc79 (by decide))]; exact hM78
                    have hM_95 : M_92 z11 = .inl (cy 14, 24, .inl (f80)) := by rw [eM_92, va_up_ne _ _ (i11.neT hc79 (by decide))]; exact hM80
                    obtain ⟨f_96, ef_96⟩ : ∃ f : Nat → Int64, f = vp_updL f86 ((nI c_83) : Int32).toNatClampNeg f_90 := ⟨_, rfl⟩
                    rw [← ef_96] at hM_93
                    refine lv_iinc (v := (nI (v5w67 + 1))) (lv' := [(5, .int (nI (v5w67 + 1))), (4, .ref b11), (0, .ref za), (1, .int k1), (2, .int k2), (3, .int k3)]) hx hb dX13_hidden_151 hl (k := 0) rfl (nI_1 v5w67) (by decide) rfl (fun ls hl => ?_)
                    refine lv_goto (tgt := 119) hx hb dX13_hidden_154 (by decide) ?_
                    exact ih_65 (v5w67 + 1) M_92 H_91 _ _ (by omega) (by omega) hW hF hV hP hD hS (lv_sub hl [0, 1, 2, 3, 4, 5] rfl)
              exact key_64 (24 - 0 + 1) 0 M_58 H_56 _ _ (by omega) (by omega) hW hF hV hP hD hS (lv_sub hl [0, 1, 2, 3, 4, 5] rfl)
            · have hz := rfl (a := 0)
              refine lv_if_ne (tgt := 116) hx hb dX13_hidden_107 (by decide) (fun c_97 => absurd c_97 (by decide)) (fun _ => ?_)
              refine lv_aload_n hx hb dX13_hidden_110 rfl (lv_at hl 1 rfl) ?_
              refine lv_iconst (v := 0) hx hb dX13_hidden_111 (by decide) ?_
              have hPc := hP.sub (ws' := [(za, .inr (13, [.int 0, .ref z1, .int (nI z2), .int (nI z3), .int z4, .int z5, .ref z6, .ref z7, .ref z8, .ref z9, .int (nI z10), .ref z11, .ref z12, .ref z13, .ref z14, .ref z15, .int (nI w16_36), .ref z17, .int z18, .ref z19]))]) [0] rfl
              have hDc := hD.sub (ws' := [(za, .inr (13, [.int 0, .ref z1, .int (nI z2), .int (nI z3), .int z4, .int z5, .ref z6, .ref z7, .ref z8, .ref z9, .int (nI z10), .ref z11, .ref z12, .ref z13, .ref z14, .ref z15, .int (nI w16_36), .ref z17, .int z18, .ref z19]))]) [0] (by decide) rfl
              have hKc := hK.sub (tys' := []) [] rfl
              have hFc := va_free (wc := [(za, .inr (13, [.int 0, .ref z1, .int (nI z2), .int (nI z3), .int z4, .int z5, .ref z6, .ref z7, .ref z8, .ref z9, .int (nI z10), .ref z11, .ref z12, .ref z13, .ref z14, .ref z15, .int (nI w16_36), .ref z17, .int z18, .ref z19]))]) hD hS hA [0] rfl
              refine va_calli (va_runV (As := [.int 0]) (rest := []) ⟨hx, hb, hml, hown, hg⟩ (m_done l D H_56.size za 0 z1 (nI z2) (nI z3) z4 z5 z6 z7 z8 z9 (nI z10) z11 z12 z13 z14 z15 (nI w16_36) z17 z18 z19 0) (cwV 1 hg (gV wd_730 wd_731 wd_732 wd_717 wd_733) rfl rfl rfl (by decide +kernel) ⟨(Nat.le_trans (Nat.le_of_ble_eq_true rfl) hRf), (Nat.le_trans (Nat.le_of_ble_eq_true rfl) hRl)⟩) ⟨Pr.blind, va_recv hK hP (ci := 13) (q0 := 0) rfl rfl, fun U hU hW => ⟨rfl, Pr.at hPc hKc hDc hN hU hW⟩⟩ rfl rfl hl.1 rfl (lv_room (Nat.le_of_ble_eq_true rfl)) dX13_hidden_112 ⟨(Nat.le_trans (Nat.le_of_ble_eq_true rfl) hRc), (Nat.le_trans (Nat.le_of_ble_eq_true rfl) hRs)⟩) hS (fun q _ h => hFc q h) hFc (fun r_99 M_100 t H_98 locs ht hvm hw hB hz1 hk1 hS => ?_)
              have hp_101 := hw
              obtain ⟨hP1, hK1, hD1⟩ := hB
              rw [ht] at hP1
              obtain ⟨hP, hD⟩ := va_joinQ (X := [(za, .inr (13, [.int 0, .ref z1, .int (nI z2), .int (nI z3), .int z4, .int z5, .ref z6, .ref z7, .ref z8, .ref z9, .int (nI z10), .ref z11, .ref z12, .ref z13, .ref z14, .ref z15, .int (nI w16_36), .ref z17, .int z18, .ref z19]))]) (cx := [(za, .inr (13, [.int 0, .ref z1, .int (nI z2), .int (nI z3), .int z4, .int z5, .ref z6, .ref z7, .ref z8, .ref z9, .int (nI z10), .ref z11, .ref z12, .ref z13, .ref z14, .ref z15, .int (nI w16_36), .ref z17, .int z18, .ref z19]))]) (wr := []) (w1 := [(za, .inr (13, [.int 0, .ref z1, .int (nI z2), .int (nI z3), .int 0, .int (-1), .ref z6, .ref z7, .ref z8, .ref z9, .int (nI z10), .ref z11, .ref z12, .ref z13, .ref z14, .ref z15, .int (nI w16_36), .ref z17, .int z18, .ref z19]))]) (pl := va_pl L M_58) hP hD [0] [] rfl rfl (by decide) (by decide) hk1 hFc hP1 hD1
              have hP : va_P D vwCl ([(za, .inr (13, [.int 0, .ref z1, .int (nI z2), .int (nI z3), .int 0, .int (-1), .ref z6, .ref z7, .ref z8, .ref z9, .int (nI z10), .ref z11, .ref z12, .ref z13, .ref z14, .ref z15, .int (nI w16_36), .ref z17, .int z18, .ref z19]))] ++ va_pl L M_58) H_98 := hP
              have hD : va_D A ([(za, .inr (13, [.int 0, .ref z1, .int (nI z2), .int (nI z3), .int 0, .int (-1), .ref z6, .ref z7, .ref z8, .ref z9, .int (nI z10), .ref z11, .ref z12, .ref z13, .ref z14, .ref z15, .int (nI w16_36), .ref z17, .int z18, .ref z19]))] ++ va_pl L M_58) := hD
              have hq := Eq.symm hp_101
              subst hq
              have hA9 : HA (ax M b11 2) (ax M b11 3) := hAT.1
              have hB9 : HB (fx M b11 16) (fx M b11 14) (ax M b11 3) (ax M b11 43) := hAT.2.1
              have hC9 : HC (fx M b11 10) (ax M b11 22) (ax M b11 23) := hAT.2.2.1
              have hD9 : HD (fx M b11 0) (fx M b11 11) (fx M b11 15) (ax M b11 34) (ax M b11 41) := hAT.2.2.2.1
              have hE9 : HE (fx M b11 0) (fx M b11 1) (fx M b11 12) (fx M b11 13) (ax M b11 37) := hAT.2.2.2.2
              have hH9 : HI (fx M b11) (ax M b11) := ⟨hA9, hB9, hC9, hD9, hE9⟩
              have hGI9 : GI K L z1 z2 M_58 := GI.fin hW0 i1 b2 hGI hact hV (hF.at i1 (by decide)) hH9
              rw [hQ]
              exact W.iret (v := 0) hx hb hr (fun t ht hW9 => ⟨⟨0, M_58, rfl, ⟨hW, hF, hGI9, trivial⟩, ⟨0, (-1), w16_36, (by omega), by rw [ht]; exact hP, hD⟩⟩, hS.F ht⟩) hS.2.2 dX13_hidden_115
          · have hz := rfl (a := 0)
            refine lv_aload_n hx hb dX13_hidden_68 rfl (lv_at hl 1 rfl) ?_
            refine lv_iconst (v := 3) hx hb dX13_hidden_69 (by decide) ?_
            have hPc := hP.sub (ws' := [(za, .inr (13, [.int 0, .ref z1, .int (nI z2), .int (nI z3), .int z4, .int z5, .ref z6, .ref z7, .ref z8, .ref z9, .int (nI z10), .ref z11, .ref z12, .ref z13, .ref z14, .ref z15, .int (nI z16), .ref z17, .int z18, .ref z19]))]) [0] rfl
            have hDc := hD.sub (ws' := [(za, .inr (13, [.int 0, .ref z1, .int (nI z2), .int (nI z3), .int z4, .int z5, .ref z6, .ref z7, .ref z8, .ref z9, .int (nI z10), .ref z11, .ref z12, .ref z13, .ref z14, .ref z15, .int (nI z16), .ref z17, .int z18, .ref z19]))]) [0] (by decide) rfl
            have hKc := hK.sub (tys' := []) [] rfl
            have hFc := va_free (wc := [(za, .inr (13, [.int 0, .ref z1, .int (nI z2), .int (nI z3), .int z4, .int z5, .ref z6, .ref z7, .ref z8, .ref z9, .int (nI z10), .ref z11, .ref z12, .ref z13, .ref z14, .ref z15, .int (nI z16), .ref z17, .int z18, .ref z19]))]) hD hS hA [0] rfl
            refine va_calli (va_runV (As := [.int 3]) (rest := []) ⟨hx, hb, hml, hown, hg⟩ (m_refused l D H_18.size za 0 z1 (nI z2) (nI z3) z4 z5 z6 z7 z8 z9 (nI z10) z11 z12 z13 z14 z15 (nI z16) z17 z18 z19 3) (cwV 1 hg (gV wd_725 wd_726 wd_727 wd_717 wd_728) rfl rfl rfl (by decide +kernel) ⟨(Nat.le_trans (Nat.le_of_ble_eq_true rfl) hRf), (Nat.le_trans (Nat.le_of_ble_eq_true rfl) hRl)⟩) ⟨Pr.blind, va_recv hK hP (ci := 13) (q0 := 0) rfl rfl, fun U hU hW => ⟨rfl, Pr.at hPc hKc hDc hN hU hW⟩⟩ rfl rfl hl.1 rfl (lv_room (Nat.le_of_ble_eq_true rfl)) dX13_hidden_70 ⟨(Nat.le_trans (Nat.le_of_ble_eq_true rfl) hRc), (Nat.le_trans (Nat.le_of_ble_eq_true rfl) hRs)⟩) hS (fun q _ h => hFc q h) hFc (fun r_103 M_104 t H_102 locs ht hvm hw hB hz1 hk1 hS => ?_)
            have hp_105 := hw
            obtain ⟨hP1, hK1, hD1⟩ := hB
            rw [ht] at hP1
            obtain ⟨hP, hD⟩ := va_joinQ (X := [(za, .inr (13, [.int 0, .ref z1, .int (nI z2), .int (nI z3), .int z4, .int z5, .ref z6, .ref z7, .ref z8, .ref z9, .int (nI z10), .ref z11, .ref z12, .ref z13, .ref z14, .ref z15, .int (nI z16), .ref z17, .int z18, .ref z19]))]) (cx := [(za, .inr (13, [.int 0, .ref z1, .int (nI z2), .int (nI z3), .int z4, .int z5, .ref z6, .ref z7, .ref z8, .ref z9, .int (nI z10), .ref z11, .ref z12, .ref z13, .ref z14, .ref z15, .int (nI z16), .ref z17, .int z18, .ref z19]))]) (wr := []) (w1 := [(za, .inr (13, [.int 0, .ref z1, .int (nI z2), .int (nI z3), .int 3, .int (-1), .ref z6, .ref z7, .ref z8, .ref z9, .int (nI z10), .ref z11, .ref z12, .ref z13, .ref z14, .ref z15, .int (nI z16), .ref z17, .int z18, .ref z19]))]) (pl := va_pl L M) hP hD [0] [] rfl rfl (by decide) (by decide) hk1 hFc hP1 hD1
            have hP : va_P D vwCl ([(za, .inr (13, [.int 0, .ref z1, .int (nI z2), .int (nI z3), .int 3, .int (-1), .ref z6, .ref z7, .ref z8, .ref z9, .int (nI z10), .ref z11, .ref z12, .ref z13, .ref z14, .ref z15, .int (nI z16), .ref z17, .int z18, .ref z19]))] ++ va_pl L M) H_102 := hP
            have hD : va_D A ([(za, .inr (13, [.int 0, .ref z1, .int (nI z2), .int (nI z3), .int 3, .int (-1), .ref z6, .ref z7, .ref z8, .ref z9, .int (nI z10), .ref z11, .ref z12, .ref z13, .ref z14, .ref z15, .int (nI z16), .ref z17, .int z18, .ref z19]))] ++ va_pl L M) := hD
            have hq := Eq.symm hp_105
            subst hq
            rw [hQ]
            exact W.iret (v := (-1)) hx hb hr (fun t ht hW9 => ⟨⟨(-1), M, rfl, ⟨hW, hF, hGI, trivial⟩, ⟨3, (-1), z16, (by omega), by rw [ht]; exact hP, hD⟩⟩, hS.F ht⟩) hS.2.2 dX13_hidden_73
      · have hz := rfl (a := 0)
        refine lv_if_ne (tgt := 44) hx hb dX13_hidden_35 (by decide) (fun c_106 => absurd c_106 (by decide)) (fun _ => ?_)
        refine lv_aload_n hx hb dX13_hidden_38 rfl (lv_at hl 0 rfl) ?_
        refine lv_iconst (v := 2) hx hb dX13_hidden_39 (by decide) ?_
        have hPc := hP.sub (ws' := [(za, .inr (13, [.int 0, .ref z1, .int (nI z2), .int (nI z3), .int z4, .int z5, .ref z6, .ref z7, .ref z8, .ref z9, .int (nI z10), .ref z11, .ref z12, .ref z13, .ref z14, .ref z15, .int (nI z16), .ref z17, .int z18, .ref z19]))]) [0] rfl
        have hDc := hD.sub (ws' := [(za, .inr (13, [.int 0, .ref z1, .int (nI z2), .int (nI z3), .int z4, .int z5, .ref z6, .ref z7, .ref z8, .ref z9, .int (nI z10), .ref z11, .ref z12, .ref z13, .ref z14, .ref z15, .int (nI z16), .ref z17, .int z18, .ref z19]))]) [0] (by decide) rfl
        have hKc := hK.sub (tys' := []) [] rfl
        have hFc := va_free (wc := [(za, .inr (13, [.int 0, .ref z1, .int (nI z2), .int (nI z3), .int z4, .int z5, .ref z6, .ref z7, .ref z8, .ref z9, .int (nI z10), .ref z11, .ref z12, .ref z13, .ref z14, .ref z15, .int (nI z16), .ref z17, .int z18, .ref z19]))]) hD hS hA [0] rfl
        refine va_calli (va_runV (As := [.int 2]) (rest := []) ⟨hx, hb, hml, hown, hg⟩ (m_refused l D H_18.size za 0 z1 (nI z2) (nI z3) z4 z5 z6 z7 z8 z9 (nI z10) z11 z12 z13 z14 z15 (nI z16) z17 z18 z19 2) (cwV 1 hg (gV wd_725 wd_726 wd_727 wd_717 wd_728) rfl rfl rfl (by decide +kernel) ⟨(Nat.le_trans (Nat.le_of_ble_eq_true rfl) hRf), (Nat.le_trans (Nat.le_of_ble_eq_true rfl) hRl)⟩) ⟨Pr.blind, va_recv hK hP (ci := 13) (q0 := 0) rfl rfl, fun U hU hW => ⟨rfl, Pr.at hPc hKc hDc hN hU hW⟩⟩ rfl rfl hl.1 rfl (lv_room (Nat.le_of_ble_eq_true rfl)) dX13_hidden_40 ⟨(Nat.le_trans (Nat.le_of_ble_eq_true rfl) hRc), (Nat.le_trans (Nat.le_of_ble_eq_true rfl) hRs)⟩) hS (fun q _ h => hFc q h) hFc (fun r_108 M_109 t H_107 locs ht hvm hw hB hz1 hk1 hS => ?_)
        have hp_110 := hw
        obtain ⟨hP1, hK1, hD1⟩ := hB
        rw [ht] at hP1
        obtain ⟨hP, hD⟩ := va_joinQ (X := [(za, .inr (13, [.int 0, .ref z1, .int (nI z2), .int (nI z3), .int z4, .int z5, .ref z6, .ref z7, .ref z8, .ref z9, .int (nI z10), .ref z11, .ref z12, .ref z13, .ref z14, .ref z15, .int (nI z16), .ref z17, .int z18, .ref z19]))]) (cx := [(za, .inr (13, [.int 0, .ref z1, .int (nI z2), .int (nI z3), .int z4, .int z5, .ref z6, .ref z7, .ref z8, .ref z9, .int (nI z10), .ref z11, .ref z12, .ref z13, .ref z14, .ref z15, .int (nI z16), .ref z17, .int z18, .ref z19]))]) (wr := []) (w1 := [(za, .inr (13, [.int 0, .ref z1, .int (nI z2), .int (nI z3), .int 2, .int (-1), .ref z6, .ref z7, .ref z8, .ref z9, .int (nI z10), .ref z11, .ref z12, .ref z13, .ref z14, .ref z15, .int (nI z16), .ref z17, .int z18, .ref z19]))]) (pl := va_pl L M) hP hD [0] [] rfl rfl (by decide) (by decide) hk1 hFc hP1 hD1
        have hP : va_P D vwCl ([(za, .inr (13, [.int 0, .ref z1, .int (nI z2), .int (nI z3), .int 2, .int (-1), .ref z6, .ref z7, .ref z8, .ref z9, .int (nI z10), .ref z11, .ref z12, .ref z13, .ref z14, .ref z15, .int (nI z16), .ref z17, .int z18, .ref z19]))] ++ va_pl L M) H_107 := hP
        have hD : va_D A ([(za, .inr (13, [.int 0, .ref z1, .int (nI z2), .int (nI z3), .int 2, .int (-1), .ref z6, .ref z7, .ref z8, .ref z9, .int (nI z10), .ref z11, .ref z12, .ref z13, .ref z14, .ref z15, .int (nI z16), .ref z17, .int z18, .ref z19]))] ++ va_pl L M) := hD
        have hq := Eq.symm hp_110
        subst hq
        rw [hQ]
        exact W.iret (v := (-1)) hx hb hr (fun t ht hW9 => ⟨⟨(-1), M, rfl, ⟨hW, hF, hGI, trivial⟩, ⟨2, (-1), z16, (by omega), by rw [ht]; exact hP, hD⟩⟩, hS.F ht⟩) hS.2.2 dX13_hidden_43
    · have hz := rfl (a := 0)
      have n_111 : v15 = 0 := (iEQ (a := v15) (b := 0) (by omega) (by omega)).mp c_16
      refine lv_aload_n hx hb dX13_hidden_25 rfl (lv_at hl 0 rfl) ?_
      refine lv_iconst (v := 1) hx hb dX13_hidden_26 (by decide) ?_
      have hPc := hP.sub (ws' := [(za, .inr (13, [.int 0, .ref z1, .int (nI z2), .int (nI z3), .int z4, .int z5, .ref z6, .ref z7, .ref z8, .ref z9, .int (nI z10), .ref z11, .ref z12, .ref z13, .ref z14, .ref z15, .int (nI z16), .ref z17, .int z18, .ref z19]))]) [0] rfl
      have hDc := hD.sub (ws' := [(za, .inr (13, [.int 0, .ref z1, .int (nI z2), .int (nI z3), .int z4, .int z5, .ref z6, .ref z7, .ref z8, .ref z9, .int (nI z10), .ref z11, .ref z12, .ref z13, .ref z14, .ref z15, .int (nI z16), .ref z17, .int z18, .ref z19]))]) [0] (by decide) rfl
      have hKc := hK.sub (tys' := []) [] rfl
      have hFc := va_free (wc := [(za, .inr (13, [.int 0, .ref z1, .int (nI z2), .int (nI z3), .int z4, .int z5, .ref z6, .ref z7, .ref z8, .ref z9, .int (nI z10), .ref z11, .ref z12, .ref z13, .ref z14, .ref z15, .int (nI z16), .ref z17, .int z18, .ref z19]))]) hD hS hA [0] rfl
      refine va_calli (va_runV (As := [.int 1]) (rest := []) ⟨hx, hb, hml, hown, hg⟩ (m_refused l D H_2.size za 0 z1 (nI z2) (nI z3) z4 z5 z6 z7 z8 z9 (nI z10) z11 z12 z13 z14 z15 (nI z16) z17 z18 z19 1) (cwV 1 hg (gV wd_725 wd_726 wd_727 wd_717 wd_728) rfl rfl rfl (by decide +kernel) ⟨(Nat.le_trans (Nat.le_of_ble_eq_true rfl) hRf), (Nat.le_trans (Nat.le_of_ble_eq_true rfl) hRl)⟩) ⟨Pr.blind, va_recv hK hP (ci := 13) (q0 := 0) rfl rfl, fun U hU hW => ⟨rfl, Pr.at hPc hKc hDc hN hU hW⟩⟩ rfl rfl hl.1 rfl (lv_room (Nat.le_of_ble_eq_true rfl)) dX13_hidden_27 ⟨(Nat.le_trans (Nat.le_of_ble_eq_true rfl) hRc), (Nat.le_trans (Nat.le_of_ble_eq_true rfl) hRs)⟩) hS (fun q _ h => hFc q h) hFc (fun r_113 M_114 t H_112 locs ht hvm hw hB hz1 hk1 hS => ?_)
      have hp_115 := hw
      obtain ⟨hP1, hK1, hD1⟩ := hB
      rw [ht] at hP1
      obtain ⟨hP, hD⟩ := va_joinQ (X := [(za, .inr (13, [.int 0, .ref z1, .int (nI z2), .int (nI z3), .int z4, .int z5, .ref z6, .ref z7, .ref z8, .ref z9, .int (nI z10), .ref z11, .ref z12, .ref z13, .ref z14, .ref z15, .int (nI z16), .ref z17, .int z18, .ref z19]))]) (cx := [(za, .inr (13, [.int 0, .ref z1, .int (nI z2), .int (nI z3), .int z4, .int z5, .ref z6, .ref z7, .ref z8, .ref z9, .int (nI z10), .ref z11, .ref z12, .ref z13, .ref z14, .ref z15, .int (nI z16), .ref z17, .int z18, .ref z19]))]) (wr := []) (w1 := [(za, .inr (13, [.int 0, .ref z1, .int (nI z2), .int (nI z3), .int 1, .int (-1), .ref z6, .ref z7, .ref z8, .ref z9, .int (nI z10), .ref z11, .ref z12, .ref z13, .ref z14, .ref z15, .int (nI z16), .ref z17, .int z18, .ref z19]))]) (pl := va_pl L M) hP hD [0] [] rfl rfl (by decide) (by decide) hk1 hFc hP1 hD1
      have hP : va_P D vwCl ([(za, .inr (13, [.int 0, .ref z1, .int (nI z2), .int (nI z3), .int 1, .int (-1), .ref z6, .ref z7, .ref z8, .ref z9, .int (nI z10), .ref z11, .ref z12, .ref z13, .ref z14, .ref z15, .int (nI z16), .ref z17, .int z18, .ref z19]))] ++ va_pl L M) H_112 := hP
      have hD : va_D A ([(za, .inr (13, [.int 0, .ref z1, .int (nI z2), .int (nI z3), .int 1, .int (-1), .ref z6, .ref z7, .ref z8, .ref z9, .int (nI z10), .ref z11, .ref z12, .ref z13, .ref z14, .ref z15, .int (nI z16), .ref z17, .int z18, .ref z19]))] ++ va_pl L M) := hD
      have hq := Eq.symm hp_115
      subst hq
      rw [hQ]
      exact W.iret (v := (-1)) hx hb hr (fun t ht hW9 => ⟨⟨(-1), M, rfl, ⟨hW, hF, hGI, trivial⟩, ⟨1, (-1), z16, (by omega), by rw [ht]; exact hP, hD⟩⟩, hS.F ht⟩) hS.2.2 dX13_hidden_30
  · have hz := rfl (a := 0)
    refine lv_if_eq (tgt := 25) hx hb dX13_hidden_10 (by decide) (fun _ => ?_) (fun c_116 => absurd c_116 (by decide))
    refine lv_aload_n hx hb dX13_hidden_25 rfl (lv_at hl 0 rfl) ?_
    refine lv_iconst (v := 1) hx hb dX13_hidden_26 (by decide) ?_
    have hPc := hP.sub (ws' := [(za, .inr (13, [.int 0, .ref z1, .int (nI z2), .int (nI z3), .int z4, .int z5, .ref z6, .ref z7, .ref z8, .ref z9, .int (nI z10), .ref z11, .ref z12, .ref z13, .ref z14, .ref z15, .int (nI z16), .ref z17, .int z18, .ref z19]))]) [0] rfl
    have hDc := hD.sub (ws' := [(za, .inr (13, [.int 0, .ref z1, .int (nI z2), .int (nI z3), .int z4, .int z5, .ref z6, .ref z7, .ref z8, .ref z9, .int (nI z10), .ref z11, .ref z12, .ref z13, .ref z14, .ref z15, .int (nI z16), .ref z17, .int z18, .ref z19]))]) [0] (by decide) rfl
    have hKc := hK.sub (tys' := []) [] rfl
    have hFc := va_free (wc := [(za, .inr (13, [.int 0, .ref z1, .int (nI z2), .int (nI z3), .int z4, .int z5, .ref z6, .ref z7, .ref z8, .ref z9, .int (nI z10), .ref z11, .ref z12, .ref z13, .ref z14, .ref z15, .int (nI z16), .ref z17, .int z18, .ref z19]))]) hD hS hA [0] rfl
    refine va_calli (va_runV (As := [.int 1]) (rest := []) ⟨hx, hb, hml, hown, hg⟩ (m_refused l D H_2.size za 0 z1 (nI z2) (nI z3) z4 z5 z6 z7 z8 z9 (nI z10) z11 z12 z13 z14 z15 (nI z16) z17 z18 z19 1) (cwV 1 hg (gV wd_725 wd_726 wd_727 wd_717 wd_728) rfl rfl rfl (by decide +kernel) ⟨(Nat.le_trans (Nat.le_of_ble_eq_true rfl) hRf), (Nat.le_trans (Nat.le_of_ble_eq_true rfl) hRl)⟩) ⟨Pr.blind, va_recv hK hP (ci := 13) (q0 := 0) rfl rfl, fun U hU hW => ⟨rfl, Pr.at hPc hKc hDc hN hU hW⟩⟩ rfl rfl hl.1 rfl (lv_room (Nat.le_of_ble_eq_true rfl)) dX13_hidden_27 ⟨(Nat.le_trans (Nat.le_of_ble_eq_true rfl) hRc), (Nat.le_trans (Nat.le_of_ble_eq_true rfl) hRs)⟩) hS (fun q _ h => hFc q h) hFc (fun r_118 M_119 t H_117 locs ht hvm hw hB hz1 hk1 hS => ?_)
    have hp_120 := hw
    obtain ⟨hP1, hK1, hD1⟩ := hB
    rw [ht] at hP1
    obtain ⟨hP, hD⟩ := va_joinQ (X := [(za, .inr (13, [.int 0, .ref z1, .int (nI z2), .int (nI z3), .int z4, .int z5, .ref z6, .ref z7, .ref z8, .ref z9, .int (nI z10), .ref z11, .ref z12, .ref z13, .ref z14, .ref z15, .int (nI z16), .ref z17, .int z18, .ref z19]))]) (cx := [(za, .inr (13, [.int 0, .ref z1, .int (nI z2), .int (nI z3), .int z4, .int z5, .ref z6, .ref z7, .ref z8, .ref z9, .int (nI z10), .ref z11, .ref z12, .ref z13, .ref z14, .ref z15, .int (nI z16), .ref z17, .int z18, .ref z19]))]) (wr := []) (w1 := [(za, .inr (13, [.int 0, .ref z1, .int (nI z2), .int (nI z3), .int 1, .int (-1), .ref z6, .ref z7, .ref z8, .ref z9, .int (nI z10), .ref z11, .ref z12, .ref z13, .ref z14, .ref z15, .int (nI z16), .ref z17, .int z18, .ref z19]))]) (pl := va_pl L M) hP hD [0] [] rfl rfl (by decide) (by decide) hk1 hFc hP1 hD1
    have hP : va_P D vwCl ([(za, .inr (13, [.int 0, .ref z1, .int (nI z2), .int (nI z3), .int 1, .int (-1), .ref z6, .ref z7, .ref z8, .ref z9, .int (nI z10), .ref z11, .ref z12, .ref z13, .ref z14, .ref z15, .int (nI z16), .ref z17, .int z18, .ref z19]))] ++ va_pl L M) H_117 := hP
    have hD : va_D A ([(za, .inr (13, [.int 0, .ref z1, .int (nI z2), .int (nI z3), .int 1, .int (-1), .ref z6, .ref z7, .ref z8, .ref z9, .int (nI z10), .ref z11, .ref z12, .ref z13, .ref z14, .ref z15, .int (nI z16), .ref z17, .int z18, .ref z19]))] ++ va_pl L M) := hD
    have hq := Eq.symm hp_120
    subst hq
    rw [hQ]
    exact W.iret (v := (-1)) hx hb hr (fun t ht hW9 => ⟨⟨(-1), M, rfl, ⟨hW, hF, hGI, trivial⟩, ⟨1, (-1), z16, (by omega), by rw [ht]; exact hP, hD⟩⟩, hS.F ht⟩) hS.2.2 dX13_hidden_30
set_option maxHeartbeats 4000000 in
set_option maxRecDepth 100000 in
theorem g_X13_bear (l : Launch) (D : va_G) (cy : Nat → ClassId) (K : Kp) (L : List Nat) (M : Hp) (sz : Nat) (za : Nat) (z0 : Int32) (z1 : Nat) (z2 : Nat) (z3 : Nat) (z4 : Int32) (z5 : Int32) (z6 : Nat) (z7 : Nat) (z8 : Nat) (z9 : Nat) (z10 : Nat) (z11 : Nat) (z12 : Nat) (z13 : Nat) (z14 : Nat) (z15 : Nat) (z16 : Nat) (z17 : Nat) (z18 : Int32) (z19 : Nat) (k1 : Int32) (k2 : Int32) (k3 : Int32) (hW : WOM cy K L M) (i1 : isk K L z1 23 8) (b2 : z2 ≤ 8) (b3 : z3 ≤ 40) (i6 : isk K L z6 47 40) (i7 : isk K L z7 48 40) (i8 : isk K L z8 49 8) (i9 : isk K L z9 50 8) (b10 : z10 ≤ 8) (i11 : isk K L z11 32 24) (i12 : isk K L z12 14 24) (i13 : isk K L z13 15 24) (i14 : isk K L z14 15 24) (i15 : isk K L z15 15 24) (b16 : z16 ≤ 24) (i17 : isk K L z17 14 24) (i19 : isk K L z19 15 25) (hGI : GI K L z1 z2 M) : Met l yX13_bear (wsM yX13_bear cX13_bear 9 (some .int)) ({ frames := 4, cells := 0, slots := 0, locals := 107 }) (va_Pc [.ref za, .int k1, .int k2, .int k3] (PG D cy [(za, .inr (13, [.int z0, .ref z1, .int (nI z2), .int (nI z3), .int z4, .int z5, .ref z6, .ref z7, .ref z8, .ref z9, .int (nI z10), .ref z11, .ref z12, .ref z13, .ref z14, .ref z15, .int (nI z16), .ref z17, .int z18, .ref z19]))] L M sz)) (va_Qi (fun (r : Int32) (M9 : Hp) => WOM cy K L M9 ∧ fr K L [14, 15, 32] M M9 ∧ (GI K L z1 z2 M9) ∧ (True)) (fun M9 t => ∃ (w4 : Int32) (w5 : Int32) (w16 : Nat) (w18 : Int32), w16 ≤ 24 ∧ PQ D [(za, .inr (13, [.int 0, .ref z1, .int (nI z2), .int (nI z3), .int w4, .int w5, .ref z6, .ref z7, .ref z8, .ref z9, .int (nI z10), .ref z11, .ref z12, .ref z13, .ref z14, .ref z15, .int (nI w16), .ref z17, .int w18, .ref z19]))] L M9 (va_A ([(za, .inr (13, [.int z0, .ref z1, .int (nI z2), .int (nI z3), .int z4, .int z5, .ref z6, .ref z7, .ref z8, .ref z9, .int (nI z10), .ref z11, .ref z12, .ref z13, .ref z14, .ref z15, .int (nI z16), .ref z17, .int z18, .ref z19]))] ++ va_pl L M) sz) t) (va_A ([(za, .inr (13, [.int z0, .ref z1, .int (nI z2), .int (nI z3), .int z4, .int z5, .ref z6, .ref z7, .ref z8, .ref z9, .int (nI z10), .ref z11, .ref z12, .ref z13, .ref z14, .ref z15, .int (nI z16), .ref z17, .int z18, .ref z19]))] ++ va_pl L M) sz)) 0 0 (va_A ([(za, .inr (13, [.int z0, .ref z1, .int (nI z2), .int (nI z3), .int z4, .int z5, .ref z6, .ref z7, .ref z8, .ref z9, .int (nI z10), .ref z11, .ref z12, .ref z13, .ref z14, .ref z15, .int (nI z16), .ref z17, .int z18, .ref z19]))] ++ va_pl L M) sz) := by
  refine Met.ofW (cc := cX13_bear) (maxL := 9) (ret := (some .int)) (by decide) rfl ?_
  intro p e s m args below meth c s₁ B hml hv
  obtain ⟨rfl, hsz, hP, hK, hD0, hN⟩ := hv
  have hx := B.exec
  have hb := B.bytes
  have hr := B.returns
  have hts := atoms_spec (ws := (wsM yX13_bear cX13_bear 9 (some .int))) B.pre
  have hg : ∀ w ∈ lw_good, w.before _ s = true := fun w h => hts w (List.mem_cons_of_mem _ h)
  have hown : s.vm.findClass RX13 = some m.cls := findClass_of_methodNamed B.named
  have hlocks := B.notSynchronized
  subst hsz
  have hD := hD0.self (sz := s.heap.size)
  generalize hAe : va_A ([(za, .inr (13, [.int z0, .ref z1, .int (nI z2), .int (nI z3), .int z4, .int z5, .ref z6, .ref z7, .ref z8, .ref z9, .int (nI z10), .ref z11, .ref z12, .ref z13, .ref z14, .ref z15, .int (nI z16), .ref z17, .int z18, .ref z19]))] ++ va_pl L M) s.heap.size = A at hD ⊢
  have hA : ∀ q : Nat, s.heap.size ≤ q → A q := fun q h => by rw [← hAe]; exact Or.inr h
  have hS : va_S A s.heap s.heap [] := va_S.rf
  have hl := lv_entry ([.ref za, .int k1, .int k2, .int k3]) (n := 9) (Nat.le_of_ble_eq_true rfl)
  rw [lg_entry_eq]
  generalize (lg_sl ([.ref za, .int k1, .int k2, .int k3]) ++ List.replicate (9 - (lg_sl ([.ref za, .int k1, .int k2, .int k3])).length) Slot.unset).toArray = ls at hl ⊢
  refine W.nameQ (fun Q hQ => ?_)
  refine W.nameR (fun R hR => ?_)
  have hRf : 4 ≤ R.frames := by rw [hR]; exact Nat.le_of_ble_eq_true rfl
  have hRl : 107 ≤ R.locals := by rw [hR]; exact Nat.le_of_ble_eq_true rfl
  have hRc : 0 ≤ R.cells := by rw [hR]; exact Nat.le_of_ble_eq_true rfl
  have hRs : 0 ≤ R.slots := by rw [hR]; exact Nat.le_of_ble_eq_true rfl
  have hF : fr K L [14, 15, 32] M M := fr.rf
  have hl : lv_has ls 9 [(0, .ref za), (1, .int k1), (2, .int k2), (3, .int k3)] := hl
  have hW0 := hW
  refine lv_aload_n hx hb dX13_bear_0 rfl (lv_at hl 0 rfl) ?_
  refine lv_iconst (v := 0) hx hb dX13_bear_1 (by decide) ?_
  refine va_put (D := D) (ci := 13) (v := .int 0) (ty := .int) (C := RX13) (T := TX13) (N := 20) hx hb hg inG13 tyX13 tyX13_ok nmX13 hown hK hP hD hS 0 rfl rfl 0 (by decide) (hg _ wd_720) (fun _ h9 => h9) rfl (by decide +kernel) rfl rfl (Nat.le_of_ble_eq_true rfl) dX13_bear_2 (fun H_1 locs hP hD hS => ?_)
  have hP : va_P D vwCl ([(za, .inr (13, [.int 0, .ref z1, .int (nI z2), .int (nI z3), .int z4, .int z5, .ref z6, .ref z7, .ref z8, .ref z9, .int (nI z10), .ref z11, .ref z12, .ref z13, .ref z14, .ref z15, .int (nI z16), .ref z17, .int z18, .ref z19]))] ++ va_pl L M) H_1 := hP
  have hD : va_D A ([(za, .inr (13, [.int 0, .ref z1, .int (nI z2), .int (nI z3), .int z4, .int z5, .ref z6, .ref z7, .ref z8, .ref z9, .int (nI z10), .ref z11, .ref z12, .ref z13, .ref z14, .ref z15, .int (nI z16), .ref z17, .int z18, .ref z19]))] ++ va_pl L M) := hD
  refine lv_aload_n hx hb dX13_bear_5 rfl (lv_at hl 0 rfl) ?_
  refine lv_iload_n hx hb dX13_bear_6 rfl (lv_at hl 1 rfl) ?_
  have hPc : va_P D vwCl ([(za, .inr (13, [.int 0, .ref z1, .int (nI z2), .int (nI z3), .int z4, .int z5, .ref z6, .ref z7, .ref z8, .ref z9, .int (nI z10), .ref z11, .ref z12, .ref z13, .ref z14, .ref z15, .int (nI z16), .ref z17, .int z18, .ref z19]))] ++ va_pl L M) H_1 := hP
  have hDc : va_D A ([(za, .inr (13, [.int 0, .ref z1, .int (nI z2), .int (nI z3), .int z4, .int z5, .ref z6, .ref z7, .ref z8, .ref z9, .int (nI z10), .ref z11, .ref z12, .ref z13, .ref z14, .ref z15, .int (nI z16), .ref z17, .int z18, .ref z19]))] ++ va_pl L M) := hD
  have hFc : ∀ q, va_A ([(za, .inr (13, [.int 0, .ref z1, .int (nI z2), .int (nI z3), .int z4, .int z5, .ref z6, .ref z7, .ref z8, .ref z9, .int (nI z10), .ref z11, .ref z12, .ref z13, .ref z14, .ref z15, .int (nI z16), .ref z17, .int z18, .ref z19]))] ++ va_pl L M) H_1.size q → A q := pg_free hDc hS hA
  refine va_calli (va_runV (As := [.int k1]) (rest := []) ⟨hx, hb, hml, hown, hg⟩ (r_X13_isHouse l D cy K L M H_1.size za 0 z1 z2 z3 z4 z5 z6 z7 z8 z9 z10 z11 z12 z13 z14 z15 z16 z17 z18 z19 k1  hW i1 b2 b3 i6 i7 i8 i9 b10 i11 i12 i13 i14 i15 b16 i17 i19) (cwV 1 hg (gV wd_714 wd_715 wd_716 wd_717 wd_718) rfl rfl rfl (by decide +kernel) ⟨(Nat.le_trans (Nat.le_of_ble_eq_true rfl) hRf), (Nat.le_trans (Nat.le_of_ble_eq_true rfl) hRl)⟩) ⟨PG.blind, va_recv hK hP (ci := 13) (q0 := 0) rfl rfl, fun U hU hW => ⟨rfl, PG.at hPc hK hDc hN hU hW⟩⟩ rfl rfl hl.1 rfl (lv_room (Nat.le_of_ble_eq_true rfl)) dX13_bear_7 ⟨(Nat.le_trans (Nat.le_of_ble_eq_true rfl) hRc), (Nat.le_trans (Nat.le_of_ble_eq_true rfl) hRs)⟩) hS (fun q _ h => hFc q h) hFc (fun r_3 M_4 t H_2 locs ht hvm hw hB hz1 hk1 hS => ?_)
  have hp_5 := hw
  obtain ⟨hP1, hD1⟩ := hB
  rw [ht] at hP1
  have hP : va_P D vwCl ([(za, .inr (13, [.int 0, .ref z1, .int (nI z2), .int (nI z3), .int z4, .int z5, .ref z6, .ref z7, .ref z8, .ref z9, .int (nI z10), .ref z11, .ref z12, .ref z13, .ref z14, .ref z15, .int (nI z16), .ref z17, .int z18, .ref z19]))] ++ va_pl L M) H_2 := hP1
  have hD : va_D A ([(za, .inr (13, [.int 0, .ref z1, .int (nI z2), .int (nI z3), .int z4, .int z5, .ref z6, .ref z7, .ref z8, .ref z9, .int (nI z10), .ref z11, .ref z12, .ref z13, .ref z14, .ref z15, .int (nI z16), .ref z17, .int z18, .ref z19]))] ++ va_pl L M) := hD1.mono hFc
  rcases hp_5 with ⟨rfl, c_6, c_7⟩ | rfl
  · have hz := rfl (a := 0)
    refine lv_if_eq (tgt := 25) hx hb dX13_bear_10 (by decide) (fun c_8 => absurd c_8 (by decide)) (fun _ => ?_)
    refine lv_aload_n hx hb dX13_bear_13 rfl (lv_at hl 0 rfl) ?_
    refine va_get (D := D) (ci := 13) (v := .ref z1) (C := RX13) (T := TX13) (N := 20) hx hb hg inG13 hown hK hP 0 rfl rfl 1 (by decide) (hg _ wd_739) (fun _ h9 => h9) rfl dX13_bear_14 ?_
    refine lv_iload_n hx hb dX13_bear_17 rfl (lv_at hl 1 rfl) ?_
    obtain ⟨f9, hM9, hf9⟩ := hW.open_23 i1
    have hi_10 : vp_in k1 8 := (inbW (a := z2) (by omega) (inb k1 z2 (by omega) c_6 c_7))
    refine pg_aldq hx hb hK hP i1.1 9 hM9 rfl hi_10 dX13_bear_18 ?_
    obtain ⟨b11, eb_12, hb_13⟩ := hf9 _ (vp_lt hi_10)
    rw [eb_12]
    have hact : ACT z1 z2 b11 M := ⟨(k1 : Int32).toNatClampNeg, vp_lt (inb k1 z2 (by omega) c_6 c_7), by rw [show RFc (M z1) = f9 from by rw [hM9]; rfl]; exact eb_12⟩
    have hAT := GI.at hGI hact
    have hV : VW K L M M b11 (fx M b11) (ax M b11) := VW.rf b11 hGI.2.2.2
    obtain ⟨fs14, hM14, hn14, hl14⟩ := hW.open_12 hb_13
    obtain ⟨v15, hv15, hc15⟩ : ∃ v : Nat, fs14[11]? = some (.int (nI v) : Value) ∧ v ≤ 16 := hl14 11 (by decide)
    refine pg_getN (D := D) (ci := 12) (v := .int (nI v15)) (C := RX12) (T := TX12) (N := 51) hx hb hg inG12 hown hK hP hb_13.1 hM14 rfl 11 (by decide) (hN.use (Cond.fieldLinkNest RX13 142 RX12 "rules" "I" RX13) 20 rfl rfl) (fun _ h9 => h9) hv15 dX13_bear_19 ?_
    refine lv_if_ne (tgt := 31) hx hb dX13_bear_22 (by decide) (fun c_16 => ?_) (fun c_16 => ?_)
    · have hz := rfl (a := 0)
      have n_17 : ¬ (v15 = 0) := fun q => c_16 ((iEQ (a := v15) (b := 0) (by omega) (by omega)).mpr q)
      refine lv_iload_n hx hb dX13_bear_31 rfl (lv_at hl 3 rfl) ?_
      have hPc : va_P D vwCl ([] ++ va_pl L M) H_2 := hP.part (cx := []) [] rfl
      have hDc : va_D A ([] ++ va_pl L M) := hD.part (cx := []) [] (by decide) rfl
      have hFc : ∀ q, va_A ([] ++ va_pl L M) H_2.size q → A q := pg_free hDc hS hA
      refine va_calli (va_runS (As := [.int k3]) (rest := []) ⟨hx, hb, hml, hown, hg⟩ (r_X13_isSum l D cy K L M H_2.size k3  hW ) (va_cwS 1 hg (gS wd_774 wd_775 wd_717 wd_776) rfl rfl rfl (by decide +kernel) ⟨(Nat.le_trans (Nat.le_of_ble_eq_true rfl) hRf), (Nat.le_trans (Nat.le_of_ble_eq_true rfl) hRl)⟩) ⟨PG.blind, fun U hU hW => ⟨rfl, PG.at hPc hK hDc hN hU hW⟩⟩ rfl rfl hl.1 rfl (lv_room (Nat.le_of_ble_eq_true rfl)) dX13_bear_32 ⟨(Nat.le_trans (Nat.le_of_ble_eq_true rfl) hRc), (Nat.le_trans (Nat.le_of_ble_eq_true rfl) hRs)⟩) hS (fun q _ h => hFc q h) hFc (fun r_19 M_20 t H_18 locs ht hvm hw hB hz1 hk1 hS => ?_)
      have hp_21 := hw
      obtain ⟨hP1, hD1⟩ := hB
      rw [ht] at hP1
      obtain ⟨hP, hD⟩ := va_joinP (X := [(za, .inr (13, [.int 0, .ref z1, .int (nI z2), .int (nI z3), .int z4, .int z5, .ref z6, .ref z7, .ref z8, .ref z9, .int (nI z10), .ref z11, .ref z12, .ref z13, .ref z14, .ref z15, .int (nI z16), .ref z17, .int z18, .ref z19]))]) (cx := []) (wr := [(za, .inr (13, [.int 0, .ref z1, .int (nI z2), .int (nI z3), .int z4, .int z5, .ref z6, .ref z7, .ref z8, .ref z9, .int (nI z10), .ref z11, .ref z12, .ref z13, .ref z14, .ref z15, .int (nI z16), .ref z17, .int z18, .ref z19]))]) (rx := []) (pl := va_pl L M) (pl1 := va_pl L M) hP hD [] [0] rfl rfl (by decide) (by decide) hk1 hFc hP1 hD1
      have hP : va_P D vwCl ([(za, .inr (13, [.int 0, .ref z1, .int (nI z2), .int (nI z3), .int z4, .int z5, .ref z6, .ref z7, .ref z8, .ref z9, .int (nI z10), .ref z11, .ref z12, .ref z13, .ref z14, .ref z15, .int (nI z16), .ref z17, .int z18, .ref z19]))] ++ va_pl L M) H_18 := hP
      have hD : va_D A ([(za, .inr (13, [.int 0, .ref z1, .int (nI z2), .int (nI z3), .int z4, .int z5, .ref z6, .ref z7, .ref z8, .ref z9, .int (nI z10), .ref z11, .ref z12, .ref z13, .ref z14, .ref z15, .int (nI z16), .ref z17, .int z18, .ref z19]))] ++ va_pl L M) := hD
      rcases hp_21 with rfl | rfl
      · have hz := rfl (a := 0)
        refine lv_if_ne (tgt := 44) hx hb dX13_bear_35 (by decide) (fun _ => ?_) (fun c_22 => absurd c_22 (by decide))
        refine lv_aload_n hx hb dX13_bear_44 rfl (lv_at hl 0 rfl) ?_
        refine va_get (D := D) (ci := 13) (v := .ref z1) (C := RX13) (T := TX13) (N := 20) hx hb hg inG13 hown hK hP 0 rfl rfl 1 (by decide) (hg _ wd_739) (fun _ h9 => h9) rfl dX13_bear_45 ?_
        refine lv_iload_n hx hb dX13_bear_48 rfl (lv_at hl 1 rfl) ?_
        have hi_23 : vp_in k1 8 := (inbW (a := z2) (by omega) (inb k1 z2 (by omega) c_6 c_7))
        refine pg_aldq hx hb hK hP i1.1 9 hM9 rfl hi_23 dX13_bear_49 ?_
        rw [show f9 (k1 : Int32).toNatClampNeg = some b11 from eb_12]
        refine lv_astore (lv' := [(4, .ref b11), (0, .ref za), (1, .int k1), (2, .int k2), (3, .int k3)]) hx hb dX13_bear_50 hl (by decide) rfl (fun ls hl => ?_)
        refine lv_iload_n hx hb dX13_bear_52 rfl (lv_at hl 3 rfl) ?_
        refine lv_aload hx hb dX13_bear_53 (lv_at hl 0 rfl) ?_
        obtain ⟨v24, hv24, hc24⟩ : ∃ v : Nat, fs14[0]? = some (.int (nI v) : Value) ∧ v ≤ 999 := hl14 0 (by decide)
        refine pg_getN (D := D) (ci := 12) (v := .int (nI v24)) (C := RX12) (T := TX12) (N := 51) hx hb hg inG12 hown hK hP hb_13.1 hM14 rfl 0 (by decide) (hN.use (Cond.fieldLinkNest RX13 77 RX12 "first" "I" RX13) 9 rfl rfl) (fun _ h9 => h9) hv24 dX13_bear_55 ?_
        refine lv_icmp_lt (tgt := 68) hx hb dX13_bear_58 (by decide) (fun c_25 => ?_) (fun c_25 => ?_)
        · have hz := rfl (a := 0)
          have n_26 : ¬ 999 ≤ k2 := ltB (b := 999) (by decide) hc24 c_25
          refine lv_aload_n hx hb dX13_bear_68 rfl (lv_at hl 1 rfl) ?_
          refine lv_iconst (v := 3) hx hb dX13_bear_69 (by decide) ?_
          have hPc := hP.sub (ws' := [(za, .inr (13, [.int 0, .ref z1, .int (nI z2), .int (nI z3), .int z4, .int z5, .ref z6, .ref z7, .ref z8, .ref z9, .int (nI z10), .ref z11, .ref z12, .ref z13, .ref z14, .ref z15, .int (nI z16), .ref z17, .int z18, .ref z19]))]) [0] rfl
          have hDc := hD.sub (ws' := [(za, .inr (13, [.int 0, .ref z1, .int (nI z2), .int (nI z3), .int z4, .int z5, .ref z6, .ref z7, .ref z8, .ref z9, .int (nI z10), .ref z11, .ref z12, .ref z13, .ref z14, .ref z15, .int (nI z16), .ref z17, .int z18, .ref z19]))]) [0] (by decide) rfl
          have hKc := hK.sub (tys' := []) [] rfl
          have hFc := va_free (wc := [(za, .inr (13, [.int 0, .ref z1, .int (nI z2), .int (nI z3), .int z4, .int z5, .ref z6, .ref z7, .ref z8, .ref z9, .int (nI z10), .ref z11, .ref z12, .ref z13, .ref z14, .ref z15, .int (nI z16), .ref z17, .int z18, .ref z19]))]) hD hS hA [0] rfl
          refine va_calli (va_runV (As := [.int 3]) (rest := []) ⟨hx, hb, hml, hown, hg⟩ (m_refused l D H_18.size za 0 z1 (nI z2) (nI z3) z4 z5 z6 z7 z8 z9 (nI z10) z11 z12 z13 z14 z15 (nI z16) z17 z18 z19 3) (cwV 1 hg (gV wd_725 wd_726 wd_727 wd_717 wd_728) rfl rfl rfl (by decide +kernel) ⟨(Nat.le_trans (Nat.le_of_ble_eq_true rfl) hRf), (Nat.le_trans (Nat.le_of_ble_eq_true rfl) hRl)⟩) ⟨Pr.blind, va_recv hK hP (ci := 13) (q0 := 0) rfl rfl, fun U hU hW => ⟨rfl, Pr.at hPc hKc hDc hN hU hW⟩⟩ rfl rfl hl.1 rfl (lv_room (Nat.le_of_ble_eq_true rfl)) dX13_bear_70 ⟨(Nat.le_trans (Nat.le_of_ble_eq_true rfl) hRc), (Nat.le_trans (Nat.le_of_ble_eq_true rfl) hRs)⟩) hS (fun q _ h => hFc q h) hFc (fun r_28 M_29 t H_27 locs ht hvm hw hB hz1 hk1 hS => ?_)
          have hp_30 := hw
          obtain ⟨hP1, hK1, hD1⟩ := hB
          rw [ht] at hP1
          obtain ⟨hP, hD⟩ := va_joinQ (X := [(za, .inr (13, [.int 0, .ref z1, .int (nI z2), .int (nI z3), .int z4, .int z5, .ref z6, .ref z7, .ref z8, .ref z9, .int (nI z10), .ref z11, .ref z12, .ref z13, .ref z14, .ref z15, .int (nI z16), .ref z17, .int z18, .ref z19]))]) (cx := [(za, .inr (13, [.int 0, .ref z1, .int (nI z2), .int (nI z3), .int z4, .int z5, .ref z6, .ref z7, .ref z8, .ref z9, .int (nI z10), .ref z11, .ref z12, .ref z13, .ref z14, .ref z15, .int (nI z16), .ref z17, .int z18, .ref z19]))]) (wr := []) (w1 := [(za, .inr (13, [.int 0, .ref z1, .int (nI z2), .int (nI z3), .int 3, .int (-1), .ref z6, .ref z7, .ref z8, .ref z9, .int (nI z10), .ref z11, .ref z12, .ref z13, .ref z14, .ref z15, .int (nI z16), .ref z17, .int z18, .ref z19]))]) (pl := va_pl L M) hP hD [0] [] rfl rfl (by decide) (by decide) hk1 hFc hP1 hD1
          have hP : va_P D vwCl ([(za, .inr (13, [.int 0, .ref z1, .int (nI z2), .int (nI z3), .int 3, .int (-1), .ref z6, .ref z7, .ref z8, .ref z9, .int (nI z10), .ref z11, .ref z12, .ref z13, .ref z14, .ref z15, .int (nI z16), .ref z17, .int z18, .ref z19]))] ++ va_pl L M) H_27 := hP
          have hD : va_D A ([(za, .inr (13, [.int 0, .ref z1, .int (nI z2), .int (nI z3), .int 3, .int (-1), .ref z6, .ref z7, .ref z8, .ref z9, .int (nI z10), .ref z11, .ref z12, .ref z13, .ref z14, .ref z15, .int (nI z16), .ref z17, .int z18, .ref z19]))] ++ va_pl L M) := hD
          have hq := Eq.symm hp_30
          subst hq
          rw [hQ]
          exact W.iret (v := (-1)) hx hb hr (fun t ht hW9 => ⟨⟨(-1), M, rfl, ⟨hW, hF, hGI, trivial⟩, ⟨3, (-1), z16, z18, (by omega), by rw [ht]; exact hP, hD⟩⟩, hS.F ht⟩) hS.2.2 dX13_bear_73
        · have hz := rfl (a := 0)
          refine lv_iload_n hx hb dX13_bear_61 rfl (lv_at hl 3 rfl) ?_
          refine lv_sipush (v := 1000) hx hb dX13_bear_62 (by decide) ?_
          refine lv_icmp_lt (tgt := 74) hx hb dX13_bear_65 (by decide) (fun c_31 => ?_) (fun c_31 => ?_)
          · have hz := rfl (a := 0)
            refine lv_aload_n hx hb dX13_bear_74 rfl (lv_at hl 1 rfl) ?_
            refine lv_iconst (v := 0) hx hb dX13_bear_75 (by decide) ?_
            refine va_put (D := D) (ci := 13) (v := .int 0) (ty := .int) (C := RX13) (T := TX13) (N := 20) hx hb hg inG13 tyX13 tyX13_ok nmX13 hown hK hP hD hS 0 rfl rfl 16 (by decide) (hg _ wd_769) (fun _ h9 => h9) rfl (by decide +kernel) rfl rfl (Nat.le_of_ble_eq_true rfl) dX13_bear_76 (fun H_32 locs hP hD hS => ?_)
            have hP : va_P D vwCl ([(za, .inr (13, [.int 0, .ref z1, .int (nI z2), .int (nI z3), .int z4, .int z5, .ref z6, .ref z7, .ref z8, .ref z9, .int (nI z10), .ref z11, .ref z12, .ref z13, .ref z14, .ref z15, .int 0, .ref z17, .int z18, .ref z19]))] ++ va_pl L M) H_32 := hP
            have hD : va_D A ([(za, .inr (13, [.int 0, .ref z1, .int (nI z2), .int (nI z3), .int z4, .int z5, .ref z6, .ref z7, .ref z8, .ref z9, .int (nI z10), .ref z11, .ref z12, .ref z13, .ref z14, .ref z15, .int 0, .ref z17, .int z18, .ref z19]))] ++ va_pl L M) := hD
            refine lv_iconst (v := 0) hx hb dX13_bear_79 (by decide) ?_
            refine lv_istore (lv' := [(5, .int 0), (4, .ref b11), (0, .ref za), (1, .int k1), (2, .int k2), (3, .int k3)]) hx hb dX13_bear_80 hl (by decide) rfl (fun ls hl => ?_)
            have key_33 : ∀ (fu_35 : Nat) (v5w36 : Nat) (zgw36 : Nat) (M_39 : Hp) (H_40 : Heap) (locs : List Loc) (ls : Array Slot), 24 - v5w36 < fu_35 → M_39 b11 = .inr (12, fs14) → v5w36 ≤ 24 → zgw36 ≤ v5w36 → WOM cy K L M_39 → fr K L [14, 15, 32] M M_39 → VW K L M M_39 b11 (fx M b11) (ax M b11) → va_P D vwCl ([(za, .inr (13, [.int 0, .ref z1, .int (nI z2), .int (nI z3), .int z4, .int z5, .ref z6, .ref z7, .ref z8, .ref z9, .int (nI z10), .ref z11, .ref z12, .ref z13, .ref z14, .ref z15, .int (nI zgw36), .ref z17, .int z18, .ref z19]))] ++ va_pl L M_39) H_40 → va_D A ([(za, .inr (13, [.int 0, .ref z1, .int (nI z2), .int (nI z3), .int z4, .int z5, .ref z6, .ref z7, .ref z8, .ref z9, .int (nI z10), .ref z11, .ref z12, .ref z13, .ref z14, .ref z15, .int (nI zgw36), .ref z17, .int z18, .ref z19]))] ++ va_pl L M_39) → va_S A s.heap H_40 locs → lv_has ls 9 [(5, .int (nI v5w36)), (4, .ref b11), (0, .ref za), (1, .int k1), (2, .int k2), (3, .int k3)] → W p l e R s m ([.ref za, .int k1, .int k2, .int k3] : List Value).toArray below meth c H_40 locs 0 0 Q (F0 m 82 ls []) := by
              intro fu_35
              induction fu_35 with
              | zero => intro v5w36 zgw36 M_39 H_40 locs ls h; exact absurd h (Nat.not_lt_zero _)
              | succ fu_35 ih_34 =>
                intro v5w36 zgw36 M_39 H_40 locs ls hfu hM_41 hx_37 hx_38 hW hF hV hP hD hS hl
                refine lv_iload hx hb dX13_bear_82 (lv_at hl 0 rfl) ?_
                refine lv_aload hx hb dX13_bear_84 (lv_at hl 1 rfl) ?_
                obtain ⟨v42, hv42, hc42⟩ : ∃ v : Nat, fs14[10]? = some (.int (nI v) : Value) ∧ v ≤ 24 := hl14 10 (by decide)
                refine pg_getN (D := D) (ci := 12) (v := .int (nI v42)) (C := RX12) (T := TX12) (N := 51) hx hb hg inG12 hown hK hP hb_13.1 hM_41 rfl 10 (by decide) (hN.use (Cond.fieldLinkNest RX13 68 RX12 "tenures" "I" RX13) 19 rfl rfl) (fun _ h9 => h9) hv42 dX13_bear_86 ?_
                refine lv_icmp_ge (tgt := 282) hx hb dX13_bear_89 (by decide) (fun c_43 => ?_) (fun c_43 => ?_)
                · have hz := rfl (a := 0)
                  have n_44 : v42 ≤ v5w36 := (iLE (a := v42) (b := v5w36) (by omega) (by omega)).mp c_43
                  refine lv_aload_n hx hb dX13_bear_282 rfl (lv_at hl 2 rfl) ?_
                  refine lv_aload hx hb dX13_bear_283 (lv_at hl 1 rfl) ?_
                  refine lv_iload_n hx hb dX13_bear_285 rfl (lv_at hl 5 rfl) ?_
                  refine lv_i2l hx hb dX13_bear_286 rfl ?_
                  refine lv_topl (fun f_45 ef_45 => ?_)
                  have hPc : va_P D vwCl ([(za, .inr (13, [.int 0, .ref z1, .int (nI z2), .int (nI z3), .int z4, .int z5, .ref z6, .ref z7, .ref z8, .ref z9, .int (nI z10), .ref z11, .ref z12, .ref z13, .ref z14, .ref z15, .int (nI zgw36), .ref z17, .int z18, .ref z19]))] ++ va_pl L M_39) H_40 := hP
                  have hDc : va_D A ([(za, .inr (13, [.int 0, .ref z1, .int (nI z2), .int (nI z3), .int z4, .int z5, .ref z6, .ref z7, .ref z8, .ref z9, .int (nI z10), .ref z11, .ref z12, .ref z13, .ref z14, .ref z15, .int (nI zgw36), .ref z17, .int z18, .ref z19]))] ++ va_pl L M_39) := hD
                  have hFc : ∀ q, va_A ([(za, .inr (13, [.int 0, .ref z1, .int (nI z2), .int (nI z3), .int z4, .int z5, .ref z6, .ref z7, .ref z8, .ref z9, .int (nI z10), .ref z11, .ref z12, .ref z13, .ref z14, .ref z15, .int (nI zgw36), .ref z17, .int z18, .ref z19]))] ++ va_pl L M_39) H_40.size q → A q := pg_free hDc hS hA
                  refine va_calll (va_runV (As := [.ref b11, .long f_45]) (rest := []) ⟨hx, hb, hml, hown, hg⟩ (r_X13_bearing l D cy K L M_39 H_40.size za 0 z1 z2 z3 z4 z5 z6 z7 z8 z9 z10 z11 z12 z13 z14 z15 zgw36 z17 z18 z19 b11 f_45  hW i1 b2 b3 i6 i7 i8 i9 b10 i11 i12 i13 i14 i15 (by omega) i17 i19 hb_13) (cwV 2 hg (gV wd_799 wd_800 wd_801 wd_717 wd_802) rfl rfl rfl (by decide +kernel) ⟨(Nat.le_trans (Nat.le_of_ble_eq_true rfl) hRf), (Nat.le_trans (Nat.le_of_ble_eq_true rfl) hRl)⟩) ⟨PG.blind, va_recv hK hP (ci := 13) (q0 := 0) rfl rfl, fun U hU hW => ⟨rfl, PG.at hPc hK hDc hN hU hW⟩⟩ rfl rfl hl.1 rfl (lv_room (Nat.le_of_ble_eq_true rfl)) dX13_bear_287 ⟨(Nat.le_trans (Nat.le_of_ble_eq_true rfl) hRc), (Nat.le_trans (Nat.le_of_ble_eq_true rfl) hRs)⟩) hS (fun q _ h => hFc q h) hFc (fun r_47 M_48 t H_46 locs ht hvm hw hB hz1 hk1 hS => ?_)
                  have hWb := hW
                  obtain ⟨hW, hF2, hp_49⟩ := hw
                  obtain ⟨hP1, hD1⟩ := hB
                  rw [ht] at hP1
                  have hP : va_P D vwCl ([(za, .inr (13, [.int 0, .ref z1, .int (nI z2), .int (nI z3), .int z4, .int z5, .ref z6, .ref z7, .ref z8, .ref z9, .int (nI z10), .ref z11, .ref z12, .ref z13, .ref z14, .ref z15, .int (nI zgw36), .ref z17, .int z18, .ref z19]))] ++ va_pl L M_48) H_46 := hP1
                  have hD : va_D A ([(za, .inr (13, [.int 0, .ref z1, .int (nI z2), .int (nI z3), .int z4, .int z5, .ref z6, .ref z7, .ref z8, .ref z9, .int (nI z10), .ref z11, .ref z12, .ref z13, .ref z14, .ref z15, .int (nI zgw36), .ref z17, .int z18, .ref z19]))] ++ va_pl L M_48) := hD1.mono hFc
                  have hM_50 : M_48 b11 = .inr (12, fs14) := (hF2.at hb_13 (by decide)).trans hM_41
                  have hF : fr K L [14, 15, 32] M M_48 := hF.tr hF2 (by decide)
                  have hV : VW K L M M_48 b11 (fx M b11) (ax M b11) := hV.cal hWb hW hF2 ((fG.rf (js := [])).frR hF2 (by decide)) (by decide) (by decide) hb_13
                  refine lv_lstore (lv' := [(5, .long r_47), (4, .ref b11), (0, .ref za), (1, .int k1), (2, .int k2), (3, .int k3)]) hx hb dX13_bear_290 hl (by decide) rfl (fun ls hl => ?_)
                  refine lv_iconst (v := 0) hx hb dX13_bear_292 (by decide) ?_
                  refine lv_istore (lv' := [(7, .int 0), (5, .long r_47), (4, .ref b11), (0, .ref za), (1, .int k1), (2, .int k2), (3, .int k3)]) hx hb dX13_bear_293 hl (by decide) rfl (fun ls hl => ?_)
                  have key_51 : ∀ (fu_53 : Nat) (v7w54 : Nat) (M_56 : Hp) (H_57 : Heap) (locs : List Loc) (ls : Array Slot), 24 - v7w54 < fu_53 → v7w54 ≤ 24 → WOM cy K L M_56 → fr K L [14, 15, 32] M M_56 → VW K L M M_56 b11 (fx M b11) (ax M b11) → va_P D vwCl ([(za, .inr (13, [.int 0, .ref z1, .int (nI z2), .int (nI z3), .int z4, .int z5, .ref z6, .ref z7, .ref z8, .ref z9, .int (nI z10), .ref z11, .ref z12, .ref z13, .ref z14, .ref z15, .int (nI zgw36), .ref z17, .int z18, .ref z19]))] ++ va_pl L M_56) H_57 → va_D A ([(za, .inr (13, [.int 0, .ref z1, .int (nI z2), .int (nI z3), .int z4, .int z5, .ref z6, .ref z7, .ref z8, .ref z9, .int (nI z10), .ref z11, .ref z12, .ref z13, .ref z14, .ref z15, .int (nI zgw36), .ref z17, .int z18, .ref z19]))] ++ va_pl L M_56) → va_S A s.heap H_57 locs → lv_has ls 9 [(7, .int (nI v7w54)), (5, .long r_47), (4, .ref b11), (0, .ref za), (1, .int k1), (2, .int k2), (3, .int k3)] → W p l e R s m ([.ref za, .int k1, .int k2, .int k3] : List Value).toArray below meth c H_57 locs 0 0 Q (F0 m 295 ls []) := by
                    intro fu_53
                    induction fu_53 with
                    | zero => intro v7w54 M_56 H_57 locs ls h; exact absurd h (Nat.not_lt_zero _)
                    | succ fu_53 ih_52 =>
                      intro v7w54 M_56 H_57 locs ls hfu hx_55 hW hF hV hP hD hS hl
                      refine lv_iload hx hb dX13_bear_295 (lv_at hl 0 rfl) ?_
                      refine lv_bipush (v := 24) hx hb dX13_bear_297 (by decide) ?_
                      refine lv_icmp_ge (tgt := 316) hx hb dX13_bear_299 (by decide) (fun c_58 => ?_) (fun c_58 => ?_)
                      · have hz := rfl (a := 0)
                        have n_59 : 24 ≤ v7w54 := (iLE (a := 24) (b := v7w54) (by omega) (by omega)).mp c_58
                        refine lv_iconst (v := 0) hx hb dX13_bear_316 (by decide) ?_
                        refine lv_istore (lv' := [(7, .int 0), (5, .long r_47), (4, .ref b11), (0, .ref za), (1, .int k1), (2, .int k2), (3, .int k3)]) hx hb dX13_bear_317 hl (by decide) rfl (fun ls hl => ?_)
                        refine lv_iconst (v := 0) hx hb dX13_bear_319 (by decide) ?_
                        refine lv_istore (lv' := [(8, .int 0), (7, .int 0), (5, .long r_47), (4, .ref b11), (0, .ref za), (1, .int k1), (2, .int k2), (3, .int k3)]) hx hb dX13_bear_320 hl (by decide) rfl (fun ls hl => ?_)
                        have key_60 : ∀ (fu_62 : Nat) (v7w63 : Int32) (v8w63 : Nat) (M_65 : Hp) (H_66 : Heap) (locs : List Loc) (ls : Array Slot), 24 - v8w63 < fu_62 → v8w63 ≤ 24 → WOM cy K L M_65 → fr K L [14, 15, 32] M M_65 → VW K L M M_65 b11 (fx M b11) (ax M b11) → va_P D vwCl ([(za, .inr (13, [.int 0, .ref z1, .int (nI z2), .int (nI z3), .int z4, .int z5, .ref z6, .ref z7, .ref z8, .ref z9, .int (nI z10), .ref z11, .ref z12, .ref z13, .ref z14, .ref z15, .int (nI zgw36), .ref z17, .int z18, .ref z19]))] ++ va_pl L M_65) H_66 → va_D A ([(za, .inr (13, [.int 0, .ref z1, .int (nI z2), .int (nI z3), .int z4, .int z5, .ref z6, .ref z7, .ref z8, .ref z9, .int (nI z10), .ref z11, .ref z12, .ref z13, .ref z14, .ref z15, .int (nI zgw36), .ref z17, .int z18, .ref z19]))] ++ va_pl L M_65) → va_S A s.heap H_66 locs → lv_has ls 9 [(8, .int (nI v8w63)), (7, .int v7w63), (5, .long r_47), (4, .ref b11), (0, .ref za), (1, .int k1), (2, .int k2), (3, .int k3)] → W p l e R s m ([.ref za, .int k1, .int k2, .int k3] : List Value).toArray below meth c H_66 locs 0 0 Q (F0 m 322 ls []) := by
                          intro fu_62
                          induction fu_62 with
                          | zero => intro v7w63 v8w63 M_65 H_66 locs ls h; exact absurd h (Nat.not_lt_zero _)
                          | succ fu_62 ih_61 =>
                            intro v7w63 v8w63 M_65 H_66 locs ls hfu hx_64 hW hF hV hP hD hS hl
                            refine lv_iload hx hb dX13_bear_322 (lv_at hl 0 rfl) ?_
                            refine lv_aload_n hx hb dX13_bear_324 rfl (lv_at hl 4 rfl) ?_
                            refine va_get (D := D) (ci := 13) (v := .int (nI zgw36)) (C := RX13) (T := TX13) (N := 20) hx hb hg inG13 hown hK hP 0 rfl rfl 16 (by decide) (hg _ wd_769) (fun _ h9 => h9) rfl dX13_bear_325 ?_
                            refine lv_icmp_ge (tgt := 379) hx hb dX13_bear_328 (by decide) (fun c_67 => ?_) (fun c_67 => ?_)
                            · have hz := rfl (a := 0)
                              have n_68 : zgw36 ≤ v8w63 := (iLE (a := zgw36) (b := v8w63) (by omega) (by omega)).mp c_67
                              refine lv_aload_n hx hb dX13_bear_379 rfl (lv_at hl 4 rfl) ?_
                              refine lv_lload hx hb dX13_bear_380 (lv_at hl 2 rfl) ?_
                              refine lv_l2i hx hb dX13_bear_382 rfl ?_
                              refine lv_topi (fun f_69 ef_69 => ?_)
                              refine va_put (D := D) (ci := 13) (v := .int f_69) (ty := .int) (C := RX13) (T := TX13) (N := 20) hx hb hg inG13 tyX13 tyX13_ok nmX13 hown hK hP hD hS 0 rfl rfl 18 (by decide) (hg _ wd_722) (fun _ h9 => h9) rfl (by decide +kernel) rfl rfl (Nat.le_of_ble_eq_true rfl) dX13_bear_383 (fun H_70 locs hP hD hS => ?_)
                              have hP : va_P D vwCl ([(za, .inr (13, [.int 0, .ref z1, .int (nI z2), .int (nI z3), .int z4, .int z5, .ref z6, .ref z7, .ref z8, .ref z9, .int (nI z10), .ref z11, .ref z12, .ref z13, .ref z14, .ref z15, .int (nI zgw36), .ref z17, .int f_69, .ref z19]))] ++ va_pl L M_65) H_70 := hP
                              have hD : va_D A ([(za, .inr (13, [.int 0, .ref z1, .int (nI z2), .int (nI z3), .int z4, .int z5, .ref z6, .ref z7, .ref z8, .ref z9, .int (nI z10), .ref z11, .ref z12, .ref z13, .ref z14, .ref z15, .int (nI zgw36), .ref z17, .int f_69, .ref z19]))] ++ va_pl L M_65) := hD
                              refine lv_aload_n hx hb dX13_bear_386 rfl (lv_at hl 4 rfl) ?_
                              refine lv_iload hx hb dX13_bear_387 (lv_at hl 1 rfl) ?_
                              have hPc := hP.sub (ws' := [(za, .inr (13, [.int 0, .ref z1, .int (nI z2), .int (nI z3), .int z4, .int z5, .ref z6, .ref z7, .ref z8, .ref z9, .int (nI z10), .ref z11, .ref z12, .ref z13, .ref z14, .ref z15, .int (nI zgw36), .ref z17, .int f_69, .ref z19]))]) [0] rfl
                              have hDc := hD.sub (ws' := [(za, .inr (13, [.int 0, .ref z1, .int (nI z2), .int (nI z3), .int z4, .int z5, .ref z6, .ref z7, .ref z8, .ref z9, .int (nI z10), .ref z11, .ref z12, .ref z13, .ref z14, .ref z15, .int (nI zgw36), .ref z17, .int f_69, .ref z19]))]) [0] (by decide) rfl
                              have hKc := hK.sub (tys' := []) [] rfl
                              have hFc := va_free (wc := [(za, .inr (13, [.int 0, .ref z1, .int (nI z2), .int (nI z3), .int z4, .int z5, .ref z6, .ref z7, .ref z8, .ref z9, .int (nI z10), .ref z11, .ref z12, .ref z13, .ref z14, .ref z15, .int (nI zgw36), .ref z17, .int f_69, .ref z19]))]) hD hS hA [0] rfl
                              refine va_calli (va_runV (As := [.int v7w63]) (rest := []) ⟨hx, hb, hml, hown, hg⟩ (m_done l D H_70.size za 0 z1 (nI z2) (nI z3) z4 z5 z6 z7 z8 z9 (nI z10) z11 z12 z13 z14 z15 (nI zgw36) z17 f_69 z19 v7w63) (cwV 1 hg (gV wd_730 wd_731 wd_732 wd_717 wd_733) rfl rfl rfl (by decide +kernel) ⟨(Nat.le_trans (Nat.le_of_ble_eq_true rfl) hRf), (Nat.le_trans (Nat.le_of_ble_eq_true rfl) hRl)⟩) ⟨Pr.blind, va_recv hK hP (ci := 13) (q0 := 0) rfl rfl, fun U hU hW => ⟨rfl, Pr.at hPc hKc hDc hN hU hW⟩⟩ rfl rfl hl.1 rfl (lv_room (Nat.le_of_ble_eq_true rfl)) dX13_bear_389 ⟨(Nat.le_trans (Nat.le_of_ble_eq_true rfl) hRc), (Nat.le_trans (Nat.le_of_ble_eq_true rfl) hRs)⟩) hS (fun q _ h => hFc q h) hFc (fun r_72 M_73 t H_71 locs ht hvm hw hB hz1 hk1 hS => ?_)
                              have hp_74 := hw
                              obtain ⟨hP1, hK1, hD1⟩ := hB
                              rw [ht] at hP1
                              obtain ⟨hP, hD⟩ := va_joinQ (X := [(za, .inr (13, [.int 0, .ref z1, .int (nI z2), .int (nI z3), .int z4, .int z5, .ref z6, .ref z7, .ref z8, .ref z9, .int (nI z10), .ref z11, .ref z12, .ref z13, .ref z14, .ref z15, .int (nI zgw36), .ref z17, .int f_69, .ref z19]))]) (cx := [(za, .inr (13, [.int 0, .ref z1, .int (nI z2), .int (nI z3), .int z4, .int z5, .ref z6, .ref z7, .ref z8, .ref z9, .int (nI z10), .ref z11, .ref z12, .ref z13, .ref z14, .ref z15, .int (nI zgw36), .ref z17, .int f_69, .ref z19]))]) (wr := []) (w1 := [(za, .inr (13, [.int 0, .ref z1, .int (nI z2), .int (nI z3), .int 0, .int (-1), .ref z6, .ref z7, .ref z8, .ref z9, .int (nI z10), .ref z11, .ref z12, .ref z13, .ref z14, .ref z15, .int (nI zgw36), .ref z17, .int f_69, .ref z19]))]) (pl := va_pl L M_65) hP hD [0] [] rfl rfl (by decide) (by decide) hk1 hFc hP1 hD1
                              have hP : va_P D vwCl ([(za, .inr (13, [.int 0, .ref z1, .int (nI z2), .int (nI z3), .int 0, .int (-1), .ref z6, .ref z7, .ref z8, .ref z9, .int (nI z10), .ref z11, .ref z12, .ref z13, .ref z14, .ref z15, .int (nI zgw36), .ref z17, .int f_69, .ref z19]))] ++ va_pl L M_65) H_71 := hP
                              have hD : va_D A ([(za, .inr (13, [.int 0, .ref z1, .int (nI z2), .int (nI z3), .int 0, .int (-1), .ref z6, .ref z7, .ref z8, .ref z9, .int (nI z10), .ref z11, .ref z12, .ref z13, .ref z14, .ref z15, .int (nI zgw36), .ref z17, .int f_69, .ref z19]))] ++ va_pl L M_65) := hD
                              have hq := Eq.symm hp_74
                              subst hq
                              have hA9 : HA (ax M b11 2) (ax M b11 3) := hAT.1
                              have hB9 : HB (fx M b11 16) (fx M b11 14) (ax M b11 3) (ax M b11 43) := hAT.2.1
                              have hC9 : HC (fx M b11 10) (ax M b11 22) (ax M b11 23) := hAT.2.2.1
                              have hD9 : HD (fx M b11 0) (fx M b11 11) (fx M b11 15) (ax M b11 34) (ax M b11 41) := hAT.2.2.2.1
                              have hE9 : HE (fx M b11 0) (fx M b11 1) (fx M b11 12) (fx M b11 13) (ax M b11 37) := hAT.2.2.2.2
                              have hH9 : HI (fx M b11) (ax M b11) := ⟨hA9, hB9, hC9, hD9, hE9⟩
                              have hGI9 : GI K L z1 z2 M_65 := GI.fin hW0 i1 b2 hGI hact hV (hF.at i1 (by decide)) hH9
                              rw [hQ]
                              exact W.iret (v := v7w63) hx hb hr (fun t ht hW9 => ⟨⟨v7w63, M_65, rfl, ⟨hW, hF, hGI9, trivial⟩, ⟨0, (-1), zgw36, f_69, (by omega), by rw [ht]; exact hP, hD⟩⟩, hS.F ht⟩) hS.2.2 dX13_bear_392
                            · have hz := rfl (a := 0)
                              have n_75 : ¬ (zgw36 ≤ v8w63) := fun q => c_67 ((iLE (a := zgw36) (b := v8w63) (by omega) (by omega)).mpr q)
                              refine lv_aload_n hx hb dX13_bear_331 rfl (lv_at hl 4 rfl) ?_
                              refine va_get (D := D) (ci := 13) (v := .ref z17) (C := RX13) (T := TX13) (N := 20) hx hb hg inG13 hown hK hP 0 rfl rfl 17 (by decide) (hg _ wd_721) (fun _ h9 => h9) rfl dX13_bear_332 ?_
                              refine lv_aload_n hx hb dX13_bear_335 rfl (lv_at hl 4 rfl) ?_
                              refine va_get (D := D) (ci := 13) (v := .ref z11) (C := RX13) (T := TX13) (N := 20) hx hb hg inG13 hown hK hP 0 rfl rfl 11 (by decide) (hg _ wd_764) (fun _ h9 => h9) rfl dX13_bear_336 ?_
                              refine lv_iload hx hb dX13_bear_339 (lv_at hl 0 rfl) ?_
                              obtain ⟨f76, hM76, hf76⟩ := hW.open_32 i11
                              have hi_77 : vp_in (nI v8w63) 24 := (inbN v8w63 24 (by omega) (by omega))
                              refine pg_iald hx hb hK hP i11.1 0 hM76 rfl hi_77 dX13_bear_341 ?_
                              have hp_78 := hf76 _ (vp_lt hi_77)
                              obtain ⟨c_79, hc_80, ec_81⟩ := hp_78
                              rw [ec_81]
                              refine lv_aload_n hx hb dX13_bear_342 rfl (lv_at hl 4 rfl) ?_
                              refine va_get (D := D) (ci := 13) (v := .ref z13) (C := RX13) (T := TX13) (N := 20) hx hb hg inG13 hown hK hP 0 rfl rfl 13 (by decide) (hg _ wd_789) (fun _ h9 => h9) rfl dX13_bear_343 ?_
                              refine lv_iload hx hb dX13_bear_346 (lv_at hl 0 rfl) ?_
                              obtain ⟨f82, hM82⟩ := hW.open_15 i13
                              refine pg_lald hx hb hK hP i13.1 1 hM82 rfl (inbN v8w63 24 (by omega) (by omega)) dX13_bear_348 ?_
                              refine lv_topl (fun f_83 ef_83 => ?_)
                              refine lv_l2i hx hb dX13_bear_349 rfl ?_
                              refine lv_topi (fun f_84 ef_84 => ?_)
                              obtain ⟨f85, hM85⟩ := hW.open_14 i17
                              refine pg_iast hx hb hK hP hD hS i17.1 0 hM85 rfl (inbN c_79 24 (by omega) (by omega)) dX13_bear_350 (fun H_86 locs hP hD hS => ?_)
                              obtain ⟨M_87, eM_87⟩ : ∃ M1 : Hp, M1 = va_up M_65 z17 (.inl (cy 14, 24, .inl (upd f85 ((nI c_79) : Int32).toNatClampNeg f_84))) := ⟨_, rfl⟩
                              have hV : VW K L M M_87 b11 (fx M b11) (ax M b11) := by rw [eM_87]; exact hV.oth hW hb_13 i17 (by decide)
                              have hP : va_P D vwCl ([(za, .inr (13, [.int 0, .ref z1, .int (nI z2), .int (nI z3), .int z4, .int z5, .ref z6, .ref z7, .ref z8, .ref z9, .int (nI z10), .ref z11, .ref z12, .ref z13, .ref z14, .ref z15, .int (nI zgw36), .ref z17, .int z18, .ref z19]))] ++ va_pl L M_87) H_86 := by rw [eM_87]; exact hP
                              have hD : va_D A ([(za, .inr (13, [.int 0, .ref z1, .int (nI z2), .int (nI z3), .int z4, .int z5, .ref z6, .ref z7, .ref z8, .ref z9, .int (nI z10), .ref z11, .ref z12, .ref z13, .ref z14, .ref z15, .int (nI zgw36), .ref z17, .int z18, .ref z19]))] ++ va_pl L M_87) := by rw [eM_87]; exact hD
                              have hW : WOM cy K L M_87 := by rw [eM_87]; exact hW.up_14 i17 ⟨_, rfl⟩
                              have hF : fr K L [14, 15, 32] M M_87 := by rw [eM_87]; exact hF.up i17 (by decide)
                              have hM_88 : M_87 z17 = .inl (cy 14, 24, .inl (upd f85 ((nI c_79) : Int32).toNatClampNeg f_84)) := by rw [eM_87]; exact va_up_self _ _ _
                              have hM_89 : M_87 z11 = .inl (cy 14, 24, .inl (f76)) := by rw [eM_87, va_up_ne _ _ (i11.neT i17 (by decide))]; exact hM76
                              have hM_90 : M_87 z13 = .inl (cy 15, 24, .inr (.inl (f82))) := by rw [eM_87, va_up_ne _ _ (i13.neT i17 (by decide))]; exact hM82
                              obtain ⟨f_91, ef_91⟩ : ∃ f : Nat → Int32, f = upd f85 ((nI c_79) : Int32).toNatClampNeg f_84 := ⟨_, rfl⟩
                              rw [← ef_91] at hM_88
                              refine lv_iload hx hb dX13_bear_351 (lv_at hl 1 rfl) ?_
                              refine lv_aload_n hx hb dX13_bear_353 rfl (lv_at hl 4 rfl) ?_
                              refine va_get (D := D) (ci := 13) (v := .ref z13) (C := RX13) (T := TX13) (N := 20) hx hb hg inG13 hown hK hP 0 rfl rfl 13 (by decide) (hg _ wd_789) (fun _ h9 => h9) rfl dX13_bear_354 ?_
                              refine lv_iload hx hb dX13_bear_357 (lv_at hl 0 rfl) ?_
                              refine pg_lald hx hb hK hP i13.1 1 hM_90 rfl (inbN v8w63 24 (by omega) (by omega)) dX13_bear_359 ?_
                              refine lv_topl (fun f_92 ef_92 => ?_)
                              refine lv_lconst (v := 0) hx hb dX13_bear_360 (by decide) ?_
                              refine W.lcmp hx hb dX13_bear_361 ?_
                              refine lv_if_le (tgt := 369) hx hb dX13_bear_362 (by decide) (fun c_93 => ?_) (fun c_93 => ?_)
                              · have hz := rfl (a := 0)
                                have d_94 : f_92 ≤ 0 := lc_let c_93
                                refine lv_iconst (v := 0) hx hb dX13_bear_369 (by decide) ?_
                                refine lv_iadd hx hb dX13_bear_370 ?_
                                refine lv_topi (fun f_95 ef_95 => ?_)
                                refine lv_istore (lv' := [(7, .int f_95), (8, .int (nI v8w63)), (5, .long r_47), (4, .ref b11), (0, .ref za), (1, .int k1), (2, .int k2), (3, .int k3)]) hx hb dX13_bear_371 hl (by decide) rfl (fun ls hl => ?_)
                                refine lv_iinc (v := (nI (v8w63 + 1))) (lv' := [(8, .int (nI (v8w63 + 1))), (7, .int f_95), (5, .long r_47), (4, .ref b11), (0, .ref za), (1, .int k1), (2, .int k2), (3, .int k3)]) hx hb dX13_bear_373 hl (k := 1) rfl (nI_1 v8w63) (by decide) rfl (fun ls hl => ?_)
                                refine lv_goto (tgt := 322) hx hb dX13_bear_376 (by decide) ?_
                                exact ih_61 f_95 (v8w63 + 1) M_87 H_86 _ _ (by omega) (by omega) hW hF hV hP hD hS (lv_sub hl [0, 1, 2, 3, 4, 5, 6, 7] rfl)
                              · have hz := rfl (a := 0)
                                have d_94 : ¬ f_92 ≤ 0 := lc_lef c_93
                                refine lv_iconst (v := 1) hx hb dX13_bear_365 (by decide) ?_
                                refine lv_goto (tgt := 370) hx hb dX13_bear_366 (by decide) ?_
                                refine lv_iadd hx hb dX13_bear_370 ?_
                                refine lv_topi (fun f_96 ef_96 => ?_)
                                refine lv_istore (lv' := [(7, .int f_96), (8, .int (nI v8w63)), (5, .long r_47), (4, .ref b11), (0, .ref za), (1, .int k1), (2, .int k2), (3, .int k3)]) hx hb dX13_bear_371 hl (by decide) rfl (fun ls hl => ?_)
                                refine lv_iinc (v := (nI (v8w63 + 1))) (lv' := [(8, .int (nI (v8w63 + 1))), (7, .int f_96), (5, .long r_47), (4, .ref b11), (0, .ref za), (1, .int k1), (2, .int k2), (3, .int k3)]) hx hb dX13_bear_373 hl (k := 1) rfl (nI_1 v8w63) (by decide) rfl (fun ls hl => ?_)
                                refine lv_goto (tgt := 322) hx hb dX13_bear_376 (by decide) ?_
                                exact ih_61 f_96 (v8w63 + 1) M_87 H_86 _ _ (by omega) (by omega) hW hF hV hP hD hS (lv_sub hl [0, 1, 2, 3, 4, 5, 6, 7] rfl)
                        exact key_60 (24 - 0 + 1) 0 0 M_56 H_57 _ _ (by omega) (by omega) hW hF hV hP hD hS (lv_sub hl [0, 1, 2, 3, 4, 5, 6, 7] rfl)
                      · have hz := rfl (a := 0)
                        have n_97 : ¬ (24 ≤ v7w54) := fun q => c_58 ((iLE (a := 24) (b := v7w54) (by omega) (by omega)).mpr q)
                        refine lv_aload_n hx hb dX13_bear_302 rfl (lv_at hl 3 rfl) ?_
                        refine va_get (D := D) (ci := 13) (v := .ref z17) (C := RX13) (T := TX13) (N := 20) hx hb hg inG13 hown hK hP 0 rfl rfl 17 (by decide) (hg _ wd_721) (fun _ h9 => h9) rfl dX13_bear_303 ?_
                        refine lv_iload hx hb dX13_bear_306 (lv_at hl 0 rfl) ?_
                        refine lv_iconst (v := 0) hx hb dX13_bear_308 (by decide) ?_
                        obtain ⟨f98, hM98⟩ := hW.open_14 i17
                        refine pg_iast hx hb hK hP hD hS i17.1 0 hM98 rfl (inbN v7w54 24 (by omega) (by omega)) dX13_bear_309 (fun H_99 locs hP hD hS => ?_)
                        obtain ⟨M_100, eM_100⟩ : ∃ M1 : Hp, M1 = va_up M_56 z17 (.inl (cy 14, 24, .inl (upd f98 ((nI v7w54) : Int32).toNatClampNeg 0))) := ⟨_, rfl⟩
                        have hV : VW K L M M_100 b11 (fx M b11) (ax M b11) := by rw [eM_100]; exact hV.oth hW hb_13 i17 (by decide)
                        have hP : va_P D vwCl ([(za, .inr (13, [.int 0, .ref z1, .int (nI z2), .int (nI z3), .int z4, .int z5, .ref z6, .ref z7, .ref z8, .ref z9, .int (nI z10), .ref z11, .ref z12, .ref z13, .ref z14, .ref z15, .int (nI zgw36), .ref z17, .int z18, .ref z19]))] ++ va_pl L M_100) H_99 := by rw [eM_100]; exact hP
                        have hD : va_D A ([(za, .inr (13, [.int 0, .ref z1, .int (nI z2), .int (nI z3), .int z4, .int z5, .ref z6, .ref z7, .ref z8, .ref z9, .int (nI z10), .ref z11, .ref z12, .ref z13, .ref z14, .ref z15, .int (nI zgw36), .ref z17, .int z18, .ref z19]))] ++ va_pl L M_100) := by rw [eM_100]; exact hD
                        have hW : WOM cy K L M_100 := by rw [eM_100]; exact hW.up_14 i17 ⟨_, rfl⟩
                        have hF : fr K L [14, 15, 32] M M_100 := by rw [eM_100]; exact hF.up i17 (by decide)
                        have hM_101 : M_100 z17 = .inl (cy 14, 24, .inl (upd f98 ((nI v7w54) : Int32).toNatClampNeg 0)) := by rw [eM_100]; exact va_up_self _ _ _
                        obtain ⟨f_102, ef_102⟩ : ∃ f : Nat → Int32, f = upd f98 ((nI v7w54) : Int32).toNatClampNeg 0 := ⟨_, rfl⟩
                        rw [← ef_102] at hM_101
                        refine lv_iinc (v := (nI (v7w54 + 1))) (lv' := [(7, .int (nI (v7w54 + 1))), (5, .long r_47), (4, .ref b11), (0, .ref za), (1, .int k1), (2, .int k2), (3, .int k3)]) hx hb dX13_bear_310 hl (k := 0) rfl (nI_1 v7w54) (by decide) rfl (fun ls hl => ?_)
                        refine lv_goto (tgt := 295) hx hb dX13_bear_313 (by decide) ?_
                        exact ih_52 (v7w54 + 1) M_100 H_99 _ _ (by omega) (by omega) hW hF hV hP hD hS (lv_sub hl [0, 1, 2, 3, 4, 5, 6] rfl)
                  exact key_51 (24 - 0 + 1) 0 M_48 H_46 _ _ (by omega) (by omega) hW hF hV hP hD hS (lv_sub hl [0, 1, 2, 3, 4, 5, 6] rfl)
                · have hz := rfl (a := 0)
                  have n_103 : ¬ (v42 ≤ v5w36) := fun q => c_43 ((iLE (a := v42) (b := v5w36) (by omega) (by omega)).mpr q)
                  refine lv_aload hx hb dX13_bear_92 (lv_at hl 1 rfl) ?_
                  refine lv_iload hx hb dX13_bear_94 (lv_at hl 0 rfl) ?_
                  refine lv_iload_n hx hb dX13_bear_96 rfl (lv_at hl 4 rfl) ?_
                  have hPc : va_P D vwCl ([] ++ va_pl L M_39) H_40 := hP.part (cx := []) [] rfl
                  have hDc : va_D A ([] ++ va_pl L M_39) := hD.part (cx := []) [] (by decide) rfl
                  have hFc : ∀ q, va_A ([] ++ va_pl L M_39) H_40.size q → A q := pg_free hDc hS hA
                  refine va_calli (va_runV (As := [.int (nI v5w36), .int k2]) (rest := []) ⟨hx, hb, hml, hown, hg⟩ (r_X12_isIn l D cy K L M_39 H_40.size b11 v5w36 k2  hW hb_13 (by omega)) (cwV 2 hg (gV wd_748 wd_749 wd_750 wd_737 wd_751) rfl rfl rfl (by decide +kernel) ⟨(Nat.le_trans (Nat.le_of_ble_eq_true rfl) hRf), (Nat.le_trans (Nat.le_of_ble_eq_true rfl) hRl)⟩) ⟨PG.blind, pg_recv hK hP hb_13.1 hM_41 rfl, fun U hU hW => ⟨rfl, PG.at hPc hK hDc hN hU hW⟩⟩ rfl rfl hl.1 rfl (lv_room (Nat.le_of_ble_eq_true rfl)) dX13_bear_97 ⟨(Nat.le_trans (Nat.le_of_ble_eq_true rfl) hRc), (Nat.le_trans (Nat.le_of_ble_eq_true rfl) hRs)⟩) hS (fun q _ h => hFc q h) hFc (fun r_105 M_106 t H_104 locs ht hvm hw hB hz1 hk1 hS => ?_)
                  have hp_107 := hw
                  obtain ⟨hP1, hD1⟩ := hB
                  rw [ht] at hP1
                  obtain ⟨hP, hD⟩ := va_joinP (X := [(za, .inr (13, [.int 0, .ref z1, .int (nI z2), .int (nI z3), .int z4, .int z5, .ref z6, .ref z7, .ref z8, .ref z9, .int (nI z10), .ref z11, .ref z12, .ref z13, .ref z14, .ref z15, .int (nI zgw36), .ref z17, .int z18, .ref z19]))]) (cx := []) (wr := [(za, .inr (13, [.int 0, .ref z1, .int (nI z2), .int (nI z3), .int z4, .int z5, .ref z6, .ref z7, .ref z8, .ref z9, .int (nI z10), .ref z11, .ref z12, .ref z13, .ref z14, .ref z15, .int (nI zgw36), .ref z17, .int z18, .ref z19]))]) (rx := []) (pl := va_pl L M_39) (pl1 := va_pl L M_39) hP hD [] [0] rfl rfl (by decide) (by decide) hk1 hFc hP1 hD1
                  have hP : va_P D vwCl ([(za, .inr (13, [.int 0, .ref z1, .int (nI z2), .int (nI z3), .int z4, .int z5, .ref z6, .ref z7, .ref z8, .ref z9, .int (nI z10), .ref z11, .ref z12, .ref z13, .ref z14, .ref z15, .int (nI zgw36), .ref z17, .int z18, .ref z19]))] ++ va_pl L M_39) H_104 := hP
                  have hD : va_D A ([(za, .inr (13, [.int 0, .ref z1, .int (nI z2), .int (nI z3), .int z4, .int z5, .ref z6, .ref z7, .ref z8, .ref z9, .int (nI z10), .ref z11, .ref z12, .ref z13, .ref z14, .ref z15, .int (nI zgw36), .ref z17, .int z18, .ref z19]))] ++ va_pl L M_39) := hD
                  rcases hp_107 with rfl | rfl
                  · have hz := rfl (a := 0)
                    refine lv_if_eq (tgt := 143) hx hb dX13_bear_100 (by decide) (fun c_108 => absurd c_108 (by decide)) (fun _ => ?_)
                    refine lv_aload hx hb dX13_bear_103 (lv_at hl 1 rfl) ?_
                    obtain ⟨v109, hv109, hc109⟩ : ∃ v : Nat, fs14[22]? = some (.ref v : Value) ∧ isk K L v 41 24 := hl14 22 (by decide)
                    refine pg_getN (D := D) (ci := 12) (v := .ref v109) (C := RX12) (T := TX12) (N := 51) hx hb hg inG12 hown hK hP hb_13.1 hM_41 rfl 22 (by decide) (hN.use (Cond.fieldLinkNest RX13 95 RX12 "ended" "[I" RX13) 31 rfl rfl) (fun _ h9 => h9) hv109 dX13_bear_105 ?_
                    refine lv_iload hx hb dX13_bear_108 (lv_at hl 0 rfl) ?_
                    obtain ⟨f110, hM110⟩ := hW.open_41 hc109
                    refine pg_iald hx hb hK hP hc109.1 0 hM110 rfl (inbN v5w36 24 (by omega) (by omega)) dX13_bear_110 ?_
                    refine lv_topi (fun f_111 ef_111 => ?_)
                    refine lv_iconst (v := (-1)) hx hb dX13_bear_111 (by decide) ?_
                    refine lv_icmp_eq (tgt := 139) hx hb dX13_bear_112 (by decide) (fun c_112 => ?_) (fun c_112 => ?_)
                    · have hz := rfl (a := 0)
                      refine lv_iconst (v := 1) hx hb dX13_bear_139 (by decide) ?_
                      refine lv_goto (tgt := 144) hx hb dX13_bear_140 (by decide) ?_
                      refine lv_istore (lv' := [(6, .int 1), (5, .int (nI v5w36)), (4, .ref b11), (0, .ref za), (1, .int k1), (2, .int k2), (3, .int k3)]) hx hb dX13_bear_144 hl (by decide) rfl (fun ls hl => ?_)
                      refine lv_aload hx hb dX13_bear_146 (lv_at hl 2 rfl) ?_
                      obtain ⟨v113, hv113, hc113⟩ : ∃ v : Nat, fs14[21]? = some (.ref v : Value) ∧ isk K L v 14 24 := hl14 21 (by decide)
                      refine pg_getN (D := D) (ci := 12) (v := .ref v113) (C := RX12) (T := TX12) (N := 51) hx hb hg inG12 hown hK hP hb_13.1 hM_41 rfl 21 (by decide) (hN.use (Cond.fieldLinkNest RX13 112 RX12 "begin" "[I" RX13) 30 rfl rfl) (fun _ h9 => h9) hv113 dX13_bear_148 ?_
                      refine lv_iload hx hb dX13_bear_151 (lv_at hl 1 rfl) ?_
                      obtain ⟨f114, hM114⟩ := hW.open_14 hc113
                      refine pg_iald hx hb hK hP hc113.1 0 hM114 rfl (inbN v5w36 24 (by omega) (by omega)) dX13_bear_153 ?_
                      refine lv_topi (fun f_115 ef_115 => ?_)
                      refine lv_iload_n hx hb dX13_bear_154 rfl (lv_at hl 5 rfl) ?_
                      refine lv_icmp_le (tgt := 185) hx hb dX13_bear_155 (by decide) (fun c_116 => ?_) (fun c_116 => ?_)
                      · have hz := rfl (a := 0)
                        refine lv_iconst (v := 0) hx hb dX13_bear_185 (by decide) ?_
                        refine lv_istore (lv' := [(7, .int 0), (6, .int 1), (5, .int (nI v5w36)), (4, .ref b11), (0, .ref za), (1, .int k1), (2, .int k2), (3, .int k3)]) hx hb dX13_bear_186 hl (by decide) rfl (fun ls hl => ?_)
                        refine lv_iload hx hb dX13_bear_188 (lv_at hl 1 rfl) ?_
                        refine lv_if_ne (tgt := 201) hx hb dX13_bear_190 (by decide) (fun _ => ?_) (fun c_117 => absurd c_117 (by decide))
                        refine lv_aload_n hx hb dX13_bear_201 rfl (lv_at hl 4 rfl) ?_
                        refine va_get (D := D) (ci := 13) (v := .ref z11) (C := RX13) (T := TX13) (N := 20) hx hb hg inG13 hown hK hP 0 rfl rfl 11 (by decide) (hg _ wd_764) (fun _ h9 => h9) rfl dX13_bear_202 ?_
                        refine lv_aload_n hx hb dX13_bear_205 rfl (lv_at hl 4 rfl) ?_
                        refine va_get (D := D) (ci := 13) (v := .int (nI zgw36)) (C := RX13) (T := TX13) (N := 20) hx hb hg inG13 hown hK hP 0 rfl rfl 16 (by decide) (hg _ wd_769) (fun _ h9 => h9) rfl dX13_bear_206 ?_
                        refine lv_iload hx hb dX13_bear_209 (lv_at hl 2 rfl) ?_
                        obtain ⟨f118, hM118, hf118⟩ := hW.open_32 i11
                        refine pg_iast hx hb hK hP hD hS i11.1 0 hM118 rfl (inbN zgw36 24 (by omega) (by omega)) dX13_bear_211 (fun H_119 locs hP hD hS => ?_)
                        obtain ⟨M_120, eM_120⟩ : ∃ M1 : Hp, M1 = va_up M_39 z11 (.inl (cy 14, 24, .inl (upd f118 ((nI zgw36) : Int32).toNatClampNeg (nI v5w36)))) := ⟨_, rfl⟩
                        have hV : VW K L M M_120 b11 (fx M b11) (ax M b11) := by rw [eM_120]; exact hV.oth hW hb_13 i11 (by decide)
                        have hP : va_P D vwCl ([(za, .inr (13, [.int 0, .ref z1, .int (nI z2), .int (nI z3), .int z4, .int z5, .ref z6, .ref z7, .ref z8, .ref z9, .int (nI z10), .ref z11, .ref z12, .ref z13, .ref z14, .ref z15, .int (nI zgw36), .ref z17, .int z18, .ref z19]))] ++ va_pl L M_120) H_119 := by rw [eM_120]; exact hP
                        have hD : va_D A ([(za, .inr (13, [.int 0, .ref z1, .int (nI z2), .int (nI z3), .int z4, .int z5, .ref z6, .ref z7, .ref z8, .ref z9, .int (nI z10), .ref z11, .ref z12, .ref z13, .ref z14, .ref z15, .int (nI zgw36), .ref z17, .int z18, .ref z19]))] ++ va_pl L M_120) := by rw [eM_120]; exact hD
                        have hW : WOM cy K L M_120 := by rw [eM_120]; exact hW.up_32 i11 ⟨_, rfl, (updP (P := fun z => ∃ c : Nat, c < 24 ∧ z = nI c) hf118 ⟨v5w36, by omega, rfl⟩)⟩
                        have hF : fr K L [14, 15, 32] M M_120 := by rw [eM_120]; exact hF.up i11 (by decide)
                        have hM_121 : M_120 z11 = .inl (cy 14, 24, .inl (upd f118 ((nI zgw36) : Int32).toNatClampNeg (nI v5w36))) := by rw [eM_120]; exact va_up_self _ _ _
                        have hM_122 : M_120 b11 = .inr (12, fs14) := by rw [eM_120, va_up_ne _ _ (hb_13.neT i11 (by decide))]; exact hM_41
                        have hM_123 : M_120 v109 = .inl (cy 14, 24, .inl (f110)) := by rw [eM_120, va_up_ne _ _ (hc109.neT i11 (by decide))]; exact hM110
                        have hM_124 : M_120 v113 = .inl (cy 14, 24, .inl (f114)) := by rw [eM_120, va_up_ne _ _ (hc113.neT i11 (by decide))]; exact hM114
                        have hf_126 : ∀ j, j < 24 → ∃ c : Nat, c < 24 ∧ (upd f118 ((nI zgw36) : Int32).toNatClampNeg (nI v5w36)) j = nI c := (updP (P := fun z => ∃ c : Nat, c < 24 ∧ z = nI c) hf118 ⟨v5w36, by omega, rfl⟩)
                        obtain ⟨f_125, ef_125⟩ : ∃ f : Nat → Int32, f = upd f118 ((nI zgw36) : Int32).toNatClampNeg (nI v5w36) := ⟨_, rfl⟩
                        rw [← ef_125] at hM_121 hf_126
                        refine lv_aload_n hx hb dX13_bear_212 rfl (lv_at hl 4 rfl) ?_
                        refine va_get (D := D) (ci := 13) (v := .ref z12) (C := RX13) (T := TX13) (N := 20) hx hb hg inG13 hown hK hP 0 rfl rfl 12 (by decide) (hg _ wd_763) (fun _ h9 => h9) rfl dX13_bear_213 ?_
                        refine lv_aload_n hx hb dX13_bear_216 rfl (lv_at hl 4 rfl) ?_
                        refine va_get (D := D) (ci := 13) (v := .int (nI zgw36)) (C := RX13) (T := TX13) (N := 20) hx hb hg inG13 hown hK hP 0 rfl rfl 16 (by decide) (hg _ wd_769) (fun _ h9 => h9) rfl dX13_bear_217 ?_
                        refine lv_aload hx hb dX13_bear_220 (lv_at hl 3 rfl) ?_
                        refine lv_iload hx hb dX13_bear_222 (lv_at hl 1 rfl) ?_
                        refine lv_if_eq (tgt := 236) hx hb dX13_bear_224 (by decide) (fun c_127 => absurd c_127 (by decide)) (fun _ => ?_)
                        refine lv_aload hx hb dX13_bear_227 (lv_at hl 3 rfl) ?_
                        refine lv_iload_n hx hb dX13_bear_229 rfl (lv_at hl 6 rfl) ?_
                        have hPc : va_P D vwCl ([] ++ va_pl L M_120) H_119 := hP.part (cx := []) [] rfl
                        have hDc : va_D A ([] ++ va_pl L M_120) := hD.part (cx := []) [] (by decide) rfl
                        have hFc : ∀ q, va_A ([] ++ va_pl L M_120) H_119.size q → A q := pg_free hDc hS hA
                        have hx0 : (fx M b11 0) = ((v24 : Nat) : Int) := (congrFun hV.2.1 0).symm.trans ((fx_of hM_122 rfl hv24).trans (nI_toInt (by omega)))
                        have hx11 : (fx M b11 11) = ((v15 : Nat) : Int) := (congrFun hV.2.1 11).symm.trans ((fx_of hM_122 rfl hv15).trans (nI_toInt (by omega)))
                        obtain ⟨v128, hv128, hc128⟩ : ∃ v : Nat, fs14[34]? = some (.ref v : Value) ∧ isk K L v 43 16 := hl14 34 (by decide)
                        obtain ⟨f129, hM129⟩ := hW.open_43 hc128
                        have hy34 : (ax M b11 34) = f129 := (congrFun hV.2.2.1 34).symm.trans (ax_of hM_122 (by decide) hv128 hM129)
                        refine va_calli (va_runV (As := [.int k2]) (rest := [.ref b11, .int (nI zgw36), .ref z12]) ⟨hx, hb, hml, hown, hg⟩ (r_ruleOnP l D cy K L M_120 H_119.size b11 k2  hW hb_13 ⟨_, _, _, _, hM_122, hv15, by omega, by omega, hv128, hc128, hM129, rldp hy34 (hAT.2.2.2.1.1 (by omega)) (by rw [hx0]; exact geI c_25 (by omega))⟩) (cwV 1 hg (gV wd_815 wd_816 wd_817 wd_737 wd_818) rfl rfl rfl (by decide +kernel) ⟨(Nat.le_trans (Nat.le_of_ble_eq_true rfl) hRf), (Nat.le_trans (Nat.le_of_ble_eq_true rfl) hRl)⟩) ⟨PG.blind, pg_recv hK hP hb_13.1 hM_122 rfl, fun U hU hW => ⟨rfl, PG.at hPc hK hDc hN hU hW⟩⟩ rfl rfl hl.1 rfl (lv_room (Nat.le_of_ble_eq_true rfl)) dX13_bear_230 ⟨(Nat.le_trans (Nat.le_of_ble_eq_true rfl) hRc), (Nat.le_trans (Nat.le_of_ble_eq_true rfl) hRs)⟩) hS (fun q _ h => hFc q h) hFc (fun r_131 M_132 t H_130 locs ht hvm hw hB hz1 hk1 hS => ?_)
                        have hp_133 := hw
                        obtain ⟨hP1, hD1⟩ := hB
                        rw [ht] at hP1
                        obtain ⟨hP, hD⟩ := va_joinP (X := [(za, .inr (13, [.int 0, .ref z1, .int (nI z2), .int (nI z3), .int z4, .int z5, .ref z6, .ref z7, .ref z8, .ref z9, .int (nI z10), .ref z11, .ref z12, .ref z13, .ref z14, .ref z15, .int (nI zgw36), .ref z17, .int z18, .ref z19]))]) (cx := []) (wr := [(za, .inr (13, [.int 0, .ref z1, .int (nI z2), .int (nI z3), .int z4, .int z5, .ref z6, .ref z7, .ref z8, .ref z9, .int (nI z10), .ref z11, .ref z12, .ref z13, .ref z14, .ref z15, .int (nI zgw36), .ref z17, .int z18, .ref z19]))]) (rx := []) (pl := va_pl L M_120) (pl1 := va_pl L M_120) hP hD [] [0] rfl rfl (by decide) (by decide) hk1 hFc hP1 hD1
                        have hP : va_P D vwCl ([(za, .inr (13, [.int 0, .ref z1, .int (nI z2), .int (nI z3), .int z4, .int z5, .ref z6, .ref z7, .ref z8, .ref z9, .int (nI z10), .ref z11, .ref z12, .ref z13, .ref z14, .ref z15, .int (nI zgw36), .ref z17, .int z18, .ref z19]))] ++ va_pl L M_120) H_130 := hP
                        have hD : va_D A ([(za, .inr (13, [.int 0, .ref z1, .int (nI z2), .int (nI z3), .int z4, .int z5, .ref z6, .ref z7, .ref z8, .ref z9, .int (nI z10), .ref z11, .ref z12, .ref z13, .ref z14, .ref z15, .int (nI zgw36), .ref z17, .int z18, .ref z19]))] ++ va_pl L M_120) := hD
                        obtain ⟨j_134, rfl, c_135⟩ := hp_133
                        refine lv_goto (tgt := 243) hx hb dX13_bear_233 (by decide) ?_
                        refine lv_iconst (v := 3) hx hb dX13_bear_243 (by decide) ?_
                        refine lv_aload hx hb dX13_bear_244 (lv_at hl 3 rfl) ?_
                        obtain ⟨v136, hv136, hc136⟩ : ∃ v : Nat, fs14[20]? = some (.ref v : Value) ∧ isk K L v 31 24 := hl14 20 (by decide)
                        refine pg_getN (D := D) (ci := 12) (v := .ref v136) (C := RX12) (T := TX12) (N := 51) hx hb hg inG12 hown hK hP hb_13.1 hM_122 rfl 20 (by decide) (hN.use (Cond.fieldLinkNest RX13 110 RX12 "where" "[I" RX13) 29 rfl rfl) (fun _ h9 => h9) hv136 dX13_bear_246 ?_
                        refine lv_iload hx hb dX13_bear_249 (lv_at hl 2 rfl) ?_
                        obtain ⟨f137, hM137, hf137⟩ := hW.open_31 hc136
                        have hi_138 : vp_in (nI v5w36) 24 := (inbN v5w36 24 (by omega) (by omega))
                        refine pg_iald hx hb hK hP hc136.1 0 hM137 rfl hi_138 dX13_bear_251 ?_
                        have hp_139 := hf137 _ (vp_lt hi_138)
                        obtain ⟨c_140, hc_141, ec_142⟩ := hp_139
                        rw [ec_142]
                        have hPc : va_P D vwCl ([] ++ va_pl L M_120) H_130 := hP.part (cx := []) [] rfl
                        have hDc : va_D A ([] ++ va_pl L M_120) := hD.part (cx := []) [] (by decide) rfl
                        have hFc : ∀ q, va_A ([] ++ va_pl L M_120) H_130.size q → A q := pg_free hDc hS hA
                        refine va_calli (va_runV (As := [.int (nI j_134), .int 3, .int (nI c_140)]) (rest := [.int (nI zgw36), .ref z12]) ⟨hx, hb, hml, hown, hg⟩ (r_X12_term l D cy K L M_120 H_130.size b11 j_134 3 c_140  hW hb_13 c_135 (by omega) hc_141) (cwV 3 hg (gV wd_770 wd_771 wd_772 wd_737 wd_773) rfl rfl rfl (by decide +kernel) ⟨(Nat.le_trans (Nat.le_of_ble_eq_true rfl) hRf), (Nat.le_trans (Nat.le_of_ble_eq_true rfl) hRl)⟩) ⟨PG.blind, pg_recv hK hP hb_13.1 hM_122 rfl, fun U hU hW => ⟨rfl, PG.at hPc hK hDc hN hU hW⟩⟩ rfl rfl hl.1 rfl (lv_room (Nat.le_of_ble_eq_true rfl)) dX13_bear_252 ⟨(Nat.le_trans (Nat.le_of_ble_eq_true rfl) hRc), (Nat.le_trans (Nat.le_of_ble_eq_true rfl) hRs)⟩) hS (fun q _ h => hFc q h) hFc (fun r_144 M_145 t H_143 locs ht hvm hw hB hz1 hk1 hS => ?_)
                        have hp_146 := hw
                        obtain ⟨hP1, hD1⟩ := hB
                        rw [ht] at hP1
                        obtain ⟨hP, hD⟩ := va_joinP (X := [(za, .inr (13, [.int 0, .ref z1, .int (nI z2), .int (nI z3), .int z4, .int z5, .ref z6, .ref z7, .ref z8, .ref z9, .int (nI z10), .ref z11, .ref z12, .ref z13, .ref z14, .ref z15, .int (nI zgw36), .ref z17, .int z18, .ref z19]))]) (cx := []) (wr := [(za, .inr (13, [.int 0, .ref z1, .int (nI z2), .int (nI z3), .int z4, .int z5, .ref z6, .ref z7, .ref z8, .ref z9, .int (nI z10), .ref z11, .ref z12, .ref z13, .ref z14, .ref z15, .int (nI zgw36), .ref z17, .int z18, .ref z19]))]) (rx := []) (pl := va_pl L M_120) (pl1 := va_pl L M_120) hP hD [] [0] rfl rfl (by decide) (by decide) hk1 hFc hP1 hD1
                        have hP : va_P D vwCl ([(za, .inr (13, [.int 0, .ref z1, .int (nI z2), .int (nI z3), .int z4, .int z5, .ref z6, .ref z7, .ref z8, .ref z9, .int (nI z10), .ref z11, .ref z12, .ref z13, .ref z14, .ref z15, .int (nI zgw36), .ref z17, .int z18, .ref z19]))] ++ va_pl L M_120) H_143 := hP
                        have hD : va_D A ([(za, .inr (13, [.int 0, .ref z1, .int (nI z2), .int (nI z3), .int z4, .int z5, .ref z6, .ref z7, .ref z8, .ref z9, .int (nI z10), .ref z11, .ref z12, .ref z13, .ref z14, .ref z15, .int (nI zgw36), .ref z17, .int z18, .ref z19]))] ++ va_pl L M_120) := hD
                        obtain ⟨f147, hM147⟩ := hW.open_14 i12
                        refine pg_iast hx hb hK hP hD hS i12.1 0 hM147 rfl (inbN zgw36 24 (by omega) (by omega)) dX13_bear_255 (fun H_148 locs hP hD hS => ?_)
                        obtain ⟨M_149, eM_149⟩ : ∃ M1 : Hp, M1 = va_up M_120 z12 (.inl (cy 14, 24, .inl (upd f147 ((nI zgw36) : Int32).toNatClampNeg r_144))) := ⟨_, rfl⟩
                        have hV : VW K L M M_149 b11 (fx M b11) (ax M b11) := by rw [eM_149]; exact hV.oth hW hb_13 i12 (by decide)
                        have hP : va_P D vwCl ([(za, .inr (13, [.int 0, .ref z1, .int (nI z2), .int (nI z3), .int z4, .int z5, .ref z6, .ref z7, .ref z8, .ref z9, .int (nI z10), .ref z11, .ref z12, .ref z13, .ref z14, .ref z15, .int (nI zgw36), .ref z17, .int z18, .ref z19]))] ++ va_pl L M_149) H_148 := by rw [eM_149]; exact hP
                        have hD : va_D A ([(za, .inr (13, [.int 0, .ref z1, .int (nI z2), .int (nI z3), .int z4, .int z5, .ref z6, .ref z7, .ref z8, .ref z9, .int (nI z10), .ref z11, .ref z12, .ref z13, .ref z14, .ref z15, .int (nI zgw36), .ref z17, .int z18, .ref z19]))] ++ va_pl L M_149) := by rw [eM_149]; exact hD
                        have hW : WOM cy K L M_149 := by rw [eM_149]; exact hW.up_14 i12 ⟨_, rfl⟩
                        have hF : fr K L [14, 15, 32] M M_149 := by rw [eM_149]; exact hF.up i12 (by decide)
                        have hM_150 : M_149 z12 = .inl (cy 14, 24, .inl (upd f147 ((nI zgw36) : Int32).toNatClampNeg r_144)) := by rw [eM_149]; exact va_up_self _ _ _
                        have hM_151 : M_149 z11 = .inl (cy 14, 24, .inl (f_125)) := by rw [eM_149, va_up_ne _ _ (i11.neT i12 (by decide))]; exact hM_121
                        have hM_152 : M_149 b11 = .inr (12, fs14) := by rw [eM_149, va_up_ne _ _ (hb_13.neT i12 (by decide))]; exact hM_122
                        have hM_153 : M_149 v109 = .inl (cy 14, 24, .inl (f110)) := by rw [eM_149, va_up_ne _ _ (hc109.neT i12 (by decide))]; exact hM_123
                        have hM_154 : M_149 v128 = .inl (cy 14, 16, .inl (f129)) := by rw [eM_149, va_up_ne _ _ (hc128.neT i12 (by decide))]; exact hM129
                        have hM_155 : M_149 v136 = .inl (cy 14, 24, .inl (f137)) := by rw [eM_149, va_up_ne _ _ (hc136.neT i12 (by decide))]; exact hM137
                        obtain ⟨f_156, ef_156⟩ : ∃ f : Nat → Int32, f = upd f147 ((nI zgw36) : Int32).toNatClampNeg r_144 := ⟨_, rfl⟩
                        rw [← ef_156] at hM_150
                        refine lv_aload_n hx hb dX13_bear_256 rfl (lv_at hl 4 rfl) ?_
                        refine va_get (D := D) (ci := 13) (v := .ref z13) (C := RX13) (T := TX13) (N := 20) hx hb hg inG13 hown hK hP 0 rfl rfl 13 (by decide) (hg _ wd_789) (fun _ h9 => h9) rfl dX13_bear_257 ?_
                        refine lv_aload_n hx hb dX13_bear_260 rfl (lv_at hl 4 rfl) ?_
                        refine va_get (D := D) (ci := 13) (v := .int (nI zgw36)) (C := RX13) (T := TX13) (N := 20) hx hb hg inG13 hown hK hP 0 rfl rfl 16 (by decide) (hg _ wd_769) (fun _ h9 => h9) rfl dX13_bear_261 ?_
                        refine lv_lconst (v := 0) hx hb dX13_bear_264 (by decide) ?_
                        obtain ⟨f157, hM157⟩ := hW.open_15 i13
                        refine pg_last hx hb hK hP hD hS i13.1 1 hM157 rfl (inbN zgw36 24 (by omega) (by omega)) dX13_bear_265 (fun H_158 locs hP hD hS => ?_)
                        obtain ⟨M_159, eM_159⟩ : ∃ M1 : Hp, M1 = va_up M_149 z13 (.inl (cy 15, 24, .inr (.inl (vp_updL f157 ((nI zgw36) : Int32).toNatClampNeg 0)))) := ⟨_, rfl⟩
                        have hV : VW K L M M_159 b11 (fx M b11) (ax M b11) := by rw [eM_159]; exact hV.oth hW hb_13 i13 (by decide)
                        have hP : va_P D vwCl ([(za, .inr (13, [.int 0, .ref z1, .int (nI z2), .int (nI z3), .int z4, .int z5, .ref z6, .ref z7, .ref z8, .ref z9, .int (nI z10), .ref z11, .ref z12, .ref z13, .ref z14, .ref z15, .int (nI zgw36), .ref z17, .int z18, .ref z19]))] ++ va_pl L M_159) H_158 := by rw [eM_159]; exact hP
                        have hD : va_D A ([(za, .inr (13, [.int 0, .ref z1, .int (nI z2), .int (nI z3), .int z4, .int z5, .ref z6, .ref z7, .ref z8, .ref z9, .int (nI z10), .ref z11, .ref z12, .ref z13, .ref z14, .ref z15, .int (nI zgw36), .ref z17, .int z18, .ref z19]))] ++ va_pl L M_159) := by rw [eM_159]; exact hD
                        have hW : WOM cy K L M_159 := by rw [eM_159]; exact hW.up_15 i13 ⟨_, rfl⟩
                        have hF : fr K L [14, 15, 32] M M_159 := by rw [eM_159]; exact hF.up i13 (by decide)
                        have hM_160 : M_159 z13 = .inl (cy 15, 24, .inr (.inl (vp_updL f157 ((nI zgw36) : Int32).toNatClampNeg 0))) := by rw [eM_159]; exact va_up_self _ _ _
                        have hM_161 : M_159 z12 = .inl (cy 14, 24, .inl (f_156)) := by rw [eM_159, va_up_ne _ _ (i12.neT i13 (by decide))]; exact hM_150
                        have hM_162 : M_159 z11 = .inl (cy 14, 24, .inl (f_125)) := by rw [eM_159, va_up_ne _ _ (i11.neT i13 (by decide))]; exact hM_151
                        have hM_163 : M_159 b11 = .inr (12, fs14) := by rw [eM_159, va_up_ne _ _ (hb_13.neT i13 (by decide))]; exact hM_152
                        have hM_164 : M_159 v109 = .inl (cy 14, 24, .inl (f110)) := by rw [eM_159, va_up_ne _ _ (hc109.neT i13 (by decide))]; exact hM_153
                        have hM_165 : M_159 v128 = .inl (cy 14, 16, .inl (f129)) := by rw [eM_159, va_up_ne _ _ (hc128.neT i13 (by decide))]; exact hM_154
                        have hM_166 : M_159 v136 = .inl (cy 14, 24, .inl (f137)) := by rw [eM_159, va_up_ne _ _ (hc136.neT i13 (by decide))]; exact hM_155
                        obtain ⟨f_167, ef_167⟩ : ∃ f : Nat → Int64, f = vp_updL f157 ((nI zgw36) : Int32).toNatClampNeg 0 := ⟨_, rfl⟩
                        rw [← ef_167] at hM_160
                        refine lv_aload_n hx hb dX13_bear_266 rfl (lv_at hl 4 rfl) ?_
                        refine lv_dup hx hb dX13_bear_267 rfl ?_
                        refine va_get (D := D) (ci := 13) (v := .int (nI zgw36)) (C := RX13) (T := TX13) (N := 20) hx hb hg inG13 hown hK hP 0 rfl rfl 16 (by decide) (hg _ wd_769) (fun _ h9 => h9) rfl dX13_bear_268 ?_
                        refine lv_iconst (v := 1) hx hb dX13_bear_271 (by decide) ?_
                        refine lv_iadd hx hb dX13_bear_272 ?_
                        refine lv_topi (fun f_168 ef_168 => ?_)
                        obtain rfl : f_168 = (nI (zgw36 + 1)) := ef_168.trans (nI_add zgw36 1)
                        refine va_put (D := D) (ci := 13) (v := .int (nI (zgw36 + 1))) (ty := .int) (C := RX13) (T := TX13) (N := 20) hx hb hg inG13 tyX13 tyX13_ok nmX13 hown hK hP hD hS 0 rfl rfl 16 (by decide) (hg _ wd_769) (fun _ h9 => h9) rfl (by decide +kernel) rfl rfl (Nat.le_of_ble_eq_true rfl) dX13_bear_273 (fun H_169 locs hP hD hS => ?_)
                        have hP : va_P D vwCl ([(za, .inr (13, [.int 0, .ref z1, .int (nI z2), .int (nI z3), .int z4, .int z5, .ref z6, .ref z7, .ref z8, .ref z9, .int (nI z10), .ref z11, .ref z12, .ref z13, .ref z14, .ref z15, .int (nI (zgw36 + 1)), .ref z17, .int z18, .ref z19]))] ++ va_pl L M_159) H_169 := hP
                        have hD : va_D A ([(za, .inr (13, [.int 0, .ref z1, .int (nI z2), .int (nI z3), .int z4, .int z5, .ref z6, .ref z7, .ref z8, .ref z9, .int (nI z10), .ref z11, .ref z12, .ref z13, .ref z14, .ref z15, .int (nI (zgw36 + 1)), .ref z17, .int z18, .ref z19]))] ++ va_pl L M_159) := hD
                        refine lv_iinc (v := (nI (v5w36 + 1))) (lv' := [(5, .int (nI (v5w36 + 1))), (7, .int 0), (6, .int 1), (4, .ref b11), (0, .ref za), (1, .int k1), (2, .int k2), (3, .int k3)]) hx hb dX13_bear_276 hl (k := 2) rfl (nI_1 v5w36) (by decide) rfl (fun ls hl => ?_)
                        refine lv_goto (tgt := 82) hx hb dX13_bear_279 (by decide) ?_
                        exact ih_34 (v5w36 + 1) (zgw36 + 1) M_159 H_169 _ _ (by omega) hM_163 (by omega) (by omega) hW hF hV hP hD hS (lv_sub hl [0, 3, 4, 5, 6, 7] rfl)
                      · have hz := rfl (a := 0)
                        refine lv_aload hx hb dX13_bear_158 (lv_at hl 2 rfl) ?_
                        obtain ⟨v170, hv170, hc170⟩ : ∃ v : Nat, fs14[26]? = some (.ref v : Value) ∧ isk K L v 16 24 := hl14 26 (by decide)
                        refine pg_getN (D := D) (ci := 12) (v := .ref v170) (C := RX12) (T := TX12) (N := 51) hx hb hg inG12 hown hK hP hb_13.1 hM_41 rfl 26 (by decide) (hN.use (Cond.fieldLinkNest RX13 124 RX12 "word" "[Z" RX13) 35 rfl rfl) (fun _ h9 => h9) hv170 dX13_bear_160 ?_
                        refine lv_iload hx hb dX13_bear_163 (lv_at hl 1 rfl) ?_
                        obtain ⟨f171, hM171, hf171⟩ := hW.open_16 hc170
                        have hi_172 : vp_in (nI v5w36) 24 := (inbN v5w36 24 (by omega) (by omega))
                        refine pg_zald hx hb hK hP hc170.1 2 hM171 rfl hi_172 dX13_bear_165 ?_
                        rcases hf171 _ (vp_lt hi_172) with ec_173 | ec_173
                        · rw [ec_173]
                          refine lv_if_eq (tgt := 185) hx hb dX13_bear_166 (by decide) (fun _ => ?_) (fun c_174 => absurd c_174 (by decide))
                          refine lv_iconst (v := 0) hx hb dX13_bear_185 (by decide) ?_
                          refine lv_istore (lv' := [(7, .int 0), (6, .int 1), (5, .int (nI v5w36)), (4, .ref b11), (0, .ref za), (1, .int k1), (2, .int k2), (3, .int k3)]) hx hb dX13_bear_186 hl (by decide) rfl (fun ls hl => ?_)
                          refine lv_iload hx hb dX13_bear_188 (lv_at hl 1 rfl) ?_
                          refine lv_if_ne (tgt := 201) hx hb dX13_bear_190 (by decide) (fun _ => ?_) (fun c_175 => absurd c_175 (by decide))
                          refine lv_aload_n hx hb dX13_bear_201 rfl (lv_at hl 4 rfl) ?_
                          refine va_get (D := D) (ci := 13) (v := .ref z11) (C := RX13) (T := TX13) (N := 20) hx hb hg inG13 hown hK hP 0 rfl rfl 11 (by decide) (hg _ wd_764) (fun _ h9 => h9) rfl dX13_bear_202 ?_
                          refine lv_aload_n hx hb dX13_bear_205 rfl (lv_at hl 4 rfl) ?_
                          refine va_get (D := D) (ci := 13) (v := .int (nI zgw36)) (C := RX13) (T := TX13) (N := 20) hx hb hg inG13 hown hK hP 0 rfl rfl 16 (by decide) (hg _ wd_769) (fun _ h9 => h9) rfl dX13_bear_206 ?_
                          refine lv_iload hx hb dX13_bear_209 (lv_at hl 2 rfl) ?_
                          obtain ⟨f176, hM176, hf176⟩ := hW.open_32 i11
                          refine pg_iast hx hb hK hP hD hS i11.1 0 hM176 rfl (inbN zgw36 24 (by omega) (by omega)) dX13_bear_211 (fun H_177 locs hP hD hS => ?_)
                          obtain ⟨M_178, eM_178⟩ : ∃ M1 : Hp, M1 = va_up M_39 z11 (.inl (cy 14, 24, .inl (upd f176 ((nI zgw36) : Int32).toNatClampNeg (nI v5w36)))) := ⟨_, rfl⟩
                          have hV : VW K L M M_178 b11 (fx M b11) (ax M b11) := by rw [eM_178]; exact hV.oth hW hb_13 i11 (by decide)
                          have hP : va_P D vwCl ([(za, .inr (13, [.int 0, .ref z1, .int (nI z2), .int (nI z3), .int z4, .int z5, .ref z6, .ref z7, .ref z8, .ref z9, .int (nI z10), .ref z11, .ref z12, .ref z13, .ref z14, .ref z15, .int (nI zgw36), .ref z17, .int z18, .ref z19]))] ++ va_pl L M_178) H_177 := by rw [eM_178]; exact hP
                          have hD : va_D A ([(za, .inr (13, [.int 0, .ref z1, .int (nI z2), .int (nI z3), .int z4, .int z5, .ref z6, .ref z7, .ref z8, .ref z9, .int (nI z10), .ref z11, .ref z12, .ref z13, .ref z14, .ref z15, .int (nI zgw36), .ref z17, .int z18, .ref z19]))] ++ va_pl L M_178) := by rw [eM_178]; exact hD
                          have hW : WOM cy K L M_178 := by rw [eM_178]; exact hW.up_32 i11 ⟨_, rfl, (updP (P := fun z => ∃ c : Nat, c < 24 ∧ z = nI c) hf176 ⟨v5w36, by omega, rfl⟩)⟩
                          have hF : fr K L [14, 15, 32] M M_178 := by rw [eM_178]; exact hF.up i11 (by decide)
                          have hM_179 : M_178 z11 = .inl (cy 14, 24, .inl (upd f176 ((nI zgw36) : Int32).toNatClampNeg (nI v5w36))) := by rw [eM_178]; exact va_up_self _ _ _
                          have hM_180 : M_178 b11 = .inr (12, fs14) := by rw [eM_178, va_up_ne _ _ (hb_13.neT i11 (by decide))]; exact hM_41
                          have hM_181 : M_178 v109 = .inl (cy 14, 24, .inl (f110)) := by rw [eM_178, va_up_ne _ _ (hc109.neT i11 (by decide))]; exact hM110
                          have hM_182 : M_178 v113 = .inl (cy 14, 24, .inl (f114)) := by rw [eM_178, va_up_ne _ _ (hc113.neT i11 (by decide))]; exact hM114
                          have hM_183 : M_178 v170 = .inl (cy 16, 24, .inl (f171)) := by rw [eM_178, va_up_ne _ _ (hc170.neT i11 (by decide))]; exact hM171
                          have hf_185 : ∀ j, j < 24 → ∃ c : Nat, c < 24 ∧ (upd f176 ((nI zgw36) : Int32).toNatClampNeg (nI v5w36)) j = nI c := (updP (P := fun z => ∃ c : Nat, c < 24 ∧ z = nI c) hf176 ⟨v5w36, by omega, rfl⟩)
                          obtain ⟨f_184, ef_184⟩ : ∃ f : Nat → Int32, f = upd f176 ((nI zgw36) : Int32).toNatClampNeg (nI v5w36) := ⟨_, rfl⟩
                          rw [← ef_184] at hM_179 hf_185
                          refine lv_aload_n hx hb dX13_bear_212 rfl (lv_at hl 4 rfl) ?_
                          refine va_get (D := D) (ci := 13) (v := .ref z12) (C := RX13) (T := TX13) (N := 20) hx hb hg inG13 hown hK hP 0 rfl rfl 12 (by decide) (hg _ wd_763) (fun _ h9 => h9) rfl dX13_bear_213 ?_
                          refine lv_aload_n hx hb dX13_bear_216 rfl (lv_at hl 4 rfl) ?_
                          refine va_get (D := D) (ci := 13) (v := .int (nI zgw36)) (C := RX13) (T := TX13) (N := 20) hx hb hg inG13 hown hK hP 0 rfl rfl 16 (by decide) (hg _ wd_769) (fun _ h9 => h9) rfl dX13_bear_217 ?_
                          refine lv_aload hx hb dX13_bear_220 (lv_at hl 3 rfl) ?_
                          refine lv_iload hx hb dX13_bear_222 (lv_at hl 1 rfl) ?_
                          refine lv_if_eq (tgt := 236) hx hb dX13_bear_224 (by decide) (fun c_186 => absurd c_186 (by decide)) (fun _ => ?_)
                          refine lv_aload hx hb dX13_bear_227 (lv_at hl 3 rfl) ?_
                          refine lv_iload_n hx hb dX13_bear_229 rfl (lv_at hl 6 rfl) ?_
                          have hPc : va_P D vwCl ([] ++ va_pl L M_178) H_177 := hP.part (cx := []) [] rfl
                          have hDc : va_D A ([] ++ va_pl L M_178) := hD.part (cx := []) [] (by decide) rfl
                          have hFc : ∀ q, va_A ([] ++ va_pl L M_178) H_177.size q → A q := pg_free hDc hS hA
                          have hx0 : (fx M b11 0) = ((v24 : Nat) : Int) := (congrFun hV.2.1 0).symm.trans ((fx_of hM_180 rfl hv24).trans (nI_toInt (by omega)))
                          have hx11 : (fx M b11 11) = ((v15 : Nat) : Int) := (congrFun hV.2.1 11).symm.trans ((fx_of hM_180 rfl hv15).trans (nI_toInt (by omega)))
                          obtain ⟨v187, hv187, hc187⟩ : ∃ v : Nat, fs14[34]? = some (.ref v : Value) ∧ isk K L v 43 16 := hl14 34 (by decide)
                          obtain ⟨f188, hM188⟩ := hW.open_43 hc187
                          have hy34 : (ax M b11 34) = f188 := (congrFun hV.2.2.1 34).symm.trans (ax_of hM_180 (by decide) hv187 hM188)
                          refine va_calli (va_runV (As := [.int k2]) (rest := [.ref b11, .int (nI zgw36), .ref z12]) ⟨hx, hb, hml, hown, hg⟩ (r_ruleOnP l D cy K L M_178 H_177.size b11 k2  hW hb_13 ⟨_, _, _, _, hM_180, hv15, by omega, by omega, hv187, hc187, hM188, rldp hy34 (hAT.2.2.2.1.1 (by omega)) (by rw [hx0]; exact geI c_25 (by omega))⟩) (cwV 1 hg (gV wd_815 wd_816 wd_817 wd_737 wd_818) rfl rfl rfl (by decide +kernel) ⟨(Nat.le_trans (Nat.le_of_ble_eq_true rfl) hRf), (Nat.le_trans (Nat.le_of_ble_eq_true rfl) hRl)⟩) ⟨PG.blind, pg_recv hK hP hb_13.1 hM_180 rfl, fun U hU hW => ⟨rfl, PG.at hPc hK hDc hN hU hW⟩⟩ rfl rfl hl.1 rfl (lv_room (Nat.le_of_ble_eq_true rfl)) dX13_bear_230 ⟨(Nat.le_trans (Nat.le_of_ble_eq_true rfl) hRc), (Nat.le_trans (Nat.le_of_ble_eq_true rfl) hRs)⟩) hS (fun q _ h => hFc q h) hFc (fun r_190 M_191 t H_189 locs ht hvm hw hB hz1 hk1 hS => ?_)
                          have hp_192 := hw
                          obtain ⟨hP1, hD1⟩ := hB
                          rw [ht] at hP1
                          obtain ⟨hP, hD⟩ := va_joinP (X := [(za, .inr (13, [.int 0, .ref z1, .int (nI z2), .int (nI z3), .int z4, .int z5, .ref z6, .ref z7, .ref z8, .ref z9, .int (nI z10), .ref z11, .ref z12, .ref z13, .ref z14, .ref z15, .int (nI zgw36), .ref z17, .int z18, .ref z19]))]) (cx := []) (wr := [(za, .inr (13, [.int 0, .ref z1, .int (nI z2), .int (nI z3), .int z4, .int z5, .ref z6, .ref z7, .ref z8, .ref z9, .int (nI z10), .ref z11, .ref z12, .ref z13, .ref z14, .ref z15, .int (nI zgw36), .ref z17, .int z18, .ref z19]))]) (rx := []) (pl := va_pl L M_178) (pl1 := va_pl L M_178) hP hD [] [0] rfl rfl (by decide) (by decide) hk1 hFc hP1 hD1
                          have hP : va_P D vwCl ([(za, .inr (13, [.int 0, .ref z1, .int (nI z2), .int (nI z3), .int z4, .int z5, .ref z6, .ref z7, .ref z8, .ref z9, .int (nI z10), .ref z11, .ref z12, .ref z13, .ref z14, .ref z15, .int (nI zgw36), .ref z17, .int z18, .ref z19]))] ++ va_pl L M_178) H_189 := hP
                          have hD : va_D A ([(za, .inr (13, [.int 0, .ref z1, .int (nI z2), .int (nI z3), .int z4, .int z5, .ref z6, .ref z7, .ref z8, .ref z9, .int (nI z10), .ref z11, .ref z12, .ref z13, .ref z14, .ref z15, .int (nI zgw36), .ref z17, .int z18, .ref z19]))] ++ va_pl L M_178) := hD
                          obtain ⟨j_193, rfl, c_194⟩ := hp_192
                          refine lv_goto (tgt := 243) hx hb dX13_bear_233 (by decide) ?_
                          refine lv_iconst (v := 3) hx hb dX13_bear_243 (by decide) ?_
                          refine lv_aload hx hb dX13_bear_244 (lv_at hl 3 rfl) ?_
                          obtain ⟨v195, hv195, hc195⟩ : ∃ v : Nat, fs14[20]? = some (.ref v : Value) ∧ isk K L v 31 24 := hl14 20 (by decide)
                          refine pg_getN (D := D) (ci := 12) (v := .ref v195) (C := RX12) (T := TX12) (N := 51) hx hb hg inG12 hown hK hP hb_13.1 hM_180 rfl 20 (by decide) (hN.use (Cond.fieldLinkNest RX13 110 RX12 "where" "[I" RX13) 29 rfl rfl) (fun _ h9 => h9) hv195 dX13_bear_246 ?_
                          refine lv_iload hx hb dX13_bear_249 (lv_at hl 2 rfl) ?_
                          obtain ⟨f196, hM196, hf196⟩ := hW.open_31 hc195
                          have hi_197 : vp_in (nI v5w36) 24 := (inbN v5w36 24 (by omega) (by omega))
                          refine pg_iald hx hb hK hP hc195.1 0 hM196 rfl hi_197 dX13_bear_251 ?_
                          have hp_198 := hf196 _ (vp_lt hi_197)
                          obtain ⟨c_199, hc_200, ec_201⟩ := hp_198
                          rw [ec_201]
                          have hPc : va_P D vwCl ([] ++ va_pl L M_178) H_189 := hP.part (cx := []) [] rfl
                          have hDc : va_D A ([] ++ va_pl L M_178) := hD.part (cx := []) [] (by decide) rfl
                          have hFc : ∀ q, va_A ([] ++ va_pl L M_178) H_189.size q → A q := pg_free hDc hS hA
                          refine va_calli (va_runV (As := [.int (nI j_193), .int 3, .int (nI c_199)]) (rest := [.int (nI zgw36), .ref z12]) ⟨hx, hb, hml, hown, hg⟩ (r_X12_term l D cy K L M_178 H_189.size b11 j_193 3 c_199  hW hb_13 c_194 (by omega) hc_200) (cwV 3 hg (gV wd_770 wd_771 wd_772 wd_737 wd_773) rfl rfl rfl (by decide +kernel) ⟨(Nat.le_trans (Nat.le_of_ble_eq_true rfl) hRf), (Nat.le_trans (Nat.le_of_ble_eq_true rfl) hRl)⟩) ⟨PG.blind, pg_recv hK hP hb_13.1 hM_180 rfl, fun U hU hW => ⟨rfl, PG.at hPc hK hDc hN hU hW⟩⟩ rfl rfl hl.1 rfl (lv_room (Nat.le_of_ble_eq_true rfl)) dX13_bear_252 ⟨(Nat.le_trans (Nat.le_of_ble_eq_true rfl) hRc), (Nat.le_trans (Nat.le_of_ble_eq_true rfl) hRs)⟩) hS (fun q _ h => hFc q h) hFc (fun r_203 M_204 t H_202 locs ht hvm hw hB hz1 hk1 hS => ?_)
                          have hp_205 := hw
                          obtain ⟨hP1, hD1⟩ := hB
                          rw [ht] at hP1
                          obtain ⟨hP, hD⟩ := va_joinP (X := [(za, .inr (13, [.int 0, .ref z1, .int (nI z2), .int (nI z3), .int z4, .int z5, .ref z6, .ref z7, .ref z8, .ref z9, .int (nI z10), .ref z11, .ref z12, .ref z13, .ref z14, .ref z15, .int (nI zgw36), .ref z17, .int z18, .ref z19]))]) (cx := []) (wr := [(za, .inr (13, [.int 0, .ref z1, .int (nI z2), .int (nI z3), .int z4, .int z5, .ref z6, .ref z7, .ref z8, .ref z9, .int (nI z10), .ref z11, .ref z12, .ref z13, .ref z14, .ref z15, .int (nI zgw36), .ref z17, .int z18, .ref z19]))]) (rx := []) (pl := va_pl L M_178) (pl1 := va_pl L M_178) hP hD [] [0] rfl rfl (by decide) (by decide) hk1 hFc hP1 hD1
                          have hP : va_P D vwCl ([(za, .inr (13, [.int 0, .ref z1, .int (nI z2), .int (nI z3), .int z4, .int z5, .ref z6, .ref z7, .ref z8, .ref z9, .int (nI z10), .ref z11, .ref z12, .ref z13, .ref z14, .ref z15, .int (nI zgw36), .ref z17, .int z18, .ref z19]))] ++ va_pl L M_178) H_202 := hP
                          have hD : va_D A ([(za, .inr (13, [.int 0, .ref z1, .int (nI z2), .int (nI z3), .int z4, .int z5, .ref z6, .ref z7, .ref z8, .ref z9, .int (nI z10), .ref z11, .ref z12, .ref z13, .ref z14, .ref z15, .int (nI zgw36), .ref z17, .int z18, .ref z19]))] ++ va_pl L M_178) := hD
                          obtain ⟨f206, hM206⟩ := hW.open_14 i12
                          refine pg_iast hx hb hK hP hD hS i12.1 0 hM206 rfl (inbN zgw36 24 (by omega) (by omega)) dX13_bear_255 (fun H_207 locs hP hD hS => ?_)
                          obtain ⟨M_208, eM_208⟩ : ∃ M1 : Hp, M1 = va_up M_178 z12 (.inl (cy 14, 24, .inl (upd f206 ((nI zgw36) : Int32).toNatClampNeg r_203))) := ⟨_, rfl⟩
                          have hV : VW K L M M_208 b11 (fx M b11) (ax M b11) := by rw [eM_208]; exact hV.oth hW hb_13 i12 (by decide)
                          have hP : va_P D vwCl ([(za, .inr (13, [.int 0, .ref z1, .int (nI z2), .int (nI z3), .int z4, .int z5, .ref z6, .ref z7, .ref z8, .ref z9, .int (nI z10), .ref z11, .ref z12, .ref z13, .ref z14, .ref z15, .int (nI zgw36), .ref z17, .int z18, .ref z19]))] ++ va_pl L M_208) H_207 := by rw [eM_208]; exact hP
                          have hD : va_D A ([(za, .inr (13, [.int 0, .ref z1, .int (nI z2), .int (nI z3), .int z4, .int z5, .ref z6, .ref z7, .ref z8, .ref z9, .int (nI z10), .ref z11, .ref z12, .ref z13, .ref z14, .ref z15, .int (nI zgw36), .ref z17, .int z18, .ref z19]))] ++ va_pl L M_208) := by rw [eM_208]; exact hD
                          have hW : WOM cy K L M_208 := by rw [eM_208]; exact hW.up_14 i12 ⟨_, rfl⟩
                          have hF : fr K L [14, 15, 32] M M_208 := by rw [eM_208]; exact hF.up i12 (by decide)
                          have hM_209 : M_208 z12 = .inl (cy 14, 24, .inl (upd f206 ((nI zgw36) : Int32).toNatClampNeg r_203)) := by rw [eM_208]; exact va_up_self _ _ _
                          have hM_210 : M_208 z11 = .inl (cy 14, 24, .inl (f_184)) := by rw [eM_208, va_up_ne _ _ (i11.neT i12 (by decide))]; exact hM_179
                          have hM_211 : M_208 b11 = .inr (12, fs14) := by rw [eM_208, va_up_ne _ _ (hb_13.neT i12 (by decide))]; exact hM_180
                          have hM_212 : M_208 v109 = .inl (cy 14, 24, .inl (f110)) := by rw [eM_208, va_up_ne _ _ (hc109.neT i12 (by decide))]; exact hM_181
                          have hM_213 : M_208 v170 = .inl (cy 16, 24, .inl (f171)) := by rw [eM_208, va_up_ne _ _ (hc170.neT i12 (by decide))]; exact hM_183
                          have hM_214 : M_208 v187 = .inl (cy 14, 16, .inl (f188)) := by rw [eM_208, va_up_ne _ _ (hc187.neT i12 (by decide))]; exact hM188
                          have hM_215 : M_208 v195 = .inl (cy 14, 24, .inl (f196)) := by rw [eM_208, va_up_ne _ _ (hc195.neT i12 (by decide))]; exact hM196
                          obtain ⟨f_216, ef_216⟩ : ∃ f : Nat → Int32, f = upd f206 ((nI zgw36) : Int32).toNatClampNeg r_203 := ⟨_, rfl⟩
                          rw [← ef_216] at hM_209
                          refine lv_aload_n hx hb dX13_bear_256 rfl (lv_at hl 4 rfl) ?_
                          refine va_get (D := D) (ci := 13) (v := .ref z13) (C := RX13) (T := TX13) (N := 20) hx hb hg inG13 hown hK hP 0 rfl rfl 13 (by decide) (hg _ wd_789) (fun _ h9 => h9) rfl dX13_bear_257 ?_
                          refine lv_aload_n hx hb dX13_bear_260 rfl (lv_at hl 4 rfl) ?_
                          refine va_get (D := D) (ci := 13) (v := .int (nI zgw36)) (C := RX13) (T := TX13) (N := 20) hx hb hg inG13 hown hK hP 0 rfl rfl 16 (by decide) (hg _ wd_769) (fun _ h9 => h9) rfl dX13_bear_261 ?_
                          refine lv_lconst (v := 0) hx hb dX13_bear_264 (by decide) ?_
                          obtain ⟨f217, hM217⟩ := hW.open_15 i13
                          refine pg_last hx hb hK hP hD hS i13.1 1 hM217 rfl (inbN zgw36 24 (by omega) (by omega)) dX13_bear_265 (fun H_218 locs hP hD hS => ?_)
                          obtain ⟨M_219, eM_219⟩ : ∃ M1 : Hp, M1 = va_up M_208 z13 (.inl (cy 15, 24, .inr (.inl (vp_updL f217 ((nI zgw36) : Int32).toNatClampNeg 0)))) := ⟨_, rfl⟩
                          have hV : VW K L M M_219 b11 (fx M b11) (ax M b11) := by rw [eM_219]; exact hV.oth hW hb_13 i13 (by decide)
                          have hP : va_P D vwCl ([(za, .inr (13, [.int 0, .ref z1, .int (nI z2), .int (nI z3), .int z4, .int z5, .ref z6, .ref z7, .ref z8, .ref z9, .int (nI z10), .ref z11, .ref z12, .ref z13, .ref z14, .ref z15, .int (nI zgw36), .ref z17, .int z18, .ref z19]))] ++ va_pl L M_219) H_218 := by rw [eM_219]; exact hP
                          have hD : va_D A ([(za, .inr (13, [.int 0, .ref z1, .int (nI z2), .int (nI z3), .int z4, .int z5, .ref z6, .ref z7, .ref z8, .ref z9, .int (nI z10), .ref z11, .ref z12, .ref z13, .ref z14, .ref z15, .int (nI zgw36), .ref z17, .int z18, .ref z19]))] ++ va_pl L M_219) := by rw [eM_219]; exact hD
                          have hW : WOM cy K L M_219 := by rw [eM_219]; exact hW.up_15 i13 ⟨_, rfl⟩
                          have hF : fr K L [14, 15, 32] M M_219 := by rw [eM_219]; exact hF.up i13 (by decide)
                          have hM_220 : M_219 z13 = .inl (cy 15, 24, .inr (.inl (vp_updL f217 ((nI zgw36) : Int32).toNatClampNeg 0))) := by rw [eM_219]; exact va_up_self _ _ _
                          have hM_221 : M_219 z12 = .inl (cy 14, 24, .inl (f_216)) := by rw [eM_219, va_up_ne _ _ (i12.neT i13 (by decide))]; exact hM_209
                          have hM_222 : M_219 z11 = .inl (cy 14, 24, .inl (f_184)) := by rw [eM_219, va_up_ne _ _ (i11.neT i13 (by decide))]; exact hM_210
                          have hM_223 : M_219 b11 = .inr (12, fs14) := by rw [eM_219, va_up_ne _ _ (hb_13.neT i13 (by decide))]; exact hM_211
                          have hM_224 : M_219 v109 = .inl (cy 14, 24, .inl (f110)) := by rw [eM_219, va_up_ne _ _ (hc109.neT i13 (by decide))]; exact hM_212
                          have hM_225 : M_219 v170 = .inl (cy 16, 24, .inl (f171)) := by rw [eM_219, va_up_ne _ _ (hc170.neT i13 (by decide))]; exact hM_213
                          have hM_226 : M_219 v187 = .inl (cy 14, 16, .inl (f188)) := by rw [eM_219, va_up_ne _ _ (hc187.neT i13 (by decide))]; exact hM_214
                          have hM_227 : M_219 v195 = .inl (cy 14, 24, .inl (f196)) := by rw [eM_219, va_up_ne _ _ (hc195.neT i13 (by decide))]; exact hM_215
                          obtain ⟨f_228, ef_228⟩ : ∃ f : Nat → Int64, f = vp_updL f217 ((nI zgw36) : Int32).toNatClampNeg 0 := ⟨_, rfl⟩
                          rw [← ef_228] at hM_220
                          refine lv_aload_n hx hb dX13_bear_266 rfl (lv_at hl 4 rfl) ?_
                          refine lv_dup hx hb dX13_bear_267 rfl ?_
                          refine va_get (D := D) (ci := 13) (v := .int (nI zgw36)) (C := RX13) (T := TX13) (N := 20) hx hb hg inG13 hown hK hP 0 rfl rfl 16 (by decide) (hg _ wd_769) (fun _ h9 => h9) rfl dX13_bear_268 ?_
                          refine lv_iconst (v := 1) hx hb dX13_bear_271 (by decide) ?_
                          refine lv_iadd hx hb dX13_bear_272 ?_
                          refine lv_topi (fun f_229 ef_229 => ?_)
                          obtain rfl : f_229 = (nI (zgw36 + 1)) := ef_229.trans (nI_add zgw36 1)
                          refine va_put (D := D) (ci := 13) (v := .int (nI (zgw36 + 1))) (ty := .int) (C := RX13) (T := TX13) (N := 20) hx hb hg inG13 tyX13 tyX13_ok nmX13 hown hK hP hD hS 0 rfl rfl 16 (by decide) (hg _ wd_769) (fun _ h9 => h9) rfl (by decide +kernel) rfl rfl (Nat.le_of_ble_eq_true rfl) dX13_bear_273 (fun H_230 locs hP hD hS => ?_)
                          have hP : va_P D vwCl ([(za, .inr (13, [.int 0, .ref z1, .int (nI z2), .int (nI z3), .int z4, .int z5, .ref z6, .ref z7, .ref z8, .ref z9, .int (nI z10), .ref z11, .ref z12, .ref z13, .ref z14, .ref z15, .int (nI (zgw36 + 1)), .ref z17, .int z18, .ref z19]))] ++ va_pl L M_219) H_230 := hP
                          have hD : va_D A ([(za, .inr (13, [.int 0, .ref z1, .int (nI z2), .int (nI z3), .int z4, .int z5, .ref z6, .ref z7, .ref z8, .ref z9, .int (nI z10), .ref z11, .ref z12, .ref z13, .ref z14, .ref z15, .int (nI (zgw36 + 1)), .ref z17, .int z18, .ref z19]))] ++ va_pl L M_219) := hD
                          refine lv_iinc (v := (nI (v5w36 + 1))) (lv' := [(5, .int (nI (v5w36 + 1))), (7, .int 0), (6, .int 1), (4, .ref b11), (0, .ref za), (1, .int k1), (2, .int k2), (3, .int k3)]) hx hb dX13_bear_276 hl (k := 2) rfl (nI_1 v5w36) (by decide) rfl (fun ls hl => ?_)
                          refine lv_goto (tgt := 82) hx hb dX13_bear_279 (by decide) ?_
                          exact ih_34 (v5w36 + 1) (zgw36 + 1) M_219 H_230 _ _ (by omega) hM_223 (by omega) (by omega) hW hF hV hP hD hS (lv_sub hl [0, 3, 4, 5, 6, 7] rfl)
                        · rw [ec_173]
                          refine lv_if_eq (tgt := 185) hx hb dX13_bear_166 (by decide) (fun c_231 => absurd c_231 (by decide)) (fun _ => ?_)
                          refine lv_aload hx hb dX13_bear_169 (lv_at hl 2 rfl) ?_
                          refine pg_getN (D := D) (ci := 12) (v := .ref v109) (C := RX12) (T := TX12) (N := 51) hx hb hg inG12 hown hK hP hb_13.1 hM_41 rfl 22 (by decide) (hN.use (Cond.fieldLinkNest RX13 95 RX12 "ended" "[I" RX13) 31 rfl rfl) (fun _ h9 => h9) hv109 dX13_bear_171 ?_
                          refine lv_iload hx hb dX13_bear_174 (lv_at hl 1 rfl) ?_
                          refine pg_iald hx hb hK hP hc109.1 0 hM110 rfl (inbN v5w36 24 (by omega) (by omega)) dX13_bear_176 ?_
                          refine lv_topi (fun f_232 ef_232 => ?_)
                          refine lv_iconst (v := (-1)) hx hb dX13_bear_177 (by decide) ?_
                          refine lv_icmp_ne (tgt := 185) hx hb dX13_bear_178 (by decide) (fun c_233 => ?_) (fun c_233 => ?_)
                          · have hz := rfl (a := 0)
                            refine lv_iconst (v := 0) hx hb dX13_bear_185 (by decide) ?_
                            refine lv_istore (lv' := [(7, .int 0), (6, .int 1), (5, .int (nI v5w36)), (4, .ref b11), (0, .ref za), (1, .int k1), (2, .int k2), (3, .int k3)]) hx hb dX13_bear_186 hl (by decide) rfl (fun ls hl => ?_)
                            refine lv_iload hx hb dX13_bear_188 (lv_at hl 1 rfl) ?_
                            refine lv_if_ne (tgt := 201) hx hb dX13_bear_190 (by decide) (fun _ => ?_) (fun c_234 => absurd c_234 (by decide))
                            refine lv_aload_n hx hb dX13_bear_201 rfl (lv_at hl 4 rfl) ?_
                            refine va_get (D := D) (ci := 13) (v := .ref z11) (C := RX13) (T := TX13) (N := 20) hx hb hg inG13 hown hK hP 0 rfl rfl 11 (by decide) (hg _ wd_764) (fun _ h9 => h9) rfl dX13_bear_202 ?_
                            refine lv_aload_n hx hb dX13_bear_205 rfl (lv_at hl 4 rfl) ?_
                            refine va_get (D := D) (ci := 13) (v := .int (nI zgw36)) (C := RX13) (T := TX13) (N := 20) hx hb hg inG13 hown hK hP 0 rfl rfl 16 (by decide) (hg _ wd_769) (fun _ h9 => h9) rfl dX13_bear_206 ?_
                            refine lv_iload hx hb dX13_bear_209 (lv_at hl 2 rfl) ?_
                            obtain ⟨f235, hM235, hf235⟩ := hW.open_32 i11
                            refine pg_iast hx hb hK hP hD hS i11.1 0 hM235 rfl (inbN zgw36 24 (by omega) (by omega)) dX13_bear_211 (fun H_236 locs hP hD hS => ?_)
                            obtain ⟨M_237, eM_237⟩ : ∃ M1 : Hp, M1 = va_up M_39 z11 (.inl (cy 14, 24, .inl (upd f235 ((nI zgw36) : Int32).toNatClampNeg (nI v5w36)))) := ⟨_, rfl⟩
                            have hV : VW K L M M_237 b11 (fx M b11) (ax M b11) := by rw [eM_237]; exact hV.oth hW hb_13 i11 (by decide)
                            have hP : va_P D vwCl ([(za, .inr (13, [.int 0, .ref z1, .int (nI z2), .int (nI z3), .int z4, .int z5, .ref z6, .ref z7, .ref z8, .ref z9, .int (nI z10), .ref z11, .ref z12, .ref z13, .ref z14, .ref z15, .int (nI zgw36), .ref z17, .int z18, .ref z19]))] ++ va_pl L M_237) H_236 := by rw [eM_237]; exact hP
                            have hD : va_D A ([(za, .inr (13, [.int 0, .ref z1, .int (nI z2), .int (nI z3), .int z4, .int z5, .ref z6, .ref z7, .ref z8, .ref z9, .int (nI z10), .ref z11, .ref z12, .ref z13, .ref z14, .ref z15, .int (nI zgw36), .ref z17, .int z18, .ref z19]))] ++ va_pl L M_237) := by rw [eM_237]; exact hD
                            have hW : WOM cy K L M_237 := by rw [eM_237]; exact hW.up_32 i11 ⟨_, rfl, (updP (P := fun z => ∃ c : Nat, c < 24 ∧ z = nI c) hf235 ⟨v5w36, by omega, rfl⟩)⟩
                            have hF : fr K L [14, 15, 32] M M_237 := by rw [eM_237]; exact hF.up i11 (by decide)
                            have hM_238 : M_237 z11 = .inl (cy 14, 24, .inl (upd f235 ((nI zgw36) : Int32).toNatClampNeg (nI v5w36))) := by rw [eM_237]; exact va_up_self _ _ _
                            have hM_239 : M_237 b11 = .inr (12, fs14) := by rw [eM_237, va_up_ne _ _ (hb_13.neT i11 (by decide))]; exact hM_41
                            have hM_240 : M_237 v109 = .inl (cy 14, 24, .inl (f110)) := by rw [eM_237, va_up_ne _ _ (hc109.neT i11 (by decide))]; exact hM110
                            have hM_241 : M_237 v113 = .inl (cy 14, 24, .inl (f114)) := by rw [eM_237, va_up_ne _ _ (hc113.neT i11 (by decide))]; exact hM114
                            have hM_242 : M_237 v170 = .inl (cy 16, 24, .inl (f171)) := by rw [eM_237, va_up_ne _ _ (hc170.neT i11 (by decide))]; exact hM171
                            have hf_244 : ∀ j, j < 24 → ∃ c : Nat, c < 24 ∧ (upd f235 ((nI zgw36) : Int32).toNatClampNeg (nI v5w36)) j = nI c := (updP (P := fun z => ∃ c : Nat, c < 24 ∧ z = nI c) hf235 ⟨v5w36, by omega, rfl⟩)
                            obtain ⟨f_243, ef_243⟩ : ∃ f : Nat → Int32, f = upd f235 ((nI zgw36) : Int32).toNatClampNeg (nI v5w36) := ⟨_, rfl⟩
                            rw [← ef_243] at hM_238 hf_244
                            refine lv_aload_n hx hb dX13_bear_212 rfl (lv_at hl 4 rfl) ?_
                            refine va_get (D := D) (ci := 13) (v := .ref z12) (C := RX13) (T := TX13) (N := 20) hx hb hg inG13 hown hK hP 0 rfl rfl 12 (by decide) (hg _ wd_763) (fun _ h9 => h9) rfl dX13_bear_213 ?_
                            refine lv_aload_n hx hb dX13_bear_216 rfl (lv_at hl 4 rfl) ?_
                            refine va_get (D := D) (ci := 13) (v := .int (nI zgw36)) (C := RX13) (T := TX13) (N := 20) hx hb hg inG13 hown hK hP 0 rfl rfl 16 (by decide) (hg _ wd_769) (fun _ h9 => h9) rfl dX13_bear_217 ?_
                            refine lv_aload hx hb dX13_bear_220 (lv_at hl 3 rfl) ?_
                            refine lv_iload hx hb dX13_bear_222 (lv_at hl 1 rfl) ?_
                            refine lv_if_eq (tgt := 236) hx hb dX13_bear_224 (by decide) (fun c_245 => absurd c_245 (by decide)) (fun _ => ?_)
                            refine lv_aload hx hb dX13_bear_227 (lv_at hl 3 rfl) ?_
                            refine lv_iload_n hx hb dX13_bear_229 rfl (lv_at hl 6 rfl) ?_
                            have hPc : va_P D vwCl ([] ++ va_pl L M_237) H_236 := hP.part (cx := []) [] rfl
                            have hDc : va_D A ([] ++ va_pl L M_237) := hD.part (cx := []) [] (by decide) rfl
                            have hFc : ∀ q, va_A ([] ++ va_pl L M_237) H_236.size q → A q := pg_free hDc hS hA
                            have hx0 : (fx M b11 0) = ((v24 : Nat) : Int) := (congrFun hV.2.1 0).symm.trans ((fx_of hM_239 rfl hv24).trans (nI_toInt (by omega)))
                            have hx11 : (fx M b11 11) = ((v15 : Nat) : Int) := (congrFun hV.2.1 11).symm.trans ((fx_of hM_239 rfl hv15).trans (nI_toInt (by omega)))
                            obtain ⟨v246, hv246, hc246⟩ : ∃ v : Nat, fs14[34]? = some (.ref v : Value) ∧ isk K L v 43 16 := hl14 34 (by decide)
                            obtain ⟨f247, hM247⟩ := hW.open_43 hc246
                            have hy34 : (ax M b11 34) = f247 := (congrFun hV.2.2.1 34).symm.trans (ax_of hM_239 (by decide) hv246 hM247)
                            refine va_calli (va_runV (As := [.int k2]) (rest := [.ref b11, .int (nI zgw36), .ref z12]) ⟨hx, hb, hml, hown, hg⟩ (r_ruleOnP l D cy K L M_237 H_236.size b11 k2  hW hb_13 ⟨_, _, _, _, hM_239, hv15, by omega, by omega, hv246, hc246, hM247, rldp hy34 (hAT.2.2.2.1.1 (by omega)) (by rw [hx0]; exact geI c_25 (by omega))⟩) (cwV 1 hg (gV wd_815 wd_816 wd_817 wd_737 wd_818) rfl rfl rfl (by decide +kernel) ⟨(Nat.le_trans (Nat.le_of_ble_eq_true rfl) hRf), (Nat.le_trans (Nat.le_of_ble_eq_true rfl) hRl)⟩) ⟨PG.blind, pg_recv hK hP hb_13.1 hM_239 rfl, fun U hU hW => ⟨rfl, PG.at hPc hK hDc hN hU hW⟩⟩ rfl rfl hl.1 rfl (lv_room (Nat.le_of_ble_eq_true rfl)) dX13_bear_230 ⟨(Nat.le_trans (Nat.le_of_ble_eq_true rfl) hRc), (Nat.le_trans (Nat.le_of_ble_eq_true rfl) hRs)⟩) hS (fun q _ h => hFc q h) hFc (fun r_249 M_250 t H_248 locs ht hvm hw hB hz1 hk1 hS => ?_)
                            have hp_251 := hw
                            obtain ⟨hP1, hD1⟩ := hB
                            rw [ht] at hP1
                            obtain ⟨hP, hD⟩ := va_joinP (X := [(za, .inr (13, [.int 0, .ref z1, .int (nI z2), .int (nI z3), .int z4, .int z5, .ref z6, .ref z7, .ref z8, .ref z9, .int (nI z10), .ref z11, .ref z12, .ref z13, .ref z14, .ref z15, .int (nI zgw36), .ref z17, .int z18, .ref z19]))]) (cx := []) (wr := [(za, .inr (13, [.int 0, .ref z1, .int (nI z2), .int (nI z3), .int z4, .int z5, .ref z6, .ref z7, .ref z8, .ref z9, .int (nI z10), .ref z11, .ref z12, .ref z13, .ref z14, .ref z15, .int (nI zgw36), .ref z17, .int z18, .ref z19]))]) (rx := []) (pl := va_pl L M_237) (pl1 := va_pl L M_237) hP hD [] [0] rfl rfl (by decide) (by decide) hk1 hFc hP1 hD1
                            have hP : va_P D vwCl ([(za, .inr (13, [.int 0, .ref z1, .int (nI z2), .int (nI z3), .int z4, .int z5, .ref z6, .ref z7, .ref z8, .ref z9, .int (nI z10), .ref z11, .ref z12, .ref z13, .ref z14, .ref z15, .int (nI zgw36), .ref z17, .int z18, .ref z19]))] ++ va_pl L M_237) H_248 := hP
                            have hD : va_D A ([(za, .inr (13, [.int 0, .ref z1, .int (nI z2), .int (nI z3), .int z4, .int z5, .ref z6, .ref z7, .ref z8, .ref z9, .int (nI z10), .ref z11, .ref z12, .ref z13, .ref z14, .ref z15, .int (nI zgw36), .ref z17, .int z18, .ref z19]))] ++ va_pl L M_237) := hD
                            obtain ⟨j_252, rfl, c_253⟩ := hp_251
                            refine lv_goto (tgt := 243) hx hb dX13_bear_233 (by decide) ?_
                            refine lv_iconst (v := 3) hx hb dX13_bear_243 (by decide) ?_
                            refine lv_aload hx hb dX13_bear_244 (lv_at hl 3 rfl) ?_
                            obtain ⟨v254, hv254, hc254⟩ : ∃ v : Nat, fs14[20]? = some (.ref v : Value) ∧ isk K L v 31 24 := hl14 20 (by decide)
                            refine pg_getN (D := D) (ci := 12) (v := .ref v254) (C := RX12) (T := TX12) (N := 51) hx hb hg inG12 hown hK hP hb_13.1 hM_239 rfl 20 (by decide) (hN.use (Cond.fieldLinkNest RX13 110 RX12 "where" "[I" RX13) 29 rfl rfl) (fun _ h9 => h9) hv254 dX13_bear_246 ?_
                            refine lv_iload hx hb dX13_bear_249 (lv_at hl 2 rfl) ?_
                            obtain ⟨f255, hM255, hf255⟩ := hW.open_31 hc254
                            have hi_256 : vp_in (nI v5w36) 24 := (inbN v5w36 24 (by omega) (by omega))
                            refine pg_iald hx hb hK hP hc254.1 0 hM255 rfl hi_256 dX13_bear_251 ?_
                            have hp_257 := hf255 _ (vp_lt hi_256)
                            obtain ⟨c_258, hc_259, ec_260⟩ := hp_257
                            rw [ec_260]
                            have hPc : va_P D vwCl ([] ++ va_pl L M_237) H_248 := hP.part (cx := []) [] rfl
                            have hDc : va_D A ([] ++ va_pl L M_237) := hD.part (cx := []) [] (by decide) rfl
                            have hFc : ∀ q, va_A ([] ++ va_pl L M_237) H_248.size q → A q := pg_free hDc hS hA
                            refine va_calli (va_runV (As := [.int (nI j_252), .int 3, .int (nI c_258)]) (rest := [.int (nI zgw36), .ref z12]) ⟨hx, hb, hml, hown, hg⟩ (r_X12_term l D cy K L M_237 H_248.size b11 j_252 3 c_258  hW hb_13 c_253 (by omega) hc_259) (cwV 3 hg (gV wd_770 wd_771 wd_772 wd_737 wd_773) rfl rfl rfl (by decide +kernel) ⟨(Nat.le_trans (Nat.le_of_ble_eq_true rfl) hRf), (Nat.le_trans (Nat.le_of_ble_eq_true rfl) hRl)⟩) ⟨PG.blind, pg_recv hK hP hb_13.1 hM_239 rfl, fun U hU hW => ⟨rfl, PG.at hPc hK hDc hN hU hW⟩⟩ rfl rfl hl.1 rfl (lv_room (Nat.le_of_ble_eq_true rfl)) dX13_bear_252 ⟨(Nat.le_trans (Nat.le_of_ble_eq_true rfl) hRc), (Nat.le_trans (Nat.le_of_ble_eq_true rfl) hRs)⟩) hS (fun q _ h => hFc q h) hFc (fun r_262 M_263 t H_261 locs ht hvm hw hB hz1 hk1 hS => ?_)
                            have hp_264 := hw
                            obtain ⟨hP1, hD1⟩ := hB
                            rw [ht] at hP1
                            obtain ⟨hP, hD⟩ := va_joinP (X := [(za, .inr (13, [.int 0, .ref z1, .int (nI z2), .int (nI z3), .int z4, .int z5, .ref z6, .ref z7, .ref z8, .ref z9, .int (nI z10), .ref z11, .ref z12, .ref z13, .ref z14, .ref z15, .int (nI zgw36), .ref z17, .int z18, .ref z19]))]) (cx := []) (wr := [(za, .inr (13, [.int 0, .ref z1, .int (nI z2), .int (nI z3), .int z4, .int z5, .ref z6, .ref z7, .ref z8, .ref z9, .int (nI z10), .ref z11, .ref z12, .ref z13, .ref z14, .ref z15, .int (nI zgw36), .ref z17, .int z18, .ref z19]))]) (rx := []) (pl := va_pl L M_237) (pl1 := va_pl L M_237) hP hD [] [0] rfl rfl (by decide) (by decide) hk1 hFc hP1 hD1
                            have hP : va_P D vwCl ([(za, .inr (13, [.int 0, .ref z1, .int (nI z2), .int (nI z3), .int z4, .int z5, .ref z6, .ref z7, .ref z8, .ref z9, .int (nI z10), .ref z11, .ref z12, .ref z13, .ref z14, .ref z15, .int (nI zgw36), .ref z17, .int z18, .ref z19]))] ++ va_pl L M_237) H_261 := hP
                            have hD : va_D A ([(za, .inr (13, [.int 0, .ref z1, .int (nI z2), .int (nI z3), .int z4, .int z5, .ref z6, .ref z7, .ref z8, .ref z9, .int (nI z10), .ref z11, .ref z12, .ref z13, .ref z14, .ref z15, .int (nI zgw36), .ref z17, .int z18, .ref z19]))] ++ va_pl L M_237) := hD
                            obtain ⟨f265, hM265⟩ := hW.open_14 i12
                            refine pg_iast hx hb hK hP hD hS i12.1 0 hM265 rfl (inbN zgw36 24 (by omega) (by omega)) dX13_bear_255 (fun H_266 locs hP hD hS => ?_)
                            obtain ⟨M_267, eM_267⟩ : ∃ M1 : Hp, M1 = va_up M_237 z12 (.inl (cy 14, 24, .inl (upd f265 ((nI zgw36) : Int32).toNatClampNeg r_262))) := ⟨_, rfl⟩
                            have hV : VW K L M M_267 b11 (fx M b11) (ax M b11) := by rw [eM_267]; exact hV.oth hW hb_13 i12 (by decide)
                            have hP : va_P D vwCl ([(za, .inr (13, [.int 0, .ref z1, .int (nI z2), .int (nI z3), .int z4, .int z5, .ref z6, .ref z7, .ref z8, .ref z9, .int (nI z10), .ref z11, .ref z12, .ref z13, .ref z14, .ref z15, .int (nI zgw36), .ref z17, .int z18, .ref z19]))] ++ va_pl L M_267) H_266 := by rw [eM_267]; exact hP
                            have hD : va_D A ([(za, .inr (13, [.int 0, .ref z1, .int (nI z2), .int (nI z3), .int z4, .int z5, .ref z6, .ref z7, .ref z8, .ref z9, .int (nI z10), .ref z11, .ref z12, .ref z13, .ref z14, .ref z15, .int (nI zgw36), .ref z17, .int z18, .ref z19]))] ++ va_pl L M_267) := by rw [eM_267]; exact hD
                            have hW : WOM cy K L M_267 := by rw [eM_267]; exact hW.up_14 i12 ⟨_, rfl⟩
                            have hF : fr K L [14, 15, 32] M M_267 := by rw [eM_267]; exact hF.up i12 (by decide)
                            have hM_268 : M_267 z12 = .inl (cy 14, 24, .inl (upd f265 ((nI zgw36) : Int32).toNatClampNeg r_262)) := by rw [eM_267]; exact va_up_self _ _ _
                            have hM_269 : M_267 z11 = .inl (cy 14, 24, .inl (f_243)) := by rw [eM_267, va_up_ne _ _ (i11.neT i12 (by decide))]; exact hM_238
                            have hM_270 : M_267 b11 = .inr (12, fs14) := by rw [eM_267, va_up_ne _ _ (hb_13.neT i12 (by decide))]; exact hM_239
                            have hM_271 : M_267 v109 = .inl (cy 14, 24, .inl (f110)) := by rw [eM_267, va_up_ne _ _ (hc109.neT i12 (by decide))]; exact hM_240
                            have hM_272 : M_267 v170 = .inl (cy 16, 24, .inl (f171)) := by rw [eM_267, va_up_ne _ _ (hc170.neT i12 (by decide))]; exact hM_242
                            have hM_273 : M_267 v246 = .inl (cy 14, 16, .inl (f247)) := by rw [eM_267, va_up_ne _ _ (hc246.neT i12 (by decide))]; exact hM247
                            have hM_274 : M_267 v254 = .inl (cy 14, 24, .inl (f255)) := by rw [eM_267, va_up_ne _ _ (hc254.neT i12 (by decide))]; exact hM255
                            obtain ⟨f_275, ef_275⟩ : ∃ f : Nat → Int32, f = upd f265 ((nI zgw36) : Int32).toNatClampNeg r_262 := ⟨_, rfl⟩
                            rw [← ef_275] at hM_268
                            refine lv_aload_n hx hb dX13_bear_256 rfl (lv_at hl 4 rfl) ?_
                            refine va_get (D := D) (ci := 13) (v := .ref z13) (C := RX13) (T := TX13) (N := 20) hx hb hg inG13 hown hK hP 0 rfl rfl 13 (by decide) (hg _ wd_789) (fun _ h9 => h9) rfl dX13_bear_257 ?_
                            refine lv_aload_n hx hb dX13_bear_260 rfl (lv_at hl 4 rfl) ?_
                            refine va_get (D := D) (ci := 13) (v := .int (nI zgw36)) (C := RX13) (T := TX13) (N := 20) hx hb hg inG13 hown hK hP 0 rfl rfl 16 (by decide) (hg _ wd_769) (fun _ h9 => h9) rfl dX13_bear_261 ?_
                            refine lv_lconst (v := 0) hx hb dX13_bear_264 (by decide) ?_
                            obtain ⟨f276, hM276⟩ := hW.open_15 i13
                            refine pg_last hx hb hK hP hD hS i13.1 1 hM276 rfl (inbN zgw36 24 (by omega) (by omega)) dX13_bear_265 (fun H_277 locs hP hD hS => ?_)
                            obtain ⟨M_278, eM_278⟩ : ∃ M1 : Hp, M1 = va_up M_267 z13 (.inl (cy 15, 24, .inr (.inl (vp_updL f276 ((nI zgw36) : Int32).toNatClampNeg 0)))) := ⟨_, rfl⟩
                            have hV : VW K L M M_278 b11 (fx M b11) (ax M b11) := by rw [eM_278]; exact hV.oth hW hb_13 i13 (by decide)
                            have hP : va_P D vwCl ([(za, .inr (13, [.int 0, .ref z1, .int (nI z2), .int (nI z3), .int z4, .int z5, .ref z6, .ref z7, .ref z8, .ref z9, .int (nI z10), .ref z11, .ref z12, .ref z13, .ref z14, .ref z15, .int (nI zgw36), .ref z17, .int z18, .ref z19]))] ++ va_pl L M_278) H_277 := by rw [eM_278]; exact hP
                            have hD : va_D A ([(za, .inr (13, [.int 0, .ref z1, .int (nI z2), .int (nI z3), .int z4, .int z5, .ref z6, .ref z7, .ref z8, .ref z9, .int (nI z10), .ref z11, .ref z12, .ref z13, .ref z14, .ref z15, .int (nI zgw36), .ref z17, .int z18, .ref z19]))] ++ va_pl L M_278) := by rw [eM_278]; exact hD
                            have hW : WOM cy K L M_278 := by rw [eM_278]; exact hW.up_15 i13 ⟨_, rfl⟩
                            have hF : fr K L [14, 15, 32] M M_278 := by rw [eM_278]; exact hF.up i13 (by decide)
                            have hM_279 : M_278 z13 = .inl (cy 15, 24, .inr (.inl (vp_updL f276 ((nI zgw36) : Int32).toNatClampNeg 0))) := by rw [eM_278]; exact va_up_self _ _ _
                            have hM_280 : M_278 z12 = .inl (cy 14, 24, .inl (f_275)) := by rw [eM_278, va_up_ne _ _ (i12.neT i13 (by decide))]; exact hM_268
                            have hM_281 : M_278 z11 = .inl (cy 14, 24, .inl (f_243)) := by rw [eM_278, va_up_ne _ _ (i11.neT i13 (by decide))]; exact hM_269
                            have hM_282 : M_278 b11 = .inr (12, fs14) := by rw [eM_278, va_up_ne _ _ (hb_13.neT i13 (by decide))]; exact hM_270
                            have hM_283 : M_278 v109 = .inl (cy 14, 24, .inl (f110)) := by rw [eM_278, va_up_ne _ _ (hc109.neT i13 (by decide))]; exact hM_271
                            have hM_284 : M_278 v170 = .inl (cy 16, 24, .inl (f171)) := by rw [eM_278, va_up_ne _ _ (hc170.neT i13 (by decide))]; exact hM_272
                            have hM_285 : M_278 v246 = .inl (cy 14, 16, .inl (f247)) := by rw [eM_278, va_up_ne _ _ (hc246.neT i13 (by decide))]; exact hM_273
                            have hM_286 : M_278 v254 = .inl (cy 14, 24, .inl (f255)) := by rw [eM_278, va_up_ne _ _ (hc254.neT i13 (by decide))]; exact hM_274
                            obtain ⟨f_287, ef_287⟩ : ∃ f : Nat → Int64, f = vp_updL f276 ((nI zgw36) : Int32).toNatClampNeg 0 := ⟨_, rfl⟩
                            rw [← ef_287] at hM_279
                            refine lv_aload_n hx hb dX13_bear_266 rfl (lv_at hl 4 rfl) ?_
                            refine lv_dup hx hb dX13_bear_267 rfl ?_
                            refine va_get (D := D) (ci := 13) (v := .int (nI zgw36)) (C := RX13) (T := TX13) (N := 20) hx hb hg inG13 hown hK hP 0 rfl rfl 16 (by decide) (hg _ wd_769) (fun _ h9 => h9) rfl dX13_bear_268 ?_
                            refine lv_iconst (v := 1) hx hb dX13_bear_271 (by decide) ?_
                            refine lv_iadd hx hb dX13_bear_272 ?_
                            refine lv_topi (fun f_288 ef_288 => ?_)
                            obtain rfl : f_288 = (nI (zgw36 + 1)) := ef_288.trans (nI_add zgw36 1)
                            refine va_put (D := D) (ci := 13) (v := .int (nI (zgw36 + 1))) (ty := .int) (C := RX13) (T := TX13) (N := 20) hx hb hg inG13 tyX13 tyX13_ok nmX13 hown hK hP hD hS 0 rfl rfl 16 (by decide) (hg _ wd_769) (fun _ h9 => h9) rfl (by decide +kernel) rfl rfl (Nat.le_of_ble_eq_true rfl) dX13_bear_273 (fun H_289 locs hP hD hS => ?_)
                            have hP : va_P D vwCl ([(za, .inr (13, [.int 0, .ref z1, .int (nI z2), .int (nI z3), .int z4, .int z5, .ref z6, .ref z7, .ref z8, .ref z9, .int (nI z10), .ref z11, .ref z12, .ref z13, .ref z14, .ref z15, .int (nI (zgw36 + 1)), .ref z17, .int z18, .ref z19]))] ++ va_pl L M_278) H_289 := hP
                            have hD : va_D A ([(za, .inr (13, [.int 0, .ref z1, .int (nI z2), .int (nI z3), .int z4, .int z5, .ref z6, .ref z7, .ref z8, .ref z9, .int (nI z10), .ref z11, .ref z12, .ref z13, .ref z14, .ref z15, .int (nI (zgw36 + 1)), .ref z17, .int z18, .ref z19]))] ++ va_pl L M_278) := hD
                            refine lv_iinc (v := (nI (v5w36 + 1))) (lv' := [(5, .int (nI (v5w36 + 1))), (7, .int 0), (6, .int 1), (4, .ref b11), (0, .ref za), (1, .int k1), (2, .int k2), (3, .int k3)]) hx hb dX13_bear_276 hl (k := 2) rfl (nI_1 v5w36) (by decide) rfl (fun ls hl => ?_)
                            refine lv_goto (tgt := 82) hx hb dX13_bear_279 (by decide) ?_
                            exact ih_34 (v5w36 + 1) (zgw36 + 1) M_278 H_289 _ _ (by omega) hM_282 (by omega) (by omega) hW hF hV hP hD hS (lv_sub hl [0, 3, 4, 5, 6, 7] rfl)
                          · have hz := rfl (a := 0)
                            refine lv_iconst (v := 1) hx hb dX13_bear_181 (by decide) ?_
                            refine lv_goto (tgt := 186) hx hb dX13_bear_182 (by decide) ?_
                            refine lv_istore (lv' := [(7, .int 1), (6, .int 1), (5, .int (nI v5w36)), (4, .ref b11), (0, .ref za), (1, .int k1), (2, .int k2), (3, .int k3)]) hx hb dX13_bear_186 hl (by decide) rfl (fun ls hl => ?_)
                            refine lv_iload hx hb dX13_bear_188 (lv_at hl 1 rfl) ?_
                            refine lv_if_ne (tgt := 201) hx hb dX13_bear_190 (by decide) (fun _ => ?_) (fun c_290 => absurd c_290 (by decide))
                            refine lv_aload_n hx hb dX13_bear_201 rfl (lv_at hl 4 rfl) ?_
                            refine va_get (D := D) (ci := 13) (v := .ref z11) (C := RX13) (T := TX13) (N := 20) hx hb hg inG13 hown hK hP 0 rfl rfl 11 (by decide) (hg _ wd_764) (fun _ h9 => h9) rfl dX13_bear_202 ?_
                            refine lv_aload_n hx hb dX13_bear_205 rfl (lv_at hl 4 rfl) ?_
                            refine va_get (D := D) (ci := 13) (v := .int (nI zgw36)) (C := RX13) (T := TX13) (N := 20) hx hb hg inG13 hown hK hP 0 rfl rfl 16 (by decide) (hg _ wd_769) (fun _ h9 => h9) rfl dX13_bear_206 ?_
                            refine lv_iload hx hb dX13_bear_209 (lv_at hl 2 rfl) ?_
                            obtain ⟨f291, hM291, hf291⟩ := hW.open_32 i11
                            refine pg_iast hx hb hK hP hD hS i11.1 0 hM291 rfl (inbN zgw36 24 (by omega) (by omega)) dX13_bear_211 (fun H_292 locs hP hD hS => ?_)
                            obtain ⟨M_293, eM_293⟩ : ∃ M1 : Hp, M1 = va_up M_39 z11 (.inl (cy 14, 24, .inl (upd f291 ((nI zgw36) : Int32).toNatClampNeg (nI v5w36)))) := ⟨_, rfl⟩
                            have hV : VW K L M M_293 b11 (fx M b11) (ax M b11) := by rw [eM_293]; exact hV.oth hW hb_13 i11 (by decide)
                            have hP : va_P D vwCl ([(za, .inr (13, [.int 0, .ref z1, .int (nI z2), .int (nI z3), .int z4, .int z5, .ref z6, .ref z7, .ref z8, .ref z9, .int (nI z10), .ref z11, .ref z12, .ref z13, .ref z14, .ref z15, .int (nI zgw36), .ref z17, .int z18, .ref z19]))] ++ va_pl L M_293) H_292 := by rw [eM_293]; exact hP
                            have hD : va_D A ([(za, .inr (13, [.int 0, .ref z1, .int (nI z2), .int (nI z3), .int z4, .int z5, .ref z6, .ref z7, .ref z8, .ref z9, .int (nI z10), .ref z11, .ref z12, .ref z13, .ref z14, .ref z15, .int (nI zgw36), .ref z17, .int z18, .ref z19]))] ++ va_pl L M_293) := by rw [eM_293]; exact hD
                            have hW : WOM cy K L M_293 := by rw [eM_293]; exact hW.up_32 i11 ⟨_, rfl, (updP (P := fun z => ∃ c : Nat, c < 24 ∧ z = nI c) hf291 ⟨v5w36, by omega, rfl⟩)⟩
                            have hF : fr K L [14, 15, 32] M M_293 := by rw [eM_293]; exact hF.up i11 (by decide)
                            have hM_294 : M_293 z11 = .inl (cy 14, 24, .inl (upd f291 ((nI zgw36) : Int32).toNatClampNeg (nI v5w36))) := by rw [eM_293]; exact va_up_self _ _ _
                            have hM_295 : M_293 b11 = .inr (12, fs14) := by rw [eM_293, va_up_ne _ _ (hb_13.neT i11 (by decide))]; exact hM_41
                            have hM_296 : M_293 v109 = .inl (cy 14, 24, .inl (f110)) := by rw [eM_293, va_up_ne _ _ (hc109.neT i11 (by decide))]; exact hM110
                            have hM_297 : M_293 v113 = .inl (cy 14, 24, .inl (f114)) := by rw [eM_293, va_up_ne _ _ (hc113.neT i11 (by decide))]; exact hM114
                            have hM_298 : M_293 v170 = .inl (cy 16, 24, .inl (f171)) := by rw [eM_293, va_up_ne _ _ (hc170.neT i11 (by decide))]; exact hM171
                            have hf_300 : ∀ j, j < 24 → ∃ c : Nat, c < 24 ∧ (upd f291 ((nI zgw36) : Int32).toNatClampNeg (nI v5w36)) j = nI c := (updP (P := fun z => ∃ c : Nat, c < 24 ∧ z = nI c) hf291 ⟨v5w36, by omega, rfl⟩)
                            obtain ⟨f_299, ef_299⟩ : ∃ f : Nat → Int32, f = upd f291 ((nI zgw36) : Int32).toNatClampNeg (nI v5w36) := ⟨_, rfl⟩
                            rw [← ef_299] at hM_294 hf_300
                            refine lv_aload_n hx hb dX13_bear_212 rfl (lv_at hl 4 rfl) ?_
                            refine va_get (D := D) (ci := 13) (v := .ref z12) (C := RX13) (T := TX13) (N := 20) hx hb hg inG13 hown hK hP 0 rfl rfl 12 (by decide) (hg _ wd_763) (fun _ h9 => h9) rfl dX13_bear_213 ?_
                            refine lv_aload_n hx hb dX13_bear_216 rfl (lv_at hl 4 rfl) ?_
                            refine va_get (D := D) (ci := 13) (v := .int (nI zgw36)) (C := RX13) (T := TX13) (N := 20) hx hb hg inG13 hown hK hP 0 rfl rfl 16 (by decide) (hg _ wd_769) (fun _ h9 => h9) rfl dX13_bear_217 ?_
                            refine lv_aload hx hb dX13_bear_220 (lv_at hl 3 rfl) ?_
                            refine lv_iload hx hb dX13_bear_222 (lv_at hl 1 rfl) ?_
                            refine lv_if_eq (tgt := 236) hx hb dX13_bear_224 (by decide) (fun c_301 => absurd c_301 (by decide)) (fun _ => ?_)
                            refine lv_aload hx hb dX13_bear_227 (lv_at hl 3 rfl) ?_
                            refine lv_iload_n hx hb dX13_bear_229 rfl (lv_at hl 6 rfl) ?_
                            have hPc : va_P D vwCl ([] ++ va_pl L M_293) H_292 := hP.part (cx := []) [] rfl
                            have hDc : va_D A ([] ++ va_pl L M_293) := hD.part (cx := []) [] (by decide) rfl
                            have hFc : ∀ q, va_A ([] ++ va_pl L M_293) H_292.size q → A q := pg_free hDc hS hA
                            have hx0 : (fx M b11 0) = ((v24 : Nat) : Int) := (congrFun hV.2.1 0).symm.trans ((fx_of hM_295 rfl hv24).trans (nI_toInt (by omega)))
                            have hx11 : (fx M b11 11) = ((v15 : Nat) : Int) := (congrFun hV.2.1 11).symm.trans ((fx_of hM_295 rfl hv15).trans (nI_toInt (by omega)))
                            obtain ⟨v302, hv302, hc302⟩ : ∃ v : Nat, fs14[34]? = some (.ref v : Value) ∧ isk K L v 43 16 := hl14 34 (by decide)
                            obtain ⟨f303, hM303⟩ := hW.open_43 hc302
                            have hy34 : (ax M b11 34) = f303 := (congrFun hV.2.2.1 34).symm.trans (ax_of hM_295 (by decide) hv302 hM303)
                            refine va_calli (va_runV (As := [.int k2]) (rest := [.ref b11, .int (nI zgw36), .ref z12]) ⟨hx, hb, hml, hown, hg⟩ (r_ruleOnP l D cy K L M_293 H_292.size b11 k2  hW hb_13 ⟨_, _, _, _, hM_295, hv15, by omega, by omega, hv302, hc302, hM303, rldp hy34 (hAT.2.2.2.1.1 (by omega)) (by rw [hx0]; exact geI c_25 (by omega))⟩) (cwV 1 hg (gV wd_815 wd_816 wd_817 wd_737 wd_818) rfl rfl rfl (by decide +kernel) ⟨(Nat.le_trans (Nat.le_of_ble_eq_true rfl) hRf), (Nat.le_trans (Nat.le_of_ble_eq_true rfl) hRl)⟩) ⟨PG.blind, pg_recv hK hP hb_13.1 hM_295 rfl, fun U hU hW => ⟨rfl, PG.at hPc hK hDc hN hU hW⟩⟩ rfl rfl hl.1 rfl (lv_room (Nat.le_of_ble_eq_true rfl)) dX13_bear_230 ⟨(Nat.le_trans (Nat.le_of_ble_eq_true rfl) hRc), (Nat.le_trans (Nat.le_of_ble_eq_true rfl) hRs)⟩) hS (fun q _ h => hFc q h) hFc (fun r_305 M_306 t H_304 locs ht hvm hw hB hz1 hk1 hS => ?_)
                            have hp_307 := hw
                            obtain ⟨hP1, hD1⟩ := hB
                            rw [ht] at hP1
                            obtain ⟨hP, hD⟩ := va_joinP (X := [(za, .inr (13, [.int 0, .ref z1, .int (nI z2), .int (nI z3), .int z4, .int z5, .ref z6, .ref z7, .ref z8, .ref z9, .int (nI z10), .ref z11, .ref z12, .ref z13, .ref z14, .ref z15, .int (nI zgw36), .ref z17, .int z18, .ref z19]))]) (cx := []) (wr := [(za, .inr (13, [.int 0, .ref z1, .int (nI z2), .int (nI z3), .int z4, .int z5, .ref z6, .ref z7, .ref z8, .ref z9, .int (nI z10), .ref z11, .ref z12, .ref z13, .ref z14, .ref z15, .int (nI zgw36), .ref z17, .int z18, .ref z19]))]) (rx := []) (pl := va_pl L M_293) (pl1 := va_pl L M_293) hP hD [] [0] rfl rfl (by decide) (by decide) hk1 hFc hP1 hD1
                            have hP : va_P D vwCl ([(za, .inr (13, [.int 0, .ref z1, .int (nI z2), .int (nI z3), .int z4, .int z5, .ref z6, .ref z7, .ref z8, .ref z9, .int (nI z10), .ref z11, .ref z12, .ref z13, .ref z14, .ref z15, .int (nI zgw36), .ref z17, .int z18, .ref z19]))] ++ va_pl L M_293) H_304 := hP
                            have hD : va_D A ([(za, .inr (13, [.int 0, .ref z1, .int (nI z2), .int (nI z3), .int z4, .int z5, .ref z6, .ref z7, .ref z8, .ref z9, .int (nI z10), .ref z11, .ref z12, .ref z13, .ref z14, .ref z15, .int (nI zgw36), .ref z17, .int z18, .ref z19]))] ++ va_pl L M_293) := hD
                            obtain ⟨j_308, rfl, c_309⟩ := hp_307
                            refine lv_goto (tgt := 243) hx hb dX13_bear_233 (by decide) ?_
                            refine lv_iconst (v := 3) hx hb dX13_bear_243 (by decide) ?_
                            refine lv_aload hx hb dX13_bear_244 (lv_at hl 3 rfl) ?_
                            obtain ⟨v310, hv310, hc310⟩ : ∃ v : Nat, fs14[20]? = some (.ref v : Value) ∧ isk K L v 31 24 := hl14 20 (by decide)
                            refine pg_getN (D := D) (ci := 12) (v := .ref v310) (C := RX12) (T := TX12) (N := 51) hx hb hg inG12 hown hK hP hb_13.1 hM_295 rfl 20 (by decide) (hN.use (Cond.fieldLinkNest RX13 110 RX12 "where" "[I" RX13) 29 rfl rfl) (fun _ h9 => h9) hv310 dX13_bear_246 ?_
                            refine lv_iload hx hb dX13_bear_249 (lv_at hl 2 rfl) ?_
                            obtain ⟨f311, hM311, hf311⟩ := hW.open_31 hc310
                            have hi_312 : vp_in (nI v5w36) 24 := (inbN v5w36 24 (by omega) (by omega))
                            refine pg_iald hx hb hK hP hc310.1 0 hM311 rfl hi_312 dX13_bear_251 ?_
                            have hp_313 := hf311 _ (vp_lt hi_312)
                            obtain ⟨c_314, hc_315, ec_316⟩ := hp_313
                            rw [ec_316]
                            have hPc : va_P D vwCl ([] ++ va_pl L M_293) H_304 := hP.part (cx := []) [] rfl
                            have hDc : va_D A ([] ++ va_pl L M_293) := hD.part (cx := []) [] (by decide) rfl
                            have hFc : ∀ q, va_A ([] ++ va_pl L M_293) H_304.size q → A q := pg_free hDc hS hA
                            refine va_calli (va_runV (As := [.int (nI j_308), .int 3, .int (nI c_314)]) (rest := [.int (nI zgw36), .ref z12]) ⟨hx, hb, hml, hown, hg⟩ (r_X12_term l D cy K L M_293 H_304.size b11 j_308 3 c_314  hW hb_13 c_309 (by omega) hc_315) (cwV 3 hg (gV wd_770 wd_771 wd_772 wd_737 wd_773) rfl rfl rfl (by decide +kernel) ⟨(Nat.le_trans (Nat.le_of_ble_eq_true rfl) hRf), (Nat.le_trans (Nat.le_of_ble_eq_true rfl) hRl)⟩) ⟨PG.blind, pg_recv hK hP hb_13.1 hM_295 rfl, fun U hU hW => ⟨rfl, PG.at hPc hK hDc hN hU hW⟩⟩ rfl rfl hl.1 rfl (lv_room (Nat.le_of_ble_eq_true rfl)) dX13_bear_252 ⟨(Nat.le_trans (Nat.le_of_ble_eq_true rfl) hRc), (Nat.le_trans (Nat.le_of_ble_eq_true rfl) hRs)⟩) hS (fun q _ h => hFc q h) hFc (fun r_318 M_319 t H_317 locs ht hvm hw hB hz1 hk1 hS => ?_)
                            have hp_320 := hw
                            obtain ⟨hP1, hD1⟩ := hB
                            rw [ht] at hP1
                            obtain ⟨hP, hD⟩ := va_joinP (X := [(za, .inr (13, [.int 0, .ref z1, .int (nI z2), .int (nI z3), .int z4, .int z5, .ref z6, .ref z7, .ref z8, .ref z9, .int (nI z10), .ref z11, .ref z12, .ref z13, .ref z14, .ref z15, .int (nI zgw36), .ref z17, .int z18, .ref z19]))]) (cx := []) (wr := [(za, .inr (13, [.int 0, .ref z1, .int (nI z2), .int (nI z3), .int z4, .int z5, .ref z6, .ref z7, .ref z8, .ref z9, .int (nI z10), .ref z11, .ref z12, .ref z13, .ref z14, .ref z15, .int (nI zgw36), .ref z17, .int z18, .ref z19]))]) (rx := []) (pl := va_pl L M_293) (pl1 := va_pl L M_293) hP hD [] [0] rfl rfl (by decide) (by decide) hk1 hFc hP1 hD1
                            have hP : va_P D vwCl ([(za, .inr (13, [.int 0, .ref z1, .int (nI z2), .int (nI z3), .int z4, .int z5, .ref z6, .ref z7, .ref z8, .ref z9, .int (nI z10), .ref z11, .ref z12, .ref z13, .ref z14, .ref z15, .int (nI zgw36), .ref z17, .int z18, .ref z19]))] ++ va_pl L M_293) H_317 := hP
                            have hD : va_D A ([(za, .inr (13, [.int 0, .ref z1, .int (nI z2), .int (nI z3), .int z4, .int z5, .ref z6, .ref z7, .ref z8, .ref z9, .int (nI z10), .ref z11, .ref z12, .ref z13, .ref z14, .ref z15, .int (nI zgw36), .ref z17, .int z18, .ref z19]))] ++ va_pl L M_293) := hD
                            obtain ⟨f321, hM321⟩ := hW.open_14 i12
                            refine pg_iast hx hb hK hP hD hS i12.1 0 hM321 rfl (inbN zgw36 24 (by omega) (by omega)) dX13_bear_255 (fun H_322 locs hP hD hS => ?_)
                            obtain ⟨M_323, eM_323⟩ : ∃ M1 : Hp, M1 = va_up M_293 z12 (.inl (cy 14, 24, .inl (upd f321 ((nI zgw36) : Int32).toNatClampNeg r_318))) := ⟨_, rfl⟩
                            have hV : VW K L M M_323 b11 (fx M b11) (ax M b11) := by rw [eM_323]; exact hV.oth hW hb_13 i12 (by decide)
                            have hP : va_P D vwCl ([(za, .inr (13, [.int 0, .ref z1, .int (nI z2), .int (nI z3), .int z4, .int z5, .ref z6, .ref z7, .ref z8, .ref z9, .int (nI z10), .ref z11, .ref z12, .ref z13, .ref z14, .ref z15, .int (nI zgw36), .ref z17, .int z18, .ref z19]))] ++ va_pl L M_323) H_322 := by rw [eM_323]; exact hP
                            have hD : va_D A ([(za, .inr (13, [.int 0, .ref z1, .int (nI z2), .int (nI z3), .int z4, .int z5, .ref z6, .ref z7, .ref z8, .ref z9, .int (nI z10), .ref z11, .ref z12, .ref z13, .ref z14, .ref z15, .int (nI zgw36), .ref z17, .int z18, .ref z19]))] ++ va_pl L M_323) := by rw [eM_323]; exact hD
                            have hW : WOM cy K L M_323 := by rw [eM_323]; exact hW.up_14 i12 ⟨_, rfl⟩
                            have hF : fr K L [14, 15, 32] M M_323 := by rw [eM_323]; exact hF.up i12 (by decide)
                            have hM_324 : M_323 z12 = .inl (cy 14, 24, .inl (upd f321 ((nI zgw36) : Int32).toNatClampNeg r_318)) := by rw [eM_323]; exact va_up_self _ _ _
                            have hM_325 : M_323 z11 = .inl (cy 14, 24, .inl (f_299)) := by rw [eM_323, va_up_ne _ _ (i11.neT i12 (by decide))]; exact hM_294
                            have hM_326 : M_323 b11 = .inr (12, fs14) := by rw [eM_323, va_up_ne _ _ (hb_13.neT i12 (by decide))]; exact hM_295
                            have hM_327 : M_323 v109 = .inl (cy 14, 24, .inl (f110)) := by rw [eM_323, va_up_ne _ _ (hc109.neT i12 (by decide))]; exact hM_296
                            have hM_328 : M_323 v170 = .inl (cy 16, 24, .inl (f171)) := by rw [eM_323, va_up_ne _ _ (hc170.neT i12 (by decide))]; exact hM_298
                            have hM_329 : M_323 v302 = .inl (cy 14, 16, .inl (f303)) := by rw [eM_323, va_up_ne _ _ (hc302.neT i12 (by decide))]; exact hM303
                            have hM_330 : M_323 v310 = .inl (cy 14, 24, .inl (f311)) := by rw [eM_323, va_up_ne _ _ (hc310.neT i12 (by decide))]; exact hM311
                            obtain ⟨f_331, ef_331⟩ : ∃ f : Nat → Int32, f = upd f321 ((nI zgw36) : Int32).toNatClampNeg r_318 := ⟨_, rfl⟩
                            rw [← ef_331] at hM_324
                            refine lv_aload_n hx hb dX13_bear_256 rfl (lv_at hl 4 rfl) ?_
                            refine va_get (D := D) (ci := 13) (v := .ref z13) (C := RX13) (T := TX13) (N := 20) hx hb hg inG13 hown hK hP 0 rfl rfl 13 (by decide) (hg _ wd_789) (fun _ h9 => h9) rfl dX13_bear_257 ?_
                            refine lv_aload_n hx hb dX13_bear_260 rfl (lv_at hl 4 rfl) ?_
                            refine va_get (D := D) (ci := 13) (v := .int (nI zgw36)) (C := RX13) (T := TX13) (N := 20) hx hb hg inG13 hown hK hP 0 rfl rfl 16 (by decide) (hg _ wd_769) (fun _ h9 => h9) rfl dX13_bear_261 ?_
                            refine lv_lconst (v := 0) hx hb dX13_bear_264 (by decide) ?_
                            obtain ⟨f332, hM332⟩ := hW.open_15 i13
                            refine pg_last hx hb hK hP hD hS i13.1 1 hM332 rfl (inbN zgw36 24 (by omega) (by omega)) dX13_bear_265 (fun H_333 locs hP hD hS => ?_)
                            obtain ⟨M_334, eM_334⟩ : ∃ M1 : Hp, M1 = va_up M_323 z13 (.inl (cy 15, 24, .inr (.inl (vp_updL f332 ((nI zgw36) : Int32).toNatClampNeg 0)))) := ⟨_, rfl⟩
                            have hV : VW K L M M_334 b11 (fx M b11) (ax M b11) := by rw [eM_334]; exact hV.oth hW hb_13 i13 (by decide)
                            have hP : va_P D vwCl ([(za, .inr (13, [.int 0, .ref z1, .int (nI z2), .int (nI z3), .int z4, .int z5, .ref z6, .ref z7, .ref z8, .ref z9, .int (nI z10), .ref z11, .ref z12, .ref z13, .ref z14, .ref z15, .int (nI zgw36), .ref z17, .int z18, .ref z19]))] ++ va_pl L M_334) H_333 := by rw [eM_334]; exact hP
                            have hD : va_D A ([(za, .inr (13, [.int 0, .ref z1, .int (nI z2), .int (nI z3), .int z4, .int z5, .ref z6, .ref z7, .ref z8, .ref z9, .int (nI z10), .ref z11, .ref z12, .ref z13, .ref z14, .ref z15, .int (nI zgw36), .ref z17, .int z18, .ref z19]))] ++ va_pl L M_334) := by rw [eM_334]; exact hD
                            have hW : WOM cy K L M_334 := by rw [eM_334]; exact hW.up_15 i13 ⟨_, rfl⟩
                            have hF : fr K L [14, 15, 32] M M_334 := by rw [eM_334]; exact hF.up i13 (by decide)
                            have hM_335 : M_334 z13 = .inl (cy 15, 24, .inr (.inl (vp_updL f332 ((nI zgw36) : Int32).toNatClampNeg 0))) := by rw [eM_334]; exact va_up_self _ _ _
                            have hM_336 : M_334 z12 = .inl (cy 14, 24, .inl (f_331)) := by rw [eM_334, va_up_ne _ _ (i12.neT i13 (by decide))]; exact hM_324
                            have hM_337 : M_334 z11 = .inl (cy 14, 24, .inl (f_299)) := by rw [eM_334, va_up_ne _ _ (i11.neT i13 (by decide))]; exact hM_325
                            have hM_338 : M_334 b11 = .inr (12, fs14) := by rw [eM_334, va_up_ne _ _ (hb_13.neT i13 (by decide))]; exact hM_326
                            have hM_339 : M_334 v109 = .inl (cy 14, 24, .inl (f110)) := by rw [eM_334, va_up_ne _ _ (hc109.neT i13 (by decide))]; exact hM_327
                            have hM_340 : M_334 v170 = .inl (cy 16, 24, .inl (f171)) := by rw [eM_334, va_up_ne _ _ (hc170.neT i13 (by decide))]; exact hM_328
                            have hM_341 : M_334 v302 = .inl (cy 14, 16, .inl (f303)) := by rw [eM_334, va_up_ne _ _ (hc302.neT i13 (by decide))]; exact hM_329
                            have hM_342 : M_334 v310 = .inl (cy 14, 24, .inl (f311)) := by rw [eM_334, va_up_ne _ _ (hc310.neT i13 (by decide))]; exact hM_330
                            obtain ⟨f_343, ef_343⟩ : ∃ f : Nat → Int64, f = vp_updL f332 ((nI zgw36) : Int32).toNatClampNeg 0 := ⟨_, rfl⟩
                            rw [← ef_343] at hM_335
                            refine lv_aload_n hx hb dX13_bear_266 rfl (lv_at hl 4 rfl) ?_
                            refine lv_dup hx hb dX13_bear_267 rfl ?_
                            refine va_get (D := D) (ci := 13) (v := .int (nI zgw36)) (C := RX13) (T := TX13) (N := 20) hx hb hg inG13 hown hK hP 0 rfl rfl 16 (by decide) (hg _ wd_769) (fun _ h9 => h9) rfl dX13_bear_268 ?_
                            refine lv_iconst (v := 1) hx hb dX13_bear_271 (by decide) ?_
                            refine lv_iadd hx hb dX13_bear_272 ?_
                            refine lv_topi (fun f_344 ef_344 => ?_)
                            obtain rfl : f_344 = (nI (zgw36 + 1)) := ef_344.trans (nI_add zgw36 1)
                            refine va_put (D := D) (ci := 13) (v := .int (nI (zgw36 + 1))) (ty := .int) (C := RX13) (T := TX13) (N := 20) hx hb hg inG13 tyX13 tyX13_ok nmX13 hown hK hP hD hS 0 rfl rfl 16 (by decide) (hg _ wd_769) (fun _ h9 => h9) rfl (by decide +kernel) rfl rfl (Nat.le_of_ble_eq_true rfl) dX13_bear_273 (fun H_345 locs hP hD hS => ?_)
                            have hP : va_P D vwCl ([(za, .inr (13, [.int 0, .ref z1, .int (nI z2), .int (nI z3), .int z4, .int z5, .ref z6, .ref z7, .ref z8, .ref z9, .int (nI z10), .ref z11, .ref z12, .ref z13, .ref z14, .ref z15, .int (nI (zgw36 + 1)), .ref z17, .int z18, .ref z19]))] ++ va_pl L M_334) H_345 := hP
                            have hD : va_D A ([(za, .inr (13, [.int 0, .ref z1, .int (nI z2), .int (nI z3), .int z4, .int z5, .ref z6, .ref z7, .ref z8, .ref z9, .int (nI z10), .ref z11, .ref z12, .ref z13, .ref z14, .ref z15, .int (nI (zgw36 + 1)), .ref z17, .int z18, .ref z19]))] ++ va_pl L M_334) := hD
                            refine lv_iinc (v := (nI (v5w36 + 1))) (lv' := [(5, .int (nI (v5w36 + 1))), (7, .int 1), (6, .int 1), (4, .ref b11), (0, .ref za), (1, .int k1), (2, .int k2), (3, .int k3)]) hx hb dX13_bear_276 hl (k := 2) rfl (nI_1 v5w36) (by decide) rfl (fun ls hl => ?_)
                            refine lv_goto (tgt := 82) hx hb dX13_bear_279 (by decide) ?_
                            exact ih_34 (v5w36 + 1) (zgw36 + 1) M_334 H_345 _ _ (by omega) hM_338 (by omega) (by omega) hW hF hV hP hD hS (lv_sub hl [0, 3, 4, 5, 6, 7] rfl)
                    · have hz := rfl (a := 0)
                      refine lv_aload hx hb dX13_bear_115 (lv_at hl 1 rfl) ?_
                      refine lv_aload hx hb dX13_bear_117 (lv_at hl 1 rfl) ?_
                      refine pg_getN (D := D) (ci := 12) (v := .ref v109) (C := RX12) (T := TX12) (N := 51) hx hb hg inG12 hown hK hP hb_13.1 hM_41 rfl 22 (by decide) (hN.use (Cond.fieldLinkNest RX13 95 RX12 "ended" "[I" RX13) 31 rfl rfl) (fun _ h9 => h9) hv109 dX13_bear_119 ?_
                      refine lv_iload hx hb dX13_bear_122 (lv_at hl 0 rfl) ?_
                      refine pg_iald hx hb hK hP hc109.1 0 hM110 rfl (inbN v5w36 24 (by omega) (by omega)) dX13_bear_124 ?_
                      refine lv_topi (fun f_346 ef_346 => ?_)
                      have hPc : va_P D vwCl ([] ++ va_pl L M_39) H_104 := hP.part (cx := []) [] rfl
                      have hDc : va_D A ([] ++ va_pl L M_39) := hD.part (cx := []) [] (by decide) rfl
                      have hFc : ∀ q, va_A ([] ++ va_pl L M_39) H_104.size q → A q := pg_free hDc hS hA
                      refine va_calli (va_runS (As := [.ref b11, .int f_346]) (rest := []) ⟨hx, hb, hml, hown, hg⟩ (r_X13_since l D cy K L M_39 H_104.size b11 f_346  hW hb_13) (va_cwS 2 hg (gS wd_819 wd_820 wd_717 wd_821) rfl rfl rfl (by decide +kernel) ⟨(Nat.le_trans (Nat.le_of_ble_eq_true rfl) hRf), (Nat.le_trans (Nat.le_of_ble_eq_true rfl) hRl)⟩) ⟨PG.blind, fun U hU hW => ⟨rfl, PG.at hPc hK hDc hN hU hW⟩⟩ rfl rfl hl.1 rfl (lv_room (Nat.le_of_ble_eq_true rfl)) dX13_bear_125 ⟨(Nat.le_trans (Nat.le_of_ble_eq_true rfl) hRc), (Nat.le_trans (Nat.le_of_ble_eq_true rfl) hRs)⟩) hS (fun q _ h => hFc q h) hFc (fun r_348 M_349 t H_347 locs ht hvm hw hB hz1 hk1 hS => ?_)
                      have hp_350 := hw
                      obtain ⟨hP1, hD1⟩ := hB
                      rw [ht] at hP1
                      obtain ⟨hP, hD⟩ := va_joinP (X := [(za, .inr (13, [.int 0, .ref z1, .int (nI z2), .int (nI z3), .int z4, .int z5, .ref z6, .ref z7, .ref z8, .ref z9, .int (nI z10), .ref z11, .ref z12, .ref z13, .ref z14, .ref z15, .int (nI zgw36), .ref z17, .int z18, .ref z19]))]) (cx := []) (wr := [(za, .inr (13, [.int 0, .ref z1, .int (nI z2), .int (nI z3), .int z4, .int z5, .ref z6, .ref z7, .ref z8, .ref z9, .int (nI z10), .ref z11, .ref z12, .ref z13, .ref z14, .ref z15, .int (nI zgw36), .ref z17, .int z18, .ref z19]))]) (rx := []) (pl := va_pl L M_39) (pl1 := va_pl L M_39) hP hD [] [0] rfl rfl (by decide) (by decide) hk1 hFc hP1 hD1
                      have hP : va_P D vwCl ([(za, .inr (13, [.int 0, .ref z1, .int (nI z2), .int (nI z3), .int z4, .int z5, .ref z6, .ref z7, .ref z8, .ref z9, .int (nI z10), .ref z11, .ref z12, .ref z13, .ref z14, .ref z15, .int (nI zgw36), .ref z17, .int z18, .ref z19]))] ++ va_pl L M_39) H_347 := hP
                      have hD : va_D A ([(za, .inr (13, [.int 0, .ref z1, .int (nI z2), .int (nI z3), .int z4, .int z5, .ref z6, .ref z7, .ref z8, .ref z9, .int (nI z10), .ref z11, .ref z12, .ref z13, .ref z14, .ref z15, .int (nI zgw36), .ref z17, .int z18, .ref z19]))] ++ va_pl L M_39) := hD
                      refine lv_aload hx hb dX13_bear_128 (lv_at hl 1 rfl) ?_
                      obtain ⟨v351, hv351, hc351⟩ : ∃ v : Nat, fs14[24]? = some (.ref v : Value) ∧ isk K L v 14 24 := hl14 24 (by decide)
                      refine pg_getN (D := D) (ci := 12) (v := .ref v351) (C := RX12) (T := TX12) (N := 51) hx hb hg inG12 hown hK hP hb_13.1 hM_41 rfl 24 (by decide) (hN.use (Cond.fieldLinkNest RX13 118 RX12 "bears" "[I" RX13) 33 rfl rfl) (fun _ h9 => h9) hv351 dX13_bear_130 ?_
                      refine lv_iload hx hb dX13_bear_133 (lv_at hl 0 rfl) ?_
                      obtain ⟨f352, hM352⟩ := hW.open_14 hc351
                      refine pg_iald hx hb hK hP hc351.1 0 hM352 rfl (inbN v5w36 24 (by omega) (by omega)) dX13_bear_135 ?_
                      refine lv_topi (fun f_353 ef_353 => ?_)
                      refine lv_icmp_ge (tgt := 143) hx hb dX13_bear_136 (by decide) (fun c_354 => ?_) (fun c_354 => ?_)
                      · have hz := rfl (a := 0)
                        refine lv_iconst (v := 0) hx hb dX13_bear_143 (by decide) ?_
                        refine lv_istore (lv' := [(6, .int 0), (5, .int (nI v5w36)), (4, .ref b11), (0, .ref za), (1, .int k1), (2, .int k2), (3, .int k3)]) hx hb dX13_bear_144 hl (by decide) rfl (fun ls hl => ?_)
                        refine lv_aload hx hb dX13_bear_146 (lv_at hl 2 rfl) ?_
                        obtain ⟨v355, hv355, hc355⟩ : ∃ v : Nat, fs14[21]? = some (.ref v : Value) ∧ isk K L v 14 24 := hl14 21 (by decide)
                        refine pg_getN (D := D) (ci := 12) (v := .ref v355) (C := RX12) (T := TX12) (N := 51) hx hb hg inG12 hown hK hP hb_13.1 hM_41 rfl 21 (by decide) (hN.use (Cond.fieldLinkNest RX13 112 RX12 "begin" "[I" RX13) 30 rfl rfl) (fun _ h9 => h9) hv355 dX13_bear_148 ?_
                        refine lv_iload hx hb dX13_bear_151 (lv_at hl 1 rfl) ?_
                        obtain ⟨f356, hM356⟩ := hW.open_14 hc355
                        refine pg_iald hx hb hK hP hc355.1 0 hM356 rfl (inbN v5w36 24 (by omega) (by omega)) dX13_bear_153 ?_
                        refine lv_topi (fun f_357 ef_357 => ?_)
                        refine lv_iload_n hx hb dX13_bear_154 rfl (lv_at hl 5 rfl) ?_
                        refine lv_icmp_le (tgt := 185) hx hb dX13_bear_155 (by decide) (fun c_358 => ?_) (fun c_358 => ?_)
                        · have hz := rfl (a := 0)
                          refine lv_iconst (v := 0) hx hb dX13_bear_185 (by decide) ?_
                          refine lv_istore (lv' := [(7, .int 0), (6, .int 0), (5, .int (nI v5w36)), (4, .ref b11), (0, .ref za), (1, .int k1), (2, .int k2), (3, .int k3)]) hx hb dX13_bear_186 hl (by decide) rfl (fun ls hl => ?_)
                          refine lv_iload hx hb dX13_bear_188 (lv_at hl 1 rfl) ?_
                          refine lv_if_ne (tgt := 201) hx hb dX13_bear_190 (by decide) (fun c_359 => absurd c_359 (by decide)) (fun _ => ?_)
                          refine lv_iload hx hb dX13_bear_193 (lv_at hl 0 rfl) ?_
                          refine lv_if_ne (tgt := 201) hx hb dX13_bear_195 (by decide) (fun c_360 => absurd c_360 (by decide)) (fun _ => ?_)
                          refine lv_goto (tgt := 276) hx hb dX13_bear_198 (by decide) ?_
                          refine lv_iinc (v := (nI (v5w36 + 1))) (lv' := [(5, .int (nI (v5w36 + 1))), (7, .int 0), (6, .int 0), (4, .ref b11), (0, .ref za), (1, .int k1), (2, .int k2), (3, .int k3)]) hx hb dX13_bear_276 hl (k := 2) rfl (nI_1 v5w36) (by decide) rfl (fun ls hl => ?_)
                          refine lv_goto (tgt := 82) hx hb dX13_bear_279 (by decide) ?_
                          exact ih_34 (v5w36 + 1) zgw36 M_39 H_347 _ _ (by omega) hM_41 (by omega) (by omega) hW hF hV hP hD hS (lv_sub hl [0, 3, 4, 5, 6, 7] rfl)
                        · have hz := rfl (a := 0)
                          refine lv_aload hx hb dX13_bear_158 (lv_at hl 2 rfl) ?_
                          obtain ⟨v361, hv361, hc361⟩ : ∃ v : Nat, fs14[26]? = some (.ref v : Value) ∧ isk K L v 16 24 := hl14 26 (by decide)
                          refine pg_getN (D := D) (ci := 12) (v := .ref v361) (C := RX12) (T := TX12) (N := 51) hx hb hg inG12 hown hK hP hb_13.1 hM_41 rfl 26 (by decide) (hN.use (Cond.fieldLinkNest RX13 124 RX12 "word" "[Z" RX13) 35 rfl rfl) (fun _ h9 => h9) hv361 dX13_bear_160 ?_
                          refine lv_iload hx hb dX13_bear_163 (lv_at hl 1 rfl) ?_
                          obtain ⟨f362, hM362, hf362⟩ := hW.open_16 hc361
                          have hi_363 : vp_in (nI v5w36) 24 := (inbN v5w36 24 (by omega) (by omega))
                          refine pg_zald hx hb hK hP hc361.1 2 hM362 rfl hi_363 dX13_bear_165 ?_
                          rcases hf362 _ (vp_lt hi_363) with ec_364 | ec_364
                          · rw [ec_364]
                            refine lv_if_eq (tgt := 185) hx hb dX13_bear_166 (by decide) (fun _ => ?_) (fun c_365 => absurd c_365 (by decide))
                            refine lv_iconst (v := 0) hx hb dX13_bear_185 (by decide) ?_
                            refine lv_istore (lv' := [(7, .int 0), (6, .int 0), (5, .int (nI v5w36)), (4, .ref b11), (0, .ref za), (1, .int k1), (2, .int k2), (3, .int k3)]) hx hb dX13_bear_186 hl (by decide) rfl (fun ls hl => ?_)
                            refine lv_iload hx hb dX13_bear_188 (lv_at hl 1 rfl) ?_
                            refine lv_if_ne (tgt := 201) hx hb dX13_bear_190 (by decide) (fun c_366 => absurd c_366 (by decide)) (fun _ => ?_)
                            refine lv_iload hx hb dX13_bear_193 (lv_at hl 0 rfl) ?_
                            refine lv_if_ne (tgt := 201) hx hb dX13_bear_195 (by decide) (fun c_367 => absurd c_367 (by decide)) (fun _ => ?_)
                            refine lv_goto (tgt := 276) hx hb dX13_bear_198 (by decide) ?_
                            refine lv_iinc (v := (nI (v5w36 + 1))) (lv' := [(5, .int (nI (v5w36 + 1))), (7, .int 0), (6, .int 0), (4, .ref b11), (0, .ref za), (1, .int k1), (2, .int k2), (3, .int k3)]) hx hb dX13_bear_276 hl (k := 2) rfl (nI_1 v5w36) (by decide) rfl (fun ls hl => ?_)
                            refine lv_goto (tgt := 82) hx hb dX13_bear_279 (by decide) ?_
                            exact ih_34 (v5w36 + 1) zgw36 M_39 H_347 _ _ (by omega) hM_41 (by omega) (by omega) hW hF hV hP hD hS (lv_sub hl [0, 3, 4, 5, 6, 7] rfl)
                          · rw [ec_364]
                            refine lv_if_eq (tgt := 185) hx hb dX13_bear_166 (by decide) (fun c_368 => absurd c_368 (by decide)) (fun _ => ?_)
                            refine lv_aload hx hb dX13_bear_169 (lv_at hl 2 rfl) ?_
                            refine pg_getN (D := D) (ci := 12) (v := .ref v109) (C := RX12) (T := TX12) (N := 51) hx hb hg inG12 hown hK hP hb_13.1 hM_41 rfl 22 (by decide) (hN.use (Cond.fieldLinkNest RX13 95 RX12 "ended" "[I" RX13) 31 rfl rfl) (fun _ h9 => h9) hv109 dX13_bear_171 ?_
                            refine lv_iload hx hb dX13_bear_174 (lv_at hl 1 rfl) ?_
                            refine pg_iald hx hb hK hP hc109.1 0 hM110 rfl (inbN v5w36 24 (by omega) (by omega)) dX13_bear_176 ?_
                            refine lv_topi (fun f_369 ef_369 => ?_)
                            refine lv_iconst (v := (-1)) hx hb dX13_bear_177 (by decide) ?_
                            refine lv_icmp_ne (tgt := 185) hx hb dX13_bear_178 (by decide) (fun c_370 => ?_) (fun c_370 => ?_)
                            · have hz := rfl (a := 0)
                              refine lv_iconst (v := 0) hx hb dX13_bear_185 (by decide) ?_
                              refine lv_istore (lv' := [(7, .int 0), (6, .int 0), (5, .int (nI v5w36)), (4, .ref b11), (0, .ref za), (1, .int k1), (2, .int k2), (3, .int k3)]) hx hb dX13_bear_186 hl (by decide) rfl (fun ls hl => ?_)
                              refine lv_iload hx hb dX13_bear_188 (lv_at hl 1 rfl) ?_
                              refine lv_if_ne (tgt := 201) hx hb dX13_bear_190 (by decide) (fun c_371 => absurd c_371 (by decide)) (fun _ => ?_)
                              refine lv_iload hx hb dX13_bear_193 (lv_at hl 0 rfl) ?_
                              refine lv_if_ne (tgt := 201) hx hb dX13_bear_195 (by decide) (fun c_372 => absurd c_372 (by decide)) (fun _ => ?_)
                              refine lv_goto (tgt := 276) hx hb dX13_bear_198 (by decide) ?_
                              refine lv_iinc (v := (nI (v5w36 + 1))) (lv' := [(5, .int (nI (v5w36 + 1))), (7, .int 0), (6, .int 0), (4, .ref b11), (0, .ref za), (1, .int k1), (2, .int k2), (3, .int k3)]) hx hb dX13_bear_276 hl (k := 2) rfl (nI_1 v5w36) (by decide) rfl (fun ls hl => ?_)
                              refine lv_goto (tgt := 82) hx hb dX13_bear_279 (by decide) ?_
                              exact ih_34 (v5w36 + 1) zgw36 M_39 H_347 _ _ (by omega) hM_41 (by omega) (by omega) hW hF hV hP hD hS (lv_sub hl [0, 3, 4, 5, 6, 7] rfl)
                            · have hz := rfl (a := 0)
                              refine lv_iconst (v := 1) hx hb dX13_bear_181 (by decide) ?_
                              refine lv_goto (tgt := 186) hx hb dX13_bear_182 (by decide) ?_
                              refine lv_istore (lv' := [(7, .int 1), (6, .int 0), (5, .int (nI v5w36)), (4, .ref b11), (0, .ref za), (1, .int k1), (2, .int k2), (3, .int k3)]) hx hb dX13_bear_186 hl (by decide) rfl (fun ls hl => ?_)
                              refine lv_iload hx hb dX13_bear_188 (lv_at hl 1 rfl) ?_
                              refine lv_if_ne (tgt := 201) hx hb dX13_bear_190 (by decide) (fun c_373 => absurd c_373 (by decide)) (fun _ => ?_)
                              refine lv_iload hx hb dX13_bear_193 (lv_at hl 0 rfl) ?_
                              refine lv_if_ne (tgt := 201) hx hb dX13_bear_195 (by decide) (fun _ => ?_) (fun c_374 => absurd c_374 (by decide))
                              refine lv_aload_n hx hb dX13_bear_201 rfl (lv_at hl 4 rfl) ?_
                              refine va_get (D := D) (ci := 13) (v := .ref z11) (C := RX13) (T := TX13) (N := 20) hx hb hg inG13 hown hK hP 0 rfl rfl 11 (by decide) (hg _ wd_764) (fun _ h9 => h9) rfl dX13_bear_202 ?_
                              refine lv_aload_n hx hb dX13_bear_205 rfl (lv_at hl 4 rfl) ?_
                              refine va_get (D := D) (ci := 13) (v := .int (nI zgw36)) (C := RX13) (T := TX13) (N := 20) hx hb hg inG13 hown hK hP 0 rfl rfl 16 (by decide) (hg _ wd_769) (fun _ h9 => h9) rfl dX13_bear_206 ?_
                              refine lv_iload hx hb dX13_bear_209 (lv_at hl 2 rfl) ?_
                              obtain ⟨f375, hM375, hf375⟩ := hW.open_32 i11
                              refine pg_iast hx hb hK hP hD hS i11.1 0 hM375 rfl (inbN zgw36 24 (by omega) (by omega)) dX13_bear_211 (fun H_376 locs hP hD hS => ?_)
                              obtain ⟨M_377, eM_377⟩ : ∃ M1 : Hp, M1 = va_up M_39 z11 (.inl (cy 14, 24, .inl (upd f375 ((nI zgw36) : Int32).toNatClampNeg (nI v5w36)))) := ⟨_, rfl⟩
                              have hV : VW K L M M_377 b11 (fx M b11) (ax M b11) := by rw [eM_377]; exact hV.oth hW hb_13 i11 (by decide)
                              have hP : va_P D vwCl ([(za, .inr (13, [.int 0, .ref z1, .int (nI z2), .int (nI z3), .int z4, .int z5, .ref z6, .ref z7, .ref z8, .ref z9, .int (nI z10), .ref z11, .ref z12, .ref z13, .ref z14, .ref z15, .int (nI zgw36), .ref z17, .int z18, .ref z19]))] ++ va_pl L M_377) H_376 := by rw [eM_377]; exact hP
                              have hD : va_D A ([(za, .inr (13, [.int 0, .ref z1, .int (nI z2), .int (nI z3), .int z4, .int z5, .ref z6, .ref z7, .ref z8, .ref z9, .int (nI z10), .ref z11, .ref z12, .ref z13, .ref z14, .ref z15, .int (nI zgw36), .ref z17, .int z18, .ref z19]))] ++ va_pl L M_377) := by rw [eM_377]; exact hD
                              have hW : WOM cy K L M_377 := by rw [eM_377]; exact hW.up_32 i11 ⟨_, rfl, (updP (P := fun z => ∃ c : Nat, c < 24 ∧ z = nI c) hf375 ⟨v5w36, by omega, rfl⟩)⟩
                              have hF : fr K L [14, 15, 32] M M_377 := by rw [eM_377]; exact hF.up i11 (by decide)
                              have hM_378 : M_377 z11 = .inl (cy 14, 24, .inl (upd f375 ((nI zgw36) : Int32).toNatClampNeg (nI v5w36))) := by rw [eM_377]; exact va_up_self _ _ _
                              have hM_379 : M_377 b11 = .inr (12, fs14) := by rw [eM_377, va_up_ne _ _ (hb_13.neT i11 (by decide))]; exact hM_41
                              have hM_380 : M_377 v109 = .inl (cy 14, 24, .inl (f110)) := by rw [eM_377, va_up_ne _ _ (hc109.neT i11 (by decide))]; exact hM110
                              have hM_381 : M_377 v351 = .inl (cy 14, 24, .inl (f352)) := by rw [eM_377, va_up_ne _ _ (hc351.neT i11 (by decide))]; exact hM352
                              have hM_382 : M_377 v355 = .inl (cy 14, 24, .inl (f356)) := by rw [eM_377, va_up_ne _ _ (hc355.neT i11 (by decide))]; exact hM356
                              have hM_383 : M_377 v361 = .inl (cy 16, 24, .inl (f362)) := by rw [eM_377, va_up_ne _ _ (hc361.neT i11 (by decide))]; exact hM362
                              have hf_385 : ∀ j, j < 24 → ∃ c : Nat, c < 24 ∧ (upd f375 ((nI zgw36) : Int32).toNatClampNeg (nI v5w36)) j = nI c := (updP (P := fun z => ∃ c : Nat, c < 24 ∧ z = nI c) hf375 ⟨v5w36, by omega, rfl⟩)
                              obtain ⟨f_384, ef_384⟩ : ∃ f : Nat → Int32, f = upd f375 ((nI zgw36) : Int32).toNatClampNeg (nI v5w36) := ⟨_, rfl⟩
                              rw [← ef_384] at hM_378 hf_385
                              refine lv_aload_n hx hb dX13_bear_212 rfl (lv_at hl 4 rfl) ?_
                              refine va_get (D := D) (ci := 13) (v := .ref z12) (C := RX13) (T := TX13) (N := 20) hx hb hg inG13 hown hK hP 0 rfl rfl 12 (by decide) (hg _ wd_763) (fun _ h9 => h9) rfl dX13_bear_213 ?_
                              refine lv_aload_n hx hb dX13_bear_216 rfl (lv_at hl 4 rfl) ?_
                              refine va_get (D := D) (ci := 13) (v := .int (nI zgw36)) (C := RX13) (T := TX13) (N := 20) hx hb hg inG13 hown hK hP 0 rfl rfl 16 (by decide) (hg _ wd_769) (fun _ h9 => h9) rfl dX13_bear_217 ?_
                              refine lv_aload hx hb dX13_bear_220 (lv_at hl 3 rfl) ?_
                              refine lv_iload hx hb dX13_bear_222 (lv_at hl 1 rfl) ?_
                              refine lv_if_eq (tgt := 236) hx hb dX13_bear_224 (by decide) (fun _ => ?_) (fun c_386 => absurd c_386 (by decide))
                              refine lv_aload hx hb dX13_bear_236 (lv_at hl 3 rfl) ?_
                              refine pg_getN (D := D) (ci := 12) (v := .int (nI v15)) (C := RX12) (T := TX12) (N := 51) hx hb hg inG12 hown hK hP hb_13.1 hM_379 rfl 11 (by decide) (hN.use (Cond.fieldLinkNest RX13 142 RX12 "rules" "I" RX13) 20 rfl rfl) (fun _ h9 => h9) hv15 dX13_bear_238 ?_
                              refine lv_iconst (v := 1) hx hb dX13_bear_241 (by decide) ?_
                              refine lv_isub hx hb dX13_bear_242 ?_
                              refine lv_topi (fun f_387 ef_387 => ?_)
                              obtain rfl : f_387 = (nI (v15 - 1)) := ef_387.trans (nI_prd (by omega))
                              refine lv_iconst (v := 3) hx hb dX13_bear_243 (by decide) ?_
                              refine lv_aload hx hb dX13_bear_244 (lv_at hl 3 rfl) ?_
                              obtain ⟨v388, hv388, hc388⟩ : ∃ v : Nat, fs14[20]? = some (.ref v : Value) ∧ isk K L v 31 24 := hl14 20 (by decide)
                              refine pg_getN (D := D) (ci := 12) (v := .ref v388) (C := RX12) (T := TX12) (N := 51) hx hb hg inG12 hown hK hP hb_13.1 hM_379 rfl 20 (by decide) (hN.use (Cond.fieldLinkNest RX13 110 RX12 "where" "[I" RX13) 29 rfl rfl) (fun _ h9 => h9) hv388 dX13_bear_246 ?_
                              refine lv_iload hx hb dX13_bear_249 (lv_at hl 2 rfl) ?_
                              obtain ⟨f389, hM389, hf389⟩ := hW.open_31 hc388
                              have hi_390 : vp_in (nI v5w36) 24 := (inbN v5w36 24 (by omega) (by omega))
                              refine pg_iald hx hb hK hP hc388.1 0 hM389 rfl hi_390 dX13_bear_251 ?_
                              have hp_391 := hf389 _ (vp_lt hi_390)
                              obtain ⟨c_392, hc_393, ec_394⟩ := hp_391
                              rw [ec_394]
                              have hPc : va_P D vwCl ([] ++ va_pl L M_377) H_376 := hP.part (cx := []) [] rfl
                              have hDc : va_D A ([] ++ va_pl L M_377) := hD.part (cx := []) [] (by decide) rfl
                              have hFc : ∀ q, va_A ([] ++ va_pl L M_377) H_376.size q → A q := pg_free hDc hS hA
                              refine va_calli (va_runV (As := [.int (nI (v15 - 1)), .int 3, .int (nI c_392)]) (rest := [.int (nI zgw36), .ref z12]) ⟨hx, hb, hml, hown, hg⟩ (r_X12_term l D cy K L M_377 H_376.size b11 (v15 - 1) 3 c_392  hW hb_13 (by omega) (by omega) hc_393) (cwV 3 hg (gV wd_770 wd_771 wd_772 wd_737 wd_773) rfl rfl rfl (by decide +kernel) ⟨(Nat.le_trans (Nat.le_of_ble_eq_true rfl) hRf), (Nat.le_trans (Nat.le_of_ble_eq_true rfl) hRl)⟩) ⟨PG.blind, pg_recv hK hP hb_13.1 hM_379 rfl, fun U hU hW => ⟨rfl, PG.at hPc hK hDc hN hU hW⟩⟩ rfl rfl hl.1 rfl (lv_room (Nat.le_of_ble_eq_true rfl)) dX13_bear_252 ⟨(Nat.le_trans (Nat.le_of_ble_eq_true rfl) hRc), (Nat.le_trans (Nat.le_of_ble_eq_true rfl) hRs)⟩) hS (fun q _ h => hFc q h) hFc (fun r_396 M_397 t H_395 locs ht hvm hw hB hz1 hk1 hS => ?_)
                              have hp_398 := hw
                              obtain ⟨hP1, hD1⟩ := hB
                              rw [ht] at hP1
                              obtain ⟨hP, hD⟩ := va_joinP (X := [(za, .inr (13, [.int 0, .ref z1, .int (nI z2), .int (nI z3), .int z4, .int z5, .ref z6, .ref z7, .ref z8, .ref z9, .int (nI z10), .ref z11, .ref z12, .ref z13, .ref z14, .ref z15, .int (nI zgw36), .ref z17, .int z18, .ref z19]))]) (cx := []) (wr := [(za, .inr (13, [.int 0, .ref z1, .int (nI z2), .int (nI z3), .int z4, .int z5, .ref z6, .ref z7, .ref z8, .ref z9, .int (nI z10), .ref z11, .ref z12, .ref z13, .ref z14, .ref z15, .int (nI zgw36), .ref z17, .int z18, .ref z19]))]) (rx := []) (pl := va_pl L M_377) (pl1 := va_pl L M_377) hP hD [] [0] rfl rfl (by decide) (by decide) hk1 hFc hP1 hD1
                              have hP : va_P D vwCl ([(za, .inr (13, [.int 0, .ref z1, .int (nI z2), .int (nI z3), .int z4, .int z5, .ref z6, .ref z7, .ref z8, .ref z9, .int (nI z10), .ref z11, .ref z12, .ref z13, .ref z14, .ref z15, .int (nI zgw36), .ref z17, .int z18, .ref z19]))] ++ va_pl L M_377) H_395 := hP
                              have hD : va_D A ([(za, .inr (13, [.int 0, .ref z1, .int (nI z2), .int (nI z3), .int z4, .int z5, .ref z6, .ref z7, .ref z8, .ref z9, .int (nI z10), .ref z11, .ref z12, .ref z13, .ref z14, .ref z15, .int (nI zgw36), .ref z17, .int z18, .ref z19]))] ++ va_pl L M_377) := hD
                              obtain ⟨f399, hM399⟩ := hW.open_14 i12
                              refine pg_iast hx hb hK hP hD hS i12.1 0 hM399 rfl (inbN zgw36 24 (by omega) (by omega)) dX13_bear_255 (fun H_400 locs hP hD hS => ?_)
                              obtain ⟨M_401, eM_401⟩ : ∃ M1 : Hp, M1 = va_up M_377 z12 (.inl (cy 14, 24, .inl (upd f399 ((nI zgw36) : Int32).toNatClampNeg r_396))) := ⟨_, rfl⟩
                              have hV : VW K L M M_401 b11 (fx M b11) (ax M b11) := by rw [eM_401]; exact hV.oth hW hb_13 i12 (by decide)
                              have hP : va_P D vwCl ([(za, .inr (13, [.int 0, .ref z1, .int (nI z2), .int (nI z3), .int z4, .int z5, .ref z6, .ref z7, .ref z8, .ref z9, .int (nI z10), .ref z11, .ref z12, .ref z13, .ref z14, .ref z15, .int (nI zgw36), .ref z17, .int z18, .ref z19]))] ++ va_pl L M_401) H_400 := by rw [eM_401]; exact hP
                              have hD : va_D A ([(za, .inr (13, [.int 0, .ref z1, .int (nI z2), .int (nI z3), .int z4, .int z5, .ref z6, .ref z7, .ref z8, .ref z9, .int (nI z10), .ref z11, .ref z12, .ref z13, .ref z14, .ref z15, .int (nI zgw36), .ref z17, .int z18, .ref z19]))] ++ va_pl L M_401) := by rw [eM_401]; exact hD
                              have hW : WOM cy K L M_401 := by rw [eM_401]; exact hW.up_14 i12 ⟨_, rfl⟩
                              have hF : fr K L [14, 15, 32] M M_401 := by rw [eM_401]; exact hF.up i12 (by decide)
                              have hM_402 : M_401 z12 = .inl (cy 14, 24, .inl (upd f399 ((nI zgw36) : Int32).toNatClampNeg r_396)) := by rw [eM_401]; exact va_up_self _ _ _
                              have hM_403 : M_401 z11 = .inl (cy 14, 24, .inl (f_384)) := by rw [eM_401, va_up_ne _ _ (i11.neT i12 (by decide))]; exact hM_378
                              have hM_404 : M_401 b11 = .inr (12, fs14) := by rw [eM_401, va_up_ne _ _ (hb_13.neT i12 (by decide))]; exact hM_379
                              have hM_405 : M_401 v109 = .inl (cy 14, 24, .inl (f110)) := by rw [eM_401, va_up_ne _ _ (hc109.neT i12 (by decide))]; exact hM_380
                              have hM_406 : M_401 v361 = .inl (cy 16, 24, .inl (f362)) := by rw [eM_401, va_up_ne _ _ (hc361.neT i12 (by decide))]; exact hM_383
                              have hM_407 : M_401 v388 = .inl (cy 14, 24, .inl (f389)) := by rw [eM_401, va_up_ne _ _ (hc388.neT i12 (by decide))]; exact hM389
                              obtain ⟨f_408, ef_408⟩ : ∃ f : Nat → Int32, f = upd f399 ((nI zgw36) : Int32).toNatClampNeg r_396 := ⟨_, rfl⟩
                              rw [← ef_408] at hM_402
                              refine lv_aload_n hx hb dX13_bear_256 rfl (lv_at hl 4 rfl) ?_
                              refine va_get (D := D) (ci := 13) (v := .ref z13) (C := RX13) (T := TX13) (N := 20) hx hb hg inG13 hown hK hP 0 rfl rfl 13 (by decide) (hg _ wd_789) (fun _ h9 => h9) rfl dX13_bear_257 ?_
                              refine lv_aload_n hx hb dX13_bear_260 rfl (lv_at hl 4 rfl) ?_
                              refine va_get (D := D) (ci := 13) (v := .int (nI zgw36)) (C := RX13) (T := TX13) (N := 20) hx hb hg inG13 hown hK hP 0 rfl rfl 16 (by decide) (hg _ wd_769) (fun _ h9 => h9) rfl dX13_bear_261 ?_
                              refine lv_lconst (v := 0) hx hb dX13_bear_264 (by decide) ?_
                              obtain ⟨f409, hM409⟩ := hW.open_15 i13
                              refine pg_last hx hb hK hP hD hS i13.1 1 hM409 rfl (inbN zgw36 24 (by omega) (by omega)) dX13_bear_265 (fun H_410 locs hP hD hS => ?_)
                              obtain ⟨M_411, eM_411⟩ : ∃ M1 : Hp, M1 = va_up M_401 z13 (.inl (cy 15, 24, .inr (.inl (vp_updL f409 ((nI zgw36) : Int32).toNatClampNeg 0)))) := ⟨_, rfl⟩
                              have hV : VW K L M M_411 b11 (fx M b11) (ax M b11) := by rw [eM_411]; exact hV.oth hW hb_13 i13 (by decide)
                              have hP : va_P D vwCl ([(za, .inr (13, [.int 0, .ref z1, .int (nI z2), .int (nI z3), .int z4, .int z5, .ref z6, .ref z7, .ref z8, .ref z9, .int (nI z10), .ref z11, .ref z12, .ref z13, .ref z14, .ref z15, .int (nI zgw36), .ref z17, .int z18, .ref z19]))] ++ va_pl L M_411) H_410 := by rw [eM_411]; exact hP
                              have hD : va_D A ([(za, .inr (13, [.int 0, .ref z1, .int (nI z2), .int (nI z3), .int z4, .int z5, .ref z6, .ref z7, .ref z8, .ref z9, .int (nI z10), .ref z11, .ref z12, .ref z13, .ref z14, .ref z15, .int (nI zgw36), .ref z17, .int z18, .ref z19]))] ++ va_pl L M_411) := by rw [eM_411]; exact hD
                              have hW : WOM cy K L M_411 := by rw [eM_411]; exact hW.up_15 i13 ⟨_, rfl⟩
                              have hF : fr K L [14, 15, 32] M M_411 := by rw [eM_411]; exact hF.up i13 (by decide)
                              have hM_412 : M_411 z13 = .inl (cy 15, 24, .inr (.inl (vp_updL f409 ((nI zgw36) : Int32).toNatClampNeg 0))) := by rw [eM_411]; exact va_up_self _ _ _
                              have hM_413 : M_411 z12 = .inl (cy 14, 24, .inl (f_408)) := by rw [eM_411, va_up_ne _ _ (i12.neT i13 (by decide))]; exact hM_402
                              have hM_414 : M_411 z11 = .inl (cy 14, 24, .inl (f_384)) := by rw [eM_411, va_up_ne _ _ (i11.neT i13 (by decide))]; exact hM_403
                              have hM_415 : M_411 b11 = .inr (12, fs14) := by rw [eM_411, va_up_ne _ _ (hb_13.neT i13 (by decide))]; exact hM_404
                              have hM_416 : M_411 v109 = .inl (cy 14, 24, .inl (f110)) := by rw [eM_411, va_up_ne _ _ (hc109.neT i13 (by decide))]; exact hM_405
                              have hM_417 : M_411 v361 = .inl (cy 16, 24, .inl (f362)) := by rw [eM_411, va_up_ne _ _ (hc361.neT i13 (by decide))]; exact hM_406
                              have hM_418 : M_411 v388 = .inl (cy 14, 24, .inl (f389)) := by rw [eM_411, va_up_ne _ _ (hc388.neT i13 (by decide))]; exact hM_407
                              obtain ⟨f_419, ef_419⟩ : ∃ f : Nat → Int64, f = vp_updL f409 ((nI zgw36) : Int32).toNatClampNeg 0 := ⟨_, rfl⟩
                              rw [← ef_419] at hM_412
                              refine lv_aload_n hx hb dX13_bear_266 rfl (lv_at hl 4 rfl) ?_
                              refine lv_dup hx hb dX13_bear_267 rfl ?_
                              refine va_get (D := D) (ci := 13) (v := .int (nI zgw36)) (C := RX13) (T := TX13) (N := 20) hx hb hg inG13 hown hK hP 0 rfl rfl 16 (by decide) (hg _ wd_769) (fun _ h9 => h9) rfl dX13_bear_268 ?_
                              refine lv_iconst (v := 1) hx hb dX13_bear_271 (by decide) ?_
                              refine lv_iadd hx hb dX13_bear_272 ?_
                              refine lv_topi (fun f_420 ef_420 => ?_)
                              obtain rfl : f_420 = (nI (zgw36 + 1)) := ef_420.trans (nI_add zgw36 1)
                              refine va_put (D := D) (ci := 13) (v := .int (nI (zgw36 + 1))) (ty := .int) (C := RX13) (T := TX13) (N := 20) hx hb hg inG13 tyX13 tyX13_ok nmX13 hown hK hP hD hS 0 rfl rfl 16 (by decide) (hg _ wd_769) (fun _ h9 => h9) rfl (by decide +kernel) rfl rfl (Nat.le_of_ble_eq_true rfl) dX13_bear_273 (fun H_421 locs hP hD hS => ?_)
                              have hP : va_P D vwCl ([(za, .inr (13, [.int 0, .ref z1, .int (nI z2), .int (nI z3), .int z4, .int z5, .ref z6, .ref z7, .ref z8, .ref z9, .int (nI z10), .ref z11, .ref z12, .ref z13, .ref z14, .ref z15, .int (nI (zgw36 + 1)), .ref z17, .int z18, .ref z19]))] ++ va_pl L M_411) H_421 := hP
                              have hD : va_D A ([(za, .inr (13, [.int 0, .ref z1, .int (nI z2), .int (nI z3), .int z4, .int z5, .ref z6, .ref z7, .ref z8, .ref z9, .int (nI z10), .ref z11, .ref z12, .ref z13, .ref z14, .ref z15, .int (nI (zgw36 + 1)), .ref z17, .int z18, .ref z19]))] ++ va_pl L M_411) := hD
                              refine lv_iinc (v := (nI (v5w36 + 1))) (lv' := [(5, .int (nI (v5w36 + 1))), (7, .int 1), (6, .int 0), (4, .ref b11), (0, .ref za), (1, .int k1), (2, .int k2), (3, .int k3)]) hx hb dX13_bear_276 hl (k := 2) rfl (nI_1 v5w36) (by decide) rfl (fun ls hl => ?_)
                              refine lv_goto (tgt := 82) hx hb dX13_bear_279 (by decide) ?_
                              exact ih_34 (v5w36 + 1) (zgw36 + 1) M_411 H_421 _ _ (by omega) hM_415 (by omega) (by omega) hW hF hV hP hD hS (lv_sub hl [0, 3, 4, 5, 6, 7] rfl)
                      · have hz := rfl (a := 0)
                        refine lv_iconst (v := 1) hx hb dX13_bear_139 (by decide) ?_
                        refine lv_goto (tgt := 144) hx hb dX13_bear_140 (by decide) ?_
                        refine lv_istore (lv' := [(6, .int 1), (5, .int (nI v5w36)), (4, .ref b11), (0, .ref za), (1, .int k1), (2, .int k2), (3, .int k3)]) hx hb dX13_bear_144 hl (by decide) rfl (fun ls hl => ?_)
                        refine lv_aload hx hb dX13_bear_146 (lv_at hl 2 rfl) ?_
                        obtain ⟨v422, hv422, hc422⟩ : ∃ v : Nat, fs14[21]? = some (.ref v : Value) ∧ isk K L v 14 24 := hl14 21 (by decide)
                        refine pg_getN (D := D) (ci := 12) (v := .ref v422) (C := RX12) (T := TX12) (N := 51) hx hb hg inG12 hown hK hP hb_13.1 hM_41 rfl 21 (by decide) (hN.use (Cond.fieldLinkNest RX13 112 RX12 "begin" "[I" RX13) 30 rfl rfl) (fun _ h9 => h9) hv422 dX13_bear_148 ?_
                        refine lv_iload hx hb dX13_bear_151 (lv_at hl 1 rfl) ?_
                        obtain ⟨f423, hM423⟩ := hW.open_14 hc422
                        refine pg_iald hx hb hK hP hc422.1 0 hM423 rfl (inbN v5w36 24 (by omega) (by omega)) dX13_bear_153 ?_
                        refine lv_topi (fun f_424 ef_424 => ?_)
                        refine lv_iload_n hx hb dX13_bear_154 rfl (lv_at hl 5 rfl) ?_
                        refine lv_icmp_le (tgt := 185) hx hb dX13_bear_155 (by decide) (fun c_425 => ?_) (fun c_425 => ?_)
                        · have hz := rfl (a := 0)
                          refine lv_iconst (v := 0) hx hb dX13_bear_185 (by decide) ?_
                          refine lv_istore (lv' := [(7, .int 0), (6, .int 1), (5, .int (nI v5w36)), (4, .ref b11), (0, .ref za), (1, .int k1), (2, .int k2), (3, .int k3)]) hx hb dX13_bear_186 hl (by decide) rfl (fun ls hl => ?_)
                          refine lv_iload hx hb dX13_bear_188 (lv_at hl 1 rfl) ?_
                          refine lv_if_ne (tgt := 201) hx hb dX13_bear_190 (by decide) (fun _ => ?_) (fun c_426 => absurd c_426 (by decide))
                          refine lv_aload_n hx hb dX13_bear_201 rfl (lv_at hl 4 rfl) ?_
                          refine va_get (D := D) (ci := 13) (v := .ref z11) (C := RX13) (T := TX13) (N := 20) hx hb hg inG13 hown hK hP 0 rfl rfl 11 (by decide) (hg _ wd_764) (fun _ h9 => h9) rfl dX13_bear_202 ?_
                          refine lv_aload_n hx hb dX13_bear_205 rfl (lv_at hl 4 rfl) ?_
                          refine va_get (D := D) (ci := 13) (v := .int (nI zgw36)) (C := RX13) (T := TX13) (N := 20) hx hb hg inG13 hown hK hP 0 rfl rfl 16 (by decide) (hg _ wd_769) (fun _ h9 => h9) rfl dX13_bear_206 ?_
                          refine lv_iload hx hb dX13_bear_209 (lv_at hl 2 rfl) ?_
                          obtain ⟨f427, hM427, hf427⟩ := hW.open_32 i11
                          refine pg_iast hx hb hK hP hD hS i11.1 0 hM427 rfl (inbN zgw36 24 (by omega) (by omega)) dX13_bear_211 (fun H_428 locs hP hD hS => ?_)
                          obtain ⟨M_429, eM_429⟩ : ∃ M1 : Hp, M1 = va_up M_39 z11 (.inl (cy 14, 24, .inl (upd f427 ((nI zgw36) : Int32).toNatClampNeg (nI v5w36)))) := ⟨_, rfl⟩
                          have hV : VW K L M M_429 b11 (fx M b11) (ax M b11) := by rw [eM_429]; exact hV.oth hW hb_13 i11 (by decide)
                          have hP : va_P D vwCl ([(za, .inr (13, [.int 0, .ref z1, .int (nI z2), .int (nI z3), .int z4, .int z5, .ref z6, .ref z7, .ref z8, .ref z9, .int (nI z10), .ref z11, .ref z12, .ref z13, .ref z14, .ref z15, .int (nI zgw36), .ref z17, .int z18, .ref z19]))] ++ va_pl L M_429) H_428 := by rw [eM_429]; exact hP
                          have hD : va_D A ([(za, .inr (13, [.int 0, .ref z1, .int (nI z2), .int (nI z3), .int z4, .int z5, .ref z6, .ref z7, .ref z8, .ref z9, .int (nI z10), .ref z11, .ref z12, .ref z13, .ref z14, .ref z15, .int (nI zgw36), .ref z17, .int z18, .ref z19]))] ++ va_pl L M_429) := by rw [eM_429]; exact hD
                          have hW : WOM cy K L M_429 := by rw [eM_429]; exact hW.up_32 i11 ⟨_, rfl, (updP (P := fun z => ∃ c : Nat, c < 24 ∧ z = nI c) hf427 ⟨v5w36, by omega, rfl⟩)⟩
                          have hF : fr K L [14, 15, 32] M M_429 := by rw [eM_429]; exact hF.up i11 (by decide)
                          have hM_430 : M_429 z11 = .inl (cy 14, 24, .inl (upd f427 ((nI zgw36) : Int32).toNatClampNeg (nI v5w36))) := by rw [eM_429]; exact va_up_self _ _ _
                          have hM_431 : M_429 b11 = .inr (12, fs14) := by rw [eM_429, va_up_ne _ _ (hb_13.neT i11 (by decide))]; exact hM_41
                          have hM_432 : M_429 v109 = .inl (cy 14, 24, .inl (f110)) := by rw [eM_429, va_up_ne _ _ (hc109.neT i11 (by decide))]; exact hM110
                          have hM_433 : M_429 v351 = .inl (cy 14, 24, .inl (f352)) := by rw [eM_429, va_up_ne _ _ (hc351.neT i11 (by decide))]; exact hM352
                          have hM_434 : M_429 v422 = .inl (cy 14, 24, .inl (f423)) := by rw [eM_429, va_up_ne _ _ (hc422.neT i11 (by decide))]; exact hM423
                          have hf_436 : ∀ j, j < 24 → ∃ c : Nat, c < 24 ∧ (upd f427 ((nI zgw36) : Int32).toNatClampNeg (nI v5w36)) j = nI c := (updP (P := fun z => ∃ c : Nat, c < 24 ∧ z = nI c) hf427 ⟨v5w36, by omega, rfl⟩)
                          obtain ⟨f_435, ef_435⟩ : ∃ f : Nat → Int32, f = upd f427 ((nI zgw36) : Int32).toNatClampNeg (nI v5w36) := ⟨_, rfl⟩
                          rw [← ef_435] at hM_430 hf_436
                          refine lv_aload_n hx hb dX13_bear_212 rfl (lv_at hl 4 rfl) ?_
                          refine va_get (D := D) (ci := 13) (v := .ref z12) (C := RX13) (T := TX13) (N := 20) hx hb hg inG13 hown hK hP 0 rfl rfl 12 (by decide) (hg _ wd_763) (fun _ h9 => h9) rfl dX13_bear_213 ?_
                          refine lv_aload_n hx hb dX13_bear_216 rfl (lv_at hl 4 rfl) ?_
                          refine va_get (D := D) (ci := 13) (v := .int (nI zgw36)) (C := RX13) (T := TX13) (N := 20) hx hb hg inG13 hown hK hP 0 rfl rfl 16 (by decide) (hg _ wd_769) (fun _ h9 => h9) rfl dX13_bear_217 ?_
                          refine lv_aload hx hb dX13_bear_220 (lv_at hl 3 rfl) ?_
                          refine lv_iload hx hb dX13_bear_222 (lv_at hl 1 rfl) ?_
                          refine lv_if_eq (tgt := 236) hx hb dX13_bear_224 (by decide) (fun c_437 => absurd c_437 (by decide)) (fun _ => ?_)
                          refine lv_aload hx hb dX13_bear_227 (lv_at hl 3 rfl) ?_
                          refine lv_iload_n hx hb dX13_bear_229 rfl (lv_at hl 6 rfl) ?_
                          have hPc : va_P D vwCl ([] ++ va_pl L M_429) H_428 := hP.part (cx := []) [] rfl
                          have hDc : va_D A ([] ++ va_pl L M_429) := hD.part (cx := []) [] (by decide) rfl
                          have hFc : ∀ q, va_A ([] ++ va_pl L M_429) H_428.size q → A q := pg_free hDc hS hA
                          have hx0 : (fx M b11 0) = ((v24 : Nat) : Int) := (congrFun hV.2.1 0).symm.trans ((fx_of hM_431 rfl hv24).trans (nI_toInt (by omega)))
                          have hx11 : (fx M b11 11) = ((v15 : Nat) : Int) := (congrFun hV.2.1 11).symm.trans ((fx_of hM_431 rfl hv15).trans (nI_toInt (by omega)))
                          obtain ⟨v438, hv438, hc438⟩ : ∃ v : Nat, fs14[34]? = some (.ref v : Value) ∧ isk K L v 43 16 := hl14 34 (by decide)
                          obtain ⟨f439, hM439⟩ := hW.open_43 hc438
                          have hy34 : (ax M b11 34) = f439 := (congrFun hV.2.2.1 34).symm.trans (ax_of hM_431 (by decide) hv438 hM439)
                          refine va_calli (va_runV (As := [.int k2]) (rest := [.ref b11, .int (nI zgw36), .ref z12]) ⟨hx, hb, hml, hown, hg⟩ (r_ruleOnP l D cy K L M_429 H_428.size b11 k2  hW hb_13 ⟨_, _, _, _, hM_431, hv15, by omega, by omega, hv438, hc438, hM439, rldp hy34 (hAT.2.2.2.1.1 (by omega)) (by rw [hx0]; exact geI c_25 (by omega))⟩) (cwV 1 hg (gV wd_815 wd_816 wd_817 wd_737 wd_818) rfl rfl rfl (by decide +kernel) ⟨(Nat.le_trans (Nat.le_of_ble_eq_true rfl) hRf), (Nat.le_trans (Nat.le_of_ble_eq_true rfl) hRl)⟩) ⟨PG.blind, pg_recv hK hP hb_13.1 hM_431 rfl, fun U hU hW => ⟨rfl, PG.at hPc hK hDc hN hU hW⟩⟩ rfl rfl hl.1 rfl (lv_room (Nat.le_of_ble_eq_true rfl)) dX13_bear_230 ⟨(Nat.le_trans (Nat.le_of_ble_eq_true rfl) hRc), (Nat.le_trans (Nat.le_of_ble_eq_true rfl) hRs)⟩) hS (fun q _ h => hFc q h) hFc (fun r_441 M_442 t H_440 locs ht hvm hw hB hz1 hk1 hS => ?_)
                          have hp_443 := hw
                          obtain ⟨hP1, hD1⟩ := hB
                          rw [ht] at hP1
                          obtain ⟨hP, hD⟩ := va_joinP (X := [(za, .inr (13, [.int 0, .ref z1, .int (nI z2), .int (nI z3), .int z4, .int z5, .ref z6, .ref z7, .ref z8, .ref z9, .int (nI z10), .ref z11, .ref z12, .ref z13, .ref z14, .ref z15, .int (nI zgw36), .ref z17, .int z18, .ref z19]))]) (cx := []) (wr := [(za, .inr (13, [.int 0, .ref z1, .int (nI z2), .int (nI z3), .int z4, .int z5, .ref z6, .ref z7, .ref z8, .ref z9, .int (nI z10), .ref z11, .ref z12, .ref z13, .ref z14, .ref z15, .int (nI zgw36), .ref z17, .int z18, .ref z19]))]) (rx := []) (pl := va_pl L M_429) (pl1 := va_pl L M_429) hP hD [] [0] rfl rfl (by decide) (by decide) hk1 hFc hP1 hD1
                          have hP : va_P D vwCl ([(za, .inr (13, [.int 0, .ref z1, .int (nI z2), .int (nI z3), .int z4, .int z5, .ref z6, .ref z7, .ref z8, .ref z9, .int (nI z10), .ref z11, .ref z12, .ref z13, .ref z14, .ref z15, .int (nI zgw36), .ref z17, .int z18, .ref z19]))] ++ va_pl L M_429) H_440 := hP
                          have hD : va_D A ([(za, .inr (13, [.int 0, .ref z1, .int (nI z2), .int (nI z3), .int z4, .int z5, .ref z6, .ref z7, .ref z8, .ref z9, .int (nI z10), .ref z11, .ref z12, .ref z13, .ref z14, .ref z15, .int (nI zgw36), .ref z17, .int z18, .ref z19]))] ++ va_pl L M_429) := hD
                          obtain ⟨j_444, rfl, c_445⟩ := hp_443
                          refine lv_goto (tgt := 243) hx hb dX13_bear_233 (by decide) ?_
                          refine lv_iconst (v := 3) hx hb dX13_bear_243 (by decide) ?_
                          refine lv_aload hx hb dX13_bear_244 (lv_at hl 3 rfl) ?_
                          obtain ⟨v446, hv446, hc446⟩ : ∃ v : Nat, fs14[20]? = some (.ref v : Value) ∧ isk K L v 31 24 := hl14 20 (by decide)
                          refine pg_getN (D := D) (ci := 12) (v := .ref v446) (C := RX12) (T := TX12) (N := 51) hx hb hg inG12 hown hK hP hb_13.1 hM_431 rfl 20 (by decide) (hN.use (Cond.fieldLinkNest RX13 110 RX12 "where" "[I" RX13) 29 rfl rfl) (fun _ h9 => h9) hv446 dX13_bear_246 ?_
                          refine lv_iload hx hb dX13_bear_249 (lv_at hl 2 rfl) ?_
                          obtain ⟨f447, hM447, hf447⟩ := hW.open_31 hc446
                          have hi_448 : vp_in (nI v5w36) 24 := (inbN v5w36 24 (by omega) (by omega))
                          refine pg_iald hx hb hK hP hc446.1 0 hM447 rfl hi_448 dX13_bear_251 ?_
                          have hp_449 := hf447 _ (vp_lt hi_448)
                          obtain ⟨c_450, hc_451, ec_452⟩ := hp_449
                          rw [ec_452]
                          have hPc : va_P D vwCl ([] ++ va_pl L M_429) H_440 := hP.part (cx := []) [] rfl
                          have hDc : va_D A ([] ++ va_pl L M_429) := hD.part (cx := []) [] (by decide) rfl
                          have hFc : ∀ q, va_A ([] ++ va_pl L M_429) H_440.size q → A q := pg_free hDc hS hA
                          refine va_calli (va_runV (As := [.int (nI j_444), .int 3, .int (nI c_450)]) (rest := [.int (nI zgw36), .ref z12]) ⟨hx, hb, hml, hown, hg⟩ (r_X12_term l D cy K L M_429 H_440.size b11 j_444 3 c_450  hW hb_13 c_445 (by omega) hc_451) (cwV 3 hg (gV wd_770 wd_771 wd_772 wd_737 wd_773) rfl rfl rfl (by decide +kernel) ⟨(Nat.le_trans (Nat.le_of_ble_eq_true rfl) hRf), (Nat.le_trans (Nat.le_of_ble_eq_true rfl) hRl)⟩) ⟨PG.blind, pg_recv hK hP hb_13.1 hM_431 rfl, fun U hU hW => ⟨rfl, PG.at hPc hK hDc hN hU hW⟩⟩ rfl rfl hl.1 rfl (lv_room (Nat.le_of_ble_eq_true rfl)) dX13_bear_252 ⟨(Nat.le_trans (Nat.le_of_ble_eq_true rfl) hRc), (Nat.le_trans (Nat.le_of_ble_eq_true rfl) hRs)⟩) hS (fun q _ h => hFc q h) hFc (fun r_454 M_455 t H_453 locs ht hvm hw hB hz1 hk1 hS => ?_)
                          have hp_456 := hw
                          obtain ⟨hP1, hD1⟩ := hB
                          rw [ht] at hP1
                          obtain ⟨hP, hD⟩ := va_joinP (X := [(za, .inr (13, [.int 0, .ref z1, .int (nI z2), .int (nI z3), .int z4, .int z5, .ref z6, .ref z7, .ref z8, .ref z9, .int (nI z10), .ref z11, .ref z12, .ref z13, .ref z14, .ref z15, .int (nI zgw36), .ref z17, .int z18, .ref z19]))]) (cx := []) (wr := [(za, .inr (13, [.int 0, .ref z1, .int (nI z2), .int (nI z3), .int z4, .int z5, .ref z6, .ref z7, .ref z8, .ref z9, .int (nI z10), .ref z11, .ref z12, .ref z13, .ref z14, .ref z15, .int (nI zgw36), .ref z17, .int z18, .ref z19]))]) (rx := []) (pl := va_pl L M_429) (pl1 := va_pl L M_429) hP hD [] [0] rfl rfl (by decide) (by decide) hk1 hFc hP1 hD1
                          have hP : va_P D vwCl ([(za, .inr (13, [.int 0, .ref z1, .int (nI z2), .int (nI z3), .int z4, .int z5, .ref z6, .ref z7, .ref z8, .ref z9, .int (nI z10), .ref z11, .ref z12, .ref z13, .ref z14, .ref z15, .int (nI zgw36), .ref z17, .int z18, .ref z19]))] ++ va_pl L M_429) H_453 := hP
                          have hD : va_D A ([(za, .inr (13, [.int 0, .ref z1, .int (nI z2), .int (nI z3), .int z4, .int z5, .ref z6, .ref z7, .ref z8, .ref z9, .int (nI z10), .ref z11, .ref z12, .ref z13, .ref z14, .ref z15, .int (nI zgw36), .ref z17, .int z18, .ref z19]))] ++ va_pl L M_429) := hD
                          obtain ⟨f457, hM457⟩ := hW.open_14 i12
                          refine pg_iast hx hb hK hP hD hS i12.1 0 hM457 rfl (inbN zgw36 24 (by omega) (by omega)) dX13_bear_255 (fun H_458 locs hP hD hS => ?_)
                          obtain ⟨M_459, eM_459⟩ : ∃ M1 : Hp, M1 = va_up M_429 z12 (.inl (cy 14, 24, .inl (upd f457 ((nI zgw36) : Int32).toNatClampNeg r_454))) := ⟨_, rfl⟩
                          have hV : VW K L M M_459 b11 (fx M b11) (ax M b11) := by rw [eM_459]; exact hV.oth hW hb_13 i12 (by decide)
                          have hP : va_P D vwCl ([(za, .inr (13, [.int 0, .ref z1, .int (nI z2), .int (nI z3), .int z4, .int z5, .ref z6, .ref z7, .ref z8, .ref z9, .int (nI z10), .ref z11, .ref z12, .ref z13, .ref z14, .ref z15, .int (nI zgw36), .ref z17, .int z18, .ref z19]))] ++ va_pl L M_459) H_458 := by rw [eM_459]; exact hP
                          have hD : va_D A ([(za, .inr (13, [.int 0, .ref z1, .int (nI z2), .int (nI z3), .int z4, .int z5, .ref z6, .ref z7, .ref z8, .ref z9, .int (nI z10), .ref z11, .ref z12, .ref z13, .ref z14, .ref z15, .int (nI zgw36), .ref z17, .int z18, .ref z19]))] ++ va_pl L M_459) := by rw [eM_459]; exact hD
                          have hW : WOM cy K L M_459 := by rw [eM_459]; exact hW.up_14 i12 ⟨_, rfl⟩
                          have hF : fr K L [14, 15, 32] M M_459 := by rw [eM_459]; exact hF.up i12 (by decide)
                          have hM_460 : M_459 z12 = .inl (cy 14, 24, .inl (upd f457 ((nI zgw36) : Int32).toNatClampNeg r_454)) := by rw [eM_459]; exact va_up_self _ _ _
                          have hM_461 : M_459 z11 = .inl (cy 14, 24, .inl (f_435)) := by rw [eM_459, va_up_ne _ _ (i11.neT i12 (by decide))]; exact hM_430
                          have hM_462 : M_459 b11 = .inr (12, fs14) := by rw [eM_459, va_up_ne _ _ (hb_13.neT i12 (by decide))]; exact hM_431
                          have hM_463 : M_459 v109 = .inl (cy 14, 24, .inl (f110)) := by rw [eM_459, va_up_ne _ _ (hc109.neT i12 (by decide))]; exact hM_432
                          have hM_464 : M_459 v438 = .inl (cy 14, 16, .inl (f439)) := by rw [eM_459, va_up_ne _ _ (hc438.neT i12 (by decide))]; exact hM439
                          have hM_465 : M_459 v446 = .inl (cy 14, 24, .inl (f447)) := by rw [eM_459, va_up_ne _ _ (hc446.neT i12 (by decide))]; exact hM447
                          obtain ⟨f_466, ef_466⟩ : ∃ f : Nat → Int32, f = upd f457 ((nI zgw36) : Int32).toNatClampNeg r_454 := ⟨_, rfl⟩
                          rw [← ef_466] at hM_460
                          refine lv_aload_n hx hb dX13_bear_256 rfl (lv_at hl 4 rfl) ?_
                          refine va_get (D := D) (ci := 13) (v := .ref z13) (C := RX13) (T := TX13) (N := 20) hx hb hg inG13 hown hK hP 0 rfl rfl 13 (by decide) (hg _ wd_789) (fun _ h9 => h9) rfl dX13_bear_257 ?_
                          refine lv_aload_n hx hb dX13_bear_260 rfl (lv_at hl 4 rfl) ?_
                          refine va_get (D := D) (ci := 13) (v := .int (nI zgw36)) (C := RX13) (T := TX13) (N := 20) hx hb hg inG13 hown hK hP 0 rfl rfl 16 (by decide) (hg _ wd_769) (fun _ h9 => h9) rfl dX13_bear_261 ?_
                          refine lv_lconst (v := 0) hx hb dX13_bear_264 (by decide) ?_
                          obtain ⟨f467, hM467⟩ := hW.open_15 i13
                          refine pg_last hx hb hK hP hD hS i13.1 1 hM467 rfl (inbN zgw36 24 (by omega) (by omega)) dX13_bear_265 (fun H_468 locs hP hD hS => ?_)
                          obtain ⟨M_469, eM_469⟩ : ∃ M1 : Hp, M1 = va_up M_459 z13 (.inl (cy 15, 24, .inr (.inl (vp_updL f467 ((nI zgw36) : Int32).toNatClampNeg 0)))) := ⟨_, rfl⟩
                          have hV : VW K L M M_469 b11 (fx M b11) (ax M b11) := by rw [eM_469]; exact hV.oth hW hb_13 i13 (by decide)
                          have hP : va_P D vwCl ([(za, .inr (13, [.int 0, .ref z1, .int (nI z2), .int (nI z3), .int z4, .int z5, .ref z6, .ref z7, .ref z8, .ref z9, .int (nI z10), .ref z11, .ref z12, .ref z13, .ref z14, .ref z15, .int (nI zgw36), .ref z17, .int z18, .ref z19]))] ++ va_pl L M_469) H_468 := by rw [eM_469]; exact hP
                          have hD : va_D A ([(za, .inr (13, [.int 0, .ref z1, .int (nI z2), .int (nI z3), .int z4, .int z5, .ref z6, .ref z7, .ref z8, .ref z9, .int (nI z10), .ref z11, .ref z12, .ref z13, .ref z14, .ref z15, .int (nI zgw36), .ref z17, .int z18, .ref z19]))] ++ va_pl L M_469) := by rw [eM_469]; exact hD
                          have hW : WOM cy K L M_469 := by rw [eM_469]; exact hW.up_15 i13 ⟨_, rfl⟩
                          have hF : fr K L [14, 15, 32] M M_469 := by rw [eM_469]; exact hF.up i13 (by decide)
                          have hM_470 : M_469 z13 = .inl (cy 15, 24, .inr (.inl (vp_updL f467 ((nI zgw36) : Int32).toNatClampNeg 0))) := by rw [eM_469]; exact va_up_self _ _ _
                          have hM_471 : M_469 z12 = .inl (cy 14, 24, .inl (f_466)) := by rw [eM_469, va_up_ne _ _ (i12.neT i13 (by decide))]; exact hM_460
                          have hM_472 : M_469 z11 = .inl (cy 14, 24, .inl (f_435)) := by rw [eM_469, va_up_ne _ _ (i11.neT i13 (by decide))]; exact hM_461
                          have hM_473 : M_469 b11 = .inr (12, fs14) := by rw [eM_469, va_up_ne _ _ (hb_13.neT i13 (by decide))]; exact hM_462
                          have hM_474 : M_469 v109 = .inl (cy 14, 24, .inl (f110)) := by rw [eM_469, va_up_ne _ _ (hc109.neT i13 (by decide))]; exact hM_463
                          have hM_475 : M_469 v438 = .inl (cy 14, 16, .inl (f439)) := by rw [eM_469, va_up_ne _ _ (hc438.neT i13 (by decide))]; exact hM_464
                          have hM_476 : M_469 v446 = .inl (cy 14, 24, .inl (f447)) := by rw [eM_469, va_up_ne _ _ (hc446.neT i13 (by decide))]; exact hM_465
                          obtain ⟨f_477, ef_477⟩ : ∃ f : Nat → Int64, f = vp_updL f467 ((nI zgw36) : Int32).toNatClampNeg 0 := ⟨_, rfl⟩
                          rw [← ef_477] at hM_470
                          refine lv_aload_n hx hb dX13_bear_266 rfl (lv_at hl 4 rfl) ?_
                          refine lv_dup hx hb dX13_bear_267 rfl ?_
                          refine va_get (D := D) (ci := 13) (v := .int (nI zgw36)) (C := RX13) (T := TX13) (N := 20) hx hb hg inG13 hown hK hP 0 rfl rfl 16 (by decide) (hg _ wd_769) (fun _ h9 => h9) rfl dX13_bear_268 ?_
                          refine lv_iconst (v := 1) hx hb dX13_bear_271 (by decide) ?_
                          refine lv_iadd hx hb dX13_bear_272 ?_
                          refine lv_topi (fun f_478 ef_478 => ?_)
                          obtain rfl : f_478 = (nI (zgw36 + 1)) := ef_478.trans (nI_add zgw36 1)
                          refine va_put (D := D) (ci := 13) (v := .int (nI (zgw36 + 1))) (ty := .int) (C := RX13) (T := TX13) (N := 20) hx hb hg inG13 tyX13 tyX13_ok nmX13 hown hK hP hD hS 0 rfl rfl 16 (by decide) (hg _ wd_769) (fun _ h9 => h9) rfl (by decide +kernel) rfl rfl (Nat.le_of_ble_eq_true rfl) dX13_bear_273 (fun H_479 locs hP hD hS => ?_)
                          have hP : va_P D vwCl ([(za, .inr (13, [.int 0, .ref z1, .int (nI z2), .int (nI z3), .int z4, .int z5, .ref z6, .ref z7, .ref z8, .ref z9, .int (nI z10), .ref z11, .ref z12, .ref z13, .ref z14, .ref z15, .int (nI (zgw36 + 1)), .ref z17, .int z18, .ref z19]))] ++ va_pl L M_469) H_479 := hP
                          have hD : va_D A ([(za, .inr (13, [.int 0, .ref z1, .int (nI z2), .int (nI z3), .int z4, .int z5, .ref z6, .ref z7, .ref z8, .ref z9, .int (nI z10), .ref z11, .ref z12, .ref z13, .ref z14, .ref z15, .int (nI (zgw36 + 1)), .ref z17, .int z18, .ref z19]))] ++ va_pl L M_469) := hD
                          refine lv_iinc (v := (nI (v5w36 + 1))) (lv' := [(5, .int (nI (v5w36 + 1))), (7, .int 0), (6, .int 1), (4, .ref b11), (0, .ref za), (1, .int k1), (2, .int k2), (3, .int k3)]) hx hb dX13_bear_276 hl (k := 2) rfl (nI_1 v5w36) (by decide) rfl (fun ls hl => ?_)
                          refine lv_goto (tgt := 82) hx hb dX13_bear_279 (by decide) ?_
                          exact ih_34 (v5w36 + 1) (zgw36 + 1) M_469 H_479 _ _ (by omega) hM_473 (by omega) (by omega) hW hF hV hP hD hS (lv_sub hl [0, 3, 4, 5, 6, 7] rfl)
                        · have hz := rfl (a := 0)
                          refine lv_aload hx hb dX13_bear_158 (lv_at hl 2 rfl) ?_
                          obtain ⟨v480, hv480, hc480⟩ : ∃ v : Nat, fs14[26]? = some (.ref v : Value) ∧ isk K L v 16 24 := hl14 26 (by decide)
                          refine pg_getN (D := D) (ci := 12) (v := .ref v480) (C := RX12) (T := TX12) (N := 51) hx hb hg inG12 hown hK hP hb_13.1 hM_41 rfl 26 (by decide) (hN.use (Cond.fieldLinkNest RX13 124 RX12 "word" "[Z" RX13) 35 rfl rfl) (fun _ h9 => h9) hv480 dX13_bear_160 ?_
                          refine lv_iload hx hb dX13_bear_163 (lv_at hl 1 rfl) ?_
                          obtain ⟨f481, hM481, hf481⟩ := hW.open_16 hc480
                          have hi_482 : vp_in (nI v5w36) 24 := (inbN v5w36 24 (by omega) (by omega))
                          refine pg_zald hx hb hK hP hc480.1 2 hM481 rfl hi_482 dX13_bear_165 ?_
                          rcases hf481 _ (vp_lt hi_482) with ec_483 | ec_483
                          · rw [ec_483]
                            refine lv_if_eq (tgt := 185) hx hb dX13_bear_166 (by decide) (fun _ => ?_) (fun c_484 => absurd c_484 (by decide))
                            refine lv_iconst (v := 0) hx hb dX13_bear_185 (by decide) ?_
                            refine lv_istore (lv' := [(7, .int 0), (6, .int 1), (5, .int (nI v5w36)), (4, .ref b11), (0, .ref za), (1, .int k1), (2, .int k2), (3, .int k3)]) hx hb dX13_bear_186 hl (by decide) rfl (fun ls hl => ?_)
                            refine lv_iload hx hb dX13_bear_188 (lv_at hl 1 rfl) ?_
                            refine lv_if_ne (tgt := 201) hx hb dX13_bear_190 (by decide) (fun _ => ?_) (fun c_485 => absurd c_485 (by decide))
                            refine lv_aload_n hx hb dX13_bear_201 rfl (lv_at hl 4 rfl) ?_
                            refine va_get (D := D) (ci := 13) (v := .ref z11) (C := RX13) (T := TX13) (N := 20) hx hb hg inG13 hown hK hP 0 rfl rfl 11 (by decide) (hg _ wd_764) (fun _ h9 => h9) rfl dX13_bear_202 ?_
                            refine lv_aload_n hx hb dX13_bear_205 rfl (lv_at hl 4 rfl) ?_
                            refine va_get (D := D) (ci := 13) (v := .int (nI zgw36)) (C := RX13) (T := TX13) (N := 20) hx hb hg inG13 hown hK hP 0 rfl rfl 16 (by decide) (hg _ wd_769) (fun _ h9 => h9) rfl dX13_bear_206 ?_
                            refine lv_iload hx hb dX13_bear_209 (lv_at hl 2 rfl) ?_
                            obtain ⟨f486, hM486, hf486⟩ := hW.open_32 i11
                            refine pg_iast hx hb hK hP hD hS i11.1 0 hM486 rfl (inbN zgw36 24 (by omega) (by omega)) dX13_bear_211 (fun H_487 locs hP hD hS => ?_)
                            obtain ⟨M_488, eM_488⟩ : ∃ M1 : Hp, M1 = va_up M_39 z11 (.inl (cy 14, 24, .inl (upd f486 ((nI zgw36) : Int32).toNatClampNeg (nI v5w36)))) := ⟨_, rfl⟩
                            have hV : VW K L M M_488 b11 (fx M b11) (ax M b11) := by rw [eM_488]; exact hV.oth hW hb_13 i11 (by decide)
                            have hP : va_P D vwCl ([(za, .inr (13, [.int 0, .ref z1, .int (nI z2), .int (nI z3), .int z4, .int z5, .ref z6, .ref z7, .ref z8, .ref z9, .int (nI z10), .ref z11, .ref z12, .ref z13, .ref z14, .ref z15, .int (nI zgw36), .ref z17, .int z18, .ref z19]))] ++ va_pl L M_488) H_487 := by rw [eM_488]; exact hP
                            have hD : va_D A ([(za, .inr (13, [.int 0, .ref z1, .int (nI z2), .int (nI z3), .int z4, .int z5, .ref z6, .ref z7, .ref z8, .ref z9, .int (nI z10), .ref z11, .ref z12, .ref z13, .ref z14, .ref z15, .int (nI zgw36), .ref z17, .int z18, .ref z19]))] ++ va_pl L M_488) := by rw [eM_488]; exact hD
                            have hW : WOM cy K L M_488 := by rw [eM_488]; exact hW.up_32 i11 ⟨_, rfl, (updP (P := fun z => ∃ c : Nat, c < 24 ∧ z = nI c) hf486 ⟨v5w36, by omega, rfl⟩)⟩
                            have hF : fr K L [14, 15, 32] M M_488 := by rw [eM_488]; exact hF.up i11 (by decide)
                            have hM_489 : M_488 z11 = .inl (cy 14, 24, .inl (upd f486 ((nI zgw36) : Int32).toNatClampNeg (nI v5w36))) := by rw [eM_488]; exact va_up_self _ _ _
                            have hM_490 : M_488 b11 = .inr (12, fs14) := by rw [eM_488, va_up_ne _ _ (hb_13.neT i11 (by decide))]; exact hM_41
                            have hM_491 : M_488 v109 = .inl (cy 14, 24, .inl (f110)) := by rw [eM_488, va_up_ne _ _ (hc109.neT i11 (by decide))]; exact hM110
                            have hM_492 : M_488 v351 = .inl (cy 14, 24, .inl (f352)) := by rw [eM_488, va_up_ne _ _ (hc351.neT i11 (by decide))]; exact hM352
                            have hM_493 : M_488 v422 = .inl (cy 14, 24, .inl (f423)) := by rw [eM_488, va_up_ne _ _ (hc422.neT i11 (by decide))]; exact hM423
                            have hM_494 : M_488 v480 = .inl (cy 16, 24, .inl (f481)) := by rw [eM_488, va_up_ne _ _ (hc480.neT i11 (by decide))]; exact hM481
                            have hf_496 : ∀ j, j < 24 → ∃ c : Nat, c < 24 ∧ (upd f486 ((nI zgw36) : Int32).toNatClampNeg (nI v5w36)) j = nI c := (updP (P := fun z => ∃ c : Nat, c < 24 ∧ z = nI c) hf486 ⟨v5w36, by omega, rfl⟩)
                            obtain ⟨f_495, ef_495⟩ : ∃ f : Nat → Int32, f = upd f486 ((nI zgw36) : Int32).toNatClampNeg (nI v5w36) := ⟨_, rfl⟩
                            rw [← ef_495] at hM_489 hf_496
                            refine lv_aload_n hx hb dX13_bear_212 rfl (lv_at hl 4 rfl) ?_
                            refine va_get (D := D) (ci := 13) (v := .ref z12) (C := RX13) (T := TX13) (N := 20) hx hb hg inG13 hown hK hP 0 rfl rfl 12 (by decide) (hg _ wd_763) (fun _ h9 => h9) rfl dX13_bear_213 ?_
                            refine lv_aload_n hx hb dX13_bear_216 rfl (lv_at hl 4 rfl) ?_
                            refine va_get (D := D) (ci := 13) (v := .int (nI zgw36)) (C := RX13) (T := TX13) (N := 20) hx hb hg inG13 hown hK hP 0 rfl rfl 16 (by decide) (hg _ wd_769) (fun _ h9 => h9) rfl dX13_bear_217 ?_
                            refine lv_aload hx hb dX13_bear_220 (lv_at hl 3 rfl) ?_
                            refine lv_iload hx hb dX13_bear_222 (lv_at hl 1 rfl) ?_
                            refine lv_if_eq (tgt := 236) hx hb dX13_bear_224 (by decide) (fun c_497 => absurd c_497 (by decide)) (fun _ => ?_)
                            refine lv_aload hx hb dX13_bear_227 (lv_at hl 3 rfl) ?_
                            refine lv_iload_n hx hb dX13_bear_229 rfl (lv_at hl 6 rfl) ?_
                            have hPc : va_P D vwCl ([] ++ va_pl L M_488) H_487 := hP.part (cx := []) [] rfl
                            have hDc : va_D A ([] ++ va_pl L M_488) := hD.part (cx := []) [] (by decide) rfl
                            have hFc : ∀ q, va_A ([] ++ va_pl L M_488) H_487.size q → A q := pg_free hDc hS hA
                            have hx0 : (fx M b11 0) = ((v24 : Nat) : Int) := (congrFun hV.2.1 0).symm.trans ((fx_of hM_490 rfl hv24).trans (nI_toInt (by omega)))
                            have hx11 : (fx M b11 11) = ((v15 : Nat) : Int) := (congrFun hV.2.1 11).symm.trans ((fx_of hM_490 rfl hv15).trans (nI_toInt (by omega)))
                            obtain ⟨v498, hv498, hc498⟩ : ∃ v : Nat, fs14[34]? = some (.ref v : Value) ∧ isk K L v 43 16 := hl14 34 (by decide)
                            obtain ⟨f499, hM499⟩ := hW.open_43 hc498
                            have hy34 : (ax M b11 34) = f499 := (congrFun hV.2.2.1 34).symm.trans (ax_of hM_490 (by decide) hv498 hM499)
                            refine va_calli (va_runV (As := [.int k2]) (rest := [.ref b11, .int (nI zgw36), .ref z12]) ⟨hx, hb, hml, hown, hg⟩ (r_ruleOnP l D cy K L M_488 H_487.size b11 k2  hW hb_13 ⟨_, _, _, _, hM_490, hv15, by omega, by omega, hv498, hc498, hM499, rldp hy34 (hAT.2.2.2.1.1 (by omega)) (by rw [hx0]; exact geI c_25 (by omega))⟩) (cwV 1 hg (gV wd_815 wd_816 wd_817 wd_737 wd_818) rfl rfl rfl (by decide +kernel) ⟨(Nat.le_trans (Nat.le_of_ble_eq_true rfl) hRf), (Nat.le_trans (Nat.le_of_ble_eq_true rfl) hRl)⟩) ⟨PG.blind, pg_recv hK hP hb_13.1 hM_490 rfl, fun U hU hW => ⟨rfl, PG.at hPc hK hDc hN hU hW⟩⟩ rfl rfl hl.1 rfl (lv_room (Nat.le_of_ble_eq_true rfl)) dX13_bear_230 ⟨(Nat.le_trans (Nat.le_of_ble_eq_true rfl) hRc), (Nat.le_trans (Nat.le_of_ble_eq_true rfl) hRs)⟩) hS (fun q _ h => hFc q h) hFc (fun r_501 M_502 t H_500 locs ht hvm hw hB hz1 hk1 hS => ?_)
                            have hp_503 := hw
                            obtain ⟨hP1, hD1⟩ := hB
                            rw [ht] at hP1
                            obtain ⟨hP, hD⟩ := va_joinP (X := [(za, .inr (13, [.int 0, .ref z1, .int (nI z2), .int (nI z3), .int z4, .int z5, .ref z6, .ref z7, .ref z8, .ref z9, .int (nI z10), .ref z11, .ref z12, .ref z13, .ref z14, .ref z15, .int (nI zgw36), .ref z17, .int z18, .ref z19]))]) (cx := []) (wr := [(za, .inr (13, [.int 0, .ref z1, .int (nI z2), .int (nI z3), .int z4, .int z5, .ref z6, .ref z7, .ref z8, .ref z9, .int (nI z10), .ref z11, .ref z12, .ref z13, .ref z14, .ref z15, .int (nI zgw36), .ref z17, .int z18, .ref z19]))]) (rx := []) (pl := va_pl L M_488) (pl1 := va_pl L M_488) hP hD [] [0] rfl rfl (by decide) (by decide) hk1 hFc hP1 hD1
                            have hP : va_P D vwCl ([(za, .inr (13, [.int 0, .ref z1, .int (nI z2), .int (nI z3), .int z4, .int z5, .ref z6, .ref z7, .ref z8, .ref z9, .int (nI z10), .ref z11, .ref z12, .ref z13, .ref z14, .ref z15, .int (nI zgw36), .ref z17, .int z18, .ref z19]))] ++ va_pl L M_488) H_500 := hP
                            have hD : va_D A ([(za, .inr (13, [.int 0, .ref z1, .int (nI z2), .int (nI z3), .int z4, .int z5, .ref z6, .ref z7, .ref z8, .ref z9, .int (nI z10), .ref z11, .ref z12, .ref z13, .ref z14, .ref z15, .int (nI zgw36), .ref z17, .int z18, .ref z19]))] ++ va_pl L M_488) := hD
                            obtain ⟨j_504, rfl, c_505⟩ := hp_503
                            refine lv_goto (tgt := 243) hx hb dX13_bear_233 (by decide) ?_
                            refine lv_iconst (v := 3) hx hb dX13_bear_243 (by decide) ?_
                            refine lv_aload hx hb dX13_bear_244 (lv_at hl 3 rfl) ?_
                            obtain ⟨v506, hv506, hc506⟩ : ∃ v : Nat, fs14[20]? = some (.ref v : Value) ∧ isk K L v 31 24 := hl14 20 (by decide)
                            refine pg_getN (D := D) (ci := 12) (v := .ref v506) (C := RX12) (T := TX12) (N := 51) hx hb hg inG12 hown hK hP hb_13.1 hM_490 rfl 20 (by decide) (hN.use (Cond.fieldLinkNest RX13 110 RX12 "where" "[I" RX13) 29 rfl rfl) (fun _ h9 => h9) hv506 dX13_bear_246 ?_
                            refine lv_iload hx hb dX13_bear_249 (lv_at hl 2 rfl) ?_
                            obtain ⟨f507, hM507, hf507⟩ := hW.open_31 hc506
                            have hi_508 : vp_in (nI v5w36) 24 := (inbN v5w36 24 (by omega) (by omega))
                            refine pg_iald hx hb hK hP hc506.1 0 hM507 rfl hi_508 dX13_bear_251 ?_
                            have hp_509 := hf507 _ (vp_lt hi_508)
                            obtain ⟨c_510, hc_511, ec_512⟩ := hp_509
                            rw [ec_512]
                            have hPc : va_P D vwCl ([] ++ va_pl L M_488) H_500 := hP.part (cx := []) [] rfl
                            have hDc : va_D A ([] ++ va_pl L M_488) := hD.part (cx := []) [] (by decide) rfl
                            have hFc : ∀ q, va_A ([] ++ va_pl L M_488) H_500.size q → A q := pg_free hDc hS hA
                            refine va_calli (va_runV (As := [.int (nI j_504), .int 3, .int (nI c_510)]) (rest := [.int (nI zgw36), .ref z12]) ⟨hx, hb, hml, hown, hg⟩ (r_X12_term l D cy K L M_488 H_500.size b11 j_504 3 c_510  hW hb_13 c_505 (by omega) hc_511) (cwV 3 hg (gV wd_770 wd_771 wd_772 wd_737 wd_773) rfl rfl rfl (by decide +kernel) ⟨(Nat.le_trans (Nat.le_of_ble_eq_true rfl) hRf), (Nat.le_trans (Nat.le_of_ble_eq_true rfl) hRl)⟩) ⟨PG.blind, pg_recv hK hP hb_13.1 hM_490 rfl, fun U hU hW => ⟨rfl, PG.at hPc hK hDc hN hU hW⟩⟩ rfl rfl hl.1 rfl (lv_room (Nat.le_of_ble_eq_true rfl)) dX13_bear_252 ⟨(Nat.le_trans (Nat.le_of_ble_eq_true rfl) hRc), (Nat.le_trans (Nat.le_of_ble_eq_true rfl) hRs)⟩) hS (fun q _ h => hFc q h) hFc (fun r_514 M_515 t H_513 locs ht hvm hw hB hz1 hk1 hS => ?_)
                            have hp_516 := hw
                            obtain ⟨hP1, hD1⟩ := hB
                            rw [ht] at hP1
                            obtain ⟨hP, hD⟩ := va_joinP (X := [(za, .inr (13, [.int 0, .ref z1, .int (nI z2), .int (nI z3), .int z4, .int z5, .ref z6, .ref z7, .ref z8, .ref z9, .int (nI z10), .ref z11, .ref z12, .ref z13, .ref z14, .ref z15, .int (nI zgw36), .ref z17, .int z18, .ref z19]))]) (cx := []) (wr := [(za, .inr (13, [.int 0, .ref z1, .int (nI z2), .int (nI z3), .int z4, .int z5, .ref z6, .ref z7, .ref z8, .ref z9, .int (nI z10), .ref z11, .ref z12, .ref z13, .ref z14, .ref z15, .int (nI zgw36), .ref z17, .int z18, .ref z19]))]) (rx := []) (pl := va_pl L M_488) (pl1 := va_pl L M_488) hP hD [] [0] rfl rfl (by decide) (by decide) hk1 hFc hP1 hD1
                            have hP : va_P D vwCl ([(za, .inr (13, [.int 0, .ref z1, .int (nI z2), .int (nI z3), .int z4, .int z5, .ref z6, .ref z7, .ref z8, .ref z9, .int (nI z10), .ref z11, .ref z12, .ref z13, .ref z14, .ref z15, .int (nI zgw36), .ref z17, .int z18, .ref z19]))] ++ va_pl L M_488) H_513 := hP
                            have hD : va_D A ([(za, .inr (13, [.int 0, .ref z1, .int (nI z2), .int (nI z3), .int z4, .int z5, .ref z6, .ref z7, .ref z8, .ref z9, .int (nI z10), .ref z11, .ref z12, .ref z13, .ref z14, .ref z15, .int (nI zgw36), .ref z17, .int z18, .ref z19]))] ++ va_pl L M_488) := hD
                            obtain ⟨f517, hM517⟩ := hW.open_14 i12
                            refine pg_iast hx hb hK hP hD hS i12.1 0 hM517 rfl (inbN zgw36 24 (by omega) (by omega)) dX13_bear_255 (fun H_518 locs hP hD hS => ?_)
                            obtain ⟨M_519, eM_519⟩ : ∃ M1 : Hp, M1 = va_up M_488 z12 (.inl (cy 14, 24, .inl (upd f517 ((nI zgw36) : Int32).toNatClampNeg r_514))) := ⟨_, rfl⟩
                            have hV : VW K L M M_519 b11 (fx M b11) (ax M b11) := by rw [eM_519]; exact hV.oth hW hb_13 i12 (by decide)
                            have hP : va_P D vwCl ([(za, .inr (13, [.int 0, .ref z1, .int (nI z2), .int (nI z3), .int z4, .int z5, .ref z6, .ref z7, .ref z8, .ref z9, .int (nI z10), .ref z11, .ref z12, .ref z13, .ref z14, .ref z15, .int (nI zgw36), .ref z17, .int z18, .ref z19]))] ++ va_pl L M_519) H_518 := by rw [eM_519]; exact hP
                            have hD : va_D A ([(za, .inr (13, [.int 0, .ref z1, .int (nI z2), .int (nI z3), .int z4, .int z5, .ref z6, .ref z7, .ref z8, .ref z9, .int (nI z10), .ref z11, .ref z12, .ref z13, .ref z14, .ref z15, .int (nI zgw36), .ref z17, .int z18, .ref z19]))] ++ va_pl L M_519) := by rw [eM_519]; exact hD
                            have hW : WOM cy K L M_519 := by rw [eM_519]; exact hW.up_14 i12 ⟨_, rfl⟩
                            have hF : fr K L [14, 15, 32] M M_519 := by rw [eM_519]; exact hF.up i12 (by decide)
                            have hM_520 : M_519 z12 = .inl (cy 14, 24, .inl (upd f517 ((nI zgw36) : Int32).toNatClampNeg r_514)) := by rw [eM_519]; exact va_up_self _ _ _
                            have hM_521 : M_519 z11 = .inl (cy 14, 24, .inl (f_495)) := by rw [eM_519, va_up_ne _ _ (i11.neT i12 (by decide))]; exact hM_489
                            have hM_522 : M_519 b11 = .inr (12, fs14) := by rw [eM_519, va_up_ne _ _ (hb_13.neT i12 (by decide))]; exact hM_490
                            have hM_523 : M_519 v109 = .inl (cy 14, 24, .inl (f110)) := by rw [eM_519, va_up_ne _ _ (hc109.neT i12 (by decide))]; exact hM_491
                            have hM_524 : M_519 v480 = .inl (cy 16, 24, .inl (f481)) := by rw [eM_519, va_up_ne _ _ (hc480.neT i12 (by decide))]; exact hM_494
                            have hM_525 : M_519 v498 = .inl (cy 14, 16, .inl (f499)) := by rw [eM_519, va_up_ne _ _ (hc498.neT i12 (by decide))]; exact hM499
                            have hM_526 : M_519 v506 = .inl (cy 14, 24, .inl (f507)) := by rw [eM_519, va_up_ne _ _ (hc506.neT i12 (by decide))]; exact hM507
                            obtain ⟨f_527, ef_527⟩ : ∃ f : Nat → Int32, f = upd f517 ((nI zgw36) : Int32).toNatClampNeg r_514 := ⟨_, rfl⟩
                            rw [← ef_527] at hM_520
                            refine lv_aload_n hx hb dX13_bear_256 rfl (lv_at hl 4 rfl) ?_
                            refine va_get (D := D) (ci := 13) (v := .ref z13) (C := RX13) (T := TX13) (N := 20) hx hb hg inG13 hown hK hP 0 rfl rfl 13 (by decide) (hg _ wd_789) (fun _ h9 => h9) rfl dX13_bear_257 ?_
                            refine lv_aload_n hx hb dX13_bear_260 rfl (lv_at hl 4 rfl) ?_
                            refine va_get (D := D) (ci := 13) (v := .int (nI zgw36)) (C := RX13) (T := TX13) (N := 20) hx hb hg inG13 hown hK hP 0 rfl rfl 16 (by decide) (hg _ wd_769) (fun _ h9 => h9) rfl dX13_bear_261 ?_
                            refine lv_lconst (v := 0) hx hb dX13_bear_264 (by decide) ?_
                            obtain ⟨f528, hM528⟩ := hW.open_15 i13
                            refine pg_last hx hb hK hP hD hS i13.1 1 hM528 rfl (inbN zgw36 24 (by omega) (by omega)) dX13_bear_265 (fun H_529 locs hP hD hS => ?_)
                            obtain ⟨M_530, eM_530⟩ : ∃ M1 : Hp, M1 = va_up M_519 z13 (.inl (cy 15, 24, .inr (.inl (vp_updL f528 ((nI zgw36) : Int32).toNatClampNeg 0)))) := ⟨_, rfl⟩
                            have hV : VW K L M M_530 b11 (fx M b11) (ax M b11) := by rw [eM_530]; exact hV.oth hW hb_13 i13 (by decide)
                            have hP : va_P D vwCl ([(za, .inr (13, [.int 0, .ref z1, .int (nI z2), .int (nI z3), .int z4, .int z5, .ref z6, .ref z7, .ref z8, .ref z9, .int (nI z10), .ref z11, .ref z12, .ref z13, .ref z14, .ref z15, .int (nI zgw36), .ref z17, .int z18, .ref z19]))] ++ va_pl L M_530) H_529 := by rw [eM_530]; exact hP
                            have hD : va_D A ([(za, .inr (13, [.int 0, .ref z1, .int (nI z2), .int (nI z3), .int z4, .int z5, .ref z6, .ref z7, .ref z8, .ref z9, .int (nI z10), .ref z11, .ref z12, .ref z13, .ref z14, .ref z15, .int (nI zgw36), .ref z17, .int z18, .ref z19]))] ++ va_pl L M_530) := by rw [eM_530]; exact hD
                            have hW : WOM cy K L M_530 := by rw [eM_530]; exact hW.up_15 i13 ⟨_, rfl⟩
                            have hF : fr K L [14, 15, 32] M M_530 := by rw [eM_530]; exact hF.up i13 (by decide)
                            have hM_531 : M_530 z13 = .inl (cy 15, 24, .inr (.inl (vp_updL f528 ((nI zgw36) : Int32).toNatClampNeg 0))) := by rw [eM_530]; exact va_up_self _ _ _
                            have hM_532 : M_530 z12 = .inl (cy 14, 24, .inl (f_527)) := by rw [eM_530, va_up_ne _ _ (i12.neT i13 (by decide))]; exact hM_520
                            have hM_533 : M_530 z11 = .inl (cy 14, 24, .inl (f_495)) := by rw [eM_530, va_up_ne _ _ (i11.neT i13 (by decide))]; exact hM_521
                            have hM_534 : M_530 b11 = .inr (12, fs14) := by rw [eM_530, va_up_ne _ _ (hb_13.neT i13 (by decide))]; exact hM_522
                            have hM_535 : M_530 v109 = .inl (cy 14, 24, .inl (f110)) := by rw [eM_530, va_up_ne _ _ (hc109.neT i13 (by decide))]; exact hM_523
                            have hM_536 : M_530 v480 = .inl (cy 16, 24, .inl (f481)) := by rw [eM_530, va_up_ne _ _ (hc480.neT i13 (by decide))]; exact hM_524
                            have hM_537 : M_530 v498 = .inl (cy 14, 16, .inl (f499)) := by rw [eM_530, va_up_ne _ _ (hc498.neT i13 (by decide))]; exact hM_525
                            have hM_538 : M_530 v506 = .inl (cy 14, 24, .inl (f507)) := by rw [eM_530, va_up_ne _ _ (hc506.neT i13 (by decide))]; exact hM_526
                            obtain ⟨f_539, ef_539⟩ : ∃ f : Nat → Int64, f = vp_updL f528 ((nI zgw36) : Int32).toNatClampNeg 0 := ⟨_, rfl⟩
                            rw [← ef_539] at hM_531
                            refine lv_aload_n hx hb dX13_bear_266 rfl (lv_at hl 4 rfl) ?_
                            refine lv_dup hx hb dX13_bear_267 rfl ?_
                            refine va_get (D := D) (ci := 13) (v := .int (nI zgw36)) (C := RX13) (T := TX13) (N := 20) hx hb hg inG13 hown hK hP 0 rfl rfl 16 (by decide) (hg _ wd_769) (fun _ h9 => h9) rfl dX13_bear_268 ?_
                            refine lv_iconst (v := 1) hx hb dX13_bear_271 (by decide) ?_
                            refine lv_iadd hx hb dX13_bear_272 ?_
                            refine lv_topi (fun f_540 ef_540 => ?_)
                            obtain rfl : f_540 = (nI (zgw36 + 1)) := ef_540.trans (nI_add zgw36 1)
                            refine va_put (D := D) (ci := 13) (v := .int (nI (zgw36 + 1))) (ty := .int) (C := RX13) (T := TX13) (N := 20) hx hb hg inG13 tyX13 tyX13_ok nmX13 hown hK hP hD hS 0 rfl rfl 16 (by decide) (hg _ wd_769) (fun _ h9 => h9) rfl (by decide +kernel) rfl rfl (Nat.le_of_ble_eq_true rfl) dX13_bear_273 (fun H_541 locs hP hD hS => ?_)
                            have hP : va_P D vwCl ([(za, .inr (13, [.int 0, .ref z1, .int (nI z2), .int (nI z3), .int z4, .int z5, .ref z6, .ref z7, .ref z8, .ref z9, .int (nI z10), .ref z11, .ref z12, .ref z13, .ref z14, .ref z15, .int (nI (zgw36 + 1)), .ref z17, .int z18, .ref z19]))] ++ va_pl L M_530) H_541 := hP
                            have hD : va_D A ([(za, .inr (13, [.int 0, .ref z1, .int (nI z2), .int (nI z3), .int z4, .int z5, .ref z6, .ref z7, .ref z8, .ref z9, .int (nI z10), .ref z11, .ref z12, .ref z13, .ref z14, .ref z15, .int (nI (zgw36 + 1)), .ref z17, .int z18, .ref z19]))] ++ va_pl L M_530) := hD
                            refine lv_iinc (v := (nI (v5w36 + 1))) (lv' := [(5, .int (nI (v5w36 + 1))), (7, .int 0), (6, .int 1), (4, .ref b11), (0, .ref za), (1, .int k1), (2, .int k2), (3, .int k3)]) hx hb dX13_bear_276 hl (k := 2) rfl (nI_1 v5w36) (by decide) rfl (fun ls hl => ?_)
                            refine lv_goto (tgt := 82) hx hb dX13_bear_279 (by decide) ?_
                            exact ih_34 (v5w36 + 1) (zgw36 + 1) M_530 H_541 _ _ (by omega) hM_534 (by omega) (by omega) hW hF hV hP hD hS (lv_sub hl [0, 3, 4, 5, 6, 7] rfl)
                          · rw [ec_483]
                            refine lv_if_eq (tgt := 185) hx hb dX13_bear_166 (by decide) (fun c_542 => absurd c_542 (by decide)) (fun _ => ?_)
                            refine lv_aload hx hb dX13_bear_169 (lv_at hl 2 rfl) ?_
                            refine pg_getN (D := D) (ci := 12) (v := .ref v109) (C := RX12) (T := TX12) (N := 51) hx hb hg inG12 hown hK hP hb_13.1 hM_41 rfl 22 (by decide) (hN.use (Cond.fieldLinkNest RX13 95 RX12 "ended" "[I" RX13) 31 rfl rfl) (fun _ h9 => h9) hv109 dX13_bear_171 ?_
                            refine lv_iload hx hb dX13_bear_174 (lv_at hl 1 rfl) ?_
                            refine pg_iald hx hb hK hP hc109.1 0 hM110 rfl (inbN v5w36 24 (by omega) (by omega)) dX13_bear_176 ?_
                            refine lv_topi (fun f_543 ef_543 => ?_)
                            refine lv_iconst (v := (-1)) hx hb dX13_bear_177 (by decide) ?_
                            refine lv_icmp_ne (tgt := 185) hx hb dX13_bear_178 (by decide) (fun c_544 => ?_) (fun c_544 => ?_)
                            · have hz := rfl (a := 0)
                              refine lv_iconst (v := 0) hx hb dX13_bear_185 (by decide) ?_
                              refine lv_istore (lv' := [(7, .int 0), (6, .int 1), (5, .int (nI v5w36)), (4, .ref b11), (0, .ref za), (1, .int k1), (2, .int k2), (3, .int k3)]) hx hb dX13_bear_186 hl (by decide) rfl (fun ls hl => ?_)
                              refine lv_iload hx hb dX13_bear_188 (lv_at hl 1 rfl) ?_
                              refine lv_if_ne (tgt := 201) hx hb dX13_bear_190 (by decide) (fun _ => ?_) (fun c_545 => absurd c_545 (by decide))
                              refine lv_aload_n hx hb dX13_bear_201 rfl (lv_at hl 4 rfl) ?_
                              refine va_get (D := D) (ci := 13) (v := .ref z11) (C := RX13) (T := TX13) (N := 20) hx hb hg inG13 hown hK hP 0 rfl rfl 11 (by decide) (hg _ wd_764) (fun _ h9 => h9) rfl dX13_bear_202 ?_
                              refine lv_aload_n hx hb dX13_bear_205 rfl (lv_at hl 4 rfl) ?_
                              refine va_get (D := D) (ci := 13) (v := .int (nI zgw36)) (C := RX13) (T := TX13) (N := 20) hx hb hg inG13 hown hK hP 0 rfl rfl 16 (by decide) (hg _ wd_769) (fun _ h9 => h9) rfl dX13_bear_206 ?_
                              refine lv_iload hx hb dX13_bear_209 (lv_at hl 2 rfl) ?_
                              obtain ⟨f546, hM546, hf546⟩ := hW.open_32 i11
                              refine pg_iast hx hb hK hP hD hS i11.1 0 hM546 rfl (inbN zgw36 24 (by omega) (by omega)) dX13_bear_211 (fun H_547 locs hP hD hS => ?_)
                              obtain ⟨M_548, eM_548⟩ : ∃ M1 : Hp, M1 = va_up M_39 z11 (.inl (cy 14, 24, .inl (upd f546 ((nI zgw36) : Int32).toNatClampNeg (nI v5w36)))) := ⟨_, rfl⟩
                              have hV : VW K L M M_548 b11 (fx M b11) (ax M b11) := by rw [eM_548]; exact hV.oth hW hb_13 i11 (by decide)
                              have hP : va_P D vwCl ([(za, .inr (13, [.int 0, .ref z1, .int (nI z2), .int (nI z3), .int z4, .int z5, .ref z6, .ref z7, .ref z8, .ref z9, .int (nI z10), .ref z11, .ref z12, .ref z13, .ref z14, .ref z15, .int (nI zgw36), .ref z17, .int z18, .ref z19]))] ++ va_pl L M_548) H_547 := by rw [eM_548]; exact hP
                              have hD : va_D A ([(za, .inr (13, [.int 0, .ref z1, .int (nI z2), .int (nI z3), .int z4, .int z5, .ref z6, .ref z7, .ref z8, .ref z9, .int (nI z10), .ref z11, .ref z12, .ref z13, .ref z14, .ref z15, .int (nI zgw36), .ref z17, .int z18, .ref z19]))] ++ va_pl L M_548) := by rw [eM_548]; exact hD
                              have hW : WOM cy K L M_548 := by rw [eM_548]; exact hW.up_32 i11 ⟨_, rfl, (updP (P := fun z => ∃ c : Nat, c < 24 ∧ z = nI c) hf546 ⟨v5w36, by omega, rfl⟩)⟩
                              have hF : fr K L [14, 15, 32] M M_548 := by rw [eM_548]; exact hF.up i11 (by decide)
                              have hM_549 : M_548 z11 = .inl (cy 14, 24, .inl (upd f546 ((nI zgw36) : Int32).toNatClampNeg (nI v5w36))) := by rw [eM_548]; exact va_up_self _ _ _
                              have hM_550 : M_548 b11 = .inr (12, fs14) := by rw [eM_548, va_up_ne _ _ (hb_13.neT i11 (by decide))]; exact hM_41
                              have hM_551 : M_548 v109 = .inl (cy 14, 24, .inl (f110)) := by rw [eM_548, va_up_ne _ _ (hc109.neT i11 (by decide))]; exact hM110
                              have hM_552 : M_548 v351 = .inl (cy 14, 24, .inl (f352)) := by rw [eM_548, va_up_ne _ _ (hc351.neT i11 (by decide))]; exact hM352
                              have hM_553 : M_548 v422 = .inl (cy 14, 24, .inl (f423)) := by rw [eM_548, va_up_ne _ _ (hc422.neT i11 (by decide))]; exact hM423
                              have hM_554 : M_548 v480 = .inl (cy 16, 24, .inl (f481)) := by rw [eM_548, va_up_ne _ _ (hc480.neT i11 (by decide))]; exact hM481
                              have hf_556 : ∀ j, j < 24 → ∃ c : Nat, c < 24 ∧ (upd f546 ((nI zgw36) : Int32).toNatClampNeg (nI v5w36)) j = nI c := (updP (P := fun z => ∃ c : Nat, c < 24 ∧ z = nI c) hf546 ⟨v5w36, by omega, rfl⟩)
                              obtain ⟨f_555, ef_555⟩ : ∃ f : Nat → Int32, f = upd f546 ((nI zgw36) : Int32).toNatClampNeg (nI v5w36) := ⟨_, rfl⟩
                              rw [← ef_555] at hM_549 hf_556
                              refine lv_aload_n hx hb dX13_bear_212 rfl (lv_at hl 4 rfl) ?_
                              refine va_get (D := D) (ci := 13) (v := .ref z12) (C := RX13) (T := TX13) (N := 20) hx hb hg inG13 hown hK hP 0 rfl rfl 12 (by decide) (hg _ wd_763) (fun _ h9 => h9) rfl dX13_bear_213 ?_
                              refine lv_aload_n hx hb dX13_bear_216 rfl (lv_at hl 4 rfl) ?_
                              refine va_get (D := D) (ci := 13) (v := .int (nI zgw36)) (C := RX13) (T := TX13) (N := 20) hx hb hg inG13 hown hK hP 0 rfl rfl 16 (by decide) (hg _ wd_769) (fun _ h9 => h9) rfl dX13_bear_217 ?_
                              refine lv_aload hx hb dX13_bear_220 (lv_at hl 3 rfl) ?_
                              refine lv_iload hx hb dX13_bear_222 (lv_at hl 1 rfl) ?_
                              refine lv_if_eq (tgt := 236) hx hb dX13_bear_224 (by decide) (fun c_557 => absurd c_557 (by decide)) (fun _ => ?_)
                              refine lv_aload hx hb dX13_bear_227 (lv_at hl 3 rfl) ?_
                              refine lv_iload_n hx hb dX13_bear_229 rfl (lv_at hl 6 rfl) ?_
                              have hPc : va_P D vwCl ([] ++ va_pl L M_548) H_547 := hP.part (cx := []) [] rfl
                              have hDc : va_D A ([] ++ va_pl L M_548) := hD.part (cx := []) [] (by decide) rfl
                              have hFc : ∀ q, va_A ([] ++ va_pl L M_548) H_547.size q → A q := pg_free hDc hS hA
                              have hx0 : (fx M b11 0) = ((v24 : Nat) : Int) := (congrFun hV.2.1 0).symm.trans ((fx_of hM_550 rfl hv24).trans (nI_toInt (by omega)))
                              have hx11 : (fx M b11 11) = ((v15 : Nat) : Int) := (congrFun hV.2.1 11).symm.trans ((fx_of hM_550 rfl hv15).trans (nI_toInt (by omega)))
                              obtain ⟨v558, hv558, hc558⟩ : ∃ v : Nat, fs14[34]? = some (.ref v : Value) ∧ isk K L v 43 16 := hl14 34 (by decide)
                              obtain ⟨f559, hM559⟩ := hW.open_43 hc558
                              have hy34 : (ax M b11 34) = f559 := (congrFun hV.2.2.1 34).symm.trans (ax_of hM_550 (by decide) hv558 hM559)
                              refine va_calli (va_runV (As := [.int k2]) (rest := [.ref b11, .int (nI zgw36), .ref z12]) ⟨hx, hb, hml, hown, hg⟩ (r_ruleOnP l D cy K L M_548 H_547.size b11 k2  hW hb_13 ⟨_, _, _, _, hM_550, hv15, by omega, by omega, hv558, hc558, hM559, rldp hy34 (hAT.2.2.2.1.1 (by omega)) (by rw [hx0]; exact geI c_25 (by omega))⟩) (cwV 1 hg (gV wd_815 wd_816 wd_817 wd_737 wd_818) rfl rfl rfl (by decide +kernel) ⟨(Nat.le_trans (Nat.le_of_ble_eq_true rfl) hRf), (Nat.le_trans (Nat.le_of_ble_eq_true rfl) hRl)⟩) ⟨PG.blind, pg_recv hK hP hb_13.1 hM_550 rfl, fun U hU hW => ⟨rfl, PG.at hPc hK hDc hN hU hW⟩⟩ rfl rfl hl.1 rfl (lv_room (Nat.le_of_ble_eq_true rfl)) dX13_bear_230 ⟨(Nat.le_trans (Nat.le_of_ble_eq_true rfl) hRc), (Nat.le_trans (Nat.le_of_ble_eq_true rfl) hRs)⟩) hS (fun q _ h => hFc q h) hFc (fun r_561 M_562 t H_560 locs ht hvm hw hB hz1 hk1 hS => ?_)
                              have hp_563 := hw
                              obtain ⟨hP1, hD1⟩ := hB
                              rw [ht] at hP1
                              obtain ⟨hP, hD⟩ := va_joinP (X := [(za, .inr (13, [.int 0, .ref z1, .int (nI z2), .int (nI z3), .int z4, .int z5, .ref z6, .ref z7, .ref z8, .ref z9, .int (nI z10), .ref z11, .ref z12, .ref z13, .ref z14, .ref z15, .int (nI zgw36), .ref z17, .int z18, .ref z19]))]) (cx := []) (wr := [(za, .inr (13, [.int 0, .ref z1, .int (nI z2), .int (nI z3), .int z4, .int z5, .ref z6, .ref z7, .ref z8, .ref z9, .int (nI z10), .ref z11, .ref z12, .ref z13, .ref z14, .ref z15, .int (nI zgw36), .ref z17, .int z18, .ref z19]))]) (rx := []) (pl := va_pl L M_548) (pl1 := va_pl L M_548) hP hD [] [0] rfl rfl (by decide) (by decide) hk1 hFc hP1 hD1
                              have hP : va_P D vwCl ([(za, .inr (13, [.int 0, .ref z1, .int (nI z2), .int (nI z3), .int z4, .int z5, .ref z6, .ref z7, .ref z8, .ref z9, .int (nI z10), .ref z11, .ref z12, .ref z13, .ref z14, .ref z15, .int (nI zgw36), .ref z17, .int z18, .ref z19]))] ++ va_pl L M_548) H_560 := hP
                              have hD : va_D A ([(za, .inr (13, [.int 0, .ref z1, .int (nI z2), .int (nI z3), .int z4, .int z5, .ref z6, .ref z7, .ref z8, .ref z9, .int (nI z10), .ref z11, .ref z12, .ref z13, .ref z14, .ref z15, .int (nI zgw36), .ref z17, .int z18, .ref z19]))] ++ va_pl L M_548) := hD
                              obtain ⟨j_564, rfl, c_565⟩ := hp_563
                              refine lv_goto (tgt := 243) hx hb dX13_bear_233 (by decide) ?_
                              refine lv_iconst (v := 3) hx hb dX13_bear_243 (by decide) ?_
                              refine lv_aload hx hb dX13_bear_244 (lv_at hl 3 rfl) ?_
                              obtain ⟨v566, hv566, hc566⟩ : ∃ v : Nat, fs14[20]? = some (.ref v : Value) ∧ isk K L v 31 24 := hl14 20 (by decide)
                              refine pg_getN (D := D) (ci := 12) (v := .ref v566) (C := RX12) (T := TX12) (N := 51) hx hb hg inG12 hown hK hP hb_13.1 hM_550 rfl 20 (by decide) (hN.use (Cond.fieldLinkNest RX13 110 RX12 "where" "[I" RX13) 29 rfl rfl) (fun _ h9 => h9) hv566 dX13_bear_246 ?_
                              refine lv_iload hx hb dX13_bear_249 (lv_at hl 2 rfl) ?_
                              obtain ⟨f567, hM567, hf567⟩ := hW.open_31 hc566
                              have hi_568 : vp_in (nI v5w36) 24 := (inbN v5w36 24 (by omega) (by omega))
                              refine pg_iald hx hb hK hP hc566.1 0 hM567 rfl hi_568 dX13_bear_251 ?_
                              have hp_569 := hf567 _ (vp_lt hi_568)
                              obtain ⟨c_570, hc_571, ec_572⟩ := hp_569
                              rw [ec_572]
                              have hPc : va_P D vwCl ([] ++ va_pl L M_548) H_560 := hP.part (cx := []) [] rfl
                              have hDc : va_D A ([] ++ va_pl L M_548) := hD.part (cx := []) [] (by decide) rfl
                              have hFc : ∀ q, va_A ([] ++ va_pl L M_548) H_560.size q → A q := pg_free hDc hS hA
                              refine va_calli (va_runV (As := [.int (nI j_564), .int 3, .int (nI c_570)]) (rest := [.int (nI zgw36), .ref z12]) ⟨hx, hb, hml, hown, hg⟩ (r_X12_term l D cy K L M_548 H_560.size b11 j_564 3 c_570  hW hb_13 c_565 (by omega) hc_571) (cwV 3 hg (gV wd_770 wd_771 wd_772 wd_737 wd_773) rfl rfl rfl (by decide +kernel) ⟨(Nat.le_trans (Nat.le_of_ble_eq_true rfl) hRf), (Nat.le_trans (Nat.le_of_ble_eq_true rfl) hRl)⟩) ⟨PG.blind, pg_recv hK hP hb_13.1 hM_550 rfl, fun U hU hW => ⟨rfl, PG.at hPc hK hDc hN hU hW⟩⟩ rfl rfl hl.1 rfl (lv_room (Nat.le_of_ble_eq_true rfl)) dX13_bear_252 ⟨(Nat.le_trans (Nat.le_of_ble_eq_true rfl) hRc), (Nat.le_trans (Nat.le_of_ble_eq_true rfl) hRs)⟩) hS (fun q _ h => hFc q h) hFc (fun r_574 M_575 t H_573 locs ht hvm hw hB hz1 hk1 hS => ?_)
                              have hp_576 := hw
                              obtain ⟨hP1, hD1⟩ := hB
                              rw [ht] at hP1
                              obtain ⟨hP, hD⟩ := va_joinP (X := [(za, .inr (13, [.int 0, .ref z1, .int (nI z2), .int (nI z3), .int z4, .int z5, .ref z6, .ref z7, .ref z8, .ref z9, .int (nI z10), .ref z11, .ref z12, .ref z13, .ref z14, .ref z15, .int (nI zgw36), .ref z17, .int z18, .ref z19]))]) (cx := []) (wr := [(za, .inr (13, [.int 0, .ref z1, .int (nI z2), .int (nI z3), .int z4, .int z5, .ref z6, .ref z7, .ref z8, .ref z9, .int (nI z10), .ref z11, .ref z12, .ref z13, .ref z14, .ref z15, .int (nI zgw36), .ref z17, .int z18, .ref z19]))]) (rx := []) (pl := va_pl L M_548) (pl1 := va_pl L M_548) hP hD [] [0] rfl rfl (by decide) (by decide) hk1 hFc hP1 hD1
                              have hP : va_P D vwCl ([(za, .inr (13, [.int 0, .ref z1, .int (nI z2), .int (nI z3), .int z4, .int z5, .ref z6, .ref z7, .ref z8, .ref z9, .int (nI z10), .ref z11, .ref z12, .ref z13, .ref z14, .ref z15, .int (nI zgw36), .ref z17, .int z18, .ref z19]))] ++ va_pl L M_548) H_573 := hP
                              have hD : va_D A ([(za, .inr (13, [.int 0, .ref z1, .int (nI z2), .int (nI z3), .int z4, .int z5, .ref z6, .ref z7, .ref z8, .ref z9, .int (nI z10), .ref z11, .ref z12, .ref z13, .ref z14, .ref z15, .int (nI zgw36), .ref z17, .int z18, .ref z19]))] ++ va_pl L M_548) := hD
                              obtain ⟨f577, hM577⟩ := hW.open_14 i12
                              refine pg_iast hx hb hK hP hD hS i12.1 0 hM577 rfl (inbN zgw36 24 (by omega) (by omega)) dX13_bear_255 (fun H_578 locs hP hD hS => ?_)
                              obtain ⟨M_579, eM_579⟩ : ∃ M1 : Hp, M1 = va_up M_548 z12 (.inl (cy 14, 24, .inl (upd f577 ((nI zgw36) : Int32).toNatClampNeg r_574))) := ⟨_, rfl⟩
                              have hV : VW K L M M_579 b11 (fx M b11) (ax M b11) := by rw [eM_579]; exact hV.oth hW hb_13 i12 (by decide)
                              have hP : va_P D vwCl ([(za, .inr (13, [.int 0, .ref z1, .int (nI z2), .int (nI z3), .int z4, .int z5, .ref z6, .ref z7, .ref z8, .ref z9, .int (nI z10), .ref z11, .ref z12, .ref z13, .ref z14, .ref z15, .int (nI zgw36), .ref z17, .int z18, .ref z19]))] ++ va_pl L M_579) H_578 := by rw [eM_579]; exact hP
                              have hD : va_D A ([(za, .inr (13, [.int 0, .ref z1, .int (nI z2), .int (nI z3), .int z4, .int z5, .ref z6, .ref z7, .ref z8, .ref z9, .int (nI z10), .ref z11, .ref z12, .ref z13, .ref z14, .ref z15, .int (nI zgw36), .ref z17, .int z18, .ref z19]))] ++ va_pl L M_579) := by rw [eM_579]; exact hD
                              have hW : WOM cy K L M_579 := by rw [eM_579]; exact hW.up_14 i12 ⟨_, rfl⟩
                              have hF : fr K L [14, 15, 32] M M_579 := by rw [eM_579]; exact hF.up i12 (by decide)
                              have hM_580 : M_579 z12 = .inl (cy 14, 24, .inl (upd f577 ((nI zgw36) : Int32).toNatClampNeg r_574)) := by rw [eM_579]; exact va_up_self _ _ _
                              have hM_581 : M_579 z11 = .inl (cy 14, 24, .inl (f_555)) := by rw [eM_579, va_up_ne _ _ (i11.neT i12 (by decide))]; exact hM_549
                              have hM_582 : M_579 b11 = .inr (12, fs14) := by rw [eM_579, va_up_ne _ _ (hb_13.neT i12 (by decide))]; exact hM_550
                              have hM_583 : M_579 v109 = .inl (cy 14, 24, .inl (f110)) := by rw [eM_579, va_up_ne _ _ (hc109.neT i12 (by decide))]; exact hM_551
                              have hM_584 : M_579 v480 = .inl (cy 16, 24, .inl (f481)) := by rw [eM_579, va_up_ne _ _ (hc480.neT i12 (by decide))]; exact hM_554
                              have hM_585 : M_579 v558 = .inl (cy 14, 16, .inl (f559)) := by rw [eM_579, va_up_ne _ _ (hc558.neT i12 (by decide))]; exact hM559
                              have hM_586 : M_579 v566 = .inl (cy 14, 24, .inl (f567)) := by rw [eM_579, va_up_ne _ _ (hc566.neT i12 (by decide))]; exact hM567
                              obtain ⟨f_587, ef_587⟩ : ∃ f : Nat → Int32, f = upd f577 ((nI zgw36) : Int32).toNatClampNeg r_574 := ⟨_, rfl⟩
                              rw [← ef_587] at hM_580
                              refine lv_aload_n hx hb dX13_bear_256 rfl (lv_at hl 4 rfl) ?_
                              refine va_get (D := D) (ci := 13) (v := .ref z13) (C := RX13) (T := TX13) (N := 20) hx hb hg inG13 hown hK hP 0 rfl rfl 13 (by decide) (hg _ wd_789) (fun _ h9 => h9) rfl dX13_bear_257 ?_
                              refine lv_aload_n hx hb dX13_bear_260 rfl (lv_at hl 4 rfl) ?_
                              refine va_get (D := D) (ci := 13) (v := .int (nI zgw36)) (C := RX13) (T := TX13) (N := 20) hx hb hg inG13 hown hK hP 0 rfl rfl 16 (by decide) (hg _ wd_769) (fun _ h9 => h9) rfl dX13_bear_261 ?_
                              refine lv_lconst (v := 0) hx hb dX13_bear_264 (by decide) ?_
                              obtain ⟨f588, hM588⟩ := hW.open_15 i13
                              refine pg_last hx hb hK hP hD hS i13.1 1 hM588 rfl (inbN zgw36 24 (by omega) (by omega)) dX13_bear_265 (fun H_589 locs hP hD hS => ?_)
                              obtain ⟨M_590, eM_590⟩ : ∃ M1 : Hp, M1 = va_up M_579 z13 (.inl (cy 15, 24, .inr (.inl (vp_updL f588 ((nI zgw36) : Int32).toNatClampNeg 0)))) := ⟨_, rfl⟩
                              have hV : VW K L M M_590 b11 (fx M b11) (ax M b11) := by rw [eM_590]; exact hV.oth hW hb_13 i13 (by decide)
                              have hP : va_P D vwCl ([(za, .inr (13, [.int 0, .ref z1, .int (nI z2), .int (nI z3), .int z4, .int z5, .ref z6, .ref z7, .ref z8, .ref z9, .int (nI z10), .ref z11, .ref z12, .ref z13, .ref z14, .ref z15, .int (nI zgw36), .ref z17, .int z18, .ref z19]))] ++ va_pl L M_590) H_589 := by rw [eM_590]; exact hP
                              have hD : va_D A ([(za, .inr (13, [.int 0, .ref z1, .int (nI z2), .int (nI z3), .int z4, .int z5, .ref z6, .ref z7, .ref z8, .ref z9, .int (nI z10), .ref z11, .ref z12, .ref z13, .ref z14, .ref z15, .int (nI zgw36), .ref z17, .int z18, .ref z19]))] ++ va_pl L M_590) := by rw [eM_590]; exact hD
                              have hW : WOM cy K L M_590 := by rw [eM_590]; exact hW.up_15 i13 ⟨_, rfl⟩
                              have hF : fr K L [14, 15, 32] M M_590 := by rw [eM_590]; exact hF.up i13 (by decide)
                              have hM_591 : M_590 z13 = .inl (cy 15, 24, .inr (.inl (vp_updL f588 ((nI zgw36) : Int32).toNatClampNeg 0))) := by rw [eM_590]; exact va_up_self _ _ _
                              have hM_592 : M_590 z12 = .inl (cy 14, 24, .inl (f_587)) := by rw [eM_590, va_up_ne _ _ (i12.neT i13 (by decide))]; exact hM_580
                              have hM_593 : M_590 z11 = .inl (cy 14, 24, .inl (f_555)) := by rw [eM_590, va_up_ne _ _ (i11.neT i13 (by decide))]; exact hM_581
                              have hM_594 : M_590 b11 = .inr (12, fs14) := by rw [eM_590, va_up_ne _ _ (hb_13.neT i13 (by decide))]; exact hM_582
                              have hM_595 : M_590 v109 = .inl (cy 14, 24, .inl (f110)) := by rw [eM_590, va_up_ne _ _ (hc109.neT i13 (by decide))]; exact hM_583
                              have hM_596 : M_590 v480 = .inl (cy 16, 24, .inl (f481)) := by rw [eM_590, va_up_ne _ _ (hc480.neT i13 (by decide))]; exact hM_584
                              have hM_597 : M_590 v558 = .inl (cy 14, 16, .inl (f559)) := by rw [eM_590, va_up_ne _ _ (hc558.neT i13 (by decide))]; exact hM_585
                              have hM_598 : M_590 v566 = .inl (cy 14, 24, .inl (f567)) := by rw [eM_590, va_up_ne _ _ (hc566.neT i13 (by decide))]; exact hM_586
                              obtain ⟨f_599, ef_599⟩ : ∃ f : Nat → Int64, f = vp_updL f588 ((nI zgw36) : Int32).toNatClampNeg 0 := ⟨_, rfl⟩
                              rw [← ef_599] at hM_591
                              refine lv_aload_n hx hb dX13_bear_266 rfl (lv_at hl 4 rfl) ?_
                              refine lv_dup hx hb dX13_bear_267 rfl ?_
                              refine va_get (D := D) (ci := 13) (v := .int (nI zgw36)) (C := RX13) (T := TX13) (N := 20) hx hb hg inG13 hown hK hP 0 rfl rfl 16 (by decide) (hg _ wd_769) (fun _ h9 => h9) rfl dX13_bear_268 ?_
                              refine lv_iconst (v := 1) hx hb dX13_bear_271 (by decide) ?_
                              refine lv_iadd hx hb dX13_bear_272 ?_
                              refine lv_topi (fun f_600 ef_600 => ?_)
                              obtain rfl : f_600 = (nI (zgw36 + 1)) := ef_600.trans (nI_add zgw36 1)
                              refine va_put (D := D) (ci := 13) (v := .int (nI (zgw36 + 1))) (ty := .int) (C := RX13) (T := TX13) (N := 20) hx hb hg inG13 tyX13 tyX13_ok nmX13 hown hK hP hD hS 0 rfl rfl 16 (by decide) (hg _ wd_769) (fun _ h9 => h9) rfl (by decide +kernel) rfl rfl (Nat.le_of_ble_eq_true rfl) dX13_bear_273 (fun H_601 locs hP hD hS => ?_)
                              have hP : va_P D vwCl ([(za, .inr (13, [.int 0, .ref z1, .int (nI z2), .int (nI z3), .int z4, .int z5, .ref z6, .ref z7, .ref z8, .ref z9, .int (nI z10), .ref z11, .ref z12, .ref z13, .ref z14, .ref z15, .int (nI (zgw36 + 1)), .ref z17, .int z18, .ref z19]))] ++ va_pl L M_590) H_601 := hP
                              have hD : va_D A ([(za, .inr (13, [.int 0, .ref z1, .int (nI z2), .int (nI z3), .int z4, .int z5, .ref z6, .ref z7, .ref z8, .ref z9, .int (nI z10), .ref z11, .ref z12, .ref z13, .ref z14, .ref z15, .int (nI (zgw36 + 1)), .ref z17, .int z18, .ref z19]))] ++ va_pl L M_590) := hD
                              refine lv_iinc (v := (nI (v5w36 + 1))) (lv' := [(5, .int (nI (v5w36 + 1))), (7, .int 0), (6, .int 1), (4, .ref b11), (0, .ref za), (1, .int k1), (2, .int k2), (3, .int k3)]) hx hb dX13_bear_276 hl (k := 2) rfl (nI_1 v5w36) (by decide) rfl (fun ls hl => ?_)
                              refine lv_goto (tgt := 82) hx hb dX13_bear_279 (by decide) ?_
                              exact ih_34 (v5w36 + 1) (zgw36 + 1) M_590 H_601 _ _ (by omega) hM_594 (by omega) (by omega) hW hF hV hP hD hS (lv_sub hl [0, 3, 4, 5, 6, 7] rfl)
                            · have hz := rfl (a := 0)
                              refine lv_iconst (v := 1) hx hb dX13_bear_181 (by decide) ?_
                              refine lv_goto (tgt := 186) hx hb dX13_bear_182 (by decide) ?_
                              refine lv_istore (lv' := [(7, .int 1), (6, .int 1), (5, .int (nI v5w36)), (4, .ref b11), (0, .ref za), (1, .int k1), (2, .int k2), (3, .int k3)]) hx hb dX13_bear_186 hl (by decide) rfl (fun ls hl => ?_)
                              refine lv_iload hx hb dX13_bear_188 (lv_at hl 1 rfl) ?_
                              refine lv_if_ne (tgt := 201) hx hb dX13_bear_190 (by decide) (fun _ => ?_) (fun c_602 => absurd c_602 (by decide))
                              refine lv_aload_n hx hb dX13_bear_201 rfl (lv_at hl 4 rfl) ?_
                              refine va_get (D := D) (ci := 13) (v := .ref z11) (C := RX13) (T := TX13) (N := 20) hx hb hg inG13 hown hK hP 0 rfl rfl 11 (by decide) (hg _ wd_764) (fun _ h9 => h9) rfl dX13_bear_202 ?_
                              refine lv_aload_n hx hb dX13_bear_205 rfl (lv_at hl 4 rfl) ?_
                              refine va_get (D := D) (ci := 13) (v := .int (nI zgw36)) (C := RX13) (T := TX13) (N := 20) hx hb hg inG13 hown hK hP 0 rfl rfl 16 (by decide) (hg _ wd_769) (fun _ h9 => h9) rfl dX13_bear_206 ?_
                              refine lv_iload hx hb dX13_bear_209 (lv_at hl 2 rfl) ?_
                              obtain ⟨f603, hM603, hf603⟩ := hW.open_32 i11
                              refine pg_iast hx hb hK hP hD hS i11.1 0 hM603 rfl (inbN zgw36 24 (by omega) (by omega)) dX13_bear_211 (fun H_604 locs hP hD hS => ?_)
                              obtain ⟨M_605, eM_605⟩ : ∃ M1 : Hp, M1 = va_up M_39 z11 (.inl (cy 14, 24, .inl (upd f603 ((nI zgw36) : Int32).toNatClampNeg (nI v5w36)))) := ⟨_, rfl⟩
                              have hV : VW K L M M_605 b11 (fx M b11) (ax M b11) := by rw [eM_605]; exact hV.oth hW hb_13 i11 (by decide)
                              have hP : va_P D vwCl ([(za, .inr (13, [.int 0, .ref z1, .int (nI z2), .int (nI z3), .int z4, .int z5, .ref z6, .ref z7, .ref z8, .ref z9, .int (nI z10), .ref z11, .ref z12, .ref z13, .ref z14, .ref z15, .int (nI zgw36), .ref z17, .int z18, .ref z19]))] ++ va_pl L M_605) H_604 := by rw [eM_605]; exact hP
                              have hD : va_D A ([(za, .inr (13, [.int 0, .ref z1, .int (nI z2), .int (nI z3), .int z4, .int z5, .ref z6, .ref z7, .ref z8, .ref z9, .int (nI z10), .ref z11, .ref z12, .ref z13, .ref z14, .ref z15, .int (nI zgw36), .ref z17, .int z18, .ref z19]))] ++ va_pl L M_605) := by rw [eM_605]; exact hD
                              have hW : WOM cy K L M_605 := by rw [eM_605]; exact hW.up_32 i11 ⟨_, rfl, (updP (P := fun z => ∃ c : Nat, c < 24 ∧ z = nI c) hf603 ⟨v5w36, by omega, rfl⟩)⟩
                              have hF : fr K L [14, 15, 32] M M_605 := by rw [eM_605]; exact hF.up i11 (by decide)
                              have hM_606 : M_605 z11 = .inl (cy 14, 24, .inl (upd f603 ((nI zgw36) : Int32).toNatClampNeg (nI v5w36))) := by rw [eM_605]; exact va_up_self _ _ _
                              have hM_607 : M_605 b11 = .inr (12, fs14) := by rw [eM_605, va_up_ne _ _ (hb_13.neT i11 (by decide))]; exact hM_41
                              have hM_608 : M_605 v109 = .inl (cy 14, 24, .inl (f110)) := by rw [eM_605, va_up_ne _ _ (hc109.neT i11 (by decide))]; exact hM110
                              have hM_609 : M_605 v351 = .inl (cy 14, 24, .inl (f352)) := by rw [eM_605, va_up_ne _ _ (hc351.neT i11 (by decide))]; exact hM352
                              have hM_610 : M_605 v422 = .inl (cy 14, 24, .inl (f423)) := by rw [eM_605, va_up_ne _ _ (hc422.neT i11 (by decide))]; exact hM423
                              have hM_611 : M_605 v480 = .inl (cy 16, 24, .inl (f481)) := by rw [eM_605, va_up_ne _ _ (hc480.neT i11 (by decide))]; exact hM481
                              have hf_613 : ∀ j, j < 24 → ∃ c : Nat, c < 24 ∧ (upd f603 ((nI zgw36) : Int32).toNatClampNeg (nI v5w36)) j = nI c := (updP (P := fun z => ∃ c : Nat, c < 24 ∧ z = nI c) hf603 ⟨v5w36, by omega, rfl⟩)
                              obtain ⟨f_612, ef_612⟩ : ∃ f : Nat → Int32, f = upd f603 ((nI zgw36) : Int32).toNatClampNeg (nI v5w36) := ⟨_, rfl⟩
                              rw [← ef_612] at hM_606 hf_613
                              refine lv_aload_n hx hb dX13_bear_212 rfl (lv_at hl 4 rfl) ?_
                              refine va_get (D := D) (ci := 13) (v := .ref z12) (C := RX13) (T := TX13) (N := 20) hx hb hg inG13 hown hK hP 0 rfl rfl 12 (by decide) (hg _ wd_763) (fun _ h9 => h9) rfl dX13_bear_213 ?_
                              refine lv_aload_n hx hb dX13_bear_216 rfl (lv_at hl 4 rfl) ?_
                              refine va_get (D := D) (ci := 13) (v := .int (nI zgw36)) (C := RX13) (T := TX13) (N := 20) hx hb hg inG13 hown hK hP 0 rfl rfl 16 (by decide) (hg _ wd_769) (fun _ h9 => h9) rfl dX13_bear_217 ?_
                              refine lv_aload hx hb dX13_bear_220 (lv_at hl 3 rfl) ?_
                              refine lv_iload hx hb dX13_bear_222 (lv_at hl 1 rfl) ?_
                              refine lv_if_eq (tgt := 236) hx hb dX13_bear_224 (by decide) (fun c_614 => absurd c_614 (by decide)) (fun _ => ?_)
                              refine lv_aload hx hb dX13_bear_227 (lv_at hl 3 rfl) ?_
                              refine lv_iload_n hx hb dX13_bear_229 rfl (lv_at hl 6 rfl) ?_
                              have hPc : va_P D vwCl ([] ++ va_pl L M_605) H_604 := hP.part (cx := []) [] rfl
                              have hDc : va_D A ([] ++ va_pl L M_605) := hD.part (cx := []) [] (by decide) rfl
                              have hFc : ∀ q, va_A ([] ++ va_pl L M_605) H_604.size q → A q := pg_free hDc hS hA
                              have hx0 : (fx M b11 0) = ((v24 : Nat) : Int) := (congrFun hV.2.1 0).symm.trans ((fx_of hM_607 rfl hv24).trans (nI_toInt (by omega)))
                              have hx11 : (fx M b11 11) = ((v15 : Nat) : Int) := (congrFun hV.2.1 11).symm.trans ((fx_of hM_607 rfl hv15).trans (nI_toInt (by omega)))
                              obtain ⟨v615, hv615, hc615⟩ : ∃ v : Nat, fs14[34]? = some (.ref v : Value) ∧ isk K L v 43 16 := hl14 34 (by decide)
                              obtain ⟨f616, hM616⟩ := hW.open_43 hc615
                              have hy34 : (ax M b11 34) = f616 := (congrFun hV.2.2.1 34).symm.trans (ax_of hM_607 (by decide) hv615 hM616)
                              refine va_calli (va_runV (As := [.int k2]) (rest := [.ref b11, .int (nI zgw36), .ref z12]) ⟨hx, hb, hml, hown, hg⟩ (r_ruleOnP l D cy K L M_605 H_604.size b11 k2  hW hb_13 ⟨_, _, _, _, hM_607, hv15, by omega, by omega, hv615, hc615, hM616, rldp hy34 (hAT.2.2.2.1.1 (by omega)) (by rw [hx0]; exact geI c_25 (by omega))⟩) (cwV 1 hg (gV wd_815 wd_816 wd_817 wd_737 wd_818) rfl rfl rfl (by decide +kernel) ⟨(Nat.le_trans (Nat.le_of_ble_eq_true rfl) hRf), (Nat.le_trans (Nat.le_of_ble_eq_true rfl) hRl)⟩) ⟨PG.blind, pg_recv hK hP hb_13.1 hM_607 rfl, fun U hU hW => ⟨rfl, PG.at hPc hK hDc hN hU hW⟩⟩ rfl rfl hl.1 rfl (lv_room (Nat.le_of_ble_eq_true rfl)) dX13_bear_230 ⟨(Nat.le_trans (Nat.le_of_ble_eq_true rfl) hRc), (Nat.le_trans (Nat.le_of_ble_eq_true rfl) hRs)⟩) hS (fun q _ h => hFc q h) hFc (fun r_618 M_619 t H_617 locs ht hvm hw hB hz1 hk1 hS => ?_)
                              have hp_620 := hw
                              obtain ⟨hP1, hD1⟩ := hB
                              rw [ht] at hP1
                              obtain ⟨hP, hD⟩ := va_joinP (X := [(za, .inr (13, [.int 0, .ref z1, .int (nI z2), .int (nI z3), .int z4, .int z5, .ref z6, .ref z7, .ref z8, .ref z9, .int (nI z10), .ref z11, .ref z12, .ref z13, .ref z14, .ref z15, .int (nI zgw36), .ref z17, .int z18, .ref z19]))]) (cx := []) (wr := [(za, .inr (13, [.int 0, .ref z1, .int (nI z2), .int (nI z3), .int z4, .int z5, .ref z6, .ref z7, .ref z8, .ref z9, .int (nI z10), .ref z11, .ref z12, .ref z13, .ref z14, .ref z15, .int (nI zgw36), .ref z17, .int z18, .ref z19]))]) (rx := []) (pl := va_pl L M_605) (pl1 := va_pl L M_605) hP hD [] [0] rfl rfl (by decide) (by decide) hk1 hFc hP1 hD1
                              have hP : va_P D vwCl ([(za, .inr (13, [.int 0, .ref z1, .int (nI z2), .int (nI z3), .int z4, .int z5, .ref z6, .ref z7, .ref z8, .ref z9, .int (nI z10), .ref z11, .ref z12, .ref z13, .ref z14, .ref z15, .int (nI zgw36), .ref z17, .int z18, .ref z19]))] ++ va_pl L M_605) H_617 := hP
                              have hD : va_D A ([(za, .inr (13, [.int 0, .ref z1, .int (nI z2), .int (nI z3), .int z4, .int z5, .ref z6, .ref z7, .ref z8, .ref z9, .int (nI z10), .ref z11, .ref z12, .ref z13, .ref z14, .ref z15, .int (nI zgw36), .ref z17, .int z18, .ref z19]))] ++ va_pl L M_605) := hD
                              obtain ⟨j_621, rfl, c_622⟩ := hp_620
                              refine lv_goto (tgt := 243) hx hb dX13_bear_233 (by decide) ?_
                              refine lv_iconst (v := 3) hx hb dX13_bear_243 (by decide) ?_
                              refine lv_aload hx hb dX13_bear_244 (lv_at hl 3 rfl) ?_
                              obtain ⟨v623, hv623, hc623⟩ : ∃ v : Nat, fs14[20]? = some (.ref v : Value) ∧ isk K L v 31 24 := hl14 20 (by decide)
                              refine pg_getN (D := D) (ci := 12) (v := .ref v623) (C := RX12) (T := TX12) (N := 51) hx hb hg inG12 hown hK hP hb_13.1 hM_607 rfl 20 (by decide) (hN.use (Cond.fieldLinkNest RX13 110 RX12 "where" "[I" RX13) 29 rfl rfl) (fun _ h9 => h9) hv623 dX13_bear_246 ?_
                              refine lv_iload hx hb dX13_bear_249 (lv_at hl 2 rfl) ?_
                              obtain ⟨f624, hM624, hf624⟩ := hW.open_31 hc623
                              have hi_625 : vp_in (nI v5w36) 24 := (inbN v5w36 24 (by omega) (by omega))
                              refine pg_iald hx hb hK hP hc623.1 0 hM624 rfl hi_625 dX13_bear_251 ?_
                              have hp_626 := hf624 _ (vp_lt hi_625)
                              obtain ⟨c_627, hc_628, ec_629⟩ := hp_626
                              rw [ec_629]
                              have hPc : va_P D vwCl ([] ++ va_pl L M_605) H_617 := hP.part (cx := []) [] rfl
                              have hDc : va_D A ([] ++ va_pl L M_605) := hD.part (cx := []) [] (by decide) rfl
                              have hFc : ∀ q, va_A ([] ++ va_pl L M_605) H_617.size q → A q := pg_free hDc hS hA
                              refine va_calli (va_runV (As := [.int (nI j_621), .int 3, .int (nI c_627)]) (rest := [.int (nI zgw36), .ref z12]) ⟨hx, hb, hml, hown, hg⟩ (r_X12_term l D cy K L M_605 H_617.size b11 j_621 3 c_627  hW hb_13 c_622 (by omega) hc_628) (cwV 3 hg (gV wd_770 wd_771 wd_772 wd_737 wd_773) rfl rfl rfl (by decide +kernel) ⟨(Nat.le_trans (Nat.le_of_ble_eq_true rfl) hRf), (Nat.le_trans (Nat.le_of_ble_eq_true rfl) hRl)⟩) ⟨PG.blind, pg_recv hK hP hb_13.1 hM_607 rfl, fun U hU hW => ⟨rfl, PG.at hPc hK hDc hN hU hW⟩⟩ rfl rfl hl.1 rfl (lv_room (Nat.le_of_ble_eq_true rfl)) dX13_bear_252 ⟨(Nat.le_trans (Nat.le_of_ble_eq_true rfl) hRc), (Nat.le_trans (Nat.le_of_ble_eq_true rfl) hRs)⟩) hS (fun q _ h => hFc q h) hFc (fun r_631 M_632 t H_630 locs ht hvm hw hB hz1 hk1 hS => ?_)
                              have hp_633 := hw
                              obtain ⟨hP1, hD1⟩ := hB
                              rw [ht] at hP1
                              obtain ⟨hP, hD⟩ := va_joinP (X := [(za, .inr (13, [.int 0, .ref z1, .int (nI z2), .int (nI z3), .int z4, .int z5, .ref z6, .ref z7, .ref z8, .ref z9, .int (nI z10), .ref z11, .ref z12, .ref z13, .ref z14, .ref z15, .int (nI zgw36), .ref z17, .int z18, .ref z19]))]) (cx := []) (wr := [(za, .inr (13, [.int 0, .ref z1, .int (nI z2), .int (nI z3), .int z4, .int z5, .ref z6, .ref z7, .ref z8, .ref z9, .int (nI z10), .ref z11, .ref z12, .ref z13, .ref z14, .ref z15, .int (nI zgw36), .ref z17, .int z18, .ref z19]))]) (rx := []) (pl := va_pl L M_605) (pl1 := va_pl L M_605) hP hD [] [0] rfl rfl (by decide) (by decide) hk1 hFc hP1 hD1
                              have hP : va_P D vwCl ([(za, .inr (13, [.int 0, .ref z1, .int (nI z2), .int (nI z3), .int z4, .int z5, .ref z6, .ref z7, .ref z8, .ref z9, .int (nI z10), .ref z11, .ref z12, .ref z13, .ref z14, .ref z15, .int (nI zgw36), .ref z17, .int z18, .ref z19]))] ++ va_pl L M_605) H_630 := hP
                              have hD : va_D A ([(za, .inr (13, [.int 0, .ref z1, .int (nI z2), .int (nI z3), .int z4, .int z5, .ref z6, .ref z7, .ref z8, .ref z9, .int (nI z10), .ref z11, .ref z12, .ref z13, .ref z14, .ref z15, .int (nI zgw36), .ref z17, .int z18, .ref z19]))] ++ va_pl L M_605) := hD
                              obtain ⟨f634, hM634⟩ := hW.open_14 i12
                              refine pg_iast hx hb hK hP hD hS i12.1 0 hM634 rfl (inbN zgw36 24 (by omega) (by omega)) dX13_bear_255 (fun H_635 locs hP hD hS => ?_)
                              obtain ⟨M_636, eM_636⟩ : ∃ M1 : Hp, M1 = va_up M_605 z12 (.inl (cy 14, 24, .inl (upd f634 ((nI zgw36) : Int32).toNatClampNeg r_631))) := ⟨_, rfl⟩
                              have hV : VW K L M M_636 b11 (fx M b11) (ax M b11) := by rw [eM_636]; exact hV.oth hW hb_13 i12 (by decide)
                              have hP : va_P D vwCl ([(za, .inr (13, [.int 0, .ref z1, .int (nI z2), .int (nI z3), .int z4, .int z5, .ref z6, .ref z7, .ref z8, .ref z9, .int (nI z10), .ref z11, .ref z12, .ref z13, .ref z14, .ref z15, .int (nI zgw36), .ref z17, .int z18, .ref z19]))] ++ va_pl L M_636) H_635 := by rw [eM_636]; exact hP
                              have hD : va_D A ([(za, .inr (13, [.int 0, .ref z1, .int (nI z2), .int (nI z3), .int z4, .int z5, .ref z6, .ref z7, .ref z8, .ref z9, .int (nI z10), .ref z11, .ref z12, .ref z13, .ref z14, .ref z15, .int (nI zgw36), .ref z17, .int z18, .ref z19]))] ++ va_pl L M_636) := by rw [eM_636]; exact hD
                              have hW : WOM cy K L M_636 := by rw [eM_636]; exact hW.up_14 i12 ⟨_, rfl⟩
                              have hF : fr K L [14, 15, 32] M M_636 := by rw [eM_636]; exact hF.up i12 (by decide)
                              have hM_637 : M_636 z12 = .inl (cy 14, 24, .inl (upd f634 ((nI zgw36) : Int32).toNatClampNeg r_631)) := by rw [eM_636]; exact va_up_self _ _ _
                              have hM_638 : M_636 z11 = .inl (cy 14, 24, .inl (f_612)) := by rw [eM_636, va_up_ne _ _ (i11.neT i12 (by decide))]; exact hM_606
                              have hM_639 : M_636 b11 = .inr (12, fs14) := by rw [eM_636, va_up_ne _ _ (hb_13.neT i12 (by decide))]; exact hM_607
                              have hM_640 : M_636 v109 = .inl (cy 14, 24, .inl (f110)) := by rw [eM_636, va_up_ne _ _ (hc109.neT i12 (by decide))]; exact hM_608
                              have hM_641 : M_636 v480 = .inl (cy 16, 24, .inl (f481)) := by rw [eM_636, va_up_ne _ _ (hc480.neT i12 (by decide))]; exact hM_611
                              have hM_642 : M_636 v615 = .inl (cy 14, 16, .inl (f616)) := by rw [eM_636, va_up_ne _ _ (hc615.neT i12 (by decide))]; exact hM616
                              have hM_643 : M_636 v623 = .inl (cy 14, 24, .inl (f624)) := by rw [eM_636, va_up_ne _ _ (hc623.neT i12 (by decide))]; exact hM624
                              obtain ⟨f_644, ef_644⟩ : ∃ f : Nat → Int32, f = upd f634 ((nI zgw36) : Int32).toNatClampNeg r_631 := ⟨_, rfl⟩
                              rw [← ef_644] at hM_637
                              refine lv_aload_n hx hb dX13_bear_256 rfl (lv_at hl 4 rfl) ?_
                              refine va_get (D := D) (ci := 13) (v := .ref z13) (C := RX13) (T := TX13) (N := 20) hx hb hg inG13 hown hK hP 0 rfl rfl 13 (by decide) (hg _ wd_789) (fun _ h9 => h9) rfl dX13_bear_257 ?_
                              refine lv_aload_n hx hb dX13_bear_260 rfl (lv_at hl 4 rfl) ?_
                              refine va_get (D := D) (ci := 13) (v := .int (nI zgw36)) (C := RX13) (T := TX13) (N := 20) hx hb hg inG13 hown hK hP 0 rfl rfl 16 (by decide) (hg _ wd_769) (fun _ h9 => h9) rfl dX13_bear_261 ?_
                              refine lv_lconst (v := 0) hx hb dX13_bear_264 (by decide) ?_
                              obtain ⟨f645, hM645⟩ := hW.open_15 i13
                              refine pg_last hx hb hK hP hD hS i13.1 1 hM645 rfl (inbN zgw36 24 (by omega) (by omega)) dX13_bear_265 (fun H_646 locs hP hD hS => ?_)
                              obtain ⟨M_647, eM_647⟩ : ∃ M1 : Hp, M1 = va_up M_636 z13 (.inl (cy 15, 24, .inr (.inl (vp_updL f645 ((nI zgw36) : Int32).toNatClampNeg 0)))) := ⟨_, rfl⟩
                              have hV : VW K L M M_647 b11 (fx M b11) (ax M b11) := by rw [eM_647]; exact hV.oth hW hb_13 i13 (by decide)
                              have hP : va_P D vwCl ([(za, .inr (13, [.int 0, .ref z1, .int (nI z2), .int (nI z3), .int z4, .int z5, .ref z6, .ref z7, .ref z8, .ref z9, .int (nI z10), .ref z11, .ref z12, .ref z13, .ref z14, .ref z15, .int (nI zgw36), .ref z17, .int z18, .ref z19]))] ++ va_pl L M_647) H_646 := by rw [eM_647]; exact hP
                              have hD : va_D A ([(za, .inr (13, [.int 0, .ref z1, .int (nI z2), .int (nI z3), .int z4, .int z5, .ref z6, .ref z7, .ref z8, .ref z9, .int (nI z10), .ref z11, .ref z12, .ref z13, .ref z14, .ref z15, .int (nI zgw36), .ref z17, .int z18, .ref z19]))] ++ va_pl L M_647) := by rw [eM_647]; exact hD
                              have hW : WOM cy K L M_647 := by rw [eM_647]; exact hW.up_15 i13 ⟨_, rfl⟩
                              have hF : fr K L [14, 15, 32] M M_647 := by rw [eM_647]; exact hF.up i13 (by decide)
                              have hM_648 : M_647 z13 = .inl (cy 15, 24, .inr (.inl (vp_updL f645 ((nI zgw36) : Int32).toNatClampNeg 0))) := by rw [eM_647]; exact va_up_self _ _ _
                              have hM_649 : M_647 z12 = .inl (cy 14, 24, .inl (f_644)) := by rw [eM_647, va_up_ne _ _ (i12.neT i13 (by decide))]; exact hM_637
                              have hM_650 : M_647 z11 = .inl (cy 14, 24, .inl (f_612)) := by rw [eM_647, va_up_ne _ _ (i11.neT i13 (by decide))]; exact hM_638
                              have hM_651 : M_647 b11 = .inr (12, fs14) := by rw [eM_647, va_up_ne _ _ (hb_13.neT i13 (by decide))]; exact hM_639
                              have hM_652 : M_647 v109 = .inl (cy 14, 24, .inl (f110)) := by rw [eM_647, va_up_ne _ _ (hc109.neT i13 (by decide))]; exact hM_640
                              have hM_653 : M_647 v480 = .inl (cy 16, 24, .inl (f481)) := by rw [eM_647, va_up_ne _ _ (hc480.neT i13 (by decide))]; exact hM_641
                              have hM_654 : M_647 v615 = .inl (cy 14, 16, .inl (f616)) := by rw [eM_647, va_up_ne _ _ (hc615.neT i13 (by decide))]; exact hM_642
                              have hM_655 : M_647 v623 = .inl (cy 14, 24, .inl (f624)) := by rw [eM_647, va_up_ne _ _ (hc623.neT i13 (by decide))]; exact hM_643
                              obtain ⟨f_656, ef_656⟩ : ∃ f : Nat → Int64, f = vp_updL f645 ((nI zgw36) : Int32).toNatClampNeg 0 := ⟨_, rfl⟩
                              rw [← ef_656] at hM_648
                              refine lv_aload_n hx hb dX13_bear_266 rfl (lv_at hl 4 rfl) ?_
                              refine lv_dup hx hb dX13_bear_267 rfl ?_
                              refine va_get (D := D) (ci := 13) (v := .int (nI zgw36)) (C := RX13) (T := TX13) (N := 20) hx hb hg inG13 hown hK hP 0 rfl rfl 16 (by decide) (hg _ wd_769) (fun _ h9 => h9) rfl dX13_bear_268 ?_
                              refine lv_iconst (v := 1) hx hb dX13_bear_271 (by decide) ?_
                              refine lv_iadd hx hb dX13_bear_272 ?_
                              refine lv_topi (fun f_657 ef_657 => ?_)
                              obtain rfl : f_657 = (nI (zgw36 + 1)) := ef_657.trans (nI_add zgw36 1)
                              refine va_put (D := D) (ci := 13) (v := .int (nI (zgw36 + 1))) (ty := .int) (C := RX13) (T := TX13) (N := 20) hx hb hg inG13 tyX13 tyX13_ok nmX13 hown hK hP hD hS 0 rfl rfl 16 (by decide) (hg _ wd_769) (fun _ h9 => h9) rfl (by decide +kernel) rfl rfl (Nat.le_of_ble_eq_true rfl) dX13_bear_273 (fun H_658 locs hP hD hS => ?_)
                              have hP : va_P D vwCl ([(za, .inr (13, [.int 0, .ref z1, .int (nI z2), .int (nI z3), .int z4, .int z5, .ref z6, .ref z7, .ref z8, .ref z9, .int (nI z10), .ref z11, .ref z12, .ref z13, .ref z14, .ref z15, .int (nI (zgw36 + 1)), .ref z17, .int z18, .ref z19]))] ++ va_pl L M_647) H_658 := hP
                              have hD : va_D A ([(za, .inr (13, [.int 0, .ref z1, .int (nI z2), .int (nI z3), .int z4, .int z5, .ref z6, .ref z7, .ref z8, .ref z9, .int (nI z10), .ref z11, .ref z12, .ref z13, .ref z14, .ref z15, .int (nI (zgw36 + 1)), .ref z17, .int z18, .ref z19]))] ++ va_pl L M_647) := hD
                              refine lv_iinc (v := (nI (v5w36 + 1))) (lv' := [(5, .int (nI (v5w36 + 1))), (7, .int 1), (6, .int 1), (4, .ref b11), (0, .ref za), (1, .int k1), (2, .int k2), (3, .int k3)]) hx hb dX13_bear_276 hl (k := 2) rfl (nI_1 v5w36) (by decide) rfl (fun ls hl => ?_)
                              refine lv_goto (tgt := 82) hx hb dX13_bear_279 (by decide) ?_
                              exact ih_34 (v5w36 + 1) (zgw36 + 1) M_647 H_658 _ _ (by omega) hM_651 (by omega) (by omega) hW hF hV hP hD hS (lv_sub hl [0, 3, 4, 5, 6, 7] rfl)
                  · have hz := rfl (a := 0)
                    refine lv_if_eq (tgt := 143) hx hb dX13_bear_100 (by decide) (fun _ => ?_) (fun c_659 => absurd c_659 (by decide))
                    refine lv_iconst (v := 0) hx hb dX13_bear_143 (by decide) ?_
                    refine lv_istore (lv' := [(6, .int 0), (5, .int (nI v5w36)), (4, .ref b11), (0, .ref za), (1, .int k1), (2, .int k2), (3, .int k3)]) hx hb dX13_bear_144 hl (by decide) rfl (fun ls hl => ?_)
                    refine lv_aload hx hb dX13_bear_146 (lv_at hl 2 rfl) ?_
                    obtain ⟨v660, hv660, hc660⟩ : ∃ v : Nat, fs14[21]? = some (.ref v : Value) ∧ isk K L v 14 24 := hl14 21 (by decide)
                    refine pg_getN (D := D) (ci := 12) (v := .ref v660) (C := RX12) (T := TX12) (N := 51) hx hb hg inG12 hown hK hP hb_13.1 hM_41 rfl 21 (by decide) (hN.use (Cond.fieldLinkNest RX13 112 RX12 "begin" "[I" RX13) 30 rfl rfl) (fun _ h9 => h9) hv660 dX13_bear_148 ?_
                    refine lv_iload hx hb dX13_bear_151 (lv_at hl 1 rfl) ?_
                    obtain ⟨f661, hM661⟩ := hW.open_14 hc660
                    refine pg_iald hx hb hK hP hc660.1 0 hM661 rfl (inbN v5w36 24 (by omega) (by omega)) dX13_bear_153 ?_
                    refine lv_topi (fun f_662 ef_662 => ?_)
                    refine lv_iload_n hx hb dX13_bear_154 rfl (lv_at hl 5 rfl) ?_
                    refine lv_icmp_le (tgt := 185) hx hb dX13_bear_155 (by decide) (fun c_663 => ?_) (fun c_663 => ?_)
                    · have hz := rfl (a := 0)
                      refine lv_iconst (v := 0) hx hb dX13_bear_185 (by decide) ?_
                      refine lv_istore (lv' := [(7, .int 0), (6, .int 0), (5, .int (nI v5w36)), (4, .ref b11), (0, .ref za), (1, .int k1), (2, .int k2), (3, .int k3)]) hx hb dX13_bear_186 hl (by decide) rfl (fun ls hl => ?_)
                      refine lv_iload hx hb dX13_bear_188 (lv_at hl 1 rfl) ?_
                      refine lv_if_ne (tgt := 201) hx hb dX13_bear_190 (by decide) (fun c_664 => absurd c_664 (by decide)) (fun _ => ?_)
                      refine lv_iload hx hb dX13_bear_193 (lv_at hl 0 rfl) ?_
                      refine lv_if_ne (tgt := 201) hx hb dX13_bear_195 (by decide) (fun c_665 => absurd c_665 (by decide)) (fun _ => ?_)
                      refine lv_goto (tgt := 276) hx hb dX13_bear_198 (by decide) ?_
                      refine lv_iinc (v := (nI (v5w36 + 1))) (lv' := [(5, .int (nI (v5w36 + 1))), (7, .int 0), (6, .int 0), (4, .ref b11), (0, .ref za), (1, .int k1), (2, .int k2), (3, .int k3)]) hx hb dX13_bear_276 hl (k := 2) rfl (nI_1 v5w36) (by decide) rfl (fun ls hl => ?_)
                      refine lv_goto (tgt := 82) hx hb dX13_bear_279 (by decide) ?_
                      exact ih_34 (v5w36 + 1) zgw36 M_39 H_104 _ _ (by omega) hM_41 (by omega) (by omega) hW hF hV hP hD hS (lv_sub hl [0, 3, 4, 5, 6, 7] rfl)
                    · have hz := rfl (a := 0)
                      refine lv_aload hx hb dX13_bear_158 (lv_at hl 2 rfl) ?_
                      obtain ⟨v666, hv666, hc666⟩ : ∃ v : Nat, fs14[26]? = some (.ref v : Value) ∧ isk K L v 16 24 := hl14 26 (by decide)
                      refine pg_getN (D := D) (ci := 12) (v := .ref v666) (C := RX12) (T := TX12) (N := 51) hx hb hg inG12 hown hK hP hb_13.1 hM_41 rfl 26 (by decide) (hN.use (Cond.fieldLinkNest RX13 124 RX12 "word" "[Z" RX13) 35 rfl rfl) (fun _ h9 => h9) hv666 dX13_bear_160 ?_
                      refine lv_iload hx hb dX13_bear_163 (lv_at hl 1 rfl) ?_
                      obtain ⟨f667, hM667, hf667⟩ := hW.open_16 hc666
                      have hi_668 : vp_in (nI v5w36) 24 := (inbN v5w36 24 (by omega) (by omega))
                      refine pg_zald hx hb hK hP hc666.1 2 hM667 rfl hi_668 dX13_bear_165 ?_
                      rcases hf667 _ (vp_lt hi_668) with ec_669 | ec_669
                      · rw [ec_669]
                        refine lv_if_eq (tgt := 185) hx hb dX13_bear_166 (by decide) (fun _ => ?_) (fun c_670 => absurd c_670 (by decide))
                        refine lv_iconst (v := 0) hx hb dX13_bear_185 (by decide) ?_
                        refine lv_istore (lv' := [(7, .int 0), (6, .int 0), (5, .int (nI v5w36)), (4, .ref b11), (0, .ref za), (1, .int k1), (2, .int k2), (3, .int k3)]) hx hb dX13_bear_186 hl (by decide) rfl (fun ls hl => ?_)
                        refine lv_iload hx hb dX13_bear_188 (lv_at hl 1 rfl) ?_
                        refine lv_if_ne (tgt := 201) hx hb dX13_bear_190 (by decide) (fun c_671 => absurd c_671 (by decide)) (fun _ => ?_)
                        refine lv_iload hx hb dX13_bear_193 (lv_at hl 0 rfl) ?_
                        refine lv_if_ne (tgt := 201) hx hb dX13_bear_195 (by decide) (fun c_672 => absurd c_672 (by decide)) (fun _ => ?_)
                        refine lv_goto (tgt := 276) hx hb dX13_bear_198 (by decide) ?_
                        refine lv_iinc (v := (nI (v5w36 + 1))) (lv' := [(5, .int (nI (v5w36 + 1))), (7, .int 0), (6, .int 0), (4, .ref b11), (0, .ref za), (1, .int k1), (2, .int k2), (3, .int k3)]) hx hb dX13_bear_276 hl (k := 2) rfl (nI_1 v5w36) (by decide) rfl (fun ls hl => ?_)
                        refine lv_goto (tgt := 82) hx hb dX13_bear_279 (by decide) ?_
                        exact ih_34 (v5w36 + 1) zgw36 M_39 H_104 _ _ (by omega) hM_41 (by omega) (by omega) hW hF hV hP hD hS (lv_sub hl [0, 3, 4, 5, 6, 7] rfl)
                      · rw [ec_669]
                        refine lv_if_eq (tgt := 185) hx hb dX13_bear_166 (by decide) (fun c_673 => absurd c_673 (by decide)) (fun _ => ?_)
                        refine lv_aload hx hb dX13_bear_169 (lv_at hl 2 rfl) ?_
                        obtain ⟨v674, hv674, hc674⟩ : ∃ v : Nat, fs14[22]? = some (.ref v : Value) ∧ isk K L v 41 24 := hl14 22 (by decide)
                        refine pg_getN (D := D) (ci := 12) (v := .ref v674) (C := RX12) (T := TX12) (N := 51) hx hb hg inG12 hown hK hP hb_13.1 hM_41 rfl 22 (by decide) (hN.use (Cond.fieldLinkNest RX13 95 RX12 "ended" "[I" RX13) 31 rfl rfl) (fun _ h9 => h9) hv674 dX13_bear_171 ?_
                        refine lv_iload hx hb dX13_bear_174 (lv_at hl 1 rfl) ?_
                        obtain ⟨f675, hM675⟩ := hW.open_41 hc674
                        refine pg_iald hx hb hK hP hc674.1 0 hM675 rfl (inbN v5w36 24 (by omega) (by omega)) dX13_bear_176 ?_
                        refine lv_topi (fun f_676 ef_676 => ?_)
                        refine lv_iconst (v := (-1)) hx hb dX13_bear_177 (by decide) ?_
                        refine lv_icmp_ne (tgt := 185) hx hb dX13_bear_178 (by decide) (fun c_677 => ?_) (fun c_677 => ?_)
                        · have hz := rfl (a := 0)
                          refine lv_iconst (v := 0) hx hb dX13_bear_185 (by decide) ?_
                          refine lv_istore (lv' := [(7, .int 0), (6, .int 0), (5, .int (nI v5w36)), (4, .ref b11), (0, .ref za), (1, .int k1), (2, .int k2), (3, .int k3)]) hx hb dX13_bear_186 hl (by decide) rfl (fun ls hl => ?_)
                          refine lv_iload hx hb dX13_bear_188 (lv_at hl 1 rfl) ?_
                          refine lv_if_ne (tgt := 201) hx hb dX13_bear_190 (by decide) (fun c_678 => absurd c_678 (by decide)) (fun _ => ?_)
                          refine lv_iload hx hb dX13_bear_193 (lv_at hl 0 rfl) ?_
                          refine lv_if_ne (tgt := 201) hx hb dX13_bear_195 (by decide) (fun c_679 => absurd c_679 (by decide)) (fun _ => ?_)
                          refine lv_goto (tgt := 276) hx hb dX13_bear_198 (by decide) ?_
                          refine lv_iinc (v := (nI (v5w36 + 1))) (lv' := [(5, .int (nI (v5w36 + 1))), (7, .int 0), (6, .int 0), (4, .ref b11), (0, .ref za), (1, .int k1), (2, .int k2), (3, .int k3)]) hx hb dX13_bear_276 hl (k := 2) rfl (nI_1 v5w36) (by decide) rfl (fun ls hl => ?_)
                          refine lv_goto (tgt := 82) hx hb dX13_bear_279 (by decide) ?_
                          exact ih_34 (v5w36 + 1) zgw36 M_39 H_104 _ _ (by omega) hM_41 (by omega) (by omega) hW hF hV hP hD hS (lv_sub hl [0, 3, 4, 5, 6, 7] rfl)
                        · have hz := rfl (a := 0)
                          refine lv_iconst (v := 1) hx hb dX13_bear_181 (by decide) ?_
                          refine lv_goto (tgt := 186) hx hb dX13_bear_182 (by decide) ?_
                          refine lv_istore (lv' := [(7, .int 1), (6, .int 0), (5, .int (nI v5w36)), (4, .ref b11), (0, .ref za), (1, .int k1), (2, .int k2), (3, .int k3)]) hx hb dX13_bear_186 hl (by decide) rfl (fun ls hl => ?_)
                          refine lv_iload hx hb dX13_bear_188 (lv_at hl 1 rfl) ?_
                          refine lv_if_ne (tgt := 201) hx hb dX13_bear_190 (by decide) (fun c_680 => absurd c_680 (by decide)) (fun _ => ?_)
                          refine lv_iload hx hb dX13_bear_193 (lv_at hl 0 rfl) ?_
                          refine lv_if_ne (tgt := 201) hx hb dX13_bear_195 (by decide) (fun _ => ?_) (fun c_681 => absurd c_681 (by decide))
                          refine lv_aload_n hx hb dX13_bear_201 rfl (lv_at hl 4 rfl) ?_
                          refine va_get (D := D) (ci := 13) (v := .ref z11) (C := RX13) (T := TX13) (N := 20) hx hb hg inG13 hown hK hP 0 rfl rfl 11 (by decide) (hg _ wd_764) (fun _ h9 => h9) rfl dX13_bear_202 ?_
                          refine lv_aload_n hx hb dX13_bear_205 rfl (lv_at hl 4 rfl) ?_
                          refine va_get (D := D) (ci := 13) (v := .int (nI zgw36)) (C := RX13) (T := TX13) (N := 20) hx hb hg inG13 hown hK hP 0 rfl rfl 16 (by decide) (hg _ wd_769) (fun _ h9 => h9) rfl dX13_bear_206 ?_
                          refine lv_iload hx hb dX13_bear_209 (lv_at hl 2 rfl) ?_
                          obtain ⟨f682, hM682, hf682⟩ := hW.open_32 i11
                          refine pg_iast hx hb hK hP hD hS i11.1 0 hM682 rfl (inbN zgw36 24 (by omega) (by omega)) dX13_bear_211 (fun H_683 locs hP hD hS => ?_)
                          obtain ⟨M_684, eM_684⟩ : ∃ M1 : Hp, M1 = va_up M_39 z11 (.inl (cy 14, 24, .inl (upd f682 ((nI zgw36) : Int32).toNatClampNeg (nI v5w36)))) := ⟨_, rfl⟩
                          have hV : VW K L M M_684 b11 (fx M b11) (ax M b11) := by rw [eM_684]; exact hV.oth hW hb_13 i11 (by decide)
                          have hP : va_P D vwCl ([(za, .inr (13, [.int 0, .ref z1, .int (nI z2), .int (nI z3), .int z4, .int z5, .ref z6, .ref z7, .ref z8, .ref z9, .int (nI z10), .ref z11, .ref z12, .ref z13, .ref z14, .ref z15, .int (nI zgw36), .ref z17, .int z18, .ref z19]))] ++ va_pl L M_684) H_683 := by rw [eM_684]; exact hP
                          have hD : va_D A ([(za, .inr (13, [.int 0, .ref z1, .int (nI z2), .int (nI z3), .int z4, .int z5, .ref z6, .ref z7, .ref z8, .ref z9, .int (nI z10), .ref z11, .ref z12, .ref z13, .ref z14, .ref z15, .int (nI zgw36), .ref z17, .int z18, .ref z19]))] ++ va_pl L M_684) := by rw [eM_684]; exact hD
                          have hW : WOM cy K L M_684 := by rw [eM_684]; exact hW.up_32 i11 ⟨_, rfl, (updP (P := fun z => ∃ c : Nat, c < 24 ∧ z = nI c) hf682 ⟨v5w36, by omega, rfl⟩)⟩
                          have hF : fr K L [14, 15, 32] M M_684 := by rw [eM_684]; exact hF.up i11 (by decide)
                          have hM_685 : M_684 z11 = .inl (cy 14, 24, .inl (upd f682 ((nI zgw36) : Int32).toNatClampNeg (nI v5w36))) := by rw [eM_684]; exact va_up_self _ _ _
                          have hM_686 : M_684 b11 = .inr (12, fs14) := by rw [eM_684, va_up_ne _ _ (hb_13.neT i11 (by decide))]; exact hM_41
                          have hM_687 : M_684 v660 = .inl (cy 14, 24, .inl (f661)) := by rw [eM_684, va_up_ne _ _ (hc660.neT i11 (by decide))]; exact hM661
                          have hM_688 : M_684 v666 = .inl (cy 16, 24, .inl (f667)) := by rw [eM_684, va_up_ne _ _ (hc666.neT i11 (by decide))]; exact hM667
                          have hM_689 : M_684 v674 = .inl (cy 14, 24, .inl (f675)) := by rw [eM_684, va_up_ne _ _ (hc674.neT i11 (by decide))]; exact hM675
                          have hf_691 : ∀ j, j < 24 → ∃ c : Nat, c < 24 ∧ (upd f682 ((nI zgw36) : Int32).toNatClampNeg (nI v5w36)) j = nI c := (updP (P := fun z => ∃ c : Nat, c < 24 ∧ z = nI c) hf682 ⟨v5w36, by omega, rfl⟩)
                          obtain ⟨f_690, ef_690⟩ : ∃ f : Nat → Int32, f = upd f682 ((nI zgw36) : Int32).toNatClampNeg (nI v5w36) := ⟨_, rfl⟩
                          rw [← ef_690] at hM_685 hf_691
                          refine lv_aload_n hx hb dX13_bear_212 rfl (lv_at hl 4 rfl) ?_
                          refine va_get (D := D) (ci := 13) (v := .ref z12) (C := RX13) (T := TX13) (N := 20) hx hb hg inG13 hown hK hP 0 rfl rfl 12 (by decide) (hg _ wd_763) (fun _ h9 => h9) rfl dX13_bear_213 ?_
                          refine lv_aload_n hx hb dX13_bear_216 rfl (lv_at hl 4 rfl) ?_
                          refine va_get (D := D) (ci := 13) (v := .int (nI zgw36)) (C := RX13) (T := TX13) (N := 20) hx hb hg inG13 hown hK hP 0 rfl rfl 16 (by decide) (hg _ wd_769) (fun _ h9 => h9) rfl dX13_bear_217 ?_
                          refine lv_aload hx hb dX13_bear_220 (lv_at hl 3 rfl) ?_
                          refine lv_iload hx hb dX13_bear_222 (lv_at hl 1 rfl) ?_
                          refine lv_if_eq (tgt := 236) hx hb dX13_bear_224 (by decide) (fun _ => ?_) (fun c_692 => absurd c_692 (by decide))
                          refine lv_aload hx hb dX13_bear_236 (lv_at hl 3 rfl) ?_
                          refine pg_getN (D := D) (ci := 12) (v := .int (nI v15)) (C := RX12) (T := TX12) (N := 51) hx hb hg inG12 hown hK hP hb_13.1 hM_686 rfl 11 (by decide) (hN.use (Cond.fieldLinkNest RX13 142 RX12 "rules" "I" RX13) 20 rfl rfl) (fun _ h9 => h9) hv15 dX13_bear_238 ?_
                          refine lv_iconst (v := 1) hx hb dX13_bear_241 (by decide) ?_
                          refine lv_isub hx hb dX13_bear_242 ?_
                          refine lv_topi (fun f_693 ef_693 => ?_)
                          obtain rfl : f_693 = (nI (v15 - 1)) := ef_693.trans (nI_prd (by omega))
                          refine lv_iconst (v := 3) hx hb dX13_bear_243 (by decide) ?_
                          refine lv_aload hx hb dX13_bear_244 (lv_at hl 3 rfl) ?_
                          obtain ⟨v694, hv694, hc694⟩ : ∃ v : Nat, fs14[20]? = some (.ref v : Value) ∧ isk K L v 31 24 := hl14 20 (by decide)
                          refine pg_getN (D := D) (ci := 12) (v := .ref v694) (C := RX12) (T := TX12) (N := 51) hx hb hg inG12 hown hK hP hb_13.1 hM_686 rfl 20 (by decide) (hN.use (Cond.fieldLinkNest RX13 110 RX12 "where" "[I" RX13) 29 rfl rfl) (fun _ h9 => h9) hv694 dX13_bear_246 ?_
                          refine lv_iload hx hb dX13_bear_249 (lv_at hl 2 rfl) ?_
                          obtain ⟨f695, hM695, hf695⟩ := hW.open_31 hc694
                          have hi_696 : vp_in (nI v5w36) 24 := (inbN v5w36 24 (by omega) (by omega))
                          refine pg_iald hx hb hK hP hc694.1 0 hM695 rfl hi_696 dX13_bear_251 ?_
                          have hp_697 := hf695 _ (vp_lt hi_696)
                          obtain ⟨c_698, hc_699, ec_700⟩ := hp_697
                          rw [ec_700]
                          have hPc : va_P D vwCl ([] ++ va_pl L M_684) H_683 := hP.part (cx := []) [] rfl
                          have hDc : va_D A ([] ++ va_pl L M_684) := hD.part (cx := []) [] (by decide) rfl
                          have hFc : ∀ q, va_A ([] ++ va_pl L M_684) H_683.size q → A q := pg_free hDc hS hA
                          refine va_calli (va_runV (As := [.int (nI (v15 - 1)), .int 3, .int (nI c_698)]) (rest := [.int (nI zgw36), .ref z12]) ⟨hx, hb, hml, hown, hg⟩ (r_X12_term l D cy K L M_684 H_683.size b11 (v15 - 1) 3 c_698  hW hb_13 (by omega) (by omega) hc_699) (cwV 3 hg (gV wd_770 wd_771 wd_772 wd_737 wd_773) rfl rfl rfl (by decide +kernel) ⟨(Nat.le_trans (Nat.le_of_ble_eq_true rfl) hRf), (Nat.le_trans (Nat.le_of_ble_eq_true rfl) hRl)⟩) ⟨PG.blind, pg_recv hK hP hb_13.1 hM_686 rfl, fun U hU hW => ⟨rfl, PG.at hPc hK hDc hN hU hW⟩⟩ rfl rfl hl.1 rfl (lv_room (Nat.le_of_ble_eq_true rfl)) dX13_bear_252 ⟨(Nat.le_trans (Nat.le_of_ble_eq_true rfl) hRc), (Nat.le_trans (Nat.le_of_ble_eq_true rfl) hRs)⟩) hS (fun q _ h => hFc q h) hFc (fun r_702 M_703 t H_701 locs ht hvm hw hB hz1 hk1 hS => ?_)
                          have hp_704 := hw
                          obtain ⟨hP1, hD1⟩ := hB
                          rw [ht] at hP1
                          obtain ⟨hP, hD⟩ := va_joinP (X := [(za, .inr (13, [.int 0, .ref z1, .int (nI z2), .int (nI z3), .int z4, .int z5, .ref z6, .ref z7, .ref z8, .ref z9, .int (nI z10), .ref z11, .ref z12, .ref z13, .ref z14, .ref z15, .int (nI zgw36), .ref z17, .int z18, .ref z19]))]) (cx := []) (wr := [(za, .inr (13, [.int 0, .ref z1, .int (nI z2), .int (nI z3), .int z4, .int z5, .ref z6, .ref z7, .ref z8, .ref z9, .int (nI z10), .ref z11, .ref z12, .ref z13, .ref z14, .ref z15, .int (nI zgw36), .ref z17, .int z18, .ref z19]))]) (rx := []) (pl := va_pl L M_684) (pl1 := va_pl L M_684) hP hD [] [0] rfl rfl (by decide) (by decide) hk1 hFc hP1 hD1
                          have hP : va_P D vwCl ([(za, .inr (13, [.int 0, .ref z1, .int (nI z2), .int (nI z3), .int z4, .int z5, .ref z6, .ref z7, .ref z8, .ref z9, .int (nI z10), .ref z11, .ref z12, .ref z13, .ref z14, .ref z15, .int (nI zgw36), .ref z17, .int z18, .ref z19]))] ++ va_pl L M_684) H_701 := hP
                          have hD : va_D A ([(za, .inr (13, [.int 0, .ref z1, .int (nI z2), .int (nI z3), .int z4, .int z5, .ref z6, .ref z7, .ref z8, .ref z9, .int (nI z10), .ref z11, .ref z12, .ref z13, .ref z14, .ref z15, .int (nI zgw36), .ref z17, .int z18, .ref z19]))] ++ va_pl L M_684) := hD
                          obtain ⟨f705, hM705⟩ := hW.open_14 i12
                          refine pg_iast hx hb hK hP hD hS i12.1 0 hM705 rfl (inbN zgw36 24 (by omega) (by omega)) dX13_bear_255 (fun H_706 locs hP hD hS => ?_)
                          obtain ⟨M_707, eM_707⟩ : ∃ M1 : Hp, M1 = va_up M_684 z12 (.inl (cy 14, 24, .inl (upd f705 ((nI zgw36) : Int32).toNatClampNeg r_702))) := ⟨_, rfl⟩
                          have hV : VW K L M M_707 b11 (fx M b11) (ax M b11) := by rw [eM_707]; exact hV.oth hW hb_13 i12 (by decide)
                          have hP : va_P D vwCl ([(za, .inr (13, [.int 0, .ref z1, .int (nI z2), .int (nI z3), .int z4, .int z5, .ref z6, .ref z7, .ref z8, .ref z9, .int (nI z10), .ref z11, .ref z12, .ref z13, .ref z14, .ref z15, .int (nI zgw36), .ref z17, .int z18, .ref z19]))] ++ va_pl L M_707) H_706 := by rw [eM_707]; exact hP
                          have hD : va_D A ([(za, .inr (13, [.int 0, .ref z1, .int (nI z2), .int (nI z3), .int z4, .int z5, .ref z6, .ref z7, .ref z8, .ref z9, .int (nI z10), .ref z11, .ref z12, .ref z13, .ref z14, .ref z15, .int (nI zgw36), .ref z17, .int z18, .ref z19]))] ++ va_pl L M_707) := by rw [eM_707]; exact hD
                          have hW : WOM cy K L M_707 := by rw [eM_707]; exact hW.up_14 i12 ⟨_, rfl⟩
                          have hF : fr K L [14, 15, 32] M M_707 := by rw [eM_707]; exact hF.up i12 (by decide)
                          have hM_708 : M_707 z12 = .inl (cy 14, 24, .inl (upd f705 ((nI zgw36) : Int32).toNatClampNeg r_702)) := by rw [eM_707]; exact va_up_self _ _ _
                          have hM_709 : M_707 z11 = .inl (cy 14, 24, .inl (f_690)) := by rw [eM_707, va_up_ne _ _ (i11.neT i12 (by decide))]; exact hM_685
                          have hM_710 : M_707 b11 = .inr (12, fs14) := by rw [eM_707, va_up_ne _ _ (hb_13.neT i12 (by decide))]; exact hM_686
                          have hM_711 : M_707 v666 = .inl (cy 16, 24, .inl (f667)) := by rw [eM_707, va_up_ne _ _ (hc666.neT i12 (by decide))]; exact hM_688
                          have hM_712 : M_707 v674 = .inl (cy 14, 24, .inl (f675)) := by rw [eM_707, va_up_ne _ _ (hc674.neT i12 (by decide))]; exact hM_689
                          have hM_713 : M_707 v694 = .inl (cy 14, 24, .inl (f695)) := by rw [eM_707, va_up_ne _ _ (hc694.neT i12 (by decide))]; exact hM695
                          obtain ⟨f_714, ef_714⟩ : ∃ f : Nat → Int32, f = upd f705 ((nI zgw36) : Int32).toNatClampNeg r_702 := ⟨_, rfl⟩
                          rw [← ef_714] at hM_708
                          refine lv_aload_n hx hb dX13_bear_256 rfl (lv_at hl 4 rfl) ?_
                          refine va_get (D := D) (ci := 13) (v := .ref z13) (C := RX13) (T := TX13) (N := 20) hx hb hg inG13 hown hK hP 0 rfl rfl 13 (by decide) (hg _ wd_789) (fun _ h9 => h9) rfl dX13_bear_257 ?_
                          refine lv_aload_n hx hb dX13_bear_260 rfl (lv_at hl 4 rfl) ?_
                          refine va_get (D := D) (ci := 13) (v := .int (nI zgw36)) (C := RX13) (T := TX13) (N := 20) hx hb hg inG13 hown hK hP 0 rfl rfl 16 (by decide) (hg _ wd_769) (fun _ h9 => h9) rfl dX13_bear_261 ?_
                          refine lv_lconst (v := 0) hx hb dX13_bear_264 (by decide) ?_
                          obtain ⟨f715, hM715⟩ := hW.open_15 i13
                          refine pg_last hx hb hK hP hD hS i13.1 1 hM715 rfl (inbN zgw36 24 (by omega) (by omega)) dX13_bear_265 (fun H_716 locs hP hD hS => ?_)
                          obtain ⟨M_717, eM_717⟩ : ∃ M1 : Hp, M1 = va_up M_707 z13 (.inl (cy 15, 24, .inr (.inl (vp_updL f715 ((nI zgw36) : Int32).toNatClampNeg 0)))) := ⟨_, rfl⟩
                          have hV : VW K L M M_717 b11 (fx M b11) (ax M b11) := by rw [eM_717]; exact hV.oth hW hb_13 i13 (by decide)
                          have hP : va_P D vwCl ([(za, .inr (13, [.int 0, .ref z1, .int (nI z2), .int (nI z3), .int z4, .int z5, .ref z6, .ref z7, .ref z8, .ref z9, .int (nI z10), .ref z11, .ref z12, .ref z13, .ref z14, .ref z15, .int (nI zgw36), .ref z17, .int z18, .ref z19]))] ++ va_pl L M_717) H_716 := by rw [eM_717]; exact hP
                          have hD : va_D A ([(za, .inr (13, [.int 0, .ref z1, .int (nI z2), .int (nI z3), .int z4, .int z5, .ref z6, .ref z7, .ref z8, .ref z9, .int (nI z10), .ref z11, .ref z12, .ref z13, .ref z14, .ref z15, .int (nI zgw36), .ref z17, .int z18, .ref z19]))] ++ va_pl L M_717) := by rw [eM_717]; exact hD
                          have hW : WOM cy K L M_717 := by rw [eM_717]; exact hW.up_15 i13 ⟨_, rfl⟩
                          have hF : fr K L [14, 15, 32] M M_717 := by rw [eM_717]; exact hF.up i13 (by decide)
                          have hM_718 : M_717 z13 = .inl (cy 15, 24, .inr (.inl (vp_updL f715 ((nI zgw36) : Int32).toNatClampNeg 0))) := by rw [eM_717]; exact va_up_self _ _ _
                          have hM_719 : M_717 z12 = .inl (cy 14, 24, .inl (f_714)) := by rw [eM_717, va_up_ne _ _ (i12.neT i13 (by decide))]; exact hM_708
                          have hM_720 : M_717 z11 = .inl (cy 14, 24, .inl (f_690)) := by rw [eM_717, va_up_ne _ _ (i11.neT i13 (by decide))]; exact hM_709
                          have hM_721 : M_717 b11 = .inr (12, fs14) := by rw [eM_717, va_up_ne _ _ (hb_13.neT i13 (by decide))]; exact hM_710
                          have hM_722 : M_717 v666 = .inl (cy 16, 24, .inl (f667)) := by rw [eM_717, va_up_ne _ _ (hc666.neT i13 (by decide))]; exact hM_711
                          have hM_723 : M_717 v674 = .inl (cy 14, 24, .inl (f675)) := by rw [eM_717, va_up_ne _ _ (hc674.neT i13 (by decide))]; exact hM_712
                          have hM_724 : M_717 v694 = .inl (cy 14, 24, .inl (f695)) := by rw [eM_717, va_up_ne _ _ (hc694.neT i13 (by decide))]; exact hM_713
                          obtain ⟨f_725, ef_725⟩ : ∃ f : Nat → Int64, f = vp_updL f715 ((nI zgw36) : Int32).toNatClampNeg 0 := ⟨_, rfl⟩
                          rw [← ef_725] at hM_718
                          refine lv_aload_n hx hb dX13_bear_266 rfl (lv_at hl 4 rfl) ?_
                          refine lv_dup hx hb dX13_bear_267 rfl ?_
                          refine va_get (D := D) (ci := 13) (v := .int (nI zgw36)) (C := RX13) (T := TX13) (N := 20) hx hb hg inG13 hown hK hP 0 rfl rfl 16 (by decide) (hg _ wd_769) (fun _ h9 => h9) rfl dX13_bear_268 ?_
                          refine lv_iconst (v := 1) hx hb dX13_bear_271 (by decide) ?_
                          refine lv_iadd hx hb dX13_bear_272 ?_
                          refine lv_topi (fun f_726 ef_726 => ?_)
                          obtain rfl : f_726 = (nI (zgw36 + 1)) := ef_726.trans (nI_add zgw36 1)
                          refine va_put (D := D) (ci := 13) (v := .int (nI (zgw36 + 1))) (ty := .int) (C := RX13) (T := TX13) (N := 20) hx hb hg inG13 tyX13 tyX13_ok nmX13 hown hK hP hD hS 0 rfl rfl 16 (by decide) (hg _ wd_769) (fun _ h9 => h9) rfl (by decide +kernel) rfl rfl (Nat.le_of_ble_eq_true rfl) dX13_bear_273 (fun H_727 locs hP hD hS => ?_)
                          have hP : va_P D vwCl ([(za, .inr (13, [.int 0, .ref z1, .int (nI z2), .int (nI z3), .int z4, .int z5, .ref z6, .ref z7, .ref z8, .ref z9, .int (nI z10), .ref z11, .ref z12, .ref z13, .ref z14, .ref z15, .int (nI (zgw36 + 1)), .ref z17, .int z18, .ref z19]))] ++ va_pl L M_717) H_727 := hP
                          have hD : va_D A ([(za, .inr (13, [.int 0, .ref z1, .int (nI z2), .int (nI z3), .int z4, .int z5, .ref z6, .ref z7, .ref z8, .ref z9, .int (nI z10), .ref z11, .ref z12, .ref z13, .ref z14, .ref z15, .int (nI (zgw36 + 1)), .ref z17, .int z18, .ref z19]))] ++ va_pl L M_717) := hD
                          refine lv_iinc (v := (nI (v5w36 + 1))) (lv' := [(5, .int (nI (v5w36 + 1))), (7, .int 1), (6, .int 0), (4, .ref b11), (0, .ref za), (1, .int k1), (2, .int k2), (3, .int k3)]) hx hb dX13_bear_276 hl (k := 2) rfl (nI_1 v5w36) (by decide) rfl (fun ls hl => ?_)
                          refine lv_goto (tgt := 82) hx hb dX13_bear_279 (by decide) ?_
                          exact ih_34 (v5w36 + 1) (zgw36 + 1) M_717 H_727 _ _ (by omega) hM_721 (by omega) (by omega) hW hF hV hP hD hS (lv_sub hl [0, 3, 4, 5, 6, 7] rfl)
            exact key_33 (24 - 0 + 1) 0 0 M H_32 _ _ (by omega) hM14 (by omega) (by omega) hW hF hV hP hD hS (lv_sub hl [0, 1, 2, 3, 4, 5] rfl)
          · have hz := rfl (a := 0)
            refine lv_aload_n hx hb dX13_bear_68 rfl (lv_at hl 1 rfl) ?_
            refine lv_iconst (v := 3) hx hb dX13_bear_69 (by decide) ?_
            have hPc := hP.sub (ws' := [(za, .inr (13, [.int 0, .ref z1, .int (nI z2), .int (nI z3), .int z4, .int z5, .ref z6, .ref z7, .ref z8, .ref z9, .int (nI z10), .ref z11, .ref z12, .ref z13, .ref z14, .ref z15, .int (nI z16), .ref z17, .int z18, .ref z19]))]) [0] rfl
            have hDc := hD.sub (ws' := [(za, .inr (13, [.int 0, .ref z1, .int (nI z2), .int (nI z3), .int z4, .int z5, .ref z6, .ref z7, .ref z8, .ref z9, .int (nI z10), .ref z11, .ref z12, .ref z13, .ref z14, .ref z15, .int (nI z16), .ref z17, .int z18, .ref z19]))]) [0] (by decide) rfl
            have hKc := hK.sub (tys' := []) [] rfl
            have hFc := va_free (wc := [(za, .inr (13, [.int 0, .ref z1, .int (nI z2), .int (nI z3), .int z4, .int z5, .ref z6, .ref z7, .ref z8, .ref z9, .int (nI z10), .ref z11, .ref z12, .ref z13, .ref z14, .ref z15, .int (nI z16), .ref z17, .int z18, .ref z19]))]) hD hS hA [0] rfl
            refine va_calli (va_runV (As := [.int 3]) (rest := []) ⟨hx, hb, hml, hown, hg⟩ (m_refused l D H_18.size za 0 z1 (nI z2) (nI z3) z4 z5 z6 z7 z8 z9 (nI z10) z11 z12 z13 z14 z15 (nI z16) z17 z18 z19 3) (cwV 1 hg (gV wd_725 wd_726 wd_727 wd_717 wd_728) rfl rfl rfl (by decide +kernel) ⟨(Nat.le_trans (Nat.le_of_ble_eq_true rfl) hRf), (Nat.le_trans (Nat.le_of_ble_eq_true rfl) hRl)⟩) ⟨Pr.blind, va_recv hK hP (ci := 13) (q0 := 0) rfl rfl, fun U hU hW => ⟨rfl, Pr.at hPc hKc hDc hN hU hW⟩⟩ rfl rfl hl.1 rfl (lv_room (Nat.le_of_ble_eq_true rfl)) dX13_bear_70 ⟨(Nat.le_trans (Nat.le_of_ble_eq_true rfl) hRc), (Nat.le_trans (Nat.le_of_ble_eq_true rfl) hRs)⟩) hS (fun q _ h => hFc q h) hFc (fun r_729 M_730 t H_728 locs ht hvm hw hB hz1 hk1 hS => ?_)
            have hp_731 := hw
            obtain ⟨hP1, hK1, hD1⟩ := hB
            rw [ht] at hP1
            obtain ⟨hP, hD⟩ := va_joinQ (X := [(za, .inr (13, [.int 0, .ref z1, .int (nI z2), .int (nI z3), .int z4, .int z5, .ref z6, .ref z7, .ref z8, .ref z9, .int (nI z10), .ref z11, .ref z12, .ref z13, .ref z14, .ref z15, .int (nI z16), .ref z17, .int z18, .ref z19]))]) (cx := [(za, .inr (13, [.int 0, .ref z1, .int (nI z2), .int (nI z3), .int z4, .int z5, .ref z6, .ref z7, .ref z8, .ref z9, .int (nI z10), .ref z11, .ref z12, .ref z13, .ref z14, .ref z15, .int (nI z16), .ref z17, .int z18, .ref z19]))]) (wr := []) (w1 := [(za, .inr (13, [.int 0, .ref z1, .int (nI z2), .int (nI z3), .int 3, .int (-1), .ref z6, .ref z7, .ref z8, .ref z9, .int (nI z10), .ref z11, .ref z12, .ref z13, .ref z14, .ref z15, .int (nI z16), .ref z17, .int z18, .ref z19]))]) (pl := va_pl L M) hP hD [0] [] rfl rfl (by decide) (by decide) hk1 hFc hP1 hD1
            have hP : va_P D vwCl ([(za, .inr (13, [.int 0, .ref z1, .int (nI z2), .int (nI z3), .int 3, .int (-1), .ref z6, .ref z7, .ref z8, .ref z9, .int (nI z10), .ref z11, .ref z12, .ref z13, .ref z14, .ref z15, .int (nI z16), .ref z17, .int z18, .ref z19]))] ++ va_pl L M) H_728 := hP
            have hD : va_D A ([(za, .inr (13, [.int 0, .ref z1, .int (nI z2), .int (nI z3), .int 3, .int (-1), .ref z6, .ref z7, .ref z8, .ref z9, .int (nI z10), .ref z11, .ref z12, .ref z13, .ref z14, .ref z15, .int (nI z16), .ref z17, .int z18, .ref z19]))] ++ va_pl L M) := hD
            have hq := Eq.symm hp_731
            subst hq
            rw [hQ]
            exact W.iret (v := (-1)) hx hb hr (fun t ht hW9 => ⟨⟨(-1), M, rfl, ⟨hW, hF, hGI, trivial⟩, ⟨3, (-1), z16, z18, (by omega), by rw [ht]; exact hP, hD⟩⟩, hS.F ht⟩) hS.2.2 dX13_bear_73
      · have hz := rfl (a := 0)
        refine lv_if_ne (tgt := 44) hx hb dX13_bear_35 (by decide) (fun c_732 => absurd c_732 (by decide)) (fun _ => ?_)
        refine lv_aload_n hx hb dX13_bear_38 rfl (lv_at hl 0 rfl) ?_
        refine lv_iconst (v := 2) hx hb dX13_bear_39 (by decide) ?_
        have hPc := hP.sub (ws' := [(za, .inr (13, [.int 0, .ref z1, .int (nI z2), .int (nI z3), .int z4, .int z5, .ref z6, .ref z7, .ref z8, .ref z9, .int (nI z10), .ref z11, .ref z12, .ref z13, .ref z14, .ref z15, .int (nI z16), .ref z17, .int z18, .ref z19]))]) [0] rfl
        have hDc := hD.sub (ws' := [(za, .inr (13, [.int 0, .ref z1, .int (nI z2), .int (nI z3), .int z4, .int z5, .ref z6, .ref z7, .ref z8, .ref z9, .int (nI z10), .ref z11, .ref z12, .ref z13, .ref z14, .ref z15, .int (nI z16), .ref z17, .int z18, .ref z19]))]) [0] (by decide) rfl
        have hKc := hK.sub (tys' := []) [] rfl
        have hFc := va_free (wc := [(za, .inr (13, [.int 0, .ref z1, .int (nI z2), .int (nI z3), .int z4, .int z5, .ref z6, .ref z7, .ref z8, .ref z9, .int (nI z10), .ref z11, .ref z12, .ref z13, .ref z14, .ref z15, .int (nI z16), .ref z17, .int z18, .ref z19]))]) hD hS hA [0] rfl
        refine va_calli (va_runV (As := [.int 2]) (rest := []) ⟨hx, hb, hml, hown, hg⟩ (m_refused l D H_18.size za 0 z1 (nI z2) (nI z3) z4 z5 z6 z7 z8 z9 (nI z10) z11 z12 z13 z14 z15 (nI z16) z17 z18 z19 2) (cwV 1 hg (gV wd_725 wd_726 wd_727 wd_717 wd_728) rfl rfl rfl (by decide +kernel) ⟨(Nat.le_trans (Nat.le_of_ble_eq_true rfl) hRf), (Nat.le_trans (Nat.le_of_ble_eq_true rfl) hRl)⟩) ⟨Pr.blind, va_recv hK hP (ci := 13) (q0 := 0) rfl rfl, fun U hU hW => ⟨rfl, Pr.at hPc hKc hDc hN hU hW⟩⟩ rfl rfl hl.1 rfl (lv_room (Nat.le_of_ble_eq_true rfl)) dX13_bear_40 ⟨(Nat.le_trans (Nat.le_of_ble_eq_true rfl) hRc), (Nat.le_trans (Nat.le_of_ble_eq_true rfl) hRs)⟩) hS (fun q _ h => hFc q h) hFc (fun r_734 M_735 t H_733 locs ht hvm hw hB hz1 hk1 hS => ?_)
        have hp_736 := hw
        obtain ⟨hP1, hK1, hD1⟩ := hB
        rw [ht] at hP1
        obtain ⟨hP, hD⟩ := va_joinQ (X := [(za, .inr (13, [.int 0, .ref z1, .int (nI z2), .int (nI z3), .int z4, .int z5, .ref z6, .ref z7, .ref z8, .ref z9, .int (nI z10), .ref z11, .ref z12, .ref z13, .ref z14, .ref z15, .int (nI z16), .ref z17, .int z18, .ref z19]))]) (cx := [(za, .inr (13, [.int 0, .ref z1, .int (nI z2), .int (nI z3), .int z4, .int z5, .ref z6, .ref z7, .ref z8, .ref z9, .int (nI z10), .ref z11, .ref z12, .ref z13, .ref z14, .ref z15, .int (nI z16), .ref z17, .int z18, .ref z19]))]) (wr := []) (w1 := [(za, .inr (13, [.int 0, .ref z1, .int (nI z2), .int (nI z3), .int 2, .int (-1), .ref z6, .ref z7, .ref z8, .ref z9, .int (nI z10), .ref z11, .ref z12, .ref z13, .ref z14, .ref z15, .int (nI z16), .ref z17, .int z18, .ref z19]))]) (pl := va_pl L M) hP hD [0] [] rfl rfl (by decide) (by decide) hk1 hFc hP1 hD1
        have hP : va_P D vwCl ([(za, .inr (13, [.int 0, .ref z1, .int (nI z2), .int (nI z3), .int 2, .int (-1), .ref z6, .ref z7, .ref z8, .ref z9, .int (nI z10), .ref z11, .ref z12, .ref z13, .ref z14, .ref z15, .int (nI z16), .ref z17, .int z18, .ref z19]))] ++ va_pl L M) H_733 := hP
        have hD : va_D A ([(za, .inr (13, [.int 0, .ref z1, .int (nI z2), .int (nI z3), .int 2, .int (-1), .ref z6, .ref z7, .ref z8, .ref z9, .int (nI z10), .ref z11, .ref z12, .ref z13, .ref z14, .ref z15, .int (nI z16), .ref z17, .int z18, .ref z19]))] ++ va_pl L M) := hD
        have hq := Eq.symm hp_736
        subst hq
        rw [hQ]
        exact W.iret (v := (-1)) hx hb hr (fun t ht hW9 => ⟨⟨(-1), M, rfl, ⟨hW, hF, hGI, trivial⟩, ⟨2, (-1), z16, z18, (by omega), by rw [ht]; exact hP, hD⟩⟩, hS.F ht⟩) hS.2.2 dX13_bear_43
    · have hz := rfl (a := 0)
      have n_737 : v15 = 0 := (iEQ (a := v15) (b := 0) (by omega) (by omega)).mp c_16
      refine lv_aload_n hx hb dX13_bear_25 rfl (lv_at hl 0 rfl) ?_
      refine lv_iconst (v := 1) hx hb dX13_bear_26 (by decide) ?_
      have hPc := hP.sub (ws' := [(za, .inr (13, [.int 0, .ref z1, .int (nI z2), .int (nI z3), .int z4, .int z5, .ref z6, .ref z7, .ref z8, .ref z9, .int (nI z10), .ref z11, .ref z12, .ref z13, .ref z14, .ref z15, .int (nI z16), .ref z17, .int z18, .ref z19]))]) [0] rfl
      have hDc := hD.sub (ws' := [(za, .inr (13, [.int 0, .ref z1, .int (nI z2), .int (nI z3), .int z4, .int z5, .ref z6, .ref z7, .ref z8, .ref z9, .int (nI z10), .ref z11, .ref z12, .ref z13, .ref z14, .ref z15, .int (nI z16), .ref z17, .int z18, .ref z19]))]) [0] (by decide) rfl
      have hKc := hK.sub (tys' := []) [] rfl
      have hFc := va_free (wc := [(za, .inr (13, [.int 0, .ref z1, .int (nI z2), .int (nI z3), .int z4, .int z5, .ref z6, .ref z7, .ref z8, .ref z9, .int (nI z10), .ref z11, .ref z12, .ref z13, .ref z14, .ref z15, .int (nI z16), .ref z17, .int z18, .ref z19]))]) hD hS hA [0] rfl
      refine va_calli (va_runV (As := [.int 1]) (rest := []) ⟨hx, hb, hml, hown, hg⟩ (m_refused l D H_2.size za 0 z1 (nI z2) (nI z3) z4 z5 z6 z7 z8 z9 (nI z10) z11 z12 z13 z14 z15 (nI z16) z17 z18 z19 1) (cwV 1 hg (gV wd_725 wd_726 wd_727 wd_717 wd_728) rfl rfl rfl (by decide +kernel) ⟨(Nat.le_trans (Nat.le_of_ble_eq_true rfl) hRf), (Nat.le_trans (Nat.le_of_ble_eq_true rfl) hRl)⟩) ⟨Pr.blind, va_recv hK hP (ci := 13) (q0 := 0) rfl rfl, fun U hU hW => ⟨rfl, Pr.at hPc hKc hDc hN hU hW⟩⟩ rfl rfl hl.1 rfl (lv_room (Nat.le_of_ble_eq_true rfl)) dX13_bear_27 ⟨(Nat.le_trans (Nat.le_of_ble_eq_true rfl) hRc), (Nat.le_trans (Nat.le_of_ble_eq_true rfl) hRs)⟩) hS (fun q _ h => hFc q h) hFc (fun r_739 M_740 t H_738 locs ht hvm hw hB hz1 hk1 hS => ?_)
      have hp_741 := hw
      obtain ⟨hP1, hK1, hD1⟩ := hB
      rw [ht] at hP1
      obtain ⟨hP, hD⟩ := va_joinQ (X := [(za, .inr (13, [.int 0, .ref z1, .int (nI z2), .int (nI z3), .int z4, .int z5, .ref z6, .ref z7, .ref z8, .ref z9, .int (nI z10), .ref z11, .ref z12, .ref z13, .ref z14, .ref z15, .int (nI z16), .ref z17, .int z18, .ref z19]))]) (cx := [(za, .inr (13, [.int 0, .ref z1, .int (nI z2), .int (nI z3), .int z4, .int z5, .ref z6, .ref z7, .ref z8, .ref z9, .int (nI z10), .ref z11, .ref z12, .ref z13, .ref z14, .ref z15, .int (nI z16), .ref z17, .int z18, .ref z19]))]) (wr := []) (w1 := [(za, .inr (13, [.int 0, .ref z1, .int (nI z2), .int (nI z3), .int 1, .int (-1), .ref z6, .ref z7, .ref z8, .ref z9, .int (nI z10), .ref z11, .ref z12, .ref z13, .ref z14, .ref z15, .int (nI z16), .ref z17, .int z18, .ref z19]))]) (pl := va_pl L M) hP hD [0] [] rfl rfl (by decide) (by decide) hk1 hFc hP1 hD1
      have hP : va_P D vwCl ([(za, .inr (13, [.int 0, .ref z1, .int (nI z2), .int (nI z3), .int 1, .int (-1), .ref z6, .ref z7, .ref z8, .ref z9, .int (nI z10), .ref z11, .ref z12, .ref z13, .ref z14, .ref z15, .int (nI z16), .ref z17, .int z18, .ref z19]))] ++ va_pl L M) H_738 := hP
      have hD : va_D A ([(za, .inr (13, [.int 0, .ref z1, .int (nI z2), .int (nI z3), .int 1, .int (-1), .ref z6, .ref z7, .ref z8, .ref z9, .int (nI z10), .ref z11, .ref z12, .ref z13, .ref z14, .ref z15, .int (nI z16), .ref z17, .int z18, .ref z19]))] ++ va_pl L M) := hD
      have hq := Eq.symm hp_741
      subst hq
      rw [hQ]
      exact W.iret (v := (-1)) hx hb hr (fun t ht hW9 => ⟨⟨(-1), M, rfl, ⟨hW, hF, hGI, trivial⟩, ⟨1, (-1), z16, z18, (by omega), by rw [ht]; exact hP, hD⟩⟩, hS.F ht⟩) hS.2.2 dX13_bear_30
  · have hz := rfl (a := 0)
    refine lv_if_eq (tgt := 25) hx hb dX13_bear_10 (by decide) (fun _ => ?_) (fun c_742 => absurd c_742 (by decide))
    refine lv_aload_n hx hb dX13_bear_25 rfl (lv_at hl 0 rfl) ?_
    refine lv_iconst (v := 1) hx hb dX13_bear_26 (by decide) ?_
    have hPc := hP.sub (ws' := [(za, .inr (13, [.int 0, .ref z1, .int (nI z2), .int (nI z3), .int z4, .int z5, .ref z6, .ref z7, .ref z8, .ref z9, .int (nI z10), .ref z11, .ref z12, .ref z13, .ref z14, .ref z15, .int (nI z16), .ref z17, .int z18, .ref z19]))]) [0] rfl
    have hDc := hD.sub (ws' := [(za, .inr (13, [.int 0, .ref z1, .int (nI z2), .int (nI z3), .int z4, .int z5, .ref z6, .ref z7, .ref z8, .ref z9, .int (nI z10), .ref z11, .ref z12, .ref z13, .ref z14, .ref z15, .int (nI z16), .ref z17, .int z18, .ref z19]))]) [0] (by decide) rfl
    have hKc := hK.sub (tys' := []) [] rfl
    have hFc := va_free (wc := [(za, .inr (13, [.int 0, .ref z1, .int (nI z2), .int (nI z3), .int z4, .int z5, .ref z6, .ref z7, .ref z8, .ref z9, .int (nI z10), .ref z11, .ref z12, .ref z13, .ref z14, .ref z15, .int (nI z16), .ref z17, .int z18, .ref z19]))]) hD hS hA [0] rfl
    refine va_calli (va_runV (As := [.int 1]) (rest := []) ⟨hx, hb, hml, hown, hg⟩ (m_refused l D H_2.size za 0 z1 (nI z2) (nI z3) z4 z5 z6 z7 z8 z9 (nI z10) z11 z12 z13 z14 z15 (nI z16) z17 z18 z19 1) (cwV 1 hg (gV wd_725 wd_726 wd_727 wd_717 wd_728) rfl rfl rfl (by decide +kernel) ⟨(Nat.le_trans (Nat.le_of_ble_eq_true rfl) hRf), (Nat.le_trans (Nat.le_of_ble_eq_true rfl) hRl)⟩) ⟨Pr.blind, va_recv hK hP (ci := 13) (q0 := 0) rfl rfl, fun U hU hW => ⟨rfl, Pr.at hPc hKc hDc hN hU hW⟩⟩ rfl rfl hl.1 rfl (lv_room (Nat.le_of_ble_eq_true rfl)) dX13_bear_27 ⟨(Nat.le_trans (Nat.le_of_ble_eq_true rfl) hRc), (Nat.le_trans (Nat.le_of_ble_eq_true rfl) hRs)⟩) hS (fun q _ h => hFc q h) hFc (fun r_744 M_745 t H_743 locs ht hvm hw hB hz1 hk1 hS => ?_)
    have hp_746 := hw
    obtain ⟨hP1, hK1, hD1⟩ := hB
    rw [ht] at hP1
    obtain ⟨hP, hD⟩ := va_joinQ (X := [(za, .inr (13, [.int 0, .ref z1, .int (nI z2), .int (nI z3), .int z4, .int z5, .ref z6, .ref z7, .ref z8, .ref z9, .int (nI z10), .ref z11, .ref z12, .ref z13, .ref z14, .ref z15, .int (nI z16), .ref z17, .int z18, .ref z19]))]) (cx := [(za, .inr (13, [.int 0, .ref z1, .int (nI z2), .int (nI z3), .int z4, .int z5, .ref z6, .ref z7, .ref z8, .ref z9, .int (nI z10), .ref z11, .ref z12, .ref z13, .ref z14, .ref z15, .int (nI z16), .ref z17, .int z18, .ref z19]))]) (wr := []) (w1 := [(za, .inr (13, [.int 0, .ref z1, .int (nI z2), .int (nI z3), .int 1, .int (-1), .ref z6, .ref z7, .ref z8, .ref z9, .int (nI z10), .ref z11, .ref z12, .ref z13, .ref z14, .ref z15, .int (nI z16), .ref z17, .int z18, .ref z19]))]) (pl := va_pl L M) hP hD [0] [] rfl rfl (by decide) (by decide) hk1 hFc hP1 hD1
    have hP : va_P D vwCl ([(za, .inr (13, [.int 0, .ref z1, .int (nI z2), .int (nI z3), .int 1, .int (-1), .ref z6, .ref z7, .ref z8, .ref z9, .int (nI z10), .ref z11, .ref z12, .ref z13, .ref z14, .ref z15, .int (nI z16), .ref z17, .int z18, .ref z19]))] ++ va_pl L M) H_743 := hP
    have hD : va_D A ([(za, .inr (13, [.int 0, .ref z1, .int (nI z2), .int (nI z3), .int 1, .int (-1), .ref z6, .ref z7, .ref z8, .ref z9, .int (nI z10), .ref z11, .ref z12, .ref z13, .ref z14, .ref z15, .int (nI z16), .ref z17, .int z18, .ref z19]))] ++ va_pl L M) := hD
    have hq := Eq.symm hp_746
    subst hq
    rw [hQ]
    exact W.iret (v := (-1)) hx hb hr (fun t ht hW9 => ⟨⟨(-1), M, rfl, ⟨hW, hF, hGI, trivial⟩, ⟨1, (-1), z16, z18, (by omega), by rw [ht]; exact hP, hD⟩⟩, hS.F ht⟩) hS.2.2 dX13_bear_30
