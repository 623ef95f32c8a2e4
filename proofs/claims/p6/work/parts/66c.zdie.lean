set_option maxHeartbeats 4000000 in
set_option maxRecDepth 100000 in
theorem z_die (l : Launch) (D : va_G) (cy : Nat → ClassId) (K : Kp) (L : List Nat) (M : Hp) (sz : Nat) (za : Nat) (z0 : Int32) (z1 : Nat) (z2 : Nat) (z3 : Nat) (z4 : Int32) (z5 : Int32) (z6 : Nat) (z7 : Nat) (z8 : Nat) (z9 : Nat) (z10 : Nat) (z11 : Nat) (z12 : Nat) (z13 : Nat) (z14 : Nat) (z15 : Nat) (z16 : Nat) (z17 : Nat) (z18 : Int32) (z19 : Nat) (k1 : Int32) (k2 : Int32) (k3 : Int32) (k4 : Int32) (SX : Nat → Nat → Int) (SY : Nat → Nat → Nat → Int32) (PK : Nat → Int32) (PT : Nat → Int32) (hW : WOM cy K L M) (i1 : isk K L z1 23 8) (b2 : z2 ≤ 8) (b3 : z3 ≤ 40) (i6 : isk K L z6 47 40) (i7 : isk K L z7 48 40) (i8 : isk K L z8 49 8) (i9 : isk K L z9 50 8) (b10 : z10 ≤ 8) (i11 : isk K L z11 32 24) (i12 : isk K L z12 14 24) (i13 : isk K L z13 97 24) (i14 : isk K L z14 98 24) (i15 : isk K L z15 99 24) (b16 : z16 ≤ 24) (i17 : isk K L z17 14 24) (i19 : isk K L z19 15 25) (hGI : GI K L z1 z2 M) (hZS : ZSx z1 z2 SX SY M) (hR5 : R5 z6 z7 M) (hZP : ZP z6 z7 PK PT M) : Met l yX13_die (wsM yX13_die cX13_die 7 (some .int)) ({ frames := 2, cells := 0, slots := 0, locals := 43 }) (va_Pc [.ref za, .int k1, .int k2, .int k3, .int k4] (PG D cy [(za, (b13_0 z0 z1 (nI z2) (nI z3) z4 z5 z6 z7 z8 z9 (nI z10) z11 z12 z13 z14 z15 (nI z16) z17 z18 z19))] L M sz)) (va_Qi (fun (r : Int32) (M9 : Hp) => WOM cy K L M9 ∧ fr K L [12, 14, 16, 30, 31, 33, 34, 41, 42, 75, 76] M M9 ∧ fG K L [10] M M9 ∧ (GI K L z1 z2 M9 ∧ ZSx z1 z2 (sxDi z2 z3 PK SX SY k1 k2 k3 k4) (syDi z2 z3 PK SX SY k1 k2 k3 k4) M9) ∧ ((r = anDi z2 z3 PK SX SY k1 k2 k3 k4))) (fun M9 t => ∃ (w4 : Int32), PQ D [(za, (b13_0 0 z1 (nI z2) (nI z3) w4 (-1) z6 z7 z8 z9 (nI z10) z11 z12 z13 z14 z15 (nI z16) z17 z18 z19))] L M9 (va_A ([(za, (b13_0 z0 z1 (nI z2) (nI z3) z4 z5 z6 z7 z8 z9 (nI z10) z11 z12 z13 z14 z15 (nI z16) z17 z18 z19))] ++ va_pl L M) sz) t) (va_A ([(za, (b13_0 z0 z1 (nI z2) (nI z3) z4 z5 z6 z7 z8 z9 (nI z10) z11 z12 z13 z14 z15 (nI z16) z17 z18 z19))] ++ va_pl L M) sz)) 0 0 (va_A ([(za, (b13_0 z0 z1 (nI z2) (nI z3) z4 z5 z6 z7 z8 z9 (nI z10) z11 z12 z13 z14 z15 (nI z16) z17 z18 z19))] ++ va_pl L M) sz) := by
  refine Met.ofW (cc := cX13_die) (maxL := 7) (ret := (some .int)) (by decide) rfl ?_
  intro p e s m args below meth c s₁ B hml hv
  obtain ⟨rfl, hsz, hP, hK, hD0, hN⟩ := hv
  have hx := B.exec
  have hb := B.bytes
  have hr := B.returns
  have hts := atoms_spec (ws := (wsM yX13_die cX13_die 7 (some .int))) B.pre
  have hg : ∀ w ∈ lw_good, w.before _ s = true := fun w h => hts w (List.mem_cons_of_mem _ h)
  have hown : s.vm.findClass RX13 = some m.cls := findClass_of_methodNamed B.named
  have hlocks := B.notSynchronized
  subst hsz
  have hD := hD0.self (sz := s.heap.size)
  generalize hAe : va_A ([(za, (b13_0 z0 z1 (nI z2) (nI z3) z4 z5 z6 z7 z8 z9 (nI z10) z11 z12 z13 z14 z15 (nI z16) z17 z18 z19))] ++ va_pl L M) s.heap.size = A at hD ⊢
  have hA : ∀ q : Nat, s.heap.size ≤ q → A q := fun q h => by rw [← hAe]; exact Or.inr h
  have hS : va_S A s.heap s.heap [] := va_S.rf
  have hl := lv_entry ([.ref za, .int k1, .int k2, .int k3, .int k4]) (n := 7) (Nat.le_of_ble_eq_true rfl)
  rw [lg_entry_eq]
  generalize (lg_sl ([.ref za, .int k1, .int k2, .int k3, .int k4]) ++ List.replicate (7 - (lg_sl ([.ref za, .int k1, .int k2, .int k3, .int k4])).length) Slot.unset).toArray = ls at hl ⊢
  refine W.nameQ (fun Q hQ => ?_)
  refine W.nameR (fun R hR => ?_)
  have hRf : 2 ≤ R.frames := by rw [hR]; exact Nat.le_of_ble_eq_true rfl
  have hRl : 43 ≤ R.locals := by rw [hR]; exact Nat.le_of_ble_eq_true rfl
  have hRc : 0 ≤ R.cells := by rw [hR]; exact Nat.le_of_ble_eq_true rfl
  have hRs : 0 ≤ R.slots := by rw [hR]; exact Nat.le_of_ble_eq_true rfl
  have hF : fr K L [12, 14, 16, 30, 31, 33, 34, 41, 42, 75, 76] M M := fr.rf
  have hG : fG K L [10] M M := fG.rf
  have hl : lv_has ls 7 [(0, .ref za), (1, .int k1), (2, .int k2), (3, .int k3), (4, .int k4)] := hl
  have hW0 := hW
  refine lv_aload_n hx hb dX13_die_0 rfl (lv_at hl 0 rfl) ?_
  refine lv_iconst (v := 0) hx hb dX13_die_1 (by decide) ?_
  refine va_put (D := D) (ci := 13) (v := .int 0) (ty := .int) (C := RX13) (T := TX13) (N := 20) hx hb hg inG13 tyX13 tyX13_ok nmX13 hown hK hP hD hS 0 rfl rfl 0 (by decide) (hg _ wd_720) (fun _ h9 => h9) rfl (by decide +kernel) rfl rfl (Nat.le_of_ble_eq_true rfl) dX13_die_2 (fun H_1 locs hP hD hS => ?_)
  have hP : va_P D vwCl ([(za, (b13_0 0 z1 (nI z2) (nI z3) z4 z5 z6 z7 z8 z9 (nI z10) z11 z12 z13 z14 z15 (nI z16) z17 z18 z19))] ++ va_pl L M) H_1 := hP
  have hD : va_D A ([(za, (b13_0 0 z1 (nI z2) (nI z3) z4 z5 z6 z7 z8 z9 (nI z10) z11 z12 z13 z14 z15 (nI z16) z17 z18 z19))] ++ va_pl L M) := hD
  refine lv_aload_n hx hb dX13_die_5 rfl (lv_at hl 0 rfl) ?_
  refine lv_iload_n hx hb dX13_die_6 rfl (lv_at hl 1 rfl) ?_
  refine lv_iload_n hx hb dX13_die_7 rfl (lv_at hl 2 rfl) ?_
  have hPc : va_P D vwCl ([(za, (b13_0 0 z1 (nI z2) (nI z3) z4 z5 z6 z7 z8 z9 (nI z10) z11 z12 z13 z14 z15 (nI z16) z17 z18 z19))] ++ va_pl L M) H_1 := hP
  have hDc : va_D A ([(za, (b13_0 0 z1 (nI z2) (nI z3) z4 z5 z6 z7 z8 z9 (nI z10) z11 z12 z13 z14 z15 (nI z16) z17 z18 z19))] ++ va_pl L M) := hD
  have hFc : ∀ q, va_A ([(za, (b13_0 0 z1 (nI z2) (nI z3) z4 z5 z6 z7 z8 z9 (nI z10) z11 z12 z13 z14 z15 (nI z16) z17 z18 z19))] ++ va_pl L M) H_1.size q → A q := pg_free hDc hS hA
  refine va_calli (va_runV (As := [.int k1, .int k2]) (rest := []) ⟨hx, hb, hml, hown, hg⟩ (f_isSeat l D cy K L M H_1.size za 0 z1 z2 z3 z4 z5 z6 z7 z8 z9 z10 z11 z12 z13 z14 z15 z16 z17 z18 z19 k1 k2  hW i1 b2 b3 i6 i7 i8 i9 b10 i11 i12 i13 i14 i15 b16 i17 i19) (cwV 2 hg (gV wd_744 wd_745 wd_746 wd_717 wd_747) rfl rfl rfl (by decide +kernel) ⟨(Nat.le_trans (Nat.le_of_ble_eq_true rfl) hRf), (Nat.le_trans (Nat.le_of_ble_eq_true rfl) hRl)⟩) ⟨PG.blind, va_recv hK hP (ci := 13) (q0 := 0) rfl rfl, fun U hU hW => ⟨rfl, PG.at hPc hK hDc hN hU hW⟩⟩ rfl rfl hl.1 rfl (lv_room (Nat.le_of_ble_eq_true rfl)) dX13_die_8 ⟨(Nat.le_trans (Nat.le_of_ble_eq_true rfl) hRc), (Nat.le_trans (Nat.le_of_ble_eq_true rfl) hRs)⟩) hS (fun q _ h => hFc q h) hFc (fun r_3 M_4 t H_2 locs ht hvm hw hB hz1 hk1 hS => ?_)
  have hp_5 := hw
  obtain ⟨hP1, hD1⟩ := hB
  rw [ht] at hP1
  have hP : va_P D vwCl ([(za, (b13_0 0 z1 (nI z2) (nI z3) z4 z5 z6 z7 z8 z9 (nI z10) z11 z12 z13 z14 z15 (nI z16) z17 z18 z19))] ++ va_pl L M) H_2 := hP1
  have hD : va_D A ([(za, (b13_0 0 z1 (nI z2) (nI z3) z4 z5 z6 z7 z8 z9 (nI z10) z11 z12 z13 z14 z15 (nI z16) z17 z18 z19))] ++ va_pl L M) := hD1.mono hFc
  rcases hp_5 with ⟨rfl, c_6, c_7, c_8, c_9, c_10⟩ | ⟨rfl, c_11⟩
  · have hz := rfl (a := 0)
    refine lv_if_eq (tgt := 28) hx hb dX13_die_11 (by decide) (fun c_12 => absurd c_12 (by decide)) (fun _ => ?_)
    refine lv_iload hx hb dX13_die_14 (lv_at hl 4 rfl) ?_
    refine lv_if_lt (tgt := 28) hx hb dX13_die_16 (by decide) (fun c_13 => ?_) (fun c_13 => ?_)
    · have hz := rfl (a := 0)
      refine lv_aload_n hx hb dX13_die_28 rfl (lv_at hl 0 rfl) ?_
      refine lv_iconst (v := 1) hx hb dX13_die_29 (by decide) ?_
      have hPc := hP.sub (ws' := [(za, (b13_0 0 z1 (nI z2) (nI z3) z4 z5 z6 z7 z8 z9 (nI z10) z11 z12 z13 z14 z15 (nI z16) z17 z18 z19))]) [0] rfl
      have hDc := hD.sub (ws' := [(za, (b13_0 0 z1 (nI z2) (nI z3) z4 z5 z6 z7 z8 z9 (nI z10) z11 z12 z13 z14 z15 (nI z16) z17 z18 z19))]) [0] (by decide) rfl
      have hKc := hK.sub (tys' := []) [] rfl
      have hFc := va_free (wc := [(za, (b13_0 0 z1 (nI z2) (nI z3) z4 z5 z6 z7 z8 z9 (nI z10) z11 z12 z13 z14 z15 (nI z16) z17 z18 z19))]) hD hS hA [0] rfl
      refine va_calli (va_runV (As := [.int 1]) (rest := []) ⟨hx, hb, hml, hown, hg⟩ (m_refused l D H_2.size za 0 z1 (nI z2) (nI z3) z4 z5 z6 z7 z8 z9 (nI z10) z11 z12 z13 z14 z15 (nI z16) z17 z18 z19 1) (cwV 1 hg (gV wd_725 wd_726 wd_727 wd_717 wd_728) rfl rfl rfl (by decide +kernel) ⟨(Nat.le_trans (Nat.le_of_ble_eq_true rfl) hRf), (Nat.le_trans (Nat.le_of_ble_eq_true rfl) hRl)⟩) ⟨Pr.blind, va_recv hK hP (ci := 13) (q0 := 0) rfl rfl, fun U hU hW => ⟨rfl, Pr.at hPc hKc hDc hN hU hW⟩⟩ rfl rfl hl.1 rfl (lv_room (Nat.le_of_ble_eq_true rfl)) dX13_die_30 ⟨(Nat.le_trans (Nat.le_of_ble_eq_true rfl) hRc), (Nat.le_trans (Nat.le_of_ble_eq_true rfl) hRs)⟩) hS (fun q _ h => hFc q h) hFc (fun r_15 M_16 t H_14 locs ht hvm hw hB hz1 hk1 hS => ?_)
      have hp_17 := hw
      obtain ⟨hP1, hK1, hD1⟩ := hB
      rw [ht] at hP1
      obtain ⟨hP, hD⟩ := va_joinQ (X := [(za, (b13_0 0 z1 (nI z2) (nI z3) z4 z5 z6 z7 z8 z9 (nI z10) z11 z12 z13 z14 z15 (nI z16) z17 z18 z19))]) (cx := [(za, (b13_0 0 z1 (nI z2) (nI z3) z4 z5 z6 z7 z8 z9 (nI z10) z11 z12 z13 z14 z15 (nI z16) z17 z18 z19))]) (wr := []) (w1 := [(za, (b13_0 0 z1 (nI z2) (nI z3) 1 (-1) z6 z7 z8 z9 (nI z10) z11 z12 z13 z14 z15 (nI z16) z17 z18 z19))]) (pl := va_pl L M) hP hD [0] [] rfl rfl (by decide) (by decide) hk1 hFc hP1 hD1
      have hP : va_P D vwCl ([(za, (b13_0 0 z1 (nI z2) (nI z3) 1 (-1) z6 z7 z8 z9 (nI z10) z11 z12 z13 z14 z15 (nI z16) z17 z18 z19))] ++ va_pl L M) H_14 := hP
      have hD : va_D A ([(za, (b13_0 0 z1 (nI z2) (nI z3) 1 (-1) z6 z7 z8 z9 (nI z10) z11 z12 z13 z14 z15 (nI z16) z17 z18 z19))] ++ va_pl L M) := hD
      have hq := Eq.symm hp_17
      subst hq
      have hI_18 : (0 : Int) ≤ (k1 : Int32).toInt := inltI rfl rfl c_7
      have hI_19 : (k1 : Int32).toInt < ((z2 : Nat) : Int) := inleI (nI_toInt (by omega)) rfl c_8
      have hI_20 : (0 : Int) ≤ (k2 : Int32).toInt := inltI rfl rfl c_9
      have hI_21 : (k2 : Int32).toInt < (6 : Int) := inleI rfl rfl c_10
      have hI_22 : (k4 : Int32).toInt < (0 : Int) := iltI rfl rfl c_13
      have hno : ¬ okDi z2 z3 PK SX SY k1 k2 k3 k4 := fun q9 => by unfold okDi okHS at q9; first | omega | (obtain ⟨⟨_, _, _, _⟩, ⟨_, _⟩, _, _, ⟨_, _⟩, _, _⟩ := q9; first | omega | contradiction)
      rw [hQ]
      exact W.iret (v := (-1)) hx hb hr (fun t ht hW9 => ⟨⟨(-1), M, rfl, ⟨hW, hF, hG, ⟨hGI, (by unfold sxDi syDi; rw [if_neg hno, if_neg hno]; exact hZS)⟩, (by unfold anDi; rw [if_neg hno])⟩, ⟨1, by rw [ht]; exact hP, hD⟩⟩, hS.F ht⟩) hS.2.2 dX13_die_33
    · have hz := rfl (a := 0)
      refine lv_iload hx hb dX13_die_19 (lv_at hl 4 rfl) ?_
      refine lv_aload_n hx hb dX13_die_21 rfl (lv_at hl 0 rfl) ?_
      refine va_get (D := D) (ci := 13) (v := .int (nI z3)) (C := RX13) (T := TX13) (N := 20) hx hb hg inG13 hown hK hP 0 rfl rfl 3 (by decide) (hg _ wd_831) (fun _ h9 => h9) rfl dX13_die_22 ?_
      refine lv_icmp_lt (tgt := 34) hx hb dX13_die_25 (by decide) (fun c_23 => ?_) (fun c_23 => ?_)
      · have hz := rfl (a := 0)
        have n_24 : ¬ 40 ≤ k4 := ltB (b := 40) (by decide) (by omega) c_23
        refine lv_aload_n hx hb dX13_die_34 rfl (lv_at hl 0 rfl) ?_
        refine va_get (D := D) (ci := 13) (v := .ref z1) (C := RX13) (T := TX13) (N := 20) hx hb hg inG13 hown hK hP 0 rfl rfl 1 (by decide) (hg _ wd_739) (fun _ h9 => h9) rfl dX13_die_35 ?_
        refine lv_iload_n hx hb dX13_die_38 rfl (lv_at hl 1 rfl) ?_
        obtain ⟨f25, hM25, hf25⟩ := hW.open_23 i1
        have hi_26 : vp_in k1 8 := (inbW (a := z2) (by omega) (inb k1 z2 (by omega) c_7 c_8))
        refine pg_aldq hx hb hK hP i1.1 9 hM25 rfl hi_26 dX13_die_39 ?_
        obtain ⟨b27, eb_28, hb_29⟩ := hf25 _ (vp_lt hi_26)
        rw [eb_28]
        have hact : ACT z1 z2 b27 M := ⟨(k1 : Int32).toNatClampNeg, vp_lt (inb k1 z2 (by omega) c_7 c_8), by rw [show RFc (M z1) = f25 from by rw [hM25]; rfl]; exact eb_28⟩
        have hAT := GI.at hGI hact
        have hV : VW K L M M b27 (fx M b27) (ax M b27) := VW.rf b27 hGI.2.2.2
        have hb9 : RFc (M z1) (k1 : Int32).toNatClampNeg = some b27 := by rw [show RFc (M z1) = f25 from by rw [hM25]; rfl]; exact eb_28
        have hkn : (k1 : Int32).toNatClampNeg < z2 := vp_lt (inb k1 z2 (by omega) c_7 c_8)
        have hZk := hZS _ b27 hkn hb9
        have hz0 : fx M b27 0 = SX (k1 : Int32).toNatClampNeg 0 := congrFun hZk.1 0
        have hz1 : fx M b27 1 = SX (k1 : Int32).toNatClampNeg 1 := congrFun hZk.1 1
        have hz10 : fx M b27 10 = SX (k1 : Int32).toNatClampNeg 10 := congrFun hZk.1 10
        have hz11 : fx M b27 11 = SX (k1 : Int32).toNatClampNeg 11 := congrFun hZk.1 11
        have hz12 : fx M b27 12 = SX (k1 : Int32).toNatClampNeg 12 := congrFun hZk.1 12
        have hz13 : fx M b27 13 = SX (k1 : Int32).toNatClampNeg 13 := congrFun hZk.1 13
        have hz14 : fx M b27 14 = SX (k1 : Int32).toNatClampNeg 14 := congrFun hZk.1 14
        have hz15 : fx M b27 15 = SX (k1 : Int32).toNatClampNeg 15 := congrFun hZk.1 15
        have hz16 : fx M b27 16 = SX (k1 : Int32).toNatClampNeg 16 := congrFun hZk.1 16
        obtain ⟨fs30, hM30, hn30, hl30⟩ := hW.open_12 hb_29
        obtain ⟨v31, hv31, hc31⟩ : ∃ v : Nat, fs30[10]? = some (.int (nI v) : Value) ∧ v ≤ 24 := hl30 10 (by decide)
        have hx10 : (fx M b27 10) = ((v31 : Nat) : Int) := (congrFun hV.2.1 10).symm.trans ((fx_of hM30 rfl hv31).trans (nI_toInt (by omega)))
        refine lv_astore (lv' := [(5, .ref b27), (0, .ref za), (1, .int k1), (2, .int k2), (3, .int k3), (4, .int k4)]) hx hb dX13_die_40 hl (by decide) rfl (fun ls hl => ?_)
        refine lv_aload_n hx hb dX13_die_42 rfl (lv_at hl 1 rfl) ?_
        refine lv_aload hx hb dX13_die_43 (lv_at hl 0 rfl) ?_
        refine lv_iload_n hx hb dX13_die_45 rfl (lv_at hl 3 rfl) ?_
        obtain ⟨j_32, hj_33, rfl⟩ := i32nat 6 (by decide) c_9 c_10
        have hPc : va_P D vwCl ([(za, (b13_0 0 z1 (nI z2) (nI z3) z4 z5 z6 z7 z8 z9 (nI z10) z11 z12 z13 z14 z15 (nI z16) z17 z18 z19))] ++ va_pl L M) H_2 := hP
        have hDc : va_D A ([(za, (b13_0 0 z1 (nI z2) (nI z3) z4 z5 z6 z7 z8 z9 (nI z10) z11 z12 z13 z14 z15 (nI z16) z17 z18 z19))] ++ va_pl L M) := hD
        have hFc : ∀ q, va_A ([(za, (b13_0 0 z1 (nI z2) (nI z3) z4 z5 z6 z7 z8 z9 (nI z10) z11 z12 z13 z14 z15 (nI z16) z17 z18 z19))] ++ va_pl L M) H_2.size q → A q := pg_free hDc hS hA
        refine va_calli (va_runV (As := [.ref b27, .int (nI j_32)]) (rest := []) ⟨hx, hb, hml, hown, hg⟩ (f_holder l D cy K L M H_2.size za 0 z1 z2 z3 z4 z5 z6 z7 z8 z9 z10 z11 z12 z13 z14 z15 z16 z17 z18 z19 b27 j_32  hW i1 b2 b3 i6 i7 i8 i9 b10 i11 i12 i13 i14 i15 b16 i17 i19 hb_29 (by omega)) (cwV 2 hg (gV wd_779 wd_780 wd_781 wd_717 wd_782) rfl rfl rfl (by decide +kernel) ⟨(Nat.le_trans (Nat.le_of_ble_eq_true rfl) hRf), (Nat.le_trans (Nat.le_of_ble_eq_true rfl) hRl)⟩) ⟨PG.blind, va_recv hK hP (ci := 13) (q0 := 0) rfl rfl, fun U hU hW => ⟨rfl, PG.at hPc hK hDc hN hU hW⟩⟩ rfl rfl hl.1 rfl (lv_room (Nat.le_of_ble_eq_true rfl)) dX13_die_46 ⟨(Nat.le_trans (Nat.le_of_ble_eq_true rfl) hRc), (Nat.le_trans (Nat.le_of_ble_eq_true rfl) hRs)⟩) hS (fun q _ h => hFc q h) hFc (fun r_35 M_36 t H_34 locs ht hvm hw hB hz1 hk1 hS => ?_)
        have hp_37 := hw
        obtain ⟨hP1, hD1⟩ := hB
        rw [ht] at hP1
        have hP : va_P D vwCl ([(za, (b13_0 0 z1 (nI z2) (nI z3) z4 z5 z6 z7 z8 z9 (nI z10) z11 z12 z13 z14 z15 (nI z16) z17 z18 z19))] ++ va_pl L M) H_34 := hP1
        have hD : va_D A ([(za, (b13_0 0 z1 (nI z2) (nI z3) z4 z5 z6 z7 z8 z9 (nI z10) z11 z12 z13 z14 z15 (nI z16) z17 z18 z19))] ++ va_pl L M) := hD1.mono hFc
        rcases hp_37 with ⟨j_38, rfl, c_39, c_40, c_41⟩ | ⟨rfl, c_42⟩
        · have hz := rfl (a := 0)
          have hhs : hold (SY (k1 : Int32).toNatClampNeg) ((nI j_32) : Int32).toNatClampNeg := by rw [← hZk.2, nI_cl (by omega)]; exact c_41
          have hs9 : (SY (k1 : Int32).toNatClampNeg 9 ((nI j_32) : Int32).toNatClampNeg).toInt = ((j_38 : Nat) : Int) + 1 := by rw [← hZk.2, nI_cl (by omega)]; exact c_40
          have hsn : ((SY (k1 : Int32).toNatClampNeg 9 ((nI j_32) : Int32).toNatClampNeg).toInt - 1).toNat = j_38 := by omega
          refine lv_istore (lv' := [(6, .int (nI j_38)), (5, .ref b27), (0, .ref za), (1, .int k1), (2, .int (nI j_32)), (3, .int k3), (4, .int k4)]) hx hb dX13_die_49 hl (by decide) rfl (fun ls hl => ?_)
          refine lv_iload hx hb dX13_die_51 (lv_at hl 0 rfl) ?_
          refine lv_iconst (v := (-1)) hx hb dX13_die_53 (by decide) ?_
          refine lv_icmp_ne (tgt := 63) hx hb dX13_die_54 (by decide) (fun _ => ?_) (fun c_43 => absurd c_43 (nI_ne_m1 (by omega)))
          refine lv_aload_n hx hb dX13_die_63 rfl (lv_at hl 2 rfl) ?_
          refine va_get (D := D) (ci := 13) (v := .ref z6) (C := RX13) (T := TX13) (N := 20) hx hb hg inG13 hown hK hP 0 rfl rfl 6 (by decide) (hg _ wd_719) (fun _ h9 => h9) rfl dX13_die_64 ?_
          refine lv_iload hx hb dX13_die_67 (lv_at hl 6 rfl) ?_
          obtain ⟨f44, hM44, hf44⟩ := hW.open_47 i6
          have hi_45 : vp_in k4 40 := (inb k4 40 (by omega) c_13 n_24)
          refine pg_iald hx hb hK hP i6.1 0 hM44 rfl hi_45 dX13_die_69 ?_
          have hp_46 := hf44 _ (vp_lt hi_45)
          obtain ⟨c_47, hc_48, ec_49⟩ := hp_46
          rw [ec_49]
          have hPk : PK (k4 : Int32).toNatClampNeg = (nI c_47) := by
            have h9 := ec_49
            rw [← (ZP.mv hZP i6 i7 hF (by decide) (by decide)).1, show IFc (M z6) = f44 from by rw [hM44]; rfl]
            exact h9
          have hPki : (PK (k4 : Int32).toNatClampNeg).toInt = ((c_47 : Nat) : Int) := by rw [hPk]; exact nI_toInt (by omega)
          refine lv_iconst (v := 4) hx hb dX13_die_70 (by decide) ?_
          refine lv_icmp_eq (tgt := 80) hx hb dX13_die_71 (by decide) (fun c_50 => ?_) (fun c_50 => ?_)
          · have hz := rfl (a := 0)
            have n_51 : c_47 = 4 := (iEQ (a := c_47) (b := 4) (by omega) (by omega)).mp c_50
            refine lv_aload hx hb dX13_die_80 (lv_at hl 1 rfl) ?_
            refine lv_iload_n hx hb dX13_die_82 rfl (lv_at hl 5 rfl) ?_
            have hPc : va_P D vwCl ([] ++ va_pl L M) H_34 := hP.part (cx := []) [] rfl
            have hDc : va_D A ([] ++ va_pl L M) := hD.part (cx := []) [] (by decide) rfl
            have hFc : ∀ q, va_A ([] ++ va_pl L M) H_34.size q → A q := pg_free hDc hS hA
            refine va_calli (va_runV (As := [.int k3]) (rest := []) ⟨hx, hb, hml, hown, hg⟩ (f_isFree l D cy K L M H_34.size b27 k3  hW hb_29) (cwV 1 hg (gV wd_807 wd_808 wd_809 wd_737 wd_810) rfl rfl rfl (by decide +kernel) ⟨(Nat.le_trans (Nat.le_of_ble_eq_true rfl) hRf), (Nat.le_trans (Nat.le_of_ble_eq_true rfl) hRl)⟩) ⟨PG.blind, pg_recv hK hP hb_29.1 hM30 rfl, fun U hU hW => ⟨rfl, PG.at hPc hK hDc hN hU hW⟩⟩ rfl rfl hl.1 rfl (lv_room (Nat.le_of_ble_eq_true rfl)) dX13_die_83 ⟨(Nat.le_trans (Nat.le_of_ble_eq_true rfl) hRc), (Nat.le_trans (Nat.le_of_ble_eq_true rfl) hRs)⟩) hS (fun q _ h => hFc q h) hFc (fun r_53 M_54 t H_52 locs ht hvm hw hB hz1 hk1 hS => ?_)
            have hp_55 := hw
            obtain ⟨hP1, hD1⟩ := hB
            rw [ht] at hP1
            obtain ⟨hP, hD⟩ := va_joinP (X := [(za, (b13_0 0 z1 (nI z2) (nI z3) z4 z5 z6 z7 z8 z9 (nI z10) z11 z12 z13 z14 z15 (nI z16) z17 z18 z19))]) (cx := []) (wr := [(za, (b13_0 0 z1 (nI z2) (nI z3) z4 z5 z6 z7 z8 z9 (nI z10) z11 z12 z13 z14 z15 (nI z16) z17 z18 z19))]) (rx := []) (pl := va_pl L M) (pl1 := va_pl L M) hP hD [] [0] rfl rfl (by decide) (by decide) hk1 hFc hP1 hD1
            have hP : va_P D vwCl ([(za, (b13_0 0 z1 (nI z2) (nI z3) z4 z5 z6 z7 z8 z9 (nI z10) z11 z12 z13 z14 z15 (nI z16) z17 z18 z19))] ++ va_pl L M) H_52 := hP
            have hD : va_D A ([(za, (b13_0 0 z1 (nI z2) (nI z3) z4 z5 z6 z7 z8 z9 (nI z10) z11 z12 z13 z14 z15 (nI z16) z17 z18 z19))] ++ va_pl L M) := hD
            rcases hp_55 with ⟨rfl, c_56, c_57, c_58⟩ | ⟨rfl, c_59⟩
            · have hz := rfl (a := 0)
              refine lv_if_eq (tgt := 101) hx hb dX13_die_86 (by decide) (fun c_60 => absurd c_60 (by decide)) (fun _ => ?_)
              refine lv_iload_n hx hb dX13_die_89 rfl (lv_at hl 5 rfl) ?_
              refine lv_aload hx hb dX13_die_90 (lv_at hl 1 rfl) ?_
              obtain ⟨v61, hv61, hc61⟩ : ∃ v : Nat, fs30[21]? = some (.ref v : Value) ∧ isk K L v 75 24 := hl30 21 (by decide)
              refine pg_getN (D := D) (ci := 12) (v := .ref v61) (C := RX12) (T := TX12) (N := 51) hx hb hg inG12 hown hK hP hb_29.1 hM30 rfl 21 (by decide) (hN.use (Cond.fieldLinkNest RX13 112 RX12 "begin" "[I" RX13) 30 rfl rfl) (fun _ h9 => h9) hv61 dX13_die_92 ?_
              refine lv_iload hx hb dX13_die_95 (lv_at hl 0 rfl) ?_
              obtain ⟨f62, hM62⟩ := hW.open_75 hc61
              refine pg_iald hx hb hK hP hc61.1 0 hM62 rfl (inbN j_38 24 (by omega) (by omega)) dX13_die_97 ?_
              refine lv_topi (fun f_63 ef_63 => ?_)
              have hp21e : SY (k1 : Int32).toNatClampNeg 21 ((nI j_38) : Int32).toNatClampNeg = f_63 := by rw [← hZk.2, ax_of hM30 (by decide) hv61 hM62]; exact ef_63.symm
              have hp21 : (SY (k1 : Int32).toNatClampNeg 21 ((nI j_38) : Int32).toNatClampNeg).toInt = (f_63 : Int32).toInt := congrArg Int32.toInt hp21e
              have hb21 : (SY (k1 : Int32).toNatClampNeg 21 ((SY (k1 : Int32).toNatClampNeg 9 ((nI j_32) : Int32).toNatClampNeg).toInt - 1).toNat).toInt = (SY (k1 : Int32).toNatClampNeg 21 (nI j_38).toNatClampNeg).toInt := by rw [hsn, nI_cl (by omega)]
              refine lv_icmp_gt (tgt := 107) hx hb dX13_die_98 (by decide) (fun c_64 => ?_) (fun c_64 => ?_)
              · have hz := rfl (a := 0)
                refine lv_aload hx hb dX13_die_107 (lv_at hl 1 rfl) ?_
                refine pg_getN (D := D) (ci := 12) (v := .int (nI v31)) (C := RX12) (T := TX12) (N := 51) hx hb hg inG12 hown hK hP hb_29.1 hM30 rfl 10 (by decide) (hN.use (Cond.fieldLinkNest RX13 68 RX12 "tenures" "I" RX13) 19 rfl rfl) (fun _ h9 => h9) hv31 dX13_die_109 ?_
                refine lv_bipush (v := 24) hx hb dX13_die_112 (by decide) ?_
                refine lv_icmp_ne (tgt := 124) hx hb dX13_die_114 (by decide) (fun c_65 => ?_) (fun c_65 => ?_)
                · have hz := rfl (a := 0)
                  have n_66 : ¬ (v31 = 24) := fun q => c_65 ((iEQ (a := v31) (b := 24) (by omega) (by omega)).mpr q)
                  refine lv_aload hx hb dX13_die_124 (lv_at hl 1 rfl) ?_
                  obtain ⟨v67, hv67, hc67⟩ : ∃ v : Nat, fs30[22]? = some (.ref v : Value) ∧ isk K L v 41 24 := hl30 22 (by decide)
                  refine pg_getN (D := D) (ci := 12) (v := .ref v67) (C := RX12) (T := TX12) (N := 51) hx hb hg inG12 hown hK hP hb_29.1 hM30 rfl 22 (by decide) (hN.use (Cond.fieldLinkNest RX13 95 RX12 "ended" "[I" RX13) 31 rfl rfl) (fun _ h9 => h9) hv67 dX13_die_126 ?_
                  refine lv_iload hx hb dX13_die_129 (lv_at hl 0 rfl) ?_
                  refine lv_iload_n hx hb dX13_die_131 rfl (lv_at hl 5 rfl) ?_
                  obtain ⟨f68, hM68⟩ := hW.open_41 hc67
                  refine pg_iast hx hb hK hP hD hS hc67.1 0 hM68 rfl (inbN j_38 24 (by omega) (by omega)) dX13_die_132 (fun H_69 locs hP hD hS => ?_)
                  obtain ⟨M_70, eM_70⟩ : ∃ M1 : Hp, M1 = va_up M v67 (.inl (cy 14, 24, .inl (upd f68 ((nI j_38) : Int32).toNatClampNeg k3))) := ⟨_, rfl⟩
                  have hy22 : (ax M b27 22) = f68 := (congrFun hV.2.2.1 22).symm.trans (ax_of hM30 (by decide) hv67 hM68)
                  have hV : VW K L M M_70 b27 (fx M b27) (va_up (ax M b27) 22 (upd (ax M b27 22) ((nI j_38) : Int32).toNatClampNeg k3)) := by rw [eM_70]; exact hV.ast (j := 22) hW hb_29 hM30 (by decide) hv67 hc67 hM68
                  have hP : va_P D vwCl ([(za, (b13_0 0 z1 (nI z2) (nI z3) z4 z5 z6 z7 z8 z9 (nI z10) z11 z12 z13 z14 z15 (nI z16) z17 z18 z19))] ++ va_pl L M_70) H_69 := by rw [eM_70]; exact hP
                  have hD : va_D A ([(za, (b13_0 0 z1 (nI z2) (nI z3) z4 z5 z6 z7 z8 z9 (nI z10) z11 z12 z13 z14 z15 (nI z16) z17 z18 z19))] ++ va_pl L M_70) := by rw [eM_70]; exact hD
                  have hW : WOM cy K L M_70 := by rw [eM_70]; exact hW.up_41 hc67 ⟨_, rfl⟩
                  have hF : fr K L [12, 14, 16, 30, 31, 33, 34, 41, 42, 75, 76] M M_70 := by rw [eM_70]; exact hF.up hc67 (by decide)
                  have hG : fG K L [10] M M_70 := by rw [eM_70]; exact hG.arr hc67 (by decide)
                  have hM_71 : M_70 v67 = .inl (cy 14, 24, .inl (upd f68 ((nI j_38) : Int32).toNatClampNeg k3)) := by rw [eM_70]; exact va_up_self _ _ _
                  have hM_72 : M_70 z1 = .inl (cy 23, 8, .inr (.inr (.inr (.inr (f25))))) := by rw [eM_70, va_up_ne _ _ (i1.neT hc67 (by decide))]; exact hM25
                  have hM_73 : M_70 b27 = .inr (12, fs30) := by rw [eM_70, va_up_ne _ _ (hb_29.neT hc67 (by decide))]; exact hM30
                  have hM_74 : M_70 z6 = .inl (cy 14, 40, .inl (f44)) := by rw [eM_70, va_up_ne _ _ (i6.neT hc67 (by decide))]; exact hM44
                  have hM_75 : M_70 v61 = .inl (cy 14, 24, .inl (f62)) := by rw [eM_70, va_up_ne _ _ (hc61.neT hc67 (by decide))]; exact hM62
                  obtain ⟨f_76, ef_76⟩ : ∃ f : Nat → Int32, f = upd f68 ((nI j_38) : Int32).toNatClampNeg k3 := ⟨_, rfl⟩
                  rw [← ef_76] at hM_71
                  refine lv_aload hx hb dX13_die_133 (lv_at hl 1 rfl) ?_
                  obtain ⟨v77, hv77, hc77⟩ : ∃ v : Nat, fs30[23]? = some (.ref v : Value) ∧ isk K L v 42 24 := hl30 23 (by decide)
                  refine pg_getN (D := D) (ci := 12) (v := .ref v77) (C := RX12) (T := TX12) (N := 51) hx hb hg inG12 hown hK hP hb_29.1 hM_73 rfl 23 (by decide) (hN.use (Cond.fieldLinkNest RX13 115 RX12 "instalments" "[I" RX13) 32 rfl rfl) (fun _ h9 => h9) hv77 dX13_die_135 ?_
                  refine lv_iload hx hb dX13_die_138 (lv_at hl 0 rfl) ?_
                  refine lv_iconst (v := 1) hx hb dX13_die_140 (by decide) ?_
                  obtain ⟨f78, hM78⟩ := hW.open_42 hc77
                  refine pg_iast hx hb hK hP hD hS hc77.1 0 hM78 rfl (inbN j_38 24 (by omega) (by omega)) dX13_die_141 (fun H_79 locs hP hD hS => ?_)
                  obtain ⟨M_80, eM_80⟩ : ∃ M1 : Hp, M1 = va_up M_70 v77 (.inl (cy 14, 24, .inl (upd f78 ((nI j_38) : Int32).toNatClampNeg 1))) := ⟨_, rfl⟩
                  have hy23 : (ax M b27 23) = f78 := (congrFun hV.2.2.1 23).symm.trans (ax_of hM_73 (by decide) hv77 hM78)
                  have hV : VW K L M M_80 b27 (fx M b27) (va_up (va_up (ax M b27) 22 (upd (ax M b27 22) ((nI j_38) : Int32).toNatClampNeg k3)) 23 (upd (ax M b27 23) ((nI j_38) : Int32).toNatClampNeg 1)) := by rw [eM_80]; exact hV.ast (j := 23) hW hb_29 hM_73 (by decide) hv77 hc77 hM78
                  have hP : va_P D vwCl ([(za, (b13_0 0 z1 (nI z2) (nI z3) z4 z5 z6 z7 z8 z9 (nI z10) z11 z12 z13 z14 z15 (nI z16) z17 z18 z19))] ++ va_pl L M_80) H_79 := by rw [eM_80]; exact hP
                  have hD : va_D A ([(za, (b13_0 0 z1 (nI z2) (nI z3) z4 z5 z6 z7 z8 z9 (nI z10) z11 z12 z13 z14 z15 (nI z16) z17 z18 z19))] ++ va_pl L M_80) := by rw [eM_80]; exact hD
                  have hW : WOM cy K L M_80 := by rw [eM_80]; exact hW.up_42 hc77 ⟨_, rfl⟩
                  have hF : fr K L [12, 14, 16, 30, 31, 33, 34, 41, 42, 75, 76] M M_80 := by rw [eM_80]; exact hF.up hc77 (by decide)
                  have hG : fG K L [10] M M_80 := by rw [eM_80]; exact hG.arr hc77 (by decide)
                  have hM_81 : M_80 v77 = .inl (cy 14, 24, .inl (upd f78 ((nI j_38) : Int32).toNatClampNeg 1)) := by rw [eM_80]; exact va_up_self _ _ _
                  have hM_82 : M_80 v67 = .inl (cy 14, 24, .inl (f_76)) := by rw [eM_80, va_up_ne _ _ (hc67.neT hc77 (by decide))]; exact hM_71
                  have hM_83 : M_80 z1 = .inl (cy 23, 8, .inr (.inr (.inr (.inr (f25))))) := by rw [eM_80, va_up_ne _ _ (i1.neT hc77 (by decide))]; exact hM_72
                  have hM_84 : M_80 b27 = .inr (12, fs30) := by rw [eM_80, va_up_ne _ _ (hb_29.neT hc77 (by decide))]; exact hM_73
                  have hM_85 : M_80 z6 = .inl (cy 14, 40, .inl (f44)) := by rw [eM_80, va_up_ne _ _ (i6.neT hc77 (by decide))]; exact hM_74
                  have hM_86 : M_80 v61 = .inl (cy 14, 24, .inl (f62)) := by rw [eM_80, va_up_ne _ _ (hc61.neT hc77 (by decide))]; exact hM_75
                  obtain ⟨f_87, ef_87⟩ : ∃ f : Nat → Int32, f = upd f78 ((nI j_38) : Int32).toNatClampNeg 1 := ⟨_, rfl⟩
                  rw [← ef_87] at hM_81
                  refine lv_aload hx hb dX13_die_142 (lv_at hl 1 rfl) ?_
                  obtain ⟨v88, hv88, hc88⟩ : ∃ v : Nat, fs30[24]? = some (.ref v : Value) ∧ isk K L v 76 24 := hl30 24 (by decide)
                  refine pg_getN (D := D) (ci := 12) (v := .ref v88) (C := RX12) (T := TX12) (N := 51) hx hb hg inG12 hown hK hP hb_29.1 hM_84 rfl 24 (by decide) (hN.use (Cond.fieldLinkNest RX13 118 RX12 "bears" "[I" RX13) 33 rfl rfl) (fun _ h9 => h9) hv88 dX13_die_144 ?_
                  refine lv_iload hx hb dX13_die_147 (lv_at hl 0 rfl) ?_
                  refine lv_iconst (v := 0) hx hb dX13_die_149 (by decide) ?_
                  obtain ⟨f89, hM89⟩ := hW.open_76 hc88
                  refine pg_iast hx hb hK hP hD hS hc88.1 0 hM89 rfl (inbN j_38 24 (by omega) (by omega)) dX13_die_150 (fun H_90 locs hP hD hS => ?_)
                  obtain ⟨M_91, eM_91⟩ : ∃ M1 : Hp, M1 = va_up M_80 v88 (.inl (cy 14, 24, .inl (upd f89 ((nI j_38) : Int32).toNatClampNeg 0))) := ⟨_, rfl⟩
                  have hy24 : (ax M b27 24) = f89 := (congrFun hV.2.2.1 24).symm.trans (ax_of hM_84 (by decide) hv88 hM89)
                  have hV : VW K L M M_91 b27 (fx M b27) (va_up (va_up (va_up (ax M b27) 22 (upd (ax M b27 22) ((nI j_38) : Int32).toNatClampNeg k3)) 23 (upd (ax M b27 23) ((nI j_38) : Int32).toNatClampNeg 1)) 24 (upd (ax M b27 24) ((nI j_38) : Int32).toNatClampNeg 0)) := by rw [eM_91]; exact hV.ast (j := 24) hW hb_29 hM_84 (by decide) hv88 hc88 hM89
                  have hP : va_P D vwCl ([(za, (b13_0 0 z1 (nI z2) (nI z3) z4 z5 z6 z7 z8 z9 (nI z10) z11 z12 z13 z14 z15 (nI z16) z17 z18 z19))] ++ va_pl L M_91) H_90 := by rw [eM_91]; exact hP
                  have hD : va_D A ([(za, (b13_0 0 z1 (nI z2) (nI z3) z4 z5 z6 z7 z8 z9 (nI z10) z11 z12 z13 z14 z15 (nI z16) z17 z18 z19))] ++ va_pl L M_91) := by rw [eM_91]; exact hD
                  have hW : WOM cy K L M_91 := by rw [eM_91]; exact hW.up_76 hc88 ⟨_, rfl⟩
                  have hF : fr K L [12, 14, 16, 30, 31, 33, 34, 41, 42, 75, 76] M M_91 := by rw [eM_91]; exact hF.up hc88 (by decide)
                  have hG : fG K L [10] M M_91 := by rw [eM_91]; exact hG.arr hc88 (by decide)
                  have hM_92 : M_91 v88 = .inl (cy 14, 24, .inl (upd f89 ((nI j_38) : Int32).toNatClampNeg 0)) := by rw [eM_91]; exact va_up_self _ _ _
                  have hM_93 : M_91 v77 = .inl (cy 14, 24, .inl (f_87)) := by rw [eM_91, va_up_ne _ _ (hc77.neT hc88 (by decide))]; exact hM_81
                  have hM_94 : M_91 v67 = .inl (cy 14, 24, .inl (f_76)) := by rw [eM_91, va_up_ne _ _ (hc67.neT hc88 (by decide))]; exact hM_82
                  have hM_95 : M_91 z1 = .inl (cy 23, 8, .inr (.inr (.inr (.inr (f25))))) := by rw [eM_91, va_up_ne _ _ (i1.neT hc88 (by decide))]; exact hM_83
                  have hM_96 : M_91 b27 = .inr (12, fs30) := by rw [eM_91, va_up_ne _ _ (hb_29.neT hc88 (by decide))]; exact hM_84
                  have hM_97 : M_91 z6 = .inl (cy 14, 40, .inl (f44)) := by rw [eM_91, va_up_ne _ _ (i6.neT hc88 (by decide))]; exact hM_85
                  have hM_98 : M_91 v61 = .inl (cy 14, 24, .inl (f62)) := by rw [eM_91, va_up_ne _ _ (hc61.neT hc88 (by decide))]; exact hM_86
                  obtain ⟨f_99, ef_99⟩ : ∃ f : Nat → Int32, f = upd f89 ((nI j_38) : Int32).toNatClampNeg 0 := ⟨_, rfl⟩
                  rw [← ef_99] at hM_92
                  refine lv_aload hx hb dX13_die_151 (lv_at hl 1 rfl) ?_
                  obtain ⟨v100, hv100, hc100⟩ : ∃ v : Nat, fs30[25]? = some (.ref v : Value) ∧ isk K L v 34 24 := hl30 25 (by decide)
                  refine pg_getN (D := D) (ci := 12) (v := .ref v100) (C := RX12) (T := TX12) (N := 51) hx hb hg inG12 hown hK hP hb_29.1 hM_96 rfl 25 (by decide) (hN.use (Cond.fieldLinkNest RX13 121 RX12 "heir" "[I" RX13) 34 rfl rfl) (fun _ h9 => h9) hv100 dX13_die_153 ?_
                  refine lv_iload hx hb dX13_die_156 (lv_at hl 0 rfl) ?_
                  refine lv_aload_n hx hb dX13_die_158 rfl (lv_at hl 2 rfl) ?_
                  refine lv_aload hx hb dX13_die_159 (lv_at hl 1 rfl) ?_
                  refine lv_iload_n hx hb dX13_die_161 rfl (lv_at hl 4 rfl) ?_
                  refine lv_iload hx hb dX13_die_162 (lv_at hl 6 rfl) ?_
                  refine lv_iload_n hx hb dX13_die_164 rfl (lv_at hl 5 rfl) ?_
                  refine lv_iconst (v := 0) hx hb dX13_die_165 (by decide) ?_
                  obtain ⟨j_101, hj_102, rfl⟩ := i32nat 40 (by decide) c_13 n_24
                  have hPc : va_P D vwCl ([(za, (b13_0 0 z1 (nI z2) (nI z3) z4 z5 z6 z7 z8 z9 (nI z10) z11 z12 z13 z14 z15 (nI z16) z17 z18 z19))] ++ va_pl L M_91) H_90 := hP
                  have hDc : va_D A ([(za, (b13_0 0 z1 (nI z2) (nI z3) z4 z5 z6 z7 z8 z9 (nI z10) z11 z12 z13 z14 z15 (nI z16) z17 z18 z19))] ++ va_pl L M_91) := hD
                  have hFc : ∀ q, va_A ([(za, (b13_0 0 z1 (nI z2) (nI z3) z4 z5 z6 z7 z8 z9 (nI z10) z11 z12 z13 z14 z15 (nI z16) z17 z18 z19))] ++ va_pl L M_91) H_90.size q → A q := pg_free hDc hS hA
                  refine va_calli (va_runV (As := [.ref b27, .int (nI j_32), .int (nI j_101), .int k3, .int 0]) (rest := [.int (nI j_38), .ref v100]) ⟨hx, hb, hml, hown, hg⟩ (z_begins l D cy K L M_91 H_90.size za 0 z1 z2 z3 z4 z5 z6 z7 z8 z9 z10 z11 z12 z13 z14 z15 z16 z17 z18 z19 b27 j_32 j_101 k3 0  hW i1 b2 b3 i6 i7 i8 i9 b10 i11 i12 i13 i14 i15 b16 i17 i19 hb_29 (by omega) (by omega) (Or.inl rfl) ⟨_, _, hM_96, hv31, by omega⟩ hV.2.2.2) (cwV 5 hg (gV wd_832 wd_833 wd_834 wd_717 wd_835) rfl rfl rfl (by decide +kernel) ⟨(Nat.le_trans (Nat.le_of_ble_eq_true rfl) hRf), (Nat.le_trans (Nat.le_of_ble_eq_true rfl) hRl)⟩) ⟨PG.blind, va_recv hK hP (ci := 13) (q0 := 0) rfl rfl, fun U hU hW => ⟨rfl, PG.at hPc hK hDc hN hU hW⟩⟩ rfl rfl hl.1 rfl (lv_room (Nat.le_of_ble_eq_true rfl)) dX13_die_166 ⟨(Nat.le_trans (Nat.le_of_ble_eq_true rfl) hRc), (Nat.le_trans (Nat.le_of_ble_eq_true rfl) hRs)⟩) hS (fun q _ h => hFc q h) hFc (fun r_104 M_105 t H_103 locs ht hvm hw hB hz1 hk1 hS => ?_)
                  have hWb := hW
                  obtain ⟨hW, hF2, hG2, hVP, hp_106⟩ := hw
                  obtain ⟨hP1, hD1⟩ := hB
                  rw [ht] at hP1
                  have hP : va_P D vwCl ([(za, (b13_0 0 z1 (nI z2) (nI z3) z4 z5 z6 z7 z8 z9 (nI z10) z11 z12 z13 z14 z15 (nI z16) z17 z18 z19))] ++ va_pl L M_105) H_103 := hP1
                  have hD : va_D A ([(za, (b13_0 0 z1 (nI z2) (nI z3) z4 z5 z6 z7 z8 z9 (nI z10) z11 z12 z13 z14 z15 (nI z16) z17 z18 z19))] ++ va_pl L M_105) := hD1.mono hFc
                  have hM_107 : M_105 z1 = .inl (cy 23, 8, .inr (.inr (.inr (.inr (f25))))) := (hF2.at i1 (by decide)).trans hM_95
                  obtain ⟨fs108, hM108, hn108, hl108⟩ := hW.open_12 hb_29
                  have hv_109 : fs108[21]? = some (.ref v61 : Value) := (hG2 _ hb_29 _ _ hM_96 hM108 21 (by decide)).trans hv61
                  have hv_110 : fs108[22]? = some (.ref v67 : Value) := (hG2 _ hb_29 _ _ hM_96 hM108 22 (by decide)).trans hv67
                  have hv_111 : fs108[23]? = some (.ref v77 : Value) := (hG2 _ hb_29 _ _ hM_96 hM108 23 (by decide)).trans hv77
                  have hv_112 : fs108[24]? = some (.ref v88 : Value) := (hG2 _ hb_29 _ _ hM_96 hM108 24 (by decide)).trans hv88
                  have hv_113 : fs108[25]? = some (.ref v100 : Value) := (hG2 _ hb_29 _ _ hM_96 hM108 25 (by decide)).trans hv100
                  have hM_114 : M_105 z6 = .inl (cy 14, 40, .inl (f44)) := (hF2.at i6 (by decide)).trans hM_97
                  have hF : fr K L [12, 14, 16, 30, 31, 33, 34, 41, 42, 75, 76] M M_105 := hF.tr hF2 (by decide)
                  have hG : fG K L [10] M M_105 := hG.tr hWb hG2 (by decide)
                  have hfb9 : fx M_91 b27 10 = (fx M b27 10) := congrFun hV.2.1 10
                  obtain ⟨n_115, hn9, hlt9, hV2⟩ := hVP
                  rw [hV.2.1] at hn9
                  rw [hV.2.1, hV.2.2.1] at hV2
                  have hn9 : (fx M b27 10) = (n_115 : Int) := hn9
                  have hV : VW K L M M_105 b27 (va_up (fx M b27) 10 ((n_115 + 1 : Nat) : Int)) (va_up (va_up (va_up (va_up (va_up (va_up (va_up (va_up (va_up (va_up (va_up (va_up (ax M b27) 22 (upd (ax M b27 22) ((nI j_38) : Int32).toNatClampNeg k3)) 23 (upd (ax M b27 23) ((nI j_38) : Int32).toNatClampNeg 1)) 24 (upd (ax M b27 24) ((nI j_38) : Int32).toNatClampNeg 0)) 19 (upd (ax M b27 19) (nI n_115).toNatClampNeg (nI j_101))) 20 (upd (ax M b27 20) (nI n_115).toNatClampNeg (nI j_32))) 21 (upd (ax M b27 21) (nI n_115).toNatClampNeg k3)) 22 (upd (upd (ax M b27 22) ((nI j_38) : Int32).toNatClampNeg k3) (nI n_115).toNatClampNeg (-1))) 23 (upd (upd (ax M b27 23) ((nI j_38) : Int32).toNatClampNeg 1) (nI n_115).toNatClampNeg 0)) 24 (upd (upd (ax M b27 24) ((nI j_38) : Int32).toNatClampNeg 0) (nI n_115).toNatClampNeg 0)) 25 (upd (ax M b27 25) (nI n_115).toNatClampNeg (-1))) 26 (upd (ax M b27 26) (nI n_115).toNatClampNeg 0)) 9 (upd (ax M b27 9) (nI j_32).toNatClampNeg (nI (n_115 + 1)))) := hV.tr hV2
                  obtain ⟨j_116, rfl, c_117, c_118⟩ := hp_106
                  obtain ⟨f119, hM119, hf119⟩ := hW.open_34 hc100
                  refine pg_iast hx hb hK hP hD hS hc100.1 0 hM119 rfl (inbN j_38 24 (by omega) (by omega)) dX13_die_169 (fun H_120 locs hP hD hS => ?_)
                  obtain ⟨M_121, eM_121⟩ : ∃ M1 : Hp, M1 = va_up M_105 v100 (.inl (cy 14, 24, .inl (upd f119 ((nI j_38) : Int32).toNatClampNeg (nI j_116)))) := ⟨_, rfl⟩
                  have hy25 : (upd (ax M b27 25) (nI n_115).toNatClampNeg (-1)) = f119 := (congrFun hV.2.2.1 25).symm.trans (ax_of hM108 (by decide) hv_113 hM119)
                  have hV : VW K L M M_121 b27 (va_up (fx M b27) 10 ((n_115 + 1 : Nat) : Int)) (va_up (va_up (va_up (va_up (va_up (va_up (va_up (va_up (va_up (va_up (va_up (va_up (va_up (ax M b27) 22 (upd (ax M b27 22) ((nI j_38) : Int32).toNatClampNeg k3)) 23 (upd (ax M b27 23) ((nI j_38) : Int32).toNatClampNeg 1)) 24 (upd (ax M b27 24) ((nI j_38) : Int32).toNatClampNeg 0)) 19 (upd (ax M b27 19) (nI n_115).toNatClampNeg (nI j_101))) 20 (upd (ax M b27 20) (nI n_115).toNatClampNeg (nI j_32))) 21 (upd (ax M b27 21) (nI n_115).toNatClampNeg k3)) 22 (upd (upd (ax M b27 22) ((nI j_38) : Int32).toNatClampNeg k3) (nI n_115).toNatClampNeg (-1))) 23 (upd (upd (ax M b27 23) ((nI j_38) : Int32).toNatClampNeg 1) (nI n_115).toNatClampNeg 0)) 24 (upd (upd (ax M b27 24) ((nI j_38) : Int32).toNatClampNeg 0) (nI n_115).toNatClampNeg 0)) 25 (upd (ax M b27 25) (nI n_115).toNatClampNeg (-1))) 26 (upd (ax M b27 26) (nI n_115).toNatClampNeg 0)) 9 (upd (ax M b27 9) (nI j_32).toNatClampNeg (nI (n_115 + 1)))) 25 (upd (upd (ax M b27 25) (nI n_115).toNatClampNeg (-1)) ((nI j_38) : Int32).toNatClampNeg (nI j_116))) := by rw [eM_121]; exact hV.ast (j := 25) hW hb_29 hM108 (by decide) hv_113 hc100 hM119
                  have hP : va_P D vwCl ([(za, (b13_0 0 z1 (nI z2) (nI z3) z4 z5 z6 z7 z8 z9 (nI z10) z11 z12 z13 z14 z15 (nI z16) z17 z18 z19))] ++ va_pl L M_121) H_120 := by rw [eM_121]; exact hP
                  have hD : va_D A ([(za, (b13_0 0 z1 (nI z2) (nI z3) z4 z5 z6 z7 z8 z9 (nI z10) z11 z12 z13 z14 z15 (nI z16) z17 z18 z19))] ++ va_pl L M_121) := by rw [eM_121]; exact hD
                  have hW : WOM cy K L M_121 := by rw [eM_121]; exact hW.up_34 hc100 ⟨_, rfl, (updP (P := fun z => (z = -1 ∨ ∃ c : Nat, c < 24 ∧ z = nI c)) hf119 (Or.inr ⟨j_116, by omega, rfl⟩))⟩
                  have hF : fr K L [12, 14, 16, 30, 31, 33, 34, 41, 42, 75, 76] M M_121 := by rw [eM_121]; exact hF.up hc100 (by decide)
                  have hG : fG K L [10] M M_121 := by rw [eM_121]; exact hG.arr hc100 (by decide)
                  have hM_122 : M_121 v100 = .inl (cy 14, 24, .inl (upd f119 ((nI j_38) : Int32).toNatClampNeg (nI j_116))) := by rw [eM_121]; exact va_up_self _ _ _
                  have hM_123 : M_121 z1 = .inl (cy 23, 8, .inr (.inr (.inr (.inr (f25))))) := by rw [eM_121, va_up_ne _ _ (i1.neT hc100 (by decide))]; exact hM_107
                  have hM_124 : M_121 b27 = .inr (12, fs108) := by rw [eM_121, va_up_ne _ _ (hb_29.neT hc100 (by decide))]; exact hM108
                  have hM_125 : M_121 z6 = .inl (cy 14, 40, .inl (f44)) := by rw [eM_121, va_up_ne _ _ (i6.neT hc100 (by decide))]; exact hM_114
                  have hf_127 : ∀ j, j < 24 → ((upd f119 ((nI j_38) : Int32).toNatClampNeg (nI j_116)) j = -1 ∨ ∃ c : Nat, c < 24 ∧ (upd f119 ((nI j_38) : Int32).toNatClampNeg (nI j_116)) j = nI c) := (updP (P := fun z => (z = -1 ∨ ∃ c : Nat, c < 24 ∧ z = nI c)) hf119 (Or.inr ⟨j_116, by omega, rfl⟩))
                  obtain ⟨f_126, ef_126⟩ : ∃ f : Nat → Int32, f = upd f119 ((nI j_38) : Int32).toNatClampNeg (nI j_116) := ⟨_, rfl⟩
                  rw [← ef_126] at hM_122 hf_127
                  have h25q : f_126 ((nI j_38) : Int32).toNatClampNeg = (nI j_116) := by rw [ef_126]; exact upd_self _ _ _
                  refine lv_aload_n hx hb dX13_die_170 rfl (lv_at hl 2 rfl) ?_
                  refine lv_aload hx hb dX13_die_171 (lv_at hl 1 rfl) ?_
                  refine pg_getN (D := D) (ci := 12) (v := .ref v100) (C := RX12) (T := TX12) (N := 51) hx hb hg inG12 hown hK hP hb_29.1 hM_124 rfl 25 (by decide) (hN.use (Cond.fieldLinkNest RX13 121 RX12 "heir" "[I" RX13) 34 rfl rfl) (fun _ h9 => h9) hv_113 dX13_die_173 ?_
                  refine lv_iload hx hb dX13_die_176 (lv_at hl 0 rfl) ?_
                  refine pg_iald hx hb hK hP hc100.1 0 hM_122 rfl (inbN j_38 24 (by omega) (by omega)) dX13_die_178 ?_
                  rw [h25q]
                  have hPc := hP.sub (ws' := [(za, (b13_0 0 z1 (nI z2) (nI z3) z4 z5 z6 z7 z8 z9 (nI z10) z11 z12 z13 z14 z15 (nI z16) z17 z18 z19))]) [0] rfl
                  have hDc := hD.sub (ws' := [(za, (b13_0 0 z1 (nI z2) (nI z3) z4 z5 z6 z7 z8 z9 (nI z10) z11 z12 z13 z14 z15 (nI z16) z17 z18 z19))]) [0] (by decide) rfl
                  have hKc := hK.sub (tys' := []) [] rfl
                  have hFc := va_free (wc := [(za, (b13_0 0 z1 (nI z2) (nI z3) z4 z5 z6 z7 z8 z9 (nI z10) z11 z12 z13 z14 z15 (nI z16) z17 z18 z19))]) hD hS hA [0] rfl
                  refine va_calli (va_runV (As := [.int (nI j_116)]) (rest := []) ⟨hx, hb, hml, hown, hg⟩ (m_done l D H_120.size za 0 z1 (nI z2) (nI z3) z4 z5 z6 z7 z8 z9 (nI z10) z11 z12 z13 z14 z15 (nI z16) z17 z18 z19 (nI j_116)) (cwV 1 hg (gV wd_730 wd_731 wd_732 wd_717 wd_733) rfl rfl rfl (by decide +kernel) ⟨(Nat.le_trans (Nat.le_of_ble_eq_true rfl) hRf), (Nat.le_trans (Nat.le_of_ble_eq_true rfl) hRl)⟩) ⟨Pr.blind, va_recv hK hP (ci := 13) (q0 := 0) rfl rfl, fun U hU hW => ⟨rfl, Pr.at hPc hKc hDc hN hU hW⟩⟩ rfl rfl hl.1 rfl (lv_room (Nat.le_of_ble_eq_true rfl)) dX13_die_179 ⟨(Nat.le_trans (Nat.le_of_ble_eq_true rfl) hRc), (Nat.le_trans (Nat.le_of_ble_eq_true rfl) hRs)⟩) hS (fun q _ h => hFc q h) hFc (fun r_129 M_130 t H_128 locs ht hvm hw hB hz1 hk1 hS => ?_)
                  have hp_131 := hw
                  obtain ⟨hP1, hK1, hD1⟩ := hB
                  rw [ht] at hP1
                  obtain ⟨hP, hD⟩ := va_joinQ (X := [(za, (b13_0 0 z1 (nI z2) (nI z3) z4 z5 z6 z7 z8 z9 (nI z10) z11 z12 z13 z14 z15 (nI z16) z17 z18 z19))]) (cx := [(za, (b13_0 0 z1 (nI z2) (nI z3) z4 z5 z6 z7 z8 z9 (nI z10) z11 z12 z13 z14 z15 (nI z16) z17 z18 z19))]) (wr := []) (w1 := [(za, (b13_0 0 z1 (nI z2) (nI z3) 0 (-1) z6 z7 z8 z9 (nI z10) z11 z12 z13 z14 z15 (nI z16) z17 z18 z19))]) (pl := va_pl L M_121) hP hD [0] [] rfl rfl (by decide) (by decide) hk1 hFc hP1 hD1
                  have hP : va_P D vwCl ([(za, (b13_0 0 z1 (nI z2) (nI z3) 0 (-1) z6 z7 z8 z9 (nI z10) z11 z12 z13 z14 z15 (nI z16) z17 z18 z19))] ++ va_pl L M_121) H_128 := hP
                  have hD : va_D A ([(za, (b13_0 0 z1 (nI z2) (nI z3) 0 (-1) z6 z7 z8 z9 (nI z10) z11 z12 z13 z14 z15 (nI z16) z17 z18 z19))] ++ va_pl L M_121) := hD
                  have hq := Eq.symm hp_131
                  subst hq
                  have hI_132 : (0 : Int) ≤ (k1 : Int32).toInt := inltI rfl rfl c_7
                  have hI_133 : (k1 : Int32).toInt < ((z2 : Nat) : Int) := inleI (nI_toInt (by omega)) rfl c_8
                  have hI_134 : (0 : Int) ≤ ((j_32 : Nat) : Int) := inltI (nI_toInt (by omega)) rfl c_9
                  have hI_135 : ((j_32 : Nat) : Int) < (6 : Int) := inleI rfl (nI_toInt (by omega)) c_10
                  have hI_136 : (0 : Int) ≤ ((j_101 : Nat) : Int) := inltI (nI_toInt (by omega)) rfl c_13
                  have hI_137 : ((j_101 : Nat) : Int) < ((z3 : Nat) : Int) := iltI (nI_toInt (by omega)) (nI_toInt (by omega)) c_23
                  have hI_138 : ((j_101 : Nat) : Int) < (40 : Int) := inleI rfl (nI_toInt (by omega)) n_24
                  have hI_139 : ((c_47 : Nat) : Int) = (4 : Int) := ieqI (nI_toInt (by omega)) rfl c_50
                  have hI_140 : (0 : Int) ≤ (k3 : Int32).toInt := inltI rfl rfl c_57
                  have hI_141 : (k3 : Int32).toInt < (1000 : Int) := inleI rfl rfl c_58
                  have hI_142 : (f_63 : Int32).toInt < (k3 : Int32).toInt := iltI rfl rfl c_64
                  have hI_143 : ((v31 : Nat) : Int) ≠ (24 : Int) := ineI (nI_toInt (by omega)) rfl c_65
                  have hn92 : ((nI j_32) : Int32).toInt = ((j_32 : Nat) : Int) := nI_toInt (by omega)
                  have hn94 : ((nI j_101) : Int32).toInt = ((j_101 : Nat) : Int) := nI_toInt (by omega)
                  have hyes : okDi z2 z3 PK SX SY k1 (nI j_32) k3 (nI j_101) := by unfold okDi okHS; refine ⟨⟨?_, ?_, ?_, ?_⟩, ⟨?_, ?_⟩, ?_, ?_, ⟨?_, ?_⟩, ?_, ?_⟩ <;> first | omega | assumption
                  have hA9 : HA (ax M b27 2) (ax M b27 3) := hAT.1
                  have hB9 : HB (fx M b27 16) (fx M b27 14) (ax M b27 3) (ax M b27 43) := hAT.2.1
                  have hC9 : HC ((n_115 + 1 : Nat) : Int) (upd (upd (ax M b27 22) ((nI j_38) : Int32).toNatClampNeg k3) (nI n_115).toNatClampNeg (-1)) (upd (upd (ax M b27 23) ((nI j_38) : Int32).toNatClampNeg 1) (nI n_115).toNatClampNeg 0) := HC.beg (HC.st hAT.2.2.1 (by decide)) hn9 (by omega) (nI_cl (by omega))
                  have hD9 : HD (fx M b27 0) (fx M b27 11) (fx M b27 15) (ax M b27 34) (ax M b27 41) := hAT.2.2.2.1
                  have hE9 : HE (fx M b27 0) (fx M b27 1) (fx M b27 12) (fx M b27 13) (ax M b27 37) := hAT.2.2.2.2
                  have hH9 : HI (va_up (fx M b27) 10 ((n_115 + 1 : Nat) : Int)) (va_up (va_up (va_up (va_up (va_up (va_up (va_up (va_up (va_up (va_up (va_up (va_up (va_up (ax M b27) 22 (upd (ax M b27 22) ((nI j_38) : Int32).toNatClampNeg k3)) 23 (upd (ax M b27 23) ((nI j_38) : Int32).toNatClampNeg 1)) 24 (upd (ax M b27 24) ((nI j_38) : Int32).toNatClampNeg 0)) 19 (upd (ax M b27 19) (nI n_115).toNatClampNeg (nI j_101))) 20 (upd (ax M b27 20) (nI n_115).toNatClampNeg (nI j_32))) 21 (upd (ax M b27 21) (nI n_115).toNatClampNeg k3)) 22 (upd (upd (ax M b27 22) ((nI j_38) : Int32).toNatClampNeg k3) (nI n_115).toNatClampNeg (-1))) 23 (upd (upd (ax M b27 23) ((nI j_38) : Int32).toNatClampNeg 1) (nI n_115).toNatClampNeg 0)) 24 (upd (upd (ax M b27 24) ((nI j_38) : Int32).toNatClampNeg 0) (nI n_115).toNatClampNeg 0)) 25 (upd (ax M b27 25) (nI n_115).toNatClampNeg (-1))) 26 (upd (ax M b27 26) (nI n_115).toNatClampNeg 0)) 9 (upd (ax M b27 9) (nI j_32).toNatClampNeg (nI (n_115 + 1)))) 25 (upd (upd (ax M b27 25) (nI n_115).toNatClampNeg (-1)) ((nI j_38) : Int32).toNatClampNeg (nI j_116))) := ⟨hA9, hB9, hC9, hD9, hE9⟩
                  have hGI9 : GI K L z1 z2 M_121 := GI.fin hW0 i1 b2 hGI hact hV (hF.at i1 (by decide)) hH9
                  rw [hQ]
                  exact W.iret (v := (nI j_116)) hx hb hr (fun t ht hW9 => ⟨⟨(nI j_116), M_121, rfl, ⟨hW, hF, hG, ⟨hGI9, (by unfold sxDi syDi; rw [if_pos hyes, if_pos hyes, show stN SY k1 (nI j_32) = j_38 from hsn]; exact ZSx.fin hW0 i1 b2 hZS hGI.1 hkn hb9 hV (hF.at i1 (by decide)) ((by rw [hZk.1, show ((n_115 + 1 : Nat) : Int) = SX (k1 : Int32).toNatClampNeg 10 + 1 by omega])) (by unfold dieY begY leY; rw [hZk.2, nI_cl (t := j_38) (by omega), show nI j_116 = nI (SX (k1 : Int32).toNatClampNeg 10).toNat from congrArg nI (by omega), nI_cl (t := n_115) (by omega), show n_115 = (SX (k1 : Int32).toNatClampNeg 10).toNat by omega]; first | done | rfl))⟩, (by unfold anDi; rw [if_pos hyes]; exact congrArg nI (by omega))⟩, ⟨0, by rw [ht]; exact hP, hD⟩⟩, hS.F ht⟩) hS.2.2 dX13_die_182
                · have hz := rfl (a := 0)
                  have n_144 : v31 = 24 := (iEQ (a := v31) (b := 24) (by omega) (by omega)).mp c_65
                  refine lv_aload_n hx hb dX13_die_117 rfl (lv_at hl 2 rfl) ?_
                  refine lv_bipush (v := 9) hx hb dX13_die_118 (by decide) ?_
                  have hPc := hP.sub (ws' := [(za, (b13_0 0 z1 (nI z2) (nI z3) z4 z5 z6 z7 z8 z9 (nI z10) z11 z12 z13 z14 z15 (nI z16) z17 z18 z19))]) [0] rfl
                  have hDc := hD.sub (ws' := [(za, (b13_0 0 z1 (nI z2) (nI z3) z4 z5 z6 z7 z8 z9 (nI z10) z11 z12 z13 z14 z15 (nI z16) z17 z18 z19))]) [0] (by decide) rfl
                  have hKc := hK.sub (tys' := []) [] rfl
                  have hFc := va_free (wc := [(za, (b13_0 0 z1 (nI z2) (nI z3) z4 z5 z6 z7 z8 z9 (nI z10) z11 z12 z13 z14 z15 (nI z16) z17 z18 z19))]) hD hS hA [0] rfl
                  refine va_calli (va_runV (As := [.int 9]) (rest := []) ⟨hx, hb, hml, hown, hg⟩ (m_refused l D H_52.size za 0 z1 (nI z2) (nI z3) z4 z5 z6 z7 z8 z9 (nI z10) z11 z12 z13 z14 z15 (nI z16) z17 z18 z19 9) (cwV 1 hg (gV wd_725 wd_726 wd_727 wd_717 wd_728) rfl rfl rfl (by decide +kernel) ⟨(Nat.le_trans (Nat.le_of_ble_eq_true rfl) hRf), (Nat.le_trans (Nat.le_of_ble_eq_true rfl) hRl)⟩) ⟨Pr.blind, va_recv hK hP (ci := 13) (q0 := 0) rfl rfl, fun U hU hW => ⟨rfl, Pr.at hPc hKc hDc hN hU hW⟩⟩ rfl rfl hl.1 rfl (lv_room (Nat.le_of_ble_eq_true rfl)) dX13_die_120 ⟨(Nat.le_trans (Nat.le_of_ble_eq_true rfl) hRc), (Nat.le_trans (Nat.le_of_ble_eq_true rfl) hRs)⟩) hS (fun q _ h => hFc q h) hFc (fun r_146 M_147 t H_145 locs ht hvm hw hB hz1 hk1 hS => ?_)
                  have hp_148 := hw
                  obtain ⟨hP1, hK1, hD1⟩ := hB
                  rw [ht] at hP1
                  obtain ⟨hP, hD⟩ := va_joinQ (X := [(za, (b13_0 0 z1 (nI z2) (nI z3) z4 z5 z6 z7 z8 z9 (nI z10) z11 z12 z13 z14 z15 (nI z16) z17 z18 z19))]) (cx := [(za, (b13_0 0 z1 (nI z2) (nI z3) z4 z5 z6 z7 z8 z9 (nI z10) z11 z12 z13 z14 z15 (nI z16) z17 z18 z19))]) (wr := []) (w1 := [(za, (b13_0 0 z1 (nI z2) (nI z3) 9 (-1) z6 z7 z8 z9 (nI z10) z11 z12 z13 z14 z15 (nI z16) z17 z18 z19))]) (pl := va_pl L M) hP hD [0] [] rfl rfl (by decide) (by decide) hk1 hFc hP1 hD1
                  have hP : va_P D vwCl ([(za, (b13_0 0 z1 (nI z2) (nI z3) 9 (-1) z6 z7 z8 z9 (nI z10) z11 z12 z13 z14 z15 (nI z16) z17 z18 z19))] ++ va_pl L M) H_145 := hP
                  have hD : va_D A ([(za, (b13_0 0 z1 (nI z2) (nI z3) 9 (-1) z6 z7 z8 z9 (nI z10) z11 z12 z13 z14 z15 (nI z16) z17 z18 z19))] ++ va_pl L M) := hD
                  have hq := Eq.symm hp_148
                  subst hq
                  have hI_149 : (0 : Int) ≤ (k1 : Int32).toInt := inltI rfl rfl c_7
                  have hI_150 : (k1 : Int32).toInt < ((z2 : Nat) : Int) := inleI (nI_toInt (by omega)) rfl c_8
                  have hI_151 : (0 : Int) ≤ ((j_32 : Nat) : Int) := inltI (nI_toInt (by omega)) rfl c_9
                  have hI_152 : ((j_32 : Nat) : Int) < (6 : Int) := inleI rfl (nI_toInt (by omega)) c_10
                  have hI_153 : (0 : Int) ≤ (k4 : Int32).toInt := inltI rfl rfl c_13
                  have hI_154 : (k4 : Int32).toInt < ((z3 : Nat) : Int) := iltI rfl (nI_toInt (by omega)) c_23
                  have hI_155 : (k4 : Int32).toInt < (40 : Int) := inleI rfl rfl n_24
                  have hI_156 : ((c_47 : Nat) : Int) = (4 : Int) := ieqI (nI_toInt (by omega)) rfl c_50
                  have hI_157 : (0 : Int) ≤ (k3 : Int32).toInt := inltI rfl rfl c_57
                  have hI_158 : (k3 : Int32).toInt < (1000 : Int) := inleI rfl rfl c_58
                  have hI_159 : (f_63 : Int32).toInt < (k3 : Int32).toInt := iltI rfl rfl c_64
                  have hI_160 : ((v31 : Nat) : Int) = (24 : Int) := ieqI (nI_toInt (by omega)) rfl c_65
                  have hn92 : ((nI j_32) : Int32).toInt = ((j_32 : Nat) : Int) := nI_toInt (by omega)
                  have hno : ¬ okDi z2 z3 PK SX SY k1 (nI j_32) k3 k4 := fun q9 => by unfold okDi okHS at q9; first | omega | (obtain ⟨⟨_, _, _, _⟩, ⟨_, _⟩, _, _, ⟨_, _⟩, _, _⟩ := q9; first | omega | contradiction)
                  rw [hQ]
                  exact W.iret (v := (-1)) hx hb hr (fun t ht hW9 => ⟨⟨(-1), M, rfl, ⟨hW, hF, hG, ⟨hGI, (by unfold sxDi syDi; rw [if_neg hno, if_neg hno]; exact hZS)⟩, (by unfold anDi; rw [if_neg hno])⟩, ⟨9, by rw [ht]; exact hP, hD⟩⟩, hS.F ht⟩) hS.2.2 dX13_die_123
              · have hz := rfl (a := 0)
                refine lv_aload_n hx hb dX13_die_101 rfl (lv_at hl 2 rfl) ?_
                refine lv_iconst (v := 3) hx hb dX13_die_102 (by decide) ?_
                have hPc := hP.sub (ws' := [(za, (b13_0 0 z1 (nI z2) (nI z3) z4 z5 z6 z7 z8 z9 (nI z10) z11 z12 z13 z14 z15 (nI z16) z17 z18 z19))]) [0] rfl
                have hDc := hD.sub (ws' := [(za, (b13_0 0 z1 (nI z2) (nI z3) z4 z5 z6 z7 z8 z9 (nI z10) z11 z12 z13 z14 z15 (nI z16) z17 z18 z19))]) [0] (by decide) rfl
                have hKc := hK.sub (tys' := []) [] rfl
                have hFc := va_free (wc := [(za, (b13_0 0 z1 (nI z2) (nI z3) z4 z5 z6 z7 z8 z9 (nI z10) z11 z12 z13 z14 z15 (nI z16) z17 z18 z19))]) hD hS hA [0] rfl
                refine va_calli (va_runV (As := [.int 3]) (rest := []) ⟨hx, hb, hml, hown, hg⟩ (m_refused l D H_52.size za 0 z1 (nI z2) (nI z3) z4 z5 z6 z7 z8 z9 (nI z10) z11 z12 z13 z14 z15 (nI z16) z17 z18 z19 3) (cwV 1 hg (gV wd_725 wd_726 wd_727 wd_717 wd_728) rfl rfl rfl (by decide +kernel) ⟨(Nat.le_trans (Nat.le_of_ble_eq_true rfl) hRf), (Nat.le_trans (Nat.le_of_ble_eq_true rfl) hRl)⟩) ⟨Pr.blind, va_recv hK hP (ci := 13) (q0 := 0) rfl rfl, fun U hU hW => ⟨rfl, Pr.at hPc hKc hDc hN hU hW⟩⟩ rfl rfl hl.1 rfl (lv_room (Nat.le_of_ble_eq_true rfl)) dX13_die_103 ⟨(Nat.le_trans (Nat.le_of_ble_eq_true rfl) hRc), (Nat.le_trans (Nat.le_of_ble_eq_true rfl) hRs)⟩) hS (fun q _ h => hFc q h) hFc (fun r_162 M_163 t H_161 locs ht hvm hw hB hz1 hk1 hS => ?_)
                have hp_164 := hw
                obtain ⟨hP1, hK1, hD1⟩ := hB
                rw [ht] at hP1
                obtain ⟨hP, hD⟩ := va_joinQ (X := [(za, (b13_0 0 z1 (nI z2) (nI z3) z4 z5 z6 z7 z8 z9 (nI z10) z11 z12 z13 z14 z15 (nI z16) z17 z18 z19))]) (cx := [(za, (b13_0 0 z1 (nI z2) (nI z3) z4 z5 z6 z7 z8 z9 (nI z10) z11 z12 z13 z14 z15 (nI z16) z17 z18 z19))]) (wr := []) (w1 := [(za, (b13_0 0 z1 (nI z2) (nI z3) 3 (-1) z6 z7 z8 z9 (nI z10) z11 z12 z13 z14 z15 (nI z16) z17 z18 z19))]) (pl := va_pl L M) hP hD [0] [] rfl rfl (by decide) (by decide) hk1 hFc hP1 hD1
                have hP : va_P D vwCl ([(za, (b13_0 0 z1 (nI z2) (nI z3) 3 (-1) z6 z7 z8 z9 (nI z10) z11 z12 z13 z14 z15 (nI z16) z17 z18 z19))] ++ va_pl L M) H_161 := hP
                have hD : va_D A ([(za, (b13_0 0 z1 (nI z2) (nI z3) 3 (-1) z6 z7 z8 z9 (nI z10) z11 z12 z13 z14 z15 (nI z16) z17 z18 z19))] ++ va_pl L M) := hD
                have hq := Eq.symm hp_164
                subst hq
                have hI_165 : (0 : Int) ≤ (k1 : Int32).toInt := inltI rfl rfl c_7
                have hI_166 : (k1 : Int32).toInt < ((z2 : Nat) : Int) := inleI (nI_toInt (by omega)) rfl c_8
                have hI_167 : (0 : Int) ≤ ((j_32 : Nat) : Int) := inltI (nI_toInt (by omega)) rfl c_9
                have hI_168 : ((j_32 : Nat) : Int) < (6 : Int) := inleI rfl (nI_toInt (by omega)) c_10
                have hI_169 : (0 : Int) ≤ (k4 : Int32).toInt := inltI rfl rfl c_13
                have hI_170 : (k4 : Int32).toInt < ((z3 : Nat) : Int) := iltI rfl (nI_toInt (by omega)) c_23
                have hI_171 : (k4 : Int32).toInt < (40 : Int) := inleI rfl rfl n_24
                have hI_172 : ((c_47 : Nat) : Int) = (4 : Int) := ieqI (nI_toInt (by omega)) rfl c_50
                have hI_173 : (0 : Int) ≤ (k3 : Int32).toInt := inltI rfl rfl c_57
                have hI_174 : (k3 : Int32).toInt < (1000 : Int) := inleI rfl rfl c_58
                have hI_175 : (k3 : Int32).toInt ≤ (f_63 : Int32).toInt := inltI rfl rfl c_64
                have hn92 : ((nI j_32) : Int32).toInt = ((j_32 : Nat) : Int) := nI_toInt (by omega)
                have hno : ¬ okDi z2 z3 PK SX SY k1 (nI j_32) k3 k4 := fun q9 => by unfold okDi okHS at q9; first | omega | (obtain ⟨⟨_, _, _, _⟩, ⟨_, _⟩, _, _, ⟨_, _⟩, _, _⟩ := q9; first | omega | contradiction)
                rw [hQ]
                exact W.iret (v := (-1)) hx hb hr (fun t ht hW9 => ⟨⟨(-1), M, rfl, ⟨hW, hF, hG, ⟨hGI, (by unfold sxDi syDi; rw [if_neg hno, if_neg hno]; exact hZS)⟩, (by unfold anDi; rw [if_neg hno])⟩, ⟨3, by rw [ht]; exact hP, hD⟩⟩, hS.F ht⟩) hS.2.2 dX13_die_106
            · have hz := rfl (a := 0)
              refine lv_if_eq (tgt := 101) hx hb dX13_die_86 (by decide) (fun _ => ?_) (fun c_176 => absurd c_176 (by decide))
              refine lv_aload_n hx hb dX13_die_101 rfl (lv_at hl 2 rfl) ?_
              refine lv_iconst (v := 3) hx hb dX13_die_102 (by decide) ?_
              have hPc := hP.sub (ws' := [(za, (b13_0 0 z1 (nI z2) (nI z3) z4 z5 z6 z7 z8 z9 (nI z10) z11 z12 z13 z14 z15 (nI z16) z17 z18 z19))]) [0] rfl
              have hDc := hD.sub (ws' := [(za, (b13_0 0 z1 (nI z2) (nI z3) z4 z5 z6 z7 z8 z9 (nI z10) z11 z12 z13 z14 z15 (nI z16) z17 z18 z19))]) [0] (by decide) rfl
              have hKc := hK.sub (tys' := []) [] rfl
              have hFc := va_free (wc := [(za, (b13_0 0 z1 (nI z2) (nI z3) z4 z5 z6 z7 z8 z9 (nI z10) z11 z12 z13 z14 z15 (nI z16) z17 z18 z19))]) hD hS hA [0] rfl
              refine va_calli (va_runV (As := [.int 3]) (rest := []) ⟨hx, hb, hml, hown, hg⟩ (m_refused l D H_52.size za 0 z1 (nI z2) (nI z3) z4 z5 z6 z7 z8 z9 (nI z10) z11 z12 z13 z14 z15 (nI z16) z17 z18 z19 3) (cwV 1 hg (gV wd_725 wd_726 wd_727 wd_717 wd_728) rfl rfl rfl (by decide +kernel) ⟨(Nat.le_trans (Nat.le_of_ble_eq_true rfl) hRf), (Nat.le_trans (Nat.le_of_ble_eq_true rfl) hRl)⟩) ⟨Pr.blind, va_recv hK hP (ci := 13) (q0 := 0) rfl rfl, fun U hU hW => ⟨rfl, Pr.at hPc hKc hDc hN hU hW⟩⟩ rfl rfl hl.1 rfl (lv_room (Nat.le_of_ble_eq_true rfl)) dX13_die_103 ⟨(Nat.le_trans (Nat.le_of_ble_eq_true rfl) hRc), (Nat.le_trans (Nat.le_of_ble_eq_true rfl) hRs)⟩) hS (fun q _ h => hFc q h) hFc (fun r_178 M_179 t H_177 locs ht hvm hw hB hz1 hk1 hS => ?_)
              have hp_180 := hw
              obtain ⟨hP1, hK1, hD1⟩ := hB
              rw [ht] at hP1
              obtain ⟨hP, hD⟩ := va_joinQ (X := [(za, (b13_0 0 z1 (nI z2) (nI z3) z4 z5 z6 z7 z8 z9 (nI z10) z11 z12 z13 z14 z15 (nI z16) z17 z18 z19))]) (cx := [(za, (b13_0 0 z1 (nI z2) (nI z3) z4 z5 z6 z7 z8 z9 (nI z10) z11 z12 z13 z14 z15 (nI z16) z17 z18 z19))]) (wr := []) (w1 := [(za, (b13_0 0 z1 (nI z2) (nI z3) 3 (-1) z6 z7 z8 z9 (nI z10) z11 z12 z13 z14 z15 (nI z16) z17 z18 z19))]) (pl := va_pl L M) hP hD [0] [] rfl rfl (by decide) (by decide) hk1 hFc hP1 hD1
              have hP : va_P D vwCl ([(za, (b13_0 0 z1 (nI z2) (nI z3) 3 (-1) z6 z7 z8 z9 (nI z10) z11 z12 z13 z14 z15 (nI z16) z17 z18 z19))] ++ va_pl L M) H_177 := hP
              have hD : va_D A ([(za, (b13_0 0 z1 (nI z2) (nI z3) 3 (-1) z6 z7 z8 z9 (nI z10) z11 z12 z13 z14 z15 (nI z16) z17 z18 z19))] ++ va_pl L M) := hD
              have hq := Eq.symm hp_180
              subst hq
              have hI_181 : (0 : Int) ≤ (k1 : Int32).toInt := inltI rfl rfl c_7
              have hI_182 : (k1 : Int32).toInt < ((z2 : Nat) : Int) := inleI (nI_toInt (by omega)) rfl c_8
              have hI_183 : (0 : Int) ≤ ((j_32 : Nat) : Int) := inltI (nI_toInt (by omega)) rfl c_9
              have hI_184 : ((j_32 : Nat) : Int) < (6 : Int) := inleI rfl (nI_toInt (by omega)) c_10
              have hI_185 : (0 : Int) ≤ (k4 : Int32).toInt := inltI rfl rfl c_13
              have hI_186 : (k4 : Int32).toInt < ((z3 : Nat) : Int) := iltI rfl (nI_toInt (by omega)) c_23
              have hI_187 : (k4 : Int32).toInt < (40 : Int) := inleI rfl rfl n_24
              have hI_188 : ((c_47 : Nat) : Int) = (4 : Int) := ieqI (nI_toInt (by omega)) rfl c_50
              have hn92 : ((nI j_32) : Int32).toInt = ((j_32 : Nat) : Int) := nI_toInt (by omega)
              have hno : ¬ okDi z2 z3 PK SX SY k1 (nI j_32) k3 k4 := fun q9 => by unfold okDi okHS at q9; first | omega | (obtain ⟨⟨_, _, _, _⟩, ⟨_, _⟩, _, _, ⟨_, _⟩, _, _⟩ := q9; first | omega | contradiction)
              rw [hQ]
              exact W.iret (v := (-1)) hx hb hr (fun t ht hW9 => ⟨⟨(-1), M, rfl, ⟨hW, hF, hG, ⟨hGI, (by unfold sxDi syDi; rw [if_neg hno, if_neg hno]; exact hZS)⟩, (by unfold anDi; rw [if_neg hno])⟩, ⟨3, by rw [ht]; exact hP, hD⟩⟩, hS.F ht⟩) hS.2.2 dX13_die_106
          · have hz := rfl (a := 0)
            have n_189 : ¬ (c_47 = 4) := fun q => c_50 ((iEQ (a := c_47) (b := 4) (by omega) (by omega)).mpr q)
            refine lv_aload_n hx hb dX13_die_74 rfl (lv_at hl 2 rfl) ?_
            refine lv_iconst (v := 2) hx hb dX13_die_75 (by decide) ?_
            have hPc := hP.sub (ws' := [(za, (b13_0 0 z1 (nI z2) (nI z3) z4 z5 z6 z7 z8 z9 (nI z10) z11 z12 z13 z14 z15 (nI z16) z17 z18 z19))]) [0] rfl
            have hDc := hD.sub (ws' := [(za, (b13_0 0 z1 (nI z2) (nI z3) z4 z5 z6 z7 z8 z9 (nI z10) z11 z12 z13 z14 z15 (nI z16) z17 z18 z19))]) [0] (by decide) rfl
            have hKc := hK.sub (tys' := []) [] rfl
            have hFc := va_free (wc := [(za, (b13_0 0 z1 (nI z2) (nI z3) z4 z5 z6 z7 z8 z9 (nI z10) z11 z12 z13 z14 z15 (nI z16) z17 z18 z19))]) hD hS hA [0] rfl
            refine va_calli (va_runV (As := [.int 2]) (rest := []) ⟨hx, hb, hml, hown, hg⟩ (m_refused l D H_34.size za 0 z1 (nI z2) (nI z3) z4 z5 z6 z7 z8 z9 (nI z10) z11 z12 z13 z14 z15 (nI z16) z17 z18 z19 2) (cwV 1 hg (gV wd_725 wd_726 wd_727 wd_717 wd_728) rfl rfl rfl (by decide +kernel) ⟨(Nat.le_trans (Nat.le_of_ble_eq_true rfl) hRf), (Nat.le_trans (Nat.le_of_ble_eq_true rfl) hRl)⟩) ⟨Pr.blind, va_recv hK hP (ci := 13) (q0 := 0) rfl rfl, fun U hU hW => ⟨rfl, Pr.at hPc hKc hDc hN hU hW⟩⟩ rfl rfl hl.1 rfl (lv_room (Nat.le_of_ble_eq_true rfl)) dX13_die_76 ⟨(Nat.le_trans (Nat.le_of_ble_eq_true rfl) hRc), (Nat.le_trans (Nat.le_of_ble_eq_true rfl) hRs)⟩) hS (fun q _ h => hFc q h) hFc (fun r_191 M_192 t H_190 locs ht hvm hw hB hz1 hk1 hS => ?_)
            have hp_193 := hw
            obtain ⟨hP1, hK1, hD1⟩ := hB
            rw [ht] at hP1
            obtain ⟨hP, hD⟩ := va_joinQ (X := [(za, (b13_0 0 z1 (nI z2) (nI z3) z4 z5 z6 z7 z8 z9 (nI z10) z11 z12 z13 z14 z15 (nI z16) z17 z18 z19))]) (cx := [(za, (b13_0 0 z1 (nI z2) (nI z3) z4 z5 z6 z7 z8 z9 (nI z10) z11 z12 z13 z14 z15 (nI z16) z17 z18 z19))]) (wr := []) (w1 := [(za, (b13_0 0 z1 (nI z2) (nI z3) 2 (-1) z6 z7 z8 z9 (nI z10) z11 z12 z13 z14 z15 (nI z16) z17 z18 z19))]) (pl := va_pl L M) hP hD [0] [] rfl rfl (by decide) (by decide) hk1 hFc hP1 hD1
            have hP : va_P D vwCl ([(za, (b13_0 0 z1 (nI z2) (nI z3) 2 (-1) z6 z7 z8 z9 (nI z10) z11 z12 z13 z14 z15 (nI z16) z17 z18 z19))] ++ va_pl L M) H_190 := hP
            have hD : va_D A ([(za, (b13_0 0 z1 (nI z2) (nI z3) 2 (-1) z6 z7 z8 z9 (nI z10) z11 z12 z13 z14 z15 (nI z16) z17 z18 z19))] ++ va_pl L M) := hD
            have hq := Eq.symm hp_193
            subst hq
            have hI_194 : (0 : Int) ≤ (k1 : Int32).toInt := inltI rfl rfl c_7
            have hI_195 : (k1 : Int32).toInt < ((z2 : Nat) : Int) := inleI (nI_toInt (by omega)) rfl c_8
            have hI_196 : (0 : Int) ≤ ((j_32 : Nat) : Int) := inltI (nI_toInt (by omega)) rfl c_9
            have hI_197 : ((j_32 : Nat) : Int) < (6 : Int) := inleI rfl (nI_toInt (by omega)) c_10
            have hI_198 : (0 : Int) ≤ (k4 : Int32).toInt := inltI rfl rfl c_13
            have hI_199 : (k4 : Int32).toInt < ((z3 : Nat) : Int) := iltI rfl (nI_toInt (by omega)) c_23
            have hI_200 : (k4 : Int32).toInt < (40 : Int) := inleI rfl rfl n_24
            have hI_201 : ((c_47 : Nat) : Int) ≠ (4 : Int) := ineI (nI_toInt (by omega)) rfl c_50
            have hn92 : ((nI j_32) : Int32).toInt = ((j_32 : Nat) : Int) := nI_toInt (by omega)
            have hno : ¬ okDi z2 z3 PK SX SY k1 (nI j_32) k3 k4 := fun q9 => by unfold okDi okHS at q9; first | omega | (obtain ⟨⟨_, _, _, _⟩, ⟨_, _⟩, _, _, ⟨_, _⟩, _, _⟩ := q9; first | omega | contradiction)
            rw [hQ]
            exact W.iret (v := (-1)) hx hb hr (fun t ht hW9 => ⟨⟨(-1), M, rfl, ⟨hW, hF, hG, ⟨hGI, (by unfold sxDi syDi; rw [if_neg hno, if_neg hno]; exact hZS)⟩, (by unfold anDi; rw [if_neg hno])⟩, ⟨2, by rw [ht]; exact hP, hD⟩⟩, hS.F ht⟩) hS.2.2 dX13_die_79
        · have hz := rfl (a := 0)
          have hhs : ¬ hold (SY (k1 : Int32).toNatClampNeg) ((nI j_32) : Int32).toNatClampNeg := by rw [← hZk.2, nI_cl (by omega)]; exact c_42
          refine lv_istore (lv' := [(6, .int (-1)), (5, .ref b27), (0, .ref za), (1, .int k1), (2, .int (nI j_32)), (3, .int k3), (4, .int k4)]) hx hb dX13_die_49 hl (by decide) rfl (fun ls hl => ?_)
          refine lv_iload hx hb dX13_die_51 (lv_at hl 0 rfl) ?_
          refine lv_iconst (v := (-1)) hx hb dX13_die_53 (by decide) ?_
          refine lv_icmp_ne (tgt := 63) hx hb dX13_die_54 (by decide) (fun c_202 => absurd c_202 (by decide)) (fun _ => ?_)
          refine lv_aload_n hx hb dX13_die_57 rfl (lv_at hl 2 rfl) ?_
          refine lv_iconst (v := 4) hx hb dX13_die_58 (by decide) ?_
          have hPc := hP.sub (ws' := [(za, (b13_0 0 z1 (nI z2) (nI z3) z4 z5 z6 z7 z8 z9 (nI z10) z11 z12 z13 z14 z15 (nI z16) z17 z18 z19))]) [0] rfl
          have hDc := hD.sub (ws' := [(za, (b13_0 0 z1 (nI z2) (nI z3) z4 z5 z6 z7 z8 z9 (nI z10) z11 z12 z13 z14 z15 (nI z16) z17 z18 z19))]) [0] (by decide) rfl
          have hKc := hK.sub (tys' := []) [] rfl
          have hFc := va_free (wc := [(za, (b13_0 0 z1 (nI z2) (nI z3) z4 z5 z6 z7 z8 z9 (nI z10) z11 z12 z13 z14 z15 (nI z16) z17 z18 z19))]) hD hS hA [0] rfl
          refine va_calli (va_runV (As := [.int 4]) (rest := []) ⟨hx, hb, hml, hown, hg⟩ (m_refused l D H_34.size za 0 z1 (nI z2) (nI z3) z4 z5 z6 z7 z8 z9 (nI z10) z11 z12 z13 z14 z15 (nI z16) z17 z18 z19 4) (cwV 1 hg (gV wd_725 wd_726 wd_727 wd_717 wd_728) rfl rfl rfl (by decide +kernel) ⟨(Nat.le_trans (Nat.le_of_ble_eq_true rfl) hRf), (Nat.le_trans (Nat.le_of_ble_eq_true rfl) hRl)⟩) ⟨Pr.blind, va_recv hK hP (ci := 13) (q0 := 0) rfl rfl, fun U hU hW => ⟨rfl, Pr.at hPc hKc hDc hN hU hW⟩⟩ rfl rfl hl.1 rfl (lv_room (Nat.le_of_ble_eq_true rfl)) dX13_die_59 ⟨(Nat.le_trans (Nat.le_of_ble_eq_true rfl) hRc), (Nat.le_trans (Nat.le_of_ble_eq_true rfl) hRs)⟩) hS (fun q _ h => hFc q h) hFc (fun r_204 M_205 t H_203 locs ht hvm hw hB hz1 hk1 hS => ?_)
          have hp_206 := hw
          obtain ⟨hP1, hK1, hD1⟩ := hB
          rw [ht] at hP1
          obtain ⟨hP, hD⟩ := va_joinQ (X := [(za, (b13_0 0 z1 (nI z2) (nI z3) z4 z5 z6 z7 z8 z9 (nI z10) z11 z12 z13 z14 z15 (nI z16) z17 z18 z19))]) (cx := [(za, (b13_0 0 z1 (nI z2) (nI z3) z4 z5 z6 z7 z8 z9 (nI z10) z11 z12 z13 z14 z15 (nI z16) z17 z18 z19))]) (wr := []) (w1 := [(za, (b13_0 0 z1 (nI z2) (nI z3) 4 (-1) z6 z7 z8 z9 (nI z10) z11 z12 z13 z14 z15 (nI z16) z17 z18 z19))]) (pl := va_pl L M) hP hD [0] [] rfl rfl (by decide) (by decide) hk1 hFc hP1 hD1
          have hP : va_P D vwCl ([(za, (b13_0 0 z1 (nI z2) (nI z3) 4 (-1) z6 z7 z8 z9 (nI z10) z11 z12 z13 z14 z15 (nI z16) z17 z18 z19))] ++ va_pl L M) H_203 := hP
          have hD : va_D A ([(za, (b13_0 0 z1 (nI z2) (nI z3) 4 (-1) z6 z7 z8 z9 (nI z10) z11 z12 z13 z14 z15 (nI z16) z17 z18 z19))] ++ va_pl L M) := hD
          have hq := Eq.symm hp_206
          subst hq
          have hI_207 : (0 : Int) ≤ (k1 : Int32).toInt := inltI rfl rfl c_7
          have hI_208 : (k1 : Int32).toInt < ((z2 : Nat) : Int) := inleI (nI_toInt (by omega)) rfl c_8
          have hI_209 : (0 : Int) ≤ ((j_32 : Nat) : Int) := inltI (nI_toInt (by omega)) rfl c_9
          have hI_210 : ((j_32 : Nat) : Int) < (6 : Int) := inleI rfl (nI_toInt (by omega)) c_10
          have hI_211 : (0 : Int) ≤ (k4 : Int32).toInt := inltI rfl rfl c_13
          have hI_212 : (k4 : Int32).toInt < ((z3 : Nat) : Int) := iltI rfl (nI_toInt (by omega)) c_23
          have hI_213 : (k4 : Int32).toInt < (40 : Int) := inleI rfl rfl n_24
          have hn92 : ((nI j_32) : Int32).toInt = ((j_32 : Nat) : Int) := nI_toInt (by omega)
          have hno : ¬ okDi z2 z3 PK SX SY k1 (nI j_32) k3 k4 := fun q9 => by unfold okDi okHS at q9; first | omega | (obtain ⟨⟨_, _, _, _⟩, ⟨_, _⟩, _, _, ⟨_, _⟩, _, _⟩ := q9; first | omega | contradiction)
          rw [hQ]
          exact W.iret (v := (-1)) hx hb hr (fun t ht hW9 => ⟨⟨(-1), M, rfl, ⟨hW, hF, hG, ⟨hGI, (by unfold sxDi syDi; rw [if_neg hno, if_neg hno]; exact hZS)⟩, (by unfold anDi; rw [if_neg hno])⟩, ⟨4, by rw [ht]; exact hP, hD⟩⟩, hS.F ht⟩) hS.2.2 dX13_die_62
      · have hz := rfl (a := 0)
        refine lv_aload_n hx hb dX13_die_28 rfl (lv_at hl 0 rfl) ?_
        refine lv_iconst (v := 1) hx hb dX13_die_29 (by decide) ?_
        have hPc := hP.sub (ws' := [(za, (b13_0 0 z1 (nI z2) (nI z3) z4 z5 z6 z7 z8 z9 (nI z10) z11 z12 z13 z14 z15 (nI z16) z17 z18 z19))]) [0] rfl
        have hDc := hD.sub (ws' := [(za, (b13_0 0 z1 (nI z2) (nI z3) z4 z5 z6 z7 z8 z9 (nI z10) z11 z12 z13 z14 z15 (nI z16) z17 z18 z19))]) [0] (by decide) rfl
        have hKc := hK.sub (tys' := []) [] rfl
        have hFc := va_free (wc := [(za, (b13_0 0 z1 (nI z2) (nI z3) z4 z5 z6 z7 z8 z9 (nI z10) z11 z12 z13 z14 z15 (nI z16) z17 z18 z19))]) hD hS hA [0] rfl
        refine va_calli (va_runV (As := [.int 1]) (rest := []) ⟨hx, hb, hml, hown, hg⟩ (m_refused l D H_2.size za 0 z1 (nI z2) (nI z3) z4 z5 z6 z7 z8 z9 (nI z10) z11 z12 z13 z14 z15 (nI z16) z17 z18 z19 1) (cwV 1 hg (gV wd_725 wd_726 wd_727 wd_717 wd_728) rfl rfl rfl (by decide +kernel) ⟨(Nat.le_trans (Nat.le_of_ble_eq_true rfl) hRf), (Nat.le_trans (Nat.le_of_ble_eq_true rfl) hRl)⟩) ⟨Pr.blind, va_recv hK hP (ci := 13) (q0 := 0) rfl rfl, fun U hU hW => ⟨rfl, Pr.at hPc hKc hDc hN hU hW⟩⟩ rfl rfl hl.1 rfl (lv_room (Nat.le_of_ble_eq_true rfl)) dX13_die_30 ⟨(Nat.le_trans (Nat.le_of_ble_eq_true rfl) hRc), (Nat.le_trans (Nat.le_of_ble_eq_true rfl) hRs)⟩) hS (fun q _ h => hFc q h) hFc (fun r_215 M_216 t H_214 locs ht hvm hw hB hz1 hk1 hS => ?_)
        have hp_217 := hw
        obtain ⟨hP1, hK1, hD1⟩ := hB
        rw [ht] at hP1
        obtain ⟨hP, hD⟩ := va_joinQ (X := [(za, (b13_0 0 z1 (nI z2) (nI z3) z4 z5 z6 z7 z8 z9 (nI z10) z11 z12 z13 z14 z15 (nI z16) z17 z18 z19))]) (cx := [(za, (b13_0 0 z1 (nI z2) (nI z3) z4 z5 z6 z7 z8 z9 (nI z10) z11 z12 z13 z14 z15 (nI z16) z17 z18 z19))]) (wr := []) (w1 := [(za, (b13_0 0 z1 (nI z2) (nI z3) 1 (-1) z6 z7 z8 z9 (nI z10) z11 z12 z13 z14 z15 (nI z16) z17 z18 z19))]) (pl := va_pl L M) hP hD [0] [] rfl rfl (by decide) (by decide) hk1 hFc hP1 hD1
        have hP : va_P D vwCl ([(za, (b13_0 0 z1 (nI z2) (nI z3) 1 (-1) z6 z7 z8 z9 (nI z10) z11 z12 z13 z14 z15 (nI z16) z17 z18 z19))] ++ va_pl L M) H_214 := hP
        have hD : va_D A ([(za, (b13_0 0 z1 (nI z2) (nI z3) 1 (-1) z6 z7 z8 z9 (nI z10) z11 z12 z13 z14 z15 (nI z16) z17 z18 z19))] ++ va_pl L M) := hD
        have hq := Eq.symm hp_217
        subst hq
        have hI_218 : (0 : Int) ≤ (k1 : Int32).toInt := inltI rfl rfl c_7
        have hI_219 : (k1 : Int32).toInt < ((z2 : Nat) : Int) := inleI (nI_toInt (by omega)) rfl c_8
        have hI_220 : (0 : Int) ≤ (k2 : Int32).toInt := inltI rfl rfl c_9
        have hI_221 : (k2 : Int32).toInt < (6 : Int) := inleI rfl rfl c_10
        have hI_222 : (0 : Int) ≤ (k4 : Int32).toInt := inltI rfl rfl c_13
        have hI_223 : ((z3 : Nat) : Int) ≤ (k4 : Int32).toInt := inltI rfl (nI_toInt (by omega)) c_23
        have hno : ¬ okDi z2 z3 PK SX SY k1 k2 k3 k4 := fun q9 => by unfold okDi okHS at q9; first | omega | (obtain ⟨⟨_, _, _, _⟩, ⟨_, _⟩, _, _, ⟨_, _⟩, _, _⟩ := q9; first | omega | contradiction)
        rw [hQ]
        exact W.iret (v := (-1)) hx hb hr (fun t ht hW9 => ⟨⟨(-1), M, rfl, ⟨hW, hF, hG, ⟨hGI, (by unfold sxDi syDi; rw [if_neg hno, if_neg hno]; exact hZS)⟩, (by unfold anDi; rw [if_neg hno])⟩, ⟨1, by rw [ht]; exact hP, hD⟩⟩, hS.F ht⟩) hS.2.2 dX13_die_33
  · have hz := rfl (a := 0)
    refine lv_if_eq (tgt := 28) hx hb dX13_die_11 (by decide) (fun _ => ?_) (fun c_224 => absurd c_224 (by decide))
    refine lv_aload_n hx hb dX13_die_28 rfl (lv_at hl 0 rfl) ?_
    refine lv_iconst (v := 1) hx hb dX13_die_29 (by decide) ?_
    have hPc := hP.sub (ws' := [(za, (b13_0 0 z1 (nI z2) (nI z3) z4 z5 z6 z7 z8 z9 (nI z10) z11 z12 z13 z14 z15 (nI z16) z17 z18 z19))]) [0] rfl
    have hDc := hD.sub (ws' := [(za, (b13_0 0 z1 (nI z2) (nI z3) z4 z5 z6 z7 z8 z9 (nI z10) z11 z12 z13 z14 z15 (nI z16) z17 z18 z19))]) [0] (by decide) rfl
    have hKc := hK.sub (tys' := []) [] rfl
    have hFc := va_free (wc := [(za, (b13_0 0 z1 (nI z2) (nI z3) z4 z5 z6 z7 z8 z9 (nI z10) z11 z12 z13 z14 z15 (nI z16) z17 z18 z19))]) hD hS hA [0] rfl
    refine va_calli (va_runV (As := [.int 1]) (rest := []) ⟨hx, hb, hml, hown, hg⟩ (m_refused l D H_2.size za 0 z1 (nI z2) (nI z3) z4 z5 z6 z7 z8 z9 (nI z10) z11 z12 z13 z14 z15 (nI z16) z17 z18 z19 1) (cwV 1 hg (gV wd_725 wd_726 wd_727 wd_717 wd_728) rfl rfl rfl (by decide +kernel) ⟨(Nat.le_trans (Nat.le_of_ble_eq_true rfl) hRf), (Nat.le_trans (Nat.le_of_ble_eq_true rfl) hRl)⟩) ⟨Pr.blind, va_recv hK hP (ci := 13) (q0 := 0) rfl rfl, fun U hU hW => ⟨rfl, Pr.at hPc hKc hDc hN hU hW⟩⟩ rfl rfl hl.1 rfl (lv_room (Nat.le_of_ble_eq_true rfl)) dX13_die_30 ⟨(Nat.le_trans (Nat.le_of_ble_eq_true rfl) hRc), (Nat.le_trans (Nat.le_of_ble_eq_true rfl) hRs)⟩) hS (fun q _ h => hFc q h) hFc (fun r_226 M_227 t H_225 locs ht hvm hw hB hz1 hk1 hS => ?_)
    have hp_228 := hw
    obtain ⟨hP1, hK1, hD1⟩ := hB
    rw [ht] at hP1
    obtain ⟨hP, hD⟩ := va_joinQ (X := [(za, (b13_0 0 z1 (nI z2) (nI z3) z4 z5 z6 z7 z8 z9 (nI z10) z11 z12 z13 z14 z15 (nI z16) z17 z18 z19))]) (cx := [(za, (b13_0 0 z1 (nI z2) (nI z3) z4 z5 z6 z7 z8 z9 (nI z10) z11 z12 z13 z14 z15 (nI z16) z17 z18 z19))]) (wr := []) (w1 := [(za, (b13_0 0 z1 (nI z2) (nI z3) 1 (-1) z6 z7 z8 z9 (nI z10) z11 z12 z13 z14 z15 (nI z16) z17 z18 z19))]) (pl := va_pl L M) hP hD [0] [] rfl rfl (by decide) (by decide) hk1 hFc hP1 hD1
    have hP : va_P D vwCl ([(za, (b13_0 0 z1 (nI z2) (nI z3) 1 (-1) z6 z7 z8 z9 (nI z10) z11 z12 z13 z14 z15 (nI z16) z17 z18 z19))] ++ va_pl L M) H_225 := hP
    have hD : va_D A ([(za, (b13_0 0 z1 (nI z2) (nI z3) 1 (-1) z6 z7 z8 z9 (nI z10) z11 z12 z13 z14 z15 (nI z16) z17 z18 z19))] ++ va_pl L M) := hD
    have hq := Eq.symm hp_228
    subst hq
    have hno : ¬ okDi z2 z3 PK SX SY k1 k2 k3 k4 := fun q9 => by unfold okDi okHS at q9; first | omega | (obtain ⟨⟨_, _, _, _⟩, ⟨_, _⟩, _, _, ⟨_, _⟩, _, _⟩ := q9; first | omega | contradiction)
    rw [hQ]
    exact W.iret (v := (-1)) hx hb hr (fun t ht hW9 => ⟨⟨(-1), M, rfl, ⟨hW, hF, hG, ⟨hGI, (by unfold sxDi syDi; rw [if_neg hno, if_neg hno]; exact hZS)⟩, (by unfold anDi; rw [if_neg hno])⟩, ⟨1, by rw [ht]; exact hP, hD⟩⟩, hS.F ht⟩) hS.2.2 dX13_die_33
