/-- the reference's rows of partners -/
def ZP (z6 z7 : Nat) (PK PT : Nat → Int32) (M : Hp) : Prop := IFc (M z6) = PK ∧ IFc (M z7) = PT
theorem ZP.mv {K : Kp} {L ts : List Nat} {z6 z7 : Nat} {PK PT : Nat → Int32} {M M1 : Hp} (h : ZP z6 z7 PK PT M) (i6 : isk K L z6 47 40) (i7 : isk K L z7 48 40) (hF : fr K L ts M M1) (h1 : 47 ∉ ts) (h2 : 48 ∉ ts) : ZP z6 z7 PK PT M1 := by
  unfold ZP
  rw [hF.at i6 h1, hF.at i7 h2]
  exact h
theorem ZSx.house {cy : Nat → ClassId} {K : Kp} {L : List Nat} {M M1 : Hp} {z1 n b : Nat} {SX : Nat → Nat → Int} {SY : Nat → Nat → Nat → Int32} {X : Nat → Int} {Y : Nat → Nat → Int32} (hW : WOM cy K L M) (i1 : isk K L z1 23 8) (hn : n < 8) (h : ZSx z1 n SX SY M) (hd : ∀ i j a, i < 8 → j < 8 → RFc (M z1) i = some a → RFc (M z1) j = some a → i = j) (hb : RFc (M z1) n = some b) (hV : VW K L M M1 b X Y) (hq : M1 z1 = M z1) : ZSx z1 (n + 1) (va_up SX n X) (va_up SY n Y) M1 := fun j a hj ha => by
  rw [hq] at ha
  by_cases z : j = n
  · subst z
    have e : a = b := Option.some.inj (ha.symm.trans hb)
    rw [va_up_self, va_up_self, e]
    exact ⟨hV.2.1, hV.2.2.1⟩
  · have hab : a ≠ b := fun w => z (hd j n a (by omega) (by omega) ha (by rw [w]; exact hb))
    have hv := hV.1 a (hs23 hW i1 (by omega) ha) hab
    rw [va_up_ne _ _ z, va_up_ne _ _ z, hv.1, hv.2]
    exact h j a (by omega) ha
set_option maxHeartbeats 4000000 in
set_option maxRecDepth 100000 in
theorem z_house (l : Launch) (D : va_G) (cy : Nat → ClassId) (K : Kp) (L : List Nat) (M : Hp) (sz : Nat) (za : Nat) (z0 : Int32) (z1 : Nat) (z2 : Nat) (z3 : Nat) (z4 : Int32) (z5 : Int32) (z6 : Nat) (z7 : Nat) (z8 : Nat) (z9 : Nat) (z10 : Nat) (z11 : Nat) (z12 : Nat) (z13 : Nat) (z14 : Nat) (z15 : Nat) (z16 : Nat) (z17 : Nat) (z18 : Int32) (z19 : Nat) (k1 : Int32) (SX : Nat → Nat → Int) (SY : Nat → Nat → Nat → Int32) (hW : WOM cy K L M) (i1 : isk K L z1 23 8) (b2 : z2 ≤ 8) (b3 : z3 ≤ 40) (i6 : isk K L z6 47 40) (i7 : isk K L z7 48 40) (i8 : isk K L z8 49 8) (i9 : isk K L z9 50 8) (b10 : z10 ≤ 8) (i11 : isk K L z11 32 24) (i12 : isk K L z12 14 24) (i13 : isk K L z13 97 24) (i14 : isk K L z14 98 24) (i15 : isk K L z15 99 24) (b16 : z16 ≤ 24) (i17 : isk K L z17 14 24) (i19 : isk K L z19 15 25) (hGI : GI K L z1 z2 M) (hZS : ZSx z1 z2 SX SY M) : Met l yX13_house (wsM yX13_house cX13_house 4 (some .int)) ({ frames := 1, cells := 0, slots := 0, locals := 21 }) (va_Pc [.ref za, .int k1] (PG D cy [(za, (b13_0 z0 z1 (nI z2) (nI z3) z4 z5 z6 z7 z8 z9 (nI z10) z11 z12 z13 z14 z15 (nI z16) z17 z18 z19))] L M sz)) (va_Qi (fun (r : Int32) (M9 : Hp) => WOM cy K L M9 ∧ fr K L [12, 37] M M9 ∧ fG K L [0, 1] M M9 ∧ (GI K L z1 (cntH k1 z2) M9 ∧ ∃ (X9 : Nat → Int) (Y9 : Nat → Nat → Int32), (okHo z2 k1 → HOUSF k1 X9 Y9) ∧ ZSx z1 (cntH k1 z2) (sxHo z2 SX k1 X9) (syHo z2 SY k1 Y9) M9) ∧ ((r = ansH k1 z2))) (fun M9 t => ∃ (w4 : Int32), PQ D [(za, (b13_0 0 z1 (nI (cntH k1 z2)) (nI z3) w4 (-1) z6 z7 z8 z9 (nI z10) z11 z12 z13 z14 z15 (nI z16) z17 z18 z19))] L M9 (va_A ([(za, (b13_0 z0 z1 (nI z2) (nI z3) z4 z5 z6 z7 z8 z9 (nI z10) z11 z12 z13 z14 z15 (nI z16) z17 z18 z19))] ++ va_pl L M) sz) t) (va_A ([(za, (b13_0 z0 z1 (nI z2) (nI z3) z4 z5 z6 z7 z8 z9 (nI z10) z11 z12 z13 z14 z15 (nI z16) z17 z18 z19))] ++ va_pl L M) sz)) 0 0 (va_A ([(za, (b13_0 z0 z1 (nI z2) (nI z3) z4 z5 z6 z7 z8 z9 (nI z10) z11 z12 z13 z14 z15 (nI z16) z17 z18 z19))] ++ va_pl L M) sz) := by
  refine Met.ofW (cc := cX13_house) (maxL := 4) (ret := (some .int)) (by decide) rfl ?_
  intro p e s m args below meth c s₁ B hml hv
  obtain ⟨rfl, hsz, hP, hK, hD0, hN⟩ := hv
  have hx := B.exec
  have hb := B.bytes
  have hr := B.returns
  have hts := atoms_spec (ws := (wsM yX13_house cX13_house 4 (some .int))) B.pre
  have hg : ∀ w ∈ lw_good, w.before _ s = true := fun w h => hts w (List.mem_cons_of_mem _ h)
  have hown : s.vm.findClass RX13 = some m.cls := findClass_of_methodNamed B.named
  have hlocks := B.notSynchronized
  subst hsz
  have hD := hD0.self (sz := s.heap.size)
  generalize hAe : va_A ([(za, (b13_0 z0 z1 (nI z2) (nI z3) z4 z5 z6 z7 z8 z9 (nI z10) z11 z12 z13 z14 z15 (nI z16) z17 z18 z19))] ++ va_pl L M) s.heap.size = A at hD ⊢
  have hA : ∀ q : Nat, s.heap.size ≤ q → A q := fun q h => by rw [← hAe]; exact Or.inr h
  have hS : va_S A s.heap s.heap [] := va_S.rf
  have hl := lv_entry ([.ref za, .int k1]) (n := 4) (Nat.le_of_ble_eq_true rfl)
  rw [lg_entry_eq]
  generalize (lg_sl ([.ref za, .int k1]) ++ List.replicate (4 - (lg_sl ([.ref za, .int k1])).length) Slot.unset).toArray = ls at hl ⊢
  refine W.nameQ (fun Q hQ => ?_)
  refine W.nameR (fun R hR => ?_)
  have hRf : 1 ≤ R.frames := by rw [hR]; exact Nat.le_of_ble_eq_true rfl
  have hRl : 21 ≤ R.locals := by rw [hR]; exact Nat.le_of_ble_eq_true rfl
  have hRc : 0 ≤ R.cells := by rw [hR]; exact Nat.le_of_ble_eq_true rfl
  have hRs : 0 ≤ R.slots := by rw [hR]; exact Nat.le_of_ble_eq_true rfl
  have hF : fr K L [12, 37] M M := fr.rf
  have hG : fG K L [0, 1] M M := fG.rf
  have hl : lv_has ls 4 [(0, .ref za), (1, .int k1)] := hl
  have hW0 := hW
  refine lv_aload_n hx hb dX13_house_0 rfl (lv_at hl 0 rfl) ?_
  refine lv_iconst (v := 0) hx hb dX13_house_1 (by decide) ?_
  refine va_put (D := D) (ci := 13) (v := .int 0) (ty := .int) (C := RX13) (T := TX13) (N := 20) hx hb hg inG13 tyX13 tyX13_ok nmX13 hown hK hP hD hS 0 rfl rfl 0 (by decide) (hg _ wd_720) (fun _ h9 => h9) rfl (by decide +kernel) rfl rfl (Nat.le_of_ble_eq_true rfl) dX13_house_2 (fun H_1 locs hP hD hS => ?_)
  have hP : va_P D vwCl ([(za, (b13_0 0 z1 (nI z2) (nI z3) z4 z5 z6 z7 z8 z9 (nI z10) z11 z12 z13 z14 z15 (nI z16) z17 z18 z19))] ++ va_pl L M) H_1 := hP
  have hD : va_D A ([(za, (b13_0 0 z1 (nI z2) (nI z3) z4 z5 z6 z7 z8 z9 (nI z10) z11 z12 z13 z14 z15 (nI z16) z17 z18 z19))] ++ va_pl L M) := hD
  refine lv_iload_n hx hb dX13_house_5 rfl (lv_at hl 1 rfl) ?_
  refine lv_if_lt (tgt := 16) hx hb dX13_house_6 (by decide) (fun c_2 => ?_) (fun c_2 => ?_)
  · have hz := rfl (a := 0)
    refine lv_aload_n hx hb dX13_house_16 rfl (lv_at hl 0 rfl) ?_
    refine lv_iconst (v := 2) hx hb dX13_house_17 (by decide) ?_
    have hPc := hP.sub (ws' := [(za, (b13_0 0 z1 (nI z2) (nI z3) z4 z5 z6 z7 z8 z9 (nI z10) z11 z12 z13 z14 z15 (nI z16) z17 z18 z19))]) [0] rfl
    have hDc := hD.sub (ws' := [(za, (b13_0 0 z1 (nI z2) (nI z3) z4 z5 z6 z7 z8 z9 (nI z10) z11 z12 z13 z14 z15 (nI z16) z17 z18 z19))]) [0] (by decide) rfl
    have hKc := hK.sub (tys' := []) [] rfl
    have hFc := va_free (wc := [(za, (b13_0 0 z1 (nI z2) (nI z3) z4 z5 z6 z7 z8 z9 (nI z10) z11 z12 z13 z14 z15 (nI z16) z17 z18 z19))]) hD hS hA [0] rfl
    refine va_calli (va_runV (As := [.int 2]) (rest := []) ⟨hx, hb, hml, hown, hg⟩ (m_refused l D H_1.size za 0 z1 (nI z2) (nI z3) z4 z5 z6 z7 z8 z9 (nI z10) z11 z12 z13 z14 z15 (nI z16) z17 z18 z19 2) (cwV 1 hg (gV wd_725 wd_726 wd_727 wd_717 wd_728) rfl rfl rfl (by decide +kernel) ⟨(Nat.le_trans (Nat.le_of_ble_eq_true rfl) hRf), (Nat.le_trans (Nat.le_of_ble_eq_true rfl) hRl)⟩) ⟨Pr.blind, va_recv hK hP (ci := 13) (q0 := 0) rfl rfl, fun U hU hW => ⟨rfl, Pr.at hPc hKc hDc hN hU hW⟩⟩ rfl rfl hl.1 rfl (lv_room (Nat.le_of_ble_eq_true rfl)) dX13_house_18 ⟨(Nat.le_trans (Nat.le_of_ble_eq_true rfl) hRc), (Nat.le_trans (Nat.le_of_ble_eq_true rfl) hRs)⟩) hS (fun q _ h => hFc q h) hFc (fun r_4 M_5 t H_3 locs ht hvm hw hB hz1 hk1 hS => ?_)
    have hp_6 := hw
    obtain ⟨hP1, hK1, hD1⟩ := hB
    rw [ht] at hP1
    obtain ⟨hP, hD⟩ := va_joinQ (X := [(za, (b13_0 0 z1 (nI z2) (nI z3) z4 z5 z6 z7 z8 z9 (nI z10) z11 z12 z13 z14 z15 (nI z16) z17 z18 z19))]) (cx := [(za, (b13_0 0 z1 (nI z2) (nI z3) z4 z5 z6 z7 z8 z9 (nI z10) z11 z12 z13 z14 z15 (nI z16) z17 z18 z19))]) (wr := []) (w1 := [(za, (b13_0 0 z1 (nI z2) (nI z3) 2 (-1) z6 z7 z8 z9 (nI z10) z11 z12 z13 z14 z15 (nI z16) z17 z18 z19))]) (pl := va_pl L M) hP hD [0] [] rfl rfl (by decide) (by decide) hk1 hFc hP1 hD1
    have hP : va_P D vwCl ([(za, (b13_0 0 z1 (nI z2) (nI z3) 2 (-1) z6 z7 z8 z9 (nI z10) z11 z12 z13 z14 z15 (nI z16) z17 z18 z19))] ++ va_pl L M) H_3 := hP
    have hD : va_D A ([(za, (b13_0 0 z1 (nI z2) (nI z3) 2 (-1) z6 z7 z8 z9 (nI z10) z11 z12 z13 z14 z15 (nI z16) z17 z18 z19))] ++ va_pl L M) := hD
    have hq := Eq.symm hp_6
    subst hq
    have hE : cntH k1 z2 = z2 := by unfold cntH; rw [if_pos c_2]
    have hP : va_P D vwCl ([(za, (b13_0 0 z1 (nI (cntH k1 z2)) (nI z3) 2 (-1) z6 z7 z8 z9 (nI z10) z11 z12 z13 z14 z15 (nI z16) z17 z18 z19))] ++ va_pl L M) H_3 := by rw [hE]; exact hP
    have hD : va_D A ([(za, (b13_0 0 z1 (nI (cntH k1 z2)) (nI z3) 2 (-1) z6 z7 z8 z9 (nI z10) z11 z12 z13 z14 z15 (nI z16) z17 z18 z19))] ++ va_pl L M) := by rw [hE]; exact hD
    have hGI9 : GI K L z1 (cntH k1 z2) M := by rw [show cntH k1 z2 = z2 from by unfold cntH; rw [if_pos c_2]]; exact hGI
    have hI_7 : (k1 : Int32).toInt < (0 : Int) := iltI rfl rfl c_2
    have hno : ¬ okHo z2 k1 := fun q9 => by unfold okHo at q9; omega
    rw [hQ]
    exact W.iret (v := (-1)) hx hb hr (fun t ht hW9 => ⟨⟨(-1), M, rfl, ⟨hW, hF, hG, ⟨hGI9, fun _ => 0, fun _ _ => 0, fun w9 => absurd w9 hno, by rw [hE]; unfold sxHo syHo; rw [if_neg hno, if_neg hno]; exact hZS⟩, (by unfold ansH; rw [if_pos c_2]; first | done | rfl)⟩, ⟨2, by rw [ht]; exact hP, hD⟩⟩, hS.F ht⟩) hS.2.2 dX13_house_21
  · have hz := rfl (a := 0)
    refine lv_iload_n hx hb dX13_house_9 rfl (lv_at hl 1 rfl) ?_
    refine lv_sipush (v := 900) hx hb dX13_house_10 (by decide) ?_
    refine lv_icmp_le (tgt := 22) hx hb dX13_house_13 (by decide) (fun c_8 => ?_) (fun c_8 => ?_)
    · have hz := rfl (a := 0)
      refine lv_aload_n hx hb dX13_house_22 rfl (lv_at hl 0 rfl) ?_
      refine va_get (D := D) (ci := 13) (v := .int (nI z2)) (C := RX13) (T := TX13) (N := 20) hx hb hg inG13 hown hK hP 0 rfl rfl 2 (by decide) (hg _ wd_713) (fun _ h9 => h9) rfl dX13_house_23 ?_
      refine lv_bipush (v := 8) hx hb dX13_house_26 (by decide) ?_
      refine lv_icmp_ne (tgt := 38) hx hb dX13_house_28 (by decide) (fun c_9 => ?_) (fun c_9 => ?_)
      · have hz := rfl (a := 0)
        have n_10 : ¬ (z2 = 8) := fun q => c_9 ((iEQ (a := z2) (b := 8) (by omega) (by omega)).mpr q)
        refine lv_aload_n hx hb dX13_house_38 rfl (lv_at hl 0 rfl) ?_
        refine va_get (D := D) (ci := 13) (v := .ref z1) (C := RX13) (T := TX13) (N := 20) hx hb hg inG13 hown hK hP 0 rfl rfl 1 (by decide) (hg _ wd_739) (fun _ h9 => h9) rfl dX13_house_39 ?_
        refine lv_aload_n hx hb dX13_house_42 rfl (lv_at hl 0 rfl) ?_
        refine va_get (D := D) (ci := 13) (v := .int (nI z2)) (C := RX13) (T := TX13) (N := 20) hx hb hg inG13 hown hK hP 0 rfl rfl 2 (by decide) (hg _ wd_713) (fun _ h9 => h9) rfl dX13_house_43 ?_
        obtain ⟨f11, hM11, hf11⟩ := hW.open_23 i1
        have hi_12 : vp_in (nI z2) 8 := (inbN z2 8 (by omega) (by omega))
        refine pg_aldq hx hb hK hP i1.1 9 hM11 rfl hi_12 dX13_house_46 ?_
        obtain ⟨b13, eb_14, hb_15⟩ := hf11 _ (vp_lt hi_12)
        rw [eb_14]
        have hact : RFc (M z1) z2 = some b13 := by
          rw [show RFc (M z1) = f11 from by rw [hM11]; rfl]
          have h := eb_14
          rw [nI_cl (by omega)] at h
          exact h
        have hFR := hGI.2.2.1 z2 b13 (Nat.le_refl _) (by omega) hact
        have hV : VW K L M M b13 (fx M b13) (ax M b13) := VW.rf b13 hGI.2.2.2
        refine lv_astore_n (lv' := [(2, .ref b13), (0, .ref za), (1, .int k1)]) hx hb dX13_house_47 rfl hl (by decide) rfl (fun ls hl => ?_)
        obtain ⟨j_16, hj_17, rfl⟩ := i32nat 901 (by decide) c_2 (leB (b := 901) (c := 900) (by decide) (by decide) c_8)
        obtain ⟨fs18, hM18, hn18, hl18⟩ := hW.open_12 hb_15
        obtain ⟨v19, hv19, hc19⟩ : ∃ v : Nat, fs18[3]? = some (.ref v : Value) ∧ isk K L v 35 1000 := hl18 3 (by decide)
        obtain ⟨f20, hM20, hf20⟩ := hW.open_35 hc19
        have hy3 : (ax M b13 3) = f20 := (congrFun hV.2.2.1 3).symm.trans (ax_of hM18 (by decide) hv19 hM20)
        have h3nn : ∀ d, d < 1000 → 0 ≤ (ax M b13 3 d).toInt := fun d hd => by
          obtain ⟨c, hc, e⟩ := hf20 d hd
          rw [hy3, e, nI_toInt (by omega)]
          omega
        refine lv_aload_n hx hb dX13_house_48 rfl (lv_at hl 0 rfl) ?_
        refine lv_iload_n hx hb dX13_house_49 rfl (lv_at hl 2 rfl) ?_
        refine pg_putN (D := D) (ci := 12) (v := .int (nI j_16)) (ty := .int) (C := RX12) (T := TX12) (N := 51) hx hb hg inG12 tyX12 tyX12_ok nmX12 hown hK hP hD hS hb_15.1 hM18 rfl 0 (by decide) (hN.use (Cond.fieldLinkNest RX13 77 RX12 "first" "I" RX13) 9 rfl rfl) (fun _ h9 => h9) rfl (by decide +kernel) rfl rfl (by rw [hn18]; decide) dX13_house_50 (fun H_21 locs hP hD hS => ?_)
        have hs_24 : (fs18.set 0 (.int (nI j_16)))[0]? = some (.int (nI j_16)) := List.getElem?_set_self (by rw [hn18]; decide)
        have hk_23 := fld12_set (k := 0) (w := .int (nI j_16)) hl18 (show fld12 K L 0 (fs18.set 0 (.int (nI j_16))) from ⟨j_16, hs_24, by omega⟩)
        have hn_25 : (fs18.set 0 (.int (nI j_16))).length = 51 := by rw [List.length_set]; exact hn18
        have hv_26 : (fs18.set 0 (.int (nI j_16)))[3]? = some (.ref v19) := by rw [List.getElem?_set_ne (by decide)]; exact hv19
        have hb_27 : j_16 ≤ 999 := by omega
        obtain ⟨M_28, eM_28⟩ : ∃ M1 : Hp, M1 = va_up M b13 (.inr (12, fs18.set 0 (.int (nI j_16)))) := ⟨_, rfl⟩
        have hV : VW K L M M_28 b13 (va_up (fx M b13) 0 ((j_16 : Nat) : Int)) (ax M b13) := by rw [eM_28]; exact hV.put hW hb_15 hM18 hn18 rfl (by decide) rfl (nI_toInt (by omega))
        have hP : va_P D vwCl ([(za, (b13_0 0 z1 (nI z2) (nI z3) z4 z5 z6 z7 z8 z9 (nI z10) z11 z12 z13 z14 z15 (nI z16) z17 z18 z19))] ++ va_pl L M_28) H_21 := by rw [eM_28]; exact hP
        have hD : va_D A ([(za, (b13_0 0 z1 (nI z2) (nI z3) z4 z5 z6 z7 z8 z9 (nI z10) z11 z12 z13 z14 z15 (nI z16) z17 z18 z19))] ++ va_pl L M_28) := by rw [eM_28]; exact hD
        have hW : WOM cy K L M_28 := by rw [eM_28]; exact hW.up_12 hb_15 ⟨_, rfl, hn_25, hk_23⟩
        have hF : fr K L [12, 37] M M_28 := by rw [eM_28]; exact hF.up hb_15 (by decide)
        have hG : fG K L [0, 1] M M_28 := by rw [eM_28]; exact hG.up hM18 (by decide)
        have hM_29 : M_28 b13 = .inr (12, fs18.set 0 (.int (nI j_16))) := by rw [eM_28]; exact va_up_self _ _ _
        have hM_30 : M_28 z1 = .inl (cy 23, 8, .inr (.inr (.inr (.inr (f11))))) := by rw [eM_28, va_up_ne _ _ (i1.neT hb_15 (by decide))]; exact hM11
        have hM_31 : M_28 v19 = .inl (cy 14, 1000, .inl (f20)) := by rw [eM_28, va_up_ne _ _ (hc19.neT hb_15 (by decide))]; exact hM20
        refine lv_aload_n hx hb dX13_house_53 rfl (lv_at hl 0 rfl) ?_
        refine lv_iload_n hx hb dX13_house_54 rfl (lv_at hl 2 rfl) ?_
        refine lv_iconst (v := 1) hx hb dX13_house_55 (by decide) ?_
        refine lv_isub hx hb dX13_house_56 ?_
        refine lv_topi (fun f_32 ef_32 => ?_)
        rcases Nat.eq_zero_or_pos j_16 with hz0 | hz1
        · obtain rfl : f_32 = (-1) := by rw [ef_32, hz0]; decide
          refine pg_putN (D := D) (ci := 12) (v := .int (-1)) (ty := .int) (C := RX12) (T := TX12) (N := 51) hx hb hg inG12 tyX12 tyX12_ok nmX12 hown hK hP hD hS hb_15.1 hM_29 rfl 1 (by decide) (hN.use (Cond.fieldLinkNest RX13 80 RX12 "to" "I" RX13) 10 rfl rfl) (fun _ h9 => h9) rfl (by decide +kernel) rfl rfl (by rw [hn_25]; decide) dX13_house_57 (fun H_33 locs hP hD hS => ?_)
          have hs_36 : ((fs18.set 0 (.int (nI j_16))).set 1 (.int (-1)))[1]? = some (.int (-1)) := List.getElem?_set_self (by rw [hn_25]; decide)
          have hk_35 := fld12_set (k := 1) (w := .int (-1)) hk_23 (show fld12 K L 1 ((fs18.set 0 (.int (nI j_16))).set 1 (.int (-1))) from ⟨(-1), hs_36, Or.inl rfl⟩)
          have hn_37 : ((fs18.set 0 (.int (nI j_16))).set 1 (.int (-1))).length = 51 := by rw [List.length_set]; exact hn_25
          have hv_38 : ((fs18.set 0 (.int (nI j_16))).set 1 (.int (-1)))[3]? = some (.ref v19) := by rw [List.getElem?_set_ne (by decide)]; exact hv_26
          have hv_39 : ((fs18.set 0 (.int (nI j_16))).set 1 (.int (-1)))[0]? = some (.int (nI j_16)) := by rw [List.getElem?_set_ne (by decide)]; exact hs_24
          obtain ⟨M_40, eM_40⟩ : ∃ M1 : Hp, M1 = va_up M_28 b13 (.inr (12, (fs18.set 0 (.int (nI j_16))).set 1 (.int (-1)))) := ⟨_, rfl⟩
          have hV : VW K L M M_40 b13 (va_up (va_up (fx M b13) 0 ((j_16 : Nat) : Int)) 1 ((-1) : Int)) (ax M b13) := by rw [eM_40]; exact hV.put hW hb_15 hM_29 hn_25 rfl (by decide) rfl (by decide)
          have hP : va_P D vwCl ([(za, (b13_0 0 z1 (nI z2) (nI z3) z4 z5 z6 z7 z8 z9 (nI z10) z11 z12 z13 z14 z15 (nI z16) z17 z18 z19))] ++ va_pl L M_40) H_33 := by rw [eM_40]; exact hP
          have hD : va_D A ([(za, (b13_0 0 z1 (nI z2) (nI z3) z4 z5 z6 z7 z8 z9 (nI z10) z11 z12 z13 z14 z15 (nI z16) z17 z18 z19))] ++ va_pl L M_40) := by rw [eM_40]; exact hD
          have hW : WOM cy K L M_40 := by rw [eM_40]; exact hW.up_12 hb_15 ⟨_, rfl, hn_37, hk_35⟩
          have hF : fr K L [12, 37] M M_40 := by rw [eM_40]; exact hF.up hb_15 (by decide)
          have hG : fG K L [0, 1] M M_40 := by rw [eM_40]; exact hG.up hM_29 (by decide)
          have hM_41 : M_40 b13 = .inr (12, (fs18.set 0 (.int (nI j_16))).set 1 (.int (-1))) := by rw [eM_40]; exact va_up_self _ _ _
          have hM_42 : M_40 z1 = .inl (cy 23, 8, .inr (.inr (.inr (.inr (f11))))) := by rw [eM_40, va_up_ne _ _ (i1.neT hb_15 (by decide))]; exact hM_30
          have hM_43 : M_40 v19 = .inl (cy 14, 1000, .inl (f20)) := by rw [eM_40, va_up_ne _ _ (hc19.neT hb_15 (by decide))]; exact hM_31
          refine lv_iconst (v := 0) hx hb dX13_house_60 (by decide) ?_
          refine lv_istore_n (lv' := [(3, .int 0), (2, .ref b13), (0, .ref za), (1, .int (nI j_16))]) hx hb dX13_house_61 rfl hl (by decide) rfl (fun ls hl => ?_)
          have key_44 : ∀ (fu_46 : Nat) (v3w47 : Nat) (gw47 : Nat → Int32) (M_50 : Hp) (H_51 : Heap) (locs : List Loc) (ls : Array Slot), 1000 - v3w47 < fu_46 → M_50 b13 = .inr (12, (fs18.set 0 (.int (nI j_16))).set 1 (.int (-1))) → v3w47 ≤ 1000 → (∀ i : Nat, i < v3w47 → gw47 i = -1) → WOM cy K L M_50 → fr K L [12, 37] M M_50 → fG K L [0, 1] M M_50 → VW K L M M_50 b13 (va_up (va_up (fx M b13) 0 ((j_16 : Nat) : Int)) 1 ((-1) : Int)) (va_up (ax M b13) 2 gw47) → va_P D vwCl ([(za, (b13_0 0 z1 (nI z2) (nI z3) z4 z5 z6 z7 z8 z9 (nI z10) z11 z12 z13 z14 z15 (nI z16) z17 z18 z19))] ++ va_pl L M_50) H_51 → va_D A ([(za, (b13_0 0 z1 (nI z2) (nI z3) z4 z5 z6 z7 z8 z9 (nI z10) z11 z12 z13 z14 z15 (nI z16) z17 z18 z19))] ++ va_pl L M_50) → va_S A s.heap H_51 locs → lv_has ls 4 [(3, .int (nI v3w47)), (2, .ref b13), (0, .ref za), (1, .int (nI j_16))] → W p l e R s m ([.ref za, .int (nI j_16)] : List Value).toArray below meth c H_51 locs 0 0 Q (F0 m 62 ls []) := by
            intro fu_46
            induction fu_46 with
            | zero => intro v3w47 gw47 M_50 H_51 locs ls h; exact absurd h (Nat.not_lt_zero _)
            | succ fu_46 ih_45 =>
              intro v3w47 gw47 M_50 H_51 locs ls hfu hM_52 hx_48 hx_49 hW hF hG hV hP hD hS hl
              refine lv_iload_n hx hb dX13_house_62 rfl (lv_at hl 0 rfl) ?_
              refine lv_sipush (v := 1000) hx hb dX13_house_63 (by decide) ?_
              refine lv_icmp_ge (tgt := 82) hx hb dX13_house_66 (by decide) (fun c_53 => ?_) (fun c_53 => ?_)
              · have hz := rfl (a := 0)
                have n_54 : 1000 ≤ v3w47 := (iLE (a := 1000) (b := v3w47) (by omega) (by omega)).mp c_53
                refine lv_aload_n hx hb dX13_house_82 rfl (lv_at hl 2 rfl) ?_
                refine lv_dup hx hb dX13_house_83 rfl ?_
                refine va_get (D := D) (ci := 13) (v := .int (nI z2)) (C := RX13) (T := TX13) (N := 20) hx hb hg inG13 hown hK hP 0 rfl rfl 2 (by decide) (hg _ wd_713) (fun _ h9 => h9) rfl dX13_house_84 ?_
                refine lv_iconst (v := 1) hx hb dX13_house_87 (by decide) ?_
                refine lv_iadd hx hb dX13_house_88 ?_
                refine lv_topi (fun f_55 ef_55 => ?_)
                obtain rfl : f_55 = (nI (z2 + 1)) := ef_55.trans (nI_add z2 1)
                refine va_put (D := D) (ci := 13) (v := .int (nI (z2 + 1))) (ty := .int) (C := RX13) (T := TX13) (N := 20) hx hb hg inG13 tyX13 tyX13_ok nmX13 hown hK hP hD hS 0 rfl rfl 2 (by decide) (hg _ wd_713) (fun _ h9 => h9) rfl (by decide +kernel) rfl rfl (Nat.le_of_ble_eq_true rfl) dX13_house_89 (fun H_56 locs hP hD hS => ?_)
                have hP : va_P D vwCl ([(za, (b13_0 0 z1 (nI (z2 + 1)) (nI z3) z4 z5 z6 z7 z8 z9 (nI z10) z11 z12 z13 z14 z15 (nI z16) z17 z18 z19))] ++ va_pl L M_50) H_56 := hP
                have hD : va_D A ([(za, (b13_0 0 z1 (nI (z2 + 1)) (nI z3) z4 z5 z6 z7 z8 z9 (nI z10) z11 z12 z13 z14 z15 (nI z16) z17 z18 z19))] ++ va_pl L M_50) := hD
                refine lv_aload_n hx hb dX13_house_92 rfl (lv_at hl 2 rfl) ?_
                refine lv_aload_n hx hb dX13_house_93 rfl (lv_at hl 2 rfl) ?_
                refine va_get (D := D) (ci := 13) (v := .int (nI (z2 + 1))) (C := RX13) (T := TX13) (N := 20) hx hb hg inG13 hown hK hP 0 rfl rfl 2 (by decide) (hg _ wd_713) (fun _ h9 => h9) rfl dX13_house_94 ?_
                refine lv_iconst (v := 1) hx hb dX13_house_97 (by decide) ?_
                refine lv_isub hx hb dX13_house_98 ?_
                refine lv_topi (fun f_57 ef_57 => ?_)
                obtain rfl : f_57 = (nI ((z2 + 1) - 1)) := ef_57.trans (nI_prd (by omega))
                have hPc := hP.sub (ws' := [(za, (b13_0 0 z1 (nI (z2 + 1)) (nI z3) z4 z5 z6 z7 z8 z9 (nI z10) z11 z12 z13 z14 z15 (nI z16) z17 z18 z19))]) [0] rfl
                have hDc := hD.sub (ws' := [(za, (b13_0 0 z1 (nI (z2 + 1)) (nI z3) z4 z5 z6 z7 z8 z9 (nI z10) z11 z12 z13 z14 z15 (nI z16) z17 z18 z19))]) [0] (by decide) rfl
                have hKc := hK.sub (tys' := []) [] rfl
                have hFc := va_free (wc := [(za, (b13_0 0 z1 (nI (z2 + 1)) (nI z3) z4 z5 z6 z7 z8 z9 (nI z10) z11 z12 z13 z14 z15 (nI z16) z17 z18 z19))]) hD hS hA [0] rfl
                refine va_calli (va_runV (As := [.int (nI ((z2 + 1) - 1))]) (rest := []) ⟨hx, hb, hml, hown, hg⟩ (m_done l D H_56.size za 0 z1 (nI (z2 + 1)) (nI z3) z4 z5 z6 z7 z8 z9 (nI z10) z11 z12 z13 z14 z15 (nI z16) z17 z18 z19 (nI ((z2 + 1) - 1))) (cwV 1 hg (gV wd_730 wd_731 wd_732 wd_717 wd_733) rfl rfl rfl (by decide +kernel) ⟨(Nat.le_trans (Nat.le_of_ble_eq_true rfl) hRf), (Nat.le_trans (Nat.le_of_ble_eq_true rfl) hRl)⟩) ⟨Pr.blind, va_recv hK hP (ci := 13) (q0 := 0) rfl rfl, fun U hU hW => ⟨rfl, Pr.at hPc hKc hDc hN hU hW⟩⟩ rfl rfl hl.1 rfl (lv_room (Nat.le_of_ble_eq_true rfl)) dX13_house_99 ⟨(Nat.le_trans (Nat.le_of_ble_eq_true rfl) hRc), (Nat.le_trans (Nat.le_of_ble_eq_true rfl) hRs)⟩) hS (fun q _ h => hFc q h) hFc (fun r_59 M_60 t H_58 locs ht hvm hw hB hz1 hk1 hS => ?_)
                have hp_61 := hw
                obtain ⟨hP1, hK1, hD1⟩ := hB
                rw [ht] at hP1
                obtain ⟨hP, hD⟩ := va_joinQ (X := [(za, (b13_0 0 z1 (nI (z2 + 1)) (nI z3) z4 z5 z6 z7 z8 z9 (nI z10) z11 z12 z13 z14 z15 (nI z16) z17 z18 z19))]) (cx := [(za, (b13_0 0 z1 (nI (z2 + 1)) (nI z3) z4 z5 z6 z7 z8 z9 (nI z10) z11 z12 z13 z14 z15 (nI z16) z17 z18 z19))]) (wr := []) (w1 := [(za, (b13_0 0 z1 (nI (z2 + 1)) (nI z3) 0 (-1) z6 z7 z8 z9 (nI z10) z11 z12 z13 z14 z15 (nI z16) z17 z18 z19))]) (pl := va_pl L M_50) hP hD [0] [] rfl rfl (by decide) (by decide) hk1 hFc hP1 hD1
                have hP : va_P D vwCl ([(za, (b13_0 0 z1 (nI (z2 + 1)) (nI z3) 0 (-1) z6 z7 z8 z9 (nI z10) z11 z12 z13 z14 z15 (nI z16) z17 z18 z19))] ++ va_pl L M_50) H_58 := hP
                have hD : va_D A ([(za, (b13_0 0 z1 (nI (z2 + 1)) (nI z3) 0 (-1) z6 z7 z8 z9 (nI z10) z11 z12 z13 z14 z15 (nI z16) z17 z18 z19))] ++ va_pl L M_50) := hD
                have hq := Eq.symm hp_61
                subst hq
                have hE : cntH (nI j_16) z2 = (z2 + 1) := by unfold cntH; rw [if_neg c_2, if_pos c_8, if_neg (by omega)]
                have hP : va_P D vwCl ([(za, (b13_0 0 z1 (nI (cntH (nI j_16) z2)) (nI z3) 0 (-1) z6 z7 z8 z9 (nI z10) z11 z12 z13 z14 z15 (nI z16) z17 z18 z19))] ++ va_pl L M_50) H_58 := by rw [hE]; exact hP
                have hD : va_D A ([(za, (b13_0 0 z1 (nI (cntH (nI j_16) z2)) (nI z3) 0 (-1) z6 z7 z8 z9 (nI z10) z11 z12 z13 z14 z15 (nI z16) z17 z18 z19))] ++ va_pl L M_50) := by rw [hE]; exact hD
                have hH9 : HI (va_up (va_up (fx M b13) 0 ((j_16 : Nat) : Int)) 1 ((-1) : Int)) (va_up (ax M b13) 2 gw47) := HI.house hFR (fun j hj => by rcases hj with rfl | rfl | rfl | rfl | rfl | rfl | rfl <;> rfl) (show ((-1) : Int) = ((j_16 : Nat) : Int) - 1 by omega) (fun d hd => hx_49 d (by omega)) (fun d hd => h3nn d hd)
                have hGI9 : GI K L z1 (cntH (nI j_16) z2) M_50 := by rw [show cntH (nI j_16) z2 = z2 + 1 from by unfold cntH; rw [if_neg c_2, if_pos c_8, if_neg (by omega)]]; exact GI.house hW0 i1 (by omega) hGI hact hV (hF.at i1 (by decide)) hH9
                have hI_62 : (0 : Int) ≤ ((j_16 : Nat) : Int) := inltI (nI_toInt (by omega)) rfl c_2
                have hI_63 : ((j_16 : Nat) : Int) ≤ (900 : Int) := ileI (nI_toInt (by omega)) rfl c_8
                have hI_64 : ((z2 : Nat) : Int) ≠ (8 : Int) := ineI (nI_toInt (by omega)) rfl c_9
                have hI_65 : (1000 : Int) ≤ ((v3w47 : Nat) : Int) := ileI rfl (nI_toInt (by omega)) c_53
                have hkI : ((nI j_16) : Int32).toInt = ((j_16 : Nat) : Int) := nI_toInt (by omega)
                have hyes : okHo z2 (nI j_16) := by unfold okHo; omega
                have hHF : HOUSF (nI j_16) (va_up (va_up (fx M b13) 0 ((j_16 : Nat) : Int)) 1 ((-1) : Int)) (va_up (ax M b13) 2 gw47) := ⟨by show ((j_16 : Nat) : Int) = _; omega, by show ((-1) : Int) = _; omega, ⟨hFR.1.1, hFR.1.2.1, hFR.1.2.2.1, hFR.1.2.2.2.1, hFR.1.2.2.2.2.1, hFR.1.2.2.2.2.2.1, hFR.1.2.2.2.2.2.2.1⟩, fun d hd => ⟨hx_49 d (by omega), hFR.2.1 d hd⟩, hFR.2.2.1, fun i hi => (lKup _ 3 i 1 _ (by decide)).trans ((lKup _ 3 i 0 _ (by decide)).trans (hFR.2.2.2 i hi)), hFR.1.2.2.2.2.2.2.2.1⟩
                rw [hQ]
                exact W.iret (v := (nI ((z2 + 1) - 1))) hx hb hr (fun t ht hW9 => ⟨⟨(nI ((z2 + 1) - 1)), M_50, rfl, ⟨hW, hF, hG, ⟨hGI9, (va_up (va_up (fx M b13) 0 ((j_16 : Nat) : Int)) 1 ((-1) : Int)), (va_up (ax M b13) 2 gw47), fun _ => hHF, by rw [hE]; unfold sxHo syHo; rw [if_pos hyes, if_pos hyes]; exact ZSx.house hW0 i1 (by omega) hZS hGI.1 hact hV (hF.at i1 (by decide))⟩, (by unfold ansH; rw [if_neg c_2, if_pos c_8, if_neg (by omega)]; first | done | rfl)⟩, ⟨0, by rw [ht]; exact hP, hD⟩⟩, hS.F ht⟩) hS.2.2 dX13_house_102
              · have hz := rfl (a := 0)
                have n_66 : ¬ (1000 ≤ v3w47) := fun q => c_53 ((iLE (a := 1000) (b := v3w47) (by omega) (by omega)).mpr q)
                refine lv_aload_n hx hb dX13_house_69 rfl (lv_at hl 1 rfl) ?_
                obtain ⟨v67, hv67, hc67⟩ : ∃ v : Nat, ((fs18.set 0 (.int (nI j_16))).set 1 (.int (-1)))[2]? = some (.ref v : Value) ∧ isk K L v 37 1000 := hk_35 2 (by decide)
                refine pg_getN (D := D) (ci := 12) (v := .ref v67) (C := RX12) (T := TX12) (N := 51) hx hb hg inG12 hown hK hP hb_15.1 hM_52 rfl 2 (by decide) (hN.use (Cond.fieldLinkNest RX13 83 RX12 "places" "[I" RX13) 11 rfl rfl) (fun _ h9 => h9) hv67 dX13_house_70 ?_
                refine lv_iload_n hx hb dX13_house_73 rfl (lv_at hl 0 rfl) ?_
                refine lv_iconst (v := (-1)) hx hb dX13_house_74 (by decide) ?_
                obtain ⟨f68, hM68, hf68⟩ := hW.open_37 hc67
                refine pg_iast hx hb hK hP hD hS hc67.1 0 hM68 rfl (inbN v3w47 1000 (by omega) (by omega)) dX13_house_75 (fun H_69 locs hP hD hS => ?_)
                obtain ⟨M_70, eM_70⟩ : ∃ M1 : Hp, M1 = va_up M_50 v67 (.inl (cy 14, 1000, .inl (upd f68 ((nI v3w47) : Int32).toNatClampNeg (-1)))) := ⟨_, rfl⟩
                have hy2 : gw47 = f68 := (congrFun hV.2.2.1 2).symm.trans (ax_of hM_52 (by decide) hv67 hM68)
                have hV : VW K L M M_70 b13 (va_up (va_up (fx M b13) 0 ((j_16 : Nat) : Int)) 1 ((-1) : Int)) (va_up (va_up (ax M b13) 2 gw47) 2 (upd gw47 ((nI v3w47) : Int32).toNatClampNeg (-1))) := by rw [eM_70]; exact hV.ast (j := 2) hW hb_15 hM_52 (by decide) hv67 hc67 hM68
                have hP : va_P D vwCl ([(za, (b13_0 0 z1 (nI z2) (nI z3) z4 z5 z6 z7 z8 z9 (nI z10) z11 z12 z13 z14 z15 (nI z16) z17 z18 z19))] ++ va_pl L M_70) H_69 := by rw [eM_70]; exact hP
                have hD : va_D A ([(za, (b13_0 0 z1 (nI z2) (nI z3) z4 z5 z6 z7 z8 z9 (nI z10) z11 z12 z13 z14 z15 (nI z16) z17 z18 z19))] ++ va_pl L M_70) := by rw [eM_70]; exact hD
                have hW : WOM cy K L M_70 := by rw [eM_70]; exact hW.up_37 hc67 ⟨_, rfl, (updP (P := fun z => (z = -1 ∨ ∃ c : Nat, c < 7 ∧ z = nI c)) hf68 (Or.inl rfl))⟩
                have hF : fr K L [12, 37] M M_70 := by rw [eM_70]; exact hF.up hc67 (by decide)
                have hG : fG K L [0, 1] M M_70 := by rw [eM_70]; exact hG.arr hc67 (by decide)
                have hM_71 : M_70 v67 = .inl (cy 14, 1000, .inl (upd f68 ((nI v3w47) : Int32).toNatClampNeg (-1))) := by rw [eM_70]; exact va_up_self _ _ _
                have hM_72 : M_70 b13 = .inr (12, (fs18.set 0 (.int (nI j_16))).set 1 (.int (-1))) := by rw [eM_70, va_up_ne _ _ (hb_15.neT hc67 (by decide))]; exact hM_52
                have hf_74 : ∀ j, j < 1000 → ((upd f68 ((nI v3w47) : Int32).toNatClampNeg (-1)) j = -1 ∨ ∃ c : Nat, c < 7 ∧ (upd f68 ((nI v3w47) : Int32).toNatClampNeg (-1)) j = nI c) := (updP (P := fun z => (z = -1 ∨ ∃ c : Nat, c < 7 ∧ z = nI c)) hf68 (Or.inl rfl))
                obtain ⟨f_73, ef_73⟩ : ∃ f : Nat → Int32, f = upd f68 ((nI v3w47) : Int32).toNatClampNeg (-1) := ⟨_, rfl⟩
                rw [← ef_73] at hM_71 hf_74
                refine lv_iinc (v := (nI (v3w47 + 1))) (lv' := [(3, .int (nI (v3w47 + 1))), (2, .ref b13), (0, .ref za), (1, .int (nI j_16))]) hx hb dX13_house_76 hl (k := 0) rfl (nI_1 v3w47) (by decide) rfl (fun ls hl => ?_)
                refine lv_goto (tgt := 62) hx hb dX13_house_79 (by decide) ?_
                exact ih_45 (v3w47 + 1) (upd gw47 ((nI v3w47) : Int32).toNatClampNeg (-1)) M_70 H_69 _ _ (by omega) hM_72 (by omega) (fill1 hx_49 (nI_cl (by omega))) hW hF hG (by have h := hV; simp only [va_up_up] at h; exact h) hP hD hS (lv_sub hl [0, 1, 2, 3] rfl)
          exact key_44 (1000 - 0 + 1) 0 (ax M b13 2) M_40 H_33 _ _ (by omega) hM_41 (by omega) (fun i h => absurd h (by omega)) hW hF hG (by rw [va_up_id]; exact hV) hP hD hS (lv_sub hl [0, 1, 2, 3] rfl)
        · obtain rfl : f_32 = (nI (j_16 - 1)) := ef_32.trans (nI_prd hz1)
          refine pg_putN (D := D) (ci := 12) (v := .int (nI (j_16 - 1))) (ty := .int) (C := RX12) (T := TX12) (N := 51) hx hb hg inG12 tyX12 tyX12_ok nmX12 hown hK hP hD hS hb_15.1 hM_29 rfl 1 (by decide) (hN.use (Cond.fieldLinkNest RX13 80 RX12 "to" "I" RX13) 10 rfl rfl) (fun _ h9 => h9) rfl (by decide +kernel) rfl rfl (by rw [hn_25]; decide) dX13_house_57 (fun H_75 locs hP hD hS => ?_)
          have hs_78 : ((fs18.set 0 (.int (nI j_16))).set 1 (.int (nI (j_16 - 1))))[1]? = some (.int (nI (j_16 - 1))) := List.getElem?_set_self (by rw [hn_25]; decide)
          have hk_77 := fld12_set (k := 1) (w := .int (nI (j_16 - 1))) hk_23 (show fld12 K L 1 ((fs18.set 0 (.int (nI j_16))).set 1 (.int (nI (j_16 - 1)))) from ⟨(nI (j_16 - 1)), hs_78, Or.inr ⟨(j_16 - 1), by omega, rfl⟩⟩)
          have hn_79 : ((fs18.set 0 (.int (nI j_16))).set 1 (.int (nI (j_16 - 1)))).length = 51 := by rw [List.length_set]; exact hn_25
          have hv_80 : ((fs18.set 0 (.int (nI j_16))).set 1 (.int (nI (j_16 - 1))))[3]? = some (.ref v19) := by rw [List.getElem?_set_ne (by decide)]; exact hv_26
          have hv_81 : ((fs18.set 0 (.int (nI j_16))).set 1 (.int (nI (j_16 - 1))))[0]? = some (.int (nI j_16)) := by rw [List.getElem?_set_ne (by decide)]; exact hs_24
          obtain ⟨M_82, eM_82⟩ : ∃ M1 : Hp, M1 = va_up M_28 b13 (.inr (12, (fs18.set 0 (.int (nI j_16))).set 1 (.int (nI (j_16 - 1))))) := ⟨_, rfl⟩
          have hV : VW K L M M_82 b13 (va_up (va_up (fx M b13) 0 ((j_16 : Nat) : Int)) 1 (((j_16 - 1) : Nat) : Int)) (ax M b13) := by rw [eM_82]; exact hV.put hW hb_15 hM_29 hn_25 rfl (by decide) rfl (nI_toInt (by omega))
          have hP : va_P D vwCl ([(za, (b13_0 0 z1 (nI z2) (nI z3) z4 z5 z6 z7 z8 z9 (nI z10) z11 z12 z13 z14 z15 (nI z16) z17 z18 z19))] ++ va_pl L M_82) H_75 := by rw [eM_82]; exact hP
          have hD : va_D A ([(za, (b13_0 0 z1 (nI z2) (nI z3) z4 z5 z6 z7 z8 z9 (nI z10) z11 z12 z13 z14 z15 (nI z16) z17 z18 z19))] ++ va_pl L M_82) := by rw [eM_82]; exact hD
          have hW : WOM cy K L M_82 := by rw [eM_82]; exact hW.up_12 hb_15 ⟨_, rfl, hn_79, hk_77⟩
          have hF : fr K L [12, 37] M M_82 := by rw [eM_82]; exact hF.up hb_15 (by decide)
          have hG : fG K L [0, 1] M M_82 := by rw [eM_82]; exact hG.up hM_29 (by decide)
          have hM_83 : M_82 b13 = .inr (12, (fs18.set 0 (.int (nI j_16))).set 1 (.int (nI (j_16 - 1)))) := by rw [eM_82]; exact va_up_self _ _ _
          have hM_84 : M_82 z1 = .inl (cy 23, 8, .inr (.inr (.inr (.inr (f11))))) := by rw [eM_82, va_up_ne _ _ (i1.neT hb_15 (by decide))]; exact hM_30
          have hM_85 : M_82 v19 = .inl (cy 14, 1000, .inl (f20)) := by rw [eM_82, va_up_ne _ _ (hc19.neT hb_15 (by decide))]; exact hM_31
          refine lv_iconst (v := 0) hx hb dX13_house_60 (by decide) ?_
          refine lv_istore_n (lv' := [(3, .int 0), (2, .ref b13), (0, .ref za), (1, .int (nI j_16))]) hx hb dX13_house_61 rfl hl (by decide) rfl (fun ls hl => ?_)
          have key_86 : ∀ (fu_88 : Nat) (v3w89 : Nat) (gw89 : Nat → Int32) (M_92 : Hp) (H_93 : Heap) (locs : List Loc) (ls : Array Slot), 1000 - v3w89 < fu_88 → M_92 b13 = .inr (12, (fs18.set 0 (.int (nI j_16))).set 1 (.int (nI (j_16 - 1)))) → v3w89 ≤ 1000 → (∀ i : Nat, i < v3w89 → gw89 i = -1) → WOM cy K L M_92 → fr K L [12, 37] M M_92 → fG K L [0, 1] M M_92 → VW K L M M_92 b13 (va_up (va_up (fx M b13) 0 ((j_16 : Nat) : Int)) 1 (((j_16 - 1) : Nat) : Int)) (va_up (ax M b13) 2 gw89) → va_P D vwCl ([(za, (b13_0 0 z1 (nI z2) (nI z3) z4 z5 z6 z7 z8 z9 (nI z10) z11 z12 z13 z14 z15 (nI z16) z17 z18 z19))] ++ va_pl L M_92) H_93 → va_D A ([(za, (b13_0 0 z1 (nI z2) (nI z3) z4 z5 z6 z7 z8 z9 (nI z10) z11 z12 z13 z14 z15 (nI z16) z17 z18 z19))] ++ va_pl L M_92) → va_S A s.heap H_93 locs → lv_has ls 4 [(3, .int (nI v3w89)), (2, .ref b13), (0, .ref za), (1, .int (nI j_16))] → W p l e R s m ([.ref za, .int (nI j_16)] : List Value).toArray below meth c H_93 locs 0 0 Q (F0 m 62 ls []) := by
            intro fu_88
            induction fu_88 with
            | zero => intro v3w89 gw89 M_92 H_93 locs ls h; exact absurd h (Nat.not_lt_zero _)
            | succ fu_88 ih_87 =>
              intro v3w89 gw89 M_92 H_93 locs ls hfu hM_94 hx_90 hx_91 hW hF hG hV hP hD hS hl
              refine lv_iload_n hx hb dX13_house_62 rfl (lv_at hl 0 rfl) ?_
              refine lv_sipush (v := 1000) hx hb dX13_house_63 (by decide) ?_
              refine lv_icmp_ge (tgt := 82) hx hb dX13_house_66 (by decide) (fun c_95 => ?_) (fun c_95 => ?_)
              · have hz := rfl (a := 0)
                have n_96 : 1000 ≤ v3w89 := (iLE (a := 1000) (b := v3w89) (by omega) (by omega)).mp c_95
                refine lv_aload_n hx hb dX13_house_82 rfl (lv_at hl 2 rfl) ?_
                refine lv_dup hx hb dX13_house_83 rfl ?_
                refine va_get (D := D) (ci := 13) (v := .int (nI z2)) (C := RX13) (T := TX13) (N := 20) hx hb hg inG13 hown hK hP 0 rfl rfl 2 (by decide) (hg _ wd_713) (fun _ h9 => h9) rfl dX13_house_84 ?_
                refine lv_iconst (v := 1) hx hb dX13_house_87 (by decide) ?_
                refine lv_iadd hx hb dX13_house_88 ?_
                refine lv_topi (fun f_97 ef_97 => ?_)
                obtain rfl : f_97 = (nI (z2 + 1)) := ef_97.trans (nI_add z2 1)
                refine va_put (D := D) (ci := 13) (v := .int (nI (z2 + 1))) (ty := .int) (C := RX13) (T := TX13) (N := 20) hx hb hg inG13 tyX13 tyX13_ok nmX13 hown hK hP hD hS 0 rfl rfl 2 (by decide) (hg _ wd_713) (fun _ h9 => h9) rfl (by decide +kernel) rfl rfl (Nat.le_of_ble_eq_true rfl) dX13_house_89 (fun H_98 locs hP hD hS => ?_)
                have hP : va_P D vwCl ([(za, (b13_0 0 z1 (nI (z2 + 1)) (nI z3) z4 z5 z6 z7 z8 z9 (nI z10) z11 z12 z13 z14 z15 (nI z16) z17 z18 z19))] ++ va_pl L M_92) H_98 := hP
                have hD : va_D A ([(za, (b13_0 0 z1 (nI (z2 + 1)) (nI z3) z4 z5 z6 z7 z8 z9 (nI z10) z11 z12 z13 z14 z15 (nI z16) z17 z18 z19))] ++ va_pl L M_92) := hD
                refine lv_aload_n hx hb dX13_house_92 rfl (lv_at hl 2 rfl) ?_
                refine lv_aload_n hx hb dX13_house_93 rfl (lv_at hl 2 rfl) ?_
                refine va_get (D := D) (ci := 13) (v := .int (nI (z2 + 1))) (C := RX13) (T := TX13) (N := 20) hx hb hg inG13 hown hK hP 0 rfl rfl 2 (by decide) (hg _ wd_713) (fun _ h9 => h9) rfl dX13_house_94 ?_
                refine lv_iconst (v := 1) hx hb dX13_house_97 (by decide) ?_
                refine lv_isub hx hb dX13_house_98 ?_
                refine lv_topi (fun f_99 ef_99 => ?_)
                obtain rfl : f_99 = (nI ((z2 + 1) - 1)) := ef_99.trans (nI_prd (by omega))
                have hPc := hP.sub (ws' := [(za, (b13_0 0 z1 (nI (z2 + 1)) (nI z3) z4 z5 z6 z7 z8 z9 (nI z10) z11 z12 z13 z14 z15 (nI z16) z17 z18 z19))]) [0] rfl
                have hDc := hD.sub (ws' := [(za, (b13_0 0 z1 (nI (z2 + 1)) (nI z3) z4 z5 z6 z7 z8 z9 (nI z10) z11 z12 z13 z14 z15 (nI z16) z17 z18 z19))]) [0] (by decide) rfl
                have hKc := hK.sub (tys' := []) [] rfl
                have hFc := va_free (wc := [(za, (b13_0 0 z1 (nI (z2 + 1)) (nI z3) z4 z5 z6 z7 z8 z9 (nI z10) z11 z12 z13 z14 z15 (nI z16) z17 z18 z19))]) hD hS hA [0] rfl
                refine va_calli (va_runV (As := [.int (nI ((z2 + 1) - 1))]) (rest := []) ⟨hx, hb, hml, hown, hg⟩ (m_done l D H_98.size za 0 z1 (nI (z2 + 1)) (nI z3) z4 z5 z6 z7 z8 z9 (nI z10) z11 z12 z13 z14 z15 (nI z16) z17 z18 z19 (nI ((z2 + 1) - 1))) (cwV 1 hg (gV wd_730 wd_731 wd_732 wd_717 wd_733) rfl rfl rfl (by decide +kernel) ⟨(Nat.le_trans (Nat.le_of_ble_eq_true rfl) hRf), (Nat.le_trans (Nat.le_of_ble_eq_true rfl) hRl)⟩) ⟨Pr.blind, va_recv hK hP (ci := 13) (q0 := 0) rfl rfl, fun U hU hW => ⟨rfl, Pr.at hPc hKc hDc hN hU hW⟩⟩ rfl rfl hl.1 rfl (lv_room (Nat.le_of_ble_eq_true rfl)) dX13_house_99 ⟨(Nat.le_trans (Nat.le_of_ble_eq_true rfl) hRc), (Nat.le_trans (Nat.le_of_ble_eq_true rfl) hRs)⟩) hS (fun q _ h => hFc q h) hFc (fun r_101 M_102 t H_100 locs ht hvm hw hB hz1 hk1 hS => ?_)
                have hp_103 := hw
                obtain ⟨hP1, hK1, hD1⟩ := hB
                rw [ht] at hP1
                obtain ⟨hP, hD⟩ := va_joinQ (X := [(za, (b13_0 0 z1 (nI (z2 + 1)) (nI z3) z4 z5 z6 z7 z8 z9 (nI z10) z11 z12 z13 z14 z15 (nI z16) z17 z18 z19))]) (cx := [(za, (b13_0 0 z1 (nI (z2 + 1)) (nI z3) z4 z5 z6 z7 z8 z9 (nI z10) z11 z12 z13 z14 z15 (nI z16) z17 z18 z19))]) (wr := []) (w1 := [(za, (b13_0 0 z1 (nI (z2 + 1)) (nI z3) 0 (-1) z6 z7 z8 z9 (nI z10) z11 z12 z13 z14 z15 (nI z16) z17 z18 z19))]) (pl := va_pl L M_92) hP hD [0] [] rfl rfl (by decide) (by decide) hk1 hFc hP1 hD1
                have hP : va_P D vwCl ([(za, (b13_0 0 z1 (nI (z2 + 1)) (nI z3) 0 (-1) z6 z7 z8 z9 (nI z10) z11 z12 z13 z14 z15 (nI z16) z17 z18 z19))] ++ va_pl L M_92) H_100 := hP
                have hD : va_D A ([(za, (b13_0 0 z1 (nI (z2 + 1)) (nI z3) 0 (-1) z6 z7 z8 z9 (nI z10) z11 z12 z13 z14 z15 (nI z16) z17 z18 z19))] ++ va_pl L M_92) := hD
                have hq := Eq.symm hp_103
                subst hq
                have hE : cntH (nI j_16) z2 = (z2 + 1) := by unfold cntH; rw [if_neg c_2, if_pos c_8, if_neg (by omega)]
                have hP : va_P D vwCl ([(za, (b13_0 0 z1 (nI (cntH (nI j_16) z2)) (nI z3) 0 (-1) z6 z7 z8 z9 (nI z10) z11 z12 z13 z14 z15 (nI z16) z17 z18 z19))] ++ va_pl L M_92) H_100 := by rw [hE]; exact hP
                have hD : va_D A ([(za, (b13_0 0 z1 (nI (cntH (nI j_16) z2)) (nI z3) 0 (-1) z6 z7 z8 z9 (nI z10) z11 z12 z13 z14 z15 (nI z16) z17 z18 z19))] ++ va_pl L M_92) := by rw [hE]; exact hD
                have hH9 : HI (va_up (va_up (fx M b13) 0 ((j_16 : Nat) : Int)) 1 (((j_16 - 1) : Nat) : Int)) (va_up (ax M b13) 2 gw89) := HI.house hFR (fun j hj => by rcases hj with rfl | rfl | rfl | rfl | rfl | rfl | rfl <;> rfl) (show (((j_16 - 1) : Nat) : Int) = ((j_16 : Nat) : Int) - 1 by omega) (fun d hd => hx_91 d (by omega)) (fun d hd => h3nn d hd)
                have hGI9 : GI K L z1 (cntH (nI j_16) z2) M_92 := by rw [show cntH (nI j_16) z2 = z2 + 1 from by unfold cntH; rw [if_neg c_2, if_pos c_8, if_neg (by omega)]]; exact GI.house hW0 i1 (by omega) hGI hact hV (hF.at i1 (by decide)) hH9
                have hI_104 : (0 : Int) ≤ ((j_16 : Nat) : Int) := inltI (nI_toInt (by omega)) rfl c_2
                have hI_105 : ((j_16 : Nat) : Int) ≤ (900 : Int) := ileI (nI_toInt (by omega)) rfl c_8
                have hI_106 : ((z2 : Nat) : Int) ≠ (8 : Int) := ineI (nI_toInt (by omega)) rfl c_9
                have hI_107 : (1000 : Int) ≤ ((v3w89 : Nat) : Int) := ileI rfl (nI_toInt (by omega)) c_95
                have hkI : ((nI j_16) : Int32).toInt = ((j_16 : Nat) : Int) := nI_toInt (by omega)
                have hyes : okHo z2 (nI j_16) := by unfold okHo; omega
                have hHF : HOUSF (nI j_16) (va_up (va_up (fx M b13) 0 ((j_16 : Nat) : Int)) 1 (((j_16 - 1) : Nat) : Int)) (va_up (ax M b13) 2 gw89) := ⟨by show ((j_16 : Nat) : Int) = _; omega, by show (((j_16 - 1) : Nat) : Int) = _; omega, ⟨hFR.1.1, hFR.1.2.1, hFR.1.2.2.1, hFR.1.2.2.2.1, hFR.1.2.2.2.2.1, hFR.1.2.2.2.2.2.1, hFR.1.2.2.2.2.2.2.1⟩, fun d hd => ⟨hx_91 d (by omega), hFR.2.1 d hd⟩, hFR.2.2.1, fun i hi => (lKup _ 3 i 1 _ (by decide)).trans ((lKup _ 3 i 0 _ (by decide)).trans (hFR.2.2.2 i hi)), hFR.1.2.2.2.2.2.2.2.1⟩
                rw [hQ]
                exact W.iret (v := (nI ((z2 + 1) - 1))) hx hb hr (fun t ht hW9 => ⟨⟨(nI ((z2 + 1) - 1)), M_92, rfl, ⟨hW, hF, hG, ⟨hGI9, (va_up (va_up (fx M b13) 0 ((j_16 : Nat) : Int)) 1 (((j_16 - 1) : Nat) : Int)), (va_up (ax M b13) 2 gw89), fun _ => hHF, by rw [hE]; unfold sxHo syHo; rw [if_pos hyes, if_pos hyes]; exact ZSx.house hW0 i1 (by omega) hZS hGI.1 hact hV (hF.at i1 (by decide))⟩, (by unfold ansH; rw [if_neg c_2, if_pos c_8, if_neg (by omega)]; first | done | rfl)⟩, ⟨0, by rw [ht]; exact hP, hD⟩⟩, hS.F ht⟩) hS.2.2 dX13_house_102
              · have hz := rfl (a := 0)
                have n_108 : ¬ (1000 ≤ v3w89) := fun q => c_95 ((iLE (a := 1000) (b := v3w89) (by omega) (by omega)).mpr q)
                refine lv_aload_n hx hb dX13_house_69 rfl (lv_at hl 1 rfl) ?_
                obtain ⟨v109, hv109, hc109⟩ : ∃ v : Nat, ((fs18.set 0 (.int (nI j_16))).set 1 (.int (nI (j_16 - 1))))[2]? = some (.ref v : Value) ∧ isk K L v 37 1000 := hk_77 2 (by decide)
                refine pg_getN (D := D) (ci := 12) (v := .ref v109) (C := RX12) (T := TX12) (N := 51) hx hb hg inG12 hown hK hP hb_15.1 hM_94 rfl 2 (by decide) (hN.use (Cond.fieldLinkNest RX13 83 RX12 "places" "[I" RX13) 11 rfl rfl) (fun _ h9 => h9) hv109 dX13_house_70 ?_
                refine lv_iload_n hx hb dX13_house_73 rfl (lv_at hl 0 rfl) ?_
                refine lv_iconst (v := (-1)) hx hb dX13_house_74 (by decide) ?_
                obtain ⟨f110, hM110, hf110⟩ := hW.open_37 hc109
                refine pg_iast hx hb hK hP hD hS hc109.1 0 hM110 rfl (inbN v3w89 1000 (by omega) (by omega)) dX13_house_75 (fun H_111 locs hP hD hS => ?_)
                obtain ⟨M_112, eM_112⟩ : ∃ M1 : Hp, M1 = va_up M_92 v109 (.inl (cy 14, 1000, .inl (upd f110 ((nI v3w89) : Int32).toNatClampNeg (-1)))) := ⟨_, rfl⟩
                have hy2 : gw89 = f110 := (congrFun hV.2.2.1 2).symm.trans (ax_of hM_94 (by decide) hv109 hM110)
                have hV : VW K L M M_112 b13 (va_up (va_up (fx M b13) 0 ((j_16 : Nat) : Int)) 1 (((j_16 - 1) : Nat) : Int)) (va_up (va_up (ax M b13) 2 gw89) 2 (upd gw89 ((nI v3w89) : Int32).toNatClampNeg (-1))) := by rw [eM_112]; exact hV.ast (j := 2) hW hb_15 hM_94 (by decide) hv109 hc109 hM110
                have hP : va_P D vwCl ([(za, (b13_0 0 z1 (nI z2) (nI z3) z4 z5 z6 z7 z8 z9 (nI z10) z11 z12 z13 z14 z15 (nI z16) z17 z18 z19))] ++ va_pl L M_112) H_111 := by rw [eM_112]; exact hP
                have hD : va_D A ([(za, (b13_0 0 z1 (nI z2) (nI z3) z4 z5 z6 z7 z8 z9 (nI z10) z11 z12 z13 z14 z15 (nI z16) z17 z18 z19))] ++ va_pl L M_112) := by rw [eM_112]; exact hD
                have hW : WOM cy K L M_112 := by rw [eM_112]; exact hW.up_37 hc109 ⟨_, rfl, (updP (P := fun z => (z = -1 ∨ ∃ c : Nat, c < 7 ∧ z = nI c)) hf110 (Or.inl rfl))⟩
                have hF : fr K L [12, 37] M M_112 := by rw [eM_112]; exact hF.up hc109 (by decide)
                have hG : fG K L [0, 1] M M_112 := by rw [eM_112]; exact hG.arr hc109 (by decide)
                have hM_113 : M_112 v109 = .inl (cy 14, 1000, .inl (upd f110 ((nI v3w89) : Int32).toNatClampNeg (-1))) := by rw [eM_112]; exact va_up_self _ _ _
                have hM_114 : M_112 b13 = .inr (12, (fs18.set 0 (.int (nI j_16))).set 1 (.int (nI (j_16 - 1)))) := by rw [eM_112, va_up_ne _ _ (hb_15.neT hc109 (by decide))]; exact hM_94
                have hf_116 : ∀ j, j < 1000 → ((upd f110 ((nI v3w89) : Int32).toNatClampNeg (-1)) j = -1 ∨ ∃ c : Nat, c < 7 ∧ (upd f110 ((nI v3w89) : Int32).toNatClampNeg (-1)) j = nI c) := (updP (P := fun z => (z = -1 ∨ ∃ c : Nat, c < 7 ∧ z = nI c)) hf110 (Or.inl rfl))
                obtain ⟨f_115, ef_115⟩ : ∃ f : Nat → Int32, f = upd f110 ((nI v3w89) : Int32).toNatClampNeg (-1) := ⟨_, rfl⟩
                rw [← ef_115] at hM_113 hf_116
                refine lv_iinc (v := (nI (v3w89 + 1))) (lv' := [(3, .int (nI (v3w89 + 1))), (2, .ref b13), (0, .ref za), (1, .int (nI j_16))]) hx hb dX13_house_76 hl (k := 0) rfl (nI_1 v3w89) (by decide) rfl (fun ls hl => ?_)
                refine lv_goto (tgt := 62) hx hb dX13_house_79 (by decide) ?_
                exact ih_87 (v3w89 + 1) (upd gw89 ((nI v3w89) : Int32).toNatClampNeg (-1)) M_112 H_111 _ _ (by omega) hM_114 (by omega) (fill1 hx_91 (nI_cl (by omega))) hW hF hG (by have h := hV; simp only [va_up_up] at h; exact h) hP hD hS (lv_sub hl [0, 1, 2, 3] rfl)
          exact key_86 (1000 - 0 + 1) 0 (ax M b13 2) M_82 H_75 _ _ (by omega) hM_83 (by omega) (fun i h => absurd h (by omega)) hW hF hG (by rw [va_up_id]; exact hV) hP hD hS (lv_sub hl [0, 1, 2, 3] rfl)
      · have hz := rfl (a := 0)
        have n_117 : z2 = 8 := (iEQ (a := z2) (b := 8) (by omega) (by omega)).mp c_9
        refine lv_aload_n hx hb dX13_house_31 rfl (lv_at hl 0 rfl) ?_
        refine lv_bipush (v := 9) hx hb dX13_house_32 (by decide) ?_
        have hPc := hP.sub (ws' := [(za, (b13_0 0 z1 (nI z2) (nI z3) z4 z5 z6 z7 z8 z9 (nI z10) z11 z12 z13 z14 z15 (nI z16) z17 z18 z19))]) [0] rfl
        have hDc := hD.sub (ws' := [(za, (b13_0 0 z1 (nI z2) (nI z3) z4 z5 z6 z7 z8 z9 (nI z10) z11 z12 z13 z14 z15 (nI z16) z17 z18 z19))]) [0] (by decide) rfl
        have hKc := hK.sub (tys' := []) [] rfl
        have hFc := va_free (wc := [(za, (b13_0 0 z1 (nI z2) (nI z3) z4 z5 z6 z7 z8 z9 (nI z10) z11 z12 z13 z14 z15 (nI z16) z17 z18 z19))]) hD hS hA [0] rfl
        refine va_calli (va_runV (As := [.int 9]) (rest := []) ⟨hx, hb, hml, hown, hg⟩ (m_refused l D H_1.size za 0 z1 (nI z2) (nI z3) z4 z5 z6 z7 z8 z9 (nI z10) z11 z12 z13 z14 z15 (nI z16) z17 z18 z19 9) (cwV 1 hg (gV wd_725 wd_726 wd_727 wd_717 wd_728) rfl rfl rfl (by decide +kernel) ⟨(Nat.le_trans (Nat.le_of_ble_eq_true rfl) hRf), (Nat.le_trans (Nat.le_of_ble_eq_true rfl) hRl)⟩) ⟨Pr.blind, va_recv hK hP (ci := 13) (q0 := 0) rfl rfl, fun U hU hW => ⟨rfl, Pr.at hPc hKc hDc hN hU hW⟩⟩ rfl rfl hl.1 rfl (lv_room (Nat.le_of_ble_eq_true rfl)) dX13_house_34 ⟨(Nat.le_trans (Nat.le_of_ble_eq_true rfl) hRc), (Nat.le_trans (Nat.le_of_ble_eq_true rfl) hRs)⟩) hS (fun q _ h => hFc q h) hFc (fun r_119 M_120 t H_118 locs ht hvm hw hB hz1 hk1 hS => ?_)
        have hp_121 := hw
        obtain ⟨hP1, hK1, hD1⟩ := hB
        rw [ht] at hP1
        obtain ⟨hP, hD⟩ := va_joinQ (X := [(za, (b13_0 0 z1 (nI z2) (nI z3) z4 z5 z6 z7 z8 z9 (nI z10) z11 z12 z13 z14 z15 (nI z16) z17 z18 z19))]) (cx := [(za, (b13_0 0 z1 (nI z2) (nI z3) z4 z5 z6 z7 z8 z9 (nI z10) z11 z12 z13 z14 z15 (nI z16) z17 z18 z19))]) (wr := []) (w1 := [(za, (b13_0 0 z1 (nI z2) (nI z3) 9 (-1) z6 z7 z8 z9 (nI z10) z11 z12 z13 z14 z15 (nI z16) z17 z18 z19))]) (pl := va_pl L M) hP hD [0] [] rfl rfl (by decide) (by decide) hk1 hFc hP1 hD1
        have hP : va_P D vwCl ([(za, (b13_0 0 z1 (nI z2) (nI z3) 9 (-1) z6 z7 z8 z9 (nI z10) z11 z12 z13 z14 z15 (nI z16) z17 z18 z19))] ++ va_pl L M) H_118 := hP
        have hD : va_D A ([(za, (b13_0 0 z1 (nI z2) (nI z3) 9 (-1) z6 z7 z8 z9 (nI z10) z11 z12 z13 z14 z15 (nI z16) z17 z18 z19))] ++ va_pl L M) := hD
        have hq := Eq.symm hp_121
        subst hq
        have hE : cntH k1 z2 = z2 := by unfold cntH; rw [if_neg c_2, if_pos c_8, if_pos (by omega)]
        have hP : va_P D vwCl ([(za, (b13_0 0 z1 (nI (cntH k1 z2)) (nI z3) 9 (-1) z6 z7 z8 z9 (nI z10) z11 z12 z13 z14 z15 (nI z16) z17 z18 z19))] ++ va_pl L M) H_118 := by rw [hE]; exact hP
        have hD : va_D A ([(za, (b13_0 0 z1 (nI (cntH k1 z2)) (nI z3) 9 (-1) z6 z7 z8 z9 (nI z10) z11 z12 z13 z14 z15 (nI z16) z17 z18 z19))] ++ va_pl L M) := by rw [hE]; exact hD
        have hGI9 : GI K L z1 (cntH k1 z2) M := by rw [show cntH k1 z2 = z2 from by unfold cntH; rw [if_neg c_2, if_pos c_8, if_pos (by omega)]]; exact hGI
        have hI_122 : (0 : Int) ≤ (k1 : Int32).toInt := inltI rfl rfl c_2
        have hI_123 : (k1 : Int32).toInt ≤ (900 : Int) := ileI rfl rfl c_8
        have hI_124 : ((z2 : Nat) : Int) = (8 : Int) := ieqI (nI_toInt (by omega)) rfl c_9
        have hno : ¬ okHo z2 k1 := fun q9 => by unfold okHo at q9; omega
        rw [hQ]
        exact W.iret (v := (-1)) hx hb hr (fun t ht hW9 => ⟨⟨(-1), M, rfl, ⟨hW, hF, hG, ⟨hGI9, fun _ => 0, fun _ _ => 0, fun w9 => absurd w9 hno, by rw [hE]; unfold sxHo syHo; rw [if_neg hno, if_neg hno]; exact hZS⟩, (by unfold ansH; rw [if_neg c_2, if_pos c_8, if_pos (by omega)]; first | done | rfl)⟩, ⟨9, by rw [ht]; exact hP, hD⟩⟩, hS.F ht⟩) hS.2.2 dX13_house_37
    · have hz := rfl (a := 0)
      have n_125 : ¬ k1 < 0 := gtN (c := 900) (by omega) (Int32.not_le.mp c_8)
      refine lv_aload_n hx hb dX13_house_16 rfl (lv_at hl 0 rfl) ?_
      refine lv_iconst (v := 2) hx hb dX13_house_17 (by decide) ?_
      have hPc := hP.sub (ws' := [(za, (b13_0 0 z1 (nI z2) (nI z3) z4 z5 z6 z7 z8 z9 (nI z10) z11 z12 z13 z14 z15 (nI z16) z17 z18 z19))]) [0] rfl
      have hDc := hD.sub (ws' := [(za, (b13_0 0 z1 (nI z2) (nI z3) z4 z5 z6 z7 z8 z9 (nI z10) z11 z12 z13 z14 z15 (nI z16) z17 z18 z19))]) [0] (by decide) rfl
      have hKc := hK.sub (tys' := []) [] rfl
      have hFc := va_free (wc := [(za, (b13_0 0 z1 (nI z2) (nI z3) z4 z5 z6 z7 z8 z9 (nI z10) z11 z12 z13 z14 z15 (nI z16) z17 z18 z19))]) hD hS hA [0] rfl
      refine va_calli (va_runV (As := [.int 2]) (rest := []) ⟨hx, hb, hml, hown, hg⟩ (m_refused l D H_1.size za 0 z1 (nI z2) (nI z3) z4 z5 z6 z7 z8 z9 (nI z10) z11 z12 z13 z14 z15 (nI z16) z17 z18 z19 2) (cwV 1 hg (gV wd_725 wd_726 wd_727 wd_717 wd_728) rfl rfl rfl (by decide +kernel) ⟨(Nat.le_trans (Nat.le_of_ble_eq_true rfl) hRf), (Nat.le_trans (Nat.le_of_ble_eq_true rfl) hRl)⟩) ⟨Pr.blind, va_recv hK hP (ci := 13) (q0 := 0) rfl rfl, fun U hU hW => ⟨rfl, Pr.at hPc hKc hDc hN hU hW⟩⟩ rfl rfl hl.1 rfl (lv_room (Nat.le_of_ble_eq_true rfl)) dX13_house_18 ⟨(Nat.le_trans (Nat.le_of_ble_eq_true rfl) hRc), (Nat.le_trans (Nat.le_of_ble_eq_true rfl) hRs)⟩) hS (fun q _ h => hFc q h) hFc (fun r_127 M_128 t H_126 locs ht hvm hw hB hz1 hk1 hS => ?_)
      have hp_129 := hw
      obtain ⟨hP1, hK1, hD1⟩ := hB
      rw [ht] at hP1
      obtain ⟨hP, hD⟩ := va_joinQ (X := [(za, (b13_0 0 z1 (nI z2) (nI z3) z4 z5 z6 z7 z8 z9 (nI z10) z11 z12 z13 z14 z15 (nI z16) z17 z18 z19))]) (cx := [(za, (b13_0 0 z1 (nI z2) (nI z3) z4 z5 z6 z7 z8 z9 (nI z10) z11 z12 z13 z14 z15 (nI z16) z17 z18 z19))]) (wr := []) (w1 := [(za, (b13_0 0 z1 (nI z2) (nI z3) 2 (-1) z6 z7 z8 z9 (nI z10) z11 z12 z13 z14 z15 (nI z16) z17 z18 z19))]) (pl := va_pl L M) hP hD [0] [] rfl rfl (by decide) (by decide) hk1 hFc hP1 hD1
      have hP : va_P D vwCl ([(za, (b13_0 0 z1 (nI z2) (nI z3) 2 (-1) z6 z7 z8 z9 (nI z10) z11 z12 z13 z14 z15 (nI z16) z17 z18 z19))] ++ va_pl L M) H_126 := hP
      have hD : va_D A ([(za, (b13_0 0 z1 (nI z2) (nI z3) 2 (-1) z6 z7 z8 z9 (nI z10) z11 z12 z13 z14 z15 (nI z16) z17 z18 z19))] ++ va_pl L M) := hD
      have hq := Eq.symm hp_129
      subst hq
      have hE : cntH k1 z2 = z2 := by unfold cntH; rw [if_neg n_125, if_neg c_8]
      have hP : va_P D vwCl ([(za, (b13_0 0 z1 (nI (cntH k1 z2)) (nI z3) 2 (-1) z6 z7 z8 z9 (nI z10) z11 z12 z13 z14 z15 (nI z16) z17 z18 z19))] ++ va_pl L M) H_126 := by rw [hE]; exact hP
      have hD : va_D A ([(za, (b13_0 0 z1 (nI (cntH k1 z2)) (nI z3) 2 (-1) z6 z7 z8 z9 (nI z10) z11 z12 z13 z14 z15 (nI z16) z17 z18 z19))] ++ va_pl L M) := by rw [hE]; exact hD
      have hGI9 : GI K L z1 (cntH k1 z2) M := by rw [show cntH k1 z2 = z2 from by unfold cntH; rw [if_neg n_125, if_neg c_8]]; exact hGI
      have hI_130 : (0 : Int) ≤ (k1 : Int32).toInt := inltI rfl rfl c_2
      have hI_131 : (900 : Int) < (k1 : Int32).toInt := inleI rfl rfl c_8
      have hI_132 : (0 : Int) ≤ (k1 : Int32).toInt := inltI rfl rfl n_125
      have hno : ¬ okHo z2 k1 := fun q9 => by unfold okHo at q9; omega
      rw [hQ]
      exact W.iret (v := (-1)) hx hb hr (fun t ht hW9 => ⟨⟨(-1), M, rfl, ⟨hW, hF, hG, ⟨hGI9, fun _ => 0, fun _ _ => 0, fun w9 => absurd w9 hno, by rw [hE]; unfold sxHo syHo; rw [if_neg hno, if_neg hno]; exact hZS⟩, (by unfold ansH; rw [if_neg n_125, if_neg c_8]; first | done | rfl)⟩, ⟨2, by rw [ht]; exact hP, hD⟩⟩, hS.F ht⟩) hS.2.2 dX13_house_21
