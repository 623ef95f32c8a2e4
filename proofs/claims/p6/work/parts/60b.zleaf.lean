set_option maxHeartbeats 4000000 in
set_option maxRecDepth 100000 in
theorem f_isFree (l : Launch) (D : va_G) (cy : Nat → ClassId) (K : Kp) (L : List Nat) (M : Hp) (sz : Nat) (oa : Nat) (k1 : Int32) (hW : WOM cy K L M) (ia : isk K L oa 12 0) : Met l yX12_isFree (wsM yX12_isFree cX12_isFree 2 (some .boolean)) ({ frames := 0, cells := 0, slots := 0, locals := 0 }) (va_Pc [.ref oa, .int k1] (PG D cy [] L M sz)) (va_Qi (fun (r : Int32) (_ : Unit) => (r = 1 ∧ (fx M oa 1 < k1.toInt ∧ k1.toInt < 1000) ∧ ¬ k1 < 0 ∧ ¬ 1000 ≤ k1) ∨ (r = 0 ∧ ¬ (fx M oa 1 < k1.toInt ∧ k1.toInt < 1000))) (fun _ t => PQ D [] L M (va_A ([] ++ va_pl L M) sz) t) (va_A ([] ++ va_pl L M) sz)) 0 0 (va_A ([] ++ va_pl L M) sz) := by
  refine Met.ofW (cc := cX12_isFree) (maxL := 2) (ret := (some .boolean)) (by decide) rfl ?_
  intro p e s m args below meth c s₁ B hml hv
  obtain ⟨rfl, hsz, hP, hK, hD0, hN⟩ := hv
  have hx := B.exec
  have hb := B.bytes
  have hr := B.returns
  have hts := atoms_spec (ws := (wsM yX12_isFree cX12_isFree 2 (some .boolean))) B.pre
  have hg : ∀ w ∈ lw_good, w.before _ s = true := fun w h => hts w (List.mem_cons_of_mem _ h)
  have hown : s.vm.findClass RX12 = some m.cls := findClass_of_methodNamed B.named
  have hlocks := B.notSynchronized
  subst hsz
  have hD := hD0.self (sz := s.heap.size)
  generalize hAe : va_A ([] ++ va_pl L M) s.heap.size = A at hD ⊢
  have hA : ∀ q : Nat, s.heap.size ≤ q → A q := fun q h => by rw [← hAe]; exact Or.inr h
  have hS : va_S A s.heap s.heap [] := va_S.rf
  have hl := lv_entry ([.ref oa, .int k1]) (n := 2) (Nat.le_of_ble_eq_true rfl)
  rw [lg_entry_eq]
  generalize (lg_sl ([.ref oa, .int k1]) ++ List.replicate (2 - (lg_sl ([.ref oa, .int k1])).length) Slot.unset).toArray = ls at hl ⊢
  refine W.nameQ (fun Q hQ => ?_)
  refine W.nameR (fun R hR => ?_)
  have hRf : 0 ≤ R.frames := by rw [hR]; exact Nat.le_of_ble_eq_true rfl
  have hRl : 0 ≤ R.locals := by rw [hR]; exact Nat.le_of_ble_eq_true rfl
  have hRc : 0 ≤ R.cells := by rw [hR]; exact Nat.le_of_ble_eq_true rfl
  have hRs : 0 ≤ R.slots := by rw [hR]; exact Nat.le_of_ble_eq_true rfl
  have hl : lv_has ls 2 [(0, .ref oa), (1, .int k1)] := hl
  refine lv_iload_n hx hb dX12_isFree_0 rfl (lv_at hl 1 rfl) ?_
  refine lv_aload_n hx hb dX12_isFree_1 rfl (lv_at hl 0 rfl) ?_
  obtain ⟨fs1, hM1, hn1, hl1⟩ := hW.open_12 ia
  obtain ⟨v2, hv2, hc2⟩ : ∃ v : Int32, fs1[1]? = some (.int v : Value) ∧ (v = (-1) ∨ ∃ c : Nat, c < 1000 ∧ v = nI c) := hl1 1 (by decide)
  refine pg_get (D := D) (ci := 12) (v := .int v2) (C := RX12) (T := TX12) (N := 51) hx hb hg inG12 hown hK hP ia.1 hM1 rfl 1 (by decide) (hg _ wd_702) (fun _ h9 => h9) hv2 dX12_isFree_2 ?_
  rcases hc2 with rfl | ⟨c_3, hc_4, rfl⟩
  · have hz := rfl (a := 0)
    refine lv_icmp_le (tgt := 19) hx hb dX12_isFree_5 (by decide) (fun c_5 => ?_) (fun c_5 => ?_)
    · have hz := rfl (a := 0)
      refine lv_iconst (v := 0) hx hb dX12_isFree_19 (by decide) ?_
      have hI_6 : (k1 : Int32).toInt ≤ (-1) := ileI rfl rfl c_5
      have hx1 : fx M oa 1 = (-1) := (fx_of hM1 rfl hv2).trans rfl
      rw [hQ]
      exact W.zret (v := 0) hx hb hr rfl (fun t ht hW9 => ⟨⟨0, (), rfl, (Or.inr ⟨rfl, by omega⟩), ⟨by rw [ht]; exact hP, hD⟩⟩, hS.F ht⟩) hS.2.2 dX12_isFree_20
    · have hz := rfl (a := 0)
      have n_7 : ¬ k1 < 0 := gtM (Int32.not_le.mp c_5)
      refine lv_iload_n hx hb dX12_isFree_8 rfl (lv_at hl 1 rfl) ?_
      refine lv_sipush (v := 1000) hx hb dX12_isFree_9 (by decide) ?_
      refine lv_icmp_ge (tgt := 19) hx hb dX12_isFree_12 (by decide) (fun c_8 => ?_) (fun c_8 => ?_)
      · have hz := rfl (a := 0)
        refine lv_iconst (v := 0) hx hb dX12_isFree_19 (by decide) ?_
        have hI_9 : (-1) < (k1 : Int32).toInt := inleI rfl rfl c_5
        have hI_10 : (0 : Int) ≤ (k1 : Int32).toInt := inltI rfl rfl n_7
        have hI_11 : (1000 : Int) ≤ (k1 : Int32).toInt := ileI rfl rfl c_8
        have hx1 : fx M oa 1 = (-1) := (fx_of hM1 rfl hv2).trans rfl
        rw [hQ]
        exact W.zret (v := 0) hx hb hr rfl (fun t ht hW9 => ⟨⟨0, (), rfl, (Or.inr ⟨rfl, by omega⟩), ⟨by rw [ht]; exact hP, hD⟩⟩, hS.F ht⟩) hS.2.2 dX12_isFree_20
      · have hz := rfl (a := 0)
        refine lv_iconst (v := 1) hx hb dX12_isFree_15 (by decide) ?_
        refine lv_goto (tgt := 20) hx hb dX12_isFree_16 (by decide) ?_
        have hI_12 : (-1) < (k1 : Int32).toInt := inleI rfl rfl c_5
        have hI_13 : (0 : Int) ≤ (k1 : Int32).toInt := inltI rfl rfl n_7
        have hI_14 : (k1 : Int32).toInt < (1000 : Int) := inleI rfl rfl c_8
        have hx1 : fx M oa 1 = (-1) := (fx_of hM1 rfl hv2).trans rfl
        rw [hQ]
        exact W.zret (v := 1) hx hb hr rfl (fun t ht hW9 => ⟨⟨1, (), rfl, (Or.inl ⟨rfl, by omega, n_7, c_8⟩), ⟨by rw [ht]; exact hP, hD⟩⟩, hS.F ht⟩) hS.2.2 dX12_isFree_20
  · have hz := rfl (a := 0)
    refine lv_icmp_le (tgt := 19) hx hb dX12_isFree_5 (by decide) (fun c_15 => ?_) (fun c_15 => ?_)
    · have hz := rfl (a := 0)
      refine lv_iconst (v := 0) hx hb dX12_isFree_19 (by decide) ?_
      have hI_16 : (k1 : Int32).toInt ≤ ((c_3 : Nat) : Int) := ileI rfl (nI_toInt (by omega)) c_15
      have hx1 : fx M oa 1 = ((c_3 : Nat) : Int) := (fx_of hM1 rfl hv2).trans (nI_toInt (by omega))
      rw [hQ]
      exact W.zret (v := 0) hx hb hr rfl (fun t ht hW9 => ⟨⟨0, (), rfl, (Or.inr ⟨rfl, by omega⟩), ⟨by rw [ht]; exact hP, hD⟩⟩, hS.F ht⟩) hS.2.2 dX12_isFree_20
    · have hz := rfl (a := 0)
      have n_17 : ¬ k1 < 0 := gtN (c := c_3) (by omega) (Int32.not_le.mp c_15)
      refine lv_iload_n hx hb dX12_isFree_8 rfl (lv_at hl 1 rfl) ?_
      refine lv_sipush (v := 1000) hx hb dX12_isFree_9 (by decide) ?_
      refine lv_icmp_ge (tgt := 19) hx hb dX12_isFree_12 (by decide) (fun c_18 => ?_) (fun c_18 => ?_)
      · have hz := rfl (a := 0)
        refine lv_iconst (v := 0) hx hb dX12_isFree_19 (by decide) ?_
        have hI_19 : ((c_3 : Nat) : Int) < (k1 : Int32).toInt := inleI rfl (nI_toInt (by omega)) c_15
        have hI_20 : (0 : Int) ≤ (k1 : Int32).toInt := inltI rfl rfl n_17
        have hI_21 : (1000 : Int) ≤ (k1 : Int32).toInt := ileI rfl rfl c_18
        have hx1 : fx M oa 1 = ((c_3 : Nat) : Int) := (fx_of hM1 rfl hv2).trans (nI_toInt (by omega))
        rw [hQ]
        exact W.zret (v := 0) hx hb hr rfl (fun t ht hW9 => ⟨⟨0, (), rfl, (Or.inr ⟨rfl, by omega⟩), ⟨by rw [ht]; exact hP, hD⟩⟩, hS.F ht⟩) hS.2.2 dX12_isFree_20
      · have hz := rfl (a := 0)
        refine lv_iconst (v := 1) hx hb dX12_isFree_15 (by decide) ?_
        refine lv_goto (tgt := 20) hx hb dX12_isFree_16 (by decide) ?_
        have hI_22 : ((c_3 : Nat) : Int) < (k1 : Int32).toInt := inleI rfl (nI_toInt (by omega)) c_15
        have hI_23 : (0 : Int) ≤ (k1 : Int32).toInt := inltI rfl rfl n_17
        have hI_24 : (k1 : Int32).toInt < (1000 : Int) := inleI rfl rfl c_18
        have hx1 : fx M oa 1 = ((c_3 : Nat) : Int) := (fx_of hM1 rfl hv2).trans (nI_toInt (by omega))
        rw [hQ]
        exact W.zret (v := 1) hx hb hr rfl (fun t ht hW9 => ⟨⟨1, (), rfl, (Or.inl ⟨rfl, by omega, n_17, c_18⟩), ⟨by rw [ht]; exact hP, hD⟩⟩, hS.F ht⟩) hS.2.2 dX12_isFree_20
set_option maxHeartbeats 4000000 in
set_option maxRecDepth 100000 in
theorem z_tear (l : Launch) (D : va_G) (cy : Nat → ClassId) (K : Kp) (L : List Nat) (M : Hp) (sz : Nat) (za : Nat) (z0 : Int32) (z1 : Nat) (z2 : Nat) (z3 : Nat) (z4 : Int32) (z5 : Int32) (z6 : Nat) (z7 : Nat) (z8 : Nat) (z9 : Nat) (z10 : Nat) (z11 : Nat) (z12 : Nat) (z13 : Nat) (z14 : Nat) (z15 : Nat) (z16 : Nat) (z17 : Nat) (z18 : Int32) (z19 : Nat) (k1 : Int32) (k2 : Int32) (SX : Nat → Nat → Int) (SY : Nat → Nat → Nat → Int32) (hW : WOM cy K L M) (i1 : isk K L z1 23 8) (b2 : z2 ≤ 8) (b3 : z3 ≤ 40) (i6 : isk K L z6 47 40) (i7 : isk K L z7 48 40) (i8 : isk K L z8 49 8) (i9 : isk K L z9 50 8) (b10 : z10 ≤ 8) (i11 : isk K L z11 32 24) (i12 : isk K L z12 14 24) (i13 : isk K L z13 97 24) (i14 : isk K L z14 98 24) (i15 : isk K L z15 99 24) (b16 : z16 ≤ 24) (i17 : isk K L z17 14 24) (i19 : isk K L z19 15 25) (hGI : GI K L z1 z2 M) (hZS : ZSx z1 z2 SX SY M) : Met l yX13_tear (wsM yX13_tear cX13_tear 5 (some .int)) ({ frames := 1, cells := 0, slots := 0, locals := 21 }) (va_Pc [.ref za, .int k1, .int k2] (PG D cy [(za, (b13_0 z0 z1 (nI z2) (nI z3) z4 z5 z6 z7 z8 z9 (nI z10) z11 z12 z13 z14 z15 (nI z16) z17 z18 z19))] L M sz)) (va_Qi (fun (r : Int32) (M9 : Hp) => WOM cy K L M9 ∧ fr K L [12, 35, 37] M M9 ∧ fG K L [16] M M9 ∧ (GI K L z1 z2 M9 ∧ ZSx z1 z2 (sxTr z2 SX SY k1 k2) (syTr z2 SX SY k1 k2) M9) ∧ ((r = anTr z2 SX SY k1 k2))) (fun M9 t => ∃ (w4 : Int32), PQ D [(za, (b13_0 0 z1 (nI z2) (nI z3) w4 (-1) z6 z7 z8 z9 (nI z10) z11 z12 z13 z14 z15 (nI z16) z17 z18 z19))] L M9 (va_A ([(za, (b13_0 z0 z1 (nI z2) (nI z3) z4 z5 z6 z7 z8 z9 (nI z10) z11 z12 z13 z14 z15 (nI z16) z17 z18 z19))] ++ va_pl L M) sz) t) (va_A ([(za, (b13_0 z0 z1 (nI z2) (nI z3) z4 z5 z6 z7 z8 z9 (nI z10) z11 z12 z13 z14 z15 (nI z16) z17 z18 z19))] ++ va_pl L M) sz)) 0 0 (va_A ([(za, (b13_0 z0 z1 (nI z2) (nI z3) z4 z5 z6 z7 z8 z9 (nI z10) z11 z12 z13 z14 z15 (nI z16) z17 z18 z19))] ++ va_pl L M) sz) := by
  refine Met.ofW (cc := cX13_tear) (maxL := 5) (ret := (some .int)) (by decide) rfl ?_
  intro p e s m args below meth c s₁ B hml hv
  obtain ⟨rfl, hsz, hP, hK, hD0, hN⟩ := hv
  have hx := B.exec
  have hb := B.bytes
  have hr := B.returns
  have hts := atoms_spec (ws := (wsM yX13_tear cX13_tear 5 (some .int))) B.pre
  have hg : ∀ w ∈ lw_good, w.before _ s = true := fun w h => hts w (List.mem_cons_of_mem _ h)
  have hown : s.vm.findClass RX13 = some m.cls := findClass_of_methodNamed B.named
  have hlocks := B.notSynchronized
  subst hsz
  have hD := hD0.self (sz := s.heap.size)
  generalize hAe : va_A ([(za, (b13_0 z0 z1 (nI z2) (nI z3) z4 z5 z6 z7 z8 z9 (nI z10) z11 z12 z13 z14 z15 (nI z16) z17 z18 z19))] ++ va_pl L M) s.heap.size = A at hD ⊢
  have hA : ∀ q : Nat, s.heap.size ≤ q → A q := fun q h => by rw [← hAe]; exact Or.inr h
  have hS : va_S A s.heap s.heap [] := va_S.rf
  have hl := lv_entry ([.ref za, .int k1, .int k2]) (n := 5) (Nat.le_of_ble_eq_true rfl)
  rw [lg_entry_eq]
  generalize (lg_sl ([.ref za, .int k1, .int k2]) ++ List.replicate (5 - (lg_sl ([.ref za, .int k1, .int k2])).length) Slot.unset).toArray = ls at hl ⊢
  refine W.nameQ (fun Q hQ => ?_)
  refine W.nameR (fun R hR => ?_)
  have hRf : 1 ≤ R.frames := by rw [hR]; exact Nat.le_of_ble_eq_true rfl
  have hRl : 21 ≤ R.locals := by rw [hR]; exact Nat.le_of_ble_eq_true rfl
  have hRc : 0 ≤ R.cells := by rw [hR]; exact Nat.le_of_ble_eq_true rfl
  have hRs : 0 ≤ R.slots := by rw [hR]; exact Nat.le_of_ble_eq_true rfl
  have hF : fr K L [12, 35, 37] M M := fr.rf
  have hG : fG K L [16] M M := fG.rf
  have hl : lv_has ls 5 [(0, .ref za), (1, .int k1), (2, .int k2)] := hl
  have hW0 := hW
  refine lv_aload_n hx hb dX13_tear_0 rfl (lv_at hl 0 rfl) ?_
  refine lv_iconst (v := 0) hx hb dX13_tear_1 (by decide) ?_
  refine va_put (D := D) (ci := 13) (v := .int 0) (ty := .int) (C := RX13) (T := TX13) (N := 20) hx hb hg inG13 tyX13 tyX13_ok nmX13 hown hK hP hD hS 0 rfl rfl 0 (by decide) (hg _ wd_720) (fun _ h9 => h9) rfl (by decide +kernel) rfl rfl (Nat.le_of_ble_eq_true rfl) dX13_tear_2 (fun H_1 locs hP hD hS => ?_)
  have hP : va_P D vwCl ([(za, (b13_0 0 z1 (nI z2) (nI z3) z4 z5 z6 z7 z8 z9 (nI z10) z11 z12 z13 z14 z15 (nI z16) z17 z18 z19))] ++ va_pl L M) H_1 := hP
  have hD : va_D A ([(za, (b13_0 0 z1 (nI z2) (nI z3) z4 z5 z6 z7 z8 z9 (nI z10) z11 z12 z13 z14 z15 (nI z16) z17 z18 z19))] ++ va_pl L M) := hD
  refine lv_aload_n hx hb dX13_tear_5 rfl (lv_at hl 0 rfl) ?_
  refine lv_iload_n hx hb dX13_tear_6 rfl (lv_at hl 1 rfl) ?_
  have hPc : va_P D vwCl ([(za, (b13_0 0 z1 (nI z2) (nI z3) z4 z5 z6 z7 z8 z9 (nI z10) z11 z12 z13 z14 z15 (nI z16) z17 z18 z19))] ++ va_pl L M) H_1 := hP
  have hDc : va_D A ([(za, (b13_0 0 z1 (nI z2) (nI z3) z4 z5 z6 z7 z8 z9 (nI z10) z11 z12 z13 z14 z15 (nI z16) z17 z18 z19))] ++ va_pl L M) := hD
  have hFc : ∀ q, va_A ([(za, (b13_0 0 z1 (nI z2) (nI z3) z4 z5 z6 z7 z8 z9 (nI z10) z11 z12 z13 z14 z15 (nI z16) z17 z18 z19))] ++ va_pl L M) H_1.size q → A q := pg_free hDc hS hA
  refine va_calli (va_runV (As := [.int k1]) (rest := []) ⟨hx, hb, hml, hown, hg⟩ (f_isHouse l D cy K L M H_1.size za 0 z1 z2 z3 z4 z5 z6 z7 z8 z9 z10 z11 z12 z13 z14 z15 z16 z17 z18 z19 k1  hW i1 b2 b3 i6 i7 i8 i9 b10 i11 i12 i13 i14 i15 b16 i17 i19) (cwV 1 hg (gV wd_714 wd_715 wd_716 wd_717 wd_718) rfl rfl rfl (by decide +kernel) ⟨(Nat.le_trans (Nat.le_of_ble_eq_true rfl) hRf), (Nat.le_trans (Nat.le_of_ble_eq_true rfl) hRl)⟩) ⟨PG.blind, va_recv hK hP (ci := 13) (q0 := 0) rfl rfl, fun U hU hW => ⟨rfl, PG.at hPc hK hDc hN hU hW⟩⟩ rfl rfl hl.1 rfl (lv_room (Nat.le_of_ble_eq_true rfl)) dX13_tear_7 ⟨(Nat.le_trans (Nat.le_of_ble_eq_true rfl) hRc), (Nat.le_trans (Nat.le_of_ble_eq_true rfl) hRs)⟩) hS (fun q _ h => hFc q h) hFc (fun r_3 M_4 t H_2 locs ht hvm hw hB hz1 hk1 hS => ?_)
  have hp_5 := hw
  obtain ⟨hP1, hD1⟩ := hB
  rw [ht] at hP1
  have hP : va_P D vwCl ([(za, (b13_0 0 z1 (nI z2) (nI z3) z4 z5 z6 z7 z8 z9 (nI z10) z11 z12 z13 z14 z15 (nI z16) z17 z18 z19))] ++ va_pl L M) H_2 := hP1
  have hD : va_D A ([(za, (b13_0 0 z1 (nI z2) (nI z3) z4 z5 z6 z7 z8 z9 (nI z10) z11 z12 z13 z14 z15 (nI z16) z17 z18 z19))] ++ va_pl L M) := hD1.mono hFc
  rcases hp_5 with ⟨rfl, c_6, c_7, c_8⟩ | ⟨rfl, c_9⟩
  · have hz := rfl (a := 0)
    refine lv_if_ne (tgt := 19) hx hb dX13_tear_10 (by decide) (fun _ => ?_) (fun c_10 => absurd c_10 (by decide))
    refine lv_aload_n hx hb dX13_tear_19 rfl (lv_at hl 0 rfl) ?_
    refine va_get (D := D) (ci := 13) (v := .ref z1) (C := RX13) (T := TX13) (N := 20) hx hb hg inG13 hown hK hP 0 rfl rfl 1 (by decide) (hg _ wd_739) (fun _ h9 => h9) rfl dX13_tear_20 ?_
    refine lv_iload_n hx hb dX13_tear_23 rfl (lv_at hl 1 rfl) ?_
    obtain ⟨f11, hM11, hf11⟩ := hW.open_23 i1
    have hi_12 : vp_in k1 8 := (inbW (a := z2) (by omega) (inb k1 z2 (by omega) c_7 c_8))
    refine pg_aldq hx hb hK hP i1.1 9 hM11 rfl hi_12 dX13_tear_24 ?_
    obtain ⟨b13, eb_14, hb_15⟩ := hf11 _ (vp_lt hi_12)
    rw [eb_14]
    have hact : ACT z1 z2 b13 M := ⟨(k1 : Int32).toNatClampNeg, vp_lt (inb k1 z2 (by omega) c_7 c_8), by rw [show RFc (M z1) = f11 from by rw [hM11]; rfl]; exact eb_14⟩
    have hAT := GI.at hGI hact
    have hV : VW K L M M b13 (fx M b13) (ax M b13) := VW.rf b13 hGI.2.2.2
    have hb9 : RFc (M z1) (k1 : Int32).toNatClampNeg = some b13 := by rw [show RFc (M z1) = f11 from by rw [hM11]; rfl]; exact eb_14
    have hkn : (k1 : Int32).toNatClampNeg < z2 := vp_lt (inb k1 z2 (by omega) c_7 c_8)
    have hZk := hZS _ b13 hkn hb9
    have hz0 : fx M b13 0 = SX (k1 : Int32).toNatClampNeg 0 := congrFun hZk.1 0
    have hz1 : fx M b13 1 = SX (k1 : Int32).toNatClampNeg 1 := congrFun hZk.1 1
    have hz10 : fx M b13 10 = SX (k1 : Int32).toNatClampNeg 10 := congrFun hZk.1 10
    have hz11 : fx M b13 11 = SX (k1 : Int32).toNatClampNeg 11 := congrFun hZk.1 11
    have hz12 : fx M b13 12 = SX (k1 : Int32).toNatClampNeg 12 := congrFun hZk.1 12
    have hz13 : fx M b13 13 = SX (k1 : Int32).toNatClampNeg 13 := congrFun hZk.1 13
    have hz14 : fx M b13 14 = SX (k1 : Int32).toNatClampNeg 14 := congrFun hZk.1 14
    have hz15 : fx M b13 15 = SX (k1 : Int32).toNatClampNeg 15 := congrFun hZk.1 15
    have hz16 : fx M b13 16 = SX (k1 : Int32).toNatClampNeg 16 := congrFun hZk.1 16
    refine lv_astore_n (lv' := [(3, .ref b13), (0, .ref za), (1, .int k1), (2, .int k2)]) hx hb dX13_tear_25 rfl hl (by decide) rfl (fun ls hl => ?_)
    refine lv_aload_n hx hb dX13_tear_26 rfl (lv_at hl 0 rfl) ?_
    refine lv_iload_n hx hb dX13_tear_27 rfl (lv_at hl 3 rfl) ?_
    obtain ⟨fs16, hM16, hn16, hl16⟩ := hW.open_12 hb_15
    have hPc : va_P D vwCl ([] ++ va_pl L M) H_2 := hP.part (cx := []) [] rfl
    have hDc : va_D A ([] ++ va_pl L M) := hD.part (cx := []) [] (by decide) rfl
    have hFc : ∀ q, va_A ([] ++ va_pl L M) H_2.size q → A q := pg_free hDc hS hA
    refine va_calli (va_runV (As := [.int k2]) (rest := []) ⟨hx, hb, hml, hown, hg⟩ (f_isFree l D cy K L M H_2.size b13 k2  hW hb_15) (cwV 1 hg (gV wd_807 wd_808 wd_809 wd_737 wd_810) rfl rfl rfl (by decide +kernel) ⟨(Nat.le_trans (Nat.le_of_ble_eq_true rfl) hRf), (Nat.le_trans (Nat.le_of_ble_eq_true rfl) hRl)⟩) ⟨PG.blind, pg_recv hK hP hb_15.1 hM16 rfl, fun U hU hW => ⟨rfl, PG.at hPc hK hDc hN hU hW⟩⟩ rfl rfl hl.1 rfl (lv_room (Nat.le_of_ble_eq_true rfl)) dX13_tear_28 ⟨(Nat.le_trans (Nat.le_of_ble_eq_true rfl) hRc), (Nat.le_trans (Nat.le_of_ble_eq_true rfl) hRs)⟩) hS (fun q _ h => hFc q h) hFc (fun r_18 M_19 t H_17 locs ht hvm hw hB hz1 hk1 hS => ?_)
    have hp_20 := hw
    obtain ⟨hP1, hD1⟩ := hB
    rw [ht] at hP1
    obtain ⟨hP, hD⟩ := va_joinP (X := [(za, (b13_0 0 z1 (nI z2) (nI z3) z4 z5 z6 z7 z8 z9 (nI z10) z11 z12 z13 z14 z15 (nI z16) z17 z18 z19))]) (cx := []) (wr := [(za, (b13_0 0 z1 (nI z2) (nI z3) z4 z5 z6 z7 z8 z9 (nI z10) z11 z12 z13 z14 z15 (nI z16) z17 z18 z19))]) (rx := []) (pl := va_pl L M) (pl1 := va_pl L M) hP hD [] [0] rfl rfl (by decide) (by decide) hk1 hFc hP1 hD1
    have hP : va_P D vwCl ([(za, (b13_0 0 z1 (nI z2) (nI z3) z4 z5 z6 z7 z8 z9 (nI z10) z11 z12 z13 z14 z15 (nI z16) z17 z18 z19))] ++ va_pl L M) H_17 := hP
    have hD : va_D A ([(za, (b13_0 0 z1 (nI z2) (nI z3) z4 z5 z6 z7 z8 z9 (nI z10) z11 z12 z13 z14 z15 (nI z16) z17 z18 z19))] ++ va_pl L M) := hD
    rcases hp_20 with ⟨rfl, c_21, c_22, c_23⟩ | ⟨rfl, c_24⟩
    · have hz := rfl (a := 0)
      refine lv_if_ne (tgt := 40) hx hb dX13_tear_31 (by decide) (fun _ => ?_) (fun c_25 => absurd c_25 (by decide))
      refine lv_aload_n hx hb dX13_tear_40 rfl (lv_at hl 0 rfl) ?_
      obtain ⟨v26, hv26, hc26⟩ : ∃ v : Nat, fs16[2]? = some (.ref v : Value) ∧ isk K L v 37 1000 := hl16 2 (by decide)
      refine pg_getN (D := D) (ci := 12) (v := .ref v26) (C := RX12) (T := TX12) (N := 51) hx hb hg inG12 hown hK hP hb_15.1 hM16 rfl 2 (by decide) (hN.use (Cond.fieldLinkNest RX13 83 RX12 "places" "[I" RX13) 11 rfl rfl) (fun _ h9 => h9) hv26 dX13_tear_41 ?_
      refine lv_iload_n hx hb dX13_tear_44 rfl (lv_at hl 3 rfl) ?_
      obtain ⟨f27, hM27, hf27⟩ := hW.open_37 hc26
      have hi_28 : vp_in k2 1000 := (inb k2 1000 (by omega) c_22 c_23)
      refine pg_iald hx hb hK hP hc26.1 0 hM27 rfl hi_28 dX13_tear_45 ?_
      have hp_29 := hf27 _ (vp_lt hi_28)
      rcases hp_29 with ec_32 | ⟨c_30, hc_31, ec_32⟩
      · rw [ec_32]
        have hp2e : SY (k1 : Int32).toNatClampNeg 2 (k2 : Int32).toNatClampNeg = (-1) := by rw [← hZk.2, ax_of hM16 (by decide) hv26 hM27]; exact ec_32
        have hp2 : (SY (k1 : Int32).toNatClampNeg 2 (k2 : Int32).toNatClampNeg).toInt = (-1) := by rw [hp2e]; exact rfl
        refine lv_iconst (v := (-1)) hx hb dX13_tear_46 (by decide) ?_
        refine lv_icmp_ne (tgt := 57) hx hb dX13_tear_47 (by decide) (fun c_33 => absurd c_33 (by decide)) (fun _ => ?_)
        refine lv_aload_n hx hb dX13_tear_50 rfl (lv_at hl 1 rfl) ?_
        refine lv_bipush (v := 10) hx hb dX13_tear_51 (by decide) ?_
        have hPc := hP.sub (ws' := [(za, (b13_0 0 z1 (nI z2) (nI z3) z4 z5 z6 z7 z8 z9 (nI z10) z11 z12 z13 z14 z15 (nI z16) z17 z18 z19))]) [0] rfl
        have hDc := hD.sub (ws' := [(za, (b13_0 0 z1 (nI z2) (nI z3) z4 z5 z6 z7 z8 z9 (nI z10) z11 z12 z13 z14 z15 (nI z16) z17 z18 z19))]) [0] (by decide) rfl
        have hKc := hK.sub (tys' := []) [] rfl
        have hFc := va_free (wc := [(za, (b13_0 0 z1 (nI z2) (nI z3) z4 z5 z6 z7 z8 z9 (nI z10) z11 z12 z13 z14 z15 (nI z16) z17 z18 z19))]) hD hS hA [0] rfl
        refine va_calli (va_runV (As := [.int 10]) (rest := []) ⟨hx, hb, hml, hown, hg⟩ (m_refused l D H_17.size za 0 z1 (nI z2) (nI z3) z4 z5 z6 z7 z8 z9 (nI z10) z11 z12 z13 z14 z15 (nI z16) z17 z18 z19 10) (cwV 1 hg (gV wd_725 wd_726 wd_727 wd_717 wd_728) rfl rfl rfl (by decide +kernel) ⟨(Nat.le_trans (Nat.le_of_ble_eq_true rfl) hRf), (Nat.le_trans (Nat.le_of_ble_eq_true rfl) hRl)⟩) ⟨Pr.blind, va_recv hK hP (ci := 13) (q0 := 0) rfl rfl, fun U hU hW => ⟨rfl, Pr.at hPc hKc hDc hN hU hW⟩⟩ rfl rfl hl.1 rfl (lv_room (Nat.le_of_ble_eq_true rfl)) dX13_tear_53 ⟨(Nat.le_trans (Nat.le_of_ble_eq_true rfl) hRc), (Nat.le_trans (Nat.le_of_ble_eq_true rfl) hRs)⟩) hS (fun q _ h => hFc q h) hFc (fun r_35 M_36 t H_34 locs ht hvm hw hB hz1 hk1 hS => ?_)
        have hp_37 := hw
        obtain ⟨hP1, hK1, hD1⟩ := hB
        rw [ht] at hP1
        obtain ⟨hP, hD⟩ := va_joinQ (X := [(za, (b13_0 0 z1 (nI z2) (nI z3) z4 z5 z6 z7 z8 z9 (nI z10) z11 z12 z13 z14 z15 (nI z16) z17 z18 z19))]) (cx := [(za, (b13_0 0 z1 (nI z2) (nI z3) z4 z5 z6 z7 z8 z9 (nI z10) z11 z12 z13 z14 z15 (nI z16) z17 z18 z19))]) (wr := []) (w1 := [(za, (b13_0 0 z1 (nI z2) (nI z3) 10 (-1) z6 z7 z8 z9 (nI z10) z11 z12 z13 z14 z15 (nI z16) z17 z18 z19))]) (pl := va_pl L M) hP hD [0] [] rfl rfl (by decide) (by decide) hk1 hFc hP1 hD1
        have hP : va_P D vwCl ([(za, (b13_0 0 z1 (nI z2) (nI z3) 10 (-1) z6 z7 z8 z9 (nI z10) z11 z12 z13 z14 z15 (nI z16) z17 z18 z19))] ++ va_pl L M) H_34 := hP
        have hD : va_D A ([(za, (b13_0 0 z1 (nI z2) (nI z3) 10 (-1) z6 z7 z8 z9 (nI z10) z11 z12 z13 z14 z15 (nI z16) z17 z18 z19))] ++ va_pl L M) := hD
        have hq := Eq.symm hp_37
        subst hq
        have hI_38 : (0 : Int) ≤ (k1 : Int32).toInt := inltI rfl rfl c_7
        have hI_39 : (k1 : Int32).toInt < ((z2 : Nat) : Int) := inleI (nI_toInt (by omega)) rfl c_8
        have hI_40 : (0 : Int) ≤ (k2 : Int32).toInt := inltI rfl rfl c_22
        have hI_41 : (k2 : Int32).toInt < (1000 : Int) := inleI rfl rfl c_23
        have hno : ¬ okTr z2 SX SY k1 k2 := fun q9 => by unfold okTr okH at q9; first | omega | (obtain ⟨⟨_, _⟩, _, _, _⟩ := q9; first | omega | contradiction)
        rw [hQ]
        exact W.iret (v := (-1)) hx hb hr (fun t ht hW9 => ⟨⟨(-1), M, rfl, ⟨hW, hF, hG, ⟨hGI, (by unfold sxTr syTr; rw [if_neg hno, if_neg hno]; exact hZS)⟩, (by unfold anTr; rw [if_neg hno])⟩, ⟨10, by rw [ht]; exact hP, hD⟩⟩, hS.F ht⟩) hS.2.2 dX13_tear_56
      · rw [ec_32]
        have hp2e : SY (k1 : Int32).toNatClampNeg 2 (k2 : Int32).toNatClampNeg = (nI c_30) := by rw [← hZk.2, ax_of hM16 (by decide) hv26 hM27]; exact ec_32
        have hp2 : (SY (k1 : Int32).toNatClampNeg 2 (k2 : Int32).toNatClampNeg).toInt = ((c_30 : Nat) : Int) := by rw [hp2e]; exact (nI_toInt (by omega))
        refine lv_iconst (v := (-1)) hx hb dX13_tear_46 (by decide) ?_
        refine lv_icmp_ne (tgt := 57) hx hb dX13_tear_47 (by decide) (fun _ => ?_) (fun c_42 => absurd c_42 (nI_ne_m1 (by omega)))
        refine lv_aload_n hx hb dX13_tear_57 rfl (lv_at hl 0 rfl) ?_
        obtain ⟨v43, hv43, hc43⟩ : ∃ v : Nat, fs16[3]? = some (.ref v : Value) ∧ isk K L v 35 1000 := hl16 3 (by decide)
        refine pg_getN (D := D) (ci := 12) (v := .ref v43) (C := RX12) (T := TX12) (N := 51) hx hb hg inG12 hown hK hP hb_15.1 hM16 rfl 3 (by decide) (hN.use (Cond.fieldLinkNest RX13 157 RX12 "told" "[I" RX13) 12 rfl rfl) (fun _ h9 => h9) hv43 dX13_tear_58 ?_
        refine lv_iload_n hx hb dX13_tear_61 rfl (lv_at hl 3 rfl) ?_
        obtain ⟨f44, hM44, hf44⟩ := hW.open_35 hc43
        have hi_45 : vp_in k2 1000 := (inb k2 1000 (by omega) c_22 c_23)
        refine pg_iald hx hb hK hP hc43.1 0 hM44 rfl hi_45 dX13_tear_62 ?_
        have hp_46 := hf44 _ (vp_lt hi_45)
        obtain ⟨c_47, hc_48, ec_49⟩ := hp_46
        rw [ec_49]
        have hp3e : SY (k1 : Int32).toNatClampNeg 3 (k2 : Int32).toNatClampNeg = (nI c_47) := by rw [← hZk.2, ax_of hM16 (by decide) hv43 hM44]; exact ec_49
        have hp3 : (SY (k1 : Int32).toNatClampNeg 3 (k2 : Int32).toNatClampNeg).toInt = ((c_47 : Nat) : Int) := by rw [hp3e]; exact (nI_toInt (by omega))
        refine lv_istore (lv' := [(4, .int (nI c_47)), (3, .ref b13), (0, .ref za), (1, .int k1), (2, .int k2)]) hx hb dX13_tear_63 hl (by decide) rfl (fun ls hl => ?_)
        refine lv_aload_n hx hb dX13_tear_65 rfl (lv_at hl 1 rfl) ?_
        refine pg_getN (D := D) (ci := 12) (v := .ref v26) (C := RX12) (T := TX12) (N := 51) hx hb hg inG12 hown hK hP hb_15.1 hM16 rfl 2 (by decide) (hN.use (Cond.fieldLinkNest RX13 83 RX12 "places" "[I" RX13) 11 rfl rfl) (fun _ h9 => h9) hv26 dX13_tear_66 ?_
        refine lv_iload_n hx hb dX13_tear_69 rfl (lv_at hl 4 rfl) ?_
        refine lv_iconst (v := (-1)) hx hb dX13_tear_70 (by decide) ?_
        obtain ⟨j_50, hj_51, rfl⟩ := i32nat 1000 (by decide) c_22 c_23
        refine pg_iast hx hb hK hP hD hS hc26.1 0 hM27 rfl (inbN j_50 1000 (by omega) (by omega)) dX13_tear_71 (fun H_52 locs hP hD hS => ?_)
        obtain ⟨M_53, eM_53⟩ : ∃ M1 : Hp, M1 = va_up M v26 (.inl (cy 14, 1000, .inl (upd f27 ((nI j_50) : Int32).toNatClampNeg (-1)))) := ⟨_, rfl⟩
        have hy2 : (ax M b13 2) = f27 := (congrFun hV.2.2.1 2).symm.trans (ax_of hM16 (by decide) hv26 hM27)
        have hV : VW K L M M_53 b13 (fx M b13) (va_up (ax M b13) 2 (upd (ax M b13 2) ((nI j_50) : Int32).toNatClampNeg (-1))) := by rw [eM_53]; exact hV.ast (j := 2) hW hb_15 hM16 (by decide) hv26 hc26 hM27
        have hP : va_P D vwCl ([(za, (b13_0 0 z1 (nI z2) (nI z3) z4 z5 z6 z7 z8 z9 (nI z10) z11 z12 z13 z14 z15 (nI z16) z17 z18 z19))] ++ va_pl L M_53) H_52 := by rw [eM_53]; exact hP
        have hD : va_D A ([(za, (b13_0 0 z1 (nI z2) (nI z3) z4 z5 z6 z7 z8 z9 (nI z10) z11 z12 z13 z14 z15 (nI z16) z17 z18 z19))] ++ va_pl L M_53) := by rw [eM_53]; exact hD
        have hW : WOM cy K L M_53 := by rw [eM_53]; exact hW.up_37 hc26 ⟨_, rfl, (updP (P := fun z => (z = -1 ∨ ∃ c : Nat, c < 7 ∧ z = nI c)) hf27 (Or.inl rfl))⟩
        have hF : fr K L [12, 35, 37] M M_53 := by rw [eM_53]; exact hF.up hc26 (by decide)
        have hG : fG K L [16] M M_53 := by rw [eM_53]; exact hG.arr hc26 (by decide)
        have hM_54 : M_53 v26 = .inl (cy 14, 1000, .inl (upd f27 ((nI j_50) : Int32).toNatClampNeg (-1))) := by rw [eM_53]; exact va_up_self _ _ _
        have hM_55 : M_53 z1 = .inl (cy 23, 8, .inr (.inr (.inr (.inr (f11))))) := by rw [eM_53, va_up_ne _ _ (i1.neT hc26 (by decide))]; exact hM11
        have hM_56 : M_53 b13 = .inr (12, fs16) := by rw [eM_53, va_up_ne _ _ (hb_15.neT hc26 (by decide))]; exact hM16
        have hM_57 : M_53 v43 = .inl (cy 14, 1000, .inl (f44)) := by rw [eM_53, va_up_ne _ _ (hc43.neT hc26 (by decide))]; exact hM44
        have hf_59 : ∀ j, j < 1000 → ((upd f27 ((nI j_50) : Int32).toNatClampNeg (-1)) j = -1 ∨ ∃ c : Nat, c < 7 ∧ (upd f27 ((nI j_50) : Int32).toNatClampNeg (-1)) j = nI c) := (updP (P := fun z => (z = -1 ∨ ∃ c : Nat, c < 7 ∧ z = nI c)) hf27 (Or.inl rfl))
        obtain ⟨f_58, ef_58⟩ : ∃ f : Nat → Int32, f = upd f27 ((nI j_50) : Int32).toNatClampNeg (-1) := ⟨_, rfl⟩
        rw [← ef_58] at hM_54 hf_59
        refine lv_aload_n hx hb dX13_tear_72 rfl (lv_at hl 1 rfl) ?_
        refine pg_getN (D := D) (ci := 12) (v := .ref v43) (C := RX12) (T := TX12) (N := 51) hx hb hg inG12 hown hK hP hb_15.1 hM_56 rfl 3 (by decide) (hN.use (Cond.fieldLinkNest RX13 157 RX12 "told" "[I" RX13) 12 rfl rfl) (fun _ h9 => h9) hv43 dX13_tear_73 ?_
        refine lv_iload_n hx hb dX13_tear_76 rfl (lv_at hl 4 rfl) ?_
        refine lv_iconst (v := 0) hx hb dX13_tear_77 (by decide) ?_
        refine pg_iast hx hb hK hP hD hS hc43.1 0 hM_57 rfl (inbN j_50 1000 (by omega) (by omega)) dX13_tear_78 (fun H_60 locs hP hD hS => ?_)
        obtain ⟨M_61, eM_61⟩ : ∃ M1 : Hp, M1 = va_up M_53 v43 (.inl (cy 14, 1000, .inl (upd f44 ((nI j_50) : Int32).toNatClampNeg 0))) := ⟨_, rfl⟩
        have hy3 : (ax M b13 3) = f44 := (congrFun hV.2.2.1 3).symm.trans (ax_of hM_56 (by decide) hv43 hM_57)
        have hV : VW K L M M_61 b13 (fx M b13) (va_up (va_up (ax M b13) 2 (upd (ax M b13 2) ((nI j_50) : Int32).toNatClampNeg (-1))) 3 (upd (ax M b13 3) ((nI j_50) : Int32).toNatClampNeg 0)) := by rw [eM_61]; exact hV.ast (j := 3) hW hb_15 hM_56 (by decide) hv43 hc43 hM_57
        have hP : va_P D vwCl ([(za, (b13_0 0 z1 (nI z2) (nI z3) z4 z5 z6 z7 z8 z9 (nI z10) z11 z12 z13 z14 z15 (nI z16) z17 z18 z19))] ++ va_pl L M_61) H_60 := by rw [eM_61]; exact hP
        have hD : va_D A ([(za, (b13_0 0 z1 (nI z2) (nI z3) z4 z5 z6 z7 z8 z9 (nI z10) z11 z12 z13 z14 z15 (nI z16) z17 z18 z19))] ++ va_pl L M_61) := by rw [eM_61]; exact hD
        have hW : WOM cy K L M_61 := by rw [eM_61]; exact hW.up_35 hc43 ⟨_, rfl, (updP (P := fun z => ∃ c : Nat, c < 7 ∧ z = nI c) hf44 ⟨0, by omega, rfl⟩)⟩
        have hF : fr K L [12, 35, 37] M M_61 := by rw [eM_61]; exact hF.up hc43 (by decide)
        have hG : fG K L [16] M M_61 := by rw [eM_61]; exact hG.arr hc43 (by decide)
        have hM_62 : M_61 v43 = .inl (cy 14, 1000, .inl (upd f44 ((nI j_50) : Int32).toNatClampNeg 0)) := by rw [eM_61]; exact va_up_self _ _ _
        have hM_63 : M_61 v26 = .inl (cy 14, 1000, .inl (f_58)) := by rw [eM_61, va_up_ne _ _ (hc26.neT hc43 (by decide))]; exact hM_54
        have hM_64 : M_61 z1 = .inl (cy 23, 8, .inr (.inr (.inr (.inr (f11))))) := by rw [eM_61, va_up_ne _ _ (i1.neT hc43 (by decide))]; exact hM_55
        have hM_65 : M_61 b13 = .inr (12, fs16) := by rw [eM_61, va_up_ne _ _ (hb_15.neT hc43 (by decide))]; exact hM_56
        have hf_67 : ∀ j, j < 1000 → ∃ c : Nat, c < 7 ∧ (upd f44 ((nI j_50) : Int32).toNatClampNeg 0) j = nI c := (updP (P := fun z => ∃ c : Nat, c < 7 ∧ z = nI c) hf44 ⟨0, by omega, rfl⟩)
        obtain ⟨f_66, ef_66⟩ : ∃ f : Nat → Int32, f = upd f44 ((nI j_50) : Int32).toNatClampNeg 0 := ⟨_, rfl⟩
        rw [← ef_66] at hM_62 hf_67
        refine lv_aload_n hx hb dX13_tear_79 rfl (lv_at hl 1 rfl) ?_
        refine lv_iconst (v := 0) hx hb dX13_tear_80 (by decide) ?_
        refine pg_putN (D := D) (ci := 12) (v := .int 0) (ty := .int) (C := RX12) (T := TX12) (N := 51) hx hb hg inG12 tyX12 tyX12_ok nmX12 hown hK hP hD hS hb_15.1 hM_65 rfl 16 (by decide) (hN.use (Cond.fieldLinkNest RX13 161 RX12 "undone" "I" RX13) 25 rfl rfl) (fun _ h9 => h9) rfl (by decide +kernel) rfl rfl (by rw [hn16]; decide) dX13_tear_81 (fun H_68 locs hP hD hS => ?_)
        have hs_71 : (fs16.set 16 (.int 0))[16]? = some (.int (nI 0)) := List.getElem?_set_self (by rw [hn16]; decide)
        have hk_70 := fld12_set (k := 16) (w := .int 0) hl16 (show fld12 K L 16 (fs16.set 16 (.int 0)) from ⟨0, hs_71, by omega⟩)
        have hn_72 : (fs16.set 16 (.int 0)).length = 51 := by rw [List.length_set]; exact hn16
        have hv_73 : (fs16.set 16 (.int 0))[2]? = some (.ref v26) := by rw [List.getElem?_set_ne (by decide)]; exact hv26
        have hv_74 : (fs16.set 16 (.int 0))[3]? = some (.ref v43) := by rw [List.getElem?_set_ne (by decide)]; exact hv43
        have hb_75 : 0 ≤ 60 := by omega
        obtain ⟨M_76, eM_76⟩ : ∃ M1 : Hp, M1 = va_up M_61 b13 (.inr (12, fs16.set 16 (.int 0))) := ⟨_, rfl⟩
        have hV : VW K L M M_76 b13 (va_up (fx M b13) 16 (0 : Int)) (va_up (va_up (ax M b13) 2 (upd (ax M b13 2) ((nI j_50) : Int32).toNatClampNeg (-1))) 3 (upd (ax M b13 3) ((nI j_50) : Int32).toNatClampNeg 0)) := by rw [eM_76]; exact hV.put hW hb_15 hM_65 hn16 rfl (by decide) rfl (by decide)
        have hP : va_P D vwCl ([(za, (b13_0 0 z1 (nI z2) (nI z3) z4 z5 z6 z7 z8 z9 (nI z10) z11 z12 z13 z14 z15 (nI z16) z17 z18 z19))] ++ va_pl L M_76) H_68 := by rw [eM_76]; exact hP
        have hD : va_D A ([(za, (b13_0 0 z1 (nI z2) (nI z3) z4 z5 z6 z7 z8 z9 (nI z10) z11 z12 z13 z14 z15 (nI z16) z17 z18 z19))] ++ va_pl L M_76) := by rw [eM_76]; exact hD
        have hW : WOM cy K L M_76 := by rw [eM_76]; exact hW.up_12 hb_15 ⟨_, rfl, hn_72, hk_70⟩
        have hF : fr K L [12, 35, 37] M M_76 := by rw [eM_76]; exact hF.up hb_15 (by decide)
        have hG : fG K L [16] M M_76 := by rw [eM_76]; exact hG.up hM_65 (by decide)
        have hM_77 : M_76 b13 = .inr (12, fs16.set 16 (.int 0)) := by rw [eM_76]; exact va_up_self _ _ _
        have hM_78 : M_76 v43 = .inl (cy 14, 1000, .inl (f_66)) := by rw [eM_76, va_up_ne _ _ (hc43.neT hb_15 (by decide))]; exact hM_62
        have hM_79 : M_76 v26 = .inl (cy 14, 1000, .inl (f_58)) := by rw [eM_76, va_up_ne _ _ (hc26.neT hb_15 (by decide))]; exact hM_63
        have hM_80 : M_76 z1 = .inl (cy 23, 8, .inr (.inr (.inr (.inr (f11))))) := by rw [eM_76, va_up_ne _ _ (i1.neT hb_15 (by decide))]; exact hM_64
        refine lv_aload_n hx hb dX13_tear_84 rfl (lv_at hl 2 rfl) ?_
        refine lv_iload hx hb dX13_tear_85 (lv_at hl 0 rfl) ?_
        have hPc := hP.sub (ws' := [(za, (b13_0 0 z1 (nI z2) (nI z3) z4 z5 z6 z7 z8 z9 (nI z10) z11 z12 z13 z14 z15 (nI z16) z17 z18 z19))]) [0] rfl
        have hDc := hD.sub (ws' := [(za, (b13_0 0 z1 (nI z2) (nI z3) z4 z5 z6 z7 z8 z9 (nI z10) z11 z12 z13 z14 z15 (nI z16) z17 z18 z19))]) [0] (by decide) rfl
        have hKc := hK.sub (tys' := []) [] rfl
        have hFc := va_free (wc := [(za, (b13_0 0 z1 (nI z2) (nI z3) z4 z5 z6 z7 z8 z9 (nI z10) z11 z12 z13 z14 z15 (nI z16) z17 z18 z19))]) hD hS hA [0] rfl
        refine va_calli (va_runV (As := [.int (nI c_47)]) (rest := []) ⟨hx, hb, hml, hown, hg⟩ (m_done l D H_68.size za 0 z1 (nI z2) (nI z3) z4 z5 z6 z7 z8 z9 (nI z10) z11 z12 z13 z14 z15 (nI z16) z17 z18 z19 (nI c_47)) (cwV 1 hg (gV wd_730 wd_731 wd_732 wd_717 wd_733) rfl rfl rfl (by decide +kernel) ⟨(Nat.le_trans (Nat.le_of_ble_eq_true rfl) hRf), (Nat.le_trans (Nat.le_of_ble_eq_true rfl) hRl)⟩) ⟨Pr.blind, va_recv hK hP (ci := 13) (q0 := 0) rfl rfl, fun U hU hW => ⟨rfl, Pr.at hPc hKc hDc hN hU hW⟩⟩ rfl rfl hl.1 rfl (lv_room (Nat.le_of_ble_eq_true rfl)) dX13_tear_87 ⟨(Nat.le_trans (Nat.le_of_ble_eq_true rfl) hRc), (Nat.le_trans (Nat.le_of_ble_eq_true rfl) hRs)⟩) hS (fun q _ h => hFc q h) hFc (fun r_82 M_83 t H_81 locs ht hvm hw hB hz1 hk1 hS => ?_)
        have hp_84 := hw
        obtain ⟨hP1, hK1, hD1⟩ := hB
        rw [ht] at hP1
        obtain ⟨hP, hD⟩ := va_joinQ (X := [(za, (b13_0 0 z1 (nI z2) (nI z3) z4 z5 z6 z7 z8 z9 (nI z10) z11 z12 z13 z14 z15 (nI z16) z17 z18 z19))]) (cx := [(za, (b13_0 0 z1 (nI z2) (nI z3) z4 z5 z6 z7 z8 z9 (nI z10) z11 z12 z13 z14 z15 (nI z16) z17 z18 z19))]) (wr := []) (w1 := [(za, (b13_0 0 z1 (nI z2) (nI z3) 0 (-1) z6 z7 z8 z9 (nI z10) z11 z12 z13 z14 z15 (nI z16) z17 z18 z19))]) (pl := va_pl L M_76) hP hD [0] [] rfl rfl (by decide) (by decide) hk1 hFc hP1 hD1
        have hP : va_P D vwCl ([(za, (b13_0 0 z1 (nI z2) (nI z3) 0 (-1) z6 z7 z8 z9 (nI z10) z11 z12 z13 z14 z15 (nI z16) z17 z18 z19))] ++ va_pl L M_76) H_81 := hP
        have hD : va_D A ([(za, (b13_0 0 z1 (nI z2) (nI z3) 0 (-1) z6 z7 z8 z9 (nI z10) z11 z12 z13 z14 z15 (nI z16) z17 z18 z19))] ++ va_pl L M_76) := hD
        have hq := Eq.symm hp_84
        subst hq
        have hI_85 : (0 : Int) ≤ (k1 : Int32).toInt := inltI rfl rfl c_7
        have hI_86 : (k1 : Int32).toInt < ((z2 : Nat) : Int) := inleI (nI_toInt (by omega)) rfl c_8
        have hI_87 : (0 : Int) ≤ ((j_50 : Nat) : Int) := inltI (nI_toInt (by omega)) rfl c_22
        have hI_88 : ((j_50 : Nat) : Int) < (1000 : Int) := inleI rfl (nI_toInt (by omega)) c_23
        have hn92 : ((nI j_50) : Int32).toInt = ((j_50 : Nat) : Int) := nI_toInt (by omega)
        have hyes : okTr z2 SX SY k1 (nI j_50) := by unfold okTr okH; refine ⟨⟨?_, ?_⟩, ?_, ?_, ?_⟩ <;> first | omega | assumption
        have hA9 : HA (upd (ax M b13 2) ((nI j_50) : Int32).toNatClampNeg (-1)) (upd (ax M b13 3) ((nI j_50) : Int32).toNatClampNeg 0) := HA.tear hAT.1
        have hB9 : HB (0 : Int) (fx M b13 14) (upd (ax M b13 3) ((nI j_50) : Int32).toNatClampNeg 0) (ax M b13 43) := HB.zero (nn_upd hAT.2.1.nn.1 (by decide)) hAT.2.1.nn.2
        have hC9 : HC (fx M b13 10) (ax M b13 22) (ax M b13 23) := hAT.2.2.1
        have hD9 : HD (fx M b13 0) (fx M b13 11) (fx M b13 15) (ax M b13 34) (ax M b13 41) := hAT.2.2.2.1
        have hE9 : HE (fx M b13 0) (fx M b13 1) (fx M b13 12) (fx M b13 13) (ax M b13 37) := hAT.2.2.2.2
        have hH9 : HI (va_up (fx M b13) 16 (0 : Int)) (va_up (va_up (ax M b13) 2 (upd (ax M b13 2) ((nI j_50) : Int32).toNatClampNeg (-1))) 3 (upd (ax M b13 3) ((nI j_50) : Int32).toNatClampNeg 0)) := ⟨hA9, hB9, hC9, hD9, hE9⟩
        have hGI9 : GI K L z1 z2 M_76 := GI.fin hW0 i1 b2 hGI hact hV (hF.at i1 (by decide)) hH9
        rw [hQ]
        exact W.iret (v := (nI c_47)) hx hb hr (fun t ht hW9 => ⟨⟨(nI c_47), M_76, rfl, ⟨hW, hF, hG, ⟨hGI9, (by unfold sxTr syTr; rw [if_pos hyes, if_pos hyes]; have hQ9 := ZSx.fin hW0 i1 b2 hZS hGI.1 hkn hb9 hV (hF.at i1 (by decide)) ((by rw [hZk.1])) ((by rw [hZk.2])); exact hQ9)⟩, (by unfold anTr; rw [if_pos hyes, hp3e])⟩, ⟨0, by rw [ht]; exact hP, hD⟩⟩, hS.F ht⟩) hS.2.2 dX13_tear_90
    · have hz := rfl (a := 0)
      refine lv_if_ne (tgt := 40) hx hb dX13_tear_31 (by decide) (fun c_89 => absurd c_89 (by decide)) (fun _ => ?_)
      refine lv_aload_n hx hb dX13_tear_34 rfl (lv_at hl 1 rfl) ?_
      refine lv_iconst (v := 3) hx hb dX13_tear_35 (by decide) ?_
      have hPc := hP.sub (ws' := [(za, (b13_0 0 z1 (nI z2) (nI z3) z4 z5 z6 z7 z8 z9 (nI z10) z11 z12 z13 z14 z15 (nI z16) z17 z18 z19))]) [0] rfl
      have hDc := hD.sub (ws' := [(za, (b13_0 0 z1 (nI z2) (nI z3) z4 z5 z6 z7 z8 z9 (nI z10) z11 z12 z13 z14 z15 (nI z16) z17 z18 z19))]) [0] (by decide) rfl
      have hKc := hK.sub (tys' := []) [] rfl
      have hFc := va_free (wc := [(za, (b13_0 0 z1 (nI z2) (nI z3) z4 z5 z6 z7 z8 z9 (nI z10) z11 z12 z13 z14 z15 (nI z16) z17 z18 z19))]) hD hS hA [0] rfl
      refine va_calli (va_runV (As := [.int 3]) (rest := []) ⟨hx, hb, hml, hown, hg⟩ (m_refused l D H_17.size za 0 z1 (nI z2) (nI z3) z4 z5 z6 z7 z8 z9 (nI z10) z11 z12 z13 z14 z15 (nI z16) z17 z18 z19 3) (cwV 1 hg (gV wd_725 wd_726 wd_727 wd_717 wd_728) rfl rfl rfl (by decide +kernel) ⟨(Nat.le_trans (Nat.le_of_ble_eq_true rfl) hRf), (Nat.le_trans (Nat.le_of_ble_eq_true rfl) hRl)⟩) ⟨Pr.blind, va_recv hK hP (ci := 13) (q0 := 0) rfl rfl, fun U hU hW => ⟨rfl, Pr.at hPc hKc hDc hN hU hW⟩⟩ rfl rfl hl.1 rfl (lv_room (Nat.le_of_ble_eq_true rfl)) dX13_tear_36 ⟨(Nat.le_trans (Nat.le_of_ble_eq_true rfl) hRc), (Nat.le_trans (Nat.le_of_ble_eq_true rfl) hRs)⟩) hS (fun q _ h => hFc q h) hFc (fun r_91 M_92 t H_90 locs ht hvm hw hB hz1 hk1 hS => ?_)
      have hp_93 := hw
      obtain ⟨hP1, hK1, hD1⟩ := hB
      rw [ht] at hP1
      obtain ⟨hP, hD⟩ := va_joinQ (X := [(za, (b13_0 0 z1 (nI z2) (nI z3) z4 z5 z6 z7 z8 z9 (nI z10) z11 z12 z13 z14 z15 (nI z16) z17 z18 z19))]) (cx := [(za, (b13_0 0 z1 (nI z2) (nI z3) z4 z5 z6 z7 z8 z9 (nI z10) z11 z12 z13 z14 z15 (nI z16) z17 z18 z19))]) (wr := []) (w1 := [(za, (b13_0 0 z1 (nI z2) (nI z3) 3 (-1) z6 z7 z8 z9 (nI z10) z11 z12 z13 z14 z15 (nI z16) z17 z18 z19))]) (pl := va_pl L M) hP hD [0] [] rfl rfl (by decide) (by decide) hk1 hFc hP1 hD1
      have hP : va_P D vwCl ([(za, (b13_0 0 z1 (nI z2) (nI z3) 3 (-1) z6 z7 z8 z9 (nI z10) z11 z12 z13 z14 z15 (nI z16) z17 z18 z19))] ++ va_pl L M) H_90 := hP
      have hD : va_D A ([(za, (b13_0 0 z1 (nI z2) (nI z3) 3 (-1) z6 z7 z8 z9 (nI z10) z11 z12 z13 z14 z15 (nI z16) z17 z18 z19))] ++ va_pl L M) := hD
      have hq := Eq.symm hp_93
      subst hq
      have hI_94 : (0 : Int) ≤ (k1 : Int32).toInt := inltI rfl rfl c_7
      have hI_95 : (k1 : Int32).toInt < ((z2 : Nat) : Int) := inleI (nI_toInt (by omega)) rfl c_8
      have hno : ¬ okTr z2 SX SY k1 k2 := fun q9 => by unfold okTr okH at q9; first | omega | (obtain ⟨⟨_, _⟩, _, _, _⟩ := q9; first | omega | contradiction)
      rw [hQ]
      exact W.iret (v := (-1)) hx hb hr (fun t ht hW9 => ⟨⟨(-1), M, rfl, ⟨hW, hF, hG, ⟨hGI, (by unfold sxTr syTr; rw [if_neg hno, if_neg hno]; exact hZS)⟩, (by unfold anTr; rw [if_neg hno])⟩, ⟨3, by rw [ht]; exact hP, hD⟩⟩, hS.F ht⟩) hS.2.2 dX13_tear_39
  · have hz := rfl (a := 0)
    refine lv_if_ne (tgt := 19) hx hb dX13_tear_10 (by decide) (fun c_96 => absurd c_96 (by decide)) (fun _ => ?_)
    refine lv_aload_n hx hb dX13_tear_13 rfl (lv_at hl 0 rfl) ?_
    refine lv_iconst (v := 1) hx hb dX13_tear_14 (by decide) ?_
    have hPc := hP.sub (ws' := [(za, (b13_0 0 z1 (nI z2) (nI z3) z4 z5 z6 z7 z8 z9 (nI z10) z11 z12 z13 z14 z15 (nI z16) z17 z18 z19))]) [0] rfl
    have hDc := hD.sub (ws' := [(za, (b13_0 0 z1 (nI z2) (nI z3) z4 z5 z6 z7 z8 z9 (nI z10) z11 z12 z13 z14 z15 (nI z16) z17 z18 z19))]) [0] (by decide) rfl
    have hKc := hK.sub (tys' := []) [] rfl
    have hFc := va_free (wc := [(za, (b13_0 0 z1 (nI z2) (nI z3) z4 z5 z6 z7 z8 z9 (nI z10) z11 z12 z13 z14 z15 (nI z16) z17 z18 z19))]) hD hS hA [0] rfl
    refine va_calli (va_runV (As := [.int 1]) (rest := []) ⟨hx, hb, hml, hown, hg⟩ (m_refused l D H_2.size za 0 z1 (nI z2) (nI z3) z4 z5 z6 z7 z8 z9 (nI z10) z11 z12 z13 z14 z15 (nI z16) z17 z18 z19 1) (cwV 1 hg (gV wd_725 wd_726 wd_727 wd_717 wd_728) rfl rfl rfl (by decide +kernel) ⟨(Nat.le_trans (Nat.le_of_ble_eq_true rfl) hRf), (Nat.le_trans (Nat.le_of_ble_eq_true rfl) hRl)⟩) ⟨Pr.blind, va_recv hK hP (ci := 13) (q0 := 0) rfl rfl, fun U hU hW => ⟨rfl, Pr.at hPc hKc hDc hN hU hW⟩⟩ rfl rfl hl.1 rfl (lv_room (Nat.le_of_ble_eq_true rfl)) dX13_tear_15 ⟨(Nat.le_trans (Nat.le_of_ble_eq_true rfl) hRc), (Nat.le_trans (Nat.le_of_ble_eq_true rfl) hRs)⟩) hS (fun q _ h => hFc q h) hFc (fun r_98 M_99 t H_97 locs ht hvm hw hB hz1 hk1 hS => ?_)
    have hp_100 := hw
    obtain ⟨hP1, hK1, hD1⟩ := hB
    rw [ht] at hP1
    obtain ⟨hP, hD⟩ := va_joinQ (X := [(za, (b13_0 0 z1 (nI z2) (nI z3) z4 z5 z6 z7 z8 z9 (nI z10) z11 z12 z13 z14 z15 (nI z16) z17 z18 z19))]) (cx := [(za, (b13_0 0 z1 (nI z2) (nI z3) z4 z5 z6 z7 z8 z9 (nI z10) z11 z12 z13 z14 z15 (nI z16) z17 z18 z19))]) (wr := []) (w1 := [(za, (b13_0 0 z1 (nI z2) (nI z3) 1 (-1) z6 z7 z8 z9 (nI z10) z11 z12 z13 z14 z15 (nI z16) z17 z18 z19))]) (pl := va_pl L M) hP hD [0] [] rfl rfl (by decide) (by decide) hk1 hFc hP1 hD1
    have hP : va_P D vwCl ([(za, (b13_0 0 z1 (nI z2) (nI z3) 1 (-1) z6 z7 z8 z9 (nI z10) z11 z12 z13 z14 z15 (nI z16) z17 z18 z19))] ++ va_pl L M) H_97 := hP
    have hD : va_D A ([(za, (b13_0 0 z1 (nI z2) (nI z3) 1 (-1) z6 z7 z8 z9 (nI z10) z11 z12 z13 z14 z15 (nI z16) z17 z18 z19))] ++ va_pl L M) := hD
    have hq := Eq.symm hp_100
    subst hq
    have hno : ¬ okTr z2 SX SY k1 k2 := fun q9 => by unfold okTr okH at q9; first | omega | (obtain ⟨⟨_, _⟩, _, _, _⟩ := q9; first | omega | contradiction)
    rw [hQ]
    exact W.iret (v := (-1)) hx hb hr (fun t ht hW9 => ⟨⟨(-1), M, rfl, ⟨hW, hF, hG, ⟨hGI, (by unfold sxTr syTr; rw [if_neg hno, if_neg hno]; exact hZS)⟩, (by unfold anTr; rw [if_neg hno])⟩, ⟨1, by rw [ht]; exact hP, hD⟩⟩, hS.F ht⟩) hS.2.2 dX13_tear_18
set_option maxHeartbeats 4000000 in
set_option maxRecDepth 100000 in
theorem z_leaf (l : Launch) (D : va_G) (cy : Nat → ClassId) (K : Kp) (L : List Nat) (M : Hp) (sz : Nat) (za : Nat) (z0 : Int32) (z1 : Nat) (z2 : Nat) (z3 : Nat) (z4 : Int32) (z5 : Int32) (z6 : Nat) (z7 : Nat) (z8 : Nat) (z9 : Nat) (z10 : Nat) (z11 : Nat) (z12 : Nat) (z13 : Nat) (z14 : Nat) (z15 : Nat) (z16 : Nat) (z17 : Nat) (z18 : Int32) (z19 : Nat) (k1 : Int32) (k2 : Int32) (k3 : Int32) (k4 : Int32) (SX : Nat → Nat → Int) (SY : Nat → Nat → Nat → Int32) (hW : WOM cy K L M) (i1 : isk K L z1 23 8) (b2 : z2 ≤ 8) (b3 : z3 ≤ 40) (i6 : isk K L z6 47 40) (i7 : isk K L z7 48 40) (i8 : isk K L z8 49 8) (i9 : isk K L z9 50 8) (b10 : z10 ≤ 8) (i11 : isk K L z11 32 24) (i12 : isk K L z12 14 24) (i13 : isk K L z13 97 24) (i14 : isk K L z14 98 24) (i15 : isk K L z15 99 24) (b16 : z16 ≤ 24) (i17 : isk K L z17 14 24) (i19 : isk K L z19 15 25) (hGI : GI K L z1 z2 M) (hZS : ZSx z1 z2 SX SY M) : Met l yX13_leaf (wsM yX13_leaf cX13_leaf 6 (some .int)) ({ frames := 1, cells := 0, slots := 0, locals := 21 }) (va_Pc [.ref za, .int k1, .int k2, .int k3, .int k4] (PG D cy [(za, (b13_0 z0 z1 (nI z2) (nI z3) z4 z5 z6 z7 z8 z9 (nI z10) z11 z12 z13 z14 z15 (nI z16) z17 z18 z19))] L M sz)) (va_Qi (fun (r : Int32) (M9 : Hp) => WOM cy K L M9 ∧ fr K L [12, 14, 35, 37, 74] M M9 ∧ fG K L [16] M M9 ∧ (GI K L z1 z2 M9 ∧ ZSx z1 z2 (sxLf z2 SX k1 k2 k3 k4) (syLf z2 SX SY k1 k2 k3 k4) M9) ∧ ((r = anLf z2 SX k1 k2 k3 k4))) (fun M9 t => ∃ (w4 : Int32), PQ D [(za, (b13_0 0 z1 (nI z2) (nI z3) w4 (-1) z6 z7 z8 z9 (nI z10) z11 z12 z13 z14 z15 (nI z16) z17 z18 z19))] L M9 (va_A ([(za, (b13_0 z0 z1 (nI z2) (nI z3) z4 z5 z6 z7 z8 z9 (nI z10) z11 z12 z13 z14 z15 (nI z16) z17 z18 z19))] ++ va_pl L M) sz) t) (va_A ([(za, (b13_0 z0 z1 (nI z2) (nI z3) z4 z5 z6 z7 z8 z9 (nI z10) z11 z12 z13 z14 z15 (nI z16) z17 z18 z19))] ++ va_pl L M) sz)) 0 0 (va_A ([(za, (b13_0 z0 z1 (nI z2) (nI z3) z4 z5 z6 z7 z8 z9 (nI z10) z11 z12 z13 z14 z15 (nI z16) z17 z18 z19))] ++ va_pl L M) sz) := by
  refine Met.ofW (cc := cX13_leaf) (maxL := 6) (ret := (some .int)) (by decide) rfl ?_
  intro p e s m args below meth c s₁ B hml hv
  obtain ⟨rfl, hsz, hP, hK, hD0, hN⟩ := hv
  have hx := B.exec
  have hb := B.bytes
  have hr := B.returns
  have hts := atoms_spec (ws := (wsM yX13_leaf cX13_leaf 6 (some .int))) B.pre
  have hg : ∀ w ∈ lw_good, w.before _ s = true := fun w h => hts w (List.mem_cons_of_mem _ h)
  have hown : s.vm.findClass RX13 = some m.cls := findClass_of_methodNamed B.named
  have hlocks := B.notSynchronized
  subst hsz
  have hD := hD0.self (sz := s.heap.size)
  generalize hAe : va_A ([(za, (b13_0 z0 z1 (nI z2) (nI z3) z4 z5 z6 z7 z8 z9 (nI z10) z11 z12 z13 z14 z15 (nI z16) z17 z18 z19))] ++ va_pl L M) s.heap.size = A at hD ⊢
  have hA : ∀ q : Nat, s.heap.size ≤ q → A q := fun q h => by rw [← hAe]; exact Or.inr h
  have hS : va_S A s.heap s.heap [] := va_S.rf
  have hl := lv_entry ([.ref za, .int k1, .int k2, .int k3, .int k4]) (n := 6) (Nat.le_of_ble_eq_true rfl)
  rw [lg_entry_eq]
  generalize (lg_sl ([.ref za, .int k1, .int k2, .int k3, .int k4]) ++ List.replicate (6 - (lg_sl ([.ref za, .int k1, .int k2, .int k3, .int k4])).length) Slot.unset).toArray = ls at hl ⊢
  refine W.nameQ (fun Q hQ => ?_)
  refine W.nameR (fun R hR => ?_)
  have hRf : 1 ≤ R.frames := by rw [hR]; exact Nat.le_of_ble_eq_true rfl
  have hRl : 21 ≤ R.locals := by rw [hR]; exact Nat.le_of_ble_eq_true rfl
  have hRc : 0 ≤ R.cells := by rw [hR]; exact Nat.le_of_ble_eq_true rfl
  have hRs : 0 ≤ R.slots := by rw [hR]; exact Nat.le_of_ble_eq_true rfl
  have hF : fr K L [12, 14, 35, 37, 74] M M := fr.rf
  have hG : fG K L [16] M M := fG.rf
  have hl : lv_has ls 6 [(0, .ref za), (1, .int k1), (2, .int k2), (3, .int k3), (4, .int k4)] := hl
  have hW0 := hW
  refine lv_aload_n hx hb dX13_leaf_0 rfl (lv_at hl 0 rfl) ?_
  refine lv_iconst (v := 0) hx hb dX13_leaf_1 (by decide) ?_
  refine va_put (D := D) (ci := 13) (v := .int 0) (ty := .int) (C := RX13) (T := TX13) (N := 20) hx hb hg inG13 tyX13 tyX13_ok nmX13 hown hK hP hD hS 0 rfl rfl 0 (by decide) (hg _ wd_720) (fun _ h9 => h9) rfl (by decide +kernel) rfl rfl (Nat.le_of_ble_eq_true rfl) dX13_leaf_2 (fun H_1 locs hP hD hS => ?_)
  have hP : va_P D vwCl ([(za, (b13_0 0 z1 (nI z2) (nI z3) z4 z5 z6 z7 z8 z9 (nI z10) z11 z12 z13 z14 z15 (nI z16) z17 z18 z19))] ++ va_pl L M) H_1 := hP
  have hD : va_D A ([(za, (b13_0 0 z1 (nI z2) (nI z3) z4 z5 z6 z7 z8 z9 (nI z10) z11 z12 z13 z14 z15 (nI z16) z17 z18 z19))] ++ va_pl L M) := hD
  refine lv_aload_n hx hb dX13_leaf_5 rfl (lv_at hl 0 rfl) ?_
  refine lv_iload_n hx hb dX13_leaf_6 rfl (lv_at hl 1 rfl) ?_
  have hPc : va_P D vwCl ([(za, (b13_0 0 z1 (nI z2) (nI z3) z4 z5 z6 z7 z8 z9 (nI z10) z11 z12 z13 z14 z15 (nI z16) z17 z18 z19))] ++ va_pl L M) H_1 := hP
  have hDc : va_D A ([(za, (b13_0 0 z1 (nI z2) (nI z3) z4 z5 z6 z7 z8 z9 (nI z10) z11 z12 z13 z14 z15 (nI z16) z17 z18 z19))] ++ va_pl L M) := hD
  have hFc : ∀ q, va_A ([(za, (b13_0 0 z1 (nI z2) (nI z3) z4 z5 z6 z7 z8 z9 (nI z10) z11 z12 z13 z14 z15 (nI z16) z17 z18 z19))] ++ va_pl L M) H_1.size q → A q := pg_free hDc hS hA
  refine va_calli (va_runV (As := [.int k1]) (rest := []) ⟨hx, hb, hml, hown, hg⟩ (f_isHouse l D cy K L M H_1.size za 0 z1 z2 z3 z4 z5 z6 z7 z8 z9 z10 z11 z12 z13 z14 z15 z16 z17 z18 z19 k1  hW i1 b2 b3 i6 i7 i8 i9 b10 i11 i12 i13 i14 i15 b16 i17 i19) (cwV 1 hg (gV wd_714 wd_715 wd_716 wd_717 wd_718) rfl rfl rfl (by decide +kernel) ⟨(Nat.le_trans (Nat.le_of_ble_eq_true rfl) hRf), (Nat.le_trans (Nat.le_of_ble_eq_true rfl) hRl)⟩) ⟨PG.blind, va_recv hK hP (ci := 13) (q0 := 0) rfl rfl, fun U hU hW => ⟨rfl, PG.at hPc hK hDc hN hU hW⟩⟩ rfl rfl hl.1 rfl (lv_room (Nat.le_of_ble_eq_true rfl)) dX13_leaf_7 ⟨(Nat.le_trans (Nat.le_of_ble_eq_true rfl) hRc), (Nat.le_trans (Nat.le_of_ble_eq_true rfl) hRs)⟩) hS (fun q _ h => hFc q h) hFc (fun r_3 M_4 t H_2 locs ht hvm hw hB hz1 hk1 hS => ?_)
  have hp_5 := hw
  obtain ⟨hP1, hD1⟩ := hB
  rw [ht] at hP1
  have hP : va_P D vwCl ([(za, (b13_0 0 z1 (nI z2) (nI z3) z4 z5 z6 z7 z8 z9 (nI z10) z11 z12 z13 z14 z15 (nI z16) z17 z18 z19))] ++ va_pl L M) H_2 := hP1
  have hD : va_D A ([(za, (b13_0 0 z1 (nI z2) (nI z3) z4 z5 z6 z7 z8 z9 (nI z10) z11 z12 z13 z14 z15 (nI z16) z17 z18 z19))] ++ va_pl L M) := hD1.mono hFc
  rcases hp_5 with ⟨rfl, c_6, c_7, c_8⟩ | ⟨rfl, c_9⟩
  · have hz := rfl (a := 0)
    refine lv_if_ne (tgt := 19) hx hb dX13_leaf_10 (by decide) (fun _ => ?_) (fun c_10 => absurd c_10 (by decide))
    refine lv_iload_n hx hb dX13_leaf_19 rfl (lv_at hl 3 rfl) ?_
    refine lv_if_lt (tgt := 40) hx hb dX13_leaf_20 (by decide) (fun c_11 => ?_) (fun c_11 => ?_)
    · have hz := rfl (a := 0)
      refine lv_aload_n hx hb dX13_leaf_40 rfl (lv_at hl 0 rfl) ?_
      refine lv_iconst (v := 2) hx hb dX13_leaf_41 (by decide) ?_
      have hPc := hP.sub (ws' := [(za, (b13_0 0 z1 (nI z2) (nI z3) z4 z5 z6 z7 z8 z9 (nI z10) z11 z12 z13 z14 z15 (nI z16) z17 z18 z19))]) [0] rfl
      have hDc := hD.sub (ws' := [(za, (b13_0 0 z1 (nI z2) (nI z3) z4 z5 z6 z7 z8 z9 (nI z10) z11 z12 z13 z14 z15 (nI z16) z17 z18 z19))]) [0] (by decide) rfl
      have hKc := hK.sub (tys' := []) [] rfl
      have hFc := va_free (wc := [(za, (b13_0 0 z1 (nI z2) (nI z3) z4 z5 z6 z7 z8 z9 (nI z10) z11 z12 z13 z14 z15 (nI z16) z17 z18 z19))]) hD hS hA [0] rfl
      refine va_calli (va_runV (As := [.int 2]) (rest := []) ⟨hx, hb, hml, hown, hg⟩ (m_refused l D H_2.size za 0 z1 (nI z2) (nI z3) z4 z5 z6 z7 z8 z9 (nI z10) z11 z12 z13 z14 z15 (nI z16) z17 z18 z19 2) (cwV 1 hg (gV wd_725 wd_726 wd_727 wd_717 wd_728) rfl rfl rfl (by decide +kernel) ⟨(Nat.le_trans (Nat.le_of_ble_eq_true rfl) hRf), (Nat.le_trans (Nat.le_of_ble_eq_true rfl) hRl)⟩) ⟨Pr.blind, va_recv hK hP (ci := 13) (q0 := 0) rfl rfl, fun U hU hW => ⟨rfl, Pr.at hPc hKc hDc hN hU hW⟩⟩ rfl rfl hl.1 rfl (lv_room (Nat.le_of_ble_eq_true rfl)) dX13_leaf_42 ⟨(Nat.le_trans (Nat.le_of_ble_eq_true rfl) hRc), (Nat.le_trans (Nat.le_of_ble_eq_true rfl) hRs)⟩) hS (fun q _ h => hFc q h) hFc (fun r_13 M_14 t H_12 locs ht hvm hw hB hz1 hk1 hS => ?_)
      have hp_15 := hw
      obtain ⟨hP1, hK1, hD1⟩ := hB
      rw [ht] at hP1
      obtain ⟨hP, hD⟩ := va_joinQ (X := [(za, (b13_0 0 z1 (nI z2) (nI z3) z4 z5 z6 z7 z8 z9 (nI z10) z11 z12 z13 z14 z15 (nI z16) z17 z18 z19))]) (cx := [(za, (b13_0 0 z1 (nI z2) (nI z3) z4 z5 z6 z7 z8 z9 (nI z10) z11 z12 z13 z14 z15 (nI z16) z17 z18 z19))]) (wr := []) (w1 := [(za, (b13_0 0 z1 (nI z2) (nI z3) 2 (-1) z6 z7 z8 z9 (nI z10) z11 z12 z13 z14 z15 (nI z16) z17 z18 z19))]) (pl := va_pl L M) hP hD [0] [] rfl rfl (by decide) (by decide) hk1 hFc hP1 hD1
      have hP : va_P D vwCl ([(za, (b13_0 0 z1 (nI z2) (nI z3) 2 (-1) z6 z7 z8 z9 (nI z10) z11 z12 z13 z14 z15 (nI z16) z17 z18 z19))] ++ va_pl L M) H_12 := hP
      have hD : va_D A ([(za, (b13_0 0 z1 (nI z2) (nI z3) 2 (-1) z6 z7 z8 z9 (nI z10) z11 z12 z13 z14 z15 (nI z16) z17 z18 z19))] ++ va_pl L M) := hD
      have hq := Eq.symm hp_15
      subst hq
      have hI_16 : (0 : Int) ≤ (k1 : Int32).toInt := inltI rfl rfl c_7
      have hI_17 : (k1 : Int32).toInt < ((z2 : Nat) : Int) := inleI (nI_toInt (by omega)) rfl c_8
      have hI_18 : (k3 : Int32).toInt < (0 : Int) := iltI rfl rfl c_11
      have hno : ¬ okLf z2 SX k1 k2 k3 k4 := fun q9 => by unfold okLf okH at q9; first | omega | (obtain ⟨⟨_, _⟩, _, _, _, _, _, _⟩ := q9; first | omega | contradiction)
      rw [hQ]
      exact W.iret (v := (-1)) hx hb hr (fun t ht hW9 => ⟨⟨(-1), M, rfl, ⟨hW, hF, hG, ⟨hGI, (by unfold sxLf syLf; rw [if_neg hno, if_neg hno]; exact hZS)⟩, (by unfold anLf; rw [if_neg hno])⟩, ⟨2, by rw [ht]; exact hP, hD⟩⟩, hS.F ht⟩) hS.2.2 dX13_leaf_45
    · have hz := rfl (a := 0)
      refine lv_iload_n hx hb dX13_leaf_23 rfl (lv_at hl 3 rfl) ?_
      refine lv_iconst (v := 2) hx hb dX13_leaf_24 (by decide) ?_
      refine lv_icmp_gt (tgt := 40) hx hb dX13_leaf_25 (by decide) (fun c_19 => ?_) (fun c_19 => ?_)
      · have hz := rfl (a := 0)
        have n_20 : ¬ k3 < 0 := gtN (c := 2) (by omega) c_19
        refine lv_aload_n hx hb dX13_leaf_40 rfl (lv_at hl 0 rfl) ?_
        refine lv_iconst (v := 2) hx hb dX13_leaf_41 (by decide) ?_
        have hPc := hP.sub (ws' := [(za, (b13_0 0 z1 (nI z2) (nI z3) z4 z5 z6 z7 z8 z9 (nI z10) z11 z12 z13 z14 z15 (nI z16) z17 z18 z19))]) [0] rfl
        have hDc := hD.sub (ws' := [(za, (b13_0 0 z1 (nI z2) (nI z3) z4 z5 z6 z7 z8 z9 (nI z10) z11 z12 z13 z14 z15 (nI z16) z17 z18 z19))]) [0] (by decide) rfl
        have hKc := hK.sub (tys' := []) [] rfl
        have hFc := va_free (wc := [(za, (b13_0 0 z1 (nI z2) (nI z3) z4 z5 z6 z7 z8 z9 (nI z10) z11 z12 z13 z14 z15 (nI z16) z17 z18 z19))]) hD hS hA [0] rfl
        refine va_calli (va_runV (As := [.int 2]) (rest := []) ⟨hx, hb, hml, hown, hg⟩ (m_refused l D H_2.size za 0 z1 (nI z2) (nI z3) z4 z5 z6 z7 z8 z9 (nI z10) z11 z12 z13 z14 z15 (nI z16) z17 z18 z19 2) (cwV 1 hg (gV wd_725 wd_726 wd_727 wd_717 wd_728) rfl rfl rfl (by decide +kernel) ⟨(Nat.le_trans (Nat.le_of_ble_eq_true rfl) hRf), (Nat.le_trans (Nat.le_of_ble_eq_true rfl) hRl)⟩) ⟨Pr.blind, va_recv hK hP (ci := 13) (q0 := 0) rfl rfl, fun U hU hW => ⟨rfl, Pr.at hPc hKc hDc hN hU hW⟩⟩ rfl rfl hl.1 rfl (lv_room (Nat.le_of_ble_eq_true rfl)) dX13_leaf_42 ⟨(Nat.le_trans (Nat.le_of_ble_eq_true rfl) hRc), (Nat.le_trans (Nat.le_of_ble_eq_true rfl) hRs)⟩) hS (fun q _ h => hFc q h) hFc (fun r_22 M_23 t H_21 locs ht hvm hw hB hz1 hk1 hS => ?_)
        have hp_24 := hw
        obtain ⟨hP1, hK1, hD1⟩ := hB
        rw [ht] at hP1
        obtain ⟨hP, hD⟩ := va_joinQ (X := [(za, (b13_0 0 z1 (nI z2) (nI z3) z4 z5 z6 z7 z8 z9 (nI z10) z11 z12 z13 z14 z15 (nI z16) z17 z18 z19))]) (cx := [(za, (b13_0 0 z1 (nI z2) (nI z3) z4 z5 z6 z7 z8 z9 (nI z10) z11 z12 z13 z14 z15 (nI z16) z17 z18 z19))]) (wr := []) (w1 := [(za, (b13_0 0 z1 (nI z2) (nI z3) 2 (-1) z6 z7 z8 z9 (nI z10) z11 z12 z13 z14 z15 (nI z16) z17 z18 z19))]) (pl := va_pl L M) hP hD [0] [] rfl rfl (by decide) (by decide) hk1 hFc hP1 hD1
        have hP : va_P D vwCl ([(za, (b13_0 0 z1 (nI z2) (nI z3) 2 (-1) z6 z7 z8 z9 (nI z10) z11 z12 z13 z14 z15 (nI z16) z17 z18 z19))] ++ va_pl L M) H_21 := hP
        have hD : va_D A ([(za, (b13_0 0 z1 (nI z2) (nI z3) 2 (-1) z6 z7 z8 z9 (nI z10) z11 z12 z13 z14 z15 (nI z16) z17 z18 z19))] ++ va_pl L M) := hD
        have hq := Eq.symm hp_24
        subst hq
        have hI_25 : (0 : Int) ≤ (k1 : Int32).toInt := inltI rfl rfl c_7
        have hI_26 : (k1 : Int32).toInt < ((z2 : Nat) : Int) := inleI (nI_toInt (by omega)) rfl c_8
        have hI_27 : (0 : Int) ≤ (k3 : Int32).toInt := inltI rfl rfl c_11
        have hI_28 : (2 : Int) < (k3 : Int32).toInt := iltI rfl rfl c_19
        have hI_29 : (0 : Int) ≤ (k3 : Int32).toInt := inltI rfl rfl n_20
        have hno : ¬ okLf z2 SX k1 k2 k3 k4 := fun q9 => by unfold okLf okH at q9; first | omega | (obtain ⟨⟨_, _⟩, _, _, _, _, _, _⟩ := q9; first | omega | contradiction)
        rw [hQ]
        exact W.iret (v := (-1)) hx hb hr (fun t ht hW9 => ⟨⟨(-1), M, rfl, ⟨hW, hF, hG, ⟨hGI, (by unfold sxLf syLf; rw [if_neg hno, if_neg hno]; exact hZS)⟩, (by unfold anLf; rw [if_neg hno])⟩, ⟨2, by rw [ht]; exact hP, hD⟩⟩, hS.F ht⟩) hS.2.2 dX13_leaf_45
      · have hz := rfl (a := 0)
        refine lv_iload hx hb dX13_leaf_28 (lv_at hl 4 rfl) ?_
        refine lv_if_lt (tgt := 40) hx hb dX13_leaf_30 (by decide) (fun c_30 => ?_) (fun c_30 => ?_)
        · have hz := rfl (a := 0)
          refine lv_aload_n hx hb dX13_leaf_40 rfl (lv_at hl 0 rfl) ?_
          refine lv_iconst (v := 2) hx hb dX13_leaf_41 (by decide) ?_
          have hPc := hP.sub (ws' := [(za, (b13_0 0 z1 (nI z2) (nI z3) z4 z5 z6 z7 z8 z9 (nI z10) z11 z12 z13 z14 z15 (nI z16) z17 z18 z19))]) [0] rfl
          have hDc := hD.sub (ws' := [(za, (b13_0 0 z1 (nI z2) (nI z3) z4 z5 z6 z7 z8 z9 (nI z10) z11 z12 z13 z14 z15 (nI z16) z17 z18 z19))]) [0] (by decide) rfl
          have hKc := hK.sub (tys' := []) [] rfl
          have hFc := va_free (wc := [(za, (b13_0 0 z1 (nI z2) (nI z3) z4 z5 z6 z7 z8 z9 (nI z10) z11 z12 z13 z14 z15 (nI z16) z17 z18 z19))]) hD hS hA [0] rfl
          refine va_calli (va_runV (As := [.int 2]) (rest := []) ⟨hx, hb, hml, hown, hg⟩ (m_refused l D H_2.size za 0 z1 (nI z2) (nI z3) z4 z5 z6 z7 z8 z9 (nI z10) z11 z12 z13 z14 z15 (nI z16) z17 z18 z19 2) (cwV 1 hg (gV wd_725 wd_726 wd_727 wd_717 wd_728) rfl rfl rfl (by decide +kernel) ⟨(Nat.le_trans (Nat.le_of_ble_eq_true rfl) hRf), (Nat.le_trans (Nat.le_of_ble_eq_true rfl) hRl)⟩) ⟨Pr.blind, va_recv hK hP (ci := 13) (q0 := 0) rfl rfl, fun U hU hW => ⟨rfl, Pr.at hPc hKc hDc hN hU hW⟩⟩ rfl rfl hl.1 rfl (lv_room (Nat.le_of_ble_eq_true rfl)) dX13_leaf_42 ⟨(Nat.le_trans (Nat.le_of_ble_eq_true rfl) hRc), (Nat.le_trans (Nat.le_of_ble_eq_true rfl) hRs)⟩) hS (fun q _ h => hFc q h) hFc (fun r_32 M_33 t H_31 locs ht hvm hw hB hz1 hk1 hS => ?_)
          have hp_34 := hw
          obtain ⟨hP1, hK1, hD1⟩ := hB
          rw [ht] at hP1
          obtain ⟨hP, hD⟩ := va_joinQ (X := [(za, (b13_0 0 z1 (nI z2) (nI z3) z4 z5 z6 z7 z8 z9 (nI z10) z11 z12 z13 z14 z15 (nI z16) z17 z18 z19))]) (cx := [(za, (b13_0 0 z1 (nI z2) (nI z3) z4 z5 z6 z7 z8 z9 (nI z10) z11 z12 z13 z14 z15 (nI z16) z17 z18 z19))]) (wr := []) (w1 := [(za, (b13_0 0 z1 (nI z2) (nI z3) 2 (-1) z6 z7 z8 z9 (nI z10) z11 z12 z13 z14 z15 (nI z16) z17 z18 z19))]) (pl := va_pl L M) hP hD [0] [] rfl rfl (by decide) (by decide) hk1 hFc hP1 hD1
          have hP : va_P D vwCl ([(za, (b13_0 0 z1 (nI z2) (nI z3) 2 (-1) z6 z7 z8 z9 (nI z10) z11 z12 z13 z14 z15 (nI z16) z17 z18 z19))] ++ va_pl L M) H_31 := hP
          have hD : va_D A ([(za, (b13_0 0 z1 (nI z2) (nI z3) 2 (-1) z6 z7 z8 z9 (nI z10) z11 z12 z13 z14 z15 (nI z16) z17 z18 z19))] ++ va_pl L M) := hD
          have hq := Eq.symm hp_34
          subst hq
          have hI_35 : (0 : Int) ≤ (k1 : Int32).toInt := inltI rfl rfl c_7
          have hI_36 : (k1 : Int32).toInt < ((z2 : Nat) : Int) := inleI (nI_toInt (by omega)) rfl c_8
          have hI_37 : (0 : Int) ≤ (k3 : Int32).toInt := inltI rfl rfl c_11
          have hI_38 : (k3 : Int32).toInt ≤ (2 : Int) := inltI rfl rfl c_19
          have hI_39 : (k4 : Int32).toInt < (0 : Int) := iltI rfl rfl c_30
          have hno : ¬ okLf z2 SX k1 k2 k3 k4 := fun q9 => by unfold okLf okH at q9; first | omega | (obtain ⟨⟨_, _⟩, _, _, _, _, _, _⟩ := q9; first | omega | contradiction)
          rw [hQ]
          exact W.iret (v := (-1)) hx hb hr (fun t ht hW9 => ⟨⟨(-1), M, rfl, ⟨hW, hF, hG, ⟨hGI, (by unfold sxLf syLf; rw [if_neg hno, if_neg hno]; exact hZS)⟩, (by unfold anLf; rw [if_neg hno])⟩, ⟨2, by rw [ht]; exact hP, hD⟩⟩, hS.F ht⟩) hS.2.2 dX13_leaf_45
        · have hz := rfl (a := 0)
          refine lv_iload hx hb dX13_leaf_33 (lv_at hl 4 rfl) ?_
          refine lv_bipush (v := 6) hx hb dX13_leaf_35 (by decide) ?_
          refine lv_icmp_le (tgt := 46) hx hb dX13_leaf_37 (by decide) (fun c_40 => ?_) (fun c_40 => ?_)
          · have hz := rfl (a := 0)
            refine lv_aload_n hx hb dX13_leaf_46 rfl (lv_at hl 0 rfl) ?_
            refine va_get (D := D) (ci := 13) (v := .ref z1) (C := RX13) (T := TX13) (N := 20) hx hb hg inG13 hown hK hP 0 rfl rfl 1 (by decide) (hg _ wd_739) (fun _ h9 => h9) rfl dX13_leaf_47 ?_
            refine lv_iload_n hx hb dX13_leaf_50 rfl (lv_at hl 1 rfl) ?_
            obtain ⟨f41, hM41, hf41⟩ := hW.open_23 i1
            have hi_42 : vp_in k1 8 := (inbW (a := z2) (by omega) (inb k1 z2 (by omega) c_7 c_8))
            refine pg_aldq hx hb hK hP i1.1 9 hM41 rfl hi_42 dX13_leaf_51 ?_
            obtain ⟨b43, eb_44, hb_45⟩ := hf41 _ (vp_lt hi_42)
            rw [eb_44]
            have hact : ACT z1 z2 b43 M := ⟨(k1 : Int32).toNatClampNeg, vp_lt (inb k1 z2 (by omega) c_7 c_8), by rw [show RFc (M z1) = f41 from by rw [hM41]; rfl]; exact eb_44⟩
            have hAT := GI.at hGI hact
            have hV : VW K L M M b43 (fx M b43) (ax M b43) := VW.rf b43 hGI.2.2.2
            have hb9 : RFc (M z1) (k1 : Int32).toNatClampNeg = some b43 := by rw [show RFc (M z1) = f41 from by rw [hM41]; rfl]; exact eb_44
            have hkn : (k1 : Int32).toNatClampNeg < z2 := vp_lt (inb k1 z2 (by omega) c_7 c_8)
            have hZk := hZS _ b43 hkn hb9
            have hz0 : fx M b43 0 = SX (k1 : Int32).toNatClampNeg 0 := congrFun hZk.1 0
            have hz1 : fx M b43 1 = SX (k1 : Int32).toNatClampNeg 1 := congrFun hZk.1 1
            have hz10 : fx M b43 10 = SX (k1 : Int32).toNatClampNeg 10 := congrFun hZk.1 10
            have hz11 : fx M b43 11 = SX (k1 : Int32).toNatClampNeg 11 := congrFun hZk.1 11
            have hz12 : fx M b43 12 = SX (k1 : Int32).toNatClampNeg 12 := congrFun hZk.1 12
            have hz13 : fx M b43 13 = SX (k1 : Int32).toNatClampNeg 13 := congrFun hZk.1 13
            have hz14 : fx M b43 14 = SX (k1 : Int32).toNatClampNeg 14 := congrFun hZk.1 14
            have hz15 : fx M b43 15 = SX (k1 : Int32).toNatClampNeg 15 := congrFun hZk.1 15
            have hz16 : fx M b43 16 = SX (k1 : Int32).toNatClampNeg 16 := congrFun hZk.1 16
            refine lv_astore (lv' := [(5, .ref b43), (0, .ref za), (1, .int k1), (2, .int k2), (3, .int k3), (4, .int k4)]) hx hb dX13_leaf_52 hl (by decide) rfl (fun ls hl => ?_)
            refine lv_aload hx hb dX13_leaf_54 (lv_at hl 0 rfl) ?_
            refine lv_iload_n hx hb dX13_leaf_56 rfl (lv_at hl 3 rfl) ?_
            obtain ⟨fs46, hM46, hn46, hl46⟩ := hW.open_12 hb_45
            have hPc : va_P D vwCl ([] ++ va_pl L M) H_2 := hP.part (cx := []) [] rfl
            have hDc : va_D A ([] ++ va_pl L M) := hD.part (cx := []) [] (by decide) rfl
            have hFc : ∀ q, va_A ([] ++ va_pl L M) H_2.size q → A q := pg_free hDc hS hA
            refine va_calli (va_runV (As := [.int k2]) (rest := []) ⟨hx, hb, hml, hown, hg⟩ (f_isFree l D cy K L M H_2.size b43 k2  hW hb_45) (cwV 1 hg (gV wd_807 wd_808 wd_809 wd_737 wd_810) rfl rfl rfl (by decide +kernel) ⟨(Nat.le_trans (Nat.le_of_ble_eq_true rfl) hRf), (Nat.le_trans (Nat.le_of_ble_eq_true rfl) hRl)⟩) ⟨PG.blind, pg_recv hK hP hb_45.1 hM46 rfl, fun U hU hW => ⟨rfl, PG.at hPc hK hDc hN hU hW⟩⟩ rfl rfl hl.1 rfl (lv_room (Nat.le_of_ble_eq_true rfl)) dX13_leaf_57 ⟨(Nat.le_trans (Nat.le_of_ble_eq_true rfl) hRc), (Nat.le_trans (Nat.le_of_ble_eq_true rfl) hRs)⟩) hS (fun q _ h => hFc q h) hFc (fun r_48 M_49 t H_47 locs ht hvm hw hB hz1 hk1 hS => ?_)
            have hp_50 := hw
            obtain ⟨hP1, hD1⟩ := hB
            rw [ht] at hP1
            obtain ⟨hP, hD⟩ := va_joinP (X := [(za, (b13_0 0 z1 (nI z2) (nI z3) z4 z5 z6 z7 z8 z9 (nI z10) z11 z12 z13 z14 z15 (nI z16) z17 z18 z19))]) (cx := []) (wr := [(za, (b13_0 0 z1 (nI z2) (nI z3) z4 z5 z6 z7 z8 z9 (nI z10) z11 z12 z13 z14 z15 (nI z16) z17 z18 z19))]) (rx := []) (pl := va_pl L M) (pl1 := va_pl L M) hP hD [] [0] rfl rfl (by decide) (by decide) hk1 hFc hP1 hD1
            have hP : va_P D vwCl ([(za, (b13_0 0 z1 (nI z2) (nI z3) z4 z5 z6 z7 z8 z9 (nI z10) z11 z12 z13 z14 z15 (nI z16) z17 z18 z19))] ++ va_pl L M) H_47 := hP
            have hD : va_D A ([(za, (b13_0 0 z1 (nI z2) (nI z3) z4 z5 z6 z7 z8 z9 (nI z10) z11 z12 z13 z14 z15 (nI z16) z17 z18 z19))] ++ va_pl L M) := hD
            rcases hp_50 with ⟨rfl, c_51, c_52, c_53⟩ | ⟨rfl, c_54⟩
            · have hz := rfl (a := 0)
              refine lv_if_ne (tgt := 69) hx hb dX13_leaf_60 (by decide) (fun _ => ?_) (fun c_55 => absurd c_55 (by decide))
              refine lv_aload hx hb dX13_leaf_69 (lv_at hl 0 rfl) ?_
              obtain ⟨v56, hv56, hc56⟩ : ∃ v : Nat, fs46[2]? = some (.ref v : Value) ∧ isk K L v 37 1000 := hl46 2 (by decide)
              refine pg_getN (D := D) (ci := 12) (v := .ref v56) (C := RX12) (T := TX12) (N := 51) hx hb hg inG12 hown hK hP hb_45.1 hM46 rfl 2 (by decide) (hN.use (Cond.fieldLinkNest RX13 83 RX12 "places" "[I" RX13) 11 rfl rfl) (fun _ h9 => h9) hv56 dX13_leaf_71 ?_
              refine lv_iload_n hx hb dX13_leaf_74 rfl (lv_at hl 3 rfl) ?_
              refine lv_iload hx hb dX13_leaf_75 (lv_at hl 5 rfl) ?_
              obtain ⟨j_57, hj_58, rfl⟩ := i32nat 1000 (by decide) c_52 c_53
              obtain ⟨j_59, hj_60, rfl⟩ := i32nat 7 (by decide) c_30 (leB (b := 7) (c := 6) (by decide) (by decide) c_40)
              obtain ⟨f61, hM61, hf61⟩ := hW.open_37 hc56
              refine pg_iast hx hb hK hP hD hS hc56.1 0 hM61 rfl (inbN j_57 1000 (by omega) (by omega)) dX13_leaf_77 (fun H_62 locs hP hD hS => ?_)
              obtain ⟨M_63, eM_63⟩ : ∃ M1 : Hp, M1 = va_up M v56 (.inl (cy 14, 1000, .inl (upd f61 ((nI j_57) : Int32).toNatClampNeg (nI j_59)))) := ⟨_, rfl⟩
              have hy2 : (ax M b43 2) = f61 := (congrFun hV.2.2.1 2).symm.trans (ax_of hM46 (by decide) hv56 hM61)
              have hV : VW K L M M_63 b43 (fx M b43) (va_up (ax M b43) 2 (upd (ax M b43 2) ((nI j_57) : Int32).toNatClampNeg (nI j_59))) := by rw [eM_63]; exact hV.ast (j := 2) hW hb_45 hM46 (by decide) hv56 hc56 hM61
              have hP : va_P D vwCl ([(za, (b13_0 0 z1 (nI z2) (nI z3) z4 z5 z6 z7 z8 z9 (nI z10) z11 z12 z13 z14 z15 (nI z16) z17 z18 z19))] ++ va_pl L M_63) H_62 := by rw [eM_63]; exact hP
              have hD : va_D A ([(za, (b13_0 0 z1 (nI z2) (nI z3) z4 z5 z6 z7 z8 z9 (nI z10) z11 z12 z13 z14 z15 (nI z16) z17 z18 z19))] ++ va_pl L M_63) := by rw [eM_63]; exact hD
              have hW : WOM cy K L M_63 := by rw [eM_63]; exact hW.up_37 hc56 ⟨_, rfl, (updP (P := fun z => (z = -1 ∨ ∃ c : Nat, c < 7 ∧ z = nI c)) hf61 (Or.inr ⟨j_59, by omega, rfl⟩))⟩
              have hF : fr K L [12, 14, 35, 37, 74] M M_63 := by rw [eM_63]; exact hF.up hc56 (by decide)
              have hG : fG K L [16] M M_63 := by rw [eM_63]; exact hG.arr hc56 (by decide)
              have hM_64 : M_63 v56 = .inl (cy 14, 1000, .inl (upd f61 ((nI j_57) : Int32).toNatClampNeg (nI j_59))) := by rw [eM_63]; exact va_up_self _ _ _
              have hM_65 : M_63 z1 = .inl (cy 23, 8, .inr (.inr (.inr (.inr (f41))))) := by rw [eM_63, va_up_ne _ _ (i1.neT hc56 (by decide))]; exact hM41
              have hM_66 : M_63 b43 = .inr (12, fs46) := by rw [eM_63, va_up_ne _ _ (hb_45.neT hc56 (by decide))]; exact hM46
              have hf_68 : ∀ j, j < 1000 → ((upd f61 ((nI j_57) : Int32).toNatClampNeg (nI j_59)) j = -1 ∨ ∃ c : Nat, c < 7 ∧ (upd f61 ((nI j_57) : Int32).toNatClampNeg (nI j_59)) j = nI c) := (updP (P := fun z => (z = -1 ∨ ∃ c : Nat, c < 7 ∧ z = nI c)) hf61 (Or.inr ⟨j_59, by omega, rfl⟩))
              obtain ⟨f_67, ef_67⟩ : ∃ f : Nat → Int32, f = upd f61 ((nI j_57) : Int32).toNatClampNeg (nI j_59) := ⟨_, rfl⟩
              rw [← ef_67] at hM_64 hf_68
              refine lv_aload hx hb dX13_leaf_78 (lv_at hl 0 rfl) ?_
              obtain ⟨v69, hv69, hc69⟩ : ∃ v : Nat, fs46[3]? = some (.ref v : Value) ∧ isk K L v 35 1000 := hl46 3 (by decide)
              refine pg_getN (D := D) (ci := 12) (v := .ref v69) (C := RX12) (T := TX12) (N := 51) hx hb hg inG12 hown hK hP hb_45.1 hM_66 rfl 3 (by decide) (hN.use (Cond.fieldLinkNest RX13 157 RX12 "told" "[I" RX13) 12 rfl rfl) (fun _ h9 => h9) hv69 dX13_leaf_80 ?_
              refine lv_iload_n hx hb dX13_leaf_83 rfl (lv_at hl 3 rfl) ?_
              refine lv_iconst (v := 0) hx hb dX13_leaf_84 (by decide) ?_
              obtain ⟨f70, hM70, hf70⟩ := hW.open_35 hc69
              refine pg_iast hx hb hK hP hD hS hc69.1 0 hM70 rfl (inbN j_57 1000 (by omega) (by omega)) dX13_leaf_85 (fun H_71 locs hP hD hS => ?_)
              obtain ⟨M_72, eM_72⟩ : ∃ M1 : Hp, M1 = va_up M_63 v69 (.inl (cy 14, 1000, .inl (upd f70 ((nI j_57) : Int32).toNatClampNeg 0))) := ⟨_, rfl⟩
              have hy3 : (ax M b43 3) = f70 := (congrFun hV.2.2.1 3).symm.trans (ax_of hM_66 (by decide) hv69 hM70)
              have hV : VW K L M M_72 b43 (fx M b43) (va_up (va_up (ax M b43) 2 (upd (ax M b43 2) ((nI j_57) : Int32).toNatClampNeg (nI j_59))) 3 (upd (ax M b43 3) ((nI j_57) : Int32).toNatClampNeg 0)) := by rw [eM_72]; exact hV.ast (j := 3) hW hb_45 hM_66 (by decide) hv69 hc69 hM70
              have hP : va_P D vwCl ([(za, (b13_0 0 z1 (nI z2) (nI z3) z4 z5 z6 z7 z8 z9 (nI z10) z11 z12 z13 z14 z15 (nI z16) z17 z18 z19))] ++ va_pl L M_72) H_71 := by rw [eM_72]; exact hP
              have hD : va_D A ([(za, (b13_0 0 z1 (nI z2) (nI z3) z4 z5 z6 z7 z8 z9 (nI z10) z11 z12 z13 z14 z15 (nI z16) z17 z18 z19))] ++ va_pl L M_72) := by rw [eM_72]; exact hD
              have hW : WOM cy K L M_72 := by rw [eM_72]; exact hW.up_35 hc69 ⟨_, rfl, (updP (P := fun z => ∃ c : Nat, c < 7 ∧ z = nI c) hf70 ⟨0, by omega, rfl⟩)⟩
              have hF : fr K L [12, 14, 35, 37, 74] M M_72 := by rw [eM_72]; exact hF.up hc69 (by decide)
              have hG : fG K L [16] M M_72 := by rw [eM_72]; exact hG.arr hc69 (by decide)
              have hM_73 : M_72 v69 = .inl (cy 14, 1000, .inl (upd f70 ((nI j_57) : Int32).toNatClampNeg 0)) := by rw [eM_72]; exact va_up_self _ _ _
              have hM_74 : M_72 v56 = .inl (cy 14, 1000, .inl (f_67)) := by rw [eM_72, va_up_ne _ _ (hc56.neT hc69 (by decide))]; exact hM_64
              have hM_75 : M_72 z1 = .inl (cy 23, 8, .inr (.inr (.inr (.inr (f41))))) := by rw [eM_72, va_up_ne _ _ (i1.neT hc69 (by decide))]; exact hM_65
              have hM_76 : M_72 b43 = .inr (12, fs46) := by rw [eM_72, va_up_ne _ _ (hb_45.neT hc69 (by decide))]; exact hM_66
              have hf_78 : ∀ j, j < 1000 → ∃ c : Nat, c < 7 ∧ (upd f70 ((nI j_57) : Int32).toNatClampNeg 0) j = nI c := (updP (P := fun z => ∃ c : Nat, c < 7 ∧ z = nI c) hf70 ⟨0, by omega, rfl⟩)
              obtain ⟨f_77, ef_77⟩ : ∃ f : Nat → Int32, f = upd f70 ((nI j_57) : Int32).toNatClampNeg 0 := ⟨_, rfl⟩
              rw [← ef_77] at hM_73 hf_78
              refine lv_aload hx hb dX13_leaf_86 (lv_at hl 0 rfl) ?_
              obtain ⟨v79, hv79, hc79⟩ : ∃ v : Nat, fs46[4]? = some (.ref v : Value) ∧ isk K L v 74 1000 := hl46 4 (by decide)
              refine pg_getN (D := D) (ci := 12) (v := .ref v79) (C := RX12) (T := TX12) (N := 51) hx hb hg inG12 hown hK hP hb_45.1 hM_76 rfl 4 (by decide) (hN.use (Cond.fieldLinkNest RX13 158 RX12 "sort" "[I" RX13) 13 rfl rfl) (fun _ h9 => h9) hv79 dX13_leaf_88 ?_
              refine lv_iload_n hx hb dX13_leaf_91 rfl (lv_at hl 3 rfl) ?_
              refine lv_iload_n hx hb dX13_leaf_92 rfl (lv_at hl 4 rfl) ?_
              obtain ⟨f80, hM80⟩ := hW.open_74 hc79
              refine pg_iast hx hb hK hP hD hS hc79.1 0 hM80 rfl (inbN j_57 1000 (by omega) (by omega)) dX13_leaf_93 (fun H_81 locs hP hD hS => ?_)
              obtain ⟨M_82, eM_82⟩ : ∃ M1 : Hp, M1 = va_up M_72 v79 (.inl (cy 14, 1000, .inl (upd f80 ((nI j_57) : Int32).toNatClampNeg k3))) := ⟨_, rfl⟩
              have hy4 : (ax M b43 4) = f80 := (congrFun hV.2.2.1 4).symm.trans (ax_of hM_76 (by decide) hv79 hM80)
              have hV : VW K L M M_82 b43 (fx M b43) (va_up (va_up (va_up (ax M b43) 2 (upd (ax M b43 2) ((nI j_57) : Int32).toNatClampNeg (nI j_59))) 3 (upd (ax M b43 3) ((nI j_57) : Int32).toNatClampNeg 0)) 4 (upd (ax M b43 4) ((nI j_57) : Int32).toNatClampNeg k3)) := by rw [eM_82]; exact hV.ast (j := 4) hW hb_45 hM_76 (by decide) hv79 hc79 hM80
              have hP : va_P D vwCl ([(za, (b13_0 0 z1 (nI z2) (nI z3) z4 z5 z6 z7 z8 z9 (nI z10) z11 z12 z13 z14 z15 (nI z16) z17 z18 z19))] ++ va_pl L M_82) H_81 := by rw [eM_82]; exact hP
              have hD : va_D A ([(za, (b13_0 0 z1 (nI z2) (nI z3) z4 z5 z6 z7 z8 z9 (nI z10) z11 z12 z13 z14 z15 (nI z16) z17 z18 z19))] ++ va_pl L M_82) := by rw [eM_82]; exact hD
              have hW : WOM cy K L M_82 := by rw [eM_82]; exact hW.up_74 hc79 ⟨_, rfl⟩
              have hF : fr K L [12, 14, 35, 37, 74] M M_82 := by rw [eM_82]; exact hF.up hc79 (by decide)
              have hG : fG K L [16] M M_82 := by rw [eM_82]; exact hG.arr hc79 (by decide)
              have hM_83 : M_82 v79 = .inl (cy 14, 1000, .inl (upd f80 ((nI j_57) : Int32).toNatClampNeg k3)) := by rw [eM_82]; exact va_up_self _ _ _
              have hM_84 : M_82 v69 = .inl (cy 14, 1000, .inl (f_77)) := by rw [eM_82, va_up_ne _ _ (hc69.neT hc79 (by decide))]; exact hM_73
              have hM_85 : M_82 v56 = .inl (cy 14, 1000, .inl (f_67)) := by rw [eM_82, va_up_ne _ _ (hc56.neT hc79 (by decide))]; exact hM_74
              have hM_86 : M_82 z1 = .inl (cy 23, 8, .inr (.inr (.inr (.inr (f41))))) := by rw [eM_82, va_up_ne _ _ (i1.neT hc79 (by decide))]; exact hM_75
              have hM_87 : M_82 b43 = .inr (12, fs46) := by rw [eM_82, va_up_ne _ _ (hb_45.neT hc79 (by decide))]; exact hM_76
              obtain ⟨f_88, ef_88⟩ : ∃ f : Nat → Int32, f = upd f80 ((nI j_57) : Int32).toNatClampNeg k3 := ⟨_, rfl⟩
              rw [← ef_88] at hM_83
              refine lv_aload hx hb dX13_leaf_94 (lv_at hl 0 rfl) ?_
              refine lv_iconst (v := 0) hx hb dX13_leaf_96 (by decide) ?_
              refine pg_putN (D := D) (ci := 12) (v := .int 0) (ty := .int) (C := RX12) (T := TX12) (N := 51) hx hb hg inG12 tyX12 tyX12_ok nmX12 hown hK hP hD hS hb_45.1 hM_87 rfl 16 (by decide) (hN.use (Cond.fieldLinkNest RX13 161 RX12 "undone" "I" RX13) 25 rfl rfl) (fun _ h9 => h9) rfl (by decide +kernel) rfl rfl (by rw [hn46]; decide) dX13_leaf_97 (fun H_89 locs hP hD hS => ?_)
              have hs_92 : (fs46.set 16 (.int 0))[16]? = some (.int (nI 0)) := List.getElem?_set_self (by rw [hn46]; decide)
              have hk_91 := fld12_set (k := 16) (w := .int 0) hl46 (show fld12 K L 16 (fs46.set 16 (.int 0)) from ⟨0, hs_92, by omega⟩)
              have hn_93 : (fs46.set 16 (.int 0)).length = 51 := by rw [List.length_set]; exact hn46
              have hv_94 : (fs46.set 16 (.int 0))[2]? = some (.ref v56) := by rw [List.getElem?_set_ne (by decide)]; exact hv56
              have hv_95 : (fs46.set 16 (.int 0))[3]? = some (.ref v69) := by rw [List.getElem?_set_ne (by decide)]; exact hv69
              have hv_96 : (fs46.set 16 (.int 0))[4]? = some (.ref v79) := by rw [List.getElem?_set_ne (by decide)]; exact hv79
              have hb_97 : 0 ≤ 60 := by omega
              obtain ⟨M_98, eM_98⟩ : ∃ M1 : Hp, M1 = va_up M_82 b43 (.inr (12, fs46.set 16 (.int 0))) := ⟨_, rfl⟩
              have hV : VW K L M M_98 b43 (va_up (fx M b43) 16 (0 : Int)) (va_up (va_up (va_up (ax M b43) 2 (upd (ax M b43 2) ((nI j_57) : Int32).toNatClampNeg (nI j_59))) 3 (upd (ax M b43 3) ((nI j_57) : Int32).toNatClampNeg 0)) 4 (upd (ax M b43 4) ((nI j_57) : Int32).toNatClampNeg k3)) := by rw [eM_98]; exact hV.put hW hb_45 hM_87 hn46 rfl (by decide) rfl (by decide)
              have hP : va_P D vwCl ([(za, (b13_0 0 z1 (nI z2) (nI z3) z4 z5 z6 z7 z8 z9 (nI z10) z11 z12 z13 z14 z15 (nI z16) z17 z18 z19))] ++ va_pl L M_98) H_89 := by rw [eM_98]; exact hP
              have hD : va_D A ([(za, (b13_0 0 z1 (nI z2) (nI z3) z4 z5 z6 z7 z8 z9 (nI z10) z11 z12 z13 z14 z15 (nI z16) z17 z18 z19))] ++ va_pl L M_98) := by rw [eM_98]; exact hD
              have hW : WOM cy K L M_98 := by rw [eM_98]; exact hW.up_12 hb_45 ⟨_, rfl, hn_93, hk_91⟩
              have hF : fr K L [12, 14, 35, 37, 74] M M_98 := by rw [eM_98]; exact hF.up hb_45 (by decide)
              have hG : fG K L [16] M M_98 := by rw [eM_98]; exact hG.up hM_87 (by decide)
              have hM_99 : M_98 b43 = .inr (12, fs46.set 16 (.int 0)) := by rw [eM_98]; exact va_up_self _ _ _
              have hM_100 : M_98 v79 = .inl (cy 14, 1000, .inl (f_88)) := by rw [eM_98, va_up_ne _ _ (hc79.neT hb_45 (by decide))]; exact hM_83
              have hM_101 : M_98 v69 = .inl (cy 14, 1000, .inl (f_77)) := by rw [eM_98, va_up_ne _ _ (hc69.neT hb_45 (by decide))]; exact hM_84
              have hM_102 : M_98 v56 = .inl (cy 14, 1000, .inl (f_67)) := by rw [eM_98, va_up_ne _ _ (hc56.neT hb_45 (by decide))]; exact hM_85
              have hM_103 : M_98 z1 = .inl (cy 23, 8, .inr (.inr (.inr (.inr (f41))))) := by rw [eM_98, va_up_ne _ _ (i1.neT hb_45 (by decide))]; exact hM_86
              refine lv_aload_n hx hb dX13_leaf_100 rfl (lv_at hl 1 rfl) ?_
              refine lv_iload hx hb dX13_leaf_101 (lv_at hl 5 rfl) ?_
              have hPc := hP.sub (ws' := [(za, (b13_0 0 z1 (nI z2) (nI z3) z4 z5 z6 z7 z8 z9 (nI z10) z11 z12 z13 z14 z15 (nI z16) z17 z18 z19))]) [0] rfl
              have hDc := hD.sub (ws' := [(za, (b13_0 0 z1 (nI z2) (nI z3) z4 z5 z6 z7 z8 z9 (nI z10) z11 z12 z13 z14 z15 (nI z16) z17 z18 z19))]) [0] (by decide) rfl
              have hKc := hK.sub (tys' := []) [] rfl
              have hFc := va_free (wc := [(za, (b13_0 0 z1 (nI z2) (nI z3) z4 z5 z6 z7 z8 z9 (nI z10) z11 z12 z13 z14 z15 (nI z16) z17 z18 z19))]) hD hS hA [0] rfl
              refine va_calli (va_runV (As := [.int (nI j_59)]) (rest := []) ⟨hx, hb, hml, hown, hg⟩ (m_done l D H_89.size za 0 z1 (nI z2) (nI z3) z4 z5 z6 z7 z8 z9 (nI z10) z11 z12 z13 z14 z15 (nI z16) z17 z18 z19 (nI j_59)) (cwV 1 hg (gV wd_730 wd_731 wd_732 wd_717 wd_733) rfl rfl rfl (by decide +kernel) ⟨(Nat.le_trans (Nat.le_of_ble_eq_true rfl) hRf), (Nat.le_trans (Nat.le_of_ble_eq_true rfl) hRl)⟩) ⟨Pr.blind, va_recv hK hP (ci := 13) (q0 := 0) rfl rfl, fun U hU hW => ⟨rfl, Pr.at hPc hKc hDc hN hU hW⟩⟩ rfl rfl hl.1 rfl (lv_room (Nat.le_of_ble_eq_true rfl)) dX13_leaf_103 ⟨(Nat.le_trans (Nat.le_of_ble_eq_true rfl) hRc), (Nat.le_trans (Nat.le_of_ble_eq_true rfl) hRs)⟩) hS (fun q _ h => hFc q h) hFc (fun r_105 M_106 t H_104 locs ht hvm hw hB hz1 hk1 hS => ?_)
              have hp_107 := hw
              obtain ⟨hP1, hK1, hD1⟩ := hB
              rw [ht] at hP1
              obtain ⟨hP, hD⟩ := va_joinQ (X := [(za, (b13_0 0 z1 (nI z2) (nI z3) z4 z5 z6 z7 z8 z9 (nI z10) z11 z12 z13 z14 z15 (nI z16) z17 z18 z19))]) (cx := [(za, (b13_0 0 z1 (nI z2) (nI z3) z4 z5 z6 z7 z8 z9 (nI z10) z11 z12 z13 z14 z15 (nI z16) z17 z18 z19))]) (wr := []) (w1 := [(za, (b13_0 0 z1 (nI z2) (nI z3) 0 (-1) z6 z7 z8 z9 (nI z10) z11 z12 z13 z14 z15 (nI z16) z17 z18 z19))]) (pl := va_pl L M_98) hP hD [0] [] rfl rfl (by decide) (by decide) hk1 hFc hP1 hD1
              have hP : va_P D vwCl ([(za, (b13_0 0 z1 (nI z2) (nI z3) 0 (-1) z6 z7 z8 z9 (nI z10) z11 z12 z13 z14 z15 (nI z16) z17 z18 z19))] ++ va_pl L M_98) H_104 := hP
              have hD : va_D A ([(za, (b13_0 0 z1 (nI z2) (nI z3) 0 (-1) z6 z7 z8 z9 (nI z10) z11 z12 z13 z14 z15 (nI z16) z17 z18 z19))] ++ va_pl L M_98) := hD
              have hq := Eq.symm hp_107
              subst hq
              have hI_108 : (0 : Int) ≤ (k1 : Int32).toInt := inltI rfl rfl c_7
              have hI_109 : (k1 : Int32).toInt < ((z2 : Nat) : Int) := inleI (nI_toInt (by omega)) rfl c_8
              have hI_110 : (0 : Int) ≤ (k3 : Int32).toInt := inltI rfl rfl c_11
              have hI_111 : (k3 : Int32).toInt ≤ (2 : Int) := inltI rfl rfl c_19
              have hI_112 : (0 : Int) ≤ ((j_59 : Nat) : Int) := inltI (nI_toInt (by omega)) rfl c_30
              have hI_113 : ((j_59 : Nat) : Int) ≤ (6 : Int) := ileI (nI_toInt (by omega)) rfl c_40
              have hI_114 : (0 : Int) ≤ ((j_57 : Nat) : Int) := inltI (nI_toInt (by omega)) rfl c_52
              have hI_115 : ((j_57 : Nat) : Int) < (1000 : Int) := inleI rfl (nI_toInt (by omega)) c_53
              have hn92 : ((nI j_57) : Int32).toInt = ((j_57 : Nat) : Int) := nI_toInt (by omega)
              have hn94 : ((nI j_59) : Int32).toInt = ((j_59 : Nat) : Int) := nI_toInt (by omega)
              have hyes : okLf z2 SX k1 (nI j_57) k3 (nI j_59) := by unfold okLf okH; refine ⟨⟨?_, ?_⟩, ?_, ?_, ?_, ?_, ?_, ?_⟩ <;> first | omega | assumption
              have hA9 : HA (upd (ax M b43 2) ((nI j_57) : Int32).toNatClampNeg (nI j_59)) (upd (ax M b43 3) ((nI j_57) : Int32).toNatClampNeg 0) := HA.leaf hAT.1 (by first | decide | (rw [nI_toInt (by omega)]; omega))
              have hB9 : HB (0 : Int) (fx M b43 14) (upd (ax M b43 3) ((nI j_57) : Int32).toNatClampNeg 0) (ax M b43 43) := HB.zero (nn_upd hAT.2.1.nn.1 (by decide)) hAT.2.1.nn.2
              have hC9 : HC (fx M b43 10) (ax M b43 22) (ax M b43 23) := hAT.2.2.1
              have hD9 : HD (fx M b43 0) (fx M b43 11) (fx M b43 15) (ax M b43 34) (ax M b43 41) := hAT.2.2.2.1
              have hE9 : HE (fx M b43 0) (fx M b43 1) (fx M b43 12) (fx M b43 13) (ax M b43 37) := hAT.2.2.2.2
              have hH9 : HI (va_up (fx M b43) 16 (0 : Int)) (va_up (va_up (va_up (ax M b43) 2 (upd (ax M b43 2) ((nI j_57) : Int32).toNatClampNeg (nI j_59))) 3 (upd (ax M b43 3) ((nI j_57) : Int32).toNatClampNeg 0)) 4 (upd (ax M b43 4) ((nI j_57) : Int32).toNatClampNeg k3)) := ⟨hA9, hB9, hC9, hD9, hE9⟩
              have hGI9 : GI K L z1 z2 M_98 := GI.fin hW0 i1 b2 hGI hact hV (hF.at i1 (by decide)) hH9
              rw [hQ]
              exact W.iret (v := (nI j_59)) hx hb hr (fun t ht hW9 => ⟨⟨(nI j_59), M_98, rfl, ⟨hW, hF, hG, ⟨hGI9, (by unfold sxLf syLf; rw [if_pos hyes, if_pos hyes]; have hQ9 := ZSx.fin hW0 i1 b2 hZS hGI.1 hkn hb9 hV (hF.at i1 (by decide)) ((by rw [hZk.1])) ((by rw [hZk.2])); exact hQ9)⟩, (by unfold anLf; rw [if_pos hyes])⟩, ⟨0, by rw [ht]; exact hP, hD⟩⟩, hS.F ht⟩) hS.2.2 dX13_leaf_106
            · have hz := rfl (a := 0)
              refine lv_if_ne (tgt := 69) hx hb dX13_leaf_60 (by decide) (fun c_116 => absurd c_116 (by decide)) (fun _ => ?_)
              refine lv_aload_n hx hb dX13_leaf_63 rfl (lv_at hl 1 rfl) ?_
              refine lv_iconst (v := 3) hx hb dX13_leaf_64 (by decide) ?_
              have hPc := hP.sub (ws' := [(za, (b13_0 0 z1 (nI z2) (nI z3) z4 z5 z6 z7 z8 z9 (nI z10) z11 z12 z13 z14 z15 (nI z16) z17 z18 z19))]) [0] rfl
              have hDc := hD.sub (ws' := [(za, (b13_0 0 z1 (nI z2) (nI z3) z4 z5 z6 z7 z8 z9 (nI z10) z11 z12 z13 z14 z15 (nI z16) z17 z18 z19))]) [0] (by decide) rfl
              have hKc := hK.sub (tys' := []) [] rfl
              have hFc := va_free (wc := [(za, (b13_0 0 z1 (nI z2) (nI z3) z4 z5 z6 z7 z8 z9 (nI z10) z11 z12 z13 z14 z15 (nI z16) z17 z18 z19))]) hD hS hA [0] rfl
              refine va_calli (va_runV (As := [.int 3]) (rest := []) ⟨hx, hb, hml, hown, hg⟩ (m_refused l D H_47.size za 0 z1 (nI z2) (nI z3) z4 z5 z6 z7 z8 z9 (nI z10) z11 z12 z13 z14 z15 (nI z16) z17 z18 z19 3) (cwV 1 hg (gV wd_725 wd_726 wd_727 wd_717 wd_728) rfl rfl rfl (by decide +kernel) ⟨(Nat.le_trans (Nat.le_of_ble_eq_true rfl) hRf), (Nat.le_trans (Nat.le_of_ble_eq_true rfl) hRl)⟩) ⟨Pr.blind, va_recv hK hP (ci := 13) (q0 := 0) rfl rfl, fun U hU hW => ⟨rfl, Pr.at hPc hKc hDc hN hU hW⟩⟩ rfl rfl hl.1 rfl (lv_room (Nat.le_of_ble_eq_true rfl)) dX13_leaf_65 ⟨(Nat.le_trans (Nat.le_of_ble_eq_true rfl) hRc), (Nat.le_trans (Nat.le_of_ble_eq_true rfl) hRs)⟩) hS (fun q _ h => hFc q h) hFc (fun r_118 M_119 t H_117 locs ht hvm hw hB hz1 hk1 hS => ?_)
              have hp_120 := hw
              obtain ⟨hP1, hK1, hD1⟩ := hB
              rw [ht] at hP1
              obtain ⟨hP, hD⟩ := va_joinQ (X := [(za, (b13_0 0 z1 (nI z2) (nI z3) z4 z5 z6 z7 z8 z9 (nI z10) z11 z12 z13 z14 z15 (nI z16) z17 z18 z19))]) (cx := [(za, (b13_0 0 z1 (nI z2) (nI z3) z4 z5 z6 z7 z8 z9 (nI z10) z11 z12 z13 z14 z15 (nI z16) z17 z18 z19))]) (wr := []) (w1 := [(za, (b13_0 0 z1 (nI z2) (nI z3) 3 (-1) z6 z7 z8 z9 (nI z10) z11 z12 z13 z14 z15 (nI z16) z17 z18 z19))]) (pl := va_pl L M) hP hD [0] [] rfl rfl (by decide) (by decide) hk1 hFc hP1 hD1
              have hP : va_P D vwCl ([(za, (b13_0 0 z1 (nI z2) (nI z3) 3 (-1) z6 z7 z8 z9 (nI z10) z11 z12 z13 z14 z15 (nI z16) z17 z18 z19))] ++ va_pl L M) H_117 := hP
              have hD : va_D A ([(za, (b13_0 0 z1 (nI z2) (nI z3) 3 (-1) z6 z7 z8 z9 (nI z10) z11 z12 z13 z14 z15 (nI z16) z17 z18 z19))] ++ va_pl L M) := hD
              have hq := Eq.symm hp_120
              subst hq
              have hI_121 : (0 : Int) ≤ (k1 : Int32).toInt := inltI rfl rfl c_7
              have hI_122 : (k1 : Int32).toInt < ((z2 : Nat) : Int) := inleI (nI_toInt (by omega)) rfl c_8
              have hI_123 : (0 : Int) ≤ (k3 : Int32).toInt := inltI rfl rfl c_11
              have hI_124 : (k3 : Int32).toInt ≤ (2 : Int) := inltI rfl rfl c_19
              have hI_125 : (0 : Int) ≤ (k4 : Int32).toInt := inltI rfl rfl c_30
              have hI_126 : (k4 : Int32).toInt ≤ (6 : Int) := ileI rfl rfl c_40
              have hno : ¬ okLf z2 SX k1 k2 k3 k4 := fun q9 => by unfold okLf okH at q9; first | omega | (obtain ⟨⟨_, _⟩, _, _, _, _, _, _⟩ := q9; first | omega | contradiction)
              rw [hQ]
              exact W.iret (v := (-1)) hx hb hr (fun t ht hW9 => ⟨⟨(-1), M, rfl, ⟨hW, hF, hG, ⟨hGI, (by unfold sxLf syLf; rw [if_neg hno, if_neg hno]; exact hZS)⟩, (by unfold anLf; rw [if_neg hno])⟩, ⟨3, by rw [ht]; exact hP, hD⟩⟩, hS.F ht⟩) hS.2.2 dX13_leaf_68
          · have hz := rfl (a := 0)
            have n_127 : ¬ k4 < 0 := gtN (c := 6) (by omega) (Int32.not_le.mp c_40)
            refine lv_aload_n hx hb dX13_leaf_40 rfl (lv_at hl 0 rfl) ?_
            refine lv_iconst (v := 2) hx hb dX13_leaf_41 (by decide) ?_
            have hPc := hP.sub (ws' := [(za, (b13_0 0 z1 (nI z2) (nI z3) z4 z5 z6 z7 z8 z9 (nI z10) z11 z12 z13 z14 z15 (nI z16) z17 z18 z19))]) [0] rfl
            have hDc := hD.sub (ws' := [(za, (b13_0 0 z1 (nI z2) (nI z3) z4 z5 z6 z7 z8 z9 (nI z10) z11 z12 z13 z14 z15 (nI z16) z17 z18 z19))]) [0] (by decide) rfl
            have hKc := hK.sub (tys' := []) [] rfl
            have hFc := va_free (wc := [(za, (b13_0 0 z1 (nI z2) (nI z3) z4 z5 z6 z7 z8 z9 (nI z10) z11 z12 z13 z14 z15 (nI z16) z17 z18 z19))]) hD hS hA [0] rfl
            refine va_calli (va_runV (As := [.int 2]) (rest := []) ⟨hx, hb, hml, hown, hg⟩ (m_refused l D H_2.size za 0 z1 (nI z2) (nI z3) z4 z5 z6 z7 z8 z9 (nI z10) z11 z12 z13 z14 z15 (nI z16) z17 z18 z19 2) (cwV 1 hg (gV wd_725 wd_726 wd_727 wd_717 wd_728) rfl rfl rfl (by decide +kernel) ⟨(Nat.le_trans (Nat.le_of_ble_eq_true rfl) hRf), (Nat.le_trans (Nat.le_of_ble_eq_true rfl) hRl)⟩) ⟨Pr.blind, va_recv hK hP (ci := 13) (q0 := 0) rfl rfl, fun U hU hW => ⟨rfl, Pr.at hPc hKc hDc hN hU hW⟩⟩ rfl rfl hl.1 rfl (lv_room (Nat.le_of_ble_eq_true rfl)) dX13_leaf_42 ⟨(Nat.le_trans (Nat.le_of_ble_eq_true rfl) hRc), (Nat.le_trans (Nat.le_of_ble_eq_true rfl) hRs)⟩) hS (fun q _ h => hFc q h) hFc (fun r_129 M_130 t H_128 locs ht hvm hw hB hz1 hk1 hS => ?_)
            have hp_131 := hw
            obtain ⟨hP1, hK1, hD1⟩ := hB
            rw [ht] at hP1
            obtain ⟨hP, hD⟩ := va_joinQ (X := [(za, (b13_0 0 z1 (nI z2) (nI z3) z4 z5 z6 z7 z8 z9 (nI z10) z11 z12 z13 z14 z15 (nI z16) z17 z18 z19))]) (cx := [(za, (b13_0 0 z1 (nI z2) (nI z3) z4 z5 z6 z7 z8 z9 (nI z10) z11 z12 z13 z14 z15 (nI z16) z17 z18 z19))]) (wr := []) (w1 := [(za, (b13_0 0 z1 (nI z2) (nI z3) 2 (-1) z6 z7 z8 z9 (nI z10) z11 z12 z13 z14 z15 (nI z16) z17 z18 z19))]) (pl := va_pl L M) hP hD [0] [] rfl rfl (by decide) (by decide) hk1 hFc hP1 hD1
            have hP : va_P D vwCl ([(za, (b13_0 0 z1 (nI z2) (nI z3) 2 (-1) z6 z7 z8 z9 (nI z10) z11 z12 z13 z14 z15 (nI z16) z17 z18 z19))] ++ va_pl L M) H_128 := hP
            have hD : va_D A ([(za, (b13_0 0 z1 (nI z2) (nI z3) 2 (-1) z6 z7 z8 z9 (nI z10) z11 z12 z13 z14 z15 (nI z16) z17 z18 z19))] ++ va_pl L M) := hD
            have hq := Eq.symm hp_131
            subst hq
            have hI_132 : (0 : Int) ≤ (k1 : Int32).toInt := inltI rfl rfl c_7
            have hI_133 : (k1 : Int32).toInt < ((z2 : Nat) : Int) := inleI (nI_toInt (by omega)) rfl c_8
            have hI_134 : (0 : Int) ≤ (k3 : Int32).toInt := inltI rfl rfl c_11
            have hI_135 : (k3 : Int32).toInt ≤ (2 : Int) := inltI rfl rfl c_19
            have hI_136 : (0 : Int) ≤ (k4 : Int32).toInt := inltI rfl rfl c_30
            have hI_137 : (6 : Int) < (k4 : Int32).toInt := inleI rfl rfl c_40
            have hI_138 : (0 : Int) ≤ (k4 : Int32).toInt := inltI rfl rfl n_127
            have hno : ¬ okLf z2 SX k1 k2 k3 k4 := fun q9 => by unfold okLf okH at q9; first | omega | (obtain ⟨⟨_, _⟩, _, _, _, _, _, _⟩ := q9; first | omega | contradiction)
            rw [hQ]
            exact W.iret (v := (-1)) hx hb hr (fun t ht hW9 => ⟨⟨(-1), M, rfl, ⟨hW, hF, hG, ⟨hGI, (by unfold sxLf syLf; rw [if_neg hno, if_neg hno]; exact hZS)⟩, (by unfold anLf; rw [if_neg hno])⟩, ⟨2, by rw [ht]; exact hP, hD⟩⟩, hS.F ht⟩) hS.2.2 dX13_leaf_45
  · have hz := rfl (a := 0)
    refine lv_if_ne (tgt := 19) hx hb dX13_leaf_10 (by decide) (fun c_139 => absurd c_139 (by decide)) (fun _ => ?_)
    refine lv_aload_n hx hb dX13_leaf_13 rfl (lv_at hl 0 rfl) ?_
    refine lv_iconst (v := 1) hx hb dX13_leaf_14 (by decide) ?_
    have hPc := hP.sub (ws' := [(za, (b13_0 0 z1 (nI z2) (nI z3) z4 z5 z6 z7 z8 z9 (nI z10) z11 z12 z13 z14 z15 (nI z16) z17 z18 z19))]) [0] rfl
    have hDc := hD.sub (ws' := [(za, (b13_0 0 z1 (nI z2) (nI z3) z4 z5 z6 z7 z8 z9 (nI z10) z11 z12 z13 z14 z15 (nI z16) z17 z18 z19))]) [0] (by decide) rfl
    have hKc := hK.sub (tys' := []) [] rfl
    have hFc := va_free (wc := [(za, (b13_0 0 z1 (nI z2) (nI z3) z4 z5 z6 z7 z8 z9 (nI z10) z11 z12 z13 z14 z15 (nI z16) z17 z18 z19))]) hD hS hA [0] rfl
    refine va_calli (va_runV (As := [.int 1]) (rest := []) ⟨hx, hb, hml, hown, hg⟩ (m_refused l D H_2.size za 0 z1 (nI z2) (nI z3) z4 z5 z6 z7 z8 z9 (nI z10) z11 z12 z13 z14 z15 (nI z16) z17 z18 z19 1) (cwV 1 hg (gV wd_725 wd_726 wd_727 wd_717 wd_728) rfl rfl rfl (by decide +kernel) ⟨(Nat.le_trans (Nat.le_of_ble_eq_true rfl) hRf), (Nat.le_trans (Nat.le_of_ble_eq_true rfl) hRl)⟩) ⟨Pr.blind, va_recv hK hP (ci := 13) (q0 := 0) rfl rfl, fun U hU hW => ⟨rfl, Pr.at hPc hKc hDc hN hU hW⟩⟩ rfl rfl hl.1 rfl (lv_room (Nat.le_of_ble_eq_true rfl)) dX13_leaf_15 ⟨(Nat.le_trans (Nat.le_of_ble_eq_true rfl) hRc), (Nat.le_trans (Nat.le_of_ble_eq_true rfl) hRs)⟩) hS (fun q _ h => hFc q h) hFc (fun r_141 M_142 t H_140 locs ht hvm hw hB hz1 hk1 hS => ?_)
    have hp_143 := hw
    obtain ⟨hP1, hK1, hD1⟩ := hB
    rw [ht] at hP1
    obtain ⟨hP, hD⟩ := va_joinQ (X := [(za, (b13_0 0 z1 (nI z2) (nI z3) z4 z5 z6 z7 z8 z9 (nI z10) z11 z12 z13 z14 z15 (nI z16) z17 z18 z19))]) (cx := [(za, (b13_0 0 z1 (nI z2) (nI z3) z4 z5 z6 z7 z8 z9 (nI z10) z11 z12 z13 z14 z15 (nI z16) z17 z18 z19))]) (wr := []) (w1 := [(za, (b13_0 0 z1 (nI z2) (nI z3) 1 (-1) z6 z7 z8 z9 (nI z10) z11 z12 z13 z14 z15 (nI z16) z17 z18 z19))]) (pl := va_pl L M) hP hD [0] [] rfl rfl (by decide) (by decide) hk1 hFc hP1 hD1
    have hP : va_P D vwCl ([(za, (b13_0 0 z1 (nI z2) (nI z3) 1 (-1) z6 z7 z8 z9 (nI z10) z11 z12 z13 z14 z15 (nI z16) z17 z18 z19))] ++ va_pl L M) H_140 := hP
    have hD : va_D A ([(za, (b13_0 0 z1 (nI z2) (nI z3) 1 (-1) z6 z7 z8 z9 (nI z10) z11 z12 z13 z14 z15 (nI z16) z17 z18 z19))] ++ va_pl L M) := hD
    have hq := Eq.symm hp_143
    subst hq
    have hno : ¬ okLf z2 SX k1 k2 k3 k4 := fun q9 => by unfold okLf okH at q9; first | omega | (obtain ⟨⟨_, _⟩, _, _, _, _, _, _⟩ := q9; first | omega | contradiction)
    rw [hQ]
    exact W.iret (v := (-1)) hx hb hr (fun t ht hW9 => ⟨⟨(-1), M, rfl, ⟨hW, hF, hG, ⟨hGI, (by unfold sxLf syLf; rw [if_neg hno, if_neg hno]; exact hZS)⟩, (by unfold anLf; rw [if_neg hno])⟩, ⟨1, by rw [ht]; exact hP, hD⟩⟩, hS.F ht⟩) hS.2.2 dX13_leaf_18
set_option maxHeartbeats 4000000 in
set_option maxRecDepth 100000 in
theorem z_mend (l : Launch) (D : va_G) (cy : Nat → ClassId) (K : Kp) (L : List Nat) (M : Hp) (sz : Nat) (za : Nat) (z0 : Int32) (z1 : Nat) (z2 : Nat) (z3 : Nat) (z4 : Int32) (z5 : Int32) (z6 : Nat) (z7 : Nat) (z8 : Nat) (z9 : Nat) (z10 : Nat) (z11 : Nat) (z12 : Nat) (z13 : Nat) (z14 : Nat) (z15 : Nat) (z16 : Nat) (z17 : Nat) (z18 : Int32) (z19 : Nat) (k1 : Int32) (k2 : Int32) (k3 : Int32) (SX : Nat → Nat → Int) (SY : Nat → Nat → Nat → Int32) (hW : WOM cy K L M) (i1 : isk K L z1 23 8) (b2 : z2 ≤ 8) (b3 : z3 ≤ 40) (i6 : isk K L z6 47 40) (i7 : isk K L z7 48 40) (i8 : isk K L z8 49 8) (i9 : isk K L z9 50 8) (b10 : z10 ≤ 8) (i11 : isk K L z11 32 24) (i12 : isk K L z12 14 24) (i13 : isk K L z13 97 24) (i14 : isk K L z14 98 24) (i15 : isk K L z15 99 24) (b16 : z16 ≤ 24) (i17 : isk K L z17 14 24) (i19 : isk K L z19 15 25) (hGI : GI K L z1 z2 M) (hZS : ZSx z1 z2 SX SY M) : Met l yX13_mend (wsM yX13_mend cX13_mend 5 (some .int)) ({ frames := 1, cells := 0, slots := 0, locals := 21 }) (va_Pc [.ref za, .int k1, .int k2, .int k3] (PG D cy [(za, (b13_0 z0 z1 (nI z2) (nI z3) z4 z5 z6 z7 z8 z9 (nI z10) z11 z12 z13 z14 z15 (nI z16) z17 z18 z19))] L M sz)) (va_Qi (fun (r : Int32) (M9 : Hp) => WOM cy K L M9 ∧ fr K L [12, 14, 44, 82] M M9 ∧ fG K L [15] M M9 ∧ (GI K L z1 z2 M9 ∧ ZSx z1 z2 (sxMe z2 SX k1 k2 k3) (syMe z2 SX SY k1 k2 k3) M9) ∧ ((r = anMe z2 SX k1 k2 k3))) (fun M9 t => ∃ (w4 : Int32), PQ D [(za, (b13_0 0 z1 (nI z2) (nI z3) w4 (-1) z6 z7 z8 z9 (nI z10) z11 z12 z13 z14 z15 (nI z16) z17 z18 z19))] L M9 (va_A ([(za, (b13_0 z0 z1 (nI z2) (nI z3) z4 z5 z6 z7 z8 z9 (nI z10) z11 z12 z13 z14 z15 (nI z16) z17 z18 z19))] ++ va_pl L M) sz) t) (va_A ([(za, (b13_0 z0 z1 (nI z2) (nI z3) z4 z5 z6 z7 z8 z9 (nI z10) z11 z12 z13 z14 z15 (nI z16) z17 z18 z19))] ++ va_pl L M) sz)) 0 0 (va_A ([(za, (b13_0 z0 z1 (nI z2) (nI z3) z4 z5 z6 z7 z8 z9 (nI z10) z11 z12 z13 z14 z15 (nI z16) z17 z18 z19))] ++ va_pl L M) sz) := by
  refine Met.ofW (cc := cX13_mend) (maxL := 5) (ret := (some .int)) (by decide) rfl ?_
  intro p e s m args below meth c s₁ B hml hv
  obtain ⟨rfl, hsz, hP, hK, hD0, hN⟩ := hv
  have hx := B.exec
  have hb := B.bytes
  have hr := B.returns
  have hts := atoms_spec (ws := (wsM yX13_mend cX13_mend 5 (some .int))) B.pre
  have hg : ∀ w ∈ lw_good, w.before _ s = true := fun w h => hts w (List.mem_cons_of_mem _ h)
  have hown : s.vm.findClass RX13 = some m.cls := findClass_of_methodNamed B.named
  have hlocks := B.notSynchronized
  subst hsz
  have hD := hD0.self (sz := s.heap.size)
  generalize hAe : va_A ([(za, (b13_0 z0 z1 (nI z2) (nI z3) z4 z5 z6 z7 z8 z9 (nI z10) z11 z12 z13 z14 z15 (nI z16) z17 z18 z19))] ++ va_pl L M) s.heap.size = A at hD ⊢
  have hA : ∀ q : Nat, s.heap.size ≤ q → A q := fun q h => by rw [← hAe]; exact Or.inr h
  have hS : va_S A s.heap s.heap [] := va_S.rf
  have hl := lv_entry ([.ref za, .int k1, .int k2, .int k3]) (n := 5) (Nat.le_of_ble_eq_true rfl)
  rw [lg_entry_eq]
  generalize (lg_sl ([.ref za, .int k1, .int k2, .int k3]) ++ List.replicate (5 - (lg_sl ([.ref za, .int k1, .int k2, .int k3])).length) Slot.unset).toArray = ls at hl ⊢
  refine W.nameQ (fun Q hQ => ?_)
  refine W.nameR (fun R hR => ?_)
  have hRf : 1 ≤ R.frames := by rw [hR]; exact Nat.le_of_ble_eq_true rfl
  have hRl : 21 ≤ R.locals := by rw [hR]; exact Nat.le_of_ble_eq_true rfl
  have hRc : 0 ≤ R.cells := by rw [hR]; exact Nat.le_of_ble_eq_true rfl
  have hRs : 0 ≤ R.slots := by rw [hR]; exact Nat.le_of_ble_eq_true rfl
  have hF : fr K L [12, 14, 44, 82] M M := fr.rf
  have hG : fG K L [15] M M := fG.rf
  have hl : lv_has ls 5 [(0, .ref za), (1, .int k1), (2, .int k2), (3, .int k3)] := hl
  have hW0 := hW
  refine lv_aload_n hx hb dX13_mend_0 rfl (lv_at hl 0 rfl) ?_
  refine lv_iconst (v := 0) hx hb dX13_mend_1 (by decide) ?_
  refine va_put (D := D) (ci := 13) (v := .int 0) (ty := .int) (C := RX13) (T := TX13) (N := 20) hx hb hg inG13 tyX13 tyX13_ok nmX13 hown hK hP hD hS 0 rfl rfl 0 (by decide) (hg _ wd_720) (fun _ h9 => h9) rfl (by decide +kernel) rfl rfl (Nat.le_of_ble_eq_true rfl) dX13_mend_2 (fun H_1 locs hP hD hS => ?_)
  have hP : va_P D vwCl ([(za, (b13_0 0 z1 (nI z2) (nI z3) z4 z5 z6 z7 z8 z9 (nI z10) z11 z12 z13 z14 z15 (nI z16) z17 z18 z19))] ++ va_pl L M) H_1 := hP
  have hD : va_D A ([(za, (b13_0 0 z1 (nI z2) (nI z3) z4 z5 z6 z7 z8 z9 (nI z10) z11 z12 z13 z14 z15 (nI z16) z17 z18 z19))] ++ va_pl L M) := hD
  refine lv_aload_n hx hb dX13_mend_5 rfl (lv_at hl 0 rfl) ?_
  refine lv_iload_n hx hb dX13_mend_6 rfl (lv_at hl 1 rfl) ?_
  have hPc : va_P D vwCl ([(za, (b13_0 0 z1 (nI z2) (nI z3) z4 z5 z6 z7 z8 z9 (nI z10) z11 z12 z13 z14 z15 (nI z16) z17 z18 z19))] ++ va_pl L M) H_1 := hP
  have hDc : va_D A ([(za, (b13_0 0 z1 (nI z2) (nI z3) z4 z5 z6 z7 z8 z9 (nI z10) z11 z12 z13 z14 z15 (nI z16) z17 z18 z19))] ++ va_pl L M) := hD
  have hFc : ∀ q, va_A ([(za, (b13_0 0 z1 (nI z2) (nI z3) z4 z5 z6 z7 z8 z9 (nI z10) z11 z12 z13 z14 z15 (nI z16) z17 z18 z19))] ++ va_pl L M) H_1.size q → A q := pg_free hDc hS hA
  refine va_calli (va_runV (As := [.int k1]) (rest := []) ⟨hx, hb, hml, hown, hg⟩ (f_isHouse l D cy K L M H_1.size za 0 z1 z2 z3 z4 z5 z6 z7 z8 z9 z10 z11 z12 z13 z14 z15 z16 z17 z18 z19 k1  hW i1 b2 b3 i6 i7 i8 i9 b10 i11 i12 i13 i14 i15 b16 i17 i19) (cwV 1 hg (gV wd_714 wd_715 wd_716 wd_717 wd_718) rfl rfl rfl (by decide +kernel) ⟨(Nat.le_trans (Nat.le_of_ble_eq_true rfl) hRf), (Nat.le_trans (Nat.le_of_ble_eq_true rfl) hRl)⟩) ⟨PG.blind, va_recv hK hP (ci := 13) (q0 := 0) rfl rfl, fun U hU hW => ⟨rfl, PG.at hPc hK hDc hN hU hW⟩⟩ rfl rfl hl.1 rfl (lv_room (Nat.le_of_ble_eq_true rfl)) dX13_mend_7 ⟨(Nat.le_trans (Nat.le_of_ble_eq_true rfl) hRc), (Nat.le_trans (Nat.le_of_ble_eq_true rfl) hRs)⟩) hS (fun q _ h => hFc q h) hFc (fun r_3 M_4 t H_2 locs ht hvm hw hB hz1 hk1 hS => ?_)
  have hp_5 := hw
  obtain ⟨hP1, hD1⟩ := hB
  rw [ht] at hP1
  have hP : va_P D vwCl ([(za, (b13_0 0 z1 (nI z2) (nI z3) z4 z5 z6 z7 z8 z9 (nI z10) z11 z12 z13 z14 z15 (nI z16) z17 z18 z19))] ++ va_pl L M) H_2 := hP1
  have hD : va_D A ([(za, (b13_0 0 z1 (nI z2) (nI z3) z4 z5 z6 z7 z8 z9 (nI z10) z11 z12 z13 z14 z15 (nI z16) z17 z18 z19))] ++ va_pl L M) := hD1.mono hFc
  rcases hp_5 with ⟨rfl, c_6, c_7, c_8⟩ | ⟨rfl, c_9⟩
  · have hz := rfl (a := 0)
    refine lv_if_ne (tgt := 19) hx hb dX13_mend_10 (by decide) (fun _ => ?_) (fun c_10 => absurd c_10 (by decide))
    refine lv_iload_n hx hb dX13_mend_19 rfl (lv_at hl 3 rfl) ?_
    refine lv_if_eq (tgt := 35) hx hb dX13_mend_20 (by decide) (fun c_11 => ?_) (fun c_11 => ?_)
    · have hz := rfl (a := 0)
      refine lv_aload_n hx hb dX13_mend_35 rfl (lv_at hl 0 rfl) ?_
      refine lv_iconst (v := 2) hx hb dX13_mend_36 (by decide) ?_
      have hPc := hP.sub (ws' := [(za, (b13_0 0 z1 (nI z2) (nI z3) z4 z5 z6 z7 z8 z9 (nI z10) z11 z12 z13 z14 z15 (nI z16) z17 z18 z19))]) [0] rfl
      have hDc := hD.sub (ws' := [(za, (b13_0 0 z1 (nI z2) (nI z3) z4 z5 z6 z7 z8 z9 (nI z10) z11 z12 z13 z14 z15 (nI z16) z17 z18 z19))]) [0] (by decide) rfl
      have hKc := hK.sub (tys' := []) [] rfl
      have hFc := va_free (wc := [(za, (b13_0 0 z1 (nI z2) (nI z3) z4 z5 z6 z7 z8 z9 (nI z10) z11 z12 z13 z14 z15 (nI z16) z17 z18 z19))]) hD hS hA [0] rfl
      refine va_calli (va_runV (As := [.int 2]) (rest := []) ⟨hx, hb, hml, hown, hg⟩ (m_refused l D H_2.size za 0 z1 (nI z2) (nI z3) z4 z5 z6 z7 z8 z9 (nI z10) z11 z12 z13 z14 z15 (nI z16) z17 z18 z19 2) (cwV 1 hg (gV wd_725 wd_726 wd_727 wd_717 wd_728) rfl rfl rfl (by decide +kernel) ⟨(Nat.le_trans (Nat.le_of_ble_eq_true rfl) hRf), (Nat.le_trans (Nat.le_of_ble_eq_true rfl) hRl)⟩) ⟨Pr.blind, va_recv hK hP (ci := 13) (q0 := 0) rfl rfl, fun U hU hW => ⟨rfl, Pr.at hPc hKc hDc hN hU hW⟩⟩ rfl rfl hl.1 rfl (lv_room (Nat.le_of_ble_eq_true rfl)) dX13_mend_37 ⟨(Nat.le_trans (Nat.le_of_ble_eq_true rfl) hRc), (Nat.le_trans (Nat.le_of_ble_eq_true rfl) hRs)⟩) hS (fun q _ h => hFc q h) hFc (fun r_13 M_14 t H_12 locs ht hvm hw hB hz1 hk1 hS => ?_)
      have hp_15 := hw
      obtain ⟨hP1, hK1, hD1⟩ := hB
      rw [ht] at hP1
      obtain ⟨hP, hD⟩ := va_joinQ (X := [(za, (b13_0 0 z1 (nI z2) (nI z3) z4 z5 z6 z7 z8 z9 (nI z10) z11 z12 z13 z14 z15 (nI z16) z17 z18 z19))]) (cx := [(za, (b13_0 0 z1 (nI z2) (nI z3) z4 z5 z6 z7 z8 z9 (nI z10) z11 z12 z13 z14 z15 (nI z16) z17 z18 z19))]) (wr := []) (w1 := [(za, (b13_0 0 z1 (nI z2) (nI z3) 2 (-1) z6 z7 z8 z9 (nI z10) z11 z12 z13 z14 z15 (nI z16) z17 z18 z19))]) (pl := va_pl L M) hP hD [0] [] rfl rfl (by decide) (by decide) hk1 hFc hP1 hD1
      have hP : va_P D vwCl ([(za, (b13_0 0 z1 (nI z2) (nI z3) 2 (-1) z6 z7 z8 z9 (nI z10) z11 z12 z13 z14 z15 (nI z16) z17 z18 z19))] ++ va_pl L M) H_12 := hP
      have hD : va_D A ([(za, (b13_0 0 z1 (nI z2) (nI z3) 2 (-1) z6 z7 z8 z9 (nI z10) z11 z12 z13 z14 z15 (nI z16) z17 z18 z19))] ++ va_pl L M) := hD
      have hq := Eq.symm hp_15
      subst hq
      have hI_16 : (0 : Int) ≤ (k1 : Int32).toInt := inltI rfl rfl c_7
      have hI_17 : (k1 : Int32).toInt < ((z2 : Nat) : Int) := inleI (nI_toInt (by omega)) rfl c_8
      have hI_18 : (k3 : Int32).toInt = (0 : Int) := ieqI rfl rfl c_11
      have hno : ¬ okMe z2 SX k1 k2 k3 := fun q9 => by unfold okMe okH at q9; first | omega | (obtain ⟨⟨_, _⟩, _, _, _, _, _, _⟩ := q9; first | omega | contradiction)
      rw [hQ]
      exact W.iret (v := (-1)) hx hb hr (fun t ht hW9 => ⟨⟨(-1), M, rfl, ⟨hW, hF, hG, ⟨hGI, (by unfold sxMe syMe; rw [if_neg hno, if_neg hno]; exact hZS)⟩, (by unfold anMe; rw [if_neg hno])⟩, ⟨2, by rw [ht]; exact hP, hD⟩⟩, hS.F ht⟩) hS.2.2 dX13_mend_40
    · have hz := rfl (a := 0)
      refine lv_iload_n hx hb dX13_mend_23 rfl (lv_at hl 3 rfl) ?_
      refine lv_ldc (v := 1000000000) hx hb hown (hg _ wd_712) dX13_mend_24 ?_
      refine lv_icmp_gt (tgt := 35) hx hb dX13_mend_26 (by decide) (fun c_19 => ?_) (fun c_19 => ?_)
      · have hz := rfl (a := 0)
        have n_20 : ¬ k3 < 0 := gtN (c := 1000000000) (by omega) c_19
        refine lv_aload_n hx hb dX13_mend_35 rfl (lv_at hl 0 rfl) ?_
        refine lv_iconst (v := 2) hx hb dX13_mend_36 (by decide) ?_
        have hPc := hP.sub (ws' := [(za, (b13_0 0 z1 (nI z2) (nI z3) z4 z5 z6 z7 z8 z9 (nI z10) z11 z12 z13 z14 z15 (nI z16) z17 z18 z19))]) [0] rfl
        have hDc := hD.sub (ws' := [(za, (b13_0 0 z1 (nI z2) (nI z3) z4 z5 z6 z7 z8 z9 (nI z10) z11 z12 z13 z14 z15 (nI z16) z17 z18 z19))]) [0] (by decide) rfl
        have hKc := hK.sub (tys' := []) [] rfl
        have hFc := va_free (wc := [(za, (b13_0 0 z1 (nI z2) (nI z3) z4 z5 z6 z7 z8 z9 (nI z10) z11 z12 z13 z14 z15 (nI z16) z17 z18 z19))]) hD hS hA [0] rfl
        refine va_calli (va_runV (As := [.int 2]) (rest := []) ⟨hx, hb, hml, hown, hg⟩ (m_refused l D H_2.size za 0 z1 (nI z2) (nI z3) z4 z5 z6 z7 z8 z9 (nI z10) z11 z12 z13 z14 z15 (nI z16) z17 z18 z19 2) (cwV 1 hg (gV wd_725 wd_726 wd_727 wd_717 wd_728) rfl rfl rfl (by decide +kernel) ⟨(Nat.le_trans (Nat.le_of_ble_eq_true rfl) hRf), (Nat.le_trans (Nat.le_of_ble_eq_true rfl) hRl)⟩) ⟨Pr.blind, va_recv hK hP (ci := 13) (q0 := 0) rfl rfl, fun U hU hW => ⟨rfl, Pr.at hPc hKc hDc hN hU hW⟩⟩ rfl rfl hl.1 rfl (lv_room (Nat.le_of_ble_eq_true rfl)) dX13_mend_37 ⟨(Nat.le_trans (Nat.le_of_ble_eq_true rfl) hRc), (Nat.le_trans (Nat.le_of_ble_eq_true rfl) hRs)⟩) hS (fun q _ h => hFc q h) hFc (fun r_22 M_23 t H_21 locs ht hvm hw hB hz1 hk1 hS => ?_)
        have hp_24 := hw
        obtain ⟨hP1, hK1, hD1⟩ := hB
        rw [ht] at hP1
        obtain ⟨hP, hD⟩ := va_joinQ (X := [(za, (b13_0 0 z1 (nI z2) (nI z3) z4 z5 z6 z7 z8 z9 (nI z10) z11 z12 z13 z14 z15 (nI z16) z17 z18 z19))]) (cx := [(za, (b13_0 0 z1 (nI z2) (nI z3) z4 z5 z6 z7 z8 z9 (nI z10) z11 z12 z13 z14 z15 (nI z16) z17 z18 z19))]) (wr := []) (w1 := [(za, (b13_0 0 z1 (nI z2) (nI z3) 2 (-1) z6 z7 z8 z9 (nI z10) z11 z12 z13 z14 z15 (nI z16) z17 z18 z19))]) (pl := va_pl L M) hP hD [0] [] rfl rfl (by decide) (by decide) hk1 hFc hP1 hD1
        have hP : va_P D vwCl ([(za, (b13_0 0 z1 (nI z2) (nI z3) 2 (-1) z6 z7 z8 z9 (nI z10) z11 z12 z13 z14 z15 (nI z16) z17 z18 z19))] ++ va_pl L M) H_21 := hP
        have hD : va_D A ([(za, (b13_0 0 z1 (nI z2) (nI z3) 2 (-1) z6 z7 z8 z9 (nI z10) z11 z12 z13 z14 z15 (nI z16) z17 z18 z19))] ++ va_pl L M) := hD
        have hq := Eq.symm hp_24
        subst hq
        have hI_25 : (0 : Int) ≤ (k1 : Int32).toInt := inltI rfl rfl c_7
        have hI_26 : (k1 : Int32).toInt < ((z2 : Nat) : Int) := inleI (nI_toInt (by omega)) rfl c_8
        have hI_27 : (k3 : Int32).toInt ≠ (0 : Int) := ineI rfl rfl c_11
        have hI_28 : (1000000000 : Int) < (k3 : Int32).toInt := iltI rfl rfl c_19
        have hI_29 : (0 : Int) ≤ (k3 : Int32).toInt := inltI rfl rfl n_20
        have hno : ¬ okMe z2 SX k1 k2 k3 := fun q9 => by unfold okMe okH at q9; first | omega | (obtain ⟨⟨_, _⟩, _, _, _, _, _, _⟩ := q9; first | omega | contradiction)
        rw [hQ]
        exact W.iret (v := (-1)) hx hb hr (fun t ht hW9 => ⟨⟨(-1), M, rfl, ⟨hW, hF, hG, ⟨hGI, (by unfold sxMe syMe; rw [if_neg hno, if_neg hno]; exact hZS)⟩, (by unfold anMe; rw [if_neg hno])⟩, ⟨2, by rw [ht]; exact hP, hD⟩⟩, hS.F ht⟩) hS.2.2 dX13_mend_40
      · have hz := rfl (a := 0)
        refine lv_iload_n hx hb dX13_mend_29 rfl (lv_at hl 3 rfl) ?_
        refine lv_ldc (v := (-1000000000)) hx hb hown (hg _ wd_822) dX13_mend_30 ?_
        refine lv_icmp_ge (tgt := 41) hx hb dX13_mend_32 (by decide) (fun c_30 => ?_) (fun c_30 => ?_)
        · have hz := rfl (a := 0)
          refine lv_aload_n hx hb dX13_mend_41 rfl (lv_at hl 0 rfl) ?_
          refine va_get (D := D) (ci := 13) (v := .ref z1) (C := RX13) (T := TX13) (N := 20) hx hb hg inG13 hown hK hP 0 rfl rfl 1 (by decide) (hg _ wd_739) (fun _ h9 => h9) rfl dX13_mend_42 ?_
          refine lv_iload_n hx hb dX13_mend_45 rfl (lv_at hl 1 rfl) ?_
          obtain ⟨f31, hM31, hf31⟩ := hW.open_23 i1
          have hi_32 : vp_in k1 8 := (inbW (a := z2) (by omega) (inb k1 z2 (by omega) c_7 c_8))
          refine pg_aldq hx hb hK hP i1.1 9 hM31 rfl hi_32 dX13_mend_46 ?_
          obtain ⟨b33, eb_34, hb_35⟩ := hf31 _ (vp_lt hi_32)
          rw [eb_34]
          have hact : ACT z1 z2 b33 M := ⟨(k1 : Int32).toNatClampNeg, vp_lt (inb k1 z2 (by omega) c_7 c_8), by rw [show RFc (M z1) = f31 from by rw [hM31]; rfl]; exact eb_34⟩
          have hAT := GI.at hGI hact
          have hV : VW K L M M b33 (fx M b33) (ax M b33) := VW.rf b33 hGI.2.2.2
          have hb9 : RFc (M z1) (k1 : Int32).toNatClampNeg = some b33 := by rw [show RFc (M z1) = f31 from by rw [hM31]; rfl]; exact eb_34
          have hkn : (k1 : Int32).toNatClampNeg < z2 := vp_lt (inb k1 z2 (by omega) c_7 c_8)
          have hZk := hZS _ b33 hkn hb9
          have hz0 : fx M b33 0 = SX (k1 : Int32).toNatClampNeg 0 := congrFun hZk.1 0
          have hz1 : fx M b33 1 = SX (k1 : Int32).toNatClampNeg 1 := congrFun hZk.1 1
          have hz10 : fx M b33 10 = SX (k1 : Int32).toNatClampNeg 10 := congrFun hZk.1 10
          have hz11 : fx M b33 11 = SX (k1 : Int32).toNatClampNeg 11 := congrFun hZk.1 11
          have hz12 : fx M b33 12 = SX (k1 : Int32).toNatClampNeg 12 := congrFun hZk.1 12
          have hz13 : fx M b33 13 = SX (k1 : Int32).toNatClampNeg 13 := congrFun hZk.1 13
          have hz14 : fx M b33 14 = SX (k1 : Int32).toNatClampNeg 14 := congrFun hZk.1 14
          have hz15 : fx M b33 15 = SX (k1 : Int32).toNatClampNeg 15 := congrFun hZk.1 15
          have hz16 : fx M b33 16 = SX (k1 : Int32).toNatClampNeg 16 := congrFun hZk.1 16
          obtain ⟨fs36, hM36, hn36, hl36⟩ := hW.open_12 hb_35
          obtain ⟨v37, hv37, hc37⟩ : ∃ v : Nat, fs36[0]? = some (.int (nI v) : Value) ∧ v ≤ 999 := hl36 0 (by decide)
          have hx0 : (fx M b33 0) = ((v37 : Nat) : Int) := (congrFun hV.2.1 0).symm.trans ((fx_of hM36 rfl hv37).trans (nI_toInt (by omega)))
          obtain ⟨v38, hv38, hc38⟩ : ∃ v : Nat, fs36[15]? = some (.int (nI v) : Value) ∧ v ≤ 20 := hl36 15 (by decide)
          have hx15 : (fx M b33 15) = ((v38 : Nat) : Int) := (congrFun hV.2.1 15).symm.trans ((fx_of hM36 rfl hv38).trans (nI_toInt (by omega)))
          refine lv_astore (lv' := [(4, .ref b33), (0, .ref za), (1, .int k1), (2, .int k2), (3, .int k3)]) hx hb dX13_mend_47 hl (by decide) rfl (fun ls hl => ?_)
          have hx0 : (fx M b33 0) = ((v37 : Nat) : Int) := (congrFun hV.2.1 0).symm.trans ((fx_of hM36 rfl hv37).trans (nI_toInt (by omega)))
          have hx15 : (fx M b33 15) = ((v38 : Nat) : Int) := (congrFun hV.2.1 15).symm.trans ((fx_of hM36 rfl hv38).trans (nI_toInt (by omega)))
          refine lv_iload_n hx hb dX13_mend_49 rfl (lv_at hl 3 rfl) ?_
          refine lv_aload hx hb dX13_mend_50 (lv_at hl 0 rfl) ?_
          refine pg_getN (D := D) (ci := 12) (v := .int (nI v37)) (C := RX12) (T := TX12) (N := 51) hx hb hg inG12 hown hK hP hb_35.1 hM36 rfl 0 (by decide) (hN.use (Cond.fieldLinkNest RX13 77 RX12 "first" "I" RX13) 9 rfl rfl) (fun _ h9 => h9) hv37 dX13_mend_52 ?_
          refine lv_icmp_lt (tgt := 67) hx hb dX13_mend_55 (by decide) (fun c_39 => ?_) (fun c_39 => ?_)
          · have hz := rfl (a := 0)
            have n_40 : ¬ 999 ≤ k2 := ltB (b := 999) (by decide) hc37 c_39
            refine lv_aload_n hx hb dX13_mend_67 rfl (lv_at hl 1 rfl) ?_
            refine lv_iconst (v := 3) hx hb dX13_mend_68 (by decide) ?_
            have hPc := hP.sub (ws' := [(za, (b13_0 0 z1 (nI z2) (nI z3) z4 z5 z6 z7 z8 z9 (nI z10) z11 z12 z13 z14 z15 (nI z16) z17 z18 z19))]) [0] rfl
            have hDc := hD.sub (ws' := [(za, (b13_0 0 z1 (nI z2) (nI z3) z4 z5 z6 z7 z8 z9 (nI z10) z11 z12 z13 z14 z15 (nI z16) z17 z18 z19))]) [0] (by decide) rfl
            have hKc := hK.sub (tys' := []) [] rfl
            have hFc := va_free (wc := [(za, (b13_0 0 z1 (nI z2) (nI z3) z4 z5 z6 z7 z8 z9 (nI z10) z11 z12 z13 z14 z15 (nI z16) z17 z18 z19))]) hD hS hA [0] rfl
            refine va_calli (va_runV (As := [.int 3]) (rest := []) ⟨hx, hb, hml, hown, hg⟩ (m_refused l D H_2.size za 0 z1 (nI z2) (nI z3) z4 z5 z6 z7 z8 z9 (nI z10) z11 z12 z13 z14 z15 (nI z16) z17 z18 z19 3) (cwV 1 hg (gV wd_725 wd_726 wd_727 wd_717 wd_728) rfl rfl rfl (by decide +kernel) ⟨(Nat.le_trans (Nat.le_of_ble_eq_true rfl) hRf), (Nat.le_trans (Nat.le_of_ble_eq_true rfl) hRl)⟩) ⟨Pr.blind, va_recv hK hP (ci := 13) (q0 := 0) rfl rfl, fun U hU hW => ⟨rfl, Pr.at hPc hKc hDc hN hU hW⟩⟩ rfl rfl hl.1 rfl (lv_room (Nat.le_of_ble_eq_true rfl)) dX13_mend_69 ⟨(Nat.le_trans (Nat.le_of_ble_eq_true rfl) hRc), (Nat.le_trans (Nat.le_of_ble_eq_true rfl) hRs)⟩) hS (fun q _ h => hFc q h) hFc (fun r_42 M_43 t H_41 locs ht hvm hw hB hz1 hk1 hS => ?_)
            have hp_44 := hw
            obtain ⟨hP1, hK1, hD1⟩ := hB
            rw [ht] at hP1
            obtain ⟨hP, hD⟩ := va_joinQ (X := [(za, (b13_0 0 z1 (nI z2) (nI z3) z4 z5 z6 z7 z8 z9 (nI z10) z11 z12 z13 z14 z15 (nI z16) z17 z18 z19))]) (cx := [(za, (b13_0 0 z1 (nI z2) (nI z3) z4 z5 z6 z7 z8 z9 (nI z10) z11 z12 z13 z14 z15 (nI z16) z17 z18 z19))]) (wr := []) (w1 := [(za, (b13_0 0 z1 (nI z2) (nI z3) 3 (-1) z6 z7 z8 z9 (nI z10) z11 z12 z13 z14 z15 (nI z16) z17 z18 z19))]) (pl := va_pl L M) hP hD [0] [] rfl rfl (by decide) (by decide) hk1 hFc hP1 hD1
            have hP : va_P D vwCl ([(za, (b13_0 0 z1 (nI z2) (nI z3) 3 (-1) z6 z7 z8 z9 (nI z10) z11 z12 z13 z14 z15 (nI z16) z17 z18 z19))] ++ va_pl L M) H_41 := hP
            have hD : va_D A ([(za, (b13_0 0 z1 (nI z2) (nI z3) 3 (-1) z6 z7 z8 z9 (nI z10) z11 z12 z13 z14 z15 (nI z16) z17 z18 z19))] ++ va_pl L M) := hD
            have hq := Eq.symm hp_44
            subst hq
            have hI_45 : (0 : Int) ≤ (k1 : Int32).toInt := inltI rfl rfl c_7
            have hI_46 : (k1 : Int32).toInt < ((z2 : Nat) : Int) := inleI (nI_toInt (by omega)) rfl c_8
            have hI_47 : (k3 : Int32).toInt ≠ (0 : Int) := ineI rfl rfl c_11
            have hI_48 : (k3 : Int32).toInt ≤ (1000000000 : Int) := inltI rfl rfl c_19
            have hI_49 : (-1000000000) ≤ (k3 : Int32).toInt := ileI rfl rfl c_30
            have hI_50 : (k2 : Int32).toInt < ((v37 : Nat) : Int) := iltI rfl (nI_toInt (by omega)) c_39
            have hI_51 : (k2 : Int32).toInt < (999 : Int) := inleI rfl rfl n_40
            have hno : ¬ okMe z2 SX k1 k2 k3 := fun q9 => by unfold okMe okH at q9; first | omega | (obtain ⟨⟨_, _⟩, _, _, _, _, _, _⟩ := q9; first | omega | contradiction)
            rw [hQ]
            exact W.iret (v := (-1)) hx hb hr (fun t ht hW9 => ⟨⟨(-1), M, rfl, ⟨hW, hF, hG, ⟨hGI, (by unfold sxMe syMe; rw [if_neg hno, if_neg hno]; exact hZS)⟩, (by unfold anMe; rw [if_neg hno])⟩, ⟨3, by rw [ht]; exact hP, hD⟩⟩, hS.F ht⟩) hS.2.2 dX13_mend_72
          · have hz := rfl (a := 0)
            refine lv_iload_n hx hb dX13_mend_58 rfl (lv_at hl 3 rfl) ?_
            refine lv_aload hx hb dX13_mend_59 (lv_at hl 0 rfl) ?_
            obtain ⟨v52, hv52, hc52⟩ : ∃ v : Int32, fs36[1]? = some (.int v : Value) ∧ (v = (-1) ∨ ∃ c : Nat, c < 1000 ∧ v = nI c) := hl36 1 (by decide)
            refine pg_getN (D := D) (ci := 12) (v := .int v52) (C := RX12) (T := TX12) (N := 51) hx hb hg inG12 hown hK hP hb_35.1 hM36 rfl 1 (by decide) (hN.use (Cond.fieldLinkNest RX13 80 RX12 "to" "I" RX13) 10 rfl rfl) (fun _ h9 => h9) hv52 dX13_mend_61 ?_
            rcases hc52 with rfl | ⟨c_53, hc_54, rfl⟩
            · have hz := rfl (a := 0)
              have hxx1 : fx M b33 1 = (-1) := (fx_of hM36 rfl hv52).trans rfl
              refine lv_icmp_le (tgt := 73) hx hb dX13_mend_64 (by decide) (fun c_55 => ?_) (fun c_55 => ?_)
              · have hz := rfl (a := 0)
                refine lv_aload hx hb dX13_mend_73 (lv_at hl 0 rfl) ?_
                refine pg_getN (D := D) (ci := 12) (v := .int (nI v38)) (C := RX12) (T := TX12) (N := 51) hx hb hg inG12 hown hK hP hb_35.1 hM36 rfl 15 (by decide) (hN.use (Cond.fieldLinkNest RX13 279 RX12 "mends" "I" RX13) 24 rfl rfl) (fun _ h9 => h9) hv38 dX13_mend_75 ?_
                refine lv_bipush (v := 20) hx hb dX13_mend_78 (by decide) ?_
                refine lv_icmp_ne (tgt := 90) hx hb dX13_mend_80 (by decide) (fun c_56 => ?_) (fun c_56 => ?_)
                · have hz := rfl (a := 0)
                  have n_57 : ¬ (v38 = 20) := fun q => c_56 ((iEQ (a := v38) (b := 20) (by omega) (by omega)).mpr q)
                  refine lv_aload hx hb dX13_mend_90 (lv_at hl 0 rfl) ?_
                  obtain ⟨v58, hv58, hc58⟩ : ∃ v : Nat, fs36[41]? = some (.ref v : Value) ∧ isk K L v 44 20 := hl36 41 (by decide)
                  refine pg_getN (D := D) (ci := 12) (v := .ref v58) (C := RX12) (T := TX12) (N := 51) hx hb hg inG12 hown hK hP hb_35.1 hM36 rfl 41 (by decide) (hN.use (Cond.fieldLinkNest RX13 358 RX12 "mendDay" "[I" RX13) 50 rfl rfl) (fun _ h9 => h9) hv58 dX13_mend_92 ?_
                  refine lv_aload hx hb dX13_mend_95 (lv_at hl 0 rfl) ?_
                  refine pg_getN (D := D) (ci := 12) (v := .int (nI v38)) (C := RX12) (T := TX12) (N := 51) hx hb hg inG12 hown hK hP hb_35.1 hM36 rfl 15 (by decide) (hN.use (Cond.fieldLinkNest RX13 279 RX12 "mends" "I" RX13) 24 rfl rfl) (fun _ h9 => h9) hv38 dX13_mend_97 ?_
                  refine lv_iload_n hx hb dX13_mend_100 rfl (lv_at hl 3 rfl) ?_
                  obtain ⟨j_59, hj_60, rfl⟩ := i32nat 0 (by decide) (geN (n := v37) (by omega) (Int32.not_lt.mp c_39)) (m1B c_55)
                  obtain ⟨f61, hM61, hf61⟩ := hW.open_44 hc58
                  refine pg_iast hx hb hK hP hD hS hc58.1 0 hM61 rfl (inbN v38 20 (by omega) (by omega)) dX13_mend_101 (fun H_62 locs hP hD hS => ?_)
                  obtain ⟨M_63, eM_63⟩ : ∃ M1 : Hp, M1 = va_up M v58 (.inl (cy 14, 20, .inl (upd f61 ((nI v38) : Int32).toNatClampNeg (nI j_59)))) := ⟨_, rfl⟩
                  have hy41 : (ax M b33 41) = f61 := (congrFun hV.2.2.1 41).symm.trans (ax_of hM36 (by decide) hv58 hM61)
                  have hV : VW K L M M_63 b33 (fx M b33) (va_up (ax M b33) 41 (upd (ax M b33 41) ((nI v38) : Int32).toNatClampNeg (nI j_59))) := by rw [eM_63]; exact hV.ast (j := 41) hW hb_35 hM36 (by decide) hv58 hc58 hM61
                  have hP : va_P D vwCl ([(za, (b13_0 0 z1 (nI z2) (nI z3) z4 z5 z6 z7 z8 z9 (nI z10) z11 z12 z13 z14 z15 (nI z16) z17 z18 z19))] ++ va_pl L M_63) H_62 := by rw [eM_63]; exact hP
                  have hD : va_D A ([(za, (b13_0 0 z1 (nI z2) (nI z3) z4 z5 z6 z7 z8 z9 (nI z10) z11 z12 z13 z14 z15 (nI z16) z17 z18 z19))] ++ va_pl L M_63) := by rw [eM_63]; exact hD
                  have hW : WOM cy K L M_63 := by rw [eM_63]; exact hW.up_44 hc58 ⟨_, rfl, (updP (P := fun z => ∃ c : Nat, c < 1000 ∧ z = nI c) hf61 ⟨j_59, by omega, rfl⟩)⟩
                  have hF : fr K L [12, 14, 44, 82] M M_63 := by rw [eM_63]; exact hF.up hc58 (by decide)
                  have hG : fG K L [15] M M_63 := by rw [eM_63]; exact hG.arr hc58 (by decide)
                  have hM_64 : M_63 v58 = .inl (cy 14, 20, .inl (upd f61 ((nI v38) : Int32).toNatClampNeg (nI j_59))) := by rw [eM_63]; exact va_up_self _ _ _
                  have hM_65 : M_63 z1 = .inl (cy 23, 8, .inr (.inr (.inr (.inr (f31))))) := by rw [eM_63, va_up_ne _ _ (i1.neT hc58 (by decide))]; exact hM31
                  have hM_66 : M_63 b33 = .inr (12, fs36) := by rw [eM_63, va_up_ne _ _ (hb_35.neT hc58 (by decide))]; exact hM36
                  have hf_68 : ∀ j, j < 20 → ∃ c : Nat, c < 1000 ∧ (upd f61 ((nI v38) : Int32).toNatClampNeg (nI j_59)) j = nI c := (updP (P := fun z => ∃ c : Nat, c < 1000 ∧ z = nI c) hf61 ⟨j_59, by omega, rfl⟩)
                  obtain ⟨f_67, ef_67⟩ : ∃ f : Nat → Int32, f = upd f61 ((nI v38) : Int32).toNatClampNeg (nI j_59) := ⟨_, rfl⟩
                  rw [← ef_67] at hM_64 hf_68
                  refine lv_aload hx hb dX13_mend_102 (lv_at hl 0 rfl) ?_
                  obtain ⟨v69, hv69, hc69⟩ : ∃ v : Nat, fs36[42]? = some (.ref v : Value) ∧ isk K L v 82 20 := hl36 42 (by decide)
                  refine pg_getN (D := D) (ci := 12) (v := .ref v69) (C := RX12) (T := TX12) (N := 51) hx hb hg inG12 hown hK hP hb_35.1 hM_66 rfl 42 (by decide) (hN.use (Cond.fieldLinkNest RX13 361 RX12 "mendSum" "[I" RX13) 51 rfl rfl) (fun _ h9 => h9) hv69 dX13_mend_104 ?_
                  refine lv_aload hx hb dX13_mend_107 (lv_at hl 0 rfl) ?_
                  refine pg_getN (D := D) (ci := 12) (v := .int (nI v38)) (C := RX12) (T := TX12) (N := 51) hx hb hg inG12 hown hK hP hb_35.1 hM_66 rfl 15 (by decide) (hN.use (Cond.fieldLinkNest RX13 279 RX12 "mends" "I" RX13) 24 rfl rfl) (fun _ h9 => h9) hv38 dX13_mend_109 ?_
                  refine lv_iload_n hx hb dX13_mend_112 rfl (lv_at hl 4 rfl) ?_
                  obtain ⟨f70, hM70⟩ := hW.open_82 hc69
                  refine pg_iast hx hb hK hP hD hS hc69.1 0 hM70 rfl (inbN v38 20 (by omega) (by omega)) dX13_mend_113 (fun H_71 locs hP hD hS => ?_)
                  obtain ⟨M_72, eM_72⟩ : ∃ M1 : Hp, M1 = va_up M_63 v69 (.inl (cy 14, 20, .inl (upd f70 ((nI v38) : Int32).toNatClampNeg k3))) := ⟨_, rfl⟩
                  have hy42 : (ax M b33 42) = f70 := (congrFun hV.2.2.1 42).symm.trans (ax_of hM_66 (by decide) hv69 hM70)
                  have hV : VW K L M M_72 b33 (fx M b33) (va_up (va_up (ax M b33) 41 (upd (ax M b33 41) ((nI v38) : Int32).toNatClampNeg (nI j_59))) 42 (upd (ax M b33 42) ((nI v38) : Int32).toNatClampNeg k3)) := by rw [eM_72]; exact hV.ast (j := 42) hW hb_35 hM_66 (by decide) hv69 hc69 hM70
                  have hP : va_P D vwCl ([(za, (b13_0 0 z1 (nI z2) (nI z3) z4 z5 z6 z7 z8 z9 (nI z10) z11 z12 z13 z14 z15 (nI z16) z17 z18 z19))] ++ va_pl L M_72) H_71 := by rw [eM_72]; exact hP
                  have hD : va_D A ([(za, (b13_0 0 z1 (nI z2) (nI z3) z4 z5 z6 z7 z8 z9 (nI z10) z11 z12 z13 z14 z15 (nI z16) z17 z18 z19))] ++ va_pl L M_72) := by rw [eM_72]; exact hD
                  have hW : WOM cy K L M_72 := by rw [eM_72]; exact hW.up_82 hc69 ⟨_, rfl⟩
                  have hF : fr K L [12, 14, 44, 82] M M_72 := by rw [eM_72]; exact hF.up hc69 (by decide)
                  have hG : fG K L [15] M M_72 := by rw [eM_72]; exact hG.arr hc69 (by decide)
                  have hM_73 : M_72 v69 = .inl (cy 14, 20, .inl (upd f70 ((nI v38) : Int32).toNatClampNeg k3)) := by rw [eM_72]; exact va_up_self _ _ _
                  have hM_74 : M_72 v58 = .inl (cy 14, 20, .inl (f_67)) := by rw [eM_72, va_up_ne _ _ (hc58.neT hc69 (by decide))]; exact hM_64
                  have hM_75 : M_72 z1 = .inl (cy 23, 8, .inr (.inr (.inr (.inr (f31))))) := by rw [eM_72, va_up_ne _ _ (i1.neT hc69 (by decide))]; exact hM_65
                  have hM_76 : M_72 b33 = .inr (12, fs36) := by rw [eM_72, va_up_ne _ _ (hb_35.neT hc69 (by decide))]; exact hM_66
                  obtain ⟨f_77, ef_77⟩ : ∃ f : Nat → Int32, f = upd f70 ((nI v38) : Int32).toNatClampNeg k3 := ⟨_, rfl⟩
                  rw [← ef_77] at hM_73
                  refine lv_aload hx hb dX13_mend_114 (lv_at hl 0 rfl) ?_
                  refine lv_dup hx hb dX13_mend_116 rfl ?_
                  refine pg_getN (D := D) (ci := 12) (v := .int (nI v38)) (C := RX12) (T := TX12) (N := 51) hx hb hg inG12 hown hK hP hb_35.1 hM_76 rfl 15 (by decide) (hN.use (Cond.fieldLinkNest RX13 279 RX12 "mends" "I" RX13) 24 rfl rfl) (fun _ h9 => h9) hv38 dX13_mend_117 ?_
                  refine lv_iconst (v := 1) hx hb dX13_mend_120 (by decide) ?_
                  refine lv_iadd hx hb dX13_mend_121 ?_
                  refine lv_topi (fun f_78 ef_78 => ?_)
                  obtain rfl : f_78 = (nI (v38 + 1)) := ef_78.trans (nI_add v38 1)
                  refine pg_putN (D := D) (ci := 12) (v := .int (nI (v38 + 1))) (ty := .int) (C := RX12) (T := TX12) (N := 51) hx hb hg inG12 tyX12 tyX12_ok nmX12 hown hK hP hD hS hb_35.1 hM_76 rfl 15 (by decide) (hN.use (Cond.fieldLinkNest RX13 279 RX12 "mends" "I" RX13) 24 rfl rfl) (fun _ h9 => h9) rfl (by decide +kernel) rfl rfl (by rw [hn36]; decide) dX13_mend_122 (fun H_79 locs hP hD hS => ?_)
                  have hs_82 : (fs36.set 15 (.int (nI (v38 + 1))))[15]? = some (.int (nI (v38 + 1))) := List.getElem?_set_self (by rw [hn36]; decide)
                  have hk_81 := fld12_set (k := 15) (w := .int (nI (v38 + 1))) hl36 (show fld12 K L 15 (fs36.set 15 (.int (nI (v38 + 1)))) from ⟨(v38 + 1), hs_82, by omega⟩)
                  have hn_83 : (fs36.set 15 (.int (nI (v38 + 1)))).length = 51 := by rw [List.length_set]; exact hn36
                  have hv_84 : (fs36.set 15 (.int (nI (v38 + 1))))[0]? = some (.int (nI v37)) := by rw [List.getElem?_set_ne (by decide)]; exact hv37
                  have hv_85 : (fs36.set 15 (.int (nI (v38 + 1))))[1]? = some (.int (-1)) := by rw [List.getElem?_set_ne (by decide)]; exact hv52
                  have hv_86 : (fs36.set 15 (.int (nI (v38 + 1))))[41]? = some (.ref v58) := by rw [List.getElem?_set_ne (by decide)]; exact hv58
                  have hv_87 : (fs36.set 15 (.int (nI (v38 + 1))))[42]? = some (.ref v69) := by rw [List.getElem?_set_ne (by decide)]; exact hv69
                  have hb_88 : (v38 + 1) ≤ 20 := by omega
                  obtain ⟨M_89, eM_89⟩ : ∃ M1 : Hp, M1 = va_up M_72 b33 (.inr (12, fs36.set 15 (.int (nI (v38 + 1))))) := ⟨_, rfl⟩
                  have hx15 : (fx M b33 15) = ((v38 : Nat) : Int) := (congrFun hV.2.1 15).symm.trans ((fx_of hM_76 rfl hv38).trans (nI_toInt (by omega)))
                  have hV : VW K L M M_89 b33 (va_up (fx M b33) 15 (((v38 + 1) : Nat) : Int)) (va_up (va_up (ax M b33) 41 (upd (ax M b33 41) ((nI v38) : Int32).toNatClampNeg (nI j_59))) 42 (upd (ax M b33 42) ((nI v38) : Int32).toNatClampNeg k3)) := by rw [eM_89]; exact hV.put hW hb_35 hM_76 hn36 rfl (by decide) rfl (nI_toInt (by omega))
                  have hP : va_P D vwCl ([(za, (b13_0 0 z1 (nI z2) (nI z3) z4 z5 z6 z7 z8 z9 (nI z10) z11 z12 z13 z14 z15 (nI z16) z17 z18 z19))] ++ va_pl L M_89) H_79 := by rw [eM_89]; exact hP
                  have hD : va_D A ([(za, (b13_0 0 z1 (nI z2) (nI z3) z4 z5 z6 z7 z8 z9 (nI z10) z11 z12 z13 z14 z15 (nI z16) z17 z18 z19))] ++ va_pl L M_89) := by rw [eM_89]; exact hD
                  have hW : WOM cy K L M_89 := by rw [eM_89]; exact hW.up_12 hb_35 ⟨_, rfl, hn_83, hk_81⟩
                  have hF : fr K L [12, 14, 44, 82] M M_89 := by rw [eM_89]; exact hF.up hb_35 (by decide)
                  have hG : fG K L [15] M M_89 := by rw [eM_89]; exact hG.up hM_76 (by decide)
                  have hM_90 : M_89 b33 = .inr (12, fs36.set 15 (.int (nI (v38 + 1)))) := by rw [eM_89]; exact va_up_self _ _ _
                  have hM_91 : M_89 v69 = .inl (cy 14, 20, .inl (f_77)) := by rw [eM_89, va_up_ne _ _ (hc69.neT hb_35 (by decide))]; exact hM_73
                  have hM_92 : M_89 v58 = .inl (cy 14, 20, .inl (f_67)) := by rw [eM_89, va_up_ne _ _ (hc58.neT hb_35 (by decide))]; exact hM_74
                  have hM_93 : M_89 z1 = .inl (cy 23, 8, .inr (.inr (.inr (.inr (f31))))) := by rw [eM_89, va_up_ne _ _ (i1.neT hb_35 (by decide))]; exact hM_75
                  refine lv_aload_n hx hb dX13_mend_125 rfl (lv_at hl 1 rfl) ?_
                  refine lv_aload hx hb dX13_mend_126 (lv_at hl 0 rfl) ?_
                  refine pg_getN (D := D) (ci := 12) (v := .int (nI (v38 + 1))) (C := RX12) (T := TX12) (N := 51) hx hb hg inG12 hown hK hP hb_35.1 hM_90 rfl 15 (by decide) (hN.use (Cond.fieldLinkNest RX13 279 RX12 "mends" "I" RX13) 24 rfl rfl) (fun _ h9 => h9) hs_82 dX13_mend_128 ?_
                  have hPc := hP.sub (ws' := [(za, (b13_0 0 z1 (nI z2) (nI z3) z4 z5 z6 z7 z8 z9 (nI z10) z11 z12 z13 z14 z15 (nI z16) z17 z18 z19))]) [0] rfl
                  have hDc := hD.sub (ws' := [(za, (b13_0 0 z1 (nI z2) (nI z3) z4 z5 z6 z7 z8 z9 (nI z10) z11 z12 z13 z14 z15 (nI z16) z17 z18 z19))]) [0] (by decide) rfl
                  have hKc := hK.sub (tys' := []) [] rfl
                  have hFc := va_free (wc := [(za, (b13_0 0 z1 (nI z2) (nI z3) z4 z5 z6 z7 z8 z9 (nI z10) z11 z12 z13 z14 z15 (nI z16) z17 z18 z19))]) hD hS hA [0] rfl
                  refine va_calli (va_runV (As := [.int (nI (v38 + 1))]) (rest := []) ⟨hx, hb, hml, hown, hg⟩ (m_done l D H_79.size za 0 z1 (nI z2) (nI z3) z4 z5 z6 z7 z8 z9 (nI z10) z11 z12 z13 z14 z15 (nI z16) z17 z18 z19 (nI (v38 + 1))) (cwV 1 hg (gV wd_730 wd_731 wd_732 wd_717 wd_733) rfl rfl rfl (by decide +kernel) ⟨(Nat.le_trans (Nat.le_of_ble_eq_true rfl) hRf), (Nat.le_trans (Nat.le_of_ble_eq_true rfl) hRl)⟩) ⟨Pr.blind, va_recv hK hP (ci := 13) (q0 := 0) rfl rfl, fun U hU hW => ⟨rfl, Pr.at hPc hKc hDc hN hU hW⟩⟩ rfl rfl hl.1 rfl (lv_room (Nat.le_of_ble_eq_true rfl)) dX13_mend_131 ⟨(Nat.le_trans (Nat.le_of_ble_eq_true rfl) hRc), (Nat.le_trans (Nat.le_of_ble_eq_true rfl) hRs)⟩) hS (fun q _ h => hFc q h) hFc (fun r_95 M_96 t H_94 locs ht hvm hw hB hz1 hk1 hS => ?_)
                  have hp_97 := hw
                  obtain ⟨hP1, hK1, hD1⟩ := hB
                  rw [ht] at hP1
                  obtain ⟨hP, hD⟩ := va_joinQ (X := [(za, (b13_0 0 z1 (nI z2) (nI z3) z4 z5 z6 z7 z8 z9 (nI z10) z11 z12 z13 z14 z15 (nI z16) z17 z18 z19))]) (cx := [(za, (b13_0 0 z1 (nI z2) (nI z3) z4 z5 z6 z7 z8 z9 (nI z10) z11 z12 z13 z14 z15 (nI z16) z17 z18 z19))]) (wr := []) (w1 := [(za, (b13_0 0 z1 (nI z2) (nI z3) 0 (-1) z6 z7 z8 z9 (nI z10) z11 z12 z13 z14 z15 (nI z16) z17 z18 z19))]) (pl := va_pl L M_89) hP hD [0] [] rfl rfl (by decide) (by decide) hk1 hFc hP1 hD1
                  have hP : va_P D vwCl ([(za, (b13_0 0 z1 (nI z2) (nI z3) 0 (-1) z6 z7 z8 z9 (nI z10) z11 z12 z13 z14 z15 (nI z16) z17 z18 z19))] ++ va_pl L M_89) H_94 := hP
                  have hD : va_D A ([(za, (b13_0 0 z1 (nI z2) (nI z3) 0 (-1) z6 z7 z8 z9 (nI z10) z11 z12 z13 z14 z15 (nI z16) z17 z18 z19))] ++ va_pl L M_89) := hD
                  have hq := Eq.symm hp_97
                  subst hq
                  have hI_98 : (0 : Int) ≤ (k1 : Int32).toInt := inltI rfl rfl c_7
                  have hI_99 : (k1 : Int32).toInt < ((z2 : Nat) : Int) := inleI (nI_toInt (by omega)) rfl c_8
                  have hI_100 : (k3 : Int32).toInt ≠ (0 : Int) := ineI rfl rfl c_11
                  have hI_101 : (k3 : Int32).toInt ≤ (1000000000 : Int) := inltI rfl rfl c_19
                  have hI_102 : (-1000000000) ≤ (k3 : Int32).toInt := ileI rfl rfl c_30
                  have hI_103 : ((v37 : Nat) : Int) ≤ ((j_59 : Nat) : Int) := inltI (nI_toInt (by omega)) (nI_toInt (by omega)) c_39
                  have hI_104 : ((j_59 : Nat) : Int) ≤ (-1) := ileI (nI_toInt (by omega)) rfl c_55
                  have hI_105 : ((v38 : Nat) : Int) ≠ (20 : Int) := ineI (nI_toInt (by omega)) rfl c_56
                  have hn92 : ((nI j_59) : Int32).toInt = ((j_59 : Nat) : Int) := nI_toInt (by omega)
                  have hyes : okMe z2 SX k1 (nI j_59) k3 := by unfold okMe okH; refine ⟨⟨?_, ?_⟩, ?_, ?_, ?_, ?_, ?_, ?_⟩ <;> first | omega | assumption
                  have hA9 : HA (ax M b33 2) (ax M b33 3) := hAT.1
                  have hB9 : HB (fx M b33 16) (fx M b33 14) (ax M b33 3) (ax M b33 43) := hAT.2.1
                  have hC9 : HC (fx M b33 10) (ax M b33 22) (ax M b33 23) := hAT.2.2.1
                  have hD9 : HD (fx M b33 0) (fx M b33 11) (((v38 + 1) : Nat) : Int) (ax M b33 34) (upd (ax M b33 41) ((nI v38) : Int32).toNatClampNeg (nI j_59)) := HD.mend hAT.2.2.2.1 hx15 (by omega) (nI_cl (by omega)) (by rw [hx0]; exact geI c_39 (by omega))
                  have hE9 : HE (fx M b33 0) (fx M b33 1) (fx M b33 12) (fx M b33 13) (ax M b33 37) := hAT.2.2.2.2
                  have hH9 : HI (va_up (fx M b33) 15 (((v38 + 1) : Nat) : Int)) (va_up (va_up (ax M b33) 41 (upd (ax M b33 41) ((nI v38) : Int32).toNatClampNeg (nI j_59))) 42 (upd (ax M b33 42) ((nI v38) : Int32).toNatClampNeg k3)) := ⟨hA9, hB9, hC9, hD9, hE9⟩
                  have hGI9 : GI K L z1 z2 M_89 := GI.fin hW0 i1 b2 hGI hact hV (hF.at i1 (by decide)) hH9
                  rw [hQ]
                  exact W.iret (v := (nI (v38 + 1))) hx hb hr (fun t ht hW9 => ⟨⟨(nI (v38 + 1)), M_89, rfl, ⟨hW, hF, hG, ⟨hGI9, (by unfold sxMe syMe; rw [if_pos hyes, if_pos hyes]; have hQ9 := ZSx.fin hW0 i1 b2 hZS hGI.1 hkn hb9 hV (hF.at i1 (by decide)) ((by rw [hZk.1, show ((v38 + 1 : Nat) : Int) = SX (k1 : Int32).toNatClampNeg 15 + 1 by omega])) ((by rw [hZk.2, nI_cl (by omega), show v38 = (SX (k1 : Int32).toNatClampNeg 15).toNat by omega])); exact hQ9)⟩, (by unfold anMe; rw [if_pos hyes]; exact congrArg nI (by omega))⟩, ⟨0, by rw [ht]; exact hP, hD⟩⟩, hS.F ht⟩) hS.2.2 dX13_mend_134
                · have hz := rfl (a := 0)
                  have n_106 : v38 = 20 := (iEQ (a := v38) (b := 20) (by omega) (by omega)).mp c_56
                  refine lv_aload_n hx hb dX13_mend_83 rfl (lv_at hl 1 rfl) ?_
                  refine lv_bipush (v := 9) hx hb dX13_mend_84 (by decide) ?_
                  have hPc := hP.sub (ws' := [(za, (b13_0 0 z1 (nI z2) (nI z3) z4 z5 z6 z7 z8 z9 (nI z10) z11 z12 z13 z14 z15 (nI z16) z17 z18 z19))]) [0] rfl
                  have hDc := hD.sub (ws' := [(za, (b13_0 0 z1 (nI z2) (nI z3) z4 z5 z6 z7 z8 z9 (nI z10) z11 z12 z13 z14 z15 (nI z16) z17 z18 z19))]) [0] (by decide) rfl
                  have hKc := hK.sub (tys' := []) [] rfl
                  have hFc := va_free (wc := [(za, (b13_0 0 z1 (nI z2) (nI z3) z4 z5 z6 z7 z8 z9 (nI z10) z11 z12 z13 z14 z15 (nI z16) z17 z18 z19))]) hD hS hA [0] rfl
                  refine va_calli (va_runV (As := [.int 9]) (rest := []) ⟨hx, hb, hml, hown, hg⟩ (m_refused l D H_2.size za 0 z1 (nI z2) (nI z3) z4 z5 z6 z7 z8 z9 (nI z10) z11 z12 z13 z14 z15 (nI z16) z17 z18 z19 9) (cwV 1 hg (gV wd_725 wd_726 wd_727 wd_717 wd_728) rfl rfl rfl (by decide +kernel) ⟨(Nat.le_trans (Nat.le_of_ble_eq_true rfl) hRf), (Nat.le_trans (Nat.le_of_ble_eq_true rfl) hRl)⟩) ⟨Pr.blind, va_recv hK hP (ci := 13) (q0 := 0) rfl rfl, fun U hU hW => ⟨rfl, Pr.at hPc hKc hDc hN hU hW⟩⟩ rfl rfl hl.1 rfl (lv_room (Nat.le_of_ble_eq_true rfl)) dX13_mend_86 ⟨(Nat.le_trans (Nat.le_of_ble_eq_true rfl) hRc), (Nat.le_trans (Nat.le_of_ble_eq_true rfl) hRs)⟩) hS (fun q _ h => hFc q h) hFc (fun r_108 M_109 t H_107 locs ht hvm hw hB hz1 hk1 hS => ?_)
                  have hp_110 := hw
                  obtain ⟨hP1, hK1, hD1⟩ := hB
                  rw [ht] at hP1
                  obtain ⟨hP, hD⟩ := va_joinQ (X := [(za, (b13_0 0 z1 (nI z2) (nI z3) z4 z5 z6 z7 z8 z9 (nI z10) z11 z12 z13 z14 z15 (nI z16) z17 z18 z19))]) (cx := [(za, (b13_0 0 z1 (nI z2) (nI z3) z4 z5 z6 z7 z8 z9 (nI z10) z11 z12 z13 z14 z15 (nI z16) z17 z18 z19))]) (wr := []) (w1 := [(za, (b13_0 0 z1 (nI z2) (nI z3) 9 (-1) z6 z7 z8 z9 (nI z10) z11 z12 z13 z14 z15 (nI z16) z17 z18 z19))]) (pl := va_pl L M) hP hD [0] [] rfl rfl (by decide) (by decide) hk1 hFc hP1 hD1
                  have hP : va_P D vwCl ([(za, (b13_0 0 z1 (nI z2) (nI z3) 9 (-1) z6 z7 z8 z9 (nI z10) z11 z12 z13 z14 z15 (nI z16) z17 z18 z19))] ++ va_pl L M) H_107 := hP
                  have hD : va_D A ([(za, (b13_0 0 z1 (nI z2) (nI z3) 9 (-1) z6 z7 z8 z9 (nI z10) z11 z12 z13 z14 z15 (nI z16) z17 z18 z19))] ++ va_pl L M) := hD
                  have hq := Eq.symm hp_110
                  subst hq
                  have hI_111 : (0 : Int) ≤ (k1 : Int32).toInt := inltI rfl rfl c_7
                  have hI_112 : (k1 : Int32).toInt < ((z2 : Nat) : Int) := inleI (nI_toInt (by omega)) rfl c_8
                  have hI_113 : (k3 : Int32).toInt ≠ (0 : Int) := ineI rfl rfl c_11
                  have hI_114 : (k3 : Int32).toInt ≤ (1000000000 : Int) := inltI rfl rfl c_19
                  have hI_115 : (-1000000000) ≤ (k3 : Int32).toInt := ileI rfl rfl c_30
                  have hI_116 : ((v37 : Nat) : Int) ≤ (k2 : Int32).toInt := inltI rfl (nI_toInt (by omega)) c_39
                  have hI_117 : (k2 : Int32).toInt ≤ (-1) := ileI rfl rfl c_55
                  have hI_118 : ((v38 : Nat) : Int) = (20 : Int) := ieqI (nI_toInt (by omega)) rfl c_56
                  have hno : ¬ okMe z2 SX k1 k2 k3 := fun q9 => by unfold okMe okH at q9; first | omega | (obtain ⟨⟨_, _⟩, _, _, _, _, _, _⟩ := q9; first | omega | contradiction)
                  rw [hQ]
                  exact W.iret (v := (-1)) hx hb hr (fun t ht hW9 => ⟨⟨(-1), M, rfl, ⟨hW, hF, hG, ⟨hGI, (by unfold sxMe syMe; rw [if_neg hno, if_neg hno]; exact hZS)⟩, (by unfold anMe; rw [if_neg hno])⟩, ⟨9, by rw [ht]; exact hP, hD⟩⟩, hS.F ht⟩) hS.2.2 dX13_mend_89
              · have hz := rfl (a := 0)
                have n_119 : ¬ k2 < 0 := gtM (Int32.not_le.mp c_55)
                refine lv_aload_n hx hb dX13_mend_67 rfl (lv_at hl 1 rfl) ?_
                refine lv_iconst (v := 3) hx hb dX13_mend_68 (by decide) ?_
                have hPc := hP.sub (ws' := [(za, (b13_0 0 z1 (nI z2) (nI z3) z4 z5 z6 z7 z8 z9 (nI z10) z11 z12 z13 z14 z15 (nI z16) z17 z18 z19))]) [0] rfl
                have hDc := hD.sub (ws' := [(za, (b13_0 0 z1 (nI z2) (nI z3) z4 z5 z6 z7 z8 z9 (nI z10) z11 z12 z13 z14 z15 (nI z16) z17 z18 z19))]) [0] (by decide) rfl
                have hKc := hK.sub (tys' := []) [] rfl
                have hFc := va_free (wc := [(za, (b13_0 0 z1 (nI z2) (nI z3) z4 z5 z6 z7 z8 z9 (nI z10) z11 z12 z13 z14 z15 (nI z16) z17 z18 z19))]) hD hS hA [0] rfl
                refine va_calli (va_runV (As := [.int 3]) (rest := []) ⟨hx, hb, hml, hown, hg⟩ (m_refused l D H_2.size za 0 z1 (nI z2) (nI z3) z4 z5 z6 z7 z8 z9 (nI z10) z11 z12 z13 z14 z15 (nI z16) z17 z18 z19 3) (cwV 1 hg (gV wd_725 wd_726 wd_727 wd_717 wd_728) rfl rfl rfl (by decide +kernel) ⟨(Nat.le_trans (Nat.le_of_ble_eq_true rfl) hRf), (Nat.le_trans (Nat.le_of_ble_eq_true rfl) hRl)⟩) ⟨Pr.blind, va_recv hK hP (ci := 13) (q0 := 0) rfl rfl, fun U hU hW => ⟨rfl, Pr.at hPc hKc hDc hN hU hW⟩⟩ rfl rfl hl.1 rfl (lv_room (Nat.le_of_ble_eq_true rfl)) dX13_mend_69 ⟨(Nat.le_trans (Nat.le_of_ble_eq_true rfl) hRc), (Nat.le_trans (Nat.le_of_ble_eq_true rfl) hRs)⟩) hS (fun q _ h => hFc q h) hFc (fun r_121 M_122 t H_120 locs ht hvm hw hB hz1 hk1 hS => ?_)
                have hp_123 := hw
                obtain ⟨hP1, hK1, hD1⟩ := hB
                rw [ht] at hP1
                obtain ⟨hP, hD⟩ := va_joinQ (X := [(za, (b13_0 0 z1 (nI z2) (nI z3) z4 z5 z6 z7 z8 z9 (nI z10) z11 z12 z13 z14 z15 (nI z16) z17 z18 z19))]) (cx := [(za, (b13_0 0 z1 (nI z2) (nI z3) z4 z5 z6 z7 z8 z9 (nI z10) z11 z12 z13 z14 z15 (nI z16) z17 z18 z19))]) (wr := []) (w1 := [(za, (b13_0 0 z1 (nI z2) (nI z3) 3 (-1) z6 z7 z8 z9 (nI z10) z11 z12 z13 z14 z15 (nI z16) z17 z18 z19))]) (pl := va_pl L M) hP hD [0] [] rfl rfl (by decide) (by decide) hk1 hFc hP1 hD1
                have hP : va_P D vwCl ([(za, (b13_0 0 z1 (nI z2) (nI z3) 3 (-1) z6 z7 z8 z9 (nI z10) z11 z12 z13 z14 z15 (nI z16) z17 z18 z19))] ++ va_pl L M) H_120 := hP
                have hD : va_D A ([(za, (b13_0 0 z1 (nI z2) (nI z3) 3 (-1) z6 z7 z8 z9 (nI z10) z11 z12 z13 z14 z15 (nI z16) z17 z18 z19))] ++ va_pl L M) := hD
                have hq := Eq.symm hp_123
                subst hq
                have hI_124 : (0 : Int) ≤ (k1 : Int32).toInt := inltI rfl rfl c_7
                have hI_125 : (k1 : Int32).toInt < ((z2 : Nat) : Int) := inleI (nI_toInt (by omega)) rfl c_8
                have hI_126 : (k3 : Int32).toInt ≠ (0 : Int) := ineI rfl rfl c_11
                have hI_127 : (k3 : Int32).toInt ≤ (1000000000 : Int) := inltI rfl rfl c_19
                have hI_128 : (-1000000000) ≤ (k3 : Int32).toInt := ileI rfl rfl c_30
                have hI_129 : ((v37 : Nat) : Int) ≤ (k2 : Int32).toInt := inltI rfl (nI_toInt (by omega)) c_39
                have hI_130 : (-1) < (k2 : Int32).toInt := inleI rfl rfl c_55
                have hI_131 : (0 : Int) ≤ (k2 : Int32).toInt := inltI rfl rfl n_119
                have hno : ¬ okMe z2 SX k1 k2 k3 := fun q9 => by unfold okMe okH at q9; first | omega | (obtain ⟨⟨_, _⟩, _, _, _, _, _, _⟩ := q9; first | omega | contradiction)
                rw [hQ]
                exact W.iret (v := (-1)) hx hb hr (fun t ht hW9 => ⟨⟨(-1), M, rfl, ⟨hW, hF, hG, ⟨hGI, (by unfold sxMe syMe; rw [if_neg hno, if_neg hno]; exact hZS)⟩, (by unfold anMe; rw [if_neg hno])⟩, ⟨3, by rw [ht]; exact hP, hD⟩⟩, hS.F ht⟩) hS.2.2 dX13_mend_72
            · have hz := rfl (a := 0)
              have hxx1 : fx M b33 1 = ((c_53 : Nat) : Int) := (fx_of hM36 rfl hv52).trans (nI_toInt (by omega))
              refine lv_icmp_le (tgt := 73) hx hb dX13_mend_64 (by decide) (fun c_132 => ?_) (fun c_132 => ?_)
              · have hz := rfl (a := 0)
                refine lv_aload hx hb dX13_mend_73 (lv_at hl 0 rfl) ?_
                refine pg_getN (D := D) (ci := 12) (v := .int (nI v38)) (C := RX12) (T := TX12) (N := 51) hx hb hg inG12 hown hK hP hb_35.1 hM36 rfl 15 (by decide) (hN.use (Cond.fieldLinkNest RX13 279 RX12 "mends" "I" RX13) 24 rfl rfl) (fun _ h9 => h9) hv38 dX13_mend_75 ?_
                refine lv_bipush (v := 20) hx hb dX13_mend_78 (by decide) ?_
                refine lv_icmp_ne (tgt := 90) hx hb dX13_mend_80 (by decide) (fun c_133 => ?_) (fun c_133 => ?_)
                · have hz := rfl (a := 0)
                  have n_134 : ¬ (v38 = 20) := fun q => c_133 ((iEQ (a := v38) (b := 20) (by omega) (by omega)).mpr q)
                  refine lv_aload hx hb dX13_mend_90 (lv_at hl 0 rfl) ?_
                  obtain ⟨v135, hv135, hc135⟩ : ∃ v : Nat, fs36[41]? = some (.ref v : Value) ∧ isk K L v 44 20 := hl36 41 (by decide)
                  refine pg_getN (D := D) (ci := 12) (v := .ref v135) (C := RX12) (T := TX12) (N := 51) hx hb hg inG12 hown hK hP hb_35.1 hM36 rfl 41 (by decide) (hN.use (Cond.fieldLinkNest RX13 358 RX12 "mendDay" "[I" RX13) 50 rfl rfl) (fun _ h9 => h9) hv135 dX13_mend_92 ?_
                  refine lv_aload hx hb dX13_mend_95 (lv_at hl 0 rfl) ?_
                  refine pg_getN (D := D) (ci := 12) (v := .int (nI v38)) (C := RX12) (T := TX12) (N := 51) hx hb hg inG12 hown hK hP hb_35.1 hM36 rfl 15 (by decide) (hN.use (Cond.fieldLinkNest RX13 279 RX12 "mends" "I" RX13) 24 rfl rfl) (fun _ h9 => h9) hv38 dX13_mend_97 ?_
                  refine lv_iload_n hx hb dX13_mend_100 rfl (lv_at hl 3 rfl) ?_
                  obtain ⟨j_136, hj_137, rfl⟩ := i32nat 1000 (by decide) (geN (n := v37) (by omega) (Int32.not_lt.mp c_39)) (leB (b := 1000) (c := c_53) (by omega) (by decide) c_132)
                  obtain ⟨f138, hM138, hf138⟩ := hW.open_44 hc135
                  refine pg_iast hx hb hK hP hD hS hc135.1 0 hM138 rfl (inbN v38 20 (by omega) (by omega)) dX13_mend_101 (fun H_139 locs hP hD hS => ?_)
                  obtain ⟨M_140, eM_140⟩ : ∃ M1 : Hp, M1 = va_up M v135 (.inl (cy 14, 20, .inl (upd f138 ((nI v38) : Int32).toNatClampNeg (nI j_136)))) := ⟨_, rfl⟩
                  have hy41 : (ax M b33 41) = f138 := (congrFun hV.2.2.1 41).symm.trans (ax_of hM36 (by decide) hv135 hM138)
                  have hV : VW K L M M_140 b33 (fx M b33) (va_up (ax M b33) 41 (upd (ax M b33 41) ((nI v38) : Int32).toNatClampNeg (nI j_136))) := by rw [eM_140]; exact hV.ast (j := 41) hW hb_35 hM36 (by decide) hv135 hc135 hM138
                  have hP : va_P D vwCl ([(za, (b13_0 0 z1 (nI z2) (nI z3) z4 z5 z6 z7 z8 z9 (nI z10) z11 z12 z13 z14 z15 (nI z16) z17 z18 z19))] ++ va_pl L M_140) H_139 := by rw [eM_140]; exact hP
                  have hD : va_D A ([(za, (b13_0 0 z1 (nI z2) (nI z3) z4 z5 z6 z7 z8 z9 (nI z10) z11 z12 z13 z14 z15 (nI z16) z17 z18 z19))] ++ va_pl L M_140) := by rw [eM_140]; exact hD
                  have hW : WOM cy K L M_140 := by rw [eM_140]; exact hW.up_44 hc135 ⟨_, rfl, (updP (P := fun z => ∃ c : Nat, c < 1000 ∧ z = nI c) hf138 ⟨j_136, by omega, rfl⟩)⟩
                  have hF : fr K L [12, 14, 44, 82] M M_140 := by rw [eM_140]; exact hF.up hc135 (by decide)
                  have hG : fG K L [15] M M_140 := by rw [eM_140]; exact hG.arr hc135 (by decide)
                  have hM_141 : M_140 v135 = .inl (cy 14, 20, .inl (upd f138 ((nI v38) : Int32).toNatClampNeg (nI j_136))) := by rw [eM_140]; exact va_up_self _ _ _
                  have hM_142 : M_140 z1 = .inl (cy 23, 8, .inr (.inr (.inr (.inr (f31))))) := by rw [eM_140, va_up_ne _ _ (i1.neT hc135 (by decide))]; exact hM31
                  have hM_143 : M_140 b33 = .inr (12, fs36) := by rw [eM_140, va_up_ne _ _ (hb_35.neT hc135 (by decide))]; exact hM36
                  have hf_145 : ∀ j, j < 20 → ∃ c : Nat, c < 1000 ∧ (upd f138 ((nI v38) : Int32).toNatClampNeg (nI j_136)) j = nI c := (updP (P := fun z => ∃ c : Nat, c < 1000 ∧ z = nI c) hf138 ⟨j_136, by omega, rfl⟩)
                  obtain ⟨f_144, ef_144⟩ : ∃ f : Nat → Int32, f = upd f138 ((nI v38) : Int32).toNatClampNeg (nI j_136) := ⟨_, rfl⟩
                  rw [← ef_144] at hM_141 hf_145
                  refine lv_aload hx hb dX13_mend_102 (lv_at hl 0 rfl) ?_
                  obtain ⟨v146, hv146, hc146⟩ : ∃ v : Nat, fs36[42]? = some (.ref v : Value) ∧ isk K L v 82 20 := hl36 42 (by decide)
                  refine pg_getN (D := D) (ci := 12) (v := .ref v146) (C := RX12) (T := TX12) (N := 51) hx hb hg inG12 hown hK hP hb_35.1 hM_143 rfl 42 (by decide) (hN.use (Cond.fieldLinkNest RX13 361 RX12 "mendSum" "[I" RX13) 51 rfl rfl) (fun _ h9 => h9) hv146 dX13_mend_104 ?_
                  refine lv_aload hx hb dX13_mend_107 (lv_at hl 0 rfl) ?_
                  refine pg_getN (D := D) (ci := 12) (v := .int (nI v38)) (C := RX12) (T := TX12) (N := 51) hx hb hg inG12 hown hK hP hb_35.1 hM_143 rfl 15 (by decide) (hN.use (Cond.fieldLinkNest RX13 279 RX12 "mends" "I" RX13) 24 rfl rfl) (fun _ h9 => h9) hv38 dX13_mend_109 ?_
                  refine lv_iload_n hx hb dX13_mend_112 rfl (lv_at hl 4 rfl) ?_
                  obtain ⟨f147, hM147⟩ := hW.open_82 hc146
                  refine pg_iast hx hb hK hP hD hS hc146.1 0 hM147 rfl (inbN v38 20 (by omega) (by omega)) dX13_mend_113 (fun H_148 locs hP hD hS => ?_)
                  obtain ⟨M_149, eM_149⟩ : ∃ M1 : Hp, M1 = va_up M_140 v146 (.inl (cy 14, 20, .inl (upd f147 ((nI v38) : Int32).toNatClampNeg k3))) := ⟨_, rfl⟩
                  have hy42 : (ax M b33 42) = f147 := (congrFun hV.2.2.1 42).symm.trans (ax_of hM_143 (by decide) hv146 hM147)
                  have hV : VW K L M M_149 b33 (fx M b33) (va_up (va_up (ax M b33) 41 (upd (ax M b33 41) ((nI v38) : Int32).toNatClampNeg (nI j_136))) 42 (upd (ax M b33 42) ((nI v38) : Int32).toNatClampNeg k3)) := by rw [eM_149]; exact hV.ast (j := 42) hW hb_35 hM_143 (by decide) hv146 hc146 hM147
                  have hP : va_P D vwCl ([(za, (b13_0 0 z1 (nI z2) (nI z3) z4 z5 z6 z7 z8 z9 (nI z10) z11 z12 z13 z14 z15 (nI z16) z17 z18 z19))] ++ va_pl L M_149) H_148 := by rw [eM_149]; exact hP
                  have hD : va_D A ([(za, (b13_0 0 z1 (nI z2) (nI z3) z4 z5 z6 z7 z8 z9 (nI z10) z11 z12 z13 z14 z15 (nI z16) z17 z18 z19))] ++ va_pl L M_149) := by rw [eM_149]; exact hD
                  have hW : WOM cy K L M_149 := by rw [eM_149]; exact hW.up_82 hc146 ⟨_, rfl⟩
                  have hF : fr K L [12, 14, 44, 82] M M_149 := by rw [eM_149]; exact hF.up hc146 (by decide)
                  have hG : fG K L [15] M M_149 := by rw [eM_149]; exact hG.arr hc146 (by decide)
                  have hM_150 : M_149 v146 = .inl (cy 14, 20, .inl (upd f147 ((nI v38) : Int32).toNatClampNeg k3)) := by rw [eM_149]; exact va_up_self _ _ _
                  have hM_151 : M_149 v135 = .inl (cy 14, 20, .inl (f_144)) := by rw [eM_149, va_up_ne _ _ (hc135.neT hc146 (by decide))]; exact hM_141
                  have hM_152 : M_149 z1 = .inl (cy 23, 8, .inr (.inr (.inr (.inr (f31))))) := by rw [eM_149, va_up_ne _ _ (i1.neT hc146 (by decide))]; exact hM_142
                  have hM_153 : M_149 b33 = .inr (12, fs36) := by rw [eM_149, va_up_ne _ _ (hb_35.neT hc146 (by decide))]; exact hM_143
                  obtain ⟨f_154, ef_154⟩ : ∃ f : Nat → Int32, f = upd f147 ((nI v38) : Int32).toNatClampNeg k3 := ⟨_, rfl⟩
                  rw [← ef_154] at hM_150
                  refine lv_aload hx hb dX13_mend_114 (lv_at hl 0 rfl) ?_
                  refine lv_dup hx hb dX13_mend_116 rfl ?_
                  refine pg_getN (D := D) (ci := 12) (v := .int (nI v38)) (C := RX12) (T := TX12) (N := 51) hx hb hg inG12 hown hK hP hb_35.1 hM_153 rfl 15 (by decide) (hN.use (Cond.fieldLinkNest RX13 279 RX12 "mends" "I" RX13) 24 rfl rfl) (fun _ h9 => h9) hv38 dX13_mend_117 ?_
                  refine lv_iconst (v := 1) hx hb dX13_mend_120 (by decide) ?_
                  refine lv_iadd hx hb dX13_mend_121 ?_
                  refine lv_topi (fun f_155 ef_155 => ?_)
                  obtain rfl : f_155 = (nI (v38 + 1)) := ef_155.trans (nI_add v38 1)
                  refine pg_putN (D := D) (ci := 12) (v := .int (nI (v38 + 1))) (ty := .int) (C := RX12) (T := TX12) (N := 51) hx hb hg inG12 tyX12 tyX12_ok nmX12 hown hK hP hD hS hb_35.1 hM_153 rfl 15 (by decide) (hN.use (Cond.fieldLinkNest RX13 279 RX12 "mends" "I" RX13) 24 rfl rfl) (fun _ h9 => h9) rfl (by decide +kernel) rfl rfl (by rw [hn36]; decide) dX13_mend_122 (fun H_156 locs hP hD hS => ?_)
                  have hs_159 : (fs36.set 15 (.int (nI (v38 + 1))))[15]? = some (.int (nI (v38 + 1))) := List.getElem?_set_self (by rw [hn36]; decide)
                  have hk_158 := fld12_set (k := 15) (w := .int (nI (v38 + 1))) hl36 (show fld12 K L 15 (fs36.set 15 (.int (nI (v38 + 1)))) from ⟨(v38 + 1), hs_159, by omega⟩)
                  have hn_160 : (fs36.set 15 (.int (nI (v38 + 1)))).length = 51 := by rw [List.length_set]; exact hn36
                  have hv_161 : (fs36.set 15 (.int (nI (v38 + 1))))[0]? = some (.int (nI v37)) := by rw [List.getElem?_set_ne (by decide)]; exact hv37
                  have hv_162 : (fs36.set 15 (.int (nI (v38 + 1))))[1]? = some (.int (nI c_53)) := by rw [List.getElem?_set_ne (by decide)]; exact hv52
                  have hv_163 : (fs36.set 15 (.int (nI (v38 + 1))))[41]? = some (.ref v135) := by rw [List.getElem?_set_ne (by decide)]; exact hv135
                  have hv_164 : (fs36.set 15 (.int (nI (v38 + 1))))[42]? = some (.ref v146) := by rw [List.getElem?_set_ne (by decide)]; exact hv146
                  have hb_165 : (v38 + 1) ≤ 20 := by omega
                  obtain ⟨M_166, eM_166⟩ : ∃ M1 : Hp, M1 = va_up M_149 b33 (.inr (12, fs36.set 15 (.int (nI (v38 + 1))))) := ⟨_, rfl⟩
                  have hx15 : (fx M b33 15) = ((v38 : Nat) : Int) := (congrFun hV.2.1 15).symm.trans ((fx_of hM_153 rfl hv38).trans (nI_toInt (by omega)))
                  have hV : VW K L M M_166 b33 (va_up (fx M b33) 15 (((v38 + 1) : Nat) : Int)) (va_up (va_up (ax M b33) 41 (upd (ax M b33 41) ((nI v38) : Int32).toNatClampNeg (nI j_136))) 42 (upd (ax M b33 42) ((nI v38) : Int32).toNatClampNeg k3)) := by rw [eM_166]; exact hV.put hW hb_35 hM_153 hn36 rfl (by decide) rfl (nI_toInt (by omega))
                  have hP : va_P D vwCl ([(za, (b13_0 0 z1 (nI z2) (nI z3) z4 z5 z6 z7 z8 z9 (nI z10) z11 z12 z13 z14 z15 (nI z16) z17 z18 z19))] ++ va_pl L M_166) H_156 := by rw [eM_166]; exact hP
                  have hD : va_D A ([(za, (b13_0 0 z1 (nI z2) (nI z3) z4 z5 z6 z7 z8 z9 (nI z10) z11 z12 z13 z14 z15 (nI z16) z17 z18 z19))] ++ va_pl L M_166) := by rw [eM_166]; exact hD
                  have hW : WOM cy K L M_166 := by rw [eM_166]; exact hW.up_12 hb_35 ⟨_, rfl, hn_160, hk_158⟩
                  have hF : fr K L [12, 14, 44, 82] M M_166 := by rw [eM_166]; exact hF.up hb_35 (by decide)
                  have hG : fG K L [15] M M_166 := by rw [eM_166]; exact hG.up hM_153 (by decide)
                  have hM_167 : M_166 b33 = .inr (12, fs36.set 15 (.int (nI (v38 + 1)))) := by rw [eM_166]; exact va_up_self _ _ _
                  have hM_168 : M_166 v146 = .inl (cy 14, 20, .inl (f_154)) := by rw [eM_166, va_up_ne _ _ (hc146.neT hb_35 (by decide))]; exact hM_150
                  have hM_169 : M_166 v135 = .inl (cy 14, 20, .inl (f_144)) := by rw [eM_166, va_up_ne _ _ (hc135.neT hb_35 (by decide))]; exact hM_151
                  have hM_170 : M_166 z1 = .inl (cy 23, 8, .inr (.inr (.inr (.inr (f31))))) := by rw [eM_166, va_up_ne _ _ (i1.neT hb_35 (by decide))]; exact hM_152
                  refine lv_aload_n hx hb dX13_mend_125 rfl (lv_at hl 1 rfl) ?_
                  refine lv_aload hx hb dX13_mend_126 (lv_at hl 0 rfl) ?_
                  refine pg_getN (D := D) (ci := 12) (v := .int (nI (v38 + 1))) (C := RX12) (T := TX12) (N := 51) hx hb hg inG12 hown hK hP hb_35.1 hM_167 rfl 15 (by decide) (hN.use (Cond.fieldLinkNest RX13 279 RX12 "mends" "I" RX13) 24 rfl rfl) (fun _ h9 => h9) hs_159 dX13_mend_128 ?_
                  have hPc := hP.sub (ws' := [(za, (b13_0 0 z1 (nI z2) (nI z3) z4 z5 z6 z7 z8 z9 (nI z10) z11 z12 z13 z14 z15 (nI z16) z17 z18 z19))]) [0] rfl
                  have hDc := hD.sub (ws' := [(za, (b13_0 0 z1 (nI z2) (nI z3) z4 z5 z6 z7 z8 z9 (nI z10) z11 z12 z13 z14 z15 (nI z16) z17 z18 z19))]) [0] (by decide) rfl
                  have hKc := hK.sub (tys' := []) [] rfl
                  have hFc := va_free (wc := [(za, (b13_0 0 z1 (nI z2) (nI z3) z4 z5 z6 z7 z8 z9 (nI z10) z11 z12 z13 z14 z15 (nI z16) z17 z18 z19))]) hD hS hA [0] rfl
                  refine va_calli (va_runV (As := [.int (nI (v38 + 1))]) (rest := []) ⟨hx, hb, hml, hown, hg⟩ (m_done l D H_156.size za 0 z1 (nI z2) (nI z3) z4 z5 z6 z7 z8 z9 (nI z10) z11 z12 z13 z14 z15 (nI z16) z17 z18 z19 (nI (v38 + 1))) (cwV 1 hg (gV wd_730 wd_731 wd_732 wd_717 wd_733) rfl rfl rfl (by decide +kernel) ⟨(Nat.le_trans (Nat.le_of_ble_eq_true rfl) hRf), (Nat.le_trans (Nat.le_of_ble_eq_true rfl) hRl)⟩) ⟨Pr.blind, va_recv hK hP (ci := 13) (q0 := 0) rfl rfl, fun U hU hW => ⟨rfl, Pr.at hPc hKc hDc hN hU hW⟩⟩ rfl rfl hl.1 rfl (lv_room (Nat.le_of_ble_eq_true rfl)) dX13_mend_131 ⟨(Nat.le_trans (Nat.le_of_ble_eq_true rfl) hRc), (Nat.le_trans (Nat.le_of_ble_eq_true rfl) hRs)⟩) hS (fun q _ h => hFc q h) hFc (fun r_172 M_173 t H_171 locs ht hvm hw hB hz1 hk1 hS => ?_)
                  have hp_174 := hw
                  obtain ⟨hP1, hK1, hD1⟩ := hB
                  rw [ht] at hP1
                  obtain ⟨hP, hD⟩ := va_joinQ (X := [(za, (b13_0 0 z1 (nI z2) (nI z3) z4 z5 z6 z7 z8 z9 (nI z10) z11 z12 z13 z14 z15 (nI z16) z17 z18 z19))]) (cx := [(za, (b13_0 0 z1 (nI z2) (nI z3) z4 z5 z6 z7 z8 z9 (nI z10) z11 z12 z13 z14 z15 (nI z16) z17 z18 z19))]) (wr := []) (w1 := [(za, (b13_0 0 z1 (nI z2) (nI z3) 0 (-1) z6 z7 z8 z9 (nI z10) z11 z12 z13 z14 z15 (nI z16) z17 z18 z19))]) (pl := va_pl L M_166) hP hD [0] [] rfl rfl (by decide) (by decide) hk1 hFc hP1 hD1
                  have hP : va_P D vwCl ([(za, (b13_0 0 z1 (nI z2) (nI z3) 0 (-1) z6 z7 z8 z9 (nI z10) z11 z12 z13 z14 z15 (nI z16) z17 z18 z19))] ++ va_pl L M_166) H_171 := hP
                  have hD : va_D A ([(za, (b13_0 0 z1 (nI z2) (nI z3) 0 (-1) z6 z7 z8 z9 (nI z10) z11 z12 z13 z14 z15 (nI z16) z17 z18 z19))] ++ va_pl L M_166) := hD
                  have hq := Eq.symm hp_174
                  subst hq
                  have hI_175 : (0 : Int) ≤ (k1 : Int32).toInt := inltI rfl rfl c_7
                  have hI_176 : (k1 : Int32).toInt < ((z2 : Nat) : Int) := inleI (nI_toInt (by omega)) rfl c_8
                  have hI_177 : (k3 : Int32).toInt ≠ (0 : Int) := ineI rfl rfl c_11
                  have hI_178 : (k3 : Int32).toInt ≤ (1000000000 : Int) := inltI rfl rfl c_19
                  have hI_179 : (-1000000000) ≤ (k3 : Int32).toInt := ileI rfl rfl c_30
                  have hI_180 : ((v37 : Nat) : Int) ≤ ((j_136 : Nat) : Int) := inltI (nI_toInt (by omega)) (nI_toInt (by omega)) c_39
                  have hI_181 : ((j_136 : Nat) : Int) ≤ ((c_53 : Nat) : Int) := ileI (nI_toInt (by omega)) (nI_toInt (by omega)) c_132
                  have hI_182 : ((v38 : Nat) : Int) ≠ (20 : Int) := ineI (nI_toInt (by omega)) rfl c_133
                  have hn92 : ((nI j_136) : Int32).toInt = ((j_136 : Nat) : Int) := nI_toInt (by omega)
                  have hyes : okMe z2 SX k1 (nI j_136) k3 := by unfold okMe okH; refine ⟨⟨?_, ?_⟩, ?_, ?_, ?_, ?_, ?_, ?_⟩ <;> first | omega | assumption
                  have hA9 : HA (ax M b33 2) (ax M b33 3) := hAT.1
                  have hB9 : HB (fx M b33 16) (fx M b33 14) (ax M b33 3) (ax M b33 43) := hAT.2.1
                  have hC9 : HC (fx M b33 10) (ax M b33 22) (ax M b33 23) := hAT.2.2.1
                  have hD9 : HD (fx M b33 0) (fx M b33 11) (((v38 + 1) : Nat) : Int) (ax M b33 34) (upd (ax M b33 41) ((nI v38) : Int32).toNatClampNeg (nI j_136)) := HD.mend hAT.2.2.2.1 hx15 (by omega) (nI_cl (by omega)) (by rw [hx0]; exact geI c_39 (by omega))
                  have hE9 : HE (fx M b33 0) (fx M b33 1) (fx M b33 12) (fx M b33 13) (ax M b33 37) := hAT.2.2.2.2
                  have hH9 : HI (va_up (fx M b33) 15 (((v38 + 1) : Nat) : Int)) (va_up (va_up (ax M b33) 41 (upd (ax M b33 41) ((nI v38) : Int32).toNatClampNeg (nI j_136))) 42 (upd (ax M b33 42) ((nI v38) : Int32).toNatClampNeg k3)) := ⟨hA9, hB9, hC9, hD9, hE9⟩
                  have hGI9 : GI K L z1 z2 M_166 := GI.fin hW0 i1 b2 hGI hact hV (hF.at i1 (by decide)) hH9
                  rw [hQ]
                  exact W.iret (v := (nI (v38 + 1))) hx hb hr (fun t ht hW9 => ⟨⟨(nI (v38 + 1)), M_166, rfl, ⟨hW, hF, hG, ⟨hGI9, (by unfold sxMe syMe; rw [if_pos hyes, if_pos hyes]; have hQ9 := ZSx.fin hW0 i1 b2 hZS hGI.1 hkn hb9 hV (hF.at i1 (by decide)) ((by rw [hZk.1, show ((v38 + 1 : Nat) : Int) = SX (k1 : Int32).toNatClampNeg 15 + 1 by omega])) ((by rw [hZk.2, nI_cl (by omega), show v38 = (SX (k1 : Int32).toNatClampNeg 15).toNat by omega])); exact hQ9)⟩, (by unfold anMe; rw [if_pos hyes]; exact congrArg nI (by omega))⟩, ⟨0, by rw [ht]; exact hP, hD⟩⟩, hS.F ht⟩) hS.2.2 dX13_mend_134
                · have hz := rfl (a := 0)
                  have n_183 : v38 = 20 := (iEQ (a := v38) (b := 20) (by omega) (by omega)).mp c_133
                  refine lv_aload_n hx hb dX13_mend_83 rfl (lv_at hl 1 rfl) ?_
                  refine lv_bipush (v := 9) hx hb dX13_mend_84 (by decide) ?_
                  have hPc := hP.sub (ws' := [(za, (b13_0 0 z1 (nI z2) (nI z3) z4 z5 z6 z7 z8 z9 (nI z10) z11 z12 z13 z14 z15 (nI z16) z17 z18 z19))]) [0] rfl
                  have hDc := hD.sub (ws' := [(za, (b13_0 0 z1 (nI z2) (nI z3) z4 z5 z6 z7 z8 z9 (nI z10) z11 z12 z13 z14 z15 (nI z16) z17 z18 z19))]) [0] (by decide) rfl
                  have hKc := hK.sub (tys' := []) [] rfl
                  have hFc := va_free (wc := [(za, (b13_0 0 z1 (nI z2) (nI z3) z4 z5 z6 z7 z8 z9 (nI z10) z11 z12 z13 z14 z15 (nI z16) z17 z18 z19))]) hD hS hA [0] rfl
                  refine va_calli (va_runV (As := [.int 9]) (rest := []) ⟨hx, hb, hml, hown, hg⟩ (m_refused l D H_2.size za 0 z1 (nI z2) (nI z3) z4 z5 z6 z7 z8 z9 (nI z10) z11 z12 z13 z14 z15 (nI z16) z17 z18 z19 9) (cwV 1 hg (gV wd_725 wd_726 wd_727 wd_717 wd_728) rfl rfl rfl (by decide +kernel) ⟨(Nat.le_trans (Nat.le_of_ble_eq_true rfl) hRf), (Nat.le_trans (Nat.le_of_ble_eq_true rfl) hRl)⟩) ⟨Pr.blind, va_recv hK hP (ci := 13) (q0 := 0) rfl rfl, fun U hU hW => ⟨rfl, Pr.at hPc hKc hDc hN hU hW⟩⟩ rfl rfl hl.1 rfl (lv_room (Nat.le_of_ble_eq_true rfl)) dX13_mend_86 ⟨(Nat.le_trans (Nat.le_of_ble_eq_true rfl) hRc), (Nat.le_trans (Nat.le_of_ble_eq_true rfl) hRs)⟩) hS (fun q _ h => hFc q h) hFc (fun r_185 M_186 t H_184 locs ht hvm hw hB hz1 hk1 hS => ?_)
                  have hp_187 := hw
                  obtain ⟨hP1, hK1, hD1⟩ := hB
                  rw [ht] at hP1
                  obtain ⟨hP, hD⟩ := va_joinQ (X := [(za, (b13_0 0 z1 (nI z2) (nI z3) z4 z5 z6 z7 z8 z9 (nI z10) z11 z12 z13 z14 z15 (nI z16) z17 z18 z19))]) (cx := [(za, (b13_0 0 z1 (nI z2) (nI z3) z4 z5 z6 z7 z8 z9 (nI z10) z11 z12 z13 z14 z15 (nI z16) z17 z18 z19))]) (wr := []) (w1 := [(za, (b13_0 0 z1 (nI z2) (nI z3) 9 (-1) z6 z7 z8 z9 (nI z10) z11 z12 z13 z14 z15 (nI z16) z17 z18 z19))]) (pl := va_pl L M) hP hD [0] [] rfl rfl (by decide) (by decide) hk1 hFc hP1 hD1
                  have hP : va_P D vwCl ([(za, (b13_0 0 z1 (nI z2) (nI z3) 9 (-1) z6 z7 z8 z9 (nI z10) z11 z12 z13 z14 z15 (nI z16) z17 z18 z19))] ++ va_pl L M) H_184 := hP
                  have hD : va_D A ([(za, (b13_0 0 z1 (nI z2) (nI z3) 9 (-1) z6 z7 z8 z9 (nI z10) z11 z12 z13 z14 z15 (nI z16) z17 z18 z19))] ++ va_pl L M) := hD
                  have hq := Eq.symm hp_187
                  subst hq
                  have hI_188 : (0 : Int) ≤ (k1 : Int32).toInt := inltI rfl rfl c_7
                  have hI_189 : (k1 : Int32).toInt < ((z2 : Nat) : Int) := inleI (nI_toInt (by omega)) rfl c_8
                  have hI_190 : (k3 : Int32).toInt ≠ (0 : Int) := ineI rfl rfl c_11
                  have hI_191 : (k3 : Int32).toInt ≤ (1000000000 : Int) := inltI rfl rfl c_19
                  have hI_192 : (-1000000000) ≤ (k3 : Int32).toInt := ileI rfl rfl c_30
                  have hI_193 : ((v37 : Nat) : Int) ≤ (k2 : Int32).toInt := inltI rfl (nI_toInt (by omega)) c_39
                  have hI_194 : (k2 : Int32).toInt ≤ ((c_53 : Nat) : Int) := ileI rfl (nI_toInt (by omega)) c_132
                  have hI_195 : ((v38 : Nat) : Int) = (20 : Int) := ieqI (nI_toInt (by omega)) rfl c_133
                  have hno : ¬ okMe z2 SX k1 k2 k3 := fun q9 => by unfold okMe okH at q9; first | omega | (obtain ⟨⟨_, _⟩, _, _, _, _, _, _⟩ := q9; first | omega | contradiction)
                  rw [hQ]
                  exact W.iret (v := (-1)) hx hb hr (fun t ht hW9 => ⟨⟨(-1), M, rfl, ⟨hW, hF, hG, ⟨hGI, (by unfold sxMe syMe; rw [if_neg hno, if_neg hno]; exact hZS)⟩, (by unfold anMe; rw [if_neg hno])⟩, ⟨9, by rw [ht]; exact hP, hD⟩⟩, hS.F ht⟩) hS.2.2 dX13_mend_89
              · have hz := rfl (a := 0)
                have n_196 : ¬ k2 < 0 := gtN (c := c_53) (by omega) (Int32.not_le.mp c_132)
                refine lv_aload_n hx hb dX13_mend_67 rfl (lv_at hl 1 rfl) ?_
                refine lv_iconst (v := 3) hx hb dX13_mend_68 (by decide) ?_
                have hPc := hP.sub (ws' := [(za, (b13_0 0 z1 (nI z2) (nI z3) z4 z5 z6 z7 z8 z9 (nI z10) z11 z12 z13 z14 z15 (nI z16) z17 z18 z19))]) [0] rfl
                have hDc := hD.sub (ws' := [(za, (b13_0 0 z1 (nI z2) (nI z3) z4 z5 z6 z7 z8 z9 (nI z10) z11 z12 z13 z14 z15 (nI z16) z17 z18 z19))]) [0] (by decide) rfl
                have hKc := hK.sub (tys' := []) [] rfl
                have hFc := va_free (wc := [(za, (b13_0 0 z1 (nI z2) (nI z3) z4 z5 z6 z7 z8 z9 (nI z10) z11 z12 z13 z14 z15 (nI z16) z17 z18 z19))]) hD hS hA [0] rfl
                refine va_calli (va_runV (As := [.int 3]) (rest := []) ⟨hx, hb, hml, hown, hg⟩ (m_refused l D H_2.size za 0 z1 (nI z2) (nI z3) z4 z5 z6 z7 z8 z9 (nI z10) z11 z12 z13 z14 z15 (nI z16) z17 z18 z19 3) (cwV 1 hg (gV wd_725 wd_726 wd_727 wd_717 wd_728) rfl rfl rfl (by decide +kernel) ⟨(Nat.le_trans (Nat.le_of_ble_eq_true rfl) hRf), (Nat.le_trans (Nat.le_of_ble_eq_true rfl) hRl)⟩) ⟨Pr.blind, va_recv hK hP (ci := 13) (q0 := 0) rfl rfl, fun U hU hW => ⟨rfl, Pr.at hPc hKc hDc hN hU hW⟩⟩ rfl rfl hl.1 rfl (lv_room (Nat.le_of_ble_eq_true rfl)) dX13_mend_69 ⟨(Nat.le_trans (Nat.le_of_ble_eq_true rfl) hRc), (Nat.le_trans (Nat.le_of_ble_eq_true rfl) hRs)⟩) hS (fun q _ h => hFc q h) hFc (fun r_198 M_199 t H_197 locs ht hvm hw hB hz1 hk1 hS => ?_)
                have hp_200 := hw
                obtain ⟨hP1, hK1, hD1⟩ := hB
                rw [ht] at hP1
                obtain ⟨hP, hD⟩ := va_joinQ (X := [(za, (b13_0 0 z1 (nI z2) (nI z3) z4 z5 z6 z7 z8 z9 (nI z10) z11 z12 z13 z14 z15 (nI z16) z17 z18 z19))]) (cx := [(za, (b13_0 0 z1 (nI z2) (nI z3) z4 z5 z6 z7 z8 z9 (nI z10) z11 z12 z13 z14 z15 (nI z16) z17 z18 z19))]) (wr := []) (w1 := [(za, (b13_0 0 z1 (nI z2) (nI z3) 3 (-1) z6 z7 z8 z9 (nI z10) z11 z12 z13 z14 z15 (nI z16) z17 z18 z19))]) (pl := va_pl L M) hP hD [0] [] rfl rfl (by decide) (by decide) hk1 hFc hP1 hD1
                have hP : va_P D vwCl ([(za, (b13_0 0 z1 (nI z2) (nI z3) 3 (-1) z6 z7 z8 z9 (nI z10) z11 z12 z13 z14 z15 (nI z16) z17 z18 z19))] ++ va_pl L M) H_197 := hP
                have hD : va_D A ([(za, (b13_0 0 z1 (nI z2) (nI z3) 3 (-1) z6 z7 z8 z9 (nI z10) z11 z12 z13 z14 z15 (nI z16) z17 z18 z19))] ++ va_pl L M) := hD
                have hq := Eq.symm hp_200
                subst hq
                have hI_201 : (0 : Int) ≤ (k1 : Int32).toInt := inltI rfl rfl c_7
                have hI_202 : (k1 : Int32).toInt < ((z2 : Nat) : Int) := inleI (nI_toInt (by omega)) rfl c_8
                have hI_203 : (k3 : Int32).toInt ≠ (0 : Int) := ineI rfl rfl c_11
                have hI_204 : (k3 : Int32).toInt ≤ (1000000000 : Int) := inltI rfl rfl c_19
                have hI_205 : (-1000000000) ≤ (k3 : Int32).toInt := ileI rfl rfl c_30
                have hI_206 : ((v37 : Nat) : Int) ≤ (k2 : Int32).toInt := inltI rfl (nI_toInt (by omega)) c_39
                have hI_207 : ((c_53 : Nat) : Int) < (k2 : Int32).toInt := inleI rfl (nI_toInt (by omega)) c_132
                have hI_208 : (0 : Int) ≤ (k2 : Int32).toInt := inltI rfl rfl n_196
                have hno : ¬ okMe z2 SX k1 k2 k3 := fun q9 => by unfold okMe okH at q9; first | omega | (obtain ⟨⟨_, _⟩, _, _, _, _, _, _⟩ := q9; first | omega | contradiction)
                rw [hQ]
                exact W.iret (v := (-1)) hx hb hr (fun t ht hW9 => ⟨⟨(-1), M, rfl, ⟨hW, hF, hG, ⟨hGI, (by unfold sxMe syMe; rw [if_neg hno, if_neg hno]; exact hZS)⟩, (by unfold anMe; rw [if_neg hno])⟩, ⟨3, by rw [ht]; exact hP, hD⟩⟩, hS.F ht⟩) hS.2.2 dX13_mend_72
        · have hz := rfl (a := 0)
          refine lv_aload_n hx hb dX13_mend_35 rfl (lv_at hl 0 rfl) ?_
          refine lv_iconst (v := 2) hx hb dX13_mend_36 (by decide) ?_
          have hPc := hP.sub (ws' := [(za, (b13_0 0 z1 (nI z2) (nI z3) z4 z5 z6 z7 z8 z9 (nI z10) z11 z12 z13 z14 z15 (nI z16) z17 z18 z19))]) [0] rfl
          have hDc := hD.sub (ws' := [(za, (b13_0 0 z1 (nI z2) (nI z3) z4 z5 z6 z7 z8 z9 (nI z10) z11 z12 z13 z14 z15 (nI z16) z17 z18 z19))]) [0] (by decide) rfl
          have hKc := hK.sub (tys' := []) [] rfl
          have hFc := va_free (wc := [(za, (b13_0 0 z1 (nI z2) (nI z3) z4 z5 z6 z7 z8 z9 (nI z10) z11 z12 z13 z14 z15 (nI z16) z17 z18 z19))]) hD hS hA [0] rfl
          refine va_calli (va_runV (As := [.int 2]) (rest := []) ⟨hx, hb, hml, hown, hg⟩ (m_refused l D H_2.size za 0 z1 (nI z2) (nI z3) z4 z5 z6 z7 z8 z9 (nI z10) z11 z12 z13 z14 z15 (nI z16) z17 z18 z19 2) (cwV 1 hg (gV wd_725 wd_726 wd_727 wd_717 wd_728) rfl rfl rfl (by decide +kernel) ⟨(Nat.le_trans (Nat.le_of_ble_eq_true rfl) hRf), (Nat.le_trans (Nat.le_of_ble_eq_true rfl) hRl)⟩) ⟨Pr.blind, va_recv hK hP (ci := 13) (q0 := 0) rfl rfl, fun U hU hW => ⟨rfl, Pr.at hPc hKc hDc hN hU hW⟩⟩ rfl rfl hl.1 rfl (lv_room (Nat.le_of_ble_eq_true rfl)) dX13_mend_37 ⟨(Nat.le_trans (Nat.le_of_ble_eq_true rfl) hRc), (Nat.le_trans (Nat.le_of_ble_eq_true rfl) hRs)⟩) hS (fun q _ h => hFc q h) hFc (fun r_210 M_211 t H_209 locs ht hvm hw hB hz1 hk1 hS => ?_)
          have hp_212 := hw
          obtain ⟨hP1, hK1, hD1⟩ := hB
          rw [ht] at hP1
          obtain ⟨hP, hD⟩ := va_joinQ (X := [(za, (b13_0 0 z1 (nI z2) (nI z3) z4 z5 z6 z7 z8 z9 (nI z10) z11 z12 z13 z14 z15 (nI z16) z17 z18 z19))]) (cx := [(za, (b13_0 0 z1 (nI z2) (nI z3) z4 z5 z6 z7 z8 z9 (nI z10) z11 z12 z13 z14 z15 (nI z16) z17 z18 z19))]) (wr := []) (w1 := [(za, (b13_0 0 z1 (nI z2) (nI z3) 2 (-1) z6 z7 z8 z9 (nI z10) z11 z12 z13 z14 z15 (nI z16) z17 z18 z19))]) (pl := va_pl L M) hP hD [0] [] rfl rfl (by decide) (by decide) hk1 hFc hP1 hD1
          have hP : va_P D vwCl ([(za, (b13_0 0 z1 (nI z2) (nI z3) 2 (-1) z6 z7 z8 z9 (nI z10) z11 z12 z13 z14 z15 (nI z16) z17 z18 z19))] ++ va_pl L M) H_209 := hP
          have hD : va_D A ([(za, (b13_0 0 z1 (nI z2) (nI z3) 2 (-1) z6 z7 z8 z9 (nI z10) z11 z12 z13 z14 z15 (nI z16) z17 z18 z19))] ++ va_pl L M) := hD
          have hq := Eq.symm hp_212
          subst hq
          have hI_213 : (0 : Int) ≤ (k1 : Int32).toInt := inltI rfl rfl c_7
          have hI_214 : (k1 : Int32).toInt < ((z2 : Nat) : Int) := inleI (nI_toInt (by omega)) rfl c_8
          have hI_215 : (k3 : Int32).toInt ≠ (0 : Int) := ineI rfl rfl c_11
          have hI_216 : (k3 : Int32).toInt ≤ (1000000000 : Int) := inltI rfl rfl c_19
          have hI_217 : (k3 : Int32).toInt < (-1000000000) := inleI rfl rfl c_30
          have hno : ¬ okMe z2 SX k1 k2 k3 := fun q9 => by unfold okMe okH at q9; first | omega | (obtain ⟨⟨_, _⟩, _, _, _, _, _, _⟩ := q9; first | omega | contradiction)
          rw [hQ]
          exact W.iret (v := (-1)) hx hb hr (fun t ht hW9 => ⟨⟨(-1), M, rfl, ⟨hW, hF, hG, ⟨hGI, (by unfold sxMe syMe; rw [if_neg hno, if_neg hno]; exact hZS)⟩, (by unfold anMe; rw [if_neg hno])⟩, ⟨2, by rw [ht]; exact hP, hD⟩⟩, hS.F ht⟩) hS.2.2 dX13_mend_40
  · have hz := rfl (a := 0)
    refine lv_if_ne (tgt := 19) hx hb dX13_mend_10 (by decide) (fun c_218 => absurd c_218 (by decide)) (fun _ => ?_)
    refine lv_aload_n hx hb dX13_mend_13 rfl (lv_at hl 0 rfl) ?_
    refine lv_iconst (v := 1) hx hb dX13_mend_14 (by decide) ?_
    have hPc := hP.sub (ws' := [(za, (b13_0 0 z1 (nI z2) (nI z3) z4 z5 z6 z7 z8 z9 (nI z10) z11 z12 z13 z14 z15 (nI z16) z17 z18 z19))]) [0] rfl
    have hDc := hD.sub (ws' := [(za, (b13_0 0 z1 (nI z2) (nI z3) z4 z5 z6 z7 z8 z9 (nI z10) z11 z12 z13 z14 z15 (nI z16) z17 z18 z19))]) [0] (by decide) rfl
    have hKc := hK.sub (tys' := []) [] rfl
    have hFc := va_free (wc := [(za, (b13_0 0 z1 (nI z2) (nI z3) z4 z5 z6 z7 z8 z9 (nI z10) z11 z12 z13 z14 z15 (nI z16) z17 z18 z19))]) hD hS hA [0] rfl
    refine va_calli (va_runV (As := [.int 1]) (rest := []) ⟨hx, hb, hml, hown, hg⟩ (m_refused l D H_2.size za 0 z1 (nI z2) (nI z3) z4 z5 z6 z7 z8 z9 (nI z10) z11 z12 z13 z14 z15 (nI z16) z17 z18 z19 1) (cwV 1 hg (gV wd_725 wd_726 wd_727 wd_717 wd_728) rfl rfl rfl (by decide +kernel) ⟨(Nat.le_trans (Nat.le_of_ble_eq_true rfl) hRf), (Nat.le_trans (Nat.le_of_ble_eq_true rfl) hRl)⟩) ⟨Pr.blind, va_recv hK hP (ci := 13) (q0 := 0) rfl rfl, fun U hU hW => ⟨rfl, Pr.at hPc hKc hDc hN hU hW⟩⟩ rfl rfl hl.1 rfl (lv_room (Nat.le_of_ble_eq_true rfl)) dX13_mend_15 ⟨(Nat.le_trans (Nat.le_of_ble_eq_true rfl) hRc), (Nat.le_trans (Nat.le_of_ble_eq_true rfl) hRs)⟩) hS (fun q _ h => hFc q h) hFc (fun r_220 M_221 t H_219 locs ht hvm hw hB hz1 hk1 hS => ?_)
    have hp_222 := hw
    obtain ⟨hP1, hK1, hD1⟩ := hB
    rw [ht] at hP1
    obtain ⟨hP, hD⟩ := va_joinQ (X := [(za, (b13_0 0 z1 (nI z2) (nI z3) z4 z5 z6 z7 z8 z9 (nI z10) z11 z12 z13 z14 z15 (nI z16) z17 z18 z19))]) (cx := [(za, (b13_0 0 z1 (nI z2) (nI z3) z4 z5 z6 z7 z8 z9 (nI z10) z11 z12 z13 z14 z15 (nI z16) z17 z18 z19))]) (wr := []) (w1 := [(za, (b13_0 0 z1 (nI z2) (nI z3) 1 (-1) z6 z7 z8 z9 (nI z10) z11 z12 z13 z14 z15 (nI z16) z17 z18 z19))]) (pl := va_pl L M) hP hD [0] [] rfl rfl (by decide) (by decide) hk1 hFc hP1 hD1
    have hP : va_P D vwCl ([(za, (b13_0 0 z1 (nI z2) (nI z3) 1 (-1) z6 z7 z8 z9 (nI z10) z11 z12 z13 z14 z15 (nI z16) z17 z18 z19))] ++ va_pl L M) H_219 := hP
    have hD : va_D A ([(za, (b13_0 0 z1 (nI z2) (nI z3) 1 (-1) z6 z7 z8 z9 (nI z10) z11 z12 z13 z14 z15 (nI z16) z17 z18 z19))] ++ va_pl L M) := hD
    have hq := Eq.symm hp_222
    subst hq
    have hno : ¬ okMe z2 SX k1 k2 k3 := fun q9 => by unfold okMe okH at q9; first | omega | (obtain ⟨⟨_, _⟩, _, _, _, _, _, _⟩ := q9; first | omega | contradiction)
    rw [hQ]
    exact W.iret (v := (-1)) hx hb hr (fun t ht hW9 => ⟨⟨(-1), M, rfl, ⟨hW, hF, hG, ⟨hGI, (by unfold sxMe syMe; rw [if_neg hno, if_neg hno]; exact hZS)⟩, (by unfold anMe; rw [if_neg hno])⟩, ⟨1, by rw [ht]; exact hP, hD⟩⟩, hS.F ht⟩) hS.2.2 dX13_mend_18
