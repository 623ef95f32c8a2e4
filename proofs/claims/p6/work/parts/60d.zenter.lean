set_option maxHeartbeats 4000000 in
set_option maxRecDepth 100000 in
theorem f_isSum (l : Launch) (D : va_G) (cy : Nat → ClassId) (K : Kp) (L : List Nat) (M : Hp) (sz : Nat) (k1 : Int32) (hW : WOM cy K L M)  : Met l yX13_isSum (wsM yX13_isSum cX13_isSum 1 (some .boolean)) ({ frames := 0, cells := 0, slots := 0, locals := 0 }) (va_Pc [.int k1] (PG D cy [] L M sz)) (va_Qi (fun (r : Int32) (_ : Unit) => (r = 1 ∧ (1 ≤ k1.toInt ∧ k1.toInt ≤ 1000000000)) ∨ (r = 0 ∧ ¬ (1 ≤ k1.toInt ∧ k1.toInt ≤ 1000000000))) (fun _ t => PQ D [] L M (va_A ([] ++ va_pl L M) sz) t) (va_A ([] ++ va_pl L M) sz)) 0 0 (va_A ([] ++ va_pl L M) sz) := by
  refine Met.ofW (cc := cX13_isSum) (maxL := 1) (ret := (some .boolean)) (by decide) rfl ?_
  intro p e s m args below meth c s₁ B hml hv
  obtain ⟨rfl, hsz, hP, hK, hD0, hN⟩ := hv
  have hx := B.exec
  have hb := B.bytes
  have hr := B.returns
  have hts := atoms_spec (ws := (wsM yX13_isSum cX13_isSum 1 (some .boolean))) B.pre
  have hg : ∀ w ∈ lw_good, w.before _ s = true := fun w h => hts w (List.mem_cons_of_mem _ h)
  have hown : s.vm.findClass RX13 = some m.cls := findClass_of_methodNamed B.named
  have hlocks := B.notSynchronized
  subst hsz
  have hD := hD0.self (sz := s.heap.size)
  generalize hAe : va_A ([] ++ va_pl L M) s.heap.size = A at hD ⊢
  have hA : ∀ q : Nat, s.heap.size ≤ q → A q := fun q h => by rw [← hAe]; exact Or.inr h
  have hS : va_S A s.heap s.heap [] := va_S.rf
  have hl := lv_entry ([.int k1]) (n := 1) (Nat.le_of_ble_eq_true rfl)
  rw [lg_entry_eq]
  generalize (lg_sl ([.int k1]) ++ List.replicate (1 - (lg_sl ([.int k1])).length) Slot.unset).toArray = ls at hl ⊢
  refine W.nameQ (fun Q hQ => ?_)
  refine W.nameR (fun R hR => ?_)
  have hRf : 0 ≤ R.frames := by rw [hR]; exact Nat.le_of_ble_eq_true rfl
  have hRl : 0 ≤ R.locals := by rw [hR]; exact Nat.le_of_ble_eq_true rfl
  have hRc : 0 ≤ R.cells := by rw [hR]; exact Nat.le_of_ble_eq_true rfl
  have hRs : 0 ≤ R.slots := by rw [hR]; exact Nat.le_of_ble_eq_true rfl
  have hl : lv_has ls 1 [(0, .int k1)] := hl
  refine lv_iload_n hx hb dX13_isSum_0 rfl (lv_at hl 0 rfl) ?_
  refine lv_if_le (tgt := 14) hx hb dX13_isSum_1 (by decide) (fun c_1 => ?_) (fun c_1 => ?_)
  · have hz := rfl (a := 0)
    refine lv_iconst (v := 0) hx hb dX13_isSum_14 (by decide) ?_
    have hI_2 : (k1 : Int32).toInt ≤ (0 : Int) := ileI rfl rfl c_1
    rw [hQ]
    exact W.zret (v := 0) hx hb hr rfl (fun t ht hW9 => ⟨⟨0, (), rfl, (Or.inr ⟨rfl, by omega⟩), ⟨by rw [ht]; exact hP, hD⟩⟩, hS.F ht⟩) hS.2.2 dX13_isSum_15
  · have hz := rfl (a := 0)
    have n_3 : ¬ k1 < 0 := gtN (c := 0) (by omega) (Int32.not_le.mp c_1)
    refine lv_iload_n hx hb dX13_isSum_4 rfl (lv_at hl 0 rfl) ?_
    refine lv_ldc (v := 1000000000) hx hb hown (hg _ wd_712) dX13_isSum_5 ?_
    refine lv_icmp_gt (tgt := 14) hx hb dX13_isSum_7 (by decide) (fun c_4 => ?_) (fun c_4 => ?_)
    · have hz := rfl (a := 0)
      have n_5 : ¬ k1 < 0 := gtN (c := 1000000000) (by omega) c_4
      refine lv_iconst (v := 0) hx hb dX13_isSum_14 (by decide) ?_
      have hI_6 : (0 : Int) < (k1 : Int32).toInt := inleI rfl rfl c_1
      have hI_7 : (0 : Int) ≤ (k1 : Int32).toInt := inltI rfl rfl n_3
      have hI_8 : (1000000000 : Int) < (k1 : Int32).toInt := iltI rfl rfl c_4
      have hI_9 : (0 : Int) ≤ (k1 : Int32).toInt := inltI rfl rfl n_5
      rw [hQ]
      exact W.zret (v := 0) hx hb hr rfl (fun t ht hW9 => ⟨⟨0, (), rfl, (Or.inr ⟨rfl, by omega⟩), ⟨by rw [ht]; exact hP, hD⟩⟩, hS.F ht⟩) hS.2.2 dX13_isSum_15
    · have hz := rfl (a := 0)
      refine lv_iconst (v := 1) hx hb dX13_isSum_10 (by decide) ?_
      refine lv_goto (tgt := 15) hx hb dX13_isSum_11 (by decide) ?_
      have hI_10 : (0 : Int) < (k1 : Int32).toInt := inleI rfl rfl c_1
      have hI_11 : (0 : Int) ≤ (k1 : Int32).toInt := inltI rfl rfl n_3
      have hI_12 : (k1 : Int32).toInt ≤ (1000000000 : Int) := inltI rfl rfl c_4
      rw [hQ]
      exact W.zret (v := 1) hx hb hr rfl (fun t ht hW9 => ⟨⟨1, (), rfl, (Or.inl ⟨rfl, by omega⟩), ⟨by rw [ht]; exact hP, hD⟩⟩, hS.F ht⟩) hS.2.2 dX13_isSum_15
set_option maxHeartbeats 4000000 in
set_option maxRecDepth 100000 in
theorem z_enters (l : Launch) (D : va_G) (cy : Nat → ClassId) (K : Kp) (L : List Nat) (M : Hp) (sz : Nat) (za : Nat) (z0 : Int32) (z1 : Nat) (z2 : Nat) (z3 : Nat) (z4 : Int32) (z5 : Int32) (z6 : Nat) (z7 : Nat) (z8 : Nat) (z9 : Nat) (z10 : Nat) (z11 : Nat) (z12 : Nat) (z13 : Nat) (z14 : Nat) (z15 : Nat) (z16 : Nat) (z17 : Nat) (z18 : Int32) (z19 : Nat) (k1 : Int32) (k2 : Int32) (k3 : Int32) (k4 : Int32) (SX : Nat → Nat → Int) (SY : Nat → Nat → Nat → Int32) (hW : WOM cy K L M) (i1 : isk K L z1 23 8) (b2 : z2 ≤ 8) (b3 : z3 ≤ 40) (i6 : isk K L z6 47 40) (i7 : isk K L z7 48 40) (i8 : isk K L z8 49 8) (i9 : isk K L z9 50 8) (b10 : z10 ≤ 8) (i11 : isk K L z11 32 24) (i12 : isk K L z12 14 24) (i13 : isk K L z13 97 24) (i14 : isk K L z14 98 24) (i15 : isk K L z15 99 24) (b16 : z16 ≤ 24) (i17 : isk K L z17 14 24) (i19 : isk K L z19 15 25) (hGI : GI K L z1 z2 M) (hZS : ZSx z1 z2 SX SY M) : Met l yX13_enters (wsM yX13_enters cX13_enters 7 (some .int)) ({ frames := 1, cells := 0, slots := 0, locals := 22 }) (va_Pc [.ref za, .int k1, .int k2, .int k3, .int k4] (PG D cy [(za, (b13_0 z0 z1 (nI z2) (nI z3) z4 z5 z6 z7 z8 z9 (nI z10) z11 z12 z13 z14 z15 (nI z16) z17 z18 z19))] L M sz)) (va_Qi (fun (r : Int32) (M9 : Hp) => WOM cy K L M9 ∧ fr K L [12, 15, 35, 36, 84] M M9 ∧ fG K L [16] M M9 ∧ (GI K L z1 z2 M9 ∧ ∃ (n9 : Int) (l9 : Nat → Int32), (okEn z2 SX SY k1 k2 k3 k4 → REMF (SX k1.toNatClampNeg 16) (SY k1.toNatClampNeg 43) k2 n9 l9) ∧ ZSx z1 z2 (sxEn z2 SX SY k1 k2 k3 k4 n9) (syEn z2 SX SY k1 k2 k3 k4 l9) M9) ∧ ((r = anEn z2 SX SY k1 k2 k3 k4))) (fun M9 t => ∃ (w4 : Int32), PQ D [(za, (b13_0 0 z1 (nI z2) (nI z3) w4 (-1) z6 z7 z8 z9 (nI z10) z11 z12 z13 z14 z15 (nI z16) z17 z18 z19))] L M9 (va_A ([(za, (b13_0 z0 z1 (nI z2) (nI z3) z4 z5 z6 z7 z8 z9 (nI z10) z11 z12 z13 z14 z15 (nI z16) z17 z18 z19))] ++ va_pl L M) sz) t) (va_A ([(za, (b13_0 z0 z1 (nI z2) (nI z3) z4 z5 z6 z7 z8 z9 (nI z10) z11 z12 z13 z14 z15 (nI z16) z17 z18 z19))] ++ va_pl L M) sz)) 0 0 (va_A ([(za, (b13_0 z0 z1 (nI z2) (nI z3) z4 z5 z6 z7 z8 z9 (nI z10) z11 z12 z13 z14 z15 (nI z16) z17 z18 z19))] ++ va_pl L M) sz) := by
  refine Met.ofW (cc := cX13_enters) (maxL := 7) (ret := (some .int)) (by decide) rfl ?_
  intro p e s m args below meth c s₁ B hml hv
  obtain ⟨rfl, hsz, hP, hK, hD0, hN⟩ := hv
  have hx := B.exec
  have hb := B.bytes
  have hr := B.returns
  have hts := atoms_spec (ws := (wsM yX13_enters cX13_enters 7 (some .int))) B.pre
  have hg : ∀ w ∈ lw_good, w.before _ s = true := fun w h => hts w (List.mem_cons_of_mem _ h)
  have hown : s.vm.findClass RX13 = some m.cls := findClass_of_methodNamed B.named
  have hlocks := B.notSynchronized
  subst hsz
  have hD := hD0.self (sz := s.heap.size)
  generalize hAe : va_A ([(za, (b13_0 z0 z1 (nI z2) (nI z3) z4 z5 z6 z7 z8 z9 (nI z10) z11 z12 z13 z14 z15 (nI z16) z17 z18 z19))] ++ va_pl L M) s.heap.size = A at hD ⊢
  have hA : ∀ q : Nat, s.heap.size ≤ q → A q := fun q h => by rw [← hAe]; exact Or.inr h
  have hS : va_S A s.heap s.heap [] := va_S.rf
  have hl := lv_entry ([.ref za, .int k1, .int k2, .int k3, .int k4]) (n := 7) (Nat.le_of_ble_eq_true rfl)
  rw [lg_entry_eq]
  generalize (lg_sl ([.ref za, .int k1, .int k2, .int k3, .int k4]) ++ List.replicate (7 - (lg_sl ([.ref za, .int k1, .int k2, .int k3, .int k4])).length) Slot.unset).toArray = ls at hl ⊢
  refine W.nameQ (fun Q hQ => ?_)
  refine W.nameR (fun R hR => ?_)
  have hRf : 1 ≤ R.frames := by rw [hR]; exact Nat.le_of_ble_eq_true rfl
  have hRl : 22 ≤ R.locals := by rw [hR]; exact Nat.le_of_ble_eq_true rfl
  have hRc : 0 ≤ R.cells := by rw [hR]; exact Nat.le_of_ble_eq_true rfl
  have hRs : 0 ≤ R.slots := by rw [hR]; exact Nat.le_of_ble_eq_true rfl
  have hF : fr K L [12, 15, 35, 36, 84] M M := fr.rf
  have hG : fG K L [16] M M := fG.rf
  have hl : lv_has ls 7 [(0, .ref za), (1, .int k1), (2, .int k2), (3, .int k3), (4, .int k4)] := hl
  have hW0 := hW
  refine lv_aload_n hx hb dX13_enters_0 rfl (lv_at hl 0 rfl) ?_
  refine lv_iconst (v := 0) hx hb dX13_enters_1 (by decide) ?_
  refine va_put (D := D) (ci := 13) (v := .int 0) (ty := .int) (C := RX13) (T := TX13) (N := 20) hx hb hg inG13 tyX13 tyX13_ok nmX13 hown hK hP hD hS 0 rfl rfl 0 (by decide) (hg _ wd_720) (fun _ h9 => h9) rfl (by decide +kernel) rfl rfl (Nat.le_of_ble_eq_true rfl) dX13_enters_2 (fun H_1 locs hP hD hS => ?_)
  have hP : va_P D vwCl ([(za, (b13_0 0 z1 (nI z2) (nI z3) z4 z5 z6 z7 z8 z9 (nI z10) z11 z12 z13 z14 z15 (nI z16) z17 z18 z19))] ++ va_pl L M) H_1 := hP
  have hD : va_D A ([(za, (b13_0 0 z1 (nI z2) (nI z3) z4 z5 z6 z7 z8 z9 (nI z10) z11 z12 z13 z14 z15 (nI z16) z17 z18 z19))] ++ va_pl L M) := hD
  refine lv_aload_n hx hb dX13_enters_5 rfl (lv_at hl 0 rfl) ?_
  refine lv_iload_n hx hb dX13_enters_6 rfl (lv_at hl 1 rfl) ?_
  have hPc : va_P D vwCl ([(za, (b13_0 0 z1 (nI z2) (nI z3) z4 z5 z6 z7 z8 z9 (nI z10) z11 z12 z13 z14 z15 (nI z16) z17 z18 z19))] ++ va_pl L M) H_1 := hP
  have hDc : va_D A ([(za, (b13_0 0 z1 (nI z2) (nI z3) z4 z5 z6 z7 z8 z9 (nI z10) z11 z12 z13 z14 z15 (nI z16) z17 z18 z19))] ++ va_pl L M) := hD
  have hFc : ∀ q, va_A ([(za, (b13_0 0 z1 (nI z2) (nI z3) z4 z5 z6 z7 z8 z9 (nI z10) z11 z12 z13 z14 z15 (nI z16) z17 z18 z19))] ++ va_pl L M) H_1.size q → A q := pg_free hDc hS hA
  refine va_calli (va_runV (As := [.int k1]) (rest := []) ⟨hx, hb, hml, hown, hg⟩ (f_isHouse l D cy K L M H_1.size za 0 z1 z2 z3 z4 z5 z6 z7 z8 z9 z10 z11 z12 z13 z14 z15 z16 z17 z18 z19 k1  hW i1 b2 b3 i6 i7 i8 i9 b10 i11 i12 i13 i14 i15 b16 i17 i19) (cwV 1 hg (gV wd_714 wd_715 wd_716 wd_717 wd_718) rfl rfl rfl (by decide +kernel) ⟨(Nat.le_trans (Nat.le_of_ble_eq_true rfl) hRf), (Nat.le_trans (Nat.le_of_ble_eq_true rfl) hRl)⟩) ⟨PG.blind, va_recv hK hP (ci := 13) (q0 := 0) rfl rfl, fun U hU hW => ⟨rfl, PG.at hPc hK hDc hN hU hW⟩⟩ rfl rfl hl.1 rfl (lv_room (Nat.le_of_ble_eq_true rfl)) dX13_enters_7 ⟨(Nat.le_trans (Nat.le_of_ble_eq_true rfl) hRc), (Nat.le_trans (Nat.le_of_ble_eq_true rfl) hRs)⟩) hS (fun q _ h => hFc q h) hFc (fun r_3 M_4 t H_2 locs ht hvm hw hB hz1 hk1 hS => ?_)
  have hp_5 := hw
  obtain ⟨hP1, hD1⟩ := hB
  rw [ht] at hP1
  have hP : va_P D vwCl ([(za, (b13_0 0 z1 (nI z2) (nI z3) z4 z5 z6 z7 z8 z9 (nI z10) z11 z12 z13 z14 z15 (nI z16) z17 z18 z19))] ++ va_pl L M) H_2 := hP1
  have hD : va_D A ([(za, (b13_0 0 z1 (nI z2) (nI z3) z4 z5 z6 z7 z8 z9 (nI z10) z11 z12 z13 z14 z15 (nI z16) z17 z18 z19))] ++ va_pl L M) := hD1.mono hFc
  rcases hp_5 with ⟨rfl, c_6, c_7, c_8⟩ | ⟨rfl, c_9⟩
  · have hz := rfl (a := 0)
    refine lv_if_ne (tgt := 19) hx hb dX13_enters_10 (by decide) (fun _ => ?_) (fun c_10 => absurd c_10 (by decide))
    refine lv_iload_n hx hb dX13_enters_19 rfl (lv_at hl 3 rfl) ?_
    have hPc : va_P D vwCl ([] ++ va_pl L M) H_2 := hP.part (cx := []) [] rfl
    have hDc : va_D A ([] ++ va_pl L M) := hD.part (cx := []) [] (by decide) rfl
    have hFc : ∀ q, va_A ([] ++ va_pl L M) H_2.size q → A q := pg_free hDc hS hA
    refine va_calli (va_runS (As := [.int k3]) (rest := []) ⟨hx, hb, hml, hown, hg⟩ (f_isSum l D cy K L M H_2.size k3  hW ) (va_cwS 1 hg (gS wd_774 wd_775 wd_717 wd_776) rfl rfl rfl (by decide +kernel) ⟨(Nat.le_trans (Nat.le_of_ble_eq_true rfl) hRf), (Nat.le_trans (Nat.le_of_ble_eq_true rfl) hRl)⟩) ⟨PG.blind, fun U hU hW => ⟨rfl, PG.at hPc hK hDc hN hU hW⟩⟩ rfl rfl hl.1 rfl (lv_room (Nat.le_of_ble_eq_true rfl)) dX13_enters_20 ⟨(Nat.le_trans (Nat.le_of_ble_eq_true rfl) hRc), (Nat.le_trans (Nat.le_of_ble_eq_true rfl) hRs)⟩) hS (fun q _ h => hFc q h) hFc (fun r_12 M_13 t H_11 locs ht hvm hw hB hz1 hk1 hS => ?_)
    have hp_14 := hw
    obtain ⟨hP1, hD1⟩ := hB
    rw [ht] at hP1
    obtain ⟨hP, hD⟩ := va_joinP (X := [(za, (b13_0 0 z1 (nI z2) (nI z3) z4 z5 z6 z7 z8 z9 (nI z10) z11 z12 z13 z14 z15 (nI z16) z17 z18 z19))]) (cx := []) (wr := [(za, (b13_0 0 z1 (nI z2) (nI z3) z4 z5 z6 z7 z8 z9 (nI z10) z11 z12 z13 z14 z15 (nI z16) z17 z18 z19))]) (rx := []) (pl := va_pl L M) (pl1 := va_pl L M) hP hD [] [0] rfl rfl (by decide) (by decide) hk1 hFc hP1 hD1
    have hP : va_P D vwCl ([(za, (b13_0 0 z1 (nI z2) (nI z3) z4 z5 z6 z7 z8 z9 (nI z10) z11 z12 z13 z14 z15 (nI z16) z17 z18 z19))] ++ va_pl L M) H_11 := hP
    have hD : va_D A ([(za, (b13_0 0 z1 (nI z2) (nI z3) z4 z5 z6 z7 z8 z9 (nI z10) z11 z12 z13 z14 z15 (nI z16) z17 z18 z19))] ++ va_pl L M) := hD
    rcases hp_14 with ⟨rfl, c_15⟩ | ⟨rfl, c_16⟩
    · have hz := rfl (a := 0)
      refine lv_if_ne (tgt := 32) hx hb dX13_enters_23 (by decide) (fun _ => ?_) (fun c_17 => absurd c_17 (by decide))
      refine lv_aload_n hx hb dX13_enters_32 rfl (lv_at hl 0 rfl) ?_
      refine va_get (D := D) (ci := 13) (v := .ref z1) (C := RX13) (T := TX13) (N := 20) hx hb hg inG13 hown hK hP 0 rfl rfl 1 (by decide) (hg _ wd_739) (fun _ h9 => h9) rfl dX13_enters_33 ?_
      refine lv_iload_n hx hb dX13_enters_36 rfl (lv_at hl 1 rfl) ?_
      obtain ⟨f18, hM18, hf18⟩ := hW.open_23 i1
      have hi_19 : vp_in k1 8 := (inbW (a := z2) (by omega) (inb k1 z2 (by omega) c_7 c_8))
      refine pg_aldq hx hb hK hP i1.1 9 hM18 rfl hi_19 dX13_enters_37 ?_
      obtain ⟨b20, eb_21, hb_22⟩ := hf18 _ (vp_lt hi_19)
      rw [eb_21]
      have hact : ACT z1 z2 b20 M := ⟨(k1 : Int32).toNatClampNeg, vp_lt (inb k1 z2 (by omega) c_7 c_8), by rw [show RFc (M z1) = f18 from by rw [hM18]; rfl]; exact eb_21⟩
      have hAT := GI.at hGI hact
      have hV : VW K L M M b20 (fx M b20) (ax M b20) := VW.rf b20 hGI.2.2.2
      have hb9 : RFc (M z1) (k1 : Int32).toNatClampNeg = some b20 := by rw [show RFc (M z1) = f18 from by rw [hM18]; rfl]; exact eb_21
      have hkn : (k1 : Int32).toNatClampNeg < z2 := vp_lt (inb k1 z2 (by omega) c_7 c_8)
      have hZk := hZS _ b20 hkn hb9
      have hz0 : fx M b20 0 = SX (k1 : Int32).toNatClampNeg 0 := congrFun hZk.1 0
      have hz1 : fx M b20 1 = SX (k1 : Int32).toNatClampNeg 1 := congrFun hZk.1 1
      have hz10 : fx M b20 10 = SX (k1 : Int32).toNatClampNeg 10 := congrFun hZk.1 10
      have hz11 : fx M b20 11 = SX (k1 : Int32).toNatClampNeg 11 := congrFun hZk.1 11
      have hz12 : fx M b20 12 = SX (k1 : Int32).toNatClampNeg 12 := congrFun hZk.1 12
      have hz13 : fx M b20 13 = SX (k1 : Int32).toNatClampNeg 13 := congrFun hZk.1 13
      have hz14 : fx M b20 14 = SX (k1 : Int32).toNatClampNeg 14 := congrFun hZk.1 14
      have hz15 : fx M b20 15 = SX (k1 : Int32).toNatClampNeg 15 := congrFun hZk.1 15
      have hz16 : fx M b20 16 = SX (k1 : Int32).toNatClampNeg 16 := congrFun hZk.1 16
      refine lv_astore (lv' := [(5, .ref b20), (0, .ref za), (1, .int k1), (2, .int k2), (3, .int k3), (4, .int k4)]) hx hb dX13_enters_38 hl (by decide) rfl (fun ls hl => ?_)
      refine lv_aload hx hb dX13_enters_40 (lv_at hl 0 rfl) ?_
      refine lv_iload_n hx hb dX13_enters_42 rfl (lv_at hl 3 rfl) ?_
      obtain ⟨fs23, hM23, hn23, hl23⟩ := hW.open_12 hb_22
      have hPc : va_P D vwCl ([] ++ va_pl L M) H_11 := hP.part (cx := []) [] rfl
      have hDc : va_D A ([] ++ va_pl L M) := hD.part (cx := []) [] (by decide) rfl
      have hFc : ∀ q, va_A ([] ++ va_pl L M) H_11.size q → A q := pg_free hDc hS hA
      refine va_calli (va_runV (As := [.int k2]) (rest := []) ⟨hx, hb, hml, hown, hg⟩ (f_isFree l D cy K L M H_11.size b20 k2  hW hb_22) (cwV 1 hg (gV wd_807 wd_808 wd_809 wd_737 wd_810) rfl rfl rfl (by decide +kernel) ⟨(Nat.le_trans (Nat.le_of_ble_eq_true rfl) hRf), (Nat.le_trans (Nat.le_of_ble_eq_true rfl) hRl)⟩) ⟨PG.blind, pg_recv hK hP hb_22.1 hM23 rfl, fun U hU hW => ⟨rfl, PG.at hPc hK hDc hN hU hW⟩⟩ rfl rfl hl.1 rfl (lv_room (Nat.le_of_ble_eq_true rfl)) dX13_enters_43 ⟨(Nat.le_trans (Nat.le_of_ble_eq_true rfl) hRc), (Nat.le_trans (Nat.le_of_ble_eq_true rfl) hRs)⟩) hS (fun q _ h => hFc q h) hFc (fun r_25 M_26 t H_24 locs ht hvm hw hB hz1 hk1 hS => ?_)
      have hp_27 := hw
      obtain ⟨hP1, hD1⟩ := hB
      rw [ht] at hP1
      obtain ⟨hP, hD⟩ := va_joinP (X := [(za, (b13_0 0 z1 (nI z2) (nI z3) z4 z5 z6 z7 z8 z9 (nI z10) z11 z12 z13 z14 z15 (nI z16) z17 z18 z19))]) (cx := []) (wr := [(za, (b13_0 0 z1 (nI z2) (nI z3) z4 z5 z6 z7 z8 z9 (nI z10) z11 z12 z13 z14 z15 (nI z16) z17 z18 z19))]) (rx := []) (pl := va_pl L M) (pl1 := va_pl L M) hP hD [] [0] rfl rfl (by decide) (by decide) hk1 hFc hP1 hD1
      have hP : va_P D vwCl ([(za, (b13_0 0 z1 (nI z2) (nI z3) z4 z5 z6 z7 z8 z9 (nI z10) z11 z12 z13 z14 z15 (nI z16) z17 z18 z19))] ++ va_pl L M) H_24 := hP
      have hD : va_D A ([(za, (b13_0 0 z1 (nI z2) (nI z3) z4 z5 z6 z7 z8 z9 (nI z10) z11 z12 z13 z14 z15 (nI z16) z17 z18 z19))] ++ va_pl L M) := hD
      rcases hp_27 with ⟨rfl, c_28, c_29, c_30⟩ | ⟨rfl, c_31⟩
      · have hz := rfl (a := 0)
        refine lv_if_ne (tgt := 55) hx hb dX13_enters_46 (by decide) (fun _ => ?_) (fun c_32 => absurd c_32 (by decide))
        obtain ⟨j_33, hj_34, rfl⟩ := i32nat 1000 (by decide) c_29 c_30
        refine lv_aload hx hb dX13_enters_55 (lv_at hl 0 rfl) ?_
        obtain ⟨v35, hv35, hc35⟩ : ∃ v : Nat, fs23[2]? = some (.ref v : Value) ∧ isk K L v 37 1000 := hl23 2 (by decide)
        refine pg_getN (D := D) (ci := 12) (v := .ref v35) (C := RX12) (T := TX12) (N := 51) hx hb hg inG12 hown hK hP hb_22.1 hM23 rfl 2 (by decide) (hN.use (Cond.fieldLinkNest RX13 83 RX12 "places" "[I" RX13) 11 rfl rfl) (fun _ h9 => h9) hv35 dX13_enters_57 ?_
        refine lv_iload_n hx hb dX13_enters_60 rfl (lv_at hl 3 rfl) ?_
        obtain ⟨f36, hM36, hf36⟩ := hW.open_37 hc35
        have hi_37 : vp_in (nI j_33) 1000 := (inbN j_33 1000 (by omega) (by omega))
        refine pg_iald hx hb hK hP hc35.1 0 hM36 rfl hi_37 dX13_enters_61 ?_
        have hp_38 := hf36 _ (vp_lt hi_37)
        rcases hp_38 with ec_41 | ⟨c_39, hc_40, ec_41⟩
        · rw [ec_41]
          have hp2e : SY (k1 : Int32).toNatClampNeg 2 ((nI j_33) : Int32).toNatClampNeg = (-1) := by rw [← hZk.2, ax_of hM23 (by decide) hv35 hM36]; exact ec_41
          have hp2 : (SY (k1 : Int32).toNatClampNeg 2 ((nI j_33) : Int32).toNatClampNeg).toInt = (-1) := by rw [hp2e]; exact rfl
          refine lv_iconst (v := (-1)) hx hb dX13_enters_62 (by decide) ?_
          refine lv_icmp_eq (tgt := 83) hx hb dX13_enters_63 (by decide) (fun _ => ?_) (fun c_42 => absurd c_42 (by decide))
          refine lv_aload_n hx hb dX13_enters_83 rfl (lv_at hl 1 rfl) ?_
          refine lv_bipush (v := 10) hx hb dX13_enters_84 (by decide) ?_
          have hPc := hP.sub (ws' := [(za, (b13_0 0 z1 (nI z2) (nI z3) z4 z5 z6 z7 z8 z9 (nI z10) z11 z12 z13 z14 z15 (nI z16) z17 z18 z19))]) [0] rfl
          have hDc := hD.sub (ws' := [(za, (b13_0 0 z1 (nI z2) (nI z3) z4 z5 z6 z7 z8 z9 (nI z10) z11 z12 z13 z14 z15 (nI z16) z17 z18 z19))]) [0] (by decide) rfl
          have hKc := hK.sub (tys' := []) [] rfl
          have hFc := va_free (wc := [(za, (b13_0 0 z1 (nI z2) (nI z3) z4 z5 z6 z7 z8 z9 (nI z10) z11 z12 z13 z14 z15 (nI z16) z17 z18 z19))]) hD hS hA [0] rfl
          refine va_calli (va_runV (As := [.int 10]) (rest := []) ⟨hx, hb, hml, hown, hg⟩ (m_refused l D H_24.size za 0 z1 (nI z2) (nI z3) z4 z5 z6 z7 z8 z9 (nI z10) z11 z12 z13 z14 z15 (nI z16) z17 z18 z19 10) (cwV 1 hg (gV wd_725 wd_726 wd_727 wd_717 wd_728) rfl rfl rfl (by decide +kernel) ⟨(Nat.le_trans (Nat.le_of_ble_eq_true rfl) hRf), (Nat.le_trans (Nat.le_of_ble_eq_true rfl) hRl)⟩) ⟨Pr.blind, va_recv hK hP (ci := 13) (q0 := 0) rfl rfl, fun U hU hW => ⟨rfl, Pr.at hPc hKc hDc hN hU hW⟩⟩ rfl rfl hl.1 rfl (lv_room (Nat.le_of_ble_eq_true rfl)) dX13_enters_86 ⟨(Nat.le_trans (Nat.le_of_ble_eq_true rfl) hRc), (Nat.le_trans (Nat.le_of_ble_eq_true rfl) hRs)⟩) hS (fun q _ h => hFc q h) hFc (fun r_44 M_45 t H_43 locs ht hvm hw hB hz1 hk1 hS => ?_)
          have hp_46 := hw
          obtain ⟨hP1, hK1, hD1⟩ := hB
          rw [ht] at hP1
          obtain ⟨hP, hD⟩ := va_joinQ (X := [(za, (b13_0 0 z1 (nI z2) (nI z3) z4 z5 z6 z7 z8 z9 (nI z10) z11 z12 z13 z14 z15 (nI z16) z17 z18 z19))]) (cx := [(za, (b13_0 0 z1 (nI z2) (nI z3) z4 z5 z6 z7 z8 z9 (nI z10) z11 z12 z13 z14 z15 (nI z16) z17 z18 z19))]) (wr := []) (w1 := [(za, (b13_0 0 z1 (nI z2) (nI z3) 10 (-1) z6 z7 z8 z9 (nI z10) z11 z12 z13 z14 z15 (nI z16) z17 z18 z19))]) (pl := va_pl L M) hP hD [0] [] rfl rfl (by decide) (by decide) hk1 hFc hP1 hD1
          have hP : va_P D vwCl ([(za, (b13_0 0 z1 (nI z2) (nI z3) 10 (-1) z6 z7 z8 z9 (nI z10) z11 z12 z13 z14 z15 (nI z16) z17 z18 z19))] ++ va_pl L M) H_43 := hP
          have hD : va_D A ([(za, (b13_0 0 z1 (nI z2) (nI z3) 10 (-1) z6 z7 z8 z9 (nI z10) z11 z12 z13 z14 z15 (nI z16) z17 z18 z19))] ++ va_pl L M) := hD
          have hq := Eq.symm hp_46
          subst hq
          have hI_47 : (0 : Int) ≤ (k1 : Int32).toInt := inltI rfl rfl c_7
          have hI_48 : (k1 : Int32).toInt < ((z2 : Nat) : Int) := inleI (nI_toInt (by omega)) rfl c_8
          have hI_49 : (0 : Int) ≤ ((j_33 : Nat) : Int) := inltI (nI_toInt (by omega)) rfl c_29
          have hI_50 : ((j_33 : Nat) : Int) < (1000 : Int) := inleI rfl (nI_toInt (by omega)) c_30
          have hn92 : ((nI j_33) : Int32).toInt = ((j_33 : Nat) : Int) := nI_toInt (by omega)
          have hno : ¬ okEn z2 SX SY k1 (nI j_33) k3 k4 := fun q9 => by unfold okEn okH at q9; first | omega | (obtain ⟨⟨_, _⟩, _, _, _, _, _, _, _⟩ := q9; first | omega | contradiction)
          rw [hQ]
          exact W.iret (v := (-1)) hx hb hr (fun t ht hW9 => ⟨⟨(-1), M, rfl, ⟨hW, hF, hG, ⟨hGI, ⟨0, fun _ => 0, fun w9 => absurd w9 hno, (by unfold sxEn syEn; rw [if_neg hno, if_neg hno]; exact hZS)⟩⟩, (by unfold anEn; rw [if_neg hno])⟩, ⟨10, by rw [ht]; exact hP, hD⟩⟩, hS.F ht⟩) hS.2.2 dX13_enters_89
        · rw [ec_41]
          have hp2e : SY (k1 : Int32).toNatClampNeg 2 ((nI j_33) : Int32).toNatClampNeg = (nI c_39) := by rw [← hZk.2, ax_of hM23 (by decide) hv35 hM36]; exact ec_41
          have hp2 : (SY (k1 : Int32).toNatClampNeg 2 ((nI j_33) : Int32).toNatClampNeg).toInt = ((c_39 : Nat) : Int) := by rw [hp2e]; exact (nI_toInt (by omega))
          refine lv_iconst (v := (-1)) hx hb dX13_enters_62 (by decide) ?_
          refine lv_icmp_eq (tgt := 83) hx hb dX13_enters_63 (by decide) (fun c_51 => absurd c_51 (nI_ne_m1 (by omega))) (fun _ => ?_)
          refine lv_aload hx hb dX13_enters_66 (lv_at hl 0 rfl) ?_
          obtain ⟨v52, hv52, hc52⟩ : ∃ v : Nat, fs23[3]? = some (.ref v : Value) ∧ isk K L v 35 1000 := hl23 3 (by decide)
          refine pg_getN (D := D) (ci := 12) (v := .ref v52) (C := RX12) (T := TX12) (N := 51) hx hb hg inG12 hown hK hP hb_22.1 hM23 rfl 3 (by decide) (hN.use (Cond.fieldLinkNest RX13 157 RX12 "told" "[I" RX13) 12 rfl rfl) (fun _ h9 => h9) hv52 dX13_enters_68 ?_
          refine lv_iload_n hx hb dX13_enters_71 rfl (lv_at hl 3 rfl) ?_
          obtain ⟨f53, hM53, hf53⟩ := hW.open_35 hc52
          have hi_54 : vp_in (nI j_33) 1000 := (inbN j_33 1000 (by omega) (by omega))
          refine pg_iald hx hb hK hP hc52.1 0 hM53 rfl hi_54 dX13_enters_72 ?_
          have hp_55 := hf53 _ (vp_lt hi_54)
          obtain ⟨c_56, hc_57, ec_58⟩ := hp_55
          rw [ec_58]
          have hp3e : SY (k1 : Int32).toNatClampNeg 3 ((nI j_33) : Int32).toNatClampNeg = (nI c_56) := by rw [← hZk.2, ax_of hM23 (by decide) hv52 hM53]; exact ec_58
          have hp3 : (SY (k1 : Int32).toNatClampNeg 3 ((nI j_33) : Int32).toNatClampNeg).toInt = ((c_56 : Nat) : Int) := by rw [hp3e]; exact (nI_toInt (by omega))
          refine lv_aload hx hb dX13_enters_73 (lv_at hl 0 rfl) ?_
          refine pg_getN (D := D) (ci := 12) (v := .ref v35) (C := RX12) (T := TX12) (N := 51) hx hb hg inG12 hown hK hP hb_22.1 hM23 rfl 2 (by decide) (hN.use (Cond.fieldLinkNest RX13 83 RX12 "places" "[I" RX13) 11 rfl rfl) (fun _ h9 => h9) hv35 dX13_enters_75 ?_
          refine lv_iload_n hx hb dX13_enters_78 rfl (lv_at hl 3 rfl) ?_
          refine pg_iald hx hb hK hP hc35.1 0 hM36 rfl (inbN j_33 1000 (by omega) (by omega)) dX13_enters_79 ?_
          rw [ec_41]
          refine lv_icmp_ne (tgt := 90) hx hb dX13_enters_80 (by decide) (fun c_59 => ?_) (fun c_59 => ?_)
          · have hz := rfl (a := 0)
            have n_60 : ¬ (c_56 = c_39) := fun q => c_59 ((iEQ (a := c_56) (b := c_39) (by omega) (by omega)).mpr q)
            have hy2 : (ax M b20 2) = f36 := (congrFun hV.2.2.1 2).symm.trans (ax_of hM23 (by decide) hv35 hM36)
            have hy3 : (ax M b20 3) = f53 := (congrFun hV.2.2.1 3).symm.trans (ax_of hM23 (by decide) hv52 hM53)
            have hlt : c_56 ≤ c_39 := haLt hAT.1 hy2 hy3 (by rw [nI_cl (by omega)]; omega) ec_41 ec_58 (by omega) (by omega)
            refine lv_iload hx hb dX13_enters_90 (lv_at hl 5 rfl) ?_
            refine lv_iload_n hx hb dX13_enters_92 rfl (lv_at hl 4 rfl) ?_
            refine lv_imul hx hb dX13_enters_93 ?_
            refine lv_topi (fun f_61 ef_61 => ?_)
            refine lv_istore (lv' := [(6, .int f_61), (5, .ref b20), (0, .ref za), (1, .int k1), (2, .int (nI j_33)), (3, .int k3), (4, .int k4)]) hx hb dX13_enters_94 hl (by decide) rfl (fun ls hl => ?_)
            refine lv_aload hx hb dX13_enters_96 (lv_at hl 1 rfl) ?_
            obtain ⟨v62, hv62, hc62⟩ : ∃ v : Nat, fs23[4]? = some (.ref v : Value) ∧ isk K L v 74 1000 := hl23 4 (by decide)
            refine pg_getN (D := D) (ci := 12) (v := .ref v62) (C := RX12) (T := TX12) (N := 51) hx hb hg inG12 hown hK hP hb_22.1 hM23 rfl 4 (by decide) (hN.use (Cond.fieldLinkNest RX13 158 RX12 "sort" "[I" RX13) 13 rfl rfl) (fun _ h9 => h9) hv62 dX13_enters_98 ?_
            refine lv_iload_n hx hb dX13_enters_101 rfl (lv_at hl 4 rfl) ?_
            obtain ⟨f63, hM63⟩ := hW.open_74 hc62
            refine pg_iald hx hb hK hP hc62.1 0 hM63 rfl (inbN j_33 1000 (by omega) (by omega)) dX13_enters_102 ?_
            refine lv_topi (fun f_64 ef_64 => ?_)
            have hp4e : SY (k1 : Int32).toNatClampNeg 4 ((nI j_33) : Int32).toNatClampNeg = f_64 := by rw [← hZk.2, ax_of hM23 (by decide) hv62 hM63]; exact ef_64.symm
            have hp4 : (SY (k1 : Int32).toNatClampNeg 4 ((nI j_33) : Int32).toNatClampNeg).toInt = (f_64 : Int32).toInt := congrArg Int32.toInt hp4e
            refine lv_if_ne (tgt := 128) hx hb dX13_enters_103 (by decide) (fun c_65 => ?_) (fun c_65 => ?_)
            · have hz := rfl (a := 0)
              refine lv_aload hx hb dX13_enters_128 (lv_at hl 1 rfl) ?_
              obtain ⟨v66, hv66, hc66⟩ : ∃ v : Nat, fs23[5]? = some (.ref v : Value) ∧ isk K L v 84 6000 := hl23 5 (by decide)
              refine pg_getN (D := D) (ci := 12) (v := .ref v66) (C := RX12) (T := TX12) (N := 51) hx hb hg inG12 hown hK hP hb_22.1 hM23 rfl 5 (by decide) (hN.use (Cond.fieldLinkNest RX13 167 RX12 "entry" "[J" RX13) 14 rfl rfl) (fun _ h9 => h9) hv66 dX13_enters_130 ?_
              refine lv_bipush (v := 6) hx hb dX13_enters_133 (by decide) ?_
              refine lv_iload_n hx hb dX13_enters_135 rfl (lv_at hl 4 rfl) ?_
              refine lv_imul hx hb dX13_enters_136 ?_
              refine lv_topi (fun f_67 ef_67 => ?_)
              obtain rfl : f_67 = (nI (6 * j_33)) := ef_67.trans (nI_mul 6 j_33)
              refine lv_aload hx hb dX13_enters_137 (lv_at hl 1 rfl) ?_
              refine pg_getN (D := D) (ci := 12) (v := .ref v52) (C := RX12) (T := TX12) (N := 51) hx hb hg inG12 hown hK hP hb_22.1 hM23 rfl 3 (by decide) (hN.use (Cond.fieldLinkNest RX13 157 RX12 "told" "[I" RX13) 12 rfl rfl) (fun _ h9 => h9) hv52 dX13_enters_139 ?_
              refine lv_iload_n hx hb dX13_enters_142 rfl (lv_at hl 4 rfl) ?_
              refine pg_iald hx hb hK hP hc52.1 0 hM53 rfl (inbN j_33 1000 (by omega) (by omega)) dX13_enters_143 ?_
              rw [ec_58]
              refine lv_iadd hx hb dX13_enters_144 ?_
              refine lv_topi (fun f_68 ef_68 => ?_)
              obtain rfl : f_68 = (nI ((6 * j_33) + c_56)) := ef_68.trans (nI_add (6 * j_33) c_56)
              refine lv_iload hx hb dX13_enters_145 (lv_at hl 0 rfl) ?_
              refine lv_i2l hx hb dX13_enters_147 rfl ?_
              refine lv_topl (fun f_69 ef_69 => ?_)
              obtain ⟨f70, hM70⟩ := hW.open_84 hc66
              refine pg_last hx hb hK hP hD hS hc66.1 1 hM70 rfl (inbN ((6 * j_33) + c_56) 6000 (by omega) (by omega)) dX13_enters_148 (fun H_71 locs hP hD hS => ?_)
              obtain ⟨M_72, eM_72⟩ : ∃ M1 : Hp, M1 = va_up M v66 (.inl (cy 15, 6000, .inr (.inl (vp_updL f70 ((nI ((6 * j_33) + c_56)) : Int32).toNatClampNeg f_69)))) := ⟨_, rfl⟩
              have hV : VW K L M M_72 b20 (va_up (fx M b20) (lKey 10 ((nI ((6 * j_33) + c_56)) : Int32).toNatClampNeg) (f_69 : Int64).toInt) (ax M b20) := by rw [eM_72]; exact hV.lst (r := 10) (j := 5) hW hb_22 hM23 (by decide) rfl (by decide) hv66 hc66 hM70
              have hP : va_P D vwCl ([(za, (b13_0 0 z1 (nI z2) (nI z3) z4 z5 z6 z7 z8 z9 (nI z10) z11 z12 z13 z14 z15 (nI z16) z17 z18 z19))] ++ va_pl L M_72) H_71 := by rw [eM_72]; exact hP
              have hD : va_D A ([(za, (b13_0 0 z1 (nI z2) (nI z3) z4 z5 z6 z7 z8 z9 (nI z10) z11 z12 z13 z14 z15 (nI z16) z17 z18 z19))] ++ va_pl L M_72) := by rw [eM_72]; exact hD
              have hW : WOM cy K L M_72 := by rw [eM_72]; exact hW.up_84 hc66 ⟨_, rfl⟩
              have hF : fr K L [12, 15, 35, 36, 84] M M_72 := by rw [eM_72]; exact hF.up hc66 (by decide)
              have hG : fG K L [16] M M_72 := by rw [eM_72]; exact hG.arr hc66 (by decide)
              have hM_73 : M_72 v66 = .inl (cy 15, 6000, .inr (.inl (vp_updL f70 ((nI ((6 * j_33) + c_56)) : Int32).toNatClampNeg f_69))) := by rw [eM_72]; exact va_up_self _ _ _
              have hM_74 : M_72 z1 = .inl (cy 23, 8, .inr (.inr (.inr (.inr (f18))))) := by rw [eM_72, va_up_ne _ _ (i1.neT hc66 (by decide))]; exact hM18
              have hM_75 : M_72 b20 = .inr (12, fs23) := by rw [eM_72, va_up_ne _ _ (hb_22.neT hc66 (by decide))]; exact hM23
              have hM_76 : M_72 v35 = .inl (cy 14, 1000, .inl (f36)) := by rw [eM_72, va_up_ne _ _ (hc35.neT hc66 (by decide))]; exact hM36
              have hM_77 : M_72 v52 = .inl (cy 14, 1000, .inl (f53)) := by rw [eM_72, va_up_ne _ _ (hc52.neT hc66 (by decide))]; exact hM53
              have hM_78 : M_72 v62 = .inl (cy 14, 1000, .inl (f63)) := by rw [eM_72, va_up_ne _ _ (hc62.neT hc66 (by decide))]; exact hM63
              obtain ⟨f_79, ef_79⟩ : ∃ f : Nat → Int64, f = vp_updL f70 ((nI ((6 * j_33) + c_56)) : Int32).toNatClampNeg f_69 := ⟨_, rfl⟩
              rw [← ef_79] at hM_73
              refine lv_aload hx hb dX13_enters_149 (lv_at hl 1 rfl) ?_
              refine pg_getN (D := D) (ci := 12) (v := .ref v52) (C := RX12) (T := TX12) (N := 51) hx hb hg inG12 hown hK hP hb_22.1 hM_75 rfl 3 (by decide) (hN.use (Cond.fieldLinkNest RX13 157 RX12 "told" "[I" RX13) 12 rfl rfl) (fun _ h9 => h9) hv52 dX13_enters_151 ?_
              refine lv_iload_n hx hb dX13_enters_154 rfl (lv_at hl 4 rfl) ?_
              refine lv_dup2_11 hx hb dX13_enters_155 rfl rfl ?_
              refine pg_iald hx hb hK hP hc52.1 0 hM_77 rfl (inbN j_33 1000 (by omega) (by omega)) dX13_enters_156 ?_
              rw [ec_58]
              refine lv_iconst (v := 1) hx hb dX13_enters_157 (by decide) ?_
              refine lv_iadd hx hb dX13_enters_158 ?_
              refine lv_topi (fun f_80 ef_80 => ?_)
              obtain rfl : f_80 = (nI (c_56 + 1)) := ef_80.trans (nI_add c_56 1)
              refine pg_iast hx hb hK hP hD hS hc52.1 0 hM_77 rfl (inbN j_33 1000 (by omega) (by omega)) dX13_enters_159 (fun H_81 locs hP hD hS => ?_)
              obtain ⟨M_82, eM_82⟩ : ∃ M1 : Hp, M1 = va_up M_72 v52 (.inl (cy 14, 1000, .inl (upd f53 ((nI j_33) : Int32).toNatClampNeg (nI (c_56 + 1))))) := ⟨_, rfl⟩
              have hy3 : (ax M b20 3) = f53 := (congrFun hV.2.2.1 3).symm.trans (ax_of hM_75 (by decide) hv52 hM_77)
              have hV : VW K L M M_82 b20 (va_up (fx M b20) (lKey 10 ((nI ((6 * j_33) + c_56)) : Int32).toNatClampNeg) (f_69 : Int64).toInt) (va_up (ax M b20) 3 (upd (ax M b20 3) ((nI j_33) : Int32).toNatClampNeg (nI (c_56 + 1)))) := by rw [eM_82]; exact hV.ast (j := 3) hW hb_22 hM_75 (by decide) hv52 hc52 hM_77
              have hP : va_P D vwCl ([(za, (b13_0 0 z1 (nI z2) (nI z3) z4 z5 z6 z7 z8 z9 (nI z10) z11 z12 z13 z14 z15 (nI z16) z17 z18 z19))] ++ va_pl L M_82) H_81 := by rw [eM_82]; exact hP
              have hD : va_D A ([(za, (b13_0 0 z1 (nI z2) (nI z3) z4 z5 z6 z7 z8 z9 (nI z10) z11 z12 z13 z14 z15 (nI z16) z17 z18 z19))] ++ va_pl L M_82) := by rw [eM_82]; exact hD
              have hW : WOM cy K L M_82 := by rw [eM_82]; exact hW.up_35 hc52 ⟨_, rfl, (updP (P := fun z => ∃ c : Nat, c < 7 ∧ z = nI c) hf53 ⟨(c_56 + 1), by omega, rfl⟩)⟩
              have hF : fr K L [12, 15, 35, 36, 84] M M_82 := by rw [eM_82]; exact hF.up hc52 (by decide)
              have hG : fG K L [16] M M_82 := by rw [eM_82]; exact hG.arr hc52 (by decide)
              have hM_83 : M_82 v52 = .inl (cy 14, 1000, .inl (upd f53 ((nI j_33) : Int32).toNatClampNeg (nI (c_56 + 1)))) := by rw [eM_82]; exact va_up_self _ _ _
              have hM_84 : M_82 v66 = .inl (cy 15, 6000, .inr (.inl (f_79))) := by rw [eM_82, va_up_ne _ _ (hc66.neT hc52 (by decide))]; exact hM_73
              have hM_85 : M_82 z1 = .inl (cy 23, 8, .inr (.inr (.inr (.inr (f18))))) := by rw [eM_82, va_up_ne _ _ (i1.neT hc52 (by decide))]; exact hM_74
              have hM_86 : M_82 b20 = .inr (12, fs23) := by rw [eM_82, va_up_ne _ _ (hb_22.neT hc52 (by decide))]; exact hM_75
              have hM_87 : M_82 v35 = .inl (cy 14, 1000, .inl (f36)) := by rw [eM_82, va_up_ne _ _ (hc35.neT hc52 (by decide))]; exact hM_76
              have hM_88 : M_82 v62 = .inl (cy 14, 1000, .inl (f63)) := by rw [eM_82, va_up_ne _ _ (hc62.neT hc52 (by decide))]; exact hM_78
              have hf_90 : ∀ j, j < 1000 → ∃ c : Nat, c < 7 ∧ (upd f53 ((nI j_33) : Int32).toNatClampNeg (nI (c_56 + 1))) j = nI c := (updP (P := fun z => ∃ c : Nat, c < 7 ∧ z = nI c) hf53 ⟨(c_56 + 1), by omega, rfl⟩)
              obtain ⟨f_89, ef_89⟩ : ∃ f : Nat → Int32, f = upd f53 ((nI j_33) : Int32).toNatClampNeg (nI (c_56 + 1)) := ⟨_, rfl⟩
              rw [← ef_89] at hM_83 hf_90
              refine lv_aload hx hb dX13_enters_160 (lv_at hl 1 rfl) ?_
              refine lv_iload_n hx hb dX13_enters_162 rfl (lv_at hl 4 rfl) ?_
              have hPc : va_P D vwCl ([] ++ va_pl L M_82) H_81 := hP.part (cx := []) [] rfl
              have hDc : va_D A ([] ++ va_pl L M_82) := hD.part (cx := []) [] (by decide) rfl
              have hFc : ∀ q, va_A ([] ++ va_pl L M_82) H_81.size q → A q := pg_free hDc hS hA
              refine va_callv (va_runV (As := [.int (nI j_33)]) (rest := []) ⟨hx, hb, hml, hown, hg⟩ (r_remN l D cy K L M_82 H_81.size b20 j_33  hW hb_22 (by omega) hV.2.2.2) (cwV 1 hg (gV wd_827 wd_828 wd_829 wd_737 wd_830) rfl rfl rfl (by decide +kernel) ⟨(Nat.le_trans (Nat.le_of_ble_eq_true rfl) hRf), (Nat.le_trans (Nat.le_of_ble_eq_true rfl) hRl)⟩) ⟨PG.blind, pg_recv hK hP hb_22.1 hM_86 rfl, fun U hU hW => ⟨rfl, PG.at hPc hK hDc hN hU hW⟩⟩ rfl rfl hl.1 rfl (lv_room (Nat.le_of_ble_eq_true rfl)) dX13_enters_163 ⟨(Nat.le_trans (Nat.le_of_ble_eq_true rfl) hRc), (Nat.le_trans (Nat.le_of_ble_eq_true rfl) hRs)⟩) hS (fun q _ h => hFc q h) hFc (fun M_93 t H_91 locs ht hvm hw hB hz1 hk1 hS => ?_)
              have hWb := hW
              obtain ⟨hW, hF2, hG2, hVP, hp_94⟩ := hw
              obtain ⟨hP1, hD1⟩ := hB
              rw [ht] at hP1
              obtain ⟨hP, hD⟩ := va_joinP (X := [(za, (b13_0 0 z1 (nI z2) (nI z3) z4 z5 z6 z7 z8 z9 (nI z10) z11 z12 z13 z14 z15 (nI z16) z17 z18 z19))]) (cx := []) (wr := [(za, (b13_0 0 z1 (nI z2) (nI z3) z4 z5 z6 z7 z8 z9 (nI z10) z11 z12 z13 z14 z15 (nI z16) z17 z18 z19))]) (rx := []) (pl := va_pl L M_82) (pl1 := va_pl L M_93) hP hD [] [0] rfl rfl (by decide) (by decide) hk1 hFc hP1 hD1
              have hP : va_P D vwCl ([(za, (b13_0 0 z1 (nI z2) (nI z3) z4 z5 z6 z7 z8 z9 (nI z10) z11 z12 z13 z14 z15 (nI z16) z17 z18 z19))] ++ va_pl L M_93) H_91 := hP
              have hD : va_D A ([(za, (b13_0 0 z1 (nI z2) (nI z3) z4 z5 z6 z7 z8 z9 (nI z10) z11 z12 z13 z14 z15 (nI z16) z17 z18 z19))] ++ va_pl L M_93) := hD
              have hM_95 : M_93 v52 = .inl (cy 14, 1000, .inl (f_89)) := (hF2.at hc52 (by decide)).trans hM_83
              have hM_96 : M_93 v66 = .inl (cy 15, 6000, .inr (.inl (f_79))) := (hF2.at hc66 (by decide)).trans hM_84
              have hM_97 : M_93 z1 = .inl (cy 23, 8, .inr (.inr (.inr (.inr (f18))))) := (hF2.at i1 (by decide)).trans hM_85
              obtain ⟨fs98, hM98, hn98, hl98⟩ := hW.open_12 hb_22
              have hv_99 : fs98[2]? = some (.ref v35 : Value) := (hG2 _ hb_22 _ _ hM_86 hM98 2 (by decide)).trans hv35
              have hv_100 : fs98[3]? = some (.ref v52 : Value) := (hG2 _ hb_22 _ _ hM_86 hM98 3 (by decide)).trans hv52
              have hv_101 : fs98[4]? = some (.ref v62 : Value) := (hG2 _ hb_22 _ _ hM_86 hM98 4 (by decide)).trans hv62
              have hv_102 : fs98[5]? = some (.ref v66 : Value) := (hG2 _ hb_22 _ _ hM_86 hM98 5 (by decide)).trans hv66
              have hM_103 : M_93 v35 = .inl (cy 14, 1000, .inl (f36)) := (hF2.at hc35 (by decide)).trans hM_87
              have hM_104 : M_93 v62 = .inl (cy 14, 1000, .inl (f63)) := (hF2.at hc62 (by decide)).trans hM_88
              have hF : fr K L [12, 15, 35, 36, 84] M M_93 := hF.tr hF2 (by decide)
              have hG : fG K L [16] M M_93 := hG.tr hWb hG2 (by decide)
              obtain ⟨n_105, g_106, hRF, hV2⟩ := hVP
              rw [hV.2.1, hV.2.2.1] at hRF hV2
              have hRF : REMF (fx M b20 16) (ax M b20 43) (nI j_33) n_105 g_106 := hRF
              have hV : VW K L M M_93 b20 (va_up (va_up (fx M b20) (lKey 10 ((nI ((6 * j_33) + c_56)) : Int32).toNatClampNeg) (f_69 : Int64).toInt) 16 n_105) (va_up (va_up (ax M b20) 3 (upd (ax M b20 3) ((nI j_33) : Int32).toNatClampNeg (nI (c_56 + 1)))) 43 g_106) := hV.tr hV2
              refine lv_aload_n hx hb dX13_enters_166 rfl (lv_at hl 2 rfl) ?_
              refine lv_aload hx hb dX13_enters_167 (lv_at hl 1 rfl) ?_
              refine pg_getN (D := D) (ci := 12) (v := .ref v52) (C := RX12) (T := TX12) (N := 51) hx hb hg inG12 hown hK hP hb_22.1 hM98 rfl 3 (by decide) (hN.use (Cond.fieldLinkNest RX13 157 RX12 "told" "[I" RX13) 12 rfl rfl) (fun _ h9 => h9) hv_100 dX13_enters_169 ?_
              refine lv_iload_n hx hb dX13_enters_172 rfl (lv_at hl 4 rfl) ?_
              have hi_107 : vp_in (nI j_33) 1000 := (inbN j_33 1000 (by omega) (by omega))
              refine pg_iald hx hb hK hP hc52.1 0 hM_95 rfl hi_107 dX13_enters_173 ?_
              have hp_108 := hf_90 _ (vp_lt hi_107)
              obtain ⟨c_109, hc_110, ec_111⟩ := hp_108
              rw [ec_111]
              have hy3n : (upd (ax M b20 3) ((nI j_33) : Int32).toNatClampNeg (nI (c_56 + 1))) = f_89 := (congrFun hV.2.2.1 3).symm.trans (ax_of hM98 (by decide) hv_100 hM_95)
              have hrv : (nI c_109) = nI (c_56 + 1) := by rw [← ec_111, ← hy3n]; exact upd_self _ _ _
              have hPc := hP.sub (ws' := [(za, (b13_0 0 z1 (nI z2) (nI z3) z4 z5 z6 z7 z8 z9 (nI z10) z11 z12 z13 z14 z15 (nI z16) z17 z18 z19))]) [0] rfl
              have hDc := hD.sub (ws' := [(za, (b13_0 0 z1 (nI z2) (nI z3) z4 z5 z6 z7 z8 z9 (nI z10) z11 z12 z13 z14 z15 (nI z16) z17 z18 z19))]) [0] (by decide) rfl
              have hKc := hK.sub (tys' := []) [] rfl
              have hFc := va_free (wc := [(za, (b13_0 0 z1 (nI z2) (nI z3) z4 z5 z6 z7 z8 z9 (nI z10) z11 z12 z13 z14 z15 (nI z16) z17 z18 z19))]) hD hS hA [0] rfl
              refine va_calli (va_runV (As := [.int (nI c_109)]) (rest := []) ⟨hx, hb, hml, hown, hg⟩ (m_done l D H_91.size za 0 z1 (nI z2) (nI z3) z4 z5 z6 z7 z8 z9 (nI z10) z11 z12 z13 z14 z15 (nI z16) z17 z18 z19 (nI c_109)) (cwV 1 hg (gV wd_730 wd_731 wd_732 wd_717 wd_733) rfl rfl rfl (by decide +kernel) ⟨(Nat.le_trans (Nat.le_of_ble_eq_true rfl) hRf), (Nat.le_trans (Nat.le_of_ble_eq_true rfl) hRl)⟩) ⟨Pr.blind, va_recv hK hP (ci := 13) (q0 := 0) rfl rfl, fun U hU hW => ⟨rfl, Pr.at hPc hKc hDc hN hU hW⟩⟩ rfl rfl hl.1 rfl (lv_room (Nat.le_of_ble_eq_true rfl)) dX13_enters_174 ⟨(Nat.le_trans (Nat.le_of_ble_eq_true rfl) hRc), (Nat.le_trans (Nat.le_of_ble_eq_true rfl) hRs)⟩) hS (fun q _ h => hFc q h) hFc (fun r_113 M_114 t H_112 locs ht hvm hw hB hz1 hk1 hS => ?_)
              have hp_115 := hw
              obtain ⟨hP1, hK1, hD1⟩ := hB
              rw [ht] at hP1
              obtain ⟨hP, hD⟩ := va_joinQ (X := [(za, (b13_0 0 z1 (nI z2) (nI z3) z4 z5 z6 z7 z8 z9 (nI z10) z11 z12 z13 z14 z15 (nI z16) z17 z18 z19))]) (cx := [(za, (b13_0 0 z1 (nI z2) (nI z3) z4 z5 z6 z7 z8 z9 (nI z10) z11 z12 z13 z14 z15 (nI z16) z17 z18 z19))]) (wr := []) (w1 := [(za, (b13_0 0 z1 (nI z2) (nI z3) 0 (-1) z6 z7 z8 z9 (nI z10) z11 z12 z13 z14 z15 (nI z16) z17 z18 z19))]) (pl := va_pl L M_93) hP hD [0] [] rfl rfl (by decide) (by decide) hk1 hFc hP1 hD1
              have hP : va_P D vwCl ([(za, (b13_0 0 z1 (nI z2) (nI z3) 0 (-1) z6 z7 z8 z9 (nI z10) z11 z12 z13 z14 z15 (nI z16) z17 z18 z19))] ++ va_pl L M_93) H_112 := hP
              have hD : va_D A ([(za, (b13_0 0 z1 (nI z2) (nI z3) 0 (-1) z6 z7 z8 z9 (nI z10) z11 z12 z13 z14 z15 (nI z16) z17 z18 z19))] ++ va_pl L M_93) := hD
              have hq := Eq.symm hp_115
              subst hq
              have hI_116 : (0 : Int) ≤ (k1 : Int32).toInt := inltI rfl rfl c_7
              have hI_117 : (k1 : Int32).toInt < ((z2 : Nat) : Int) := inleI (nI_toInt (by omega)) rfl c_8
              have hI_118 : (0 : Int) ≤ ((j_33 : Nat) : Int) := inltI (nI_toInt (by omega)) rfl c_29
              have hI_119 : ((j_33 : Nat) : Int) < (1000 : Int) := inleI rfl (nI_toInt (by omega)) c_30
              have hI_120 : ((c_56 : Nat) : Int) ≠ ((c_39 : Nat) : Int) := ineI (nI_toInt (by omega)) (nI_toInt (by omega)) c_59
              have hI_121 : (f_64 : Int32).toInt ≠ (0 : Int) := ineI rfl rfl c_65
              have hn92 : ((nI j_33) : Int32).toInt = ((j_33 : Nat) : Int) := nI_toInt (by omega)
              have hfv : (k4 * k3).toInt = (f_61 : Int32).toInt := by rw [ef_61]
              have hyes : okEn z2 SX SY k1 (nI j_33) k3 k4 := by unfold okEn okH; refine ⟨⟨?_, ?_⟩, ?_, ?_, ?_, ?_, ?_, ?_, ?_⟩ <;> first | omega | assumption
              have hA9 : HA (ax M b20 2) (upd (ax M b20 3) ((nI j_33) : Int32).toNatClampNeg (nI (c_56 + 1))) := HA.set hAT.1 (Or.inr (by rw [hy2, ec_41, nI_toInt (by omega), nI_toInt (by omega)]; omega))
              have hB9 : HB n_105 (fx M b20 14) (upd (ax M b20 3) ((nI j_33) : Int32).toNatClampNeg (nI (c_56 + 1))) g_106 := HB.remD hAT.2.1 (by omega) (nI_cl (by omega)) hRF (by rw [hy3, ec_58, nI_toInt (by omega), nI_toInt (by omega)]; omega)
              have hC9 : HC (fx M b20 10) (ax M b20 22) (ax M b20 23) := hAT.2.2.1
              have hD9 : HD (fx M b20 0) (fx M b20 11) (fx M b20 15) (ax M b20 34) (ax M b20 41) := hAT.2.2.2.1
              have hE9 : HE (fx M b20 0) (fx M b20 1) (fx M b20 12) (fx M b20 13) (ax M b20 37) := hAT.2.2.2.2
              have hH8 : HI (va_up (fx M b20) 16 n_105) (va_up (va_up (ax M b20) 3 (upd (ax M b20 3) ((nI j_33) : Int32).toNatClampNeg (nI (c_56 + 1)))) 43 g_106) := ⟨hA9, hB9, hC9, hD9, hE9⟩
              have hH9 : HI (va_up (va_up (fx M b20) (lKey 10 ((nI ((6 * j_33) + c_56)) : Int32).toNatClampNeg) (f_69 : Int64).toInt) 16 n_105) (va_up (va_up (ax M b20) 3 (upd (ax M b20 3) ((nI j_33) : Int32).toNatClampNeg (nI (c_56 + 1)))) 43 g_106) := HI.lk2 hH8 (by decide) 10 ((nI ((6 * j_33) + c_56)) : Int32).toNatClampNeg _
              have hGI9 : GI K L z1 z2 M_93 := GI.fin hW0 i1 b2 hGI hact hV (hF.at i1 (by decide)) hH9
              rw [hQ]
              exact W.iret (v := (nI c_109)) hx hb hr (fun t ht hW9 => ⟨⟨(nI c_109), M_93, rfl, ⟨hW, hF, hG, ⟨hGI9, ⟨n_105, g_106, fun _ => (by rw [← hZk.1, ← hZk.2]; exact hRF), (by unfold sxEn syEn; rw [if_pos hyes, if_pos hyes, hp3e, nI_1]; exact ZSx.fin hW0 i1 b2 hZS hGI.1 hkn hb9 hV (hF.at i1 (by decide)) (by rw [hZk.1, nI_cl (t := 6 * j_33 + c_56) (by omega), nI_cl (t := j_33) (by omega), nI_cl (t := c_56) (by omega), show (f_69 : Int64).toInt = (k4 * k3).toInt from by rw [ef_69, Int32.toInt_toInt64, hfv]]) (by rw [hZk.2]))⟩⟩, (by unfold anEn; rw [if_pos hyes, hp3e, nI_1]; exact hrv)⟩, ⟨0, by rw [ht]; exact hP, hD⟩⟩, hS.F ht⟩) hS.2.2 dX13_enters_177
            · have hz := rfl (a := 0)
              refine lv_iload hx hb dX13_enters_106 (lv_at hl 0 rfl) ?_
              refine lv_sipush (v := 32767) hx hb dX13_enters_108 (by decide) ?_
              refine lv_icmp_gt (tgt := 122) hx hb dX13_enters_111 (by decide) (fun c_122 => ?_) (fun c_122 => ?_)
              · have hz := rfl (a := 0)
                refine lv_aload_n hx hb dX13_enters_122 rfl (lv_at hl 2 rfl) ?_
                refine lv_iconst (v := 2) hx hb dX13_enters_123 (by decide) ?_
                have hPc := hP.sub (ws' := [(za, (b13_0 0 z1 (nI z2) (nI z3) z4 z5 z6 z7 z8 z9 (nI z10) z11 z12 z13 z14 z15 (nI z16) z17 z18 z19))]) [0] rfl
                have hDc := hD.sub (ws' := [(za, (b13_0 0 z1 (nI z2) (nI z3) z4 z5 z6 z7 z8 z9 (nI z10) z11 z12 z13 z14 z15 (nI z16) z17 z18 z19))]) [0] (by decide) rfl
                have hKc := hK.sub (tys' := []) [] rfl
                have hFc := va_free (wc := [(za, (b13_0 0 z1 (nI z2) (nI z3) z4 z5 z6 z7 z8 z9 (nI z10) z11 z12 z13 z14 z15 (nI z16) z17 z18 z19))]) hD hS hA [0] rfl
                refine va_calli (va_runV (As := [.int 2]) (rest := []) ⟨hx, hb, hml, hown, hg⟩ (m_refused l D H_24.size za 0 z1 (nI z2) (nI z3) z4 z5 z6 z7 z8 z9 (nI z10) z11 z12 z13 z14 z15 (nI z16) z17 z18 z19 2) (cwV 1 hg (gV wd_725 wd_726 wd_727 wd_717 wd_728) rfl rfl rfl (by decide +kernel) ⟨(Nat.le_trans (Nat.le_of_ble_eq_true rfl) hRf), (Nat.le_trans (Nat.le_of_ble_eq_true rfl) hRl)⟩) ⟨Pr.blind, va_recv hK hP (ci := 13) (q0 := 0) rfl rfl, fun U hU hW => ⟨rfl, Pr.at hPc hKc hDc hN hU hW⟩⟩ rfl rfl hl.1 rfl (lv_room (Nat.le_of_ble_eq_true rfl)) dX13_enters_124 ⟨(Nat.le_trans (Nat.le_of_ble_eq_true rfl) hRc), (Nat.le_trans (Nat.le_of_ble_eq_true rfl) hRs)⟩) hS (fun q _ h => hFc q h) hFc (fun r_124 M_125 t H_123 locs ht hvm hw hB hz1 hk1 hS => ?_)
                have hp_126 := hw
                obtain ⟨hP1, hK1, hD1⟩ := hB
                rw [ht] at hP1
                obtain ⟨hP, hD⟩ := va_joinQ (X := [(za, (b13_0 0 z1 (nI z2) (nI z3) z4 z5 z6 z7 z8 z9 (nI z10) z11 z12 z13 z14 z15 (nI z16) z17 z18 z19))]) (cx := [(za, (b13_0 0 z1 (nI z2) (nI z3) z4 z5 z6 z7 z8 z9 (nI z10) z11 z12 z13 z14 z15 (nI z16) z17 z18 z19))]) (wr := []) (w1 := [(za, (b13_0 0 z1 (nI z2) (nI z3) 2 (-1) z6 z7 z8 z9 (nI z10) z11 z12 z13 z14 z15 (nI z16) z17 z18 z19))]) (pl := va_pl L M) hP hD [0] [] rfl rfl (by decide) (by decide) hk1 hFc hP1 hD1
                have hP : va_P D vwCl ([(za, (b13_0 0 z1 (nI z2) (nI z3) 2 (-1) z6 z7 z8 z9 (nI z10) z11 z12 z13 z14 z15 (nI z16) z17 z18 z19))] ++ va_pl L M) H_123 := hP
                have hD : va_D A ([(za, (b13_0 0 z1 (nI z2) (nI z3) 2 (-1) z6 z7 z8 z9 (nI z10) z11 z12 z13 z14 z15 (nI z16) z17 z18 z19))] ++ va_pl L M) := hD
                have hq := Eq.symm hp_126
                subst hq
                have hI_127 : (0 : Int) ≤ (k1 : Int32).toInt := inltI rfl rfl c_7
                have hI_128 : (k1 : Int32).toInt < ((z2 : Nat) : Int) := inleI (nI_toInt (by omega)) rfl c_8
                have hI_129 : (0 : Int) ≤ ((j_33 : Nat) : Int) := inltI (nI_toInt (by omega)) rfl c_29
                have hI_130 : ((j_33 : Nat) : Int) < (1000 : Int) := inleI rfl (nI_toInt (by omega)) c_30
                have hI_131 : ((c_56 : Nat) : Int) ≠ ((c_39 : Nat) : Int) := ineI (nI_toInt (by omega)) (nI_toInt (by omega)) c_59
                have hI_132 : (f_64 : Int32).toInt = (0 : Int) := ieqI rfl rfl c_65
                have hI_133 : (32767 : Int) < (f_61 : Int32).toInt := iltI rfl rfl c_122
                have hn92 : ((nI j_33) : Int32).toInt = ((j_33 : Nat) : Int) := nI_toInt (by omega)
                have hfv : (k4 * k3).toInt = (f_61 : Int32).toInt := by rw [ef_61]
                have hno : ¬ okEn z2 SX SY k1 (nI j_33) k3 k4 := fun q9 => by unfold okEn okH at q9; first | omega | (obtain ⟨⟨_, _⟩, _, _, _, _, _, _, _⟩ := q9; first | omega | contradiction)
                rw [hQ]
                exact W.iret (v := (-1)) hx hb hr (fun t ht hW9 => ⟨⟨(-1), M, rfl, ⟨hW, hF, hG, ⟨hGI, ⟨0, fun _ => 0, fun w9 => absurd w9 hno, (by unfold sxEn syEn; rw [if_neg hno, if_neg hno]; exact hZS)⟩⟩, (by unfold anEn; rw [if_neg hno])⟩, ⟨2, by rw [ht]; exact hP, hD⟩⟩, hS.F ht⟩) hS.2.2 dX13_enters_127
              · have hz := rfl (a := 0)
                refine lv_iload hx hb dX13_enters_114 (lv_at hl 0 rfl) ?_
                refine lv_sipush (v := (-32768)) hx hb dX13_enters_116 (by decide) ?_
                refine lv_icmp_ge (tgt := 128) hx hb dX13_enters_119 (by decide) (fun c_134 => ?_) (fun c_134 => ?_)
                · have hz := rfl (a := 0)
                  refine lv_aload hx hb dX13_enters_128 (lv_at hl 1 rfl) ?_
                  obtain ⟨v135, hv135, hc135⟩ : ∃ v : Nat, fs23[5]? = some (.ref v : Value) ∧ isk K L v 84 6000 := hl23 5 (by decide)
                  refine pg_getN (D := D) (ci := 12) (v := .ref v135) (C := RX12) (T := TX12) (N := 51) hx hb hg inG12 hown hK hP hb_22.1 hM23 rfl 5 (by decide) (hN.use (Cond.fieldLinkNest RX13 167 RX12 "entry" "[J" RX13) 14 rfl rfl) (fun _ h9 => h9) hv135 dX13_enters_130 ?_
                  refine lv_bipush (v := 6) hx hb dX13_enters_133 (by decide) ?_
                  refine lv_iload_n hx hb dX13_enters_135 rfl (lv_at hl 4 rfl) ?_
                  refine lv_imul hx hb dX13_enters_136 ?_
                  refine lv_topi (fun f_136 ef_136 => ?_)
                  obtain rfl : f_136 = (nI (6 * j_33)) := ef_136.trans (nI_mul 6 j_33)
                  refine lv_aload hx hb dX13_enters_137 (lv_at hl 1 rfl) ?_
                  refine pg_getN (D := D) (ci := 12) (v := .ref v52) (C := RX12) (T := TX12) (N := 51) hx hb hg inG12 hown hK hP hb_22.1 hM23 rfl 3 (by decide) (hN.use (Cond.fieldLinkNest RX13 157 RX12 "told" "[I" RX13) 12 rfl rfl) (fun _ h9 => h9) hv52 dX13_enters_139 ?_
                  refine lv_iload_n hx hb dX13_enters_142 rfl (lv_at hl 4 rfl) ?_
                  refine pg_iald hx hb hK hP hc52.1 0 hM53 rfl (inbN j_33 1000 (by omega) (by omega)) dX13_enters_143 ?_
                  rw [ec_58]
                  refine lv_iadd hx hb dX13_enters_144 ?_
                  refine lv_topi (fun f_137 ef_137 => ?_)
                  obtain rfl : f_137 = (nI ((6 * j_33) + c_56)) := ef_137.trans (nI_add (6 * j_33) c_56)
                  refine lv_iload hx hb dX13_enters_145 (lv_at hl 0 rfl) ?_
                  refine lv_i2l hx hb dX13_enters_147 rfl ?_
                  refine lv_topl (fun f_138 ef_138 => ?_)
                  obtain ⟨f139, hM139⟩ := hW.open_84 hc135
                  refine pg_last hx hb hK hP hD hS hc135.1 1 hM139 rfl (inbN ((6 * j_33) + c_56) 6000 (by omega) (by omega)) dX13_enters_148 (fun H_140 locs hP hD hS => ?_)
                  obtain ⟨M_141, eM_141⟩ : ∃ M1 : Hp, M1 = va_up M v135 (.inl (cy 15, 6000, .inr (.inl (vp_updL f139 ((nI ((6 * j_33) + c_56)) : Int32).toNatClampNeg f_138)))) := ⟨_, rfl⟩
                  have hV : VW K L M M_141 b20 (va_up (fx M b20) (lKey 10 ((nI ((6 * j_33) + c_56)) : Int32).toNatClampNeg) (f_138 : Int64).toInt) (ax M b20) := by rw [eM_141]; exact hV.lst (r := 10) (j := 5) hW hb_22 hM23 (by decide) rfl (by decide) hv135 hc135 hM139
                  have hP : va_P D vwCl ([(za, (b13_0 0 z1 (nI z2) (nI z3) z4 z5 z6 z7 z8 z9 (nI z10) z11 z12 z13 z14 z15 (nI z16) z17 z18 z19))] ++ va_pl L M_141) H_140 := by rw [eM_141]; exact hP
                  have hD : va_D A ([(za, (b13_0 0 z1 (nI z2) (nI z3) z4 z5 z6 z7 z8 z9 (nI z10) z11 z12 z13 z14 z15 (nI z16) z17 z18 z19))] ++ va_pl L M_141) := by rw [eM_141]; exact hD
                  have hW : WOM cy K L M_141 := by rw [eM_141]; exact hW.up_84 hc135 ⟨_, rfl⟩
                  have hF : fr K L [12, 15, 35, 36, 84] M M_141 := by rw [eM_141]; exact hF.up hc135 (by decide)
                  have hG : fG K L [16] M M_141 := by rw [eM_141]; exact hG.arr hc135 (by decide)
                  have hM_142 : M_141 v135 = .inl (cy 15, 6000, .inr (.inl (vp_updL f139 ((nI ((6 * j_33) + c_56)) : Int32).toNatClampNeg f_138))) := by rw [eM_141]; exact va_up_self _ _ _
                  have hM_143 : M_141 z1 = .inl (cy 23, 8, .inr (.inr (.inr (.inr (f18))))) := by rw [eM_141, va_up_ne _ _ (i1.neT hc135 (by decide))]; exact hM18
                  have hM_144 : M_141 b20 = .inr (12, fs23) := by rw [eM_141, va_up_ne _ _ (hb_22.neT hc135 (by decide))]; exact hM23
                  have hM_145 : M_141 v35 = .inl (cy 14, 1000, .inl (f36)) := by rw [eM_141, va_up_ne _ _ (hc35.neT hc135 (by decide))]; exact hM36
                  have hM_146 : M_141 v52 = .inl (cy 14, 1000, .inl (f53)) := by rw [eM_141, va_up_ne _ _ (hc52.neT hc135 (by decide))]; exact hM53
                  have hM_147 : M_141 v62 = .inl (cy 14, 1000, .inl (f63)) := by rw [eM_141, va_up_ne _ _ (hc62.neT hc135 (by decide))]; exact hM63
                  obtain ⟨f_148, ef_148⟩ : ∃ f : Nat → Int64, f = vp_updL f139 ((nI ((6 * j_33) + c_56)) : Int32).toNatClampNeg f_138 := ⟨_, rfl⟩
                  rw [← ef_148] at hM_142
                  refine lv_aload hx hb dX13_enters_149 (lv_at hl 1 rfl) ?_
                  refine pg_getN (D := D) (ci := 12) (v := .ref v52) (C := RX12) (T := TX12) (N := 51) hx hb hg inG12 hown hK hP hb_22.1 hM_144 rfl 3 (by decide) (hN.use (Cond.fieldLinkNest RX13 157 RX12 "told" "[I" RX13) 12 rfl rfl) (fun _ h9 => h9) hv52 dX13_enters_151 ?_
                  refine lv_iload_n hx hb dX13_enters_154 rfl (lv_at hl 4 rfl) ?_
                  refine lv_dup2_11 hx hb dX13_enters_155 rfl rfl ?_
                  refine pg_iald hx hb hK hP hc52.1 0 hM_146 rfl (inbN j_33 1000 (by omega) (by omega)) dX13_enters_156 ?_
                  rw [ec_58]
                  refine lv_iconst (v := 1) hx hb dX13_enters_157 (by decide) ?_
                  refine lv_iadd hx hb dX13_enters_158 ?_
                  refine lv_topi (fun f_149 ef_149 => ?_)
                  obtain rfl : f_149 = (nI (c_56 + 1)) := ef_149.trans (nI_add c_56 1)
                  refine pg_iast hx hb hK hP hD hS hc52.1 0 hM_146 rfl (inbN j_33 1000 (by omega) (by omega)) dX13_enters_159 (fun H_150 locs hP hD hS => ?_)
                  obtain ⟨M_151, eM_151⟩ : ∃ M1 : Hp, M1 = va_up M_141 v52 (.inl (cy 14, 1000, .inl (upd f53 ((nI j_33) : Int32).toNatClampNeg (nI (c_56 + 1))))) := ⟨_, rfl⟩
                  have hy3 : (ax M b20 3) = f53 := (congrFun hV.2.2.1 3).symm.trans (ax_of hM_144 (by decide) hv52 hM_146)
                  have hV : VW K L M M_151 b20 (va_up (fx M b20) (lKey 10 ((nI ((6 * j_33) + c_56)) : Int32).toNatClampNeg) (f_138 : Int64).toInt) (va_up (ax M b20) 3 (upd (ax M b20 3) ((nI j_33) : Int32).toNatClampNeg (nI (c_56 + 1)))) := by rw [eM_151]; exact hV.ast (j := 3) hW hb_22 hM_144 (by decide) hv52 hc52 hM_146
                  have hP : va_P D vwCl ([(za, (b13_0 0 z1 (nI z2) (nI z3) z4 z5 z6 z7 z8 z9 (nI z10) z11 z12 z13 z14 z15 (nI z16) z17 z18 z19))] ++ va_pl L M_151) H_150 := by rw [eM_151]; exact hP
                  have hD : va_D A ([(za, (b13_0 0 z1 (nI z2) (nI z3) z4 z5 z6 z7 z8 z9 (nI z10) z11 z12 z13 z14 z15 (nI z16) z17 z18 z19))] ++ va_pl L M_151) := by rw [eM_151]; exact hD
                  have hW : WOM cy K L M_151 := by rw [eM_151]; exact hW.up_35 hc52 ⟨_, rfl, (updP (P := fun z => ∃ c : Nat, c < 7 ∧ z = nI c) hf53 ⟨(c_56 + 1), by omega, rfl⟩)⟩
                  have hF : fr K L [12, 15, 35, 36, 84] M M_151 := by rw [eM_151]; exact hF.up hc52 (by decide)
                  have hG : fG K L [16] M M_151 := by rw [eM_151]; exact hG.arr hc52 (by decide)
                  have hM_152 : M_151 v52 = .inl (cy 14, 1000, .inl (upd f53 ((nI j_33) : Int32).toNatClampNeg (nI (c_56 + 1)))) := by rw [eM_151]; exact va_up_self _ _ _
                  have hM_153 : M_151 v135 = .inl (cy 15, 6000, .inr (.inl (f_148))) := by rw [eM_151, va_up_ne _ _ (hc135.neT hc52 (by decide))]; exact hM_142
                  have hM_154 : M_151 z1 = .inl (cy 23, 8, .inr (.inr (.inr (.inr (f18))))) := by rw [eM_151, va_up_ne _ _ (i1.neT hc52 (by decide))]; exact hM_143
                  have hM_155 : M_151 b20 = .inr (12, fs23) := by rw [eM_151, va_up_ne _ _ (hb_22.neT hc52 (by decide))]; exact hM_144
                  have hM_156 : M_151 v35 = .inl (cy 14, 1000, .inl (f36)) := by rw [eM_151, va_up_ne _ _ (hc35.neT hc52 (by decide))]; exact hM_145
                  have hM_157 : M_151 v62 = .inl (cy 14, 1000, .inl (f63)) := by rw [eM_151, va_up_ne _ _ (hc62.neT hc52 (by decide))]; exact hM_147
                  have hf_159 : ∀ j, j < 1000 → ∃ c : Nat, c < 7 ∧ (upd f53 ((nI j_33) : Int32).toNatClampNeg (nI (c_56 + 1))) j = nI c := (updP (P := fun z => ∃ c : Nat, c < 7 ∧ z = nI c) hf53 ⟨(c_56 + 1), by omega, rfl⟩)
                  obtain ⟨f_158, ef_158⟩ : ∃ f : Nat → Int32, f = upd f53 ((nI j_33) : Int32).toNatClampNeg (nI (c_56 + 1)) := ⟨_, rfl⟩
                  rw [← ef_158] at hM_152 hf_159
                  refine lv_aload hx hb dX13_enters_160 (lv_at hl 1 rfl) ?_
                  refine lv_iload_n hx hb dX13_enters_162 rfl (lv_at hl 4 rfl) ?_
                  have hPc : va_P D vwCl ([] ++ va_pl L M_151) H_150 := hP.part (cx := []) [] rfl
                  have hDc : va_D A ([] ++ va_pl L M_151) := hD.part (cx := []) [] (by decide) rfl
                  have hFc : ∀ q, va_A ([] ++ va_pl L M_151) H_150.size q → A q := pg_free hDc hS hA
                  refine va_callv (va_runV (As := [.int (nI j_33)]) (rest := []) ⟨hx, hb, hml, hown, hg⟩ (r_remN l D cy K L M_151 H_150.size b20 j_33  hW hb_22 (by omega) hV.2.2.2) (cwV 1 hg (gV wd_827 wd_828 wd_829 wd_737 wd_830) rfl rfl rfl (by decide +kernel) ⟨(Nat.le_trans (Nat.le_of_ble_eq_true rfl) hRf), (Nat.le_trans (Nat.le_of_ble_eq_true rfl) hRl)⟩) ⟨PG.blind, pg_recv hK hP hb_22.1 hM_155 rfl, fun U hU hW => ⟨rfl, PG.at hPc hK hDc hN hU hW⟩⟩ rfl rfl hl.1 rfl (lv_room (Nat.le_of_ble_eq_true rfl)) dX13_enters_163 ⟨(Nat.le_trans (Nat.le_of_ble_eq_true rfl) hRc), (Nat.le_trans (Nat.le_of_ble_eq_true rfl) hRs)⟩) hS (fun q _ h => hFc q h) hFc (fun M_162 t H_160 locs ht hvm hw hB hz1 hk1 hS => ?_)
                  have hWb := hW
                  obtain ⟨hW, hF2, hG2, hVP, hp_163⟩ := hw
                  obtain ⟨hP1, hD1⟩ := hB
                  rw [ht] at hP1
                  obtain ⟨hP, hD⟩ := va_joinP (X := [(za, (b13_0 0 z1 (nI z2) (nI z3) z4 z5 z6 z7 z8 z9 (nI z10) z11 z12 z13 z14 z15 (nI z16) z17 z18 z19))]) (cx := []) (wr := [(za, (b13_0 0 z1 (nI z2) (nI z3) z4 z5 z6 z7 z8 z9 (nI z10) z11 z12 z13 z14 z15 (nI z16) z17 z18 z19))]) (rx := []) (pl := va_pl L M_151) (pl1 := va_pl L M_162) hP hD [] [0] rfl rfl (by decide) (by decide) hk1 hFc hP1 hD1
                  have hP : va_P D vwCl ([(za, (b13_0 0 z1 (nI z2) (nI z3) z4 z5 z6 z7 z8 z9 (nI z10) z11 z12 z13 z14 z15 (nI z16) z17 z18 z19))] ++ va_pl L M_162) H_160 := hP
                  have hD : va_D A ([(za, (b13_0 0 z1 (nI z2) (nI z3) z4 z5 z6 z7 z8 z9 (nI z10) z11 z12 z13 z14 z15 (nI z16) z17 z18 z19))] ++ va_pl L M_162) := hD
                  have hM_164 : M_162 v52 = .inl (cy 14, 1000, .inl (f_158)) := (hF2.at hc52 (by decide)).trans hM_152
                  have hM_165 : M_162 v135 = .inl (cy 15, 6000, .inr (.inl (f_148))) := (hF2.at hc135 (by decide)).trans hM_153
                  have hM_166 : M_162 z1 = .inl (cy 23, 8, .inr (.inr (.inr (.inr (f18))))) := (hF2.at i1 (by decide)).trans hM_154
                  obtain ⟨fs167, hM167, hn167, hl167⟩ := hW.open_12 hb_22
                  have hv_168 : fs167[2]? = some (.ref v35 : Value) := (hG2 _ hb_22 _ _ hM_155 hM167 2 (by decide)).trans hv35
                  have hv_169 : fs167[3]? = some (.ref v52 : Value) := (hG2 _ hb_22 _ _ hM_155 hM167 3 (by decide)).trans hv52
                  have hv_170 : fs167[4]? = some (.ref v62 : Value) := (hG2 _ hb_22 _ _ hM_155 hM167 4 (by decide)).trans hv62
                  have hv_171 : fs167[5]? = some (.ref v135 : Value) := (hG2 _ hb_22 _ _ hM_155 hM167 5 (by decide)).trans hv135
                  have hM_172 : M_162 v35 = .inl (cy 14, 1000, .inl (f36)) := (hF2.at hc35 (by decide)).trans hM_156
                  have hM_173 : M_162 v62 = .inl (cy 14, 1000, .inl (f63)) := (hF2.at hc62 (by decide)).trans hM_157
                  have hF : fr K L [12, 15, 35, 36, 84] M M_162 := hF.tr hF2 (by decide)
                  have hG : fG K L [16] M M_162 := hG.tr hWb hG2 (by decide)
                  obtain ⟨n_174, g_175, hRF, hV2⟩ := hVP
                  rw [hV.2.1, hV.2.2.1] at hRF hV2
                  have hRF : REMF (fx M b20 16) (ax M b20 43) (nI j_33) n_174 g_175 := hRF
                  have hV : VW K L M M_162 b20 (va_up (va_up (fx M b20) (lKey 10 ((nI ((6 * j_33) + c_56)) : Int32).toNatClampNeg) (f_138 : Int64).toInt) 16 n_174) (va_up (va_up (ax M b20) 3 (upd (ax M b20 3) ((nI j_33) : Int32).toNatClampNeg (nI (c_56 + 1)))) 43 g_175) := hV.tr hV2
                  refine lv_aload_n hx hb dX13_enters_166 rfl (lv_at hl 2 rfl) ?_
                  refine lv_aload hx hb dX13_enters_167 (lv_at hl 1 rfl) ?_
                  refine pg_getN (D := D) (ci := 12) (v := .ref v52) (C := RX12) (T := TX12) (N := 51) hx hb hg inG12 hown hK hP hb_22.1 hM167 rfl 3 (by decide) (hN.use (Cond.fieldLinkNest RX13 157 RX12 "told" "[I" RX13) 12 rfl rfl) (fun _ h9 => h9) hv_169 dX13_enters_169 ?_
                  refine lv_iload_n hx hb dX13_enters_172 rfl (lv_at hl 4 rfl) ?_
                  have hi_176 : vp_in (nI j_33) 1000 := (inbN j_33 1000 (by omega) (by omega))
                  refine pg_iald hx hb hK hP hc52.1 0 hM_164 rfl hi_176 dX13_enters_173 ?_
                  have hp_177 := hf_159 _ (vp_lt hi_176)
                  obtain ⟨c_178, hc_179, ec_180⟩ := hp_177
                  rw [ec_180]
                  have hy3n : (upd (ax M b20 3) ((nI j_33) : Int32).toNatClampNeg (nI (c_56 + 1))) = f_158 := (congrFun hV.2.2.1 3).symm.trans (ax_of hM167 (by decide) hv_169 hM_164)
                  have hrv : (nI c_178) = nI (c_56 + 1) := by rw [← ec_180, ← hy3n]; exact upd_self _ _ _
                  have hPc := hP.sub (ws' := [(za, (b13_0 0 z1 (nI z2) (nI z3) z4 z5 z6 z7 z8 z9 (nI z10) z11 z12 z13 z14 z15 (nI z16) z17 z18 z19))]) [0] rfl
                  have hDc := hD.sub (ws' := [(za, (b13_0 0 z1 (nI z2) (nI z3) z4 z5 z6 z7 z8 z9 (nI z10) z11 z12 z13 z14 z15 (nI z16) z17 z18 z19))]) [0] (by decide) rfl
                  have hKc := hK.sub (tys' := []) [] rfl
                  have hFc := va_free (wc := [(za, (b13_0 0 z1 (nI z2) (nI z3) z4 z5 z6 z7 z8 z9 (nI z10) z11 z12 z13 z14 z15 (nI z16) z17 z18 z19))]) hD hS hA [0] rfl
                  refine va_calli (va_runV (As := [.int (nI c_178)]) (rest := []) ⟨hx, hb, hml, hown, hg⟩ (m_done l D H_160.size za 0 z1 (nI z2) (nI z3) z4 z5 z6 z7 z8 z9 (nI z10) z11 z12 z13 z14 z15 (nI z16) z17 z18 z19 (nI c_178)) (cwV 1 hg (gV wd_730 wd_731 wd_732 wd_717 wd_733) rfl rfl rfl (by decide +kernel) ⟨(Nat.le_trans (Nat.le_of_ble_eq_true rfl) hRf), (Nat.le_trans (Nat.le_of_ble_eq_true rfl) hRl)⟩) ⟨Pr.blind, va_recv hK hP (ci := 13) (q0 := 0) rfl rfl, fun U hU hW => ⟨rfl, Pr.at hPc hKc hDc hN hU hW⟩⟩ rfl rfl hl.1 rfl (lv_room (Nat.le_of_ble_eq_true rfl)) dX13_enters_174 ⟨(Nat.le_trans (Nat.le_of_ble_eq_true rfl) hRc), (Nat.le_trans (Nat.le_of_ble_eq_true rfl) hRs)⟩) hS (fun q _ h => hFc q h) hFc (fun r_182 M_183 t H_181 locs ht hvm hw hB hz1 hk1 hS => ?_)
                  have hp_184 := hw
                  obtain ⟨hP1, hK1, hD1⟩ := hB
                  rw [ht] at hP1
                  obtain ⟨hP, hD⟩ := va_joinQ (X := [(za, (b13_0 0 z1 (nI z2) (nI z3) z4 z5 z6 z7 z8 z9 (nI z10) z11 z12 z13 z14 z15 (nI z16) z17 z18 z19))]) (cx := [(za, (b13_0 0 z1 (nI z2) (nI z3) z4 z5 z6 z7 z8 z9 (nI z10) z11 z12 z13 z14 z15 (nI z16) z17 z18 z19))]) (wr := []) (w1 := [(za, (b13_0 0 z1 (nI z2) (nI z3) 0 (-1) z6 z7 z8 z9 (nI z10) z11 z12 z13 z14 z15 (nI z16) z17 z18 z19))]) (pl := va_pl L M_162) hP hD [0] [] rfl rfl (by decide) (by decide) hk1 hFc hP1 hD1
                  have hP : va_P D vwCl ([(za, (b13_0 0 z1 (nI z2) (nI z3) 0 (-1) z6 z7 z8 z9 (nI z10) z11 z12 z13 z14 z15 (nI z16) z17 z18 z19))] ++ va_pl L M_162) H_181 := hP
                  have hD : va_D A ([(za, (b13_0 0 z1 (nI z2) (nI z3) 0 (-1) z6 z7 z8 z9 (nI z10) z11 z12 z13 z14 z15 (nI z16) z17 z18 z19))] ++ va_pl L M_162) := hD
                  have hq := Eq.symm hp_184
                  subst hq
                  have hI_185 : (0 : Int) ≤ (k1 : Int32).toInt := inltI rfl rfl c_7
                  have hI_186 : (k1 : Int32).toInt < ((z2 : Nat) : Int) := inleI (nI_toInt (by omega)) rfl c_8
                  have hI_187 : (0 : Int) ≤ ((j_33 : Nat) : Int) := inltI (nI_toInt (by omega)) rfl c_29
                  have hI_188 : ((j_33 : Nat) : Int) < (1000 : Int) := inleI rfl (nI_toInt (by omega)) c_30
                  have hI_189 : ((c_56 : Nat) : Int) ≠ ((c_39 : Nat) : Int) := ineI (nI_toInt (by omega)) (nI_toInt (by omega)) c_59
                  have hI_190 : (f_64 : Int32).toInt = (0 : Int) := ieqI rfl rfl c_65
                  have hI_191 : (f_61 : Int32).toInt ≤ (32767 : Int) := inltI rfl rfl c_122
                  have hI_192 : (-32768) ≤ (f_61 : Int32).toInt := ileI rfl rfl c_134
                  have hn92 : ((nI j_33) : Int32).toInt = ((j_33 : Nat) : Int) := nI_toInt (by omega)
                  have hfv : (k4 * k3).toInt = (f_61 : Int32).toInt := by rw [ef_61]
                  have hyes : okEn z2 SX SY k1 (nI j_33) k3 k4 := by unfold okEn okH; refine ⟨⟨?_, ?_⟩, ?_, ?_, ?_, ?_, ?_, ?_, ?_⟩ <;> first | omega | assumption
                  have hA9 : HA (ax M b20 2) (upd (ax M b20 3) ((nI j_33) : Int32).toNatClampNeg (nI (c_56 + 1))) := HA.set hAT.1 (Or.inr (by rw [hy2, ec_41, nI_toInt (by omega), nI_toInt (by omega)]; omega))
                  have hB9 : HB n_174 (fx M b20 14) (upd (ax M b20 3) ((nI j_33) : Int32).toNatClampNeg (nI (c_56 + 1))) g_175 := HB.remD hAT.2.1 (by omega) (nI_cl (by omega)) hRF (by rw [hy3, ec_58, nI_toInt (by omega), nI_toInt (by omega)]; omega)
                  have hC9 : HC (fx M b20 10) (ax M b20 22) (ax M b20 23) := hAT.2.2.1
                  have hD9 : HD (fx M b20 0) (fx M b20 11) (fx M b20 15) (ax M b20 34) (ax M b20 41) := hAT.2.2.2.1
                  have hE9 : HE (fx M b20 0) (fx M b20 1) (fx M b20 12) (fx M b20 13) (ax M b20 37) := hAT.2.2.2.2
                  have hH8 : HI (va_up (fx M b20) 16 n_174) (va_up (va_up (ax M b20) 3 (upd (ax M b20 3) ((nI j_33) : Int32).toNatClampNeg (nI (c_56 + 1)))) 43 g_175) := ⟨hA9, hB9, hC9, hD9, hE9⟩
                  have hH9 : HI (va_up (va_up (fx M b20) (lKey 10 ((nI ((6 * j_33) + c_56)) : Int32).toNatClampNeg) (f_138 : Int64).toInt) 16 n_174) (va_up (va_up (ax M b20) 3 (upd (ax M b20 3) ((nI j_33) : Int32).toNatClampNeg (nI (c_56 + 1)))) 43 g_175) := HI.lk2 hH8 (by decide) 10 ((nI ((6 * j_33) + c_56)) : Int32).toNatClampNeg _
                  have hGI9 : GI K L z1 z2 M_162 := GI.fin hW0 i1 b2 hGI hact hV (hF.at i1 (by decide)) hH9
                  rw [hQ]
                  exact W.iret (v := (nI c_178)) hx hb hr (fun t ht hW9 => ⟨⟨(nI c_178), M_162, rfl, ⟨hW, hF, hG, ⟨hGI9, ⟨n_174, g_175, fun _ => (by rw [← hZk.1, ← hZk.2]; exact hRF), (by unfold sxEn syEn; rw [if_pos hyes, if_pos hyes, hp3e, nI_1]; exact ZSx.fin hW0 i1 b2 hZS hGI.1 hkn hb9 hV (hF.at i1 (by decide)) (by rw [hZk.1, nI_cl (t := 6 * j_33 + c_56) (by omega), nI_cl (t := j_33) (by omega), nI_cl (t := c_56) (by omega), show (f_138 : Int64).toInt = (k4 * k3).toInt from by rw [ef_138, Int32.toInt_toInt64, hfv]]) (by rw [hZk.2]))⟩⟩, (by unfold anEn; rw [if_pos hyes, hp3e, nI_1]; exact hrv)⟩, ⟨0, by rw [ht]; exact hP, hD⟩⟩, hS.F ht⟩) hS.2.2 dX13_enters_177
                · have hz := rfl (a := 0)
                  refine lv_aload_n hx hb dX13_enters_122 rfl (lv_at hl 2 rfl) ?_
                  refine lv_iconst (v := 2) hx hb dX13_enters_123 (by decide) ?_
                  have hPc := hP.sub (ws' := [(za, (b13_0 0 z1 (nI z2) (nI z3) z4 z5 z6 z7 z8 z9 (nI z10) z11 z12 z13 z14 z15 (nI z16) z17 z18 z19))]) [0] rfl
                  have hDc := hD.sub (ws' := [(za, (b13_0 0 z1 (nI z2) (nI z3) z4 z5 z6 z7 z8 z9 (nI z10) z11 z12 z13 z14 z15 (nI z16) z17 z18 z19))]) [0] (by decide) rfl
                  have hKc := hK.sub (tys' := []) [] rfl
                  have hFc := va_free (wc := [(za, (b13_0 0 z1 (nI z2) (nI z3) z4 z5 z6 z7 z8 z9 (nI z10) z11 z12 z13 z14 z15 (nI z16) z17 z18 z19))]) hD hS hA [0] rfl
                  refine va_calli (va_runV (As := [.int 2]) (rest := []) ⟨hx, hb, hml, hown, hg⟩ (m_refused l D H_24.size za 0 z1 (nI z2) (nI z3) z4 z5 z6 z7 z8 z9 (nI z10) z11 z12 z13 z14 z15 (nI z16) z17 z18 z19 2) (cwV 1 hg (gV wd_725 wd_726 wd_727 wd_717 wd_728) rfl rfl rfl (by decide +kernel) ⟨(Nat.le_trans (Nat.le_of_ble_eq_true rfl) hRf), (Nat.le_trans (Nat.le_of_ble_eq_true rfl) hRl)⟩) ⟨Pr.blind, va_recv hK hP (ci := 13) (q0 := 0) rfl rfl, fun U hU hW => ⟨rfl, Pr.at hPc hKc hDc hN hU hW⟩⟩ rfl rfl hl.1 rfl (lv_room (Nat.le_of_ble_eq_true rfl)) dX13_enters_124 ⟨(Nat.le_trans (Nat.le_of_ble_eq_true rfl) hRc), (Nat.le_trans (Nat.le_of_ble_eq_true rfl) hRs)⟩) hS (fun q _ h => hFc q h) hFc (fun r_194 M_195 t H_193 locs ht hvm hw hB hz1 hk1 hS => ?_)
                  have hp_196 := hw
                  obtain ⟨hP1, hK1, hD1⟩ := hB
                  rw [ht] at hP1
                  obtain ⟨hP, hD⟩ := va_joinQ (X := [(za, (b13_0 0 z1 (nI z2) (nI z3) z4 z5 z6 z7 z8 z9 (nI z10) z11 z12 z13 z14 z15 (nI z16) z17 z18 z19))]) (cx := [(za, (b13_0 0 z1 (nI z2) (nI z3) z4 z5 z6 z7 z8 z9 (nI z10) z11 z12 z13 z14 z15 (nI z16) z17 z18 z19))]) (wr := []) (w1 := [(za, (b13_0 0 z1 (nI z2) (nI z3) 2 (-1) z6 z7 z8 z9 (nI z10) z11 z12 z13 z14 z15 (nI z16) z17 z18 z19))]) (pl := va_pl L M) hP hD [0] [] rfl rfl (by decide) (by decide) hk1 hFc hP1 hD1
                  have hP : va_P D vwCl ([(za, (b13_0 0 z1 (nI z2) (nI z3) 2 (-1) z6 z7 z8 z9 (nI z10) z11 z12 z13 z14 z15 (nI z16) z17 z18 z19))] ++ va_pl L M) H_193 := hP
                  have hD : va_D A ([(za, (b13_0 0 z1 (nI z2) (nI z3) 2 (-1) z6 z7 z8 z9 (nI z10) z11 z12 z13 z14 z15 (nI z16) z17 z18 z19))] ++ va_pl L M) := hD
                  have hq := Eq.symm hp_196
                  subst hq
                  have hI_197 : (0 : Int) ≤ (k1 : Int32).toInt := inltI rfl rfl c_7
                  have hI_198 : (k1 : Int32).toInt < ((z2 : Nat) : Int) := inleI (nI_toInt (by omega)) rfl c_8
                  have hI_199 : (0 : Int) ≤ ((j_33 : Nat) : Int) := inltI (nI_toInt (by omega)) rfl c_29
                  have hI_200 : ((j_33 : Nat) : Int) < (1000 : Int) := inleI rfl (nI_toInt (by omega)) c_30
                  have hI_201 : ((c_56 : Nat) : Int) ≠ ((c_39 : Nat) : Int) := ineI (nI_toInt (by omega)) (nI_toInt (by omega)) c_59
                  have hI_202 : (f_64 : Int32).toInt = (0 : Int) := ieqI rfl rfl c_65
                  have hI_203 : (f_61 : Int32).toInt ≤ (32767 : Int) := inltI rfl rfl c_122
                  have hI_204 : (f_61 : Int32).toInt < (-32768) := inleI rfl rfl c_134
                  have hn92 : ((nI j_33) : Int32).toInt = ((j_33 : Nat) : Int) := nI_toInt (by omega)
                  have hfv : (k4 * k3).toInt = (f_61 : Int32).toInt := by rw [ef_61]
                  have hno : ¬ okEn z2 SX SY k1 (nI j_33) k3 k4 := fun q9 => by unfold okEn okH at q9; first | omega | (obtain ⟨⟨_, _⟩, _, _, _, _, _, _, _⟩ := q9; first | omega | contradiction)
                  rw [hQ]
                  exact W.iret (v := (-1)) hx hb hr (fun t ht hW9 => ⟨⟨(-1), M, rfl, ⟨hW, hF, hG, ⟨hGI, ⟨0, fun _ => 0, fun w9 => absurd w9 hno, (by unfold sxEn syEn; rw [if_neg hno, if_neg hno]; exact hZS)⟩⟩, (by unfold anEn; rw [if_neg hno])⟩, ⟨2, by rw [ht]; exact hP, hD⟩⟩, hS.F ht⟩) hS.2.2 dX13_enters_127
          · have hz := rfl (a := 0)
            have n_205 : c_56 = c_39 := (iEQ (a := c_56) (b := c_39) (by omega) (by omega)).mp c_59
            refine lv_aload_n hx hb dX13_enters_83 rfl (lv_at hl 1 rfl) ?_
            refine lv_bipush (v := 10) hx hb dX13_enters_84 (by decide) ?_
            have hPc := hP.sub (ws' := [(za, (b13_0 0 z1 (nI z2) (nI z3) z4 z5 z6 z7 z8 z9 (nI z10) z11 z12 z13 z14 z15 (nI z16) z17 z18 z19))]) [0] rfl
            have hDc := hD.sub (ws' := [(za, (b13_0 0 z1 (nI z2) (nI z3) z4 z5 z6 z7 z8 z9 (nI z10) z11 z12 z13 z14 z15 (nI z16) z17 z18 z19))]) [0] (by decide) rfl
            have hKc := hK.sub (tys' := []) [] rfl
            have hFc := va_free (wc := [(za, (b13_0 0 z1 (nI z2) (nI z3) z4 z5 z6 z7 z8 z9 (nI z10) z11 z12 z13 z14 z15 (nI z16) z17 z18 z19))]) hD hS hA [0] rfl
            refine va_calli (va_runV (As := [.int 10]) (rest := []) ⟨hx, hb, hml, hown, hg⟩ (m_refused l D H_24.size za 0 z1 (nI z2) (nI z3) z4 z5 z6 z7 z8 z9 (nI z10) z11 z12 z13 z14 z15 (nI z16) z17 z18 z19 10) (cwV 1 hg (gV wd_725 wd_726 wd_727 wd_717 wd_728) rfl rfl rfl (by decide +kernel) ⟨(Nat.le_trans (Nat.le_of_ble_eq_true rfl) hRf), (Nat.le_trans (Nat.le_of_ble_eq_true rfl) hRl)⟩) ⟨Pr.blind, va_recv hK hP (ci := 13) (q0 := 0) rfl rfl, fun U hU hW => ⟨rfl, Pr.at hPc hKc hDc hN hU hW⟩⟩ rfl rfl hl.1 rfl (lv_room (Nat.le_of_ble_eq_true rfl)) dX13_enters_86 ⟨(Nat.le_trans (Nat.le_of_ble_eq_true rfl) hRc), (Nat.le_trans (Nat.le_of_ble_eq_true rfl) hRs)⟩) hS (fun q _ h => hFc q h) hFc (fun r_207 M_208 t H_206 locs ht hvm hw hB hz1 hk1 hS => ?_)
            have hp_209 := hw
            obtain ⟨hP1, hK1, hD1⟩ := hB
            rw [ht] at hP1
            obtain ⟨hP, hD⟩ := va_joinQ (X := [(za, (b13_0 0 z1 (nI z2) (nI z3) z4 z5 z6 z7 z8 z9 (nI z10) z11 z12 z13 z14 z15 (nI z16) z17 z18 z19))]) (cx := [(za, (b13_0 0 z1 (nI z2) (nI z3) z4 z5 z6 z7 z8 z9 (nI z10) z11 z12 z13 z14 z15 (nI z16) z17 z18 z19))]) (wr := []) (w1 := [(za, (b13_0 0 z1 (nI z2) (nI z3) 10 (-1) z6 z7 z8 z9 (nI z10) z11 z12 z13 z14 z15 (nI z16) z17 z18 z19))]) (pl := va_pl L M) hP hD [0] [] rfl rfl (by decide) (by decide) hk1 hFc hP1 hD1
            have hP : va_P D vwCl ([(za, (b13_0 0 z1 (nI z2) (nI z3) 10 (-1) z6 z7 z8 z9 (nI z10) z11 z12 z13 z14 z15 (nI z16) z17 z18 z19))] ++ va_pl L M) H_206 := hP
            have hD : va_D A ([(za, (b13_0 0 z1 (nI z2) (nI z3) 10 (-1) z6 z7 z8 z9 (nI z10) z11 z12 z13 z14 z15 (nI z16) z17 z18 z19))] ++ va_pl L M) := hD
            have hq := Eq.symm hp_209
            subst hq
            have hI_210 : (0 : Int) ≤ (k1 : Int32).toInt := inltI rfl rfl c_7
            have hI_211 : (k1 : Int32).toInt < ((z2 : Nat) : Int) := inleI (nI_toInt (by omega)) rfl c_8
            have hI_212 : (0 : Int) ≤ ((j_33 : Nat) : Int) := inltI (nI_toInt (by omega)) rfl c_29
            have hI_213 : ((j_33 : Nat) : Int) < (1000 : Int) := inleI rfl (nI_toInt (by omega)) c_30
            have hI_214 : ((c_56 : Nat) : Int) = ((c_39 : Nat) : Int) := ieqI (nI_toInt (by omega)) (nI_toInt (by omega)) c_59
            have hn92 : ((nI j_33) : Int32).toInt = ((j_33 : Nat) : Int) := nI_toInt (by omega)
            have hno : ¬ okEn z2 SX SY k1 (nI j_33) k3 k4 := fun q9 => by unfold okEn okH at q9; first | omega | (obtain ⟨⟨_, _⟩, _, _, _, _, _, _, _⟩ := q9; first | omega | contradiction)
            rw [hQ]
            exact W.iret (v := (-1)) hx hb hr (fun t ht hW9 => ⟨⟨(-1), M, rfl, ⟨hW, hF, hG, ⟨hGI, ⟨0, fun _ => 0, fun w9 => absurd w9 hno, (by unfold sxEn syEn; rw [if_neg hno, if_neg hno]; exact hZS)⟩⟩, (by unfold anEn; rw [if_neg hno])⟩, ⟨10, by rw [ht]; exact hP, hD⟩⟩, hS.F ht⟩) hS.2.2 dX13_enters_89
      · have hz := rfl (a := 0)
        refine lv_if_ne (tgt := 55) hx hb dX13_enters_46 (by decide) (fun c_215 => absurd c_215 (by decide)) (fun _ => ?_)
        refine lv_aload_n hx hb dX13_enters_49 rfl (lv_at hl 1 rfl) ?_
        refine lv_iconst (v := 3) hx hb dX13_enters_50 (by decide) ?_
        have hPc := hP.sub (ws' := [(za, (b13_0 0 z1 (nI z2) (nI z3) z4 z5 z6 z7 z8 z9 (nI z10) z11 z12 z13 z14 z15 (nI z16) z17 z18 z19))]) [0] rfl
        have hDc := hD.sub (ws' := [(za, (b13_0 0 z1 (nI z2) (nI z3) z4 z5 z6 z7 z8 z9 (nI z10) z11 z12 z13 z14 z15 (nI z16) z17 z18 z19))]) [0] (by decide) rfl
        have hKc := hK.sub (tys' := []) [] rfl
        have hFc := va_free (wc := [(za, (b13_0 0 z1 (nI z2) (nI z3) z4 z5 z6 z7 z8 z9 (nI z10) z11 z12 z13 z14 z15 (nI z16) z17 z18 z19))]) hD hS hA [0] rfl
        refine va_calli (va_runV (As := [.int 3]) (rest := []) ⟨hx, hb, hml, hown, hg⟩ (m_refused l D H_24.size za 0 z1 (nI z2) (nI z3) z4 z5 z6 z7 z8 z9 (nI z10) z11 z12 z13 z14 z15 (nI z16) z17 z18 z19 3) (cwV 1 hg (gV wd_725 wd_726 wd_727 wd_717 wd_728) rfl rfl rfl (by decide +kernel) ⟨(Nat.le_trans (Nat.le_of_ble_eq_true rfl) hRf), (Nat.le_trans (Nat.le_of_ble_eq_true rfl) hRl)⟩) ⟨Pr.blind, va_recv hK hP (ci := 13) (q0 := 0) rfl rfl, fun U hU hW => ⟨rfl, Pr.at hPc hKc hDc hN hU hW⟩⟩ rfl rfl hl.1 rfl (lv_room (Nat.le_of_ble_eq_true rfl)) dX13_enters_51 ⟨(Nat.le_trans (Nat.le_of_ble_eq_true rfl) hRc), (Nat.le_trans (Nat.le_of_ble_eq_true rfl) hRs)⟩) hS (fun q _ h => hFc q h) hFc (fun r_217 M_218 t H_216 locs ht hvm hw hB hz1 hk1 hS => ?_)
        have hp_219 := hw
        obtain ⟨hP1, hK1, hD1⟩ := hB
        rw [ht] at hP1
        obtain ⟨hP, hD⟩ := va_joinQ (X := [(za, (b13_0 0 z1 (nI z2) (nI z3) z4 z5 z6 z7 z8 z9 (nI z10) z11 z12 z13 z14 z15 (nI z16) z17 z18 z19))]) (cx := [(za, (b13_0 0 z1 (nI z2) (nI z3) z4 z5 z6 z7 z8 z9 (nI z10) z11 z12 z13 z14 z15 (nI z16) z17 z18 z19))]) (wr := []) (w1 := [(za, (b13_0 0 z1 (nI z2) (nI z3) 3 (-1) z6 z7 z8 z9 (nI z10) z11 z12 z13 z14 z15 (nI z16) z17 z18 z19))]) (pl := va_pl L M) hP hD [0] [] rfl rfl (by decide) (by decide) hk1 hFc hP1 hD1
        have hP : va_P D vwCl ([(za, (b13_0 0 z1 (nI z2) (nI z3) 3 (-1) z6 z7 z8 z9 (nI z10) z11 z12 z13 z14 z15 (nI z16) z17 z18 z19))] ++ va_pl L M) H_216 := hP
        have hD : va_D A ([(za, (b13_0 0 z1 (nI z2) (nI z3) 3 (-1) z6 z7 z8 z9 (nI z10) z11 z12 z13 z14 z15 (nI z16) z17 z18 z19))] ++ va_pl L M) := hD
        have hq := Eq.symm hp_219
        subst hq
        have hI_220 : (0 : Int) ≤ (k1 : Int32).toInt := inltI rfl rfl c_7
        have hI_221 : (k1 : Int32).toInt < ((z2 : Nat) : Int) := inleI (nI_toInt (by omega)) rfl c_8
        have hno : ¬ okEn z2 SX SY k1 k2 k3 k4 := fun q9 => by unfold okEn okH at q9; first | omega | (obtain ⟨⟨_, _⟩, _, _, _, _, _, _, _⟩ := q9; first | omega | contradiction)
        rw [hQ]
        exact W.iret (v := (-1)) hx hb hr (fun t ht hW9 => ⟨⟨(-1), M, rfl, ⟨hW, hF, hG, ⟨hGI, ⟨0, fun _ => 0, fun w9 => absurd w9 hno, (by unfold sxEn syEn; rw [if_neg hno, if_neg hno]; exact hZS)⟩⟩, (by unfold anEn; rw [if_neg hno])⟩, ⟨3, by rw [ht]; exact hP, hD⟩⟩, hS.F ht⟩) hS.2.2 dX13_enters_54
    · have hz := rfl (a := 0)
      refine lv_if_ne (tgt := 32) hx hb dX13_enters_23 (by decide) (fun c_222 => absurd c_222 (by decide)) (fun _ => ?_)
      refine lv_aload_n hx hb dX13_enters_26 rfl (lv_at hl 0 rfl) ?_
      refine lv_iconst (v := 2) hx hb dX13_enters_27 (by decide) ?_
      have hPc := hP.sub (ws' := [(za, (b13_0 0 z1 (nI z2) (nI z3) z4 z5 z6 z7 z8 z9 (nI z10) z11 z12 z13 z14 z15 (nI z16) z17 z18 z19))]) [0] rfl
      have hDc := hD.sub (ws' := [(za, (b13_0 0 z1 (nI z2) (nI z3) z4 z5 z6 z7 z8 z9 (nI z10) z11 z12 z13 z14 z15 (nI z16) z17 z18 z19))]) [0] (by decide) rfl
      have hKc := hK.sub (tys' := []) [] rfl
      have hFc := va_free (wc := [(za, (b13_0 0 z1 (nI z2) (nI z3) z4 z5 z6 z7 z8 z9 (nI z10) z11 z12 z13 z14 z15 (nI z16) z17 z18 z19))]) hD hS hA [0] rfl
      refine va_calli (va_runV (As := [.int 2]) (rest := []) ⟨hx, hb, hml, hown, hg⟩ (m_refused l D H_11.size za 0 z1 (nI z2) (nI z3) z4 z5 z6 z7 z8 z9 (nI z10) z11 z12 z13 z14 z15 (nI z16) z17 z18 z19 2) (cwV 1 hg (gV wd_725 wd_726 wd_727 wd_717 wd_728) rfl rfl rfl (by decide +kernel) ⟨(Nat.le_trans (Nat.le_of_ble_eq_true rfl) hRf), (Nat.le_trans (Nat.le_of_ble_eq_true rfl) hRl)⟩) ⟨Pr.blind, va_recv hK hP (ci := 13) (q0 := 0) rfl rfl, fun U hU hW => ⟨rfl, Pr.at hPc hKc hDc hN hU hW⟩⟩ rfl rfl hl.1 rfl (lv_room (Nat.le_of_ble_eq_true rfl)) dX13_enters_28 ⟨(Nat.le_trans (Nat.le_of_ble_eq_true rfl) hRc), (Nat.le_trans (Nat.le_of_ble_eq_true rfl) hRs)⟩) hS (fun q _ h => hFc q h) hFc (fun r_224 M_225 t H_223 locs ht hvm hw hB hz1 hk1 hS => ?_)
      have hp_226 := hw
      obtain ⟨hP1, hK1, hD1⟩ := hB
      rw [ht] at hP1
      obtain ⟨hP, hD⟩ := va_joinQ (X := [(za, (b13_0 0 z1 (nI z2) (nI z3) z4 z5 z6 z7 z8 z9 (nI z10) z11 z12 z13 z14 z15 (nI z16) z17 z18 z19))]) (cx := [(za, (b13_0 0 z1 (nI z2) (nI z3) z4 z5 z6 z7 z8 z9 (nI z10) z11 z12 z13 z14 z15 (nI z16) z17 z18 z19))]) (wr := []) (w1 := [(za, (b13_0 0 z1 (nI z2) (nI z3) 2 (-1) z6 z7 z8 z9 (nI z10) z11 z12 z13 z14 z15 (nI z16) z17 z18 z19))]) (pl := va_pl L M) hP hD [0] [] rfl rfl (by decide) (by decide) hk1 hFc hP1 hD1
      have hP : va_P D vwCl ([(za, (b13_0 0 z1 (nI z2) (nI z3) 2 (-1) z6 z7 z8 z9 (nI z10) z11 z12 z13 z14 z15 (nI z16) z17 z18 z19))] ++ va_pl L M) H_223 := hP
      have hD : va_D A ([(za, (b13_0 0 z1 (nI z2) (nI z3) 2 (-1) z6 z7 z8 z9 (nI z10) z11 z12 z13 z14 z15 (nI z16) z17 z18 z19))] ++ va_pl L M) := hD
      have hq := Eq.symm hp_226
      subst hq
      have hI_227 : (0 : Int) ≤ (k1 : Int32).toInt := inltI rfl rfl c_7
      have hI_228 : (k1 : Int32).toInt < ((z2 : Nat) : Int) := inleI (nI_toInt (by omega)) rfl c_8
      have hno : ¬ okEn z2 SX SY k1 k2 k3 k4 := fun q9 => by unfold okEn okH at q9; first | omega | (obtain ⟨⟨_, _⟩, _, _, _, _, _, _, _⟩ := q9; first | omega | contradiction)
      rw [hQ]
      exact W.iret (v := (-1)) hx hb hr (fun t ht hW9 => ⟨⟨(-1), M, rfl, ⟨hW, hF, hG, ⟨hGI, ⟨0, fun _ => 0, fun w9 => absurd w9 hno, (by unfold sxEn syEn; rw [if_neg hno, if_neg hno]; exact hZS)⟩⟩, (by unfold anEn; rw [if_neg hno])⟩, ⟨2, by rw [ht]; exact hP, hD⟩⟩, hS.F ht⟩) hS.2.2 dX13_enters_31
  · have hz := rfl (a := 0)
    refine lv_if_ne (tgt := 19) hx hb dX13_enters_10 (by decide) (fun c_229 => absurd c_229 (by decide)) (fun _ => ?_)
    refine lv_aload_n hx hb dX13_enters_13 rfl (lv_at hl 0 rfl) ?_
    refine lv_iconst (v := 1) hx hb dX13_enters_14 (by decide) ?_
    have hPc := hP.sub (ws' := [(za, (b13_0 0 z1 (nI z2) (nI z3) z4 z5 z6 z7 z8 z9 (nI z10) z11 z12 z13 z14 z15 (nI z16) z17 z18 z19))]) [0] rfl
    have hDc := hD.sub (ws' := [(za, (b13_0 0 z1 (nI z2) (nI z3) z4 z5 z6 z7 z8 z9 (nI z10) z11 z12 z13 z14 z15 (nI z16) z17 z18 z19))]) [0] (by decide) rfl
    have hKc := hK.sub (tys' := []) [] rfl
    have hFc := va_free (wc := [(za, (b13_0 0 z1 (nI z2) (nI z3) z4 z5 z6 z7 z8 z9 (nI z10) z11 z12 z13 z14 z15 (nI z16) z17 z18 z19))]) hD hS hA [0] rfl
    refine va_calli (va_runV (As := [.int 1]) (rest := []) ⟨hx, hb, hml, hown, hg⟩ (m_refused l D H_2.size za 0 z1 (nI z2) (nI z3) z4 z5 z6 z7 z8 z9 (nI z10) z11 z12 z13 z14 z15 (nI z16) z17 z18 z19 1) (cwV 1 hg (gV wd_725 wd_726 wd_727 wd_717 wd_728) rfl rfl rfl (by decide +kernel) ⟨(Nat.le_trans (Nat.le_of_ble_eq_true rfl) hRf), (Nat.le_trans (Nat.le_of_ble_eq_true rfl) hRl)⟩) ⟨Pr.blind, va_recv hK hP (ci := 13) (q0 := 0) rfl rfl, fun U hU hW => ⟨rfl, Pr.at hPc hKc hDc hN hU hW⟩⟩ rfl rfl hl.1 rfl (lv_room (Nat.le_of_ble_eq_true rfl)) dX13_enters_15 ⟨(Nat.le_trans (Nat.le_of_ble_eq_true rfl) hRc), (Nat.le_trans (Nat.le_of_ble_eq_true rfl) hRs)⟩) hS (fun q _ h => hFc q h) hFc (fun r_231 M_232 t H_230 locs ht hvm hw hB hz1 hk1 hS => ?_)
    have hp_233 := hw
    obtain ⟨hP1, hK1, hD1⟩ := hB
    rw [ht] at hP1
    obtain ⟨hP, hD⟩ := va_joinQ (X := [(za, (b13_0 0 z1 (nI z2) (nI z3) z4 z5 z6 z7 z8 z9 (nI z10) z11 z12 z13 z14 z15 (nI z16) z17 z18 z19))]) (cx := [(za, (b13_0 0 z1 (nI z2) (nI z3) z4 z5 z6 z7 z8 z9 (nI z10) z11 z12 z13 z14 z15 (nI z16) z17 z18 z19))]) (wr := []) (w1 := [(za, (b13_0 0 z1 (nI z2) (nI z3) 1 (-1) z6 z7 z8 z9 (nI z10) z11 z12 z13 z14 z15 (nI z16) z17 z18 z19))]) (pl := va_pl L M) hP hD [0] [] rfl rfl (by decide) (by decide) hk1 hFc hP1 hD1
    have hP : va_P D vwCl ([(za, (b13_0 0 z1 (nI z2) (nI z3) 1 (-1) z6 z7 z8 z9 (nI z10) z11 z12 z13 z14 z15 (nI z16) z17 z18 z19))] ++ va_pl L M) H_230 := hP
    have hD : va_D A ([(za, (b13_0 0 z1 (nI z2) (nI z3) 1 (-1) z6 z7 z8 z9 (nI z10) z11 z12 z13 z14 z15 (nI z16) z17 z18 z19))] ++ va_pl L M) := hD
    have hq := Eq.symm hp_233
    subst hq
    have hno : ¬ okEn z2 SX SY k1 k2 k3 k4 := fun q9 => by unfold okEn okH at q9; first | omega | (obtain ⟨⟨_, _⟩, _, _, _, _, _, _, _⟩ := q9; first | omega | contradiction)
    rw [hQ]
    exact W.iret (v := (-1)) hx hb hr (fun t ht hW9 => ⟨⟨(-1), M, rfl, ⟨hW, hF, hG, ⟨hGI, ⟨0, fun _ => 0, fun w9 => absurd w9 hno, (by unfold sxEn syEn; rw [if_neg hno, if_neg hno]; exact hZS)⟩⟩, (by unfold anEn; rw [if_neg hno])⟩, ⟨1, by rw [ht]; exact hP, hD⟩⟩, hS.F ht⟩) hS.2.2 dX13_enters_18
set_option maxHeartbeats 4000000 in
set_option maxRecDepth 100000 in
theorem f_isTenure (l : Launch) (D : va_G) (cy : Nat → ClassId) (K : Kp) (L : List Nat) (M : Hp) (sz : Nat) (za : Nat) (z0 : Int32) (z1 : Nat) (z2 : Nat) (z3 : Nat) (z4 : Int32) (z5 : Int32) (z6 : Nat) (z7 : Nat) (z8 : Nat) (z9 : Nat) (z10 : Nat) (z11 : Nat) (z12 : Nat) (z13 : Nat) (z14 : Nat) (z15 : Nat) (z16 : Nat) (z17 : Nat) (z18 : Int32) (z19 : Nat) (k1 : Int32) (k2 : Int32) (SX : Nat → Nat → Int) (SY : Nat → Nat → Nat → Int32) (hW : WOM cy K L M) (i1 : isk K L z1 23 8) (b2 : z2 ≤ 8) (b3 : z3 ≤ 40) (i6 : isk K L z6 47 40) (i7 : isk K L z7 48 40) (i8 : isk K L z8 49 8) (i9 : isk K L z9 50 8) (b10 : z10 ≤ 8) (i11 : isk K L z11 32 24) (i12 : isk K L z12 14 24) (i13 : isk K L z13 97 24) (i14 : isk K L z14 98 24) (i15 : isk K L z15 99 24) (b16 : z16 ≤ 24) (i17 : isk K L z17 14 24) (i19 : isk K L z19 15 25) (hZS : ZSx z1 z2 SX SY M) : Met l yX13_isTenure (wsM yX13_isTenure cX13_isTenure 3 (some .boolean)) ({ frames := 1, cells := 0, slots := 0, locals := 21 }) (va_Pc [.ref za, .int k1, .int k2] (PG D cy [(za, (b13_0 z0 z1 (nI z2) (nI z3) z4 z5 z6 z7 z8 z9 (nI z10) z11 z12 z13 z14 z15 (nI z16) z17 z18 z19))] L M sz)) (va_Qi (fun (r : Int32) (_ : Unit) => (r = 1 ∧ (0 ≤ k1.toInt ∧ k1.toInt < (z2 : Int) ∧ 0 ≤ k2.toInt ∧ k2.toInt < SX k1.toNatClampNeg 10) ∧ ¬ k1 < 0 ∧ ¬ (nI z2) ≤ k1 ∧ ¬ k2 < 0 ∧ ¬ 24 ≤ k2) ∨ (r = 0 ∧ ¬ (0 ≤ k1.toInt ∧ k1.toInt < (z2 : Int) ∧ 0 ≤ k2.toInt ∧ k2.toInt < SX k1.toNatClampNeg 10))) (fun _ t => PQ D [(za, (b13_0 z0 z1 (nI z2) (nI z3) z4 z5 z6 z7 z8 z9 (nI z10) z11 z12 z13 z14 z15 (nI z16) z17 z18 z19))] L M (va_A ([(za, (b13_0 z0 z1 (nI z2) (nI z3) z4 z5 z6 z7 z8 z9 (nI z10) z11 z12 z13 z14 z15 (nI z16) z17 z18 z19))] ++ va_pl L M) sz) t) (va_A ([(za, (b13_0 z0 z1 (nI z2) (nI z3) z4 z5 z6 z7 z8 z9 (nI z10) z11 z12 z13 z14 z15 (nI z16) z17 z18 z19))] ++ va_pl L M) sz)) 0 0 (va_A ([(za, (b13_0 z0 z1 (nI z2) (nI z3) z4 z5 z6 z7 z8 z9 (nI z10) z11 z12 z13 z14 z15 (nI z16) z17 z18 z19))] ++ va_pl L M) sz) := by
  refine Met.ofW (cc := cX13_isTenure) (maxL := 3) (ret := (some .boolean)) (by decide) rfl ?_
  intro p e s m args below meth c s₁ B hml hv
  obtain ⟨rfl, hsz, hP, hK, hD0, hN⟩ := hv
  have hx := B.exec
  have hb := B.bytes
  have hr := B.returns
  have hts := atoms_spec (ws := (wsM yX13_isTenure cX13_isTenure 3 (some .boolean))) B.pre
  have hg : ∀ w ∈ lw_good, w.before _ s = true := fun w h => hts w (List.mem_cons_of_mem _ h)
  have hown : s.vm.findClass RX13 = some m.cls := findClass_of_methodNamed B.named
  have hlocks := B.notSynchronized
  subst hsz
  have hD := hD0.self (sz := s.heap.size)
  generalize hAe : va_A ([(za, (b13_0 z0 z1 (nI z2) (nI z3) z4 z5 z6 z7 z8 z9 (nI z10) z11 z12 z13 z14 z15 (nI z16) z17 z18 z19))] ++ va_pl L M) s.heap.size = A at hD ⊢
  have hA : ∀ q : Nat, s.heap.size ≤ q → A q := fun q h => by rw [← hAe]; exact Or.inr h
  have hS : va_S A s.heap s.heap [] := va_S.rf
  have hl := lv_entry ([.ref za, .int k1, .int k2]) (n := 3) (Nat.le_of_ble_eq_true rfl)
  rw [lg_entry_eq]
  generalize (lg_sl ([.ref za, .int k1, .int k2]) ++ List.replicate (3 - (lg_sl ([.ref za, .int k1, .int k2])).length) Slot.unset).toArray = ls at hl ⊢
  refine W.nameQ (fun Q hQ => ?_)
  refine W.nameR (fun R hR => ?_)
  have hRf : 1 ≤ R.frames := by rw [hR]; exact Nat.le_of_ble_eq_true rfl
  have hRl : 21 ≤ R.locals := by rw [hR]; exact Nat.le_of_ble_eq_true rfl
  have hRc : 0 ≤ R.cells := by rw [hR]; exact Nat.le_of_ble_eq_true rfl
  have hRs : 0 ≤ R.slots := by rw [hR]; exact Nat.le_of_ble_eq_true rfl
  have hl : lv_has ls 3 [(0, .ref za), (1, .int k1), (2, .int k2)] := hl
  refine lv_aload_n hx hb dX13_isTenure_0 rfl (lv_at hl 0 rfl) ?_
  refine lv_iload_n hx hb dX13_isTenure_1 rfl (lv_at hl 1 rfl) ?_
  have hPc : va_P D vwCl ([(za, (b13_0 z0 z1 (nI z2) (nI z3) z4 z5 z6 z7 z8 z9 (nI z10) z11 z12 z13 z14 z15 (nI z16) z17 z18 z19))] ++ va_pl L M) s.heap := hP
  have hDc : va_D A ([(za, (b13_0 z0 z1 (nI z2) (nI z3) z4 z5 z6 z7 z8 z9 (nI z10) z11 z12 z13 z14 z15 (nI z16) z17 z18 z19))] ++ va_pl L M) := hD
  have hFc : ∀ q, va_A ([(za, (b13_0 z0 z1 (nI z2) (nI z3) z4 z5 z6 z7 z8 z9 (nI z10) z11 z12 z13 z14 z15 (nI z16) z17 z18 z19))] ++ va_pl L M) s.heap.size q → A q := pg_free hDc hS hA
  refine va_calli (va_runV (As := [.int k1]) (rest := []) ⟨hx, hb, hml, hown, hg⟩ (f_isHouse l D cy K L M s.heap.size za z0 z1 z2 z3 z4 z5 z6 z7 z8 z9 z10 z11 z12 z13 z14 z15 z16 z17 z18 z19 k1  hW i1 b2 b3 i6 i7 i8 i9 b10 i11 i12 i13 i14 i15 b16 i17 i19) (cwV 1 hg (gV wd_714 wd_715 wd_716 wd_717 wd_718) rfl rfl rfl (by decide +kernel) ⟨(Nat.le_trans (Nat.le_of_ble_eq_true rfl) hRf), (Nat.le_trans (Nat.le_of_ble_eq_true rfl) hRl)⟩) ⟨PG.blind, va_recv hK hP (ci := 13) (q0 := 0) rfl rfl, fun U hU hW => ⟨rfl, PG.at hPc hK hDc hN hU hW⟩⟩ rfl rfl hl.1 rfl (lv_room (Nat.le_of_ble_eq_true rfl)) dX13_isTenure_2 ⟨(Nat.le_trans (Nat.le_of_ble_eq_true rfl) hRc), (Nat.le_trans (Nat.le_of_ble_eq_true rfl) hRs)⟩) hS (fun q _ h => hFc q h) hFc (fun r_2 M_3 t H_1 locs ht hvm hw hB hz1 hk1 hS => ?_)
  have hp_4 := hw
  obtain ⟨hP1, hD1⟩ := hB
  rw [ht] at hP1
  have hP : va_P D vwCl ([(za, (b13_0 z0 z1 (nI z2) (nI z3) z4 z5 z6 z7 z8 z9 (nI z10) z11 z12 z13 z14 z15 (nI z16) z17 z18 z19))] ++ va_pl L M) H_1 := hP1
  have hD : va_D A ([(za, (b13_0 z0 z1 (nI z2) (nI z3) z4 z5 z6 z7 z8 z9 (nI z10) z11 z12 z13 z14 z15 (nI z16) z17 z18 z19))] ++ va_pl L M) := hD1.mono hFc
  rcases hp_4 with ⟨rfl, c_5, c_6, c_7⟩ | ⟨rfl, c_8⟩
  · have hz := rfl (a := 0)
    refine lv_if_eq (tgt := 29) hx hb dX13_isTenure_5 (by decide) (fun c_9 => absurd c_9 (by decide)) (fun _ => ?_)
    refine lv_iload_n hx hb dX13_isTenure_8 rfl (lv_at hl 2 rfl) ?_
    refine lv_if_lt (tgt := 29) hx hb dX13_isTenure_9 (by decide) (fun c_10 => ?_) (fun c_10 => ?_)
    · have hz := rfl (a := 0)
      refine lv_iconst (v := 0) hx hb dX13_isTenure_29 (by decide) ?_
      have hI_11 : (0 : Int) ≤ (k1 : Int32).toInt := inltI rfl rfl c_6
      have hI_12 : (k1 : Int32).toInt < ((z2 : Nat) : Int) := inleI (nI_toInt (by omega)) rfl c_7
      have hI_13 : (k2 : Int32).toInt < (0 : Int) := iltI rfl rfl c_10
      rw [hQ]
      exact W.zret (v := 0) hx hb hr rfl (fun t ht hW9 => ⟨⟨0, (), rfl, (Or.inr ⟨rfl, by omega⟩), ⟨by rw [ht]; exact hP, hD⟩⟩, hS.F ht⟩) hS.2.2 dX13_isTenure_30
    · have hz := rfl (a := 0)
      refine lv_iload_n hx hb dX13_isTenure_12 rfl (lv_at hl 2 rfl) ?_
      refine lv_aload_n hx hb dX13_isTenure_13 rfl (lv_at hl 0 rfl) ?_
      refine va_get (D := D) (ci := 13) (v := .ref z1) (C := RX13) (T := TX13) (N := 20) hx hb hg inG13 hown hK hP 0 rfl rfl 1 (by decide) (hg _ wd_739) (fun _ h9 => h9) rfl dX13_isTenure_14 ?_
      refine lv_iload_n hx hb dX13_isTenure_17 rfl (lv_at hl 1 rfl) ?_
      obtain ⟨f14, hM14, hf14⟩ := hW.open_23 i1
      have hi_15 : vp_in k1 8 := (inbW (a := z2) (by omega) (inb k1 z2 (by omega) c_6 c_7))
      refine pg_aldq hx hb hK hP i1.1 9 hM14 rfl hi_15 dX13_isTenure_18 ?_
      obtain ⟨b16, eb_17, hb_18⟩ := hf14 _ (vp_lt hi_15)
      rw [eb_17]
      obtain ⟨fs19, hM19, hn19, hl19⟩ := hW.open_12 hb_18
      obtain ⟨v20, hv20, hc20⟩ : ∃ v : Nat, fs19[10]? = some (.int (nI v) : Value) ∧ v ≤ 24 := hl19 10 (by decide)
      refine pg_getN (D := D) (ci := 12) (v := .int (nI v20)) (C := RX12) (T := TX12) (N := 51) hx hb hg inG12 hown hK hP hb_18.1 hM19 rfl 10 (by decide) (hN.use (Cond.fieldLinkNest RX13 68 RX12 "tenures" "I" RX13) 19 rfl rfl) (fun _ h9 => h9) hv20 dX13_isTenure_19 ?_
      refine lv_icmp_ge (tgt := 29) hx hb dX13_isTenure_22 (by decide) (fun c_21 => ?_) (fun c_21 => ?_)
      · have hz := rfl (a := 0)
        refine lv_iconst (v := 0) hx hb dX13_isTenure_29 (by decide) ?_
        have hI_22 : (0 : Int) ≤ (k1 : Int32).toInt := inltI rfl rfl c_6
        have hI_23 : (k1 : Int32).toInt < ((z2 : Nat) : Int) := inleI (nI_toInt (by omega)) rfl c_7
        have hI_24 : (0 : Int) ≤ (k2 : Int32).toInt := inltI rfl rfl c_10
        have hI_25 : ((v20 : Nat) : Int) ≤ (k2 : Int32).toInt := ileI (nI_toInt (by omega)) rfl c_21
        have hkn : (k1 : Int32).toNatClampNeg < z2 := vp_lt (inb k1 z2 (by omega) c_6 c_7)
        have hb9 : RFc (M z1) (k1 : Int32).toNatClampNeg = some b16 := by rw [show RFc (M z1) = f14 from by rw [hM14]; rfl]; exact eb_17
        have hx10 : SX (k1 : Int32).toNatClampNeg 10 = ((v20 : Nat) : Int) := (congrFun (hZS _ b16 hkn hb9).1 10).symm.trans ((fx_of hM19 rfl hv20).trans (nI_toInt (by omega)))
        rw [hQ]
        exact W.zret (v := 0) hx hb hr rfl (fun t ht hW9 => ⟨⟨0, (), rfl, (Or.inr ⟨rfl, by omega⟩), ⟨by rw [ht]; exact hP, hD⟩⟩, hS.F ht⟩) hS.2.2 dX13_isTenure_30
      · have hz := rfl (a := 0)
        have n_26 : ¬ 24 ≤ k2 := ltB (b := 24) (by decide) hc20 (Int32.not_le.mp c_21)
        refine lv_iconst (v := 1) hx hb dX13_isTenure_25 (by decide) ?_
        refine lv_goto (tgt := 30) hx hb dX13_isTenure_26 (by decide) ?_
        have hI_27 : (0 : Int) ≤ (k1 : Int32).toInt := inltI rfl rfl c_6
        have hI_28 : (k1 : Int32).toInt < ((z2 : Nat) : Int) := inleI (nI_toInt (by omega)) rfl c_7
        have hI_29 : (0 : Int) ≤ (k2 : Int32).toInt := inltI rfl rfl c_10
        have hI_30 : (k2 : Int32).toInt < ((v20 : Nat) : Int) := inleI (nI_toInt (by omega)) rfl c_21
        have hI_31 : (k2 : Int32).toInt < (24 : Int) := inleI rfl rfl n_26
        have hkn : (k1 : Int32).toNatClampNeg < z2 := vp_lt (inb k1 z2 (by omega) c_6 c_7)
        have hb9 : RFc (M z1) (k1 : Int32).toNatClampNeg = some b16 := by rw [show RFc (M z1) = f14 from by rw [hM14]; rfl]; exact eb_17
        have hx10 : SX (k1 : Int32).toNatClampNeg 10 = ((v20 : Nat) : Int) := (congrFun (hZS _ b16 hkn hb9).1 10).symm.trans ((fx_of hM19 rfl hv20).trans (nI_toInt (by omega)))
        rw [hQ]
        exact W.zret (v := 1) hx hb hr rfl (fun t ht hW9 => ⟨⟨1, (), rfl, (Or.inl ⟨rfl, by omega, c_6, c_7, c_10, n_26⟩), ⟨by rw [ht]; exact hP, hD⟩⟩, hS.F ht⟩) hS.2.2 dX13_isTenure_30
  · have hz := rfl (a := 0)
    refine lv_if_eq (tgt := 29) hx hb dX13_isTenure_5 (by decide) (fun _ => ?_) (fun c_32 => absurd c_32 (by decide))
    refine lv_iconst (v := 0) hx hb dX13_isTenure_29 (by decide) ?_
    rw [hQ]
    exact W.zret (v := 0) hx hb hr rfl (fun t ht hW9 => ⟨⟨0, (), rfl, (Or.inr ⟨rfl, by omega⟩), ⟨by rw [ht]; exact hP, hD⟩⟩, hS.F ht⟩) hS.2.2 dX13_isTenure_30
set_option maxHeartbeats 4000000 in
set_option maxRecDepth 100000 in
theorem f_isIn (l : Launch) (D : va_G) (cy : Nat → ClassId) (K : Kp) (L : List Nat) (M : Hp) (sz : Nat) (oa : Nat) (k1 : Nat) (k2 : Int32) (hW : WOM cy K L M) (ia : isk K L oa 12 0) (nk1 : k1 < 24) : Met l yX12_isIn (wsM yX12_isIn cX12_isIn 3 (some .boolean)) ({ frames := 0, cells := 0, slots := 0, locals := 0 }) (va_Pc [.ref oa, .int (nI k1), .int k2] (PG D cy [] L M sz)) (va_Qi (fun (r : Int32) (_ : Unit) => (r = 1 ∧ ((ax M oa 21 k1).toInt ≤ k2.toInt ∧ ((ax M oa 22 k1).toInt = -1 ∨ k2.toInt < (ax M oa 22 k1).toInt))) ∨ (r = 0 ∧ ¬ ((ax M oa 21 k1).toInt ≤ k2.toInt ∧ ((ax M oa 22 k1).toInt = -1 ∨ k2.toInt < (ax M oa 22 k1).toInt)))) (fun _ t => PQ D [] L M (va_A ([] ++ va_pl L M) sz) t) (va_A ([] ++ va_pl L M) sz)) 0 0 (va_A ([] ++ va_pl L M) sz) := by
  refine Met.ofW (cc := cX12_isIn) (maxL := 3) (ret := (some .boolean)) (by decide) rfl ?_
  intro p e s m args below meth c s₁ B hml hv
  obtain ⟨rfl, hsz, hP, hK, hD0, hN⟩ := hv
  have hx := B.exec
  have hb := B.bytes
  have hr := B.returns
  have hts := atoms_spec (ws := (wsM yX12_isIn cX12_isIn 3 (some .boolean))) B.pre
  have hg : ∀ w ∈ lw_good, w.before _ s = true := fun w h => hts w (List.mem_cons_of_mem _ h)
  have hown : s.vm.findClass RX12 = some m.cls := findClass_of_methodNamed B.named
  have hlocks := B.notSynchronized
  subst hsz
  have hD := hD0.self (sz := s.heap.size)
  generalize hAe : va_A ([] ++ va_pl L M) s.heap.size = A at hD ⊢
  have hA : ∀ q : Nat, s.heap.size ≤ q → A q := fun q h => by rw [← hAe]; exact Or.inr h
  have hS : va_S A s.heap s.heap [] := va_S.rf
  have hl := lv_entry ([.ref oa, .int (nI k1), .int k2]) (n := 3) (Nat.le_of_ble_eq_true rfl)
  rw [lg_entry_eq]
  generalize (lg_sl ([.ref oa, .int (nI k1), .int k2]) ++ List.replicate (3 - (lg_sl ([.ref oa, .int (nI k1), .int k2])).length) Slot.unset).toArray = ls at hl ⊢
  refine W.nameQ (fun Q hQ => ?_)
  refine W.nameR (fun R hR => ?_)
  have hRf : 0 ≤ R.frames := by rw [hR]; exact Nat.le_of_ble_eq_true rfl
  have hRl : 0 ≤ R.locals := by rw [hR]; exact Nat.le_of_ble_eq_true rfl
  have hRc : 0 ≤ R.cells := by rw [hR]; exact Nat.le_of_ble_eq_true rfl
  have hRs : 0 ≤ R.slots := by rw [hR]; exact Nat.le_of_ble_eq_true rfl
  have hl : lv_has ls 3 [(0, .ref oa), (1, .int (nI k1)), (2, .int k2)] := hl
  refine lv_aload_n hx hb dX12_isIn_0 rfl (lv_at hl 0 rfl) ?_
  obtain ⟨fs1, hM1, hn1, hl1⟩ := hW.open_12 ia
  obtain ⟨v2, hv2, hc2⟩ : ∃ v : Nat, fs1[21]? = some (.ref v : Value) ∧ isk K L v 75 24 := hl1 21 (by decide)
  refine pg_get (D := D) (ci := 12) (v := .ref v2) (C := RX12) (T := TX12) (N := 51) hx hb hg inG12 hown hK hP ia.1 hM1 rfl 21 (by decide) (hg _ wd_700) (fun _ h9 => h9) hv2 dX12_isIn_1 ?_
  refine lv_iload_n hx hb dX12_isIn_4 rfl (lv_at hl 1 rfl) ?_
  obtain ⟨f3, hM3⟩ := hW.open_75 hc2
  refine pg_iald hx hb hK hP hc2.1 0 hM3 rfl (inbN k1 24 (by omega) (by omega)) dX12_isIn_5 ?_
  refine lv_topi (fun f_4 ef_4 => ?_)
  refine lv_iload_n hx hb dX12_isIn_6 rfl (lv_at hl 2 rfl) ?_
  refine lv_icmp_gt (tgt := 34) hx hb dX12_isIn_7 (by decide) (fun c_5 => ?_) (fun c_5 => ?_)
  · have hz := rfl (a := 0)
    refine lv_iconst (v := 0) hx hb dX12_isIn_34 (by decide) ?_
    have hI_6 : (k2 : Int32).toInt < (f_4 : Int32).toInt := iltI rfl rfl c_5
    have hr_7 : (ax M oa 21 k1).toInt = (f_4 : Int32).toInt := by rw [ax_of hM1 (by decide) hv2 hM3, ef_4, nI_cl (by omega)]
    rw [hQ]
    exact W.zret (v := 0) hx hb hr rfl (fun t ht hW9 => ⟨⟨0, (), rfl, (Or.inr ⟨rfl, by omega⟩), ⟨by rw [ht]; exact hP, hD⟩⟩, hS.F ht⟩) hS.2.2 dX12_isIn_35
  · have hz := rfl (a := 0)
    refine lv_aload_n hx hb dX12_isIn_10 rfl (lv_at hl 0 rfl) ?_
    obtain ⟨v8, hv8, hc8⟩ : ∃ v : Nat, fs1[22]? = some (.ref v : Value) ∧ isk K L v 41 24 := hl1 22 (by decide)
    refine pg_get (D := D) (ci := 12) (v := .ref v8) (C := RX12) (T := TX12) (N := 51) hx hb hg inG12 hown hK hP ia.1 hM1 rfl 22 (by decide) (hg _ wd_701) (fun _ h9 => h9) hv8 dX12_isIn_11 ?_
    refine lv_iload_n hx hb dX12_isIn_14 rfl (lv_at hl 1 rfl) ?_
    obtain ⟨f9, hM9⟩ := hW.open_41 hc8
    refine pg_iald hx hb hK hP hc8.1 0 hM9 rfl (inbN k1 24 (by omega) (by omega)) dX12_isIn_15 ?_
    refine lv_topi (fun f_10 ef_10 => ?_)
    refine lv_iconst (v := (-1)) hx hb dX12_isIn_16 (by decide) ?_
    refine lv_icmp_eq (tgt := 30) hx hb dX12_isIn_17 (by decide) (fun c_11 => ?_) (fun c_11 => ?_)
    · have hz := rfl (a := 0)
      refine lv_iconst (v := 1) hx hb dX12_isIn_30 (by decide) ?_
      refine lv_goto (tgt := 35) hx hb dX12_isIn_31 (by decide) ?_
      have hI_12 : (f_4 : Int32).toInt ≤ (k2 : Int32).toInt := inltI rfl rfl c_5
      have hI_13 : (f_10 : Int32).toInt = (-1) := ieqI rfl rfl c_11
      have hr_14 : (ax M oa 21 k1).toInt = (f_4 : Int32).toInt := by rw [ax_of hM1 (by decide) hv2 hM3, ef_4, nI_cl (by omega)]
      have hr_15 : (ax M oa 22 k1).toInt = (f_10 : Int32).toInt := by rw [ax_of hM1 (by decide) hv8 hM9, ef_10, nI_cl (by omega)]
      rw [hQ]
      exact W.zret (v := 1) hx hb hr rfl (fun t ht hW9 => ⟨⟨1, (), rfl, (Or.inl ⟨rfl, by omega⟩), ⟨by rw [ht]; exact hP, hD⟩⟩, hS.F ht⟩) hS.2.2 dX12_isIn_35
    · have hz := rfl (a := 0)
      refine lv_iload_n hx hb dX12_isIn_20 rfl (lv_at hl 2 rfl) ?_
      refine lv_aload_n hx hb dX12_isIn_21 rfl (lv_at hl 0 rfl) ?_
      refine pg_get (D := D) (ci := 12) (v := .ref v8) (C := RX12) (T := TX12) (N := 51) hx hb hg inG12 hown hK hP ia.1 hM1 rfl 22 (by decide) (hg _ wd_701) (fun _ h9 => h9) hv8 dX12_isIn_22 ?_
      refine lv_iload_n hx hb dX12_isIn_25 rfl (lv_at hl 1 rfl) ?_
      refine pg_iald hx hb hK hP hc8.1 0 hM9 rfl (inbN k1 24 (by omega) (by omega)) dX12_isIn_26 ?_
      refine lv_topi (fun f_16 ef_16 => ?_)
      refine lv_icmp_ge (tgt := 34) hx hb dX12_isIn_27 (by decide) (fun c_17 => ?_) (fun c_17 => ?_)
      · have hz := rfl (a := 0)
        refine lv_iconst (v := 0) hx hb dX12_isIn_34 (by decide) ?_
        have hI_18 : (f_4 : Int32).toInt ≤ (k2 : Int32).toInt := inltI rfl rfl c_5
        have hI_19 : (f_10 : Int32).toInt ≠ (-1) := ineI rfl rfl c_11
        have hI_20 : (f_16 : Int32).toInt ≤ (k2 : Int32).toInt := ileI rfl rfl c_17
        have hr_21 : (ax M oa 21 k1).toInt = (f_4 : Int32).toInt := by rw [ax_of hM1 (by decide) hv2 hM3, ef_4, nI_cl (by omega)]
        have hr_22 : (ax M oa 22 k1).toInt = (f_10 : Int32).toInt := by rw [ax_of hM1 (by decide) hv8 hM9, ef_10, nI_cl (by omega)]
        have hr_23 : (ax M oa 22 k1).toInt = (f_16 : Int32).toInt := by rw [ax_of hM1 (by decide) hv8 hM9, ef_16, nI_cl (by omega)]
        rw [hQ]
        exact W.zret (v := 0) hx hb hr rfl (fun t ht hW9 => ⟨⟨0, (), rfl, (Or.inr ⟨rfl, by omega⟩), ⟨by rw [ht]; exact hP, hD⟩⟩, hS.F ht⟩) hS.2.2 dX12_isIn_35
      · have hz := rfl (a := 0)
        refine lv_iconst (v := 1) hx hb dX12_isIn_30 (by decide) ?_
        refine lv_goto (tgt := 35) hx hb dX12_isIn_31 (by decide) ?_
        have hI_24 : (f_4 : Int32).toInt ≤ (k2 : Int32).toInt := inltI rfl rfl c_5
        have hI_25 : (f_10 : Int32).toInt ≠ (-1) := ineI rfl rfl c_11
        have hI_26 : (k2 : Int32).toInt < (f_16 : Int32).toInt := inleI rfl rfl c_17
        have hr_27 : (ax M oa 21 k1).toInt = (f_4 : Int32).toInt := by rw [ax_of hM1 (by decide) hv2 hM3, ef_4, nI_cl (by omega)]
        have hr_28 : (ax M oa 22 k1).toInt = (f_10 : Int32).toInt := by rw [ax_of hM1 (by decide) hv8 hM9, ef_10, nI_cl (by omega)]
        have hr_29 : (ax M oa 22 k1).toInt = (f_16 : Int32).toInt := by rw [ax_of hM1 (by decide) hv8 hM9, ef_16, nI_cl (by omega)]
        rw [hQ]
        exact W.zret (v := 1) hx hb hr rfl (fun t ht hW9 => ⟨⟨1, (), rfl, (Or.inl ⟨rfl, by omega⟩), ⟨by rw [ht]; exact hP, hD⟩⟩, hS.F ht⟩) hS.2.2 dX12_isIn_35
set_option maxHeartbeats 4000000 in
set_option maxRecDepth 100000 in
theorem z_move (l : Launch) (D : va_G) (cy : Nat → ClassId) (K : Kp) (L : List Nat) (M : Hp) (sz : Nat) (za : Nat) (z0 : Int32) (z1 : Nat) (z2 : Nat) (z3 : Nat) (z4 : Int32) (z5 : Int32) (z6 : Nat) (z7 : Nat) (z8 : Nat) (z9 : Nat) (z10 : Nat) (z11 : Nat) (z12 : Nat) (z13 : Nat) (z14 : Nat) (z15 : Nat) (z16 : Nat) (z17 : Nat) (z18 : Int32) (z19 : Nat) (k1 : Int32) (k2 : Int32) (k3 : Int32) (k4 : Int32) (k5 : Int32) (SX : Nat → Nat → Int) (SY : Nat → Nat → Nat → Int32) (hW : WOM cy K L M) (i1 : isk K L z1 23 8) (b2 : z2 ≤ 8) (b3 : z3 ≤ 40) (i6 : isk K L z6 47 40) (i7 : isk K L z7 48 40) (i8 : isk K L z8 49 8) (i9 : isk K L z9 50 8) (b10 : z10 ≤ 8) (i11 : isk K L z11 32 24) (i12 : isk K L z12 14 24) (i13 : isk K L z13 97 24) (i14 : isk K L z14 98 24) (i15 : isk K L z15 99 24) (b16 : z16 ≤ 24) (i17 : isk K L z17 14 24) (i19 : isk K L z19 15 25) (zk5 : (k5 = 0 ∨ k5 = 1)) (hGI : GI K L z1 z2 M) (hZS : ZSx z1 z2 SX SY M) : Met l yX13_move (wsM yX13_move cX13_move 7 (some .int)) ({ frames := 2, cells := 0, slots := 0, locals := 43 }) (va_Pc [.ref za, .int k1, .int k2, .int k3, .int k4, .int k5] (PG D cy [(za, (b13_0 z0 z1 (nI z2) (nI z3) z4 z5 z6 z7 z8 z9 (nI z10) z11 z12 z13 z14 z15 (nI z16) z17 z18 z19))] L M sz)) (va_Qi (fun (r : Int32) (M9 : Hp) => WOM cy K L M9 ∧ fr K L [12, 14, 32, 36, 79, 80, 81] M M9 ∧ fG K L [14, 16] M M9 ∧ (GI K L z1 z2 M9 ∧ ∃ (n9 : Int) (l9 : Nat → Int32), (okMv z2 SX SY k1 k2 k3 k4 → REMF (SX k1.toNatClampNeg 16) (SY k1.toNatClampNeg 43) (-1) n9 l9) ∧ ZSx z1 z2 (sxMv z2 SX SY k1 k2 k3 k4 n9) (syMv z2 SX SY k1 k2 k3 k4 k5 l9) M9) ∧ ((r = anMv z2 SX SY k1 k2 k3 k4))) (fun M9 t => ∃ (w4 : Int32), PQ D [(za, (b13_0 0 z1 (nI z2) (nI z3) w4 (-1) z6 z7 z8 z9 (nI z10) z11 z12 z13 z14 z15 (nI z16) z17 z18 z19))] L M9 (va_A ([(za, (b13_0 z0 z1 (nI z2) (nI z3) z4 z5 z6 z7 z8 z9 (nI z10) z11 z12 z13 z14 z15 (nI z16) z17 z18 z19))] ++ va_pl L M) sz) t) (va_A ([(za, (b13_0 z0 z1 (nI z2) (nI z3) z4 z5 z6 z7 z8 z9 (nI z10) z11 z12 z13 z14 z15 (nI z16) z17 z18 z19))] ++ va_pl L M) sz)) 0 0 (va_A ([(za, (b13_0 z0 z1 (nI z2) (nI z3) z4 z5 z6 z7 z8 z9 (nI z10) z11 z12 z13 z14 z15 (nI z16) z17 z18 z19))] ++ va_pl L M) sz) := by
  refine Met.ofW (cc := cX13_move) (maxL := 7) (ret := (some .int)) (by decide) rfl ?_
  intro p e s m args below meth c s₁ B hml hv
  obtain ⟨rfl, hsz, hP, hK, hD0, hN⟩ := hv
  have hx := B.exec
  have hb := B.bytes
  have hr := B.returns
  have hts := atoms_spec (ws := (wsM yX13_move cX13_move 7 (some .int))) B.pre
  have hg : ∀ w ∈ lw_good, w.before _ s = true := fun w h => hts w (List.mem_cons_of_mem _ h)
  have hown : s.vm.findClass RX13 = some m.cls := findClass_of_methodNamed B.named
  have hlocks := B.notSynchronized
  subst hsz
  have hD := hD0.self (sz := s.heap.size)
  generalize hAe : va_A ([(za, (b13_0 z0 z1 (nI z2) (nI z3) z4 z5 z6 z7 z8 z9 (nI z10) z11 z12 z13 z14 z15 (nI z16) z17 z18 z19))] ++ va_pl L M) s.heap.size = A at hD ⊢
  have hA : ∀ q : Nat, s.heap.size ≤ q → A q := fun q h => by rw [← hAe]; exact Or.inr h
  have hS : va_S A s.heap s.heap [] := va_S.rf
  have hl := lv_entry ([.ref za, .int k1, .int k2, .int k3, .int k4, .int k5]) (n := 7) (Nat.le_of_ble_eq_true rfl)
  rw [lg_entry_eq]
  generalize (lg_sl ([.ref za, .int k1, .int k2, .int k3, .int k4, .int k5]) ++ List.replicate (7 - (lg_sl ([.ref za, .int k1, .int k2, .int k3, .int k4, .int k5])).length) Slot.unset).toArray = ls at hl ⊢
  refine W.nameQ (fun Q hQ => ?_)
  refine W.nameR (fun R hR => ?_)
  have hRf : 2 ≤ R.frames := by rw [hR]; exact Nat.le_of_ble_eq_true rfl
  have hRl : 43 ≤ R.locals := by rw [hR]; exact Nat.le_of_ble_eq_true rfl
  have hRc : 0 ≤ R.cells := by rw [hR]; exact Nat.le_of_ble_eq_true rfl
  have hRs : 0 ≤ R.slots := by rw [hR]; exact Nat.le_of_ble_eq_true rfl
  have hF : fr K L [12, 14, 32, 36, 79, 80, 81] M M := fr.rf
  have hG : fG K L [14, 16] M M := fG.rf
  have hl : lv_has ls 7 [(0, .ref za), (1, .int k1), (2, .int k2), (3, .int k3), (4, .int k4), (5, .int k5)] := hl
  have hW0 := hW
  refine lv_aload_n hx hb dX13_move_0 rfl (lv_at hl 0 rfl) ?_
  refine lv_iconst (v := 0) hx hb dX13_move_1 (by decide) ?_
  refine va_put (D := D) (ci := 13) (v := .int 0) (ty := .int) (C := RX13) (T := TX13) (N := 20) hx hb hg inG13 tyX13 tyX13_ok nmX13 hown hK hP hD hS 0 rfl rfl 0 (by decide) (hg _ wd_720) (fun _ h9 => h9) rfl (by decide +kernel) rfl rfl (Nat.le_of_ble_eq_true rfl) dX13_move_2 (fun H_1 locs hP hD hS => ?_)
  have hP : va_P D vwCl ([(za, (b13_0 0 z1 (nI z2) (nI z3) z4 z5 z6 z7 z8 z9 (nI z10) z11 z12 z13 z14 z15 (nI z16) z17 z18 z19))] ++ va_pl L M) H_1 := hP
  have hD : va_D A ([(za, (b13_0 0 z1 (nI z2) (nI z3) z4 z5 z6 z7 z8 z9 (nI z10) z11 z12 z13 z14 z15 (nI z16) z17 z18 z19))] ++ va_pl L M) := hD
  refine lv_aload_n hx hb dX13_move_5 rfl (lv_at hl 0 rfl) ?_
  refine lv_iload_n hx hb dX13_move_6 rfl (lv_at hl 1 rfl) ?_
  refine lv_iload_n hx hb dX13_move_7 rfl (lv_at hl 2 rfl) ?_
  have hPc : va_P D vwCl ([(za, (b13_0 0 z1 (nI z2) (nI z3) z4 z5 z6 z7 z8 z9 (nI z10) z11 z12 z13 z14 z15 (nI z16) z17 z18 z19))] ++ va_pl L M) H_1 := hP
  have hDc : va_D A ([(za, (b13_0 0 z1 (nI z2) (nI z3) z4 z5 z6 z7 z8 z9 (nI z10) z11 z12 z13 z14 z15 (nI z16) z17 z18 z19))] ++ va_pl L M) := hD
  have hFc : ∀ q, va_A ([(za, (b13_0 0 z1 (nI z2) (nI z3) z4 z5 z6 z7 z8 z9 (nI z10) z11 z12 z13 z14 z15 (nI z16) z17 z18 z19))] ++ va_pl L M) H_1.size q → A q := pg_free hDc hS hA
  refine va_calli (va_runV (As := [.int k1, .int k2]) (rest := []) ⟨hx, hb, hml, hown, hg⟩ (f_isTenure l D cy K L M H_1.size za 0 z1 z2 z3 z4 z5 z6 z7 z8 z9 z10 z11 z12 z13 z14 z15 z16 z17 z18 z19 k1 k2 SX SY  hW i1 b2 b3 i6 i7 i8 i9 b10 i11 i12 i13 i14 i15 b16 i17 i19 hZS) (cwV 2 hg (gV wd_740 wd_741 wd_742 wd_717 wd_743) rfl rfl rfl (by decide +kernel) ⟨(Nat.le_trans (Nat.le_of_ble_eq_true rfl) hRf), (Nat.le_trans (Nat.le_of_ble_eq_true rfl) hRl)⟩) ⟨PG.blind, va_recv hK hP (ci := 13) (q0 := 0) rfl rfl, fun U hU hW => ⟨rfl, PG.at hPc hK hDc hN hU hW⟩⟩ rfl rfl hl.1 rfl (lv_room (Nat.le_of_ble_eq_true rfl)) dX13_move_8 ⟨(Nat.le_trans (Nat.le_of_ble_eq_true rfl) hRc), (Nat.le_trans (Nat.le_of_ble_eq_true rfl) hRs)⟩) hS (fun q _ h => hFc q h) hFc (fun r_3 M_4 t H_2 locs ht hvm hw hB hz1 hk1 hS => ?_)
  have hp_5 := hw
  obtain ⟨hP1, hD1⟩ := hB
  rw [ht] at hP1
  have hP : va_P D vwCl ([(za, (b13_0 0 z1 (nI z2) (nI z3) z4 z5 z6 z7 z8 z9 (nI z10) z11 z12 z13 z14 z15 (nI z16) z17 z18 z19))] ++ va_pl L M) H_2 := hP1
  have hD : va_D A ([(za, (b13_0 0 z1 (nI z2) (nI z3) z4 z5 z6 z7 z8 z9 (nI z10) z11 z12 z13 z14 z15 (nI z16) z17 z18 z19))] ++ va_pl L M) := hD1.mono hFc
  rcases hp_5 with ⟨rfl, c_6, c_7, c_8, c_9, c_10⟩ | ⟨rfl, c_11⟩
  · have hz := rfl (a := 0)
    refine lv_if_ne (tgt := 20) hx hb dX13_move_11 (by decide) (fun _ => ?_) (fun c_12 => absurd c_12 (by decide))
    refine lv_iload hx hb dX13_move_20 (lv_at hl 4 rfl) ?_
    have hPc : va_P D vwCl ([] ++ va_pl L M) H_2 := hP.part (cx := []) [] rfl
    have hDc : va_D A ([] ++ va_pl L M) := hD.part (cx := []) [] (by decide) rfl
    have hFc : ∀ q, va_A ([] ++ va_pl L M) H_2.size q → A q := pg_free hDc hS hA
    refine va_calli (va_runS (As := [.int k4]) (rest := []) ⟨hx, hb, hml, hown, hg⟩ (f_isSum l D cy K L M H_2.size k4  hW ) (va_cwS 1 hg (gS wd_774 wd_775 wd_717 wd_776) rfl rfl rfl (by decide +kernel) ⟨(Nat.le_trans (Nat.le_of_ble_eq_true rfl) hRf), (Nat.le_trans (Nat.le_of_ble_eq_true rfl) hRl)⟩) ⟨PG.blind, fun U hU hW => ⟨rfl, PG.at hPc hK hDc hN hU hW⟩⟩ rfl rfl hl.1 rfl (lv_room (Nat.le_of_ble_eq_true rfl)) dX13_move_22 ⟨(Nat.le_trans (Nat.le_of_ble_eq_true rfl) hRc), (Nat.le_trans (Nat.le_of_ble_eq_true rfl) hRs)⟩) hS (fun q _ h => hFc q h) hFc (fun r_14 M_15 t H_13 locs ht hvm hw hB hz1 hk1 hS => ?_)
    have hp_16 := hw
    obtain ⟨hP1, hD1⟩ := hB
    rw [ht] at hP1
    obtain ⟨hP, hD⟩ := va_joinP (X := [(za, (b13_0 0 z1 (nI z2) (nI z3) z4 z5 z6 z7 z8 z9 (nI z10) z11 z12 z13 z14 z15 (nI z16) z17 z18 z19))]) (cx := []) (wr := [(za, (b13_0 0 z1 (nI z2) (nI z3) z4 z5 z6 z7 z8 z9 (nI z10) z11 z12 z13 z14 z15 (nI z16) z17 z18 z19))]) (rx := []) (pl := va_pl L M) (pl1 := va_pl L M) hP hD [] [0] rfl rfl (by decide) (by decide) hk1 hFc hP1 hD1
    have hP : va_P D vwCl ([(za, (b13_0 0 z1 (nI z2) (nI z3) z4 z5 z6 z7 z8 z9 (nI z10) z11 z12 z13 z14 z15 (nI z16) z17 z18 z19))] ++ va_pl L M) H_13 := hP
    have hD : va_D A ([(za, (b13_0 0 z1 (nI z2) (nI z3) z4 z5 z6 z7 z8 z9 (nI z10) z11 z12 z13 z14 z15 (nI z16) z17 z18 z19))] ++ va_pl L M) := hD
    rcases hp_16 with ⟨rfl, c_17⟩ | ⟨rfl, c_18⟩
    · have hz := rfl (a := 0)
      refine lv_if_ne (tgt := 34) hx hb dX13_move_25 (by decide) (fun _ => ?_) (fun c_19 => absurd c_19 (by decide))
      refine lv_aload_n hx hb dX13_move_34 rfl (lv_at hl 0 rfl) ?_
      refine va_get (D := D) (ci := 13) (v := .ref z1) (C := RX13) (T := TX13) (N := 20) hx hb hg inG13 hown hK hP 0 rfl rfl 1 (by decide) (hg _ wd_739) (fun _ h9 => h9) rfl dX13_move_35 ?_
      refine lv_iload_n hx hb dX13_move_38 rfl (lv_at hl 1 rfl) ?_
      obtain ⟨f20, hM20, hf20⟩ := hW.open_23 i1
      have hi_21 : vp_in k1 8 := (inbW (a := z2) (by omega) (inb k1 z2 (by omega) c_7 c_8))
      refine pg_aldq hx hb hK hP i1.1 9 hM20 rfl hi_21 dX13_move_39 ?_
      obtain ⟨b22, eb_23, hb_24⟩ := hf20 _ (vp_lt hi_21)
      rw [eb_23]
      have hact : ACT z1 z2 b22 M := ⟨(k1 : Int32).toNatClampNeg, vp_lt (inb k1 z2 (by omega) c_7 c_8), by rw [show RFc (M z1) = f20 from by rw [hM20]; rfl]; exact eb_23⟩
      have hAT := GI.at hGI hact
      have hV : VW K L M M b22 (fx M b22) (ax M b22) := VW.rf b22 hGI.2.2.2
      have hb9 : RFc (M z1) (k1 : Int32).toNatClampNeg = some b22 := by rw [show RFc (M z1) = f20 from by rw [hM20]; rfl]; exact eb_23
      have hkn : (k1 : Int32).toNatClampNeg < z2 := vp_lt (inb k1 z2 (by omega) c_7 c_8)
      have hZk := hZS _ b22 hkn hb9
      have hz0 : fx M b22 0 = SX (k1 : Int32).toNatClampNeg 0 := congrFun hZk.1 0
      have hz1 : fx M b22 1 = SX (k1 : Int32).toNatClampNeg 1 := congrFun hZk.1 1
      have hz10 : fx M b22 10 = SX (k1 : Int32).toNatClampNeg 10 := congrFun hZk.1 10
      have hz11 : fx M b22 11 = SX (k1 : Int32).toNatClampNeg 11 := congrFun hZk.1 11
      have hz12 : fx M b22 12 = SX (k1 : Int32).toNatClampNeg 12 := congrFun hZk.1 12
      have hz13 : fx M b22 13 = SX (k1 : Int32).toNatClampNeg 13 := congrFun hZk.1 13
      have hz14 : fx M b22 14 = SX (k1 : Int32).toNatClampNeg 14 := congrFun hZk.1 14
      have hz15 : fx M b22 15 = SX (k1 : Int32).toNatClampNeg 15 := congrFun hZk.1 15
      have hz16 : fx M b22 16 = SX (k1 : Int32).toNatClampNeg 16 := congrFun hZk.1 16
      obtain ⟨fs25, hM25, hn25, hl25⟩ := hW.open_12 hb_24
      obtain ⟨v26, hv26, hc26⟩ : ∃ v : Nat, fs25[10]? = some (.int (nI v) : Value) ∧ v ≤ 24 := hl25 10 (by decide)
      have hx10 : (fx M b22 10) = ((v26 : Nat) : Int) := (congrFun hV.2.1 10).symm.trans ((fx_of hM25 rfl hv26).trans (nI_toInt (by omega)))
      obtain ⟨v27, hv27, hc27⟩ : ∃ v : Nat, fs25[14]? = some (.int (nI v) : Value) ∧ v ≤ 120 := hl25 14 (by decide)
      have hx14 : (fx M b22 14) = ((v27 : Nat) : Int) := (congrFun hV.2.1 14).symm.trans ((fx_of hM25 rfl hv27).trans (nI_toInt (by omega)))
      refine lv_astore (lv' := [(6, .ref b22), (0, .ref za), (1, .int k1), (2, .int k2), (3, .int k3), (4, .int k4), (5, .int k5)]) hx hb dX13_move_40 hl (by decide) rfl (fun ls hl => ?_)
      refine lv_aload hx hb dX13_move_42 (lv_at hl 0 rfl) ?_
      refine lv_iload_n hx hb dX13_move_44 rfl (lv_at hl 4 rfl) ?_
      have hPc : va_P D vwCl ([] ++ va_pl L M) H_13 := hP.part (cx := []) [] rfl
      have hDc : va_D A ([] ++ va_pl L M) := hD.part (cx := []) [] (by decide) rfl
      have hFc : ∀ q, va_A ([] ++ va_pl L M) H_13.size q → A q := pg_free hDc hS hA
      refine va_calli (va_runV (As := [.int k3]) (rest := []) ⟨hx, hb, hml, hown, hg⟩ (f_isFree l D cy K L M H_13.size b22 k3  hW hb_24) (cwV 1 hg (gV wd_807 wd_808 wd_809 wd_737 wd_810) rfl rfl rfl (by decide +kernel) ⟨(Nat.le_trans (Nat.le_of_ble_eq_true rfl) hRf), (Nat.le_trans (Nat.le_of_ble_eq_true rfl) hRl)⟩) ⟨PG.blind, pg_recv hK hP hb_24.1 hM25 rfl, fun U hU hW => ⟨rfl, PG.at hPc hK hDc hN hU hW⟩⟩ rfl rfl hl.1 rfl (lv_room (Nat.le_of_ble_eq_true rfl)) dX13_move_45 ⟨(Nat.le_trans (Nat.le_of_ble_eq_true rfl) hRc), (Nat.le_trans (Nat.le_of_ble_eq_true rfl) hRs)⟩) hS (fun q _ h => hFc q h) hFc (fun r_29 M_30 t H_28 locs ht hvm hw hB hz1 hk1 hS => ?_)
      have hp_31 := hw
      obtain ⟨hP1, hD1⟩ := hB
      rw [ht] at hP1
      obtain ⟨hP, hD⟩ := va_joinP (X := [(za, (b13_0 0 z1 (nI z2) (nI z3) z4 z5 z6 z7 z8 z9 (nI z10) z11 z12 z13 z14 z15 (nI z16) z17 z18 z19))]) (cx := []) (wr := [(za, (b13_0 0 z1 (nI z2) (nI z3) z4 z5 z6 z7 z8 z9 (nI z10) z11 z12 z13 z14 z15 (nI z16) z17 z18 z19))]) (rx := []) (pl := va_pl L M) (pl1 := va_pl L M) hP hD [] [0] rfl rfl (by decide) (by decide) hk1 hFc hP1 hD1
      have hP : va_P D vwCl ([(za, (b13_0 0 z1 (nI z2) (nI z3) z4 z5 z6 z7 z8 z9 (nI z10) z11 z12 z13 z14 z15 (nI z16) z17 z18 z19))] ++ va_pl L M) H_28 := hP
      have hD : va_D A ([(za, (b13_0 0 z1 (nI z2) (nI z3) z4 z5 z6 z7 z8 z9 (nI z10) z11 z12 z13 z14 z15 (nI z16) z17 z18 z19))] ++ va_pl L M) := hD
      rcases hp_31 with ⟨rfl, c_32, c_33, c_34⟩ | ⟨rfl, c_35⟩
      · have hz := rfl (a := 0)
        refine lv_if_eq (tgt := 61) hx hb dX13_move_48 (by decide) (fun c_36 => absurd c_36 (by decide)) (fun _ => ?_)
        refine lv_aload hx hb dX13_move_51 (lv_at hl 0 rfl) ?_
        refine lv_iload_n hx hb dX13_move_53 rfl (lv_at hl 3 rfl) ?_
        refine lv_iload_n hx hb dX13_move_54 rfl (lv_at hl 4 rfl) ?_
        obtain ⟨j_37, hj_38, rfl⟩ := i32nat 24 (by decide) c_9 c_10
        have hPc : va_P D vwCl ([] ++ va_pl L M) H_28 := hP.part (cx := []) [] rfl
        have hDc : va_D A ([] ++ va_pl L M) := hD.part (cx := []) [] (by decide) rfl
        have hFc : ∀ q, va_A ([] ++ va_pl L M) H_28.size q → A q := pg_free hDc hS hA
        refine va_calli (va_runV (As := [.int (nI j_37), .int k3]) (rest := []) ⟨hx, hb, hml, hown, hg⟩ (f_isIn l D cy K L M H_28.size b22 j_37 k3  hW hb_24 (by omega)) (cwV 2 hg (gV wd_748 wd_749 wd_750 wd_737 wd_751) rfl rfl rfl (by decide +kernel) ⟨(Nat.le_trans (Nat.le_of_ble_eq_true rfl) hRf), (Nat.le_trans (Nat.le_of_ble_eq_true rfl) hRl)⟩) ⟨PG.blind, pg_recv hK hP hb_24.1 hM25 rfl, fun U hU hW => ⟨rfl, PG.at hPc hK hDc hN hU hW⟩⟩ rfl rfl hl.1 rfl (lv_room (Nat.le_of_ble_eq_true rfl)) dX13_move_55 ⟨(Nat.le_trans (Nat.le_of_ble_eq_true rfl) hRc), (Nat.le_trans (Nat.le_of_ble_eq_true rfl) hRs)⟩) hS (fun q _ h => hFc q h) hFc (fun r_40 M_41 t H_39 locs ht hvm hw hB hz1 hk1 hS => ?_)
        have hp_42 := hw
        obtain ⟨hP1, hD1⟩ := hB
        rw [ht] at hP1
        obtain ⟨hP, hD⟩ := va_joinP (X := [(za, (b13_0 0 z1 (nI z2) (nI z3) z4 z5 z6 z7 z8 z9 (nI z10) z11 z12 z13 z14 z15 (nI z16) z17 z18 z19))]) (cx := []) (wr := [(za, (b13_0 0 z1 (nI z2) (nI z3) z4 z5 z6 z7 z8 z9 (nI z10) z11 z12 z13 z14 z15 (nI z16) z17 z18 z19))]) (rx := []) (pl := va_pl L M) (pl1 := va_pl L M) hP hD [] [0] rfl rfl (by decide) (by decide) hk1 hFc hP1 hD1
        have hP : va_P D vwCl ([(za, (b13_0 0 z1 (nI z2) (nI z3) z4 z5 z6 z7 z8 z9 (nI z10) z11 z12 z13 z14 z15 (nI z16) z17 z18 z19))] ++ va_pl L M) H_39 := hP
        have hD : va_D A ([(za, (b13_0 0 z1 (nI z2) (nI z3) z4 z5 z6 z7 z8 z9 (nI z10) z11 z12 z13 z14 z15 (nI z16) z17 z18 z19))] ++ va_pl L M) := hD
        rcases hp_42 with ⟨rfl, c_43⟩ | ⟨rfl, c_44⟩
        · have hz := rfl (a := 0)
          refine lv_if_ne (tgt := 67) hx hb dX13_move_58 (by decide) (fun _ => ?_) (fun c_45 => absurd c_45 (by decide))
          refine lv_aload hx hb dX13_move_67 (lv_at hl 0 rfl) ?_
          refine pg_getN (D := D) (ci := 12) (v := .int (nI v27)) (C := RX12) (T := TX12) (N := 51) hx hb hg inG12 hown hK hP hb_24.1 hM25 rfl 14 (by decide) (hN.use (Cond.fieldLinkNest RX13 193 RX12 "moves" "I" RX13) 23 rfl rfl) (fun _ h9 => h9) hv27 dX13_move_69 ?_
          refine lv_bipush (v := 120) hx hb dX13_move_72 (by decide) ?_
          refine lv_icmp_ne (tgt := 84) hx hb dX13_move_74 (by decide) (fun c_46 => ?_) (fun c_46 => ?_)
          · have hz := rfl (a := 0)
            have n_47 : ¬ (v27 = 120) := fun q => c_46 ((iEQ (a := v27) (b := 120) (by omega) (by omega)).mpr q)
            have hx14 : (fx M b22 14) = ((v27 : Nat) : Int) := (congrFun hV.2.1 14).symm.trans ((fx_of hM25 rfl hv27).trans (nI_toInt (by omega)))
            refine lv_aload hx hb dX13_move_84 (lv_at hl 0 rfl) ?_
            obtain ⟨v48, hv48, hc48⟩ : ∃ v : Nat, fs25[38]? = some (.ref v : Value) ∧ isk K L v 79 120 := hl25 38 (by decide)
            refine pg_getN (D := D) (ci := 12) (v := .ref v48) (C := RX12) (T := TX12) (N := 51) hx hb hg inG12 hown hK hP hb_24.1 hM25 rfl 38 (by decide) (hN.use (Cond.fieldLinkNest RX13 196 RX12 "moveOf" "[I" RX13) 47 rfl rfl) (fun _ h9 => h9) hv48 dX13_move_86 ?_
            refine lv_aload hx hb dX13_move_89 (lv_at hl 0 rfl) ?_
            refine pg_getN (D := D) (ci := 12) (v := .int (nI v27)) (C := RX12) (T := TX12) (N := 51) hx hb hg inG12 hown hK hP hb_24.1 hM25 rfl 14 (by decide) (hN.use (Cond.fieldLinkNest RX13 193 RX12 "moves" "I" RX13) 23 rfl rfl) (fun _ h9 => h9) hv27 dX13_move_91 ?_
            refine lv_iload_n hx hb dX13_move_94 rfl (lv_at hl 3 rfl) ?_
            obtain ⟨f49, hM49, hf49⟩ := hW.open_79 hc48
            refine pg_iast hx hb hK hP hD hS hc48.1 0 hM49 rfl (inbN v27 120 (by omega) (by omega)) dX13_move_95 (fun H_50 locs hP hD hS => ?_)
            obtain ⟨M_51, eM_51⟩ : ∃ M1 : Hp, M1 = va_up M v48 (.inl (cy 14, 120, .inl (upd f49 ((nI v27) : Int32).toNatClampNeg (nI j_37)))) := ⟨_, rfl⟩
            have hy38 : (ax M b22 38) = f49 := (congrFun hV.2.2.1 38).symm.trans (ax_of hM25 (by decide) hv48 hM49)
            have hV : VW K L M M_51 b22 (fx M b22) (va_up (ax M b22) 38 (upd (ax M b22 38) ((nI v27) : Int32).toNatClampNeg (nI j_37))) := by rw [eM_51]; exact hV.ast (j := 38) hW hb_24 hM25 (by decide) hv48 hc48 hM49
            have hP : va_P D vwCl ([(za, (b13_0 0 z1 (nI z2) (nI z3) z4 z5 z6 z7 z8 z9 (nI z10) z11 z12 z13 z14 z15 (nI z16) z17 z18 z19))] ++ va_pl L M_51) H_50 := by rw [eM_51]; exact hP
            have hD : va_D A ([(za, (b13_0 0 z1 (nI z2) (nI z3) z4 z5 z6 z7 z8 z9 (nI z10) z11 z12 z13 z14 z15 (nI z16) z17 z18 z19))] ++ va_pl L M_51) := by rw [eM_51]; exact hD
            have hW : WOM cy K L M_51 := by rw [eM_51]; exact hW.up_79 hc48 ⟨_, rfl, (updP (P := fun z => ∃ c : Nat, c < 24 ∧ z = nI c) hf49 ⟨j_37, by omega, rfl⟩)⟩
            have hF : fr K L [12, 14, 32, 36, 79, 80, 81] M M_51 := by rw [eM_51]; exact hF.up hc48 (by decide)
            have hG : fG K L [14, 16] M M_51 := by rw [eM_51]; exact hG.arr hc48 (by decide)
            have hM_52 : M_51 v48 = .inl (cy 14, 120, .inl (upd f49 ((nI v27) : Int32).toNatClampNeg (nI j_37))) := by rw [eM_51]; exact va_up_self _ _ _
            have hM_53 : M_51 z1 = .inl (cy 23, 8, .inr (.inr (.inr (.inr (f20))))) := by rw [eM_51, va_up_ne _ _ (i1.neT hc48 (by decide))]; exact hM20
            have hM_54 : M_51 b22 = .inr (12, fs25) := by rw [eM_51, va_up_ne _ _ (hb_24.neT hc48 (by decide))]; exact hM25
            have hf_56 : ∀ j, j < 120 → ∃ c : Nat, c < 24 ∧ (upd f49 ((nI v27) : Int32).toNatClampNeg (nI j_37)) j = nI c := (updP (P := fun z => ∃ c : Nat, c < 24 ∧ z = nI c) hf49 ⟨j_37, by omega, rfl⟩)
            obtain ⟨f_55, ef_55⟩ : ∃ f : Nat → Int32, f = upd f49 ((nI v27) : Int32).toNatClampNeg (nI j_37) := ⟨_, rfl⟩
            rw [← ef_55] at hM_52 hf_56
            refine lv_aload hx hb dX13_move_96 (lv_at hl 0 rfl) ?_
            obtain ⟨v57, hv57, hc57⟩ : ∃ v : Nat, fs25[39]? = some (.ref v : Value) ∧ isk K L v 80 120 := hl25 39 (by decide)
            refine pg_getN (D := D) (ci := 12) (v := .ref v57) (C := RX12) (T := TX12) (N := 51) hx hb hg inG12 hown hK hP hb_24.1 hM_54 rfl 39 (by decide) (hN.use (Cond.fieldLinkNest RX13 199 RX12 "moveDay" "[I" RX13) 48 rfl rfl) (fun _ h9 => h9) hv57 dX13_move_98 ?_
            refine lv_aload hx hb dX13_move_101 (lv_at hl 0 rfl) ?_
            refine pg_getN (D := D) (ci := 12) (v := .int (nI v27)) (C := RX12) (T := TX12) (N := 51) hx hb hg inG12 hown hK hP hb_24.1 hM_54 rfl 14 (by decide) (hN.use (Cond.fieldLinkNest RX13 193 RX12 "moves" "I" RX13) 23 rfl rfl) (fun _ h9 => h9) hv27 dX13_move_103 ?_
            refine lv_iload_n hx hb dX13_move_106 rfl (lv_at hl 4 rfl) ?_
            obtain ⟨f58, hM58⟩ := hW.open_80 hc57
            refine pg_iast hx hb hK hP hD hS hc57.1 0 hM58 rfl (inbN v27 120 (by omega) (by omega)) dX13_move_107 (fun H_59 locs hP hD hS => ?_)
            obtain ⟨M_60, eM_60⟩ : ∃ M1 : Hp, M1 = va_up M_51 v57 (.inl (cy 14, 120, .inl (upd f58 ((nI v27) : Int32).toNatClampNeg k3))) := ⟨_, rfl⟩
            have hy39 : (ax M b22 39) = f58 := (congrFun hV.2.2.1 39).symm.trans (ax_of hM_54 (by decide) hv57 hM58)
            have hV : VW K L M M_60 b22 (fx M b22) (va_up (va_up (ax M b22) 38 (upd (ax M b22 38) ((nI v27) : Int32).toNatClampNeg (nI j_37))) 39 (upd (ax M b22 39) ((nI v27) : Int32).toNatClampNeg k3)) := by rw [eM_60]; exact hV.ast (j := 39) hW hb_24 hM_54 (by decide) hv57 hc57 hM58
            have hP : va_P D vwCl ([(za, (b13_0 0 z1 (nI z2) (nI z3) z4 z5 z6 z7 z8 z9 (nI z10) z11 z12 z13 z14 z15 (nI z16) z17 z18 z19))] ++ va_pl L M_60) H_59 := by rw [eM_60]; exact hP
            have hD : va_D A ([(za, (b13_0 0 z1 (nI z2) (nI z3) z4 z5 z6 z7 z8 z9 (nI z10) z11 z12 z13 z14 z15 (nI z16) z17 z18 z19))] ++ va_pl L M_60) := by rw [eM_60]; exact hD
            have hW : WOM cy K L M_60 := by rw [eM_60]; exact hW.up_80 hc57 ⟨_, rfl⟩
            have hF : fr K L [12, 14, 32, 36, 79, 80, 81] M M_60 := by rw [eM_60]; exact hF.up hc57 (by decide)
            have hG : fG K L [14, 16] M M_60 := by rw [eM_60]; exact hG.arr hc57 (by decide)
            have hM_61 : M_60 v57 = .inl (cy 14, 120, .inl (upd f58 ((nI v27) : Int32).toNatClampNeg k3)) := by rw [eM_60]; exact va_up_self _ _ _
            have hM_62 : M_60 v48 = .inl (cy 14, 120, .inl (f_55)) := by rw [eM_60, va_up_ne _ _ (hc48.neT hc57 (by decide))]; exact hM_52
            have hM_63 : M_60 z1 = .inl (cy 23, 8, .inr (.inr (.inr (.inr (f20))))) := by rw [eM_60, va_up_ne _ _ (i1.neT hc57 (by decide))]; exact hM_53
            have hM_64 : M_60 b22 = .inr (12, fs25) := by rw [eM_60, va_up_ne _ _ (hb_24.neT hc57 (by decide))]; exact hM_54
            obtain ⟨f_65, ef_65⟩ : ∃ f : Nat → Int32, f = upd f58 ((nI v27) : Int32).toNatClampNeg k3 := ⟨_, rfl⟩
            rw [← ef_65] at hM_61
            refine lv_aload hx hb dX13_move_108 (lv_at hl 0 rfl) ?_
            obtain ⟨v66, hv66, hc66⟩ : ∃ v : Nat, fs25[40]? = some (.ref v : Value) ∧ isk K L v 81 120 := hl25 40 (by decide)
            refine pg_getN (D := D) (ci := 12) (v := .ref v66) (C := RX12) (T := TX12) (N := 51) hx hb hg inG12 hown hK hP hb_24.1 hM_64 rfl 40 (by decide) (hN.use (Cond.fieldLinkNest RX13 202 RX12 "moveSum" "[I" RX13) 49 rfl rfl) (fun _ h9 => h9) hv66 dX13_move_110 ?_
            refine lv_aload hx hb dX13_move_113 (lv_at hl 0 rfl) ?_
            refine pg_getN (D := D) (ci := 12) (v := .int (nI v27)) (C := RX12) (T := TX12) (N := 51) hx hb hg inG12 hown hK hP hb_24.1 hM_64 rfl 14 (by decide) (hN.use (Cond.fieldLinkNest RX13 193 RX12 "moves" "I" RX13) 23 rfl rfl) (fun _ h9 => h9) hv27 dX13_move_115 ?_
            refine lv_iload hx hb dX13_move_118 (lv_at hl 6 rfl) ?_
            refine lv_if_eq (tgt := 129) hx hb dX13_move_120 (by decide) (fun c_67 => ?_) (fun c_67 => ?_)
            · have hz := rfl (a := 0)
              refine lv_iload hx hb dX13_move_129 (lv_at hl 5 rfl) ?_
              obtain ⟨f68, hM68⟩ := hW.open_81 hc66
              refine pg_iast hx hb hK hP hD hS hc66.1 0 hM68 rfl (inbN v27 120 (by omega) (by omega)) dX13_move_131 (fun H_69 locs hP hD hS => ?_)
              obtain ⟨M_70, eM_70⟩ : ∃ M1 : Hp, M1 = va_up M_60 v66 (.inl (cy 14, 120, .inl (upd f68 ((nI v27) : Int32).toNatClampNeg k4))) := ⟨_, rfl⟩
              have hy40 : (ax M b22 40) = f68 := (congrFun hV.2.2.1 40).symm.trans (ax_of hM_64 (by decide) hv66 hM68)
              have hV : VW K L M M_70 b22 (fx M b22) (va_up (va_up (va_up (ax M b22) 38 (upd (ax M b22 38) ((nI v27) : Int32).toNatClampNeg (nI j_37))) 39 (upd (ax M b22 39) ((nI v27) : Int32).toNatClampNeg k3)) 40 (upd (ax M b22 40) ((nI v27) : Int32).toNatClampNeg k4)) := by rw [eM_70]; exact hV.ast (j := 40) hW hb_24 hM_64 (by decide) hv66 hc66 hM68
              have hP : va_P D vwCl ([(za, (b13_0 0 z1 (nI z2) (nI z3) z4 z5 z6 z7 z8 z9 (nI z10) z11 z12 z13 z14 z15 (nI z16) z17 z18 z19))] ++ va_pl L M_70) H_69 := by rw [eM_70]; exact hP
              have hD : va_D A ([(za, (b13_0 0 z1 (nI z2) (nI z3) z4 z5 z6 z7 z8 z9 (nI z10) z11 z12 z13 z14 z15 (nI z16) z17 z18 z19))] ++ va_pl L M_70) := by rw [eM_70]; exact hD
              have hW : WOM cy K L M_70 := by rw [eM_70]; exact hW.up_81 hc66 ⟨_, rfl⟩
              have hF : fr K L [12, 14, 32, 36, 79, 80, 81] M M_70 := by rw [eM_70]; exact hF.up hc66 (by decide)
              have hG : fG K L [14, 16] M M_70 := by rw [eM_70]; exact hG.arr hc66 (by decide)
              have hM_71 : M_70 v66 = .inl (cy 14, 120, .inl (upd f68 ((nI v27) : Int32).toNatClampNeg k4)) := by rw [eM_70]; exact va_up_self _ _ _
              have hM_72 : M_70 v57 = .inl (cy 14, 120, .inl (f_65)) := by rw [eM_70, va_up_ne _ _ (hc57.neT hc66 (by decide))]; exact hM_61
              have hM_73 : M_70 v48 = .inl (cy 14, 120, .inl (f_55)) := by rw [eM_70, va_up_ne _ _ (hc48.neT hc66 (by decide))]; exact hM_62
              have hM_74 : M_70 z1 = .inl (cy 23, 8, .inr (.inr (.inr (.inr (f20))))) := by rw [eM_70, va_up_ne _ _ (i1.neT hc66 (by decide))]; exact hM_63
              have hM_75 : M_70 b22 = .inr (12, fs25) := by rw [eM_70, va_up_ne _ _ (hb_24.neT hc66 (by decide))]; exact hM_64
              obtain ⟨f_76, ef_76⟩ : ∃ f : Nat → Int32, f = upd f68 ((nI v27) : Int32).toNatClampNeg k4 := ⟨_, rfl⟩
              rw [← ef_76] at hM_71
              refine lv_aload hx hb dX13_move_132 (lv_at hl 0 rfl) ?_
              refine lv_dup hx hb dX13_move_134 rfl ?_
              refine pg_getN (D := D) (ci := 12) (v := .int (nI v27)) (C := RX12) (T := TX12) (N := 51) hx hb hg inG12 hown hK hP hb_24.1 hM_75 rfl 14 (by decide) (hN.use (Cond.fieldLinkNest RX13 193 RX12 "moves" "I" RX13) 23 rfl rfl) (fun _ h9 => h9) hv27 dX13_move_135 ?_
              refine lv_iconst (v := 1) hx hb dX13_move_138 (by decide) ?_
              refine lv_iadd hx hb dX13_move_139 ?_
              refine lv_topi (fun f_77 ef_77 => ?_)
              obtain rfl : f_77 = (nI (v27 + 1)) := ef_77.trans (nI_add v27 1)
              refine pg_putN (D := D) (ci := 12) (v := .int (nI (v27 + 1))) (ty := .int) (C := RX12) (T := TX12) (N := 51) hx hb hg inG12 tyX12 tyX12_ok nmX12 hown hK hP hD hS hb_24.1 hM_75 rfl 14 (by decide) (hN.use (Cond.fieldLinkNest RX13 193 RX12 "moves" "I" RX13) 23 rfl rfl) (fun _ h9 => h9) rfl (by decide +kernel) rfl rfl (by rw [hn25]; decide) dX13_move_140 (fun H_78 locs hP hD hS => ?_)
              have hs_81 : (fs25.set 14 (.int (nI (v27 + 1))))[14]? = some (.int (nI (v27 + 1))) := List.getElem?_set_self (by rw [hn25]; decide)
              have hk_80 := fld12_set (k := 14) (w := .int (nI (v27 + 1))) hl25 (show fld12 K L 14 (fs25.set 14 (.int (nI (v27 + 1)))) from ⟨(v27 + 1), hs_81, by omega⟩)
              have hn_82 : (fs25.set 14 (.int (nI (v27 + 1)))).length = 51 := by rw [List.length_set]; exact hn25
              have hv_83 : (fs25.set 14 (.int (nI (v27 + 1))))[10]? = some (.int (nI v26)) := by rw [List.getElem?_set_ne (by decide)]; exact hv26
              have hv_84 : (fs25.set 14 (.int (nI (v27 + 1))))[38]? = some (.ref v48) := by rw [List.getElem?_set_ne (by decide)]; exact hv48
              have hv_85 : (fs25.set 14 (.int (nI (v27 + 1))))[39]? = some (.ref v57) := by rw [List.getElem?_set_ne (by decide)]; exact hv57
              have hv_86 : (fs25.set 14 (.int (nI (v27 + 1))))[40]? = some (.ref v66) := by rw [List.getElem?_set_ne (by decide)]; exact hv66
              have hb_87 : (v27 + 1) ≤ 120 := by omega
              obtain ⟨M_88, eM_88⟩ : ∃ M1 : Hp, M1 = va_up M_70 b22 (.inr (12, fs25.set 14 (.int (nI (v27 + 1))))) := ⟨_, rfl⟩
              have hx14 : (fx M b22 14) = ((v27 : Nat) : Int) := (congrFun hV.2.1 14).symm.trans ((fx_of hM_75 rfl hv27).trans (nI_toInt (by omega)))
              have hV : VW K L M M_88 b22 (va_up (fx M b22) 14 (((v27 + 1) : Nat) : Int)) (va_up (va_up (va_up (ax M b22) 38 (upd (ax M b22 38) ((nI v27) : Int32).toNatClampNeg (nI j_37))) 39 (upd (ax M b22 39) ((nI v27) : Int32).toNatClampNeg k3)) 40 (upd (ax M b22 40) ((nI v27) : Int32).toNatClampNeg k4)) := by rw [eM_88]; exact hV.put hW hb_24 hM_75 hn25 rfl (by decide) rfl (nI_toInt (by omega))
              have hP : va_P D vwCl ([(za, (b13_0 0 z1 (nI z2) (nI z3) z4 z5 z6 z7 z8 z9 (nI z10) z11 z12 z13 z14 z15 (nI z16) z17 z18 z19))] ++ va_pl L M_88) H_78 := by rw [eM_88]; exact hP
              have hD : va_D A ([(za, (b13_0 0 z1 (nI z2) (nI z3) z4 z5 z6 z7 z8 z9 (nI z10) z11 z12 z13 z14 z15 (nI z16) z17 z18 z19))] ++ va_pl L M_88) := by rw [eM_88]; exact hD
              have hW : WOM cy K L M_88 := by rw [eM_88]; exact hW.up_12 hb_24 ⟨_, rfl, hn_82, hk_80⟩
              have hF : fr K L [12, 14, 32, 36, 79, 80, 81] M M_88 := by rw [eM_88]; exact hF.up hb_24 (by decide)
              have hG : fG K L [14, 16] M M_88 := by rw [eM_88]; exact hG.up hM_75 (by decide)
              have hM_89 : M_88 b22 = .inr (12, fs25.set 14 (.int (nI (v27 + 1)))) := by rw [eM_88]; exact va_up_self _ _ _
              have hM_90 : M_88 v66 = .inl (cy 14, 120, .inl (f_76)) := by rw [eM_88, va_up_ne _ _ (hc66.neT hb_24 (by decide))]; exact hM_71
              have hM_91 : M_88 v57 = .inl (cy 14, 120, .inl (f_65)) := by rw [eM_88, va_up_ne _ _ (hc57.neT hb_24 (by decide))]; exact hM_72
              have hM_92 : M_88 v48 = .inl (cy 14, 120, .inl (f_55)) := by rw [eM_88, va_up_ne _ _ (hc48.neT hb_24 (by decide))]; exact hM_73
              have hM_93 : M_88 z1 = .inl (cy 23, 8, .inr (.inr (.inr (.inr (f20))))) := by rw [eM_88, va_up_ne _ _ (i1.neT hb_24 (by decide))]; exact hM_74
              refine lv_aload hx hb dX13_move_143 (lv_at hl 0 rfl) ?_
              refine lv_iconst (v := (-1)) hx hb dX13_move_145 (by decide) ?_
              have hPc : va_P D vwCl ([] ++ va_pl L M_88) H_78 := hP.part (cx := []) [] rfl
              have hDc : va_D A ([] ++ va_pl L M_88) := hD.part (cx := []) [] (by decide) rfl
              have hFc : ∀ q, va_A ([] ++ va_pl L M_88) H_78.size q → A q := pg_free hDc hS hA
              refine va_callv (va_runV (As := [.int (-1)]) (rest := []) ⟨hx, hb, hml, hown, hg⟩ (r_remM l D cy K L M_88 H_78.size b22  hW hb_24 hV.2.2.2) (cwV 1 hg (gV wd_827 wd_828 wd_829 wd_737 wd_830) rfl rfl rfl (by decide +kernel) ⟨(Nat.le_trans (Nat.le_of_ble_eq_true rfl) hRf), (Nat.le_trans (Nat.le_of_ble_eq_true rfl) hRl)⟩) ⟨PG.blind, pg_recv hK hP hb_24.1 hM_89 rfl, fun U hU hW => ⟨rfl, PG.at hPc hK hDc hN hU hW⟩⟩ rfl rfl hl.1 rfl (lv_room (Nat.le_of_ble_eq_true rfl)) dX13_move_146 ⟨(Nat.le_trans (Nat.le_of_ble_eq_true rfl) hRc), (Nat.le_trans (Nat.le_of_ble_eq_true rfl) hRs)⟩) hS (fun q _ h => hFc q h) hFc (fun M_96 t H_94 locs ht hvm hw hB hz1 hk1 hS => ?_)
              have hWb := hW
              obtain ⟨hW, hF2, hG2, hVP, hp_97⟩ := hw
              obtain ⟨hP1, hD1⟩ := hB
              rw [ht] at hP1
              obtain ⟨hP, hD⟩ := va_joinP (X := [(za, (b13_0 0 z1 (nI z2) (nI z3) z4 z5 z6 z7 z8 z9 (nI z10) z11 z12 z13 z14 z15 (nI z16) z17 z18 z19))]) (cx := []) (wr := [(za, (b13_0 0 z1 (nI z2) (nI z3) z4 z5 z6 z7 z8 z9 (nI z10) z11 z12 z13 z14 z15 (nI z16) z17 z18 z19))]) (rx := []) (pl := va_pl L M_88) (pl1 := va_pl L M_96) hP hD [] [0] rfl rfl (by decide) (by decide) hk1 hFc hP1 hD1
              have hP : va_P D vwCl ([(za, (b13_0 0 z1 (nI z2) (nI z3) z4 z5 z6 z7 z8 z9 (nI z10) z11 z12 z13 z14 z15 (nI z16) z17 z18 z19))] ++ va_pl L M_96) H_94 := hP
              have hD : va_D A ([(za, (b13_0 0 z1 (nI z2) (nI z3) z4 z5 z6 z7 z8 z9 (nI z10) z11 z12 z13 z14 z15 (nI z16) z17 z18 z19))] ++ va_pl L M_96) := hD
              obtain ⟨fs98, hM98, hn98, hl98⟩ := hW.open_12 hb_24
              have hv_99 : fs98[10]? = some (.int (nI v26) : Value) := (hG2 _ hb_24 _ _ hM_89 hM98 10 (by decide)).trans hv_83
              have hv_100 : fs98[38]? = some (.ref v48 : Value) := (hG2 _ hb_24 _ _ hM_89 hM98 38 (by decide)).trans hv_84
              have hv_101 : fs98[39]? = some (.ref v57 : Value) := (hG2 _ hb_24 _ _ hM_89 hM98 39 (by decide)).trans hv_85
              have hv_102 : fs98[40]? = some (.ref v66 : Value) := (hG2 _ hb_24 _ _ hM_89 hM98 40 (by decide)).trans hv_86
              have hv_103 : fs98[14]? = some (.int (nI (v27 + 1)) : Value) := (hG2 _ hb_24 _ _ hM_89 hM98 14 (by decide)).trans hs_81
              have hM_104 : M_96 v66 = .inl (cy 14, 120, .inl (f_76)) := (hF2.at hc66 (by decide)).trans hM_90
              have hM_105 : M_96 v57 = .inl (cy 14, 120, .inl (f_65)) := (hF2.at hc57 (by decide)).trans hM_91
              have hM_106 : M_96 v48 = .inl (cy 14, 120, .inl (f_55)) := (hF2.at hc48 (by decide)).trans hM_92
              have hM_107 : M_96 z1 = .inl (cy 23, 8, .inr (.inr (.inr (.inr (f20))))) := (hF2.at i1 (by decide)).trans hM_93
              have hF : fr K L [12, 14, 32, 36, 79, 80, 81] M M_96 := hF.tr hF2 (by decide)
              have hG : fG K L [14, 16] M M_96 := hG.tr hWb hG2 (by decide)
              obtain ⟨n_108, g_109, hRF, hV2⟩ := hVP
              rw [hV.2.1, hV.2.2.1] at hRF hV2
              have hRF : REMF (fx M b22 16) (ax M b22 43) (-1) n_108 g_109 := hRF
              have hV : VW K L M M_96 b22 (va_up (va_up (fx M b22) 14 (((v27 + 1) : Nat) : Int)) 16 n_108) (va_up (va_up (va_up (va_up (ax M b22) 38 (upd (ax M b22 38) ((nI v27) : Int32).toNatClampNeg (nI j_37))) 39 (upd (ax M b22 39) ((nI v27) : Int32).toNatClampNeg k3)) 40 (upd (ax M b22 40) ((nI v27) : Int32).toNatClampNeg k4)) 43 g_109) := hV.tr hV2
              refine lv_aload_n hx hb dX13_move_149 rfl (lv_at hl 1 rfl) ?_
              refine lv_aload hx hb dX13_move_150 (lv_at hl 0 rfl) ?_
              refine pg_getN (D := D) (ci := 12) (v := .int (nI (v27 + 1))) (C := RX12) (T := TX12) (N := 51) hx hb hg inG12 hown hK hP hb_24.1 hM98 rfl 14 (by decide) (hN.use (Cond.fieldLinkNest RX13 193 RX12 "moves" "I" RX13) 23 rfl rfl) (fun _ h9 => h9) hv_103 dX13_move_152 ?_
              have hPc := hP.sub (ws' := [(za, (b13_0 0 z1 (nI z2) (nI z3) z4 z5 z6 z7 z8 z9 (nI z10) z11 z12 z13 z14 z15 (nI z16) z17 z18 z19))]) [0] rfl
              have hDc := hD.sub (ws' := [(za, (b13_0 0 z1 (nI z2) (nI z3) z4 z5 z6 z7 z8 z9 (nI z10) z11 z12 z13 z14 z15 (nI z16) z17 z18 z19))]) [0] (by decide) rfl
              have hKc := hK.sub (tys' := []) [] rfl
              have hFc := va_free (wc := [(za, (b13_0 0 z1 (nI z2) (nI z3) z4 z5 z6 z7 z8 z9 (nI z10) z11 z12 z13 z14 z15 (nI z16) z17 z18 z19))]) hD hS hA [0] rfl
              refine va_calli (va_runV (As := [.int (nI (v27 + 1))]) (rest := []) ⟨hx, hb, hml, hown, hg⟩ (m_done l D H_94.size za 0 z1 (nI z2) (nI z3) z4 z5 z6 z7 z8 z9 (nI z10) z11 z12 z13 z14 z15 (nI z16) z17 z18 z19 (nI (v27 + 1))) (cwV 1 hg (gV wd_730 wd_731 wd_732 wd_717 wd_733) rfl rfl rfl (by decide +kernel) ⟨(Nat.le_trans (Nat.le_of_ble_eq_true rfl) hRf), (Nat.le_trans (Nat.le_of_ble_eq_true rfl) hRl)⟩) ⟨Pr.blind, va_recv hK hP (ci := 13) (q0 := 0) rfl rfl, fun U hU hW => ⟨rfl, Pr.at hPc hKc hDc hN hU hW⟩⟩ rfl rfl hl.1 rfl (lv_room (Nat.le_of_ble_eq_true rfl)) dX13_move_155 ⟨(Nat.le_trans (Nat.le_of_ble_eq_true rfl) hRc), (Nat.le_trans (Nat.le_of_ble_eq_true rfl) hRs)⟩) hS (fun q _ h => hFc q h) hFc (fun r_111 M_112 t H_110 locs ht hvm hw hB hz1 hk1 hS => ?_)
              have hp_113 := hw
              obtain ⟨hP1, hK1, hD1⟩ := hB
              rw [ht] at hP1
              obtain ⟨hP, hD⟩ := va_joinQ (X := [(za, (b13_0 0 z1 (nI z2) (nI z3) z4 z5 z6 z7 z8 z9 (nI z10) z11 z12 z13 z14 z15 (nI z16) z17 z18 z19))]) (cx := [(za, (b13_0 0 z1 (nI z2) (nI z3) z4 z5 z6 z7 z8 z9 (nI z10) z11 z12 z13 z14 z15 (nI z16) z17 z18 z19))]) (wr := []) (w1 := [(za, (b13_0 0 z1 (nI z2) (nI z3) 0 (-1) z6 z7 z8 z9 (nI z10) z11 z12 z13 z14 z15 (nI z16) z17 z18 z19))]) (pl := va_pl L M_96) hP hD [0] [] rfl rfl (by decide) (by decide) hk1 hFc hP1 hD1
              have hP : va_P D vwCl ([(za, (b13_0 0 z1 (nI z2) (nI z3) 0 (-1) z6 z7 z8 z9 (nI z10) z11 z12 z13 z14 z15 (nI z16) z17 z18 z19))] ++ va_pl L M_96) H_110 := hP
              have hD : va_D A ([(za, (b13_0 0 z1 (nI z2) (nI z3) 0 (-1) z6 z7 z8 z9 (nI z10) z11 z12 z13 z14 z15 (nI z16) z17 z18 z19))] ++ va_pl L M_96) := hD
              have hq := Eq.symm hp_113
              subst hq
              have hI_114 : (0 : Int) ≤ (k1 : Int32).toInt := inltI rfl rfl c_7
              have hI_115 : (k1 : Int32).toInt < ((z2 : Nat) : Int) := inleI (nI_toInt (by omega)) rfl c_8
              have hI_116 : (0 : Int) ≤ ((j_37 : Nat) : Int) := inltI (nI_toInt (by omega)) rfl c_9
              have hI_117 : ((j_37 : Nat) : Int) < (24 : Int) := inleI rfl (nI_toInt (by omega)) c_10
              have hI_118 : (0 : Int) ≤ (k3 : Int32).toInt := inltI rfl rfl c_33
              have hI_119 : (k3 : Int32).toInt < (1000 : Int) := inleI rfl rfl c_34
              have hI_120 : ((v27 : Nat) : Int) ≠ (120 : Int) := ineI (nI_toInt (by omega)) rfl c_46
              have hI_121 : (k5 : Int32).toInt = (0 : Int) := ieqI rfl rfl c_67
              have hn92 : ((nI j_37) : Int32).toInt = ((j_37 : Nat) : Int) := nI_toInt (by omega)
              have hii := c_43
              rw [hZk.2] at hii
              rw [show j_37 = ((nI j_37) : Int32).toNatClampNeg from (nI_cl (by omega)).symm] at hii
              have hyes : okMv z2 SX SY k1 (nI j_37) k3 k4 := by unfold okMv okH; refine ⟨⟨?_, ?_⟩, ?_, ?_, ?_, ?_, ?_, ?_, ?_, ?_, ?_⟩ <;> first | omega | assumption
              have hA9 : HA (ax M b22 2) (ax M b22 3) := hAT.1
              have hB9 : HB n_108 (((v27 + 1) : Nat) : Int) (ax M b22 3) g_109 := HB.remM hAT.2.1 hRF (by omega)
              have hC9 : HC (fx M b22 10) (ax M b22 22) (ax M b22 23) := hAT.2.2.1
              have hD9 : HD (fx M b22 0) (fx M b22 11) (fx M b22 15) (ax M b22 34) (ax M b22 41) := hAT.2.2.2.1
              have hE9 : HE (fx M b22 0) (fx M b22 1) (fx M b22 12) (fx M b22 13) (ax M b22 37) := hAT.2.2.2.2
              have hH9 : HI (va_up (va_up (fx M b22) 14 (((v27 + 1) : Nat) : Int)) 16 n_108) (va_up (va_up (va_up (va_up (ax M b22) 38 (upd (ax M b22 38) ((nI v27) : Int32).toNatClampNeg (nI j_37))) 39 (upd (ax M b22 39) ((nI v27) : Int32).toNatClampNeg k3)) 40 (upd (ax M b22 40) ((nI v27) : Int32).toNatClampNeg k4)) 43 g_109) := ⟨hA9, hB9, hC9, hD9, hE9⟩
              have hGI9 : GI K L z1 z2 M_96 := GI.fin hW0 i1 b2 hGI hact hV (hF.at i1 (by decide)) hH9
              have hk5 : (if k5 = 0 then k4 else -k4) = k4 := if_pos c_67
              rw [hQ]
              exact W.iret (v := (nI (v27 + 1))) hx hb hr (fun t ht hW9 => ⟨⟨(nI (v27 + 1)), M_96, rfl, ⟨hW, hF, hG, ⟨hGI9, ⟨n_108, g_109, fun _ => (by rw [← hZk.1, ← hZk.2]; exact hRF), (by unfold sxMv syMv; rw [if_pos hyes, if_pos hyes, hk5]; exact ZSx.fin hW0 i1 b2 hZS hGI.1 hkn hb9 hV (hF.at i1 (by decide)) (by rw [hZk.1, show ((v27 + 1 : Nat) : Int) = SX (k1 : Int32).toNatClampNeg 14 + 1 by omega]) (by rw [hZk.2, nI_cl (t := v27) (by omega), show v27 = (SX (k1 : Int32).toNatClampNeg 14).toNat by omega]))⟩⟩, (by unfold anMv; rw [if_pos hyes]; exact congrArg nI (by omega))⟩, ⟨0, by rw [ht]; exact hP, hD⟩⟩, hS.F ht⟩) hS.2.2 dX13_move_158
            · have hz := rfl (a := 0)
              refine lv_iload hx hb dX13_move_123 (lv_at hl 5 rfl) ?_
              refine lv_ineg hx hb dX13_move_125 ?_
              refine lv_topi (fun f_122 ef_122 => ?_)
              refine lv_goto (tgt := 131) hx hb dX13_move_126 (by decide) ?_
              obtain ⟨f123, hM123⟩ := hW.open_81 hc66
              refine pg_iast hx hb hK hP hD hS hc66.1 0 hM123 rfl (inbN v27 120 (by omega) (by omega)) dX13_move_131 (fun H_124 locs hP hD hS => ?_)
              obtain ⟨M_125, eM_125⟩ : ∃ M1 : Hp, M1 = va_up M_60 v66 (.inl (cy 14, 120, .inl (upd f123 ((nI v27) : Int32).toNatClampNeg f_122))) := ⟨_, rfl⟩
              have hy40 : (ax M b22 40) = f123 := (congrFun hV.2.2.1 40).symm.trans (ax_of hM_64 (by decide) hv66 hM123)
              have hV : VW K L M M_125 b22 (fx M b22) (va_up (va_up (va_up (ax M b22) 38 (upd (ax M b22 38) ((nI v27) : Int32).toNatClampNeg (nI j_37))) 39 (upd (ax M b22 39) ((nI v27) : Int32).toNatClampNeg k3)) 40 (upd (ax M b22 40) ((nI v27) : Int32).toNatClampNeg f_122)) := by rw [eM_125]; exact hV.ast (j := 40) hW hb_24 hM_64 (by decide) hv66 hc66 hM123
              have hP : va_P D vwCl ([(za, (b13_0 0 z1 (nI z2) (nI z3) z4 z5 z6 z7 z8 z9 (nI z10) z11 z12 z13 z14 z15 (nI z16) z17 z18 z19))] ++ va_pl L M_125) H_124 := by rw [eM_125]; exact hP
              have hD : va_D A ([(za, (b13_0 0 z1 (nI z2) (nI z3) z4 z5 z6 z7 z8 z9 (nI z10) z11 z12 z13 z14 z15 (nI z16) z17 z18 z19))] ++ va_pl L M_125) := by rw [eM_125]; exact hD
              have hW : WOM cy K L M_125 := by rw [eM_125]; exact hW.up_81 hc66 ⟨_, rfl⟩
              have hF : fr K L [12, 14, 32, 36, 79, 80, 81] M M_125 := by rw [eM_125]; exact hF.up hc66 (by decide)
              have hG : fG K L [14, 16] M M_125 := by rw [eM_125]; exact hG.arr hc66 (by decide)
              have hM_126 : M_125 v66 = .inl (cy 14, 120, .inl (upd f123 ((nI v27) : Int32).toNatClampNeg f_122)) := by rw [eM_125]; exact va_up_self _ _ _
              have hM_127 : M_125 v57 = .inl (cy 14, 120, .inl (f_65)) := by rw [eM_125, va_up_ne _ _ (hc57.neT hc66 (by decide))]; exact hM_61
              have hM_128 : M_125 v48 = .inl (cy 14, 120, .inl (f_55)) := by rw [eM_125, va_up_ne _ _ (hc48.neT hc66 (by decide))]; exact hM_62
              have hM_129 : M_125 z1 = .inl (cy 23, 8, .inr (.inr (.inr (.inr (f20))))) := by rw [eM_125, va_up_ne _ _ (i1.neT hc66 (by decide))]; exact hM_63
              have hM_130 : M_125 b22 = .inr (12, fs25) := by rw [eM_125, va_up_ne _ _ (hb_24.neT hc66 (by decide))]; exact hM_64
              obtain ⟨f_131, ef_131⟩ : ∃ f : Nat → Int32, f = upd f123 ((nI v27) : Int32).toNatClampNeg f_122 := ⟨_, rfl⟩
              rw [← ef_131] at hM_126
              refine lv_aload hx hb dX13_move_132 (lv_at hl 0 rfl) ?_
              refine lv_dup hx hb dX13_move_134 rfl ?_
              refine pg_getN (D := D) (ci := 12) (v := .int (nI v27)) (C := RX12) (T := TX12) (N := 51) hx hb hg inG12 hown hK hP hb_24.1 hM_130 rfl 14 (by decide) (hN.use (Cond.fieldLinkNest RX13 193 RX12 "moves" "I" RX13) 23 rfl rfl) (fun _ h9 => h9) hv27 dX13_move_135 ?_
              refine lv_iconst (v := 1) hx hb dX13_move_138 (by decide) ?_
              refine lv_iadd hx hb dX13_move_139 ?_
              refine lv_topi (fun f_132 ef_132 => ?_)
              obtain rfl : f_132 = (nI (v27 + 1)) := ef_132.trans (nI_add v27 1)
              refine pg_putN (D := D) (ci := 12) (v := .int (nI (v27 + 1))) (ty := .int) (C := RX12) (T := TX12) (N := 51) hx hb hg inG12 tyX12 tyX12_ok nmX12 hown hK hP hD hS hb_24.1 hM_130 rfl 14 (by decide) (hN.use (Cond.fieldLinkNest RX13 193 RX12 "moves" "I" RX13) 23 rfl rfl) (fun _ h9 => h9) rfl (by decide +kernel) rfl rfl (by rw [hn25]; decide) dX13_move_140 (fun H_133 locs hP hD hS => ?_)
              have hs_136 : (fs25.set 14 (.int (nI (v27 + 1))))[14]? = some (.int (nI (v27 + 1))) := List.getElem?_set_self (by rw [hn25]; decide)
              have hk_135 := fld12_set (k := 14) (w := .int (nI (v27 + 1))) hl25 (show fld12 K L 14 (fs25.set 14 (.int (nI (v27 + 1)))) from ⟨(v27 + 1), hs_136, by omega⟩)
              have hn_137 : (fs25.set 14 (.int (nI (v27 + 1)))).length = 51 := by rw [List.length_set]; exact hn25
              have hv_138 : (fs25.set 14 (.int (nI (v27 + 1))))[10]? = some (.int (nI v26)) := by rw [List.getElem?_set_ne (by decide)]; exact hv26
              have hv_139 : (fs25.set 14 (.int (nI (v27 + 1))))[38]? = some (.ref v48) := by rw [List.getElem?_set_ne (by decide)]; exact hv48
              have hv_140 : (fs25.set 14 (.int (nI (v27 + 1))))[39]? = some (.ref v57) := by rw [List.getElem?_set_ne (by decide)]; exact hv57
              have hv_141 : (fs25.set 14 (.int (nI (v27 + 1))))[40]? = some (.ref v66) := by rw [List.getElem?_set_ne (by decide)]; exact hv66
              have hb_142 : (v27 + 1) ≤ 120 := by omega
              obtain ⟨M_143, eM_143⟩ : ∃ M1 : Hp, M1 = va_up M_125 b22 (.inr (12, fs25.set 14 (.int (nI (v27 + 1))))) := ⟨_, rfl⟩
              have hx14 : (fx M b22 14) = ((v27 : Nat) : Int) := (congrFun hV.2.1 14).symm.trans ((fx_of hM_130 rfl hv27).trans (nI_toInt (by omega)))
              have hV : VW K L M M_143 b22 (va_up (fx M b22) 14 (((v27 + 1) : Nat) : Int)) (va_up (va_up (va_up (ax M b22) 38 (upd (ax M b22 38) ((nI v27) : Int32).toNatClampNeg (nI j_37))) 39 (upd (ax M b22 39) ((nI v27) : Int32).toNatClampNeg k3)) 40 (upd (ax M b22 40) ((nI v27) : Int32).toNatClampNeg f_122)) := by rw [eM_143]; exact hV.put hW hb_24 hM_130 hn25 rfl (by decide) rfl (nI_toInt (by omega))
              have hP : va_P D vwCl ([(za, (b13_0 0 z1 (nI z2) (nI z3) z4 z5 z6 z7 z8 z9 (nI z10) z11 z12 z13 z14 z15 (nI z16) z17 z18 z19))] ++ va_pl L M_143) H_133 := by rw [eM_143]; exact hP
              have hD : va_D A ([(za, (b13_0 0 z1 (nI z2) (nI z3) z4 z5 z6 z7 z8 z9 (nI z10) z11 z12 z13 z14 z15 (nI z16) z17 z18 z19))] ++ va_pl L M_143) := by rw [eM_143]; exact hD
              have hW : WOM cy K L M_143 := by rw [eM_143]; exact hW.up_12 hb_24 ⟨_, rfl, hn_137, hk_135⟩
              have hF : fr K L [12, 14, 32, 36, 79, 80, 81] M M_143 := by rw [eM_143]; exact hF.up hb_24 (by decide)
              have hG : fG K L [14, 16] M M_143 := by rw [eM_143]; exact hG.up hM_130 (by decide)
              have hM_144 : M_143 b22 = .inr (12, fs25.set 14 (.int (nI (v27 + 1)))) := by rw [eM_143]; exact va_up_self _ _ _
              have hM_145 : M_143 v66 = .inl (cy 14, 120, .inl (f_131)) := by rw [eM_143, va_up_ne _ _ (hc66.neT hb_24 (by decide))]; exact hM_126
              have hM_146 : M_143 v57 = .inl (cy 14, 120, .inl (f_65)) := by rw [eM_143, va_up_ne _ _ (hc57.neT hb_24 (by decide))]; exact hM_127
              have hM_147 : M_143 v48 = .inl (cy 14, 120, .inl (f_55)) := by rw [eM_143, va_up_ne _ _ (hc48.neT hb_24 (by decide))]; exact hM_128
              have hM_148 : M_143 z1 = .inl (cy 23, 8, .inr (.inr (.inr (.inr (f20))))) := by rw [eM_143, va_up_ne _ _ (i1.neT hb_24 (by decide))]; exact hM_129
              refine lv_aload hx hb dX13_move_143 (lv_at hl 0 rfl) ?_
              refine lv_iconst (v := (-1)) hx hb dX13_move_145 (by decide) ?_
              have hPc : va_P D vwCl ([] ++ va_pl L M_143) H_133 := hP.part (cx := []) [] rfl
              have hDc : va_D A ([] ++ va_pl L M_143) := hD.part (cx := []) [] (by decide) rfl
              have hFc : ∀ q, va_A ([] ++ va_pl L M_143) H_133.size q → A q := pg_free hDc hS hA
              refine va_callv (va_runV (As := [.int (-1)]) (rest := []) ⟨hx, hb, hml, hown, hg⟩ (r_remM l D cy K L M_143 H_133.size b22  hW hb_24 hV.2.2.2) (cwV 1 hg (gV wd_827 wd_828 wd_829 wd_737 wd_830) rfl rfl rfl (by decide +kernel) ⟨(Nat.le_trans (Nat.le_of_ble_eq_true rfl) hRf), (Nat.le_trans (Nat.le_of_ble_eq_true rfl) hRl)⟩) ⟨PG.blind, pg_recv hK hP hb_24.1 hM_144 rfl, fun U hU hW => ⟨rfl, PG.at hPc hK hDc hN hU hW⟩⟩ rfl rfl hl.1 rfl (lv_room (Nat.le_of_ble_eq_true rfl)) dX13_move_146 ⟨(Nat.le_trans (Nat.le_of_ble_eq_true rfl) hRc), (Nat.le_trans (Nat.le_of_ble_eq_true rfl) hRs)⟩) hS (fun q _ h => hFc q h) hFc (fun M_151 t H_149 locs ht hvm hw hB hz1 hk1 hS => ?_)
              have hWb := hW
              obtain ⟨hW, hF2, hG2, hVP, hp_152⟩ := hw
              obtain ⟨hP1, hD1⟩ := hB
              rw [ht] at hP1
              obtain ⟨hP, hD⟩ := va_joinP (X := [(za, (b13_0 0 z1 (nI z2) (nI z3) z4 z5 z6 z7 z8 z9 (nI z10) z11 z12 z13 z14 z15 (nI z16) z17 z18 z19))]) (cx := []) (wr := [(za, (b13_0 0 z1 (nI z2) (nI z3) z4 z5 z6 z7 z8 z9 (nI z10) z11 z12 z13 z14 z15 (nI z16) z17 z18 z19))]) (rx := []) (pl := va_pl L M_143) (pl1 := va_pl L M_151) hP hD [] [0] rfl rfl (by decide) (by decide) hk1 hFc hP1 hD1
              have hP : va_P D vwCl ([(za, (b13_0 0 z1 (nI z2) (nI z3) z4 z5 z6 z7 z8 z9 (nI z10) z11 z12 z13 z14 z15 (nI z16) z17 z18 z19))] ++ va_pl L M_151) H_149 := hP
              have hD : va_D A ([(za, (b13_0 0 z1 (nI z2) (nI z3) z4 z5 z6 z7 z8 z9 (nI z10) z11 z12 z13 z14 z15 (nI z16) z17 z18 z19))] ++ va_pl L M_151) := hD
              obtain ⟨fs153, hM153, hn153, hl153⟩ := hW.open_12 hb_24
              have hv_154 : fs153[10]? = some (.int (nI v26) : Value) := (hG2 _ hb_24 _ _ hM_144 hM153 10 (by decide)).trans hv_138
              have hv_155 : fs153[38]? = some (.ref v48 : Value) := (hG2 _ hb_24 _ _ hM_144 hM153 38 (by decide)).trans hv_139
              have hv_156 : fs153[39]? = some (.ref v57 : Value) := (hG2 _ hb_24 _ _ hM_144 hM153 39 (by decide)).trans hv_140
              have hv_157 : fs153[40]? = some (.ref v66 : Value) := (hG2 _ hb_24 _ _ hM_144 hM153 40 (by decide)).trans hv_141
              have hv_158 : fs153[14]? = some (.int (nI (v27 + 1)) : Value) := (hG2 _ hb_24 _ _ hM_144 hM153 14 (by decide)).trans hs_136
              have hM_159 : M_151 v66 = .inl (cy 14, 120, .inl (f_131)) := (hF2.at hc66 (by decide)).trans hM_145
              have hM_160 : M_151 v57 = .inl (cy 14, 120, .inl (f_65)) := (hF2.at hc57 (by decide)).trans hM_146
              have hM_161 : M_151 v48 = .inl (cy 14, 120, .inl (f_55)) := (hF2.at hc48 (by decide)).trans hM_147
              have hM_162 : M_151 z1 = .inl (cy 23, 8, .inr (.inr (.inr (.inr (f20))))) := (hF2.at i1 (by decide)).trans hM_148
              have hF : fr K L [12, 14, 32, 36, 79, 80, 81] M M_151 := hF.tr hF2 (by decide)
              have hG : fG K L [14, 16] M M_151 := hG.tr hWb hG2 (by decide)
              obtain ⟨n_163, g_164, hRF, hV2⟩ := hVP
              rw [hV.2.1, hV.2.2.1] at hRF hV2
              have hRF : REMF (fx M b22 16) (ax M b22 43) (-1) n_163 g_164 := hRF
              have hV : VW K L M M_151 b22 (va_up (va_up (fx M b22) 14 (((v27 + 1) : Nat) : Int)) 16 n_163) (va_up (va_up (va_up (va_up (ax M b22) 38 (upd (ax M b22 38) ((nI v27) : Int32).toNatClampNeg (nI j_37))) 39 (upd (ax M b22 39) ((nI v27) : Int32).toNatClampNeg k3)) 40 (upd (ax M b22 40) ((nI v27) : Int32).toNatClampNeg f_122)) 43 g_164) := hV.tr hV2
              refine lv_aload_n hx hb dX13_move_149 rfl (lv_at hl 1 rfl) ?_
              refine lv_aload hx hb dX13_move_150 (lv_at hl 0 rfl) ?_
              refine pg_getN (D := D) (ci := 12) (v := .int (nI (v27 + 1))) (C := RX12) (T := TX12) (N := 51) hx hb hg inG12 hown hK hP hb_24.1 hM153 rfl 14 (by decide) (hN.use (Cond.fieldLinkNest RX13 193 RX12 "moves" "I" RX13) 23 rfl rfl) (fun _ h9 => h9) hv_158 dX13_move_152 ?_
              have hPc := hP.sub (ws' := [(za, (b13_0 0 z1 (nI z2) (nI z3) z4 z5 z6 z7 z8 z9 (nI z10) z11 z12 z13 z14 z15 (nI z16) z17 z18 z19))]) [0] rfl
              have hDc := hD.sub (ws' := [(za, (b13_0 0 z1 (nI z2) (nI z3) z4 z5 z6 z7 z8 z9 (nI z10) z11 z12 z13 z14 z15 (nI z16) z17 z18 z19))]) [0] (by decide) rfl
              have hKc := hK.sub (tys' := []) [] rfl
              have hFc := va_free (wc := [(za, (b13_0 0 z1 (nI z2) (nI z3) z4 z5 z6 z7 z8 z9 (nI z10) z11 z12 z13 z14 z15 (nI z16) z17 z18 z19))]) hD hS hA [0] rfl
              refine va_calli (va_runV (As := [.int (nI (v27 + 1))]) (rest := []) ⟨hx, hb, hml, hown, hg⟩ (m_done l D H_149.size za 0 z1 (nI z2) (nI z3) z4 z5 z6 z7 z8 z9 (nI z10) z11 z12 z13 z14 z15 (nI z16) z17 z18 z19 (nI (v27 + 1))) (cwV 1 hg (gV wd_730 wd_731 wd_732 wd_717 wd_733) rfl rfl rfl (by decide +kernel) ⟨(Nat.le_trans (Nat.le_of_ble_eq_true rfl) hRf), (Nat.le_trans (Nat.le_of_ble_eq_true rfl) hRl)⟩) ⟨Pr.blind, va_recv hK hP (ci := 13) (q0 := 0) rfl rfl, fun U hU hW => ⟨rfl, Pr.at hPc hKc hDc hN hU hW⟩⟩ rfl rfl hl.1 rfl (lv_room (Nat.le_of_ble_eq_true rfl)) dX13_move_155 ⟨(Nat.le_trans (Nat.le_of_ble_eq_true rfl) hRc), (Nat.le_trans (Nat.le_of_ble_eq_true rfl) hRs)⟩) hS (fun q _ h => hFc q h) hFc (fun r_166 M_167 t H_165 locs ht hvm hw hB hz1 hk1 hS => ?_)
              have hp_168 := hw
              obtain ⟨hP1, hK1, hD1⟩ := hB
              rw [ht] at hP1
              obtain ⟨hP, hD⟩ := va_joinQ (X := [(za, (b13_0 0 z1 (nI z2) (nI z3) z4 z5 z6 z7 z8 z9 (nI z10) z11 z12 z13 z14 z15 (nI z16) z17 z18 z19))]) (cx := [(za, (b13_0 0 z1 (nI z2) (nI z3) z4 z5 z6 z7 z8 z9 (nI z10) z11 z12 z13 z14 z15 (nI z16) z17 z18 z19))]) (wr := []) (w1 := [(za, (b13_0 0 z1 (nI z2) (nI z3) 0 (-1) z6 z7 z8 z9 (nI z10) z11 z12 z13 z14 z15 (nI z16) z17 z18 z19))]) (pl := va_pl L M_151) hP hD [0] [] rfl rfl (by decide) (by decide) hk1 hFc hP1 hD1
              have hP : va_P D vwCl ([(za, (b13_0 0 z1 (nI z2) (nI z3) 0 (-1) z6 z7 z8 z9 (nI z10) z11 z12 z13 z14 z15 (nI z16) z17 z18 z19))] ++ va_pl L M_151) H_165 := hP
              have hD : va_D A ([(za, (b13_0 0 z1 (nI z2) (nI z3) 0 (-1) z6 z7 z8 z9 (nI z10) z11 z12 z13 z14 z15 (nI z16) z17 z18 z19))] ++ va_pl L M_151) := hD
              have hq := Eq.symm hp_168
              subst hq
              have hI_169 : (0 : Int) ≤ (k1 : Int32).toInt := inltI rfl rfl c_7
              have hI_170 : (k1 : Int32).toInt < ((z2 : Nat) : Int) := inleI (nI_toInt (by omega)) rfl c_8
              have hI_171 : (0 : Int) ≤ ((j_37 : Nat) : Int) := inltI (nI_toInt (by omega)) rfl c_9
              have hI_172 : ((j_37 : Nat) : Int) < (24 : Int) := inleI rfl (nI_toInt (by omega)) c_10
              have hI_173 : (0 : Int) ≤ (k3 : Int32).toInt := inltI rfl rfl c_33
              have hI_174 : (k3 : Int32).toInt < (1000 : Int) := inleI rfl rfl c_34
              have hI_175 : ((v27 : Nat) : Int) ≠ (120 : Int) := ineI (nI_toInt (by omega)) rfl c_46
              have hI_176 : (k5 : Int32).toInt ≠ (0 : Int) := ineI rfl rfl c_67
              have hn92 : ((nI j_37) : Int32).toInt = ((j_37 : Nat) : Int) := nI_toInt (by omega)
              have hii := c_43
              rw [hZk.2] at hii
              rw [show j_37 = ((nI j_37) : Int32).toNatClampNeg from (nI_cl (by omega)).symm] at hii
              have hyes : okMv z2 SX SY k1 (nI j_37) k3 k4 := by unfold okMv okH; refine ⟨⟨?_, ?_⟩, ?_, ?_, ?_, ?_, ?_, ?_, ?_, ?_, ?_⟩ <;> first | omega | assumption
              have hA9 : HA (ax M b22 2) (ax M b22 3) := hAT.1
              have hB9 : HB n_163 (((v27 + 1) : Nat) : Int) (ax M b22 3) g_164 := HB.remM hAT.2.1 hRF (by omega)
              have hC9 : HC (fx M b22 10) (ax M b22 22) (ax M b22 23) := hAT.2.2.1
              have hD9 : HD (fx M b22 0) (fx M b22 11) (fx M b22 15) (ax M b22 34) (ax M b22 41) := hAT.2.2.2.1
              have hE9 : HE (fx M b22 0) (fx M b22 1) (fx M b22 12) (fx M b22 13) (ax M b22 37) := hAT.2.2.2.2
              have hH9 : HI (va_up (va_up (fx M b22) 14 (((v27 + 1) : Nat) : Int)) 16 n_163) (va_up (va_up (va_up (va_up (ax M b22) 38 (upd (ax M b22 38) ((nI v27) : Int32).toNatClampNeg (nI j_37))) 39 (upd (ax M b22 39) ((nI v27) : Int32).toNatClampNeg k3)) 40 (upd (ax M b22 40) ((nI v27) : Int32).toNatClampNeg f_122)) 43 g_164) := ⟨hA9, hB9, hC9, hD9, hE9⟩
              have hGI9 : GI K L z1 z2 M_151 := GI.fin hW0 i1 b2 hGI hact hV (hF.at i1 (by decide)) hH9
              have hk5 : (if k5 = 0 then k4 else -k4) = f_122 := by rw [if_neg c_67]; exact ef_122.symm
              rw [hQ]
              exact W.iret (v := (nI (v27 + 1))) hx hb hr (fun t ht hW9 => ⟨⟨(nI (v27 + 1)), M_151, rfl, ⟨hW, hF, hG, ⟨hGI9, ⟨n_163, g_164, fun _ => (by rw [← hZk.1, ← hZk.2]; exact hRF), (by unfold sxMv syMv; rw [if_pos hyes, if_pos hyes, hk5]; exact ZSx.fin hW0 i1 b2 hZS hGI.1 hkn hb9 hV (hF.at i1 (by decide)) (by rw [hZk.1, show ((v27 + 1 : Nat) : Int) = SX (k1 : Int32).toNatClampNeg 14 + 1 by omega]) (by rw [hZk.2, nI_cl (t := v27) (by omega), show v27 = (SX (k1 : Int32).toNatClampNeg 14).toNat by omega]))⟩⟩, (by unfold anMv; rw [if_pos hyes]; exact congrArg nI (by omega))⟩, ⟨0, by rw [ht]; exact hP, hD⟩⟩, hS.F ht⟩) hS.2.2 dX13_move_158
          · have hz := rfl (a := 0)
            have n_177 : v27 = 120 := (iEQ (a := v27) (b := 120) (by omega) (by omega)).mp c_46
            refine lv_aload_n hx hb dX13_move_77 rfl (lv_at hl 1 rfl) ?_
            refine lv_bipush (v := 9) hx hb dX13_move_78 (by decide) ?_
            have hPc := hP.sub (ws' := [(za, (b13_0 0 z1 (nI z2) (nI z3) z4 z5 z6 z7 z8 z9 (nI z10) z11 z12 z13 z14 z15 (nI z16) z17 z18 z19))]) [0] rfl
            have hDc := hD.sub (ws' := [(za, (b13_0 0 z1 (nI z2) (nI z3) z4 z5 z6 z7 z8 z9 (nI z10) z11 z12 z13 z14 z15 (nI z16) z17 z18 z19))]) [0] (by decide) rfl
            have hKc := hK.sub (tys' := []) [] rfl
            have hFc := va_free (wc := [(za, (b13_0 0 z1 (nI z2) (nI z3) z4 z5 z6 z7 z8 z9 (nI z10) z11 z12 z13 z14 z15 (nI z16) z17 z18 z19))]) hD hS hA [0] rfl
            refine va_calli (va_runV (As := [.int 9]) (rest := []) ⟨hx, hb, hml, hown, hg⟩ (m_refused l D H_39.size za 0 z1 (nI z2) (nI z3) z4 z5 z6 z7 z8 z9 (nI z10) z11 z12 z13 z14 z15 (nI z16) z17 z18 z19 9) (cwV 1 hg (gV wd_725 wd_726 wd_727 wd_717 wd_728) rfl rfl rfl (by decide +kernel) ⟨(Nat.le_trans (Nat.le_of_ble_eq_true rfl) hRf), (Nat.le_trans (Nat.le_of_ble_eq_true rfl) hRl)⟩) ⟨Pr.blind, va_recv hK hP (ci := 13) (q0 := 0) rfl rfl, fun U hU hW => ⟨rfl, Pr.at hPc hKc hDc hN hU hW⟩⟩ rfl rfl hl.1 rfl (lv_room (Nat.le_of_ble_eq_true rfl)) dX13_move_80 ⟨(Nat.le_trans (Nat.le_of_ble_eq_true rfl) hRc), (Nat.le_trans (Nat.le_of_ble_eq_true rfl) hRs)⟩) hS (fun q _ h => hFc q h) hFc (fun r_179 M_180 t H_178 locs ht hvm hw hB hz1 hk1 hS => ?_)
            have hp_181 := hw
            obtain ⟨hP1, hK1, hD1⟩ := hB
            rw [ht] at hP1
            obtain ⟨hP, hD⟩ := va_joinQ (X := [(za, (b13_0 0 z1 (nI z2) (nI z3) z4 z5 z6 z7 z8 z9 (nI z10) z11 z12 z13 z14 z15 (nI z16) z17 z18 z19))]) (cx := [(za, (b13_0 0 z1 (nI z2) (nI z3) z4 z5 z6 z7 z8 z9 (nI z10) z11 z12 z13 z14 z15 (nI z16) z17 z18 z19))]) (wr := []) (w1 := [(za, (b13_0 0 z1 (nI z2) (nI z3) 9 (-1) z6 z7 z8 z9 (nI z10) z11 z12 z13 z14 z15 (nI z16) z17 z18 z19))]) (pl := va_pl L M) hP hD [0] [] rfl rfl (by decide) (by decide) hk1 hFc hP1 hD1
            have hP : va_P D vwCl ([(za, (b13_0 0 z1 (nI z2) (nI z3) 9 (-1) z6 z7 z8 z9 (nI z10) z11 z12 z13 z14 z15 (nI z16) z17 z18 z19))] ++ va_pl L M) H_178 := hP
            have hD : va_D A ([(za, (b13_0 0 z1 (nI z2) (nI z3) 9 (-1) z6 z7 z8 z9 (nI z10) z11 z12 z13 z14 z15 (nI z16) z17 z18 z19))] ++ va_pl L M) := hD
            have hq := Eq.symm hp_181
            subst hq
            have hI_182 : (0 : Int) ≤ (k1 : Int32).toInt := inltI rfl rfl c_7
            have hI_183 : (k1 : Int32).toInt < ((z2 : Nat) : Int) := inleI (nI_toInt (by omega)) rfl c_8
            have hI_184 : (0 : Int) ≤ ((j_37 : Nat) : Int) := inltI (nI_toInt (by omega)) rfl c_9
            have hI_185 : ((j_37 : Nat) : Int) < (24 : Int) := inleI rfl (nI_toInt (by omega)) c_10
            have hI_186 : (0 : Int) ≤ (k3 : Int32).toInt := inltI rfl rfl c_33
            have hI_187 : (k3 : Int32).toInt < (1000 : Int) := inleI rfl rfl c_34
            have hI_188 : ((v27 : Nat) : Int) = (120 : Int) := ieqI (nI_toInt (by omega)) rfl c_46
            have hn92 : ((nI j_37) : Int32).toInt = ((j_37 : Nat) : Int) := nI_toInt (by omega)
            have hii := c_43
            rw [hZk.2] at hii
            rw [show j_37 = ((nI j_37) : Int32).toNatClampNeg from (nI_cl (by omega)).symm] at hii
            have hno : ¬ okMv z2 SX SY k1 (nI j_37) k3 k4 := fun q9 => by unfold okMv okH at q9; first | omega | (obtain ⟨⟨_, _⟩, _, _, _, _, _, _, _, _, _⟩ := q9; first | omega | contradiction)
            rw [hQ]
            exact W.iret (v := (-1)) hx hb hr (fun t ht hW9 => ⟨⟨(-1), M, rfl, ⟨hW, hF, hG, ⟨hGI, ⟨0, fun _ => 0, fun w9 => absurd w9 hno, (by unfold sxMv syMv; rw [if_neg hno, if_neg hno]; exact hZS)⟩⟩, (by unfold anMv; rw [if_neg hno])⟩, ⟨9, by rw [ht]; exact hP, hD⟩⟩, hS.F ht⟩) hS.2.2 dX13_move_83
        · have hz := rfl (a := 0)
          refine lv_if_ne (tgt := 67) hx hb dX13_move_58 (by decide) (fun c_189 => absurd c_189 (by decide)) (fun _ => ?_)
          refine lv_aload_n hx hb dX13_move_61 rfl (lv_at hl 1 rfl) ?_
          refine lv_iconst (v := 3) hx hb dX13_move_62 (by decide) ?_
          have hPc := hP.sub (ws' := [(za, (b13_0 0 z1 (nI z2) (nI z3) z4 z5 z6 z7 z8 z9 (nI z10) z11 z12 z13 z14 z15 (nI z16) z17 z18 z19))]) [0] rfl
          have hDc := hD.sub (ws' := [(za, (b13_0 0 z1 (nI z2) (nI z3) z4 z5 z6 z7 z8 z9 (nI z10) z11 z12 z13 z14 z15 (nI z16) z17 z18 z19))]) [0] (by decide) rfl
          have hKc := hK.sub (tys' := []) [] rfl
          have hFc := va_free (wc := [(za, (b13_0 0 z1 (nI z2) (nI z3) z4 z5 z6 z7 z8 z9 (nI z10) z11 z12 z13 z14 z15 (nI z16) z17 z18 z19))]) hD hS hA [0] rfl
          refine va_calli (va_runV (As := [.int 3]) (rest := []) ⟨hx, hb, hml, hown, hg⟩ (m_refused l D H_39.size za 0 z1 (nI z2) (nI z3) z4 z5 z6 z7 z8 z9 (nI z10) z11 z12 z13 z14 z15 (nI z16) z17 z18 z19 3) (cwV 1 hg (gV wd_725 wd_726 wd_727 wd_717 wd_728) rfl rfl rfl (by decide +kernel) ⟨(Nat.le_trans (Nat.le_of_ble_eq_true rfl) hRf), (Nat.le_trans (Nat.le_of_ble_eq_true rfl) hRl)⟩) ⟨Pr.blind, va_recv hK hP (ci := 13) (q0 := 0) rfl rfl, fun U hU hW => ⟨rfl, Pr.at hPc hKc hDc hN hU hW⟩⟩ rfl rfl hl.1 rfl (lv_room (Nat.le_of_ble_eq_true rfl)) dX13_move_63 ⟨(Nat.le_trans (Nat.le_of_ble_eq_true rfl) hRc), (Nat.le_trans (Nat.le_of_ble_eq_true rfl) hRs)⟩) hS (fun q _ h => hFc q h) hFc (fun r_191 M_192 t H_190 locs ht hvm hw hB hz1 hk1 hS => ?_)
          have hp_193 := hw
          obtain ⟨hP1, hK1, hD1⟩ := hB
          rw [ht] at hP1
          obtain ⟨hP, hD⟩ := va_joinQ (X := [(za, (b13_0 0 z1 (nI z2) (nI z3) z4 z5 z6 z7 z8 z9 (nI z10) z11 z12 z13 z14 z15 (nI z16) z17 z18 z19))]) (cx := [(za, (b13_0 0 z1 (nI z2) (nI z3) z4 z5 z6 z7 z8 z9 (nI z10) z11 z12 z13 z14 z15 (nI z16) z17 z18 z19))]) (wr := []) (w1 := [(za, (b13_0 0 z1 (nI z2) (nI z3) 3 (-1) z6 z7 z8 z9 (nI z10) z11 z12 z13 z14 z15 (nI z16) z17 z18 z19))]) (pl := va_pl L M) hP hD [0] [] rfl rfl (by decide) (by decide) hk1 hFc hP1 hD1
          have hP : va_P D vwCl ([(za, (b13_0 0 z1 (nI z2) (nI z3) 3 (-1) z6 z7 z8 z9 (nI z10) z11 z12 z13 z14 z15 (nI z16) z17 z18 z19))] ++ va_pl L M) H_190 := hP
          have hD : va_D A ([(za, (b13_0 0 z1 (nI z2) (nI z3) 3 (-1) z6 z7 z8 z9 (nI z10) z11 z12 z13 z14 z15 (nI z16) z17 z18 z19))] ++ va_pl L M) := hD
          have hq := Eq.symm hp_193
          subst hq
          have hI_194 : (0 : Int) ≤ (k1 : Int32).toInt := inltI rfl rfl c_7
          have hI_195 : (k1 : Int32).toInt < ((z2 : Nat) : Int) := inleI (nI_toInt (by omega)) rfl c_8
          have hI_196 : (0 : Int) ≤ ((j_37 : Nat) : Int) := inltI (nI_toInt (by omega)) rfl c_9
          have hI_197 : ((j_37 : Nat) : Int) < (24 : Int) := inleI rfl (nI_toInt (by omega)) c_10
          have hI_198 : (0 : Int) ≤ (k3 : Int32).toInt := inltI rfl rfl c_33
          have hI_199 : (k3 : Int32).toInt < (1000 : Int) := inleI rfl rfl c_34
          have hn92 : ((nI j_37) : Int32).toInt = ((j_37 : Nat) : Int) := nI_toInt (by omega)
          have hii := c_44
          rw [hZk.2] at hii
          rw [show j_37 = ((nI j_37) : Int32).toNatClampNeg from (nI_cl (by omega)).symm] at hii
          have hno : ¬ okMv z2 SX SY k1 (nI j_37) k3 k4 := fun q9 => by unfold okMv okH at q9; first | omega | (obtain ⟨⟨_, _⟩, _, _, _, _, _, _, _, _, _⟩ := q9; first | omega | contradiction)
          rw [hQ]
          exact W.iret (v := (-1)) hx hb hr (fun t ht hW9 => ⟨⟨(-1), M, rfl, ⟨hW, hF, hG, ⟨hGI, ⟨0, fun _ => 0, fun w9 => absurd w9 hno, (by unfold sxMv syMv; rw [if_neg hno, if_neg hno]; exact hZS)⟩⟩, (by unfold anMv; rw [if_neg hno])⟩, ⟨3, by rw [ht]; exact hP, hD⟩⟩, hS.F ht⟩) hS.2.2 dX13_move_66
      · have hz := rfl (a := 0)
        refine lv_if_eq (tgt := 61) hx hb dX13_move_48 (by decide) (fun _ => ?_) (fun c_200 => absurd c_200 (by decide))
        refine lv_aload_n hx hb dX13_move_61 rfl (lv_at hl 1 rfl) ?_
        refine lv_iconst (v := 3) hx hb dX13_move_62 (by decide) ?_
        have hPc := hP.sub (ws' := [(za, (b13_0 0 z1 (nI z2) (nI z3) z4 z5 z6 z7 z8 z9 (nI z10) z11 z12 z13 z14 z15 (nI z16) z17 z18 z19))]) [0] rfl
        have hDc := hD.sub (ws' := [(za, (b13_0 0 z1 (nI z2) (nI z3) z4 z5 z6 z7 z8 z9 (nI z10) z11 z12 z13 z14 z15 (nI z16) z17 z18 z19))]) [0] (by decide) rfl
        have hKc := hK.sub (tys' := []) [] rfl
        have hFc := va_free (wc := [(za, (b13_0 0 z1 (nI z2) (nI z3) z4 z5 z6 z7 z8 z9 (nI z10) z11 z12 z13 z14 z15 (nI z16) z17 z18 z19))]) hD hS hA [0] rfl
        refine va_calli (va_runV (As := [.int 3]) (rest := []) ⟨hx, hb, hml, hown, hg⟩ (m_refused l D H_28.size za 0 z1 (nI z2) (nI z3) z4 z5 z6 z7 z8 z9 (nI z10) z11 z12 z13 z14 z15 (nI z16) z17 z18 z19 3) (cwV 1 hg (gV wd_725 wd_726 wd_727 wd_717 wd_728) rfl rfl rfl (by decide +kernel) ⟨(Nat.le_trans (Nat.le_of_ble_eq_true rfl) hRf), (Nat.le_trans (Nat.le_of_ble_eq_true rfl) hRl)⟩) ⟨Pr.blind, va_recv hK hP (ci := 13) (q0 := 0) rfl rfl, fun U hU hW => ⟨rfl, Pr.at hPc hKc hDc hN hU hW⟩⟩ rfl rfl hl.1 rfl (lv_room (Nat.le_of_ble_eq_true rfl)) dX13_move_63 ⟨(Nat.le_trans (Nat.le_of_ble_eq_true rfl) hRc), (Nat.le_trans (Nat.le_of_ble_eq_true rfl) hRs)⟩) hS (fun q _ h => hFc q h) hFc (fun r_202 M_203 t H_201 locs ht hvm hw hB hz1 hk1 hS => ?_)
        have hp_204 := hw
        obtain ⟨hP1, hK1, hD1⟩ := hB
        rw [ht] at hP1
        obtain ⟨hP, hD⟩ := va_joinQ (X := [(za, (b13_0 0 z1 (nI z2) (nI z3) z4 z5 z6 z7 z8 z9 (nI z10) z11 z12 z13 z14 z15 (nI z16) z17 z18 z19))]) (cx := [(za, (b13_0 0 z1 (nI z2) (nI z3) z4 z5 z6 z7 z8 z9 (nI z10) z11 z12 z13 z14 z15 (nI z16) z17 z18 z19))]) (wr := []) (w1 := [(za, (b13_0 0 z1 (nI z2) (nI z3) 3 (-1) z6 z7 z8 z9 (nI z10) z11 z12 z13 z14 z15 (nI z16) z17 z18 z19))]) (pl := va_pl L M) hP hD [0] [] rfl rfl (by decide) (by decide) hk1 hFc hP1 hD1
        have hP : va_P D vwCl ([(za, (b13_0 0 z1 (nI z2) (nI z3) 3 (-1) z6 z7 z8 z9 (nI z10) z11 z12 z13 z14 z15 (nI z16) z17 z18 z19))] ++ va_pl L M) H_201 := hP
        have hD : va_D A ([(za, (b13_0 0 z1 (nI z2) (nI z3) 3 (-1) z6 z7 z8 z9 (nI z10) z11 z12 z13 z14 z15 (nI z16) z17 z18 z19))] ++ va_pl L M) := hD
        have hq := Eq.symm hp_204
        subst hq
        have hI_205 : (0 : Int) ≤ (k1 : Int32).toInt := inltI rfl rfl c_7
        have hI_206 : (k1 : Int32).toInt < ((z2 : Nat) : Int) := inleI (nI_toInt (by omega)) rfl c_8
        have hI_207 : (0 : Int) ≤ (k2 : Int32).toInt := inltI rfl rfl c_9
        have hI_208 : (k2 : Int32).toInt < (24 : Int) := inleI rfl rfl c_10
        have hno : ¬ okMv z2 SX SY k1 k2 k3 k4 := fun q9 => by unfold okMv okH at q9; first | omega | (obtain ⟨⟨_, _⟩, _, _, _, _, _, _, _, _, _⟩ := q9; first | omega | contradiction)
        rw [hQ]
        exact W.iret (v := (-1)) hx hb hr (fun t ht hW9 => ⟨⟨(-1), M, rfl, ⟨hW, hF, hG, ⟨hGI, ⟨0, fun _ => 0, fun w9 => absurd w9 hno, (by unfold sxMv syMv; rw [if_neg hno, if_neg hno]; exact hZS)⟩⟩, (by unfold anMv; rw [if_neg hno])⟩, ⟨3, by rw [ht]; exact hP, hD⟩⟩, hS.F ht⟩) hS.2.2 dX13_move_66
    · have hz := rfl (a := 0)
      refine lv_if_ne (tgt := 34) hx hb dX13_move_25 (by decide) (fun c_209 => absurd c_209 (by decide)) (fun _ => ?_)
      refine lv_aload_n hx hb dX13_move_28 rfl (lv_at hl 0 rfl) ?_
      refine lv_iconst (v := 2) hx hb dX13_move_29 (by decide) ?_
      have hPc := hP.sub (ws' := [(za, (b13_0 0 z1 (nI z2) (nI z3) z4 z5 z6 z7 z8 z9 (nI z10) z11 z12 z13 z14 z15 (nI z16) z17 z18 z19))]) [0] rfl
      have hDc := hD.sub (ws' := [(za, (b13_0 0 z1 (nI z2) (nI z3) z4 z5 z6 z7 z8 z9 (nI z10) z11 z12 z13 z14 z15 (nI z16) z17 z18 z19))]) [0] (by decide) rfl
      have hKc := hK.sub (tys' := []) [] rfl
      have hFc := va_free (wc := [(za, (b13_0 0 z1 (nI z2) (nI z3) z4 z5 z6 z7 z8 z9 (nI z10) z11 z12 z13 z14 z15 (nI z16) z17 z18 z19))]) hD hS hA [0] rfl
      refine va_calli (va_runV (As := [.int 2]) (rest := []) ⟨hx, hb, hml, hown, hg⟩ (m_refused l D H_13.size za 0 z1 (nI z2) (nI z3) z4 z5 z6 z7 z8 z9 (nI z10) z11 z12 z13 z14 z15 (nI z16) z17 z18 z19 2) (cwV 1 hg (gV wd_725 wd_726 wd_727 wd_717 wd_728) rfl rfl rfl (by decide +kernel) ⟨(Nat.le_trans (Nat.le_of_ble_eq_true rfl) hRf), (Nat.le_trans (Nat.le_of_ble_eq_true rfl) hRl)⟩) ⟨Pr.blind, va_recv hK hP (ci := 13) (q0 := 0) rfl rfl, fun U hU hW => ⟨rfl, Pr.at hPc hKc hDc hN hU hW⟩⟩ rfl rfl hl.1 rfl (lv_room (Nat.le_of_ble_eq_true rfl)) dX13_move_30 ⟨(Nat.le_trans (Nat.le_of_ble_eq_true rfl) hRc), (Nat.le_trans (Nat.le_of_ble_eq_true rfl) hRs)⟩) hS (fun q _ h => hFc q h) hFc (fun r_211 M_212 t H_210 locs ht hvm hw hB hz1 hk1 hS => ?_)
      have hp_213 := hw
      obtain ⟨hP1, hK1, hD1⟩ := hB
      rw [ht] at hP1
      obtain ⟨hP, hD⟩ := va_joinQ (X := [(za, (b13_0 0 z1 (nI z2) (nI z3) z4 z5 z6 z7 z8 z9 (nI z10) z11 z12 z13 z14 z15 (nI z16) z17 z18 z19))]) (cx := [(za, (b13_0 0 z1 (nI z2) (nI z3) z4 z5 z6 z7 z8 z9 (nI z10) z11 z12 z13 z14 z15 (nI z16) z17 z18 z19))]) (wr := []) (w1 := [(za, (b13_0 0 z1 (nI z2) (nI z3) 2 (-1) z6 z7 z8 z9 (nI z10) z11 z12 z13 z14 z15 (nI z16) z17 z18 z19))]) (pl := va_pl L M) hP hD [0] [] rfl rfl (by decide) (by decide) hk1 hFc hP1 hD1
      have hP : va_P D vwCl ([(za, (b13_0 0 z1 (nI z2) (nI z3) 2 (-1) z6 z7 z8 z9 (nI z10) z11 z12 z13 z14 z15 (nI z16) z17 z18 z19))] ++ va_pl L M) H_210 := hP
      have hD : va_D A ([(za, (b13_0 0 z1 (nI z2) (nI z3) 2 (-1) z6 z7 z8 z9 (nI z10) z11 z12 z13 z14 z15 (nI z16) z17 z18 z19))] ++ va_pl L M) := hD
      have hq := Eq.symm hp_213
      subst hq
      have hI_214 : (0 : Int) ≤ (k1 : Int32).toInt := inltI rfl rfl c_7
      have hI_215 : (k1 : Int32).toInt < ((z2 : Nat) : Int) := inleI (nI_toInt (by omega)) rfl c_8
      have hI_216 : (0 : Int) ≤ (k2 : Int32).toInt := inltI rfl rfl c_9
      have hI_217 : (k2 : Int32).toInt < (24 : Int) := inleI rfl rfl c_10
      have hno : ¬ okMv z2 SX SY k1 k2 k3 k4 := fun q9 => by unfold okMv okH at q9; first | omega | (obtain ⟨⟨_, _⟩, _, _, _, _, _, _, _, _, _⟩ := q9; first | omega | contradiction)
      rw [hQ]
      exact W.iret (v := (-1)) hx hb hr (fun t ht hW9 => ⟨⟨(-1), M, rfl, ⟨hW, hF, hG, ⟨hGI, ⟨0, fun _ => 0, fun w9 => absurd w9 hno, (by unfold sxMv syMv; rw [if_neg hno, if_neg hno]; exact hZS)⟩⟩, (by unfold anMv; rw [if_neg hno])⟩, ⟨2, by rw [ht]; exact hP, hD⟩⟩, hS.F ht⟩) hS.2.2 dX13_move_33
  · have hz := rfl (a := 0)
    refine lv_if_ne (tgt := 20) hx hb dX13_move_11 (by decide) (fun c_218 => absurd c_218 (by decide)) (fun _ => ?_)
    refine lv_aload_n hx hb dX13_move_14 rfl (lv_at hl 0 rfl) ?_
    refine lv_iconst (v := 1) hx hb dX13_move_15 (by decide) ?_
    have hPc := hP.sub (ws' := [(za, (b13_0 0 z1 (nI z2) (nI z3) z4 z5 z6 z7 z8 z9 (nI z10) z11 z12 z13 z14 z15 (nI z16) z17 z18 z19))]) [0] rfl
    have hDc := hD.sub (ws' := [(za, (b13_0 0 z1 (nI z2) (nI z3) z4 z5 z6 z7 z8 z9 (nI z10) z11 z12 z13 z14 z15 (nI z16) z17 z18 z19))]) [0] (by decide) rfl
    have hKc := hK.sub (tys' := []) [] rfl
    have hFc := va_free (wc := [(za, (b13_0 0 z1 (nI z2) (nI z3) z4 z5 z6 z7 z8 z9 (nI z10) z11 z12 z13 z14 z15 (nI z16) z17 z18 z19))]) hD hS hA [0] rfl
    refine va_calli (va_runV (As := [.int 1]) (rest := []) ⟨hx, hb, hml, hown, hg⟩ (m_refused l D H_2.size za 0 z1 (nI z2) (nI z3) z4 z5 z6 z7 z8 z9 (nI z10) z11 z12 z13 z14 z15 (nI z16) z17 z18 z19 1) (cwV 1 hg (gV wd_725 wd_726 wd_727 wd_717 wd_728) rfl rfl rfl (by decide +kernel) ⟨(Nat.le_trans (Nat.le_of_ble_eq_true rfl) hRf), (Nat.le_trans (Nat.le_of_ble_eq_true rfl) hRl)⟩) ⟨Pr.blind, va_recv hK hP (ci := 13) (q0 := 0) rfl rfl, fun U hU hW => ⟨rfl, Pr.at hPc hKc hDc hN hU hW⟩⟩ rfl rfl hl.1 rfl (lv_room (Nat.le_of_ble_eq_true rfl)) dX13_move_16 ⟨(Nat.le_trans (Nat.le_of_ble_eq_true rfl) hRc), (Nat.le_trans (Nat.le_of_ble_eq_true rfl) hRs)⟩) hS (fun q _ h => hFc q h) hFc (fun r_220 M_221 t H_219 locs ht hvm hw hB hz1 hk1 hS => ?_)
    have hp_222 := hw
    obtain ⟨hP1, hK1, hD1⟩ := hB
    rw [ht] at hP1
    obtain ⟨hP, hD⟩ := va_joinQ (X := [(za, (b13_0 0 z1 (nI z2) (nI z3) z4 z5 z6 z7 z8 z9 (nI z10) z11 z12 z13 z14 z15 (nI z16) z17 z18 z19))]) (cx := [(za, (b13_0 0 z1 (nI z2) (nI z3) z4 z5 z6 z7 z8 z9 (nI z10) z11 z12 z13 z14 z15 (nI z16) z17 z18 z19))]) (wr := []) (w1 := [(za, (b13_0 0 z1 (nI z2) (nI z3) 1 (-1) z6 z7 z8 z9 (nI z10) z11 z12 z13 z14 z15 (nI z16) z17 z18 z19))]) (pl := va_pl L M) hP hD [0] [] rfl rfl (by decide) (by decide) hk1 hFc hP1 hD1
    have hP : va_P D vwCl ([(za, (b13_0 0 z1 (nI z2) (nI z3) 1 (-1) z6 z7 z8 z9 (nI z10) z11 z12 z13 z14 z15 (nI z16) z17 z18 z19))] ++ va_pl L M) H_219 := hP
    have hD : va_D A ([(za, (b13_0 0 z1 (nI z2) (nI z3) 1 (-1) z6 z7 z8 z9 (nI z10) z11 z12 z13 z14 z15 (nI z16) z17 z18 z19))] ++ va_pl L M) := hD
    have hq := Eq.symm hp_222
    subst hq
    have hno : ¬ okMv z2 SX SY k1 k2 k3 k4 := fun q9 => by unfold okMv okH at q9; first | omega | (obtain ⟨⟨_, _⟩, _, _, _, _, _, _, _, _, _⟩ := q9; first | omega | contradiction)
    rw [hQ]
    exact W.iret (v := (-1)) hx hb hr (fun t ht hW9 => ⟨⟨(-1), M, rfl, ⟨hW, hF, hG, ⟨hGI, ⟨0, fun _ => 0, fun w9 => absurd w9 hno, (by unfold sxMv syMv; rw [if_neg hno, if_neg hno]; exact hZS)⟩⟩, (by unfold anMv; rw [if_neg hno])⟩, ⟨1, by rw [ht]; exact hP, hD⟩⟩, hS.F ht⟩) hS.2.2 dX13_move_19
set_option maxHeartbeats 4000000 in
set_option maxRecDepth 100000 in
theorem z_earn (l : Launch) (D : va_G) (cy : Nat → ClassId) (K : Kp) (L : List Nat) (M : Hp) (sz : Nat) (za : Nat) (z0 : Int32) (z1 : Nat) (z2 : Nat) (z3 : Nat) (z4 : Int32) (z5 : Int32) (z6 : Nat) (z7 : Nat) (z8 : Nat) (z9 : Nat) (z10 : Nat) (z11 : Nat) (z12 : Nat) (z13 : Nat) (z14 : Nat) (z15 : Nat) (z16 : Nat) (z17 : Nat) (z18 : Int32) (z19 : Nat) (k1 : Int32) (k2 : Int32) (k3 : Int32) (SX : Nat → Nat → Int) (SY : Nat → Nat → Nat → Int32) (hW : WOM cy K L M) (i1 : isk K L z1 23 8) (b2 : z2 ≤ 8) (b3 : z3 ≤ 40) (i6 : isk K L z6 47 40) (i7 : isk K L z7 48 40) (i8 : isk K L z8 49 8) (i9 : isk K L z9 50 8) (b10 : z10 ≤ 8) (i11 : isk K L z11 32 24) (i12 : isk K L z12 14 24) (i13 : isk K L z13 97 24) (i14 : isk K L z14 98 24) (i15 : isk K L z15 99 24) (b16 : z16 ≤ 24) (i17 : isk K L z17 14 24) (i19 : isk K L z19 15 25) (hGI : GI K L z1 z2 M) (hZS : ZSx z1 z2 SX SY M) : Met l yX13_earn (wsM yX13_earn cX13_earn 4 (some .int)) ({ frames := 2, cells := 0, slots := 0, locals := 48 }) (va_Pc [.ref za, .int k1, .int k2, .int k3] (PG D cy [(za, (b13_0 z0 z1 (nI z2) (nI z3) z4 z5 z6 z7 z8 z9 (nI z10) z11 z12 z13 z14 z15 (nI z16) z17 z18 z19))] L M sz)) (va_Qi (fun (r : Int32) (M9 : Hp) => WOM cy K L M9 ∧ fr K L [12, 15, 35, 36, 84] M M9 ∧ fG K L [16] M M9 ∧ (GI K L z1 z2 M9 ∧ ∃ (n9 : Int) (l9 : Nat → Int32), (okEn z2 SX SY k1 k2 k3 1 → REMF (SX k1.toNatClampNeg 16) (SY k1.toNatClampNeg 43) k2 n9 l9) ∧ ZSx z1 z2 (sxEn z2 SX SY k1 k2 k3 1 n9) (syEn z2 SX SY k1 k2 k3 1 l9) M9) ∧ ((r = anEn z2 SX SY k1 k2 k3 1))) (fun M9 t => ∃ (w4 : Int32), PQ D [(za, (b13_0 0 z1 (nI z2) (nI z3) w4 (-1) z6 z7 z8 z9 (nI z10) z11 z12 z13 z14 z15 (nI z16) z17 z18 z19))] L M9 (va_A ([(za, (b13_0 z0 z1 (nI z2) (nI z3) z4 z5 z6 z7 z8 z9 (nI z10) z11 z12 z13 z14 z15 (nI z16) z17 z18 z19))] ++ va_pl L M) sz) t) (va_A ([(za, (b13_0 z0 z1 (nI z2) (nI z3) z4 z5 z6 z7 z8 z9 (nI z10) z11 z12 z13 z14 z15 (nI z16) z17 z18 z19))] ++ va_pl L M) sz)) 0 0 (va_A ([(za, (b13_0 z0 z1 (nI z2) (nI z3) z4 z5 z6 z7 z8 z9 (nI z10) z11 z12 z13 z14 z15 (nI z16) z17 z18 z19))] ++ va_pl L M) sz) := by
  refine Met.ofW (cc := cX13_earn) (maxL := 4) (ret := (some .int)) (by decide) rfl ?_
  intro p e s m args below meth c s₁ B hml hv
  obtain ⟨rfl, hsz, hP, hK, hD0, hN⟩ := hv
  have hx := B.exec
  have hb := B.bytes
  have hr := B.returns
  have hts := atoms_spec (ws := (wsM yX13_earn cX13_earn 4 (some .int))) B.pre
  have hg : ∀ w ∈ lw_good, w.before _ s = true := fun w h => hts w (List.mem_cons_of_mem _ h)
  have hown : s.vm.findClass RX13 = some m.cls := findClass_of_methodNamed B.named
  have hlocks := B.notSynchronized
  subst hsz
  have hD := hD0.self (sz := s.heap.size)
  generalize hAe : va_A ([(za, (b13_0 z0 z1 (nI z2) (nI z3) z4 z5 z6 z7 z8 z9 (nI z10) z11 z12 z13 z14 z15 (nI z16) z17 z18 z19))] ++ va_pl L M) s.heap.size = A at hD ⊢
  have hA : ∀ q : Nat, s.heap.size ≤ q → A q := fun q h => by rw [← hAe]; exact Or.inr h
  have hS : va_S A s.heap s.heap [] := va_S.rf
  have hl := lv_entry ([.ref za, .int k1, .int k2, .int k3]) (n := 4) (Nat.le_of_ble_eq_true rfl)
  rw [lg_entry_eq]
  generalize (lg_sl ([.ref za, .int k1, .int k2, .int k3]) ++ List.replicate (4 - (lg_sl ([.ref za, .int k1, .int k2, .int k3])).length) Slot.unset).toArray = ls at hl ⊢
  refine W.nameQ (fun Q hQ => ?_)
  refine W.nameR (fun R hR => ?_)
  have hRf : 2 ≤ R.frames := by rw [hR]; exact Nat.le_of_ble_eq_true rfl
  have hRl : 48 ≤ R.locals := by rw [hR]; exact Nat.le_of_ble_eq_true rfl
  have hRc : 0 ≤ R.cells := by rw [hR]; exact Nat.le_of_ble_eq_true rfl
  have hRs : 0 ≤ R.slots := by rw [hR]; exact Nat.le_of_ble_eq_true rfl
  have hF : fr K L [12, 15, 35, 36, 84] M M := fr.rf
  have hG : fG K L [16] M M := fG.rf
  have hl : lv_has ls 4 [(0, .ref za), (1, .int k1), (2, .int k2), (3, .int k3)] := hl
  refine lv_aload_n hx hb dX13_earn_0 rfl (lv_at hl 0 rfl) ?_
  refine lv_iload_n hx hb dX13_earn_1 rfl (lv_at hl 1 rfl) ?_
  refine lv_iload_n hx hb dX13_earn_2 rfl (lv_at hl 2 rfl) ?_
  refine lv_iload_n hx hb dX13_earn_3 rfl (lv_at hl 3 rfl) ?_
  refine lv_iconst (v := 1) hx hb dX13_earn_4 (by decide) ?_
  have hPc : va_P D vwCl ([(za, (b13_0 z0 z1 (nI z2) (nI z3) z4 z5 z6 z7 z8 z9 (nI z10) z11 z12 z13 z14 z15 (nI z16) z17 z18 z19))] ++ va_pl L M) s.heap := hP
  have hDc : va_D A ([(za, (b13_0 z0 z1 (nI z2) (nI z3) z4 z5 z6 z7 z8 z9 (nI z10) z11 z12 z13 z14 z15 (nI z16) z17 z18 z19))] ++ va_pl L M) := hD
  have hFc : ∀ q, va_A ([(za, (b13_0 z0 z1 (nI z2) (nI z3) z4 z5 z6 z7 z8 z9 (nI z10) z11 z12 z13 z14 z15 (nI z16) z17 z18 z19))] ++ va_pl L M) s.heap.size q → A q := pg_free hDc hS hA
  refine va_calli (va_runV (As := [.int k1, .int k2, .int k3, .int 1]) (rest := []) ⟨hx, hb, hml, hown, hg⟩ (z_enters l D cy K L M s.heap.size za z0 z1 z2 z3 z4 z5 z6 z7 z8 z9 z10 z11 z12 z13 z14 z15 z16 z17 z18 z19 k1 k2 k3 1 SX SY  hW i1 b2 b3 i6 i7 i8 i9 b10 i11 i12 i13 i14 i15 b16 i17 i19 hGI hZS) (cwV 4 hg (gV wd_836 wd_837 wd_838 wd_717 wd_839) rfl rfl rfl (by decide +kernel) ⟨(Nat.le_trans (Nat.le_of_ble_eq_true rfl) hRf), (Nat.le_trans (Nat.le_of_ble_eq_true rfl) hRl)⟩) ⟨PG.blind, va_recv hK hP (ci := 13) (q0 := 0) rfl rfl, fun U hU hW => ⟨rfl, PG.at hPc hK hDc hN hU hW⟩⟩ rfl rfl hl.1 rfl (lv_room (Nat.le_of_ble_eq_true rfl)) dX13_earn_5 ⟨(Nat.le_trans (Nat.le_of_ble_eq_true rfl) hRc), (Nat.le_trans (Nat.le_of_ble_eq_true rfl) hRs)⟩) hS (fun q _ h => hFc q h) hFc (fun r_2 M_3 t H_1 locs ht hvm hw hB hz1 hk1 hS => ?_)
  have hWb := hW
  obtain ⟨hW, hF2, hG2, hVP, hp_4⟩ := hw
  obtain ⟨w4_5, hP1, hD1⟩ := hB
  rw [ht] at hP1
  have hP : va_P D vwCl ([(za, (b13_0 0 z1 (nI z2) (nI z3) w4_5 (-1) z6 z7 z8 z9 (nI z10) z11 z12 z13 z14 z15 (nI z16) z17 z18 z19))] ++ va_pl L M_3) H_1 := hP1
  have hD : va_D A ([(za, (b13_0 0 z1 (nI z2) (nI z3) w4_5 (-1) z6 z7 z8 z9 (nI z10) z11 z12 z13 z14 z15 (nI z16) z17 z18 z19))] ++ va_pl L M_3) := hD1.mono hFc
  have hF : fr K L [12, 15, 35, 36, 84] M M_3 := hF.tr hF2 (by decide)
  have hG : fG K L [16] M M_3 := hG.tr hWb hG2 (by decide)
  obtain rfl := hp_4
  rw [hQ]
  exact W.iret (v := (anEn z2 SX SY k1 k2 k3 1)) hx hb hr (fun t ht hW9 => ⟨⟨(anEn z2 SX SY k1 k2 k3 1), M_3, rfl, ⟨hW, hF, hG, hVP, rfl⟩, ⟨w4_5, by rw [ht]; exact hP, hD⟩⟩, hS.F ht⟩) hS.2.2 dX13_earn_8
set_option maxHeartbeats 4000000 in
set_option maxRecDepth 100000 in
theorem z_spend (l : Launch) (D : va_G) (cy : Nat → ClassId) (K : Kp) (L : List Nat) (M : Hp) (sz : Nat) (za : Nat) (z0 : Int32) (z1 : Nat) (z2 : Nat) (z3 : Nat) (z4 : Int32) (z5 : Int32) (z6 : Nat) (z7 : Nat) (z8 : Nat) (z9 : Nat) (z10 : Nat) (z11 : Nat) (z12 : Nat) (z13 : Nat) (z14 : Nat) (z15 : Nat) (z16 : Nat) (z17 : Nat) (z18 : Int32) (z19 : Nat) (k1 : Int32) (k2 : Int32) (k3 : Int32) (SX : Nat → Nat → Int) (SY : Nat → Nat → Nat → Int32) (hW : WOM cy K L M) (i1 : isk K L z1 23 8) (b2 : z2 ≤ 8) (b3 : z3 ≤ 40) (i6 : isk K L z6 47 40) (i7 : isk K L z7 48 40) (i8 : isk K L z8 49 8) (i9 : isk K L z9 50 8) (b10 : z10 ≤ 8) (i11 : isk K L z11 32 24) (i12 : isk K L z12 14 24) (i13 : isk K L z13 97 24) (i14 : isk K L z14 98 24) (i15 : isk K L z15 99 24) (b16 : z16 ≤ 24) (i17 : isk K L z17 14 24) (i19 : isk K L z19 15 25) (hGI : GI K L z1 z2 M) (hZS : ZSx z1 z2 SX SY M) : Met l yX13_spend (wsM yX13_spend cX13_spend 4 (some .int)) ({ frames := 2, cells := 0, slots := 0, locals := 48 }) (va_Pc [.ref za, .int k1, .int k2, .int k3] (PG D cy [(za, (b13_0 z0 z1 (nI z2) (nI z3) z4 z5 z6 z7 z8 z9 (nI z10) z11 z12 z13 z14 z15 (nI z16) z17 z18 z19))] L M sz)) (va_Qi (fun (r : Int32) (M9 : Hp) => WOM cy K L M9 ∧ fr K L [12, 15, 35, 36, 84] M M9 ∧ fG K L [16] M M9 ∧ (GI K L z1 z2 M9 ∧ ∃ (n9 : Int) (l9 : Nat → Int32), (okEn z2 SX SY k1 k2 k3 (-1) → REMF (SX k1.toNatClampNeg 16) (SY k1.toNatClampNeg 43) k2 n9 l9) ∧ ZSx z1 z2 (sxEn z2 SX SY k1 k2 k3 (-1) n9) (syEn z2 SX SY k1 k2 k3 (-1) l9) M9) ∧ ((r = anEn z2 SX SY k1 k2 k3 (-1)))) (fun M9 t => ∃ (w4 : Int32), PQ D [(za, (b13_0 0 z1 (nI z2) (nI z3) w4 (-1) z6 z7 z8 z9 (nI z10) z11 z12 z13 z14 z15 (nI z16) z17 z18 z19))] L M9 (va_A ([(za, (b13_0 z0 z1 (nI z2) (nI z3) z4 z5 z6 z7 z8 z9 (nI z10) z11 z12 z13 z14 z15 (nI z16) z17 z18 z19))] ++ va_pl L M) sz) t) (va_A ([(za, (b13_0 z0 z1 (nI z2) (nI z3) z4 z5 z6 z7 z8 z9 (nI z10) z11 z12 z13 z14 z15 (nI z16) z17 z18 z19))] ++ va_pl L M) sz)) 0 0 (va_A ([(za, (b13_0 z0 z1 (nI z2) (nI z3) z4 z5 z6 z7 z8 z9 (nI z10) z11 z12 z13 z14 z15 (nI z16) z17 z18 z19))] ++ va_pl L M) sz) := by
  refine Met.ofW (cc := cX13_spend) (maxL := 4) (ret := (some .int)) (by decide) rfl ?_
  intro p e s m args below meth c s₁ B hml hv
  obtain ⟨rfl, hsz, hP, hK, hD0, hN⟩ := hv
  have hx := B.exec
  have hb := B.bytes
  have hr := B.returns
  have hts := atoms_spec (ws := (wsM yX13_spend cX13_spend 4 (some .int))) B.pre
  have hg : ∀ w ∈ lw_good, w.before _ s = true := fun w h => hts w (List.mem_cons_of_mem _ h)
  have hown : s.vm.findClass RX13 = some m.cls := findClass_of_methodNamed B.named
  have hlocks := B.notSynchronized
  subst hsz
  have hD := hD0.self (sz := s.heap.size)
  generalize hAe : va_A ([(za, (b13_0 z0 z1 (nI z2) (nI z3) z4 z5 z6 z7 z8 z9 (nI z10) z11 z12 z13 z14 z15 (nI z16) z17 z18 z19))] ++ va_pl L M) s.heap.size = A at hD ⊢
  have hA : ∀ q : Nat, s.heap.size ≤ q → A q := fun q h => by rw [← hAe]; exact Or.inr h
  have hS : va_S A s.heap s.heap [] := va_S.rf
  have hl := lv_entry ([.ref za, .int k1, .int k2, .int k3]) (n := 4) (Nat.le_of_ble_eq_true rfl)
  rw [lg_entry_eq]
  generalize (lg_sl ([.ref za, .int k1, .int k2, .int k3]) ++ List.replicate (4 - (lg_sl ([.ref za, .int k1, .int k2, .int k3])).length) Slot.unset).toArray = ls at hl ⊢
  refine W.nameQ (fun Q hQ => ?_)
  refine W.nameR (fun R hR => ?_)
  have hRf : 2 ≤ R.frames := by rw [hR]; exact Nat.le_of_ble_eq_true rfl
  have hRl : 48 ≤ R.locals := by rw [hR]; exact Nat.le_of_ble_eq_true rfl
  have hRc : 0 ≤ R.cells := by rw [hR]; exact Nat.le_of_ble_eq_true rfl
  have hRs : 0 ≤ R.slots := by rw [hR]; exact Nat.le_of_ble_eq_true rfl
  have hF : fr K L [12, 15, 35, 36, 84] M M := fr.rf
  have hG : fG K L [16] M M := fG.rf
  have hl : lv_has ls 4 [(0, .ref za), (1, .int k1), (2, .int k2), (3, .int k3)] := hl
  refine lv_aload_n hx hb dX13_spend_0 rfl (lv_at hl 0 rfl) ?_
  refine lv_iload_n hx hb dX13_spend_1 rfl (lv_at hl 1 rfl) ?_
  refine lv_iload_n hx hb dX13_spend_2 rfl (lv_at hl 2 rfl) ?_
  refine lv_iload_n hx hb dX13_spend_3 rfl (lv_at hl 3 rfl) ?_
  refine lv_iconst (v := (-1)) hx hb dX13_spend_4 (by decide) ?_
  have hPc : va_P D vwCl ([(za, (b13_0 z0 z1 (nI z2) (nI z3) z4 z5 z6 z7 z8 z9 (nI z10) z11 z12 z13 z14 z15 (nI z16) z17 z18 z19))] ++ va_pl L M) s.heap := hP
  have hDc : va_D A ([(za, (b13_0 z0 z1 (nI z2) (nI z3) z4 z5 z6 z7 z8 z9 (nI z10) z11 z12 z13 z14 z15 (nI z16) z17 z18 z19))] ++ va_pl L M) := hD
  have hFc : ∀ q, va_A ([(za, (b13_0 z0 z1 (nI z2) (nI z3) z4 z5 z6 z7 z8 z9 (nI z10) z11 z12 z13 z14 z15 (nI z16) z17 z18 z19))] ++ va_pl L M) s.heap.size q → A q := pg_free hDc hS hA
  refine va_calli (va_runV (As := [.int k1, .int k2, .int k3, .int (-1)]) (rest := []) ⟨hx, hb, hml, hown, hg⟩ (z_enters l D cy K L M s.heap.size za z0 z1 z2 z3 z4 z5 z6 z7 z8 z9 z10 z11 z12 z13 z14 z15 z16 z17 z18 z19 k1 k2 k3 (-1) SX SY  hW i1 b2 b3 i6 i7 i8 i9 b10 i11 i12 i13 i14 i15 b16 i17 i19 hGI hZS) (cwV 4 hg (gV wd_836 wd_837 wd_838 wd_717 wd_839) rfl rfl rfl (by decide +kernel) ⟨(Nat.le_trans (Nat.le_of_ble_eq_true rfl) hRf), (Nat.le_trans (Nat.le_of_ble_eq_true rfl) hRl)⟩) ⟨PG.blind, va_recv hK hP (ci := 13) (q0 := 0) rfl rfl, fun U hU hW => ⟨rfl, PG.at hPc hK hDc hN hU hW⟩⟩ rfl rfl hl.1 rfl (lv_room (Nat.le_of_ble_eq_true rfl)) dX13_spend_5 ⟨(Nat.le_trans (Nat.le_of_ble_eq_true rfl) hRc), (Nat.le_trans (Nat.le_of_ble_eq_true rfl) hRs)⟩) hS (fun q _ h => hFc q h) hFc (fun r_2 M_3 t H_1 locs ht hvm hw hB hz1 hk1 hS => ?_)
  have hWb := hW
  obtain ⟨hW, hF2, hG2, hVP, hp_4⟩ := hw
  obtain ⟨w4_5, hP1, hD1⟩ := hB
  rw [ht] at hP1
  have hP : va_P D vwCl ([(za, (b13_0 0 z1 (nI z2) (nI z3) w4_5 (-1) z6 z7 z8 z9 (nI z10) z11 z12 z13 z14 z15 (nI z16) z17 z18 z19))] ++ va_pl L M_3) H_1 := hP1
  have hD : va_D A ([(za, (b13_0 0 z1 (nI z2) (nI z3) w4_5 (-1) z6 z7 z8 z9 (nI z10) z11 z12 z13 z14 z15 (nI z16) z17 z18 z19))] ++ va_pl L M_3) := hD1.mono hFc
  have hF : fr K L [12, 15, 35, 36, 84] M M_3 := hF.tr hF2 (by decide)
  have hG : fG K L [16] M M_3 := hG.tr hWb hG2 (by decide)
  obtain rfl := hp_4
  rw [hQ]
  exact W.iret (v := (anEn z2 SX SY k1 k2 k3 (-1))) hx hb hr (fun t ht hW9 => ⟨⟨(anEn z2 SX SY k1 k2 k3 (-1)), M_3, rfl, ⟨hW, hF, hG, hVP, rfl⟩, ⟨w4_5, by rw [ht]; exact hP, hD⟩⟩, hS.F ht⟩) hS.2.2 dX13_spend_8
