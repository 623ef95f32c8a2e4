set_option maxHeartbeats 4000000 in
set_option maxRecDepth 100000 in
theorem e_bookUpTo (l : Launch) (D : va_G) (cy : Nat → ClassId) (K : Kp) (L : List Nat) (M : Hp) (sz : Nat) (oa : Nat) (k1 : Int32) (Bo : Nat → Nat × Nat) (Mb : Hp) (ha : Nat) (Xv : Nat → Int) (Yv : Nat → Nat → Int32) (yn : Nat) (y0 : Nat) (y1 : Nat) (y2 : Nat) (y3 : Nat) (hW : WOK cy K L M) (ia : isk K L oa 1 0) (iH : isk K L ha 2 0) (hV : VC Bo K L Mb M ha Xv Yv) (hs : rA 2 M ha 16 = oa) (hn38 : (∀ i : Nat, (i : Int) < Xv 14 → 0 ≤ (Yv 38 i).toInt)) (hMy : M oa = (b1_4 y0 y1 y2 (nI y3))) (hy0 : isk K L y0 63 yn) (hy1 : isk K L y1 56 yn) (hy2 : isk K L y2 57 yn) (hy3 : y3 ≤ yn) (hey0 : yn ≤ 120) : Met l yX1_bookUpTo (wsM yX1_bookUpTo cX1_bookUpTo 5 none) ({ frames := 0, cells := 0, slots := 0, locals := 0 }) (va_Pc [.ref oa, .int k1] (PG D cy [] L M sz)) (va_Qv (fun (M9 : Hp) => WOK cy K L M9 ∧ fr K L [1, 9, 56, 57, 63] M M9 ∧ fT 9 K L [9] M M9 ∧ fT 1 K L [3] M M9 ∧ (∃ (n9 : Nat) (p9 q9 r9 : Nat → Int32), trip p9 q9 r9 n9 = (trip (Yv 38) (Yv 39) (Yv 40) (Xv 14).toNat).filter (bkF k1.toInt) ∧ VC Bo K L Mb M9 ha (va_up Xv 14 ((n9 : Nat) : Int)) (va_up (va_up (va_up Yv 38 p9) 39 q9) 40 r9)) ∧ (True)) (fun M9 t => PQ D [] L M9 (va_A ([] ++ va_pl L M) sz) t) (va_A ([] ++ va_pl L M) sz)) 0 0 (va_A ([] ++ va_pl L M) sz) := by
  refine Met.ofW (cc := cX1_bookUpTo) (maxL := 5) (ret := none) (by decide) rfl ?_
  intro p e s m args below meth c s₁ B hml hv
  obtain ⟨rfl, hsz, hP, hK, hD0, hN⟩ := hv
  have hx := B.exec
  have hb := B.bytes
  have hr := B.returns
  have hts := atoms_spec (ws := (wsM yX1_bookUpTo cX1_bookUpTo 5 none)) B.pre
  have hg : ∀ w ∈ lw_good, w.before _ s = true := fun w h => hts w (List.mem_cons_of_mem _ h)
  have hown : s.vm.findClass RX1 = some m.cls := findClass_of_methodNamed B.named
  have hlocks := B.notSynchronized
  subst hsz
  have hD := hD0.self (sz := s.heap.size)
  generalize hAe : va_A ([] ++ va_pl L M) s.heap.size = A at hD ⊢
  have hA : ∀ q : Nat, s.heap.size ≤ q → A q := fun q h => by rw [← hAe]; exact Or.inr h
  have hS : va_S A s.heap s.heap [] := va_S.rf
  have hl := lv_entry ([.ref oa, .int k1]) (n := 5) (Nat.le_of_ble_eq_true rfl)
  rw [lg_entry_eq]
  generalize (lg_sl ([.ref oa, .int k1]) ++ List.replicate (5 - (lg_sl ([.ref oa, .int k1])).length) Slot.unset).toArray = ls at hl ⊢
  refine W.nameQ (fun Q hQ => ?_)
  refine W.nameR (fun R hR => ?_)
  have hRf : 0 ≤ R.frames := by rw [hR]; exact Nat.le_of_ble_eq_true rfl
  have hRl : 0 ≤ R.locals := by rw [hR]; exact Nat.le_of_ble_eq_true rfl
  have hRc : 0 ≤ R.cells := by rw [hR]; exact Nat.le_of_ble_eq_true rfl
  have hRs : 0 ≤ R.slots := by rw [hR]; exact Nat.le_of_ble_eq_true rfl
  have hF : fr K L [1, 9, 56, 57, 63] M M := fr.rf
  have hT9 : fT 9 K L [9] M M := fT.rf
  have hT1 : fT 1 K L [3] M M := fT.rf
  have hl : lv_has ls 5 [(0, .ref oa), (1, .int k1)] := hl
  have hX14 : (cV 1 M oa 3).toInt = Xv 14 := by rw [← hs]; exact congrFun hV.2.1 14
  obtain ⟨f1, hM1, hf1⟩ := hW.open_63 hy0
  obtain ⟨f2, hM2⟩ := hW.open_56 hy1
  obtain ⟨f3, hM3⟩ := hW.open_57 hy2
  have hA_4 : (ALc (M (rA 1 M oa 1)) : Int) = ((yn : Nat) : Int) := by rw [rA_of hMy rfl, hM2]; rfl
  have hA_5 : (cV 1 M oa 3).toInt = ((y3 : Nat) : Int) := by rw [cV_of hMy rfl]; exact nI_toInt (by omega)
  have hnn : yn = 120 := by have h1 := hV.2.2.2.n16 ha iH; rw [hs, rA_of (j := 0) hMy rfl] at h1; exact congrArg Prod.snd (hy0.2.symm.trans h1.2)
  refine lv_iconst (v := 0) hx hb dX1_bookUpTo_0 (by decide) ?_
  refine lv_istore_n (lv' := [(2, .int 0), (0, .ref oa), (1, .int k1)]) hx hb dX1_bookUpTo_1 rfl hl (by decide) rfl (fun ls hl => ?_)
  refine lv_iconst (v := 0) hx hb dX1_bookUpTo_2 (by decide) ?_
  refine lv_istore_n (lv' := [(3, .int 0), (2, .int 0), (0, .ref oa), (1, .int k1)]) hx hb dX1_bookUpTo_3 rfl hl (by decide) rfl (fun ls hl => ?_)
  have key_6 : ∀ (fu_8 : Nat) (v2w9 : Nat) (v3w9 : Nat) (gpw9 : Nat → Int32) (gqw9 : Nat → Int32) (grw9 : Nat → Int32) (M_17 : Hp) (H_18 : Heap) (locs : List Loc) (ls : Array Slot), 120 - v3w9 < fu_8 → M_17 oa = (b1_4 y0 y1 y2 (nI y3)) → rA 2 M_17 ha 16 = oa → v2w9 ≤ v3w9 → v3w9 ≤ 120 → v3w9 ≤ y3 → (∀ i : Nat, v3w9 ≤ i → gpw9 i = Yv 38 i) → (∀ i : Nat, v3w9 ≤ i → gqw9 i = Yv 39 i) → (∀ i : Nat, v3w9 ≤ i → grw9 i = Yv 40 i) → trip gpw9 gqw9 grw9 v2w9 = (trip (Yv 38) (Yv 39) (Yv 40) v3w9).filter (bkF k1.toInt) → WOK cy K L M_17 → fr K L [1, 9, 56, 57, 63] M M_17 → fT 9 K L [9] M M_17 → fT 1 K L [3] M M_17 → VC Bo K L Mb M_17 ha Xv (va_up (va_up (va_up Yv 38 gpw9) 39 gqw9) 40 grw9) → va_P D vwCl ([] ++ va_pl L M_17) H_18 → va_D A ([] ++ va_pl L M_17) → va_S A s.heap H_18 locs → lv_has ls 5 [(3, .int (nI v3w9)), (2, .int (nI v2w9)), (0, .ref oa), (1, .int k1)] → W p l e R s m ([.ref oa, .int k1] : List Value).toArray below meth c H_18 locs 0 0 Q (F0 m 4 ls []) := by
    intro fu_8
    induction fu_8 with
    | zero => intro v2w9 v3w9 gpw9 gqw9 grw9 M_17 H_18 locs ls h; exact absurd h (Nat.not_lt_zero _)
    | succ fu_8 ih_7 =>
      intro v2w9 v3w9 gpw9 gqw9 grw9 M_17 H_18 locs ls hfu hM_19 hs_20 hx_10 hx_11 hx_12 hx_13 hx_14 hx_15 hx_16 hW hF hT9 hT1 hV hP hD hS hl
      refine lv_iload_n hx hb dX1_bookUpTo_4 rfl (lv_at hl 0 rfl) ?_
      refine lv_aload_n hx hb dX1_bookUpTo_5 rfl (lv_at hl 2 rfl) ?_
      refine pg_get (D := D) (ci := 1) (v := .int (nI y3)) (C := RX1) (T := TX1) (N := 4) hx hb hg inG1 hown hK hP ia.1 hM_19 rfl 3 (by decide) (hg _ wd_118) (fun _ h9 => h9) rfl dX1_bookUpTo_6 ?_
      refine lv_icmp_ge (tgt := 96) hx hb dX1_bookUpTo_9 (by decide) (fun c_21 => ?_) (fun c_21 => ?_)
      · have hz := rfl (a := 0)
        have n_22 : y3 ≤ v3w9 := (iLE (a := y3) (b := v3w9) (by omega) (by omega)).mp c_21
        have hfin9 := hx_16
        have hfin14 : (Xv 14).toNat = v3w9 := by omega
        refine lv_aload_n hx hb dX1_bookUpTo_96 rfl (lv_at hl 2 rfl) ?_
        refine lv_iload_n hx hb dX1_bookUpTo_97 rfl (lv_at hl 1 rfl) ?_
        refine pg_put (D := D) (ci := 1) (v := .int (nI v2w9)) (ty := .int) (C := RX1) (T := TX1) (N := 4) hx hb hg inG1 tyX1 tyX1_ok nmX1 hown hK hP hD hS ia.1 hM_19 rfl 3 (by decide) (hg _ wd_118) (fun _ h9 => h9) rfl (by decide +kernel) rfl rfl (Nat.le_of_ble_eq_true rfl) dX1_bookUpTo_98 (fun H_23 locs hP hD hS => ?_)
        obtain ⟨M_24, eM_24⟩ : ∃ M1 : Hp, M1 = va_up M_17 oa ((b1_4 y0 y1 y2 (nI v2w9))) := ⟨_, rfl⟩
        have sM_24 : M_24 = sF M_17 oa 3 (.int (nI v2w9)) := eM_24.trans (sF_of (j := 3) (v := .int (nI v2w9)) hM_19 rfl)
        have hV : VC Bo K L Mb M_24 ha (va_up Xv 14 ((v2w9 : Nat) : Int)) (va_up (va_up (va_up Yv 38 gpw9) 39 gqw9) 40 grw9) := by rw [sM_24]; have h9 := VC.n16 (v := (nI v2w9)) hV hW iH hs_20 hM_19 (Nat.le_of_ble_eq_true rfl); rw [show ((nI v2w9) : Int32).toInt = ((v2w9 : Nat) : Int) from (nI_toInt (by omega))] at h9; exact h9
        have hs_25 : rA 2 M_24 ha 16 = oa := by rw [sM_24, rA_c (cVt_sF hM_19 2 _ 16 (Or.inl (by decide)))]; exact hs_20
        have hP : va_P D vwCl ([] ++ va_pl L M_24) H_23 := by rw [eM_24]; exact hP
        have hD : va_D A ([] ++ va_pl L M_24) := by rw [eM_24]; exact hD
        have hW : WOK cy K L M_24 := by rw [eM_24]; exact hW.up_1 ia ⟨yn, y0, y1, y2, v2w9, rfl, hy0, hy1, hy2, (by omega), hey0⟩
        have hF : fr K L [1, 9, 56, 57, 63] M M_24 := by rw [eM_24]; exact hF.up ia (by decide)
        have hT9 : fT 9 K L [9] M M_24 := by rw [eM_24]; exact hT9.ne ia (by decide)
        have hT1 : fT 1 K L [3] M M_24 := by rw [eM_24]; exact hT1.up (i := 3) hM_19 rfl (by decide)
        have hM_26 : M_24 oa = (b1_4 y0 y1 y2 (nI v2w9)) := by rw [eM_24]; exact va_up_self _ _ _
        have hb_27 : v2w9 ≤ yn := by omega
        rw [hQ]
        exact W.vret hx hb hr (fun t ht hW9 => ⟨⟨M_24, rfl, ⟨hW, hF, hT9, hT1, ⟨_, _, _, _, (by rw [hfin14]; exact hfin9), hV⟩, trivial⟩, ⟨by rw [ht]; exact hP, hD⟩⟩, hS.F ht⟩) hS.2.2 dX1_bookUpTo_101
      · have hz := rfl (a := 0)
        have n_28 : ¬ (y3 ≤ v3w9) := fun q => c_21 ((iLE (a := y3) (b := v3w9) (by omega) (by omega)).mpr q)
        refine lv_aload_n hx hb dX1_bookUpTo_12 rfl (lv_at hl 2 rfl) ?_
        refine pg_get (D := D) (ci := 1) (v := .ref y0) (C := RX1) (T := TX1) (N := 4) hx hb hg inG1 hown hK hP ia.1 hM_19 rfl 0 (by decide) (hg _ wd_125) (fun _ h9 => h9) rfl dX1_bookUpTo_13 ?_
        refine lv_iload_n hx hb dX1_bookUpTo_16 rfl (lv_at hl 0 rfl) ?_
        obtain ⟨f29, hM29, hf29⟩ := hW.open_63 hy0
        have hi_30 : vp_in (nI v3w9) yn := (inbN v3w9 yn (by omega) (by omega))
        refine pg_aldq hx hb hK hP hy0.1 8 hM29 rfl hi_30 dX1_bookUpTo_17 ?_
        obtain ⟨q_31, ho_32⟩ : ∃ q : Option Nat, q = f29 ((nI v3w9) : Int32).toNatClampNeg := ⟨_, rfl⟩
        rw [← ho_32]
        have hq_33 : iskN K L q_31 9 0 := by rw [ho_32]; exact hf29 _ (vp_lt hi_30)
        rcases q_31 with _ | bq_31
        · have hz := rfl (a := 0)
          refine lv_astoreN (lv' := [(4, .null), (3, .int (nI v3w9)), (2, .int (nI v2w9)), (0, .ref oa), (1, .int k1)]) hx hb dX1_bookUpTo_18 hl (by decide) rfl (fun ls hl => ?_)
          have hmo : RFc (M_17 (rA 1 M_17 (rA 2 M_17 ha 16) 0)) v3w9 = none := (by rw [hs_20, rA_of (j := 0) hM_19 rfl, RFc_of hM29]; have h9 := Eq.symm ho_32; rw [nI_cl (by omega)] at h9; exact h9)
          have h38 := lk_mo0 hmo (by omega)
          rw [hV.2.2.1] at h38
          have h38b : gpw9 v3w9 = -1 := h38
          rw [hx_13 v3w9 (Nat.le_refl _)] at h38b
          have h38c := hn38 v3w9 (by omega)
          rw [h38b] at h38c
          exact absurd h38c (by decide)
        · have hb_34 := hq_33 bq_31 rfl
          refine lv_astore (lv' := [(4, .ref bq_31), (3, .int (nI v3w9)), (2, .int (nI v2w9)), (0, .ref oa), (1, .int k1)]) hx hb dX1_bookUpTo_18 hl (by decide) rfl (fun ls hl => ?_)
          have hmo : RFc (M_17 (rA 1 M_17 (rA 2 M_17 ha 16) 0)) v3w9 = some bq_31 := (by rw [hs_20, rA_of (j := 0) hM_19 rfl, RFc_of hM29]; have h9 := (Eq.symm ho_32); rw [nI_cl (by omega)] at h9; exact h9)
          have h38 := lk_mo hmo (by omega)
          rw [hV.2.2.1] at h38
          have h38b : gpw9 v3w9 = cV 9 M_17 bq_31 0 := h38
          rw [hx_13 v3w9 (Nat.le_refl _)] at h38b
          refine lv_aload hx hb dX1_bookUpTo_20 (lv_at hl 0 rfl) ?_
          refine lv_ifnull hx hb dX1_bookUpTo_22 ?_
          refine lv_aload_n hx hb dX1_bookUpTo_25 rfl (lv_at hl 3 rfl) ?_
          refine pg_get (D := D) (ci := 1) (v := .ref y1) (C := RX1) (T := TX1) (N := 4) hx hb hg inG1 hown hK hP ia.1 hM_19 rfl 1 (by decide) (hg _ wd_119) (fun _ h9 => h9) rfl dX1_bookUpTo_26 ?_
          refine lv_iload_n hx hb dX1_bookUpTo_29 rfl (lv_at hl 1 rfl) ?_
          obtain ⟨f35, hM35⟩ := hW.open_56 hy1
          refine pg_iald hx hb hK hP hy1.1 0 hM35 rfl (inbN v3w9 yn (by omega) (by omega)) dX1_bookUpTo_30 ?_
          refine lv_topi (fun f_36 ef_36 => ?_)
          have hrow39 : gqw9 = f35 := by
            have h9 := congrFun hV.2.2.1 39
            have h8 : cax M_17 ha 39 = f35 := by
              show vDs 16 1 M_17 ha = _
              funext i
              unfold vDs
              rw [hs_20, rA_of (j := 1) hM_19 rfl, IFc_of hM35]
            exact (show gqw9 = cax M_17 ha 39 from h9.symm).trans h8
          have hd39 : f_36 = Yv 39 v3w9 := by rw [← hx_14 v3w9 (Nat.le_refl _), hrow39, ef_36, nI_cl (by omega)]
          refine lv_iload_n hx hb dX1_bookUpTo_31 rfl (lv_at hl 4 rfl) ?_
          refine lv_icmp_gt (tgt := 55) hx hb dX1_bookUpTo_32 (by decide) (fun c_37 => ?_) (fun c_37 => ?_)
          · have hz := rfl (a := 0)
            have hI_38 : ((v3w9 : Nat) : Int) < ((y3 : Nat) : Int) := inleI (nI_toInt (by omega)) (nI_toInt (by omega)) c_21
            have hI_39 : (k1 : Int32).toInt < (f_36 : Int32).toInt := iltI rfl rfl c_37
            refine lv_aload_n hx hb dX1_bookUpTo_55 rfl (lv_at hl 3 rfl) ?_
            refine pg_get (D := D) (ci := 1) (v := .ref y0) (C := RX1) (T := TX1) (N := 4) hx hb hg inG1 hown hK hP ia.1 hM_19 rfl 0 (by decide) (hg _ wd_125) (fun _ h9 => h9) rfl dX1_bookUpTo_56 ?_
            refine lv_iload_n hx hb dX1_bookUpTo_59 rfl (lv_at hl 2 rfl) ?_
            refine lv_aload hx hb dX1_bookUpTo_60 (lv_at hl 0 rfl) ?_
            have hu38 : Yv 38 v3w9 = hrN M_17 (some bq_31) := by rw [h38b]; show cV 9 M_17 bq_31 0 = cV 9 M_17 bq_31 0; rfl
            obtain ⟨v41_0, v41_1, v41_2, v41_3, v41_4, v41_5, v41_6, v41_7, v41_8, v41_9, v41_10, v41_11, v41_12, v41_13, v41_14, v41_15, hM41, h41_0, h41_1, h41_4, h41_8⟩ := hW.open_9 hb_34
            refine pg_astq (r := (RX9, TX9, 16)) hx hb hK hP hD hS hy0.1 8 9 hM29 rfl hb_34.1 hM41 rfl (inbN v2w9 yn (by omega) (by omega)) dX1_bookUpTo_62 (fun H_40 locs hP hD hS => ?_)
            obtain ⟨M_42, eM_42⟩ : ∃ M1 : Hp, M1 = va_up M_17 y0 (.inl (cy 22, yn, .inr (.inr (.inr (.inr (va_up f29 ((nI v2w9) : Int32).toNatClampNeg (some bq_31))))))) := ⟨_, rfl⟩
            have sM_42 : M_42 = sR M_17 y0 ((nI v2w9) : Int32).toNatClampNeg (some bq_31) := eM_42.trans (sR_of hM29)
            have hV : VC Bo K L Mb M_42 ha Xv (va_up (va_up (va_up (va_up Yv 38 gpw9) 39 gqw9) 40 grw9) 38 (upd gpw9 ((nI v2w9) : Int32).toNatClampNeg (hrN M_17 (some bq_31)))) := by rw [sM_42]; exact VC.r_mo hV hW iH (vp_lt (inbN v2w9 120 (by omega) (by omega))) (by rw [hs_20]; exact rA_of (j := 0) hM_19 rfl) hM29
            have hs_43 : rA 2 M_42 ha 16 = oa := by rw [sM_42, rA_c (cVt_sR _ _ _ _ _ _ _)]; exact hs_20
            have hP : va_P D vwCl ([] ++ va_pl L M_42) H_40 := by rw [eM_42]; exact hP
            have hD : va_D A ([] ++ va_pl L M_42) := by rw [eM_42]; exact hD
            have hW : WOK cy K L M_42 := by rw [eM_42]; exact hW.up_63 hy0 ⟨_, rfl, (upN hf29 hb_34)⟩
            have hF : fr K L [1, 9, 56, 57, 63] M M_42 := by rw [eM_42]; exact hF.up hy0 (by decide)
            have hT9 : fT 9 K L [9] M M_42 := by rw [eM_42]; exact hT9.ne hy0 (by decide)
            have hT1 : fT 1 K L [3] M M_42 := by rw [eM_42]; exact hT1.ne hy0 (by decide)
            have hM_44 : M_42 y0 = .inl (cy 22, yn, .inr (.inr (.inr (.inr (va_up f29 ((nI v2w9) : Int32).toNatClampNeg (some bq_31)))))) := by rw [eM_42]; exact va_up_self _ _ _
            have hM_45 : M_42 oa = (b1_4 y0 y1 y2 (nI y3)) := by rw [eM_42, va_up_ne _ _ (ia.neT hy0 (by decide))]; exact hM_19
            have hM_46 : M_42 y1 = .inl (cy 14, yn, .inl (f35)) := by rw [eM_42, va_up_ne _ _ (hy1.neT hy0 (by decide))]; exact hM35
            have hM_47 : M_42 bq_31 = (b9_9 (nI v41_0) v41_1 v41_2 v41_3 v41_4 v41_5 v41_6 v41_7 v41_8 v41_9 v41_10 v41_11 v41_12 v41_13 v41_14 v41_15) := by rw [eM_42, va_up_ne _ _ (hb_34.neT hy0 (by decide))]; exact hM41
            have hf_49 : ∀ j, j < yn → iskN K L ((va_up f29 ((nI v2w9) : Int32).toNatClampNeg (some bq_31)) j) 9 0 := (upN hf29 hb_34)
            obtain ⟨f_48, ef_48⟩ : ∃ f : Nat → Option Nat, f = va_up f29 ((nI v2w9) : Int32).toNatClampNeg (some bq_31) := ⟨_, rfl⟩
            rw [← ef_48] at hM_44 hf_49
            have hk_50 : f_48 ((nI v2w9) : Int32).toNatClampNeg = some bq_31 := by rw [ef_48]; exact va_up_self _ _ _
            clear ef_48
            refine lv_aload_n hx hb dX1_bookUpTo_63 rfl (lv_at hl 3 rfl) ?_
            refine pg_get (D := D) (ci := 1) (v := .ref y1) (C := RX1) (T := TX1) (N := 4) hx hb hg inG1 hown hK hP ia.1 hM_45 rfl 1 (by decide) (hg _ wd_119) (fun _ h9 => h9) rfl dX1_bookUpTo_64 ?_
            refine lv_iload_n hx hb dX1_bookUpTo_67 rfl (lv_at hl 2 rfl) ?_
            refine lv_aload_n hx hb dX1_bookUpTo_68 rfl (lv_at hl 3 rfl) ?_
            refine pg_get (D := D) (ci := 1) (v := .ref y1) (C := RX1) (T := TX1) (N := 4) hx hb hg inG1 hown hK hP ia.1 hM_45 rfl 1 (by decide) (hg _ wd_119) (fun _ h9 => h9) rfl dX1_bookUpTo_69 ?_
            refine lv_iload_n hx hb dX1_bookUpTo_72 rfl (lv_at hl 1 rfl) ?_
            refine pg_iald hx hb hK hP hy1.1 0 hM_46 rfl (inbN v3w9 yn (by omega) (by omega)) dX1_bookUpTo_73 ?_
            refine lv_topi (fun f_51 ef_51 => ?_)
            have hd39b : f_51 = Yv 39 v3w9 := by rw [← hx_14 v3w9 (Nat.le_refl _), hrow39, ef_51, nI_cl (by omega)]
            refine pg_iast hx hb hK hP hD hS hy1.1 0 hM_46 rfl (inbN v2w9 yn (by omega) (by omega)) dX1_bookUpTo_74 (fun H_52 locs hP hD hS => ?_)
            obtain ⟨M_53, eM_53⟩ : ∃ M1 : Hp, M1 = va_up M_42 y1 (.inl (cy 14, yn, .inl (upd f35 ((nI v2w9) : Int32).toNatClampNeg f_51))) := ⟨_, rfl⟩
            have sM_53 : M_53 = sA M_42 y1 ((nI v2w9) : Int32).toNatClampNeg f_51 := eM_53.trans (sA_of hM_46)
            have hV : VC Bo K L Mb M_53 ha Xv (va_up (va_up (va_up (va_up (va_up Yv 38 gpw9) 39 gqw9) 40 grw9) 38 (upd gpw9 ((nI v2w9) : Int32).toNatClampNeg (hrN M_17 (some bq_31)))) 39 (upd gqw9 ((nI v2w9) : Int32).toNatClampNeg f_51)) := by rw [sM_53]; exact VC.a_d16_1 hV hW iH (by rw [hs_43]; exact rA_of (j := 1) hM_45 rfl) hM_46
            have hs_54 : rA 2 M_53 ha 16 = oa := by rw [sM_53, rA_c (cVt_sA _ _ _ _ _ _ _)]; exact hs_43
            have hP : va_P D vwCl ([] ++ va_pl L M_53) H_52 := by rw [eM_53]; exact hP
            have hD : va_D A ([] ++ va_pl L M_53) := by rw [eM_53]; exact hD
            have hW : WOK cy K L M_53 := by rw [eM_53]; exact hW.up_56 hy1 ⟨_, rfl⟩
            have hF : fr K L [1, 9, 56, 57, 63] M M_53 := by rw [eM_53]; exact hF.up hy1 (by decide)
            have hT9 : fT 9 K L [9] M M_53 := by rw [eM_53]; exact hT9.ne hy1 (by decide)
            have hT1 : fT 1 K L [3] M M_53 := by rw [eM_53]; exact hT1.ne hy1 (by decide)
            have hM_55 : M_53 y1 = .inl (cy 14, yn, .inl (upd f35 ((nI v2w9) : Int32).toNatClampNeg f_51)) := by rw [eM_53]; exact va_up_self _ _ _
            have hM_56 : M_53 y0 = .inl (cy 22, yn, .inr (.inr (.inr (.inr (f_48))))) := by rw [eM_53, va_up_ne _ _ (hy0.neT hy1 (by decide))]; exact hM_44
            have hM_57 : M_53 oa = (b1_4 y0 y1 y2 (nI y3)) := by rw [eM_53, va_up_ne _ _ (ia.neT hy1 (by decide))]; exact hM_45
            have hM_58 : M_53 bq_31 = (b9_9 (nI v41_0) v41_1 v41_2 v41_3 v41_4 v41_5 v41_6 v41_7 v41_8 v41_9 v41_10 v41_11 v41_12 v41_13 v41_14 v41_15) := by rw [eM_53, va_up_ne _ _ (hb_34.neT hy1 (by decide))]; exact hM_47
            obtain ⟨f_59, ef_59⟩ : ∃ f : Nat → Int32, f = upd f35 ((nI v2w9) : Int32).toNatClampNeg f_51 := ⟨_, rfl⟩
            rw [← ef_59] at hM_55
            clear ef_59
            refine lv_aload_n hx hb dX1_bookUpTo_75 rfl (lv_at hl 3 rfl) ?_
            refine pg_get (D := D) (ci := 1) (v := .ref y2) (C := RX1) (T := TX1) (N := 4) hx hb hg inG1 hown hK hP ia.1 hM_57 rfl 2 (by decide) (hg _ wd_126) (fun _ h9 => h9) rfl dX1_bookUpTo_76 ?_
            refine lv_iload_n hx hb dX1_bookUpTo_79 rfl (lv_at hl 2 rfl) ?_
            refine lv_aload_n hx hb dX1_bookUpTo_80 rfl (lv_at hl 3 rfl) ?_
            refine pg_get (D := D) (ci := 1) (v := .ref y2) (C := RX1) (T := TX1) (N := 4) hx hb hg inG1 hown hK hP ia.1 hM_57 rfl 2 (by decide) (hg _ wd_126) (fun _ h9 => h9) rfl dX1_bookUpTo_81 ?_
            refine lv_iload_n hx hb dX1_bookUpTo_84 rfl (lv_at hl 1 rfl) ?_
            obtain ⟨f60, hM60⟩ := hW.open_57 hy2
            refine pg_iald hx hb hK hP hy2.1 0 hM60 rfl (inbN v3w9 yn (by omega) (by omega)) dX1_bookUpTo_85 ?_
            refine lv_topi (fun f_61 ef_61 => ?_)
            have hrow40 : grw9 = f60 := by
              have h9 := congrFun hV.2.2.1 40
              have h8 : cax M_53 ha 40 = f60 := by
                show vDs 16 2 M_53 ha = _
                funext i
                unfold vDs
                rw [hs_54, rA_of (j := 2) hM_57 rfl, IFc_of hM60]
              exact (show grw9 = cax M_53 ha 40 from h9.symm).trans h8
            have hd40 : f_61 = Yv 40 v3w9 := by rw [← hx_15 v3w9 (Nat.le_refl _), hrow40, ef_61, nI_cl (by omega)]
            refine pg_iast hx hb hK hP hD hS hy2.1 0 hM60 rfl (inbN v2w9 yn (by omega) (by omega)) dX1_bookUpTo_86 (fun H_62 locs hP hD hS => ?_)
            obtain ⟨M_63, eM_63⟩ : ∃ M1 : Hp, M1 = va_up M_53 y2 (.inl (cy 14, yn, .inl (upd f60 ((nI v2w9) : Int32).toNatClampNeg f_61))) := ⟨_, rfl⟩
            have sM_63 : M_63 = sA M_53 y2 ((nI v2w9) : Int32).toNatClampNeg f_61 := eM_63.trans (sA_of hM60)
            have hV : VC Bo K L Mb M_63 ha Xv (va_up (va_up (va_up (va_up (va_up (va_up Yv 38 gpw9) 39 gqw9) 40 grw9) 38 (upd gpw9 ((nI v2w9) : Int32).toNatClampNeg (hrN M_17 (some bq_31)))) 39 (upd gqw9 ((nI v2w9) : Int32).toNatClampNeg f_51)) 40 (upd grw9 ((nI v2w9) : Int32).toNatClampNeg f_61)) := by rw [sM_63]; exact VC.a_d16_2 hV hW iH (by rw [hs_54]; exact rA_of (j := 2) hM_57 rfl) hM60
            have hs_64 : rA 2 M_63 ha 16 = oa := by rw [sM_63, rA_c (cVt_sA _ _ _ _ _ _ _)]; exact hs_54
            have hP : va_P D vwCl ([] ++ va_pl L M_63) H_62 := by rw [eM_63]; exact hP
            have hD : va_D A ([] ++ va_pl L M_63) := by rw [eM_63]; exact hD
            have hW : WOK cy K L M_63 := by rw [eM_63]; exact hW.up_57 hy2 ⟨_, rfl⟩
            have hF : fr K L [1, 9, 56, 57, 63] M M_63 := by rw [eM_63]; exact hF.up hy2 (by decide)
            have hT9 : fT 9 K L [9] M M_63 := by rw [eM_63]; exact hT9.ne hy2 (by decide)
            have hT1 : fT 1 K L [3] M M_63 := by rw [eM_63]; exact hT1.ne hy2 (by decide)
            have hM_65 : M_63 y2 = .inl (cy 14, yn, .inl (upd f60 ((nI v2w9) : Int32).toNatClampNeg f_61)) := by rw [eM_63]; exact va_up_self _ _ _
            have hM_66 : M_63 y1 = .inl (cy 14, yn, .inl (f_59)) := by rw [eM_63, va_up_ne _ _ (hy1.neT hy2 (by decide))]; exact hM_55
            have hM_67 : M_63 y0 = .inl (cy 22, yn, .inr (.inr (.inr (.inr (f_48))))) := by rw [eM_63, va_up_ne _ _ (hy0.neT hy2 (by decide))]; exact hM_56
            have hM_68 : M_63 oa = (b1_4 y0 y1 y2 (nI y3)) := by rw [eM_63, va_up_ne _ _ (ia.neT hy2 (by decide))]; exact hM_57
            have hM_69 : M_63 bq_31 = (b9_9 (nI v41_0) v41_1 v41_2 v41_3 v41_4 v41_5 v41_6 v41_7 v41_8 v41_9 v41_10 v41_11 v41_12 v41_13 v41_14 v41_15) := by rw [eM_63, va_up_ne _ _ (hb_34.neT hy2 (by decide))]; exact hM_58
            obtain ⟨f_70, ef_70⟩ : ∃ f : Nat → Int32, f = upd f60 ((nI v2w9) : Int32).toNatClampNeg f_61 := ⟨_, rfl⟩
            rw [← ef_70] at hM_65
            clear ef_70
            refine lv_iinc (v := (nI (v2w9 + 1))) (lv' := [(2, .int (nI (v2w9 + 1))), (4, .ref bq_31), (3, .int (nI v3w9)), (0, .ref oa), (1, .int k1)]) hx hb dX1_bookUpTo_87 hl (k := 2) rfl (nI_1 v2w9) (by decide) rfl (fun ls hl => ?_)
            refine lv_iinc (v := (nI (v3w9 + 1))) (lv' := [(3, .int (nI (v3w9 + 1))), (2, .int (nI (v2w9 + 1))), (4, .ref bq_31), (0, .ref oa), (1, .int k1)]) hx hb dX1_bookUpTo_90 hl (k := 2) rfl (nI_1 v3w9) (by decide) rfl (fun ls hl => ?_)
            refine lv_goto (tgt := 4) hx hb dX1_bookUpTo_93 (by decide) ?_
            exact ih_7 (v2w9 + 1) (v3w9 + 1) (upd gpw9 ((nI v2w9) : Int32).toNatClampNeg (hrN M_17 (some bq_31))) (upd gqw9 ((nI v2w9) : Int32).toNatClampNeg f_51) (upd grw9 ((nI v2w9) : Int32).toNatClampNeg f_61) M_63 H_62 _ _ (by omega) hM_68 hs_64 (by omega) (by omega) (by omega) (stay_f hx_13 (nI_cl (by omega)) (by omega)) (stay_f hx_14 (nI_cl (by omega)) (by omega)) (stay_f hx_15 (nI_cl (by omega)) (by omega)) (bk_yes hx_16 (nI_cl (by omega)) (by rw [← hd39]; omega) hu38.symm hd39b hd40) hW hF hT9 hT1 (by have h := hV; rw [va_up_9] at h; exact h) hP hD hS (lv_sub hl [0, 1, 3, 4] rfl)
          · have hz := rfl (a := 0)
            have hI_71 : ((v3w9 : Nat) : Int) < ((y3 : Nat) : Int) := inleI (nI_toInt (by omega)) (nI_toInt (by omega)) c_21
            have hI_72 : (f_36 : Int32).toInt ≤ (k1 : Int32).toInt := inltI rfl rfl c_37
            refine lv_aload hx hb dX1_bookUpTo_35 (lv_at hl 0 rfl) ?_
            refine lv_dup hx hb dX1_bookUpTo_37 rfl ?_
            obtain ⟨v73_0, v73_1, v73_2, v73_3, v73_4, v73_5, v73_6, v73_7, v73_8, v73_9, v73_10, v73_11, v73_12, v73_13, v73_14, v73_15, hM73, h73_0, h73_1, h73_4, h73_8⟩ := hW.open_9 hb_34
            refine pg_get (D := D) (ci := 9) (v := .long v73_9) (C := RX9) (T := TX9) (N := 16) hx hb hg inG9 hown hK hP hb_34.1 hM73 rfl 9 (by decide) (hg _ wd_127) (fun _ h9 => h9) rfl dX1_bookUpTo_38 ?_
            refine lv_aload_n hx hb dX1_bookUpTo_41 rfl (lv_at hl 3 rfl) ?_
            refine pg_get (D := D) (ci := 1) (v := .ref y2) (C := RX1) (T := TX1) (N := 4) hx hb hg inG1 hown hK hP ia.1 hM_19 rfl 2 (by decide) (hg _ wd_126) (fun _ h9 => h9) rfl dX1_bookUpTo_42 ?_
            refine lv_iload_n hx hb dX1_bookUpTo_45 rfl (lv_at hl 1 rfl) ?_
            obtain ⟨f74, hM74⟩ := hW.open_57 hy2
            refine pg_iald hx hb hK hP hy2.1 0 hM74 rfl (inbN v3w9 yn (by omega) (by omega)) dX1_bookUpTo_46 ?_
            refine lv_topi (fun f_75 ef_75 => ?_)
            refine lv_i2l hx hb dX1_bookUpTo_47 rfl ?_
            refine lv_topl (fun f_76 ef_76 => ?_)
            refine lv_ladd hx hb dX1_bookUpTo_48 ?_
            refine lv_topl (fun f_77 ef_77 => ?_)
            refine pg_put (D := D) (ci := 9) (v := .long f_77) (ty := .long) (C := RX9) (T := TX9) (N := 16) hx hb hg inG9 tyX9 tyX9_ok nmX9 hown hK hP hD hS hb_34.1 hM73 rfl 9 (by decide) (hg _ wd_127) (fun _ h9 => h9) rfl (by decide +kernel) rfl rfl (Nat.le_of_ble_eq_true rfl) dX1_bookUpTo_49 (fun H_78 locs hP hD hS => ?_)
            obtain ⟨M_79, eM_79⟩ : ∃ M1 : Hp, M1 = va_up M_17 bq_31 ((b9_9 (nI v73_0) v73_1 v73_2 v73_3 v73_4 v73_5 v73_6 v73_7 v73_8 f_77 v73_10 v73_11 v73_12 v73_13 v73_14 v73_15)) := ⟨_, rfl⟩
            have sM_79 : M_79 = sF M_17 bq_31 9 (.long f_77) := eM_79.trans (sF_of (j := 9) (v := .long f_77) hM73 rfl)
            have hV : VC Bo K L Mb M_79 ha Xv (va_up (va_up (va_up Yv 38 gpw9) 39 gqw9) 40 grw9) := by rw [sM_79]; exact hV.same hW iH (SAME.sF0 hM73 rfl)
            have hs_80 : rA 2 M_79 ha 16 = oa := by rw [sM_79, rA_c (cVt_sF hM73 2 _ 16 (Or.inl (by decide)))]; exact hs_20
            have hP : va_P D vwCl ([] ++ va_pl L M_79) H_78 := by rw [eM_79]; exact hP
            have hD : va_D A ([] ++ va_pl L M_79) := by rw [eM_79]; exact hD
            have hW : WOK cy K L M_79 := by rw [eM_79]; exact hW.up_9 hb_34 ⟨v73_0, v73_1, v73_2, v73_3, v73_4, v73_5, v73_6, v73_7, v73_8, f_77, v73_10, v73_11, v73_12, v73_13, v73_14, v73_15, rfl, h73_0, h73_1, h73_4, h73_8⟩
            have hF : fr K L [1, 9, 56, 57, 63] M M_79 := by rw [eM_79]; exact hF.up hb_34 (by decide)
            have hT9 : fT 9 K L [9] M M_79 := by rw [eM_79]; exact hT9.up (i := 9) hM73 rfl (by decide)
            have hT1 : fT 1 K L [3] M M_79 := by rw [eM_79]; exact hT1.ne hb_34 (by decide)
            have hM_81 : M_79 bq_31 = (b9_9 (nI v73_0) v73_1 v73_2 v73_3 v73_4 v73_5 v73_6 v73_7 v73_8 f_77 v73_10 v73_11 v73_12 v73_13 v73_14 v73_15) := by rw [eM_79]; exact va_up_self _ _ _
            have hM_82 : M_79 oa = (b1_4 y0 y1 y2 (nI y3)) := by rw [eM_79, va_up_ne _ _ (ia.neT hb_34 (by decide))]; exact hM_19
            have hM_83 : M_79 y0 = .inl (cy 22, yn, .inr (.inr (.inr (.inr (f29))))) := by rw [eM_79, va_up_ne _ _ (hy0.neT hb_34 (by decide))]; exact hM29
            have hM_84 : M_79 y1 = .inl (cy 14, yn, .inl (f35)) := by rw [eM_79, va_up_ne _ _ (hy1.neT hb_34 (by decide))]; exact hM35
            have hM_85 : M_79 y2 = .inl (cy 14, yn, .inl (f74)) := by rw [eM_79, va_up_ne _ _ (hy2.neT hb_34 (by decide))]; exact hM74
            refine lv_goto (tgt := 90) hx hb dX1_bookUpTo_52 (by decide) ?_
            refine lv_iinc (v := (nI (v3w9 + 1))) (lv' := [(3, .int (nI (v3w9 + 1))), (4, .ref bq_31), (2, .int (nI v2w9)), (0, .ref oa), (1, .int k1)]) hx hb dX1_bookUpTo_90 hl (k := 1) rfl (nI_1 v3w9) (by decide) rfl (fun ls hl => ?_)
            refine lv_goto (tgt := 4) hx hb dX1_bookUpTo_93 (by decide) ?_
            exact ih_7 v2w9 (v3w9 + 1) gpw9 gqw9 grw9 M_79 H_78 _ _ (by omega) hM_82 hs_80 (by omega) (by omega) (by omega) (fun i hi => hx_13 i (by omega)) (fun i hi => hx_14 i (by omega)) (fun i hi => hx_15 i (by omega)) (bk_no hx_16 (by rw [← hd39]; omega)) hW hF hT9 hT1 hV hP hD hS (lv_sub hl [0, 2, 3, 4] rfl)
  exact key_6 (120 - 0 + 1) 0 0 (Yv 38) (Yv 39) (Yv 40) M s.heap _ _ (by omega) hMy hs (by omega) (by omega) (by omega) (fun _ _ => rfl) (fun _ _ => rfl) (fun _ _ => rfl) rfl hW hF hT9 hT1 (by rw [va_up_id, va_up_id, va_up_id]; exact hV) hP hD hS (lv_sub hl [0, 1, 2, 3] rfl)
set_option maxHeartbeats 4000000 in
set_option maxRecDepth 100000 in
theorem e_payOut (l : Launch) (D : va_G) (cy : Nat → ClassId) (K : Kp) (L : List Nat) (M : Hp) (sz : Nat) (oa : Nat) (Bo : Nat → Nat × Nat) (Mb : Hp) (ha : Nat) (Xv : Nat → Int) (Yv : Nat → Nat → Int32) (di : Nat) (y0 : Nat) (y1 : Nat) (y2 : Int32) (y3 : Int32) (y4 : Int32) (y5 : Int32) (y6 : Int32) (y7 : Int32) (y8 : Option Nat) (y9 : Int64) (y10 : Int64) (y11 : Int64) (y12 : Int64) (y13 : Int64) (y14 : Int64) (y15 : Int64) (hW : WOK cy K L M) (ia : isk K L oa 9 0) (iH : isk K L ha 2 0) (hV : VC Bo K L Mb M ha Xv Yv) (hs : RFc (M (rA 2 M ha 8)) di = some oa) (hdi : di < 24) (hMy : M oa = (b9_9 (nI y0) y1 y2 y3 y4 y5 y6 y7 y8 y9 y10 y11 y12 y13 y14 y15)) (hy0 : y0 ≤ 24) (hy1 : isk K L y1 4 0) (hy4 : (y4 = 0 ∨ y4 = 1)) (hy8 : iskN K L y8 9 0) : Met l yX9_payOut (wsM yX9_payOut cX9_payOut 3 none) ({ frames := 1, cells := 0, slots := 0, locals := 16 }) (va_Pc [.ref oa] (PG D cy [] L M sz)) (va_Qv (fun (M9 : Hp) => WOK cy K L M9 ∧ fr K L [9] M M9 ∧ fT 9 K L [6, 9, 10, 13, 14] M M9 ∧ (VC Bo K L Mb M9 ha Xv (va_up Yv 23 (upd (Yv 23) di (insC (Yv 25 di) (Yv 23 di))))) ∧ (True)) (fun M9 t => PQ D [] L M9 (va_A ([] ++ va_pl L M) sz) t) (va_A ([] ++ va_pl L M) sz)) 0 0 (va_A ([] ++ va_pl L M) sz) := by
  refine Met.ofW (cc := cX9_payOut) (maxL := 3) (ret := none) (by decide) rfl ?_
  intro p e s m args below meth c s₁ B hml hv
  obtain ⟨rfl, hsz, hP, hK, hD0, hN⟩ := hv
  have hx := B.exec
  have hb := B.bytes
  have hr := B.returns
  have hts := atoms_spec (ws := (wsM yX9_payOut cX9_payOut 3 none)) B.pre
  have hg : ∀ w ∈ lw_good, w.before _ s = true := fun w h => hts w (List.mem_cons_of_mem _ h)
  have hown : s.vm.findClass RX9 = some m.cls := findClass_of_methodNamed B.named
  have hlocks := B.notSynchronized
  subst hsz
  have hD := hD0.self (sz := s.heap.size)
  generalize hAe : va_A ([] ++ va_pl L M) s.heap.size = A at hD ⊢
  have hA : ∀ q : Nat, s.heap.size ≤ q → A q := fun q h => by rw [← hAe]; exact Or.inr h
  have hS : va_S A s.heap s.heap [] := va_S.rf
  have hl := lv_entry ([.ref oa]) (n := 3) (Nat.le_of_ble_eq_true rfl)
  rw [lg_entry_eq]
  generalize (lg_sl ([.ref oa]) ++ List.replicate (3 - (lg_sl ([.ref oa])).length) Slot.unset).toArray = ls at hl ⊢
  refine W.nameQ (fun Q hQ => ?_)
  refine W.nameR (fun R hR => ?_)
  have hRf : 1 ≤ R.frames := by rw [hR]; exact Nat.le_of_ble_eq_true rfl
  have hRl : 16 ≤ R.locals := by rw [hR]; exact Nat.le_of_ble_eq_true rfl
  have hRc : 0 ≤ R.cells := by rw [hR]; exact Nat.le_of_ble_eq_true rfl
  have hRs : 0 ≤ R.slots := by rw [hR]; exact Nat.le_of_ble_eq_true rfl
  have hF : fr K L [9] M M := fr.rf
  have hT9 : fT 9 K L [6, 9, 10, 13, 14] M M := fT.rf
  have hl : lv_has ls 3 [(0, .ref oa)] := hl
  have hA_1 : (cV 9 M oa 0).toInt = ((y0 : Nat) : Int) := by rw [cV_of hMy rfl]; exact nI_toInt (by omega)
  have hA_2 : (cV 9 M oa 2).toInt = (y2 : Int32).toInt := by rw [cV_of hMy rfl]
  have hA_3 : (cV 9 M oa 3).toInt = (y3 : Int32).toInt := by rw [cV_of hMy rfl]
  have hA_4 : (cV 9 M oa 4).toInt = (y4 : Int32).toInt := by rw [cV_of hMy rfl]
  have hA_5 : (cV 9 M oa 5).toInt = (y5 : Int32).toInt := by rw [cV_of hMy rfl]
  have hA_6 : (cV 9 M oa 6).toInt = (y6 : Int32).toInt := by rw [cV_of hMy rfl]
  have hA_7 : (cV 9 M oa 7).toInt = (y7 : Int32).toInt := by rw [cV_of hMy rfl]
  have hL := lk_te hs hdi
  rw [congrFun hV.2.2.1 23, congrFun hV.2.2.1 25] at hL
  have h23 : Yv 23 di = y6 := hL.2.2.2.2.1.trans (cV_of (j := 6) hMy rfl)
  have h25 : Yv 25 di = hrN M y8 := by rw [hL.2.2.2.2.2.2.1, cR_q (q := y8) hMy rfl]
  refine lv_aload_n hx hb dX9_payOut_0 rfl (lv_at hl 0 rfl) ?_
  refine pg_get (D := D) (ci := 9) (v := va_rf y8) (C := RX9) (T := TX9) (N := 16) hx hb hg inG9 hown hK hP ia.1 hMy rfl 8 (by decide) (hg _ wd_25) (fun _ h9 => h9) rfl dX9_payOut_1 ?_
  rcases y8 with _ | b_8
  · have hz := rfl (a := 0)
    have h25n : (Yv 25 di).toInt = -1 := by rw [h25]; rfl
    refine lv_ifnullN (tgt := 50) hx hb dX9_payOut_4 (by decide) ?_
    refine lv_aload_n hx hb dX9_payOut_50 rfl (lv_at hl 0 rfl) ?_
    refine pg_get (D := D) (ci := 9) (v := .long y9) (C := RX9) (T := TX9) (N := 16) hx hb hg inG9 hown hK hP ia.1 hMy rfl 9 (by decide) (hg _ wd_16) (fun _ h9 => h9) rfl dX9_payOut_51 ?_
    refine lv_lconst (v := 0) hx hb dX9_payOut_54 (by decide) ?_
    refine W.lcmp hx hb dX9_payOut_55 ?_
    refine lv_if_le (tgt := 77) hx hb dX9_payOut_56 (by decide) (fun c_9 => ?_) (fun c_9 => ?_)
    · have hz := rfl (a := 0)
      have d_10 : y9 ≤ 0 := lc_let c_9
      refine lv_aload_n hx hb dX9_payOut_77 rfl (lv_at hl 0 rfl) ?_
      refine lv_dup hx hb dX9_payOut_78 rfl ?_
      refine pg_get (D := D) (ci := 9) (v := .long y13) (C := RX9) (T := TX9) (N := 16) hx hb hg inG9 hown hK hP ia.1 hMy rfl 13 (by decide) (hg _ wd_19) (fun _ h9 => h9) rfl dX9_payOut_79 ?_
      refine lv_aload_n hx hb dX9_payOut_82 rfl (lv_at hl 0 rfl) ?_
      refine pg_get (D := D) (ci := 9) (v := .long y10) (C := RX9) (T := TX9) (N := 16) hx hb hg inG9 hown hK hP ia.1 hMy rfl 10 (by decide) (hg _ wd_17) (fun _ h9 => h9) rfl dX9_payOut_83 ?_
      refine lv_ladd hx hb dX9_payOut_86 ?_
      refine lv_topl (fun f_11 ef_11 => ?_)
      refine pg_put (D := D) (ci := 9) (v := .long f_11) (ty := .long) (C := RX9) (T := TX9) (N := 16) hx hb hg inG9 tyX9 tyX9_ok nmX9 hown hK hP hD hS ia.1 hMy rfl 13 (by decide) (hg _ wd_19) (fun _ h9 => h9) rfl (by decide +kernel) rfl rfl (Nat.le_of_ble_eq_true rfl) dX9_payOut_87 (fun H_12 locs hP hD hS => ?_)
      obtain ⟨M_13, eM_13⟩ : ∃ M1 : Hp, M1 = va_up M oa ((b9_9 (nI y0) y1 y2 y3 y4 y5 y6 y7 none y9 y10 y11 y12 f_11 y14 y15)) := ⟨_, rfl⟩
      have sM_13 : M_13 = sF M oa 13 (.long f_11) := eM_13.trans (sF_of (j := 13) (v := .long f_11) hMy rfl)
      have hV : VC Bo K L Mb M_13 ha Xv Yv := by rw [sM_13]; exact hV.same hW iH (SAME.sF0 hMy rfl)
      have hs_14 : RFc (M_13 (rA 2 M_13 ha 8)) di = some oa := by rw [sM_13, rA_c (cVt_sF hMy 2 _ 8 (Or.inl (by decide))), RFc_sF]; exact hs
      have hP : va_P D vwCl ([] ++ va_pl L M_13) H_12 := by rw [eM_13]; exact hP
      have hD : va_D A ([] ++ va_pl L M_13) := by rw [eM_13]; exact hD
      have hW : WOK cy K L M_13 := by rw [eM_13]; exact hW.up_9 ia ⟨y0, y1, y2, y3, y4, y5, y6, y7, none, y9, y10, y11, y12, f_11, y14, y15, rfl, hy0, hy1, hy4, hy8⟩
      have hF : fr K L [9] M M_13 := by rw [eM_13]; exact hF.up ia (by decide)
      have hT9 : fT 9 K L [6, 9, 10, 13, 14] M M_13 := by rw [eM_13]; exact hT9.up (i := 13) hMy rfl (by decide)
      have hM_15 : M_13 oa = (b9_9 (nI y0) y1 y2 y3 y4 y5 y6 y7 none y9 y10 y11 y12 f_11 y14 y15) := by rw [eM_13]; exact va_up_self _ _ _
      refine lv_aload_n hx hb dX9_payOut_90 rfl (lv_at hl 0 rfl) ?_
      refine lv_lconst (v := 0) hx hb dX9_payOut_91 (by decide) ?_
      refine pg_put (D := D) (ci := 9) (v := .long 0) (ty := .long) (C := RX9) (T := TX9) (N := 16) hx hb hg inG9 tyX9 tyX9_ok nmX9 hown hK hP hD hS ia.1 hM_15 rfl 10 (by decide) (hg _ wd_17) (fun _ h9 => h9) rfl (by decide +kernel) rfl rfl (Nat.le_of_ble_eq_true rfl) dX9_payOut_92 (fun H_16 locs hP hD hS => ?_)
      obtain ⟨M_17, eM_17⟩ : ∃ M1 : Hp, M1 = va_up M_13 oa ((b9_9 (nI y0) y1 y2 y3 y4 y5 y6 y7 none y9 0 y11 y12 f_11 y14 y15)) := ⟨_, rfl⟩
      have sM_17 : M_17 = sF M_13 oa 10 (.long 0) := eM_17.trans (sF_of (j := 10) (v := .long 0) hM_15 rfl)
      have hV : VC Bo K L Mb M_17 ha Xv Yv := by rw [sM_17]; exact hV.same hW iH (SAME.sF0 hM_15 rfl)
      have hs_18 : RFc (M_17 (rA 2 M_17 ha 8)) di = some oa := by rw [sM_17, rA_c (cVt_sF hM_15 2 _ 8 (Or.inl (by decide))), RFc_sF]; exact hs_14
      have hP : va_P D vwCl ([] ++ va_pl L M_17) H_16 := by rw [eM_17]; exact hP
      have hD : va_D A ([] ++ va_pl L M_17) := by rw [eM_17]; exact hD
      have hW : WOK cy K L M_17 := by rw [eM_17]; exact hW.up_9 ia ⟨y0, y1, y2, y3, y4, y5, y6, y7, none, y9, 0, y11, y12, f_11, y14, y15, rfl, hy0, hy1, hy4, hy8⟩
      have hF : fr K L [9] M M_17 := by rw [eM_17]; exact hF.up ia (by decide)
      have hT9 : fT 9 K L [6, 9, 10, 13, 14] M M_17 := by rw [eM_17]; exact hT9.up (i := 10) hM_15 rfl (by decide)
      have hM_19 : M_17 oa = (b9_9 (nI y0) y1 y2 y3 y4 y5 y6 y7 none y9 0 y11 y12 f_11 y14 y15) := by rw [eM_17]; exact va_up_self _ _ _
      refine lv_aload_n hx hb dX9_payOut_95 rfl (lv_at hl 0 rfl) ?_
      refine pg_get (D := D) (ci := 9) (v := .int y6) (C := RX9) (T := TX9) (N := 16) hx hb hg inG9 hown hK hP ia.1 hM_19 rfl 6 (by decide) (hg _ wd_14) (fun _ h9 => h9) rfl dX9_payOut_96 ?_
      refine lv_if_le (tgt := 147) hx hb dX9_payOut_99 (by decide) (fun c_20 => ?_) (fun c_20 => ?_)
      · have hz := rfl (a := 0)
        have hI_21 : (y6 : Int32).toInt ≤ (0 : Int) := ileI rfl rfl c_20
        rw [hQ]
        exact W.vret hx hb hr (fun t ht hW9 => ⟨⟨M_17, rfl, ⟨hW, hF, hT9, (by rw [insC_n (fun w => by have w2 := w.2; rw [h23] at w2; omega), updI, va_upI]; exact hV), trivial⟩, ⟨by rw [ht]; exact hP, hD⟩⟩, hS.F ht⟩) hS.2.2 dX9_payOut_147
      · have hz := rfl (a := 0)
        refine lv_aload_n hx hb dX9_payOut_102 rfl (lv_at hl 0 rfl) ?_
        refine pg_get (D := D) (ci := 9) (v := .long f_11) (C := RX9) (T := TX9) (N := 16) hx hb hg inG9 hown hK hP ia.1 hM_19 rfl 13 (by decide) (hg _ wd_19) (fun _ h9 => h9) rfl dX9_payOut_103 ?_
        refine lv_aload_n hx hb dX9_payOut_106 rfl (lv_at hl 0 rfl) ?_
        refine pg_get (D := D) (ci := 9) (v := .int y6) (C := RX9) (T := TX9) (N := 16) hx hb hg inG9 hown hK hP ia.1 hM_19 rfl 6 (by decide) (hg _ wd_14) (fun _ h9 => h9) rfl dX9_payOut_107 ?_
        refine lv_i2l hx hb dX9_payOut_110 rfl ?_
        refine lv_topl (fun f_22 ef_22 => ?_)
        refine lv_ldiv hx hb dX9_payOut_111 (i2l_nz ef_22 c_20) ?_
        refine lv_topl (fun f_23 ef_23 => ?_)
        refine lv_lstore_n (lv' := [(1, .long f_23), (0, .ref oa)]) hx hb dX9_payOut_112 rfl hl (by decide) rfl (fun ls hl => ?_)
        refine lv_aload_n hx hb dX9_payOut_113 rfl (lv_at hl 1 rfl) ?_
        refine lv_dup hx hb dX9_payOut_114 rfl ?_
        refine pg_get (D := D) (ci := 9) (v := .long f_11) (C := RX9) (T := TX9) (N := 16) hx hb hg inG9 hown hK hP ia.1 hM_19 rfl 13 (by decide) (hg _ wd_19) (fun _ h9 => h9) rfl dX9_payOut_115 ?_
        refine lv_lload_n hx hb dX9_payOut_118 rfl (lv_at hl 0 rfl) ?_
        refine lv_lsub hx hb dX9_payOut_119 ?_
        refine lv_topl (fun f_24 ef_24 => ?_)
        refine pg_put (D := D) (ci := 9) (v := .long f_24) (ty := .long) (C := RX9) (T := TX9) (N := 16) hx hb hg inG9 tyX9 tyX9_ok nmX9 hown hK hP hD hS ia.1 hM_19 rfl 13 (by decide) (hg _ wd_19) (fun _ h9 => h9) rfl (by decide +kernel) rfl rfl (Nat.le_of_ble_eq_true rfl) dX9_payOut_120 (fun H_25 locs hP hD hS => ?_)
        obtain ⟨M_26, eM_26⟩ : ∃ M1 : Hp, M1 = va_up M_17 oa ((b9_9 (nI y0) y1 y2 y3 y4 y5 y6 y7 none y9 0 y11 y12 f_24 y14 y15)) := ⟨_, rfl⟩
        have sM_26 : M_26 = sF M_17 oa 13 (.long f_24) := eM_26.trans (sF_of (j := 13) (v := .long f_24) hM_19 rfl)
        have hV : VC Bo K L Mb M_26 ha Xv Yv := by rw [sM_26]; exact hV.same hW iH (SAME.sF0 hM_19 rfl)
        have hs_27 : RFc (M_26 (rA 2 M_26 ha 8)) di = some oa := by rw [sM_26, rA_c (cVt_sF hM_19 2 _ 8 (Or.inl (by decide))), RFc_sF]; exact hs_18
        have hP : va_P D vwCl ([] ++ va_pl L M_26) H_25 := by rw [eM_26]; exact hP
        have hD : va_D A ([] ++ va_pl L M_26) := by rw [eM_26]; exact hD
        have hW : WOK cy K L M_26 := by rw [eM_26]; exact hW.up_9 ia ⟨y0, y1, y2, y3, y4, y5, y6, y7, none, y9, 0, y11, y12, f_24, y14, y15, rfl, hy0, hy1, hy4, hy8⟩
        have hF : fr K L [9] M M_26 := by rw [eM_26]; exact hF.up ia (by decide)
        have hT9 : fT 9 K L [6, 9, 10, 13, 14] M M_26 := by rw [eM_26]; exact hT9.up (i := 13) hM_19 rfl (by decide)
        have hM_28 : M_26 oa = (b9_9 (nI y0) y1 y2 y3 y4 y5 y6 y7 none y9 0 y11 y12 f_24 y14 y15) := by rw [eM_26]; exact va_up_self _ _ _
        refine lv_aload_n hx hb dX9_payOut_123 rfl (lv_at hl 1 rfl) ?_
        refine lv_dup hx hb dX9_payOut_124 rfl ?_
        refine pg_get (D := D) (ci := 9) (v := .long y14) (C := RX9) (T := TX9) (N := 16) hx hb hg inG9 hown hK hP ia.1 hM_28 rfl 14 (by decide) (hg _ wd_20) (fun _ h9 => h9) rfl dX9_payOut_125 ?_
        refine lv_lload_n hx hb dX9_payOut_128 rfl (lv_at hl 0 rfl) ?_
        refine lv_ladd hx hb dX9_payOut_129 ?_
        refine lv_topl (fun f_29 ef_29 => ?_)
        refine pg_put (D := D) (ci := 9) (v := .long f_29) (ty := .long) (C := RX9) (T := TX9) (N := 16) hx hb hg inG9 tyX9 tyX9_ok nmX9 hown hK hP hD hS ia.1 hM_28 rfl 14 (by decide) (hg _ wd_20) (fun _ h9 => h9) rfl (by decide +kernel) rfl rfl (Nat.le_of_ble_eq_true rfl) dX9_payOut_130 (fun H_30 locs hP hD hS => ?_)
        obtain ⟨M_31, eM_31⟩ : ∃ M1 : Hp, M1 = va_up M_26 oa ((b9_9 (nI y0) y1 y2 y3 y4 y5 y6 y7 none y9 0 y11 y12 f_24 f_29 y15)) := ⟨_, rfl⟩
        have sM_31 : M_31 = sF M_26 oa 14 (.long f_29) := eM_31.trans (sF_of (j := 14) (v := .long f_29) hM_28 rfl)
        have hV : VC Bo K L Mb M_31 ha Xv Yv := by rw [sM_31]; exact hV.same hW iH (SAME.sF0 hM_28 rfl)
        have hs_32 : RFc (M_31 (rA 2 M_31 ha 8)) di = some oa := by rw [sM_31, rA_c (cVt_sF hM_28 2 _ 8 (Or.inl (by decide))), RFc_sF]; exact hs_27
        have hP : va_P D vwCl ([] ++ va_pl L M_31) H_30 := by rw [eM_31]; exact hP
        have hD : va_D A ([] ++ va_pl L M_31) := by rw [eM_31]; exact hD
        have hW : WOK cy K L M_31 := by rw [eM_31]; exact hW.up_9 ia ⟨y0, y1, y2, y3, y4, y5, y6, y7, none, y9, 0, y11, y12, f_24, f_29, y15, rfl, hy0, hy1, hy4, hy8⟩
        have hF : fr K L [9] M M_31 := by rw [eM_31]; exact hF.up ia (by decide)
        have hT9 : fT 9 K L [6, 9, 10, 13, 14] M M_31 := by rw [eM_31]; exact hT9.up (i := 14) hM_28 rfl (by decide)
        have hM_33 : M_31 oa = (b9_9 (nI y0) y1 y2 y3 y4 y5 y6 y7 none y9 0 y11 y12 f_24 f_29 y15) := by rw [eM_31]; exact va_up_self _ _ _
        refine lv_aload_n hx hb dX9_payOut_133 rfl (lv_at hl 1 rfl) ?_
        refine lv_iconst (v := 1) hx hb dX9_payOut_134 (by decide) ?_
        refine lv_aload_n hx hb dX9_payOut_135 rfl (lv_at hl 1 rfl) ?_
        refine pg_get (D := D) (ci := 9) (v := .int y6) (C := RX9) (T := TX9) (N := 16) hx hb hg inG9 hown hK hP ia.1 hM_33 rfl 6 (by decide) (hg _ wd_14) (fun _ h9 => h9) rfl dX9_payOut_136 ?_
        refine lv_iconst (v := 1) hx hb dX9_payOut_139 (by decide) ?_
        refine lv_isub hx hb dX9_payOut_140 ?_
        refine lv_topi (fun f_34 ef_34 => ?_)
        refine va_mmax hx hb (by rw [hml]; exact hl.1.symm) hown (hg _ wd_117) (hg _ wd_100) (hg _ wd_12) (hg _ wd_101) (Nat.le_trans (Nat.le_of_ble_eq_true rfl) hRf) (Nat.le_trans (Nat.le_of_ble_eq_true rfl) hRl) (Nat.le_trans (Nat.le_of_ble_eq_true rfl) hRc) (Nat.le_trans (Nat.le_of_ble_eq_true rfl) hRs) dX9_payOut_141 ?_
        refine lv_topi (fun f_35 ef_35 => ?_)
        refine pg_put (D := D) (ci := 9) (v := .int f_35) (ty := .int) (C := RX9) (T := TX9) (N := 16) hx hb hg inG9 tyX9 tyX9_ok nmX9 hown hK hP hD hS ia.1 hM_33 rfl 6 (by decide) (hg _ wd_14) (fun _ h9 => h9) rfl (by decide +kernel) rfl rfl (Nat.le_of_ble_eq_true rfl) dX9_payOut_144 (fun H_36 locs hP hD hS => ?_)
        obtain ⟨M_37, eM_37⟩ : ∃ M1 : Hp, M1 = va_up M_31 oa ((b9_9 (nI y0) y1 y2 y3 y4 y5 f_35 y7 none y9 0 y11 y12 f_24 f_29 y15)) := ⟨_, rfl⟩
        have sM_37 : M_37 = sF M_31 oa 6 (.int f_35) := eM_37.trans (sF_of (j := 6) (v := .int f_35) hM_33 rfl)
        have hV : VC Bo K L Mb M_37 ha Xv (va_up Yv 23 (upd (Yv 23) di f_35)) := by rw [sM_37]; exact VC.s9_6 hV hW iH hdi hs_32 hM_33 (Nat.le_of_ble_eq_true rfl)
        have hs_38 : RFc (M_37 (rA 2 M_37 ha 8)) di = some oa := by rw [sM_37, rA_c (cVt_sF hM_33 2 _ 8 (Or.inl (by decide))), RFc_sF]; exact hs_32
        have hP : va_P D vwCl ([] ++ va_pl L M_37) H_36 := by rw [eM_37]; exact hP
        have hD : va_D A ([] ++ va_pl L M_37) := by rw [eM_37]; exact hD
        have hW : WOK cy K L M_37 := by rw [eM_37]; exact hW.up_9 ia ⟨y0, y1, y2, y3, y4, y5, f_35, y7, none, y9, 0, y11, y12, f_24, f_29, y15, rfl, hy0, hy1, hy4, hy8⟩
        have hF : fr K L [9] M M_37 := by rw [eM_37]; exact hF.up ia (by decide)
        have hT9 : fT 9 K L [6, 9, 10, 13, 14] M M_37 := by rw [eM_37]; exact hT9.up (i := 6) hM_33 rfl (by decide)
        have hM_39 : M_37 oa = (b9_9 (nI y0) y1 y2 y3 y4 y5 f_35 y7 none y9 0 y11 y12 f_24 f_29 y15) := by rw [eM_37]; exact va_up_self _ _ _
        have hI_40 : (0 : Int) < (y6 : Int32).toInt := inleI rfl rfl c_20
        rw [hQ]
        exact W.vret hx hb hr (fun t ht hW9 => ⟨⟨M_37, rfl, ⟨hW, hF, hT9, (by rw [h23, ← mx1 (a := Yv 25 di) (b := y6) ef_35 ef_34 h25n (by omega)]; exact hV), trivial⟩, ⟨by rw [ht]; exact hP, hD⟩⟩, hS.F ht⟩) hS.2.2 dX9_payOut_147
    · have hz := rfl (a := 0)
      have d_10 : ¬ y9 ≤ 0 := lc_lef c_9
      refine lv_aload_n hx hb dX9_payOut_59 rfl (lv_at hl 0 rfl) ?_
      refine lv_dup hx hb dX9_payOut_60 rfl ?_
      refine pg_get (D := D) (ci := 9) (v := .long y13) (C := RX9) (T := TX9) (N := 16) hx hb hg inG9 hown hK hP ia.1 hMy rfl 13 (by decide) (hg _ wd_19) (fun _ h9 => h9) rfl dX9_payOut_61 ?_
      refine lv_aload_n hx hb dX9_payOut_64 rfl (lv_at hl 0 rfl) ?_
      refine pg_get (D := D) (ci := 9) (v := .long y9) (C := RX9) (T := TX9) (N := 16) hx hb hg inG9 hown hK hP ia.1 hMy rfl 9 (by decide) (hg _ wd_16) (fun _ h9 => h9) rfl dX9_payOut_65 ?_
      refine lv_ladd hx hb dX9_payOut_68 ?_
      refine lv_topl (fun f_41 ef_41 => ?_)
      refine pg_put (D := D) (ci := 9) (v := .long f_41) (ty := .long) (C := RX9) (T := TX9) (N := 16) hx hb hg inG9 tyX9 tyX9_ok nmX9 hown hK hP hD hS ia.1 hMy rfl 13 (by decide) (hg _ wd_19) (fun _ h9 => h9) rfl (by decide +kernel) rfl rfl (Nat.le_of_ble_eq_true rfl) dX9_payOut_69 (fun H_42 locs hP hD hS => ?_)
      obtain ⟨M_43, eM_43⟩ : ∃ M1 : Hp, M1 = va_up M oa ((b9_9 (nI y0) y1 y2 y3 y4 y5 y6 y7 none y9 y10 y11 y12 f_41 y14 y15)) := ⟨_, rfl⟩
      have sM_43 : M_43 = sF M oa 13 (.long f_41) := eM_43.trans (sF_of (j := 13) (v := .long f_41) hMy rfl)
      have hV : VC Bo K L Mb M_43 ha Xv Yv := by rw [sM_43]; exact hV.same hW iH (SAME.sF0 hMy rfl)
      have hs_44 : RFc (M_43 (rA 2 M_43 ha 8)) di = some oa := by rw [sM_43, rA_c (cVt_sF hMy 2 _ 8 (Or.inl (by decide))), RFc_sF]; exact hs
      have hP : va_P D vwCl ([] ++ va_pl L M_43) H_42 := by rw [eM_43]; exact hP
      have hD : va_D A ([] ++ va_pl L M_43) := by rw [eM_43]; exact hD
      have hW : WOK cy K L M_43 := by rw [eM_43]; exact hW.up_9 ia ⟨y0, y1, y2, y3, y4, y5, y6, y7, none, y9, y10, y11, y12, f_41, y14, y15, rfl, hy0, hy1, hy4, hy8⟩
      have hF : fr K L [9] M M_43 := by rw [eM_43]; exact hF.up ia (by decide)
      have hT9 : fT 9 K L [6, 9, 10, 13, 14] M M_43 := by rw [eM_43]; exact hT9.up (i := 13) hMy rfl (by decide)
      have hM_45 : M_43 oa = (b9_9 (nI y0) y1 y2 y3 y4 y5 y6 y7 none y9 y10 y11 y12 f_41 y14 y15) := by rw [eM_43]; exact va_up_self _ _ _
      refine lv_aload_n hx hb dX9_payOut_72 rfl (lv_at hl 0 rfl) ?_
      refine lv_lconst (v := 0) hx hb dX9_payOut_73 (by decide) ?_
      refine pg_put (D := D) (ci := 9) (v := .long 0) (ty := .long) (C := RX9) (T := TX9) (N := 16) hx hb hg inG9 tyX9 tyX9_ok nmX9 hown hK hP hD hS ia.1 hM_45 rfl 9 (by decide) (hg _ wd_16) (fun _ h9 => h9) rfl (by decide +kernel) rfl rfl (Nat.le_of_ble_eq_true rfl) dX9_payOut_74 (fun H_46 locs hP hD hS => ?_)
      obtain ⟨M_47, eM_47⟩ : ∃ M1 : Hp, M1 = va_up M_43 oa ((b9_9 (nI y0) y1 y2 y3 y4 y5 y6 y7 none 0 y10 y11 y12 f_41 y14 y15)) := ⟨_, rfl⟩
      have sM_47 : M_47 = sF M_43 oa 9 (.long 0) := eM_47.trans (sF_of (j := 9) (v := .long 0) hM_45 rfl)
      have hV : VC Bo K L Mb M_47 ha Xv Yv := by rw [sM_47]; exact hV.same hW iH (SAME.sF0 hM_45 rfl)
      have hs_48 : RFc (M_47 (rA 2 M_47 ha 8)) di = some oa := by rw [sM_47, rA_c (cVt_sF hM_45 2 _ 8 (Or.inl (by decide))), RFc_sF]; exact hs_44
      have hP : va_P D vwCl ([] ++ va_pl L M_47) H_46 := by rw [eM_47]; exact hP
      have hD : va_D A ([] ++ va_pl L M_47) := by rw [eM_47]; exact hD
      have hW : WOK cy K L M_47 := by rw [eM_47]; exact hW.up_9 ia ⟨y0, y1, y2, y3, y4, y5, y6, y7, none, 0, y10, y11, y12, f_41, y14, y15, rfl, hy0, hy1, hy4, hy8⟩
      have hF : fr K L [9] M M_47 := by rw [eM_47]; exact hF.up ia (by decide)
      have hT9 : fT 9 K L [6, 9, 10, 13, 14] M M_47 := by rw [eM_47]; exact hT9.up (i := 9) hM_45 rfl (by decide)
      have hM_49 : M_47 oa = (b9_9 (nI y0) y1 y2 y3 y4 y5 y6 y7 none 0 y10 y11 y12 f_41 y14 y15) := by rw [eM_47]; exact va_up_self _ _ _
      refine lv_aload_n hx hb dX9_payOut_77 rfl (lv_at hl 0 rfl) ?_
      refine lv_dup hx hb dX9_payOut_78 rfl ?_
      refine pg_get (D := D) (ci := 9) (v := .long f_41) (C := RX9) (T := TX9) (N := 16) hx hb hg inG9 hown hK hP ia.1 hM_49 rfl 13 (by decide) (hg _ wd_19) (fun _ h9 => h9) rfl dX9_payOut_79 ?_
      refine lv_aload_n hx hb dX9_payOut_82 rfl (lv_at hl 0 rfl) ?_
      refine pg_get (D := D) (ci := 9) (v := .long y10) (C := RX9) (T := TX9) (N := 16) hx hb hg inG9 hown hK hP ia.1 hM_49 rfl 10 (by decide) (hg _ wd_17) (fun _ h9 => h9) rfl dX9_payOut_83 ?_
      refine lv_ladd hx hb dX9_payOut_86 ?_
      refine lv_topl (fun f_50 ef_50 => ?_)
      refine pg_put (D := D) (ci := 9) (v := .long f_50) (ty := .long) (C := RX9) (T := TX9) (N := 16) hx hb hg inG9 tyX9 tyX9_ok nmX9 hown hK hP hD hS ia.1 hM_49 rfl 13 (by decide) (hg _ wd_19) (fun _ h9 => h9) rfl (by decide +kernel) rfl rfl (Nat.le_of_ble_eq_true rfl) dX9_payOut_87 (fun H_51 locs hP hD hS => ?_)
      obtain ⟨M_52, eM_52⟩ : ∃ M1 : Hp, M1 = va_up M_47 oa ((b9_9 (nI y0) y1 y2 y3 y4 y5 y6 y7 none 0 y10 y11 y12 f_50 y14 y15)) := ⟨_, rfl⟩
      have sM_52 : M_52 = sF M_47 oa 13 (.long f_50) := eM_52.trans (sF_of (j := 13) (v := .long f_50) hM_49 rfl)
      have hV : VC Bo K L Mb M_52 ha Xv Yv := by rw [sM_52]; exact hV.same hW iH (SAME.sF0 hM_49 rfl)
      have hs_53 : RFc (M_52 (rA 2 M_52 ha 8)) di = some oa := by rw [sM_52, rA_c (cVt_sF hM_49 2 _ 8 (Or.inl (by decide))), RFc_sF]; exact hs_48
      have hP : va_P D vwCl ([] ++ va_pl L M_52) H_51 := by rw [eM_52]; exact hP
      have hD : va_D A ([] ++ va_pl L M_52) := by rw [eM_52]; exact hD
      have hW : WOK cy K L M_52 := by rw [eM_52]; exact hW.up_9 ia ⟨y0, y1, y2, y3, y4, y5, y6, y7, none, 0, y10, y11, y12, f_50, y14, y15, rfl, hy0, hy1, hy4, hy8⟩
      have hF : fr K L [9] M M_52 := by rw [eM_52]; exact hF.up ia (by decide)
      have hT9 : fT 9 K L [6, 9, 10, 13, 14] M M_52 := by rw [eM_52]; exact hT9.up (i := 13) hM_49 rfl (by decide)
      have hM_54 : M_52 oa = (b9_9 (nI y0) y1 y2 y3 y4 y5 y6 y7 none 0 y10 y11 y12 f_50 y14 y15) := by rw [eM_52]; exact va_up_self _ _ _
      refine lv_aload_n hx hb dX9_payOut_90 rfl (lv_at hl 0 rfl) ?_
      refine lv_lconst (v := 0) hx hb dX9_payOut_91 (by decide) ?_
      refine pg_put (D := D) (ci := 9) (v := .long 0) (ty := .long) (C := RX9) (T := TX9) (N := 16) hx hb hg inG9 tyX9 tyX9_ok nmX9 hown hK hP hD hS ia.1 hM_54 rfl 10 (by decide) (hg _ wd_17) (fun _ h9 => h9) rfl (by decide +kernel) rfl rfl (Nat.le_of_ble_eq_true rfl) dX9_payOut_92 (fun H_55 locs hP hD hS => ?_)
      obtain ⟨M_56, eM_56⟩ : ∃ M1 : Hp, M1 = va_up M_52 oa ((b9_9 (nI y0) y1 y2 y3 y4 y5 y6 y7 none 0 0 y11 y12 f_50 y14 y15)) := ⟨_, rfl⟩
      have sM_56 : M_56 = sF M_52 oa 10 (.long 0) := eM_56.trans (sF_of (j := 10) (v := .long 0) hM_54 rfl)
      have hV : VC Bo K L Mb M_56 ha Xv Yv := by rw [sM_56]; exact hV.same hW iH (SAME.sF0 hM_54 rfl)
      have hs_57 : RFc (M_56 (rA 2 M_56 ha 8)) di = some oa := by rw [sM_56, rA_c (cVt_sF hM_54 2 _ 8 (Or.inl (by decide))), RFc_sF]; exact hs_53
      have hP : va_P D vwCl ([] ++ va_pl L M_56) H_55 := by rw [eM_56]; exact hP
      have hD : va_D A ([] ++ va_pl L M_56) := by rw [eM_56]; exact hD
      have hW : WOK cy K L M_56 := by rw [eM_56]; exact hW.up_9 ia ⟨y0, y1, y2, y3, y4, y5, y6, y7, none, 0, 0, y11, y12, f_50, y14, y15, rfl, hy0, hy1, hy4, hy8⟩
      have hF : fr K L [9] M M_56 := by rw [eM_56]; exact hF.up ia (by decide)
      have hT9 : fT 9 K L [6, 9, 10, 13, 14] M M_56 := by rw [eM_56]; exact hT9.up (i := 10) hM_54 rfl (by decide)
      have hM_58 : M_56 oa = (b9_9 (nI y0) y1 y2 y3 y4 y5 y6 y7 none 0 0 y11 y12 f_50 y14 y15) := by rw [eM_56]; exact va_up_self _ _ _
      refine lv_aload_n hx hb dX9_payOut_95 rfl (lv_at hl 0 rfl) ?_
      refine pg_get (D := D) (ci := 9) (v := .int y6) (C := RX9) (T := TX9) (N := 16) hx hb hg inG9 hown hK hP ia.1 hM_58 rfl 6 (by decide) (hg _ wd_14) (fun _ h9 => h9) rfl dX9_payOut_96 ?_
      refine lv_if_le (tgt := 147) hx hb dX9_payOut_99 (by decide) (fun c_59 => ?_) (fun c_59 => ?_)
      · have hz := rfl (a := 0)
        have hI_60 : (y6 : Int32).toInt ≤ (0 : Int) := ileI rfl rfl c_59
        rw [hQ]
        exact W.vret hx hb hr (fun t ht hW9 => ⟨⟨M_56, rfl, ⟨hW, hF, hT9, (by rw [insC_n (fun w => by have w2 := w.2; rw [h23] at w2; omega), updI, va_upI]; exact hV), trivial⟩, ⟨by rw [ht]; exact hP, hD⟩⟩, hS.F ht⟩) hS.2.2 dX9_payOut_147
      · have hz := rfl (a := 0)
        refine lv_aload_n hx hb dX9_payOut_102 rfl (lv_at hl 0 rfl) ?_
        refine pg_get (D := D) (ci := 9) (v := .long f_50) (C := RX9) (T := TX9) (N := 16) hx hb hg inG9 hown hK hP ia.1 hM_58 rfl 13 (by decide) (hg _ wd_19) (fun _ h9 => h9) rfl dX9_payOut_103 ?_
        refine lv_aload_n hx hb dX9_payOut_106 rfl (lv_at hl 0 rfl) ?_
        refine pg_get (D := D) (ci := 9) (v := .int y6) (C := RX9) (T := TX9) (N := 16) hx hb hg inG9 hown hK hP ia.1 hM_58 rfl 6 (by decide) (hg _ wd_14) (fun _ h9 => h9) rfl dX9_payOut_107 ?_
        refine lv_i2l hx hb dX9_payOut_110 rfl ?_
        refine lv_topl (fun f_61 ef_61 => ?_)
        refine lv_ldiv hx hb dX9_payOut_111 (i2l_nz ef_61 c_59) ?_
        refine lv_topl (fun f_62 ef_62 => ?_)
        refine lv_lstore_n (lv' := [(1, .long f_62), (0, .ref oa)]) hx hb dX9_payOut_112 rfl hl (by decide) rfl (fun ls hl => ?_)
        refine lv_aload_n hx hb dX9_payOut_113 rfl (lv_at hl 1 rfl) ?_
        refine lv_dup hx hb dX9_payOut_114 rfl ?_
        refine pg_get (D := D) (ci := 9) (v := .long f_50) (C := RX9) (T := TX9) (N := 16) hx hb hg inG9 hown hK hP ia.1 hM_58 rfl 13 (by decide) (hg _ wd_19) (fun _ h9 => h9) rfl dX9_payOut_115 ?_
        refine lv_lload_n hx hb dX9_payOut_118 rfl (lv_at hl 0 rfl) ?_
        refine lv_lsub hx hb dX9_payOut_119 ?_
        refine lv_topl (fun f_63 ef_63 => ?_)
        refine pg_put (D := D) (ci := 9) (v := .long f_63) (ty := .long) (C := RX9) (T := TX9) (N := 16) hx hb hg inG9 tyX9 tyX9_ok nmX9 hown hK hP hD hS ia.1 hM_58 rfl 13 (by decide) (hg _ wd_19) (fun _ h9 => h9) rfl (by decide +kernel) rfl rfl (Nat.le_of_ble_eq_true rfl) dX9_payOut_120 (fun H_64 locs hP hD hS => ?_)
        obtain ⟨M_65, eM_65⟩ : ∃ M1 : Hp, M1 = va_up M_56 oa ((b9_9 (nI y0) y1 y2 y3 y4 y5 y6 y7 none 0 0 y11 y12 f_63 y14 y15)) := ⟨_, rfl⟩
        have sM_65 : M_65 = sF M_56 oa 13 (.long f_63) := eM_65.trans (sF_of (j := 13) (v := .long f_63) hM_58 rfl)
        have hV : VC Bo K L Mb M_65 ha Xv Yv := by rw [sM_65]; exact hV.same hW iH (SAME.sF0 hM_58 rfl)
        have hs_66 : RFc (M_65 (rA 2 M_65 ha 8)) di = some oa := by rw [sM_65, rA_c (cVt_sF hM_58 2 _ 8 (Or.inl (by decide))), RFc_sF]; exact hs_57
        have hP : va_P D vwCl ([] ++ va_pl L M_65) H_64 := by rw [eM_65]; exact hP
        have hD : va_D A ([] ++ va_pl L M_65) := by rw [eM_65]; exact hD
        have hW : WOK cy K L M_65 := by rw [eM_65]; exact hW.up_9 ia ⟨y0, y1, y2, y3, y4, y5, y6, y7, none, 0, 0, y11, y12, f_63, y14, y15, rfl, hy0, hy1, hy4, hy8⟩
        have hF : fr K L [9] M M_65 := by rw [eM_65]; exact hF.up ia (by decide)
        have hT9 : fT 9 K L [6, 9, 10, 13, 14] M M_65 := by rw [eM_65]; exact hT9.up (i := 13) hM_58 rfl (by decide)
        have hM_67 : M_65 oa = (b9_9 (nI y0) y1 y2 y3 y4 y5 y6 y7 none 0 0 y11 y12 f_63 y14 y15) := by rw [eM_65]; exact va_up_self _ _ _
        refine lv_aload_n hx hb dX9_payOut_123 rfl (lv_at hl 1 rfl) ?_
        refine lv_dup hx hb dX9_payOut_124 rfl ?_
        refine pg_get (D := D) (ci := 9) (v := .long y14) (C := RX9) (T := TX9) (N := 16) hx hb hg inG9 hown hK hP ia.1 hM_67 rfl 14 (by decide) (hg _ wd_20) (fun _ h9 => h9) rfl dX9_payOut_125 ?_
        refine lv_lload_n hx hb dX9_payOut_128 rfl (lv_at hl 0 rfl) ?_
        refine lv_ladd hx hb dX9_payOut_129 ?_
        refine lv_topl (fun f_68 ef_68 => ?_)
        refine pg_put (D := D) (ci := 9) (v := .long f_68) (ty := .long) (C := RX9) (T := TX9) (N := 16) hx hb hg inG9 tyX9 tyX9_ok nmX9 hown hK hP hD hS ia.1 hM_67 rfl 14 (by decide) (hg _ wd_20) (fun _ h9 => h9) rfl (by decide +kernel) rfl rfl (Nat.le_of_ble_eq_true rfl) dX9_payOut_130 (fun H_69 locs hP hD hS => ?_)
        obtain ⟨M_70, eM_70⟩ : ∃ M1 : Hp, M1 = va_up M_65 oa ((b9_9 (nI y0) y1 y2 y3 y4 y5 y6 y7 none 0 0 y11 y12 f_63 f_68 y15)) := ⟨_, rfl⟩
        have sM_70 : M_70 = sF M_65 oa 14 (.long f_68) := eM_70.trans (sF_of (j := 14) (v := .long f_68) hM_67 rfl)
        have hV : VC Bo K L Mb M_70 ha Xv Yv := by rw [sM_70]; exact hV.same hW iH (SAME.sF0 hM_67 rfl)
        have hs_71 : RFc (M_70 (rA 2 M_70 ha 8)) di = some oa := by rw [sM_70, rA_c (cVt_sF hM_67 2 _ 8 (Or.inl (by decide))), RFc_sF]; exact hs_66
        have hP : va_P D vwCl ([] ++ va_pl L M_70) H_69 := by rw [eM_70]; exact hP
        have hD : va_D A ([] ++ va_pl L M_70) := by rw [eM_70]; exact hD
        have hW : WOK cy K L M_70 := by rw [eM_70]; exact hW.up_9 ia ⟨y0, y1, y2, y3, y4, y5, y6, y7, none, 0, 0, y11, y12, f_63, f_68, y15, rfl, hy0, hy1, hy4, hy8⟩
        have hF : fr K L [9] M M_70 := by rw [eM_70]; exact hF.up ia (by decide)
        have hT9 : fT 9 K L [6, 9, 10, 13, 14] M M_70 := by rw [eM_70]; exact hT9.up (i := 14) hM_67 rfl (by decide)
        have hM_72 : M_70 oa = (b9_9 (nI y0) y1 y2 y3 y4 y5 y6 y7 none 0 0 y11 y12 f_63 f_68 y15) := by rw [eM_70]; exact va_up_self _ _ _
        refine lv_aload_n hx hb dX9_payOut_133 rfl (lv_at hl 1 rfl) ?_
        refine lv_iconst (v := 1) hx hb dX9_payOut_134 (by decide) ?_
        refine lv_aload_n hx hb dX9_payOut_135 rfl (lv_at hl 1 rfl) ?_
        refine pg_get (D := D) (ci := 9) (v := .int y6) (C := RX9) (T := TX9) (N := 16) hx hb hg inG9 hown hK hP ia.1 hM_72 rfl 6 (by decide) (hg _ wd_14) (fun _ h9 => h9) rfl dX9_payOut_136 ?_
        refine lv_iconst (v := 1) hx hb dX9_payOut_139 (by decide) ?_
        refine lv_isub hx hb dX9_payOut_140 ?_
        refine lv_topi (fun f_73 ef_73 => ?_)
        refine va_mmax hx hb (by rw [hml]; exact hl.1.symm) hown (hg _ wd_117) (hg _ wd_100) (hg _ wd_12) (hg _ wd_101) (Nat.le_trans (Nat.le_of_ble_eq_true rfl) hRf) (Nat.le_trans (Nat.le_of_ble_eq_true rfl) hRl) (Nat.le_trans (Nat.le_of_ble_eq_true rfl) hRc) (Nat.le_trans (Nat.le_of_ble_eq_true rfl) hRs) dX9_payOut_141 ?_
        refine lv_topi (fun f_74 ef_74 => ?_)
        refine pg_put (D := D) (ci := 9) (v := .int f_74) (ty := .int) (C := RX9) (T := TX9) (N := 16) hx hb hg inG9 tyX9 tyX9_ok nmX9 hown hK hP hD hS ia.1 hM_72 rfl 6 (by decide) (hg _ wd_14) (fun _ h9 => h9) rfl (by decide +kernel) rfl rfl (Nat.le_of_ble_eq_true rfl) dX9_payOut_144 (fun H_75 locs hP hD hS => ?_)
        obtain ⟨M_76, eM_76⟩ : ∃ M1 : Hp, M1 = va_up M_70 oa ((b9_9 (nI y0) y1 y2 y3 y4 y5 f_74 y7 none 0 0 y11 y12 f_63 f_68 y15)) := ⟨_, rfl⟩
        have sM_76 : M_76 = sF M_70 oa 6 (.int f_74) := eM_76.trans (sF_of (j := 6) (v := .int f_74) hM_72 rfl)
        have hV : VC Bo K L Mb M_76 ha Xv (va_up Yv 23 (upd (Yv 23) di f_74)) := by rw [sM_76]; exact VC.s9_6 hV hW iH hdi hs_71 hM_72 (Nat.le_of_ble_eq_true rfl)
        have hs_77 : RFc (M_76 (rA 2 M_76 ha 8)) di = some oa := by rw [sM_76, rA_c (cVt_sF hM_72 2 _ 8 (Or.inl (by decide))), RFc_sF]; exact hs_71
        have hP : va_P D vwCl ([] ++ va_pl L M_76) H_75 := by rw [eM_76]; exact hP
        have hD : va_D A ([] ++ va_pl L M_76) := by rw [eM_76]; exact hD
        have hW : WOK cy K L M_76 := by rw [eM_76]; exact hW.up_9 ia ⟨y0, y1, y2, y3, y4, y5, f_74, y7, none, 0, 0, y11, y12, f_63, f_68, y15, rfl, hy0, hy1, hy4, hy8⟩
        have hF : fr K L [9] M M_76 := by rw [eM_76]; exact hF.up ia (by decide)
        have hT9 : fT 9 K L [6, 9, 10, 13, 14] M M_76 := by rw [eM_76]; exact hT9.up (i := 6) hM_72 rfl (by decide)
        have hM_78 : M_76 oa = (b9_9 (nI y0) y1 y2 y3 y4 y5 f_74 y7 none 0 0 y11 y12 f_63 f_68 y15) := by rw [eM_76]; exact va_up_self _ _ _
        have hI_79 : (0 : Int) < (y6 : Int32).toInt := inleI rfl rfl c_59
        rw [hQ]
        exact W.vret hx hb hr (fun t ht hW9 => ⟨⟨M_76, rfl, ⟨hW, hF, hT9, (by rw [h23, ← mx1 (a := Yv 25 di) (b := y6) ef_74 ef_73 h25n (by omega)]; exact hV), trivial⟩, ⟨by rw [ht]; exact hP, hD⟩⟩, hS.F ht⟩) hS.2.2 dX9_payOut_147
  · have hb_80 := hy8 b_8 rfl
    obtain ⟨v81_0, v81_1, v81_2, v81_3, v81_4, v81_5, v81_6, v81_7, v81_8, v81_9, v81_10, v81_11, v81_12, v81_13, v81_14, v81_15, hM81, h81_0, h81_1, h81_4, h81_8⟩ := hW.open_9 hb_80
    have hu0 : (cV 9 M b_8 0).toInt = ((v81_0 : Nat) : Int) := by rw [cV_of (j := 0) hM81 rfl]; exact nI_toInt (by omega)
    refine lv_ifnull hx hb dX9_payOut_4 ?_
    refine lv_aload_n hx hb dX9_payOut_7 rfl (lv_at hl 0 rfl) ?_
    refine pg_get (D := D) (ci := 9) (v := va_rf (some b_8)) (C := RX9) (T := TX9) (N := 16) hx hb hg inG9 hown hK hP ia.1 hMy rfl 8 (by decide) (hg _ wd_25) (fun _ h9 => h9) rfl dX9_payOut_8 ?_
    refine lv_dup hx hb dX9_payOut_11 rfl ?_
    refine pg_get (D := D) (ci := 9) (v := .long v81_9) (C := RX9) (T := TX9) (N := 16) hx hb hg inG9 hown hK hP hb_80.1 hM81 rfl 9 (by decide) (hg _ wd_16) (fun _ h9 => h9) rfl dX9_payOut_12 ?_
    refine lv_aload_n hx hb dX9_payOut_15 rfl (lv_at hl 0 rfl) ?_
    refine pg_get (D := D) (ci := 9) (v := .long y9) (C := RX9) (T := TX9) (N := 16) hx hb hg inG9 hown hK hP ia.1 hMy rfl 9 (by decide) (hg _ wd_16) (fun _ h9 => h9) rfl dX9_payOut_16 ?_
    refine lv_ladd hx hb dX9_payOut_19 ?_
    refine lv_topl (fun f_82 ef_82 => ?_)
    refine pg_put (D := D) (ci := 9) (v := .long f_82) (ty := .long) (C := RX9) (T := TX9) (N := 16) hx hb hg inG9 tyX9 tyX9_ok nmX9 hown hK hP hD hS hb_80.1 hM81 rfl 9 (by decide) (hg _ wd_16) (fun _ h9 => h9) rfl (by decide +kernel) rfl rfl (Nat.le_of_ble_eq_true rfl) dX9_payOut_20 (fun H_83 locs hP hD hS => ?_)
    obtain ⟨M_84, eM_84⟩ : ∃ M1 : Hp, M1 = va_up M b_8 ((b9_9 (nI v81_0) v81_1 v81_2 v81_3 v81_4 v81_5 v81_6 v81_7 v81_8 f_82 v81_10 v81_11 v81_12 v81_13 v81_14 v81_15)) := ⟨_, rfl⟩
    have sM_84 : M_84 = sF M b_8 9 (.long f_82) := eM_84.trans (sF_of (j := 9) (v := .long f_82) hM81 rfl)
    have hV : VC Bo K L Mb M_84 ha Xv Yv := by rw [sM_84]; exact hV.same hW iH (SAME.sF0 hM81 rfl)
    have hs_85 : RFc (M_84 (rA 2 M_84 ha 8)) di = some oa := by rw [sM_84, rA_c (cVt_sF hM81 2 _ 8 (Or.inl (by decide))), RFc_sF]; exact hs
    have hP : va_P D vwCl ([] ++ va_pl L M_84) H_83 := by rw [eM_84]; exact hP
    have hD : va_D A ([] ++ va_pl L M_84) := by rw [eM_84]; exact hD
    have hW : WOK cy K L M_84 := by rw [eM_84]; exact hW.up_9 hb_80 ⟨v81_0, v81_1, v81_2, v81_3, v81_4, v81_5, v81_6, v81_7, v81_8, f_82, v81_10, v81_11, v81_12, v81_13, v81_14, v81_15, rfl, h81_0, h81_1, h81_4, h81_8⟩
    have hF : fr K L [9] M M_84 := by rw [eM_84]; exact hF.up hb_80 (by decide)
    have hT9 : fT 9 K L [6, 9, 10, 13, 14] M M_84 := by rw [eM_84]; exact hT9.up (i := 9) hM81 rfl (by decide)
    have hM_86 : M_84 b_8 = (b9_9 (nI v81_0) v81_1 v81_2 v81_3 v81_4 v81_5 v81_6 v81_7 v81_8 f_82 v81_10 v81_11 v81_12 v81_13 v81_14 v81_15) := by rw [eM_84]; exact va_up_self _ _ _
    obtain ⟨x_87, hM_88⟩ : ∃ x : Int64, M_84 oa = (b9_9 (nI y0) y1 y2 y3 y4 y5 y6 y7 (some b_8) x y10 y11 y12 y13 y14 y15) := by
      rw [eM_84]
      rcases up_same (v := .long f_82) (j := 9) hM81 hMy with h | h
      · exact ⟨f_82, h⟩
      · exact ⟨y9, h⟩
    refine lv_aload_n hx hb dX9_payOut_23 rfl (lv_at hl 0 rfl) ?_
    refine pg_get (D := D) (ci := 9) (v := va_rf (some b_8)) (C := RX9) (T := TX9) (N := 16) hx hb hg inG9 hown hK hP ia.1 hM_88 rfl 8 (by decide) (hg _ wd_25) (fun _ h9 => h9) rfl dX9_payOut_24 ?_
    refine lv_dup hx hb dX9_payOut_27 rfl ?_
    refine pg_get (D := D) (ci := 9) (v := .long v81_10) (C := RX9) (T := TX9) (N := 16) hx hb hg inG9 hown hK hP hb_80.1 hM_86 rfl 10 (by decide) (hg _ wd_17) (fun _ h9 => h9) rfl dX9_payOut_28 ?_
    refine lv_aload_n hx hb dX9_payOut_31 rfl (lv_at hl 0 rfl) ?_
    refine pg_get (D := D) (ci := 9) (v := .long y10) (C := RX9) (T := TX9) (N := 16) hx hb hg inG9 hown hK hP ia.1 hM_88 rfl 10 (by decide) (hg _ wd_17) (fun _ h9 => h9) rfl dX9_payOut_32 ?_
    refine lv_ladd hx hb dX9_payOut_35 ?_
    refine lv_topl (fun f_89 ef_89 => ?_)
    refine pg_put (D := D) (ci := 9) (v := .long f_89) (ty := .long) (C := RX9) (T := TX9) (N := 16) hx hb hg inG9 tyX9 tyX9_ok nmX9 hown hK hP hD hS hb_80.1 hM_86 rfl 10 (by decide) (hg _ wd_17) (fun _ h9 => h9) rfl (by decide +kernel) rfl rfl (Nat.le_of_ble_eq_true rfl) dX9_payOut_36 (fun H_90 locs hP hD hS => ?_)
    obtain ⟨M_91, eM_91⟩ : ∃ M1 : Hp, M1 = va_up M_84 b_8 ((b9_9 (nI v81_0) v81_1 v81_2 v81_3 v81_4 v81_5 v81_6 v81_7 v81_8 f_82 f_89 v81_11 v81_12 v81_13 v81_14 v81_15)) := ⟨_, rfl⟩
    have sM_91 : M_91 = sF M_84 b_8 10 (.long f_89) := eM_91.trans (sF_of (j := 10) (v := .long f_89) hM_86 rfl)
    have hV : VC Bo K L Mb M_91 ha Xv Yv := by rw [sM_91]; exact hV.same hW iH (SAME.sF0 hM_86 rfl)
    have hs_92 : RFc (M_91 (rA 2 M_91 ha 8)) di = some oa := by rw [sM_91, rA_c (cVt_sF hM_86 2 _ 8 (Or.inl (by decide))), RFc_sF]; exact hs_85
    have hP : va_P D vwCl ([] ++ va_pl L M_91) H_90 := by rw [eM_91]; exact hP
    have hD : va_D A ([] ++ va_pl L M_91) := by rw [eM_91]; exact hD
    have hW : WOK cy K L M_91 := by rw [eM_91]; exact hW.up_9 hb_80 ⟨v81_0, v81_1, v81_2, v81_3, v81_4, v81_5, v81_6, v81_7, v81_8, f_82, f_89, v81_11, v81_12, v81_13, v81_14, v81_15, rfl, h81_0, h81_1, h81_4, h81_8⟩
    have hF : fr K L [9] M M_91 := by rw [eM_91]; exact hF.up hb_80 (by decide)
    have hT9 : fT 9 K L [6, 9, 10, 13, 14] M M_91 := by rw [eM_91]; exact hT9.up (i := 10) hM_86 rfl (by decide)
    have hM_93 : M_91 b_8 = (b9_9 (nI v81_0) v81_1 v81_2 v81_3 v81_4 v81_5 v81_6 v81_7 v81_8 f_82 f_89 v81_11 v81_12 v81_13 v81_14 v81_15) := by rw [eM_91]; exact va_up_self _ _ _
    obtain ⟨x_94, hM_95⟩ : ∃ x : Int64, M_91 oa = (b9_9 (nI y0) y1 y2 y3 y4 y5 y6 y7 (some b_8) x_87 x y11 y12 y13 y14 y15) := by
      rw [eM_91]
      rcases up_same (v := .long f_89) (j := 10) hM_86 hM_88 with h | h
      · exact ⟨f_89, h⟩
      · exact ⟨y10, h⟩
    refine lv_aload_n hx hb dX9_payOut_39 rfl (lv_at hl 0 rfl) ?_
    refine lv_lconst (v := 0) hx hb dX9_payOut_40 (by decide) ?_
    refine pg_put (D := D) (ci := 9) (v := .long 0) (ty := .long) (C := RX9) (T := TX9) (N := 16) hx hb hg inG9 tyX9 tyX9_ok nmX9 hown hK hP hD hS ia.1 hM_95 rfl 9 (by decide) (hg _ wd_16) (fun _ h9 => h9) rfl (by decide +kernel) rfl rfl (Nat.le_of_ble_eq_true rfl) dX9_payOut_41 (fun H_96 locs hP hD hS => ?_)
    obtain ⟨M_97, eM_97⟩ : ∃ M1 : Hp, M1 = va_up M_91 oa ((b9_9 (nI y0) y1 y2 y3 y4 y5 y6 y7 (some b_8) 0 x_94 y11 y12 y13 y14 y15)) := ⟨_, rfl⟩
    have sM_97 : M_97 = sF M_91 oa 9 (.long 0) := eM_97.trans (sF_of (j := 9) (v := .long 0) hM_95 rfl)
    have hV : VC Bo K L Mb M_97 ha Xv Yv := by rw [sM_97]; exact hV.same hW iH (SAME.sF0 hM_95 rfl)
    have hs_98 : RFc (M_97 (rA 2 M_97 ha 8)) di = some oa := by rw [sM_97, rA_c (cVt_sF hM_95 2 _ 8 (Or.inl (by decide))), RFc_sF]; exact hs_92
    have hP : va_P D vwCl ([] ++ va_pl L M_97) H_96 := by rw [eM_97]; exact hP
    have hD : va_D A ([] ++ va_pl L M_97) := by rw [eM_97]; exact hD
    have hW : WOK cy K L M_97 := by rw [eM_97]; exact hW.up_9 ia ⟨y0, y1, y2, y3, y4, y5, y6, y7, (some b_8), 0, x_94, y11, y12, y13, y14, y15, rfl, hy0, hy1, hy4, hy8⟩
    have hF : fr K L [9] M M_97 := by rw [eM_97]; exact hF.up ia (by decide)
    have hT9 : fT 9 K L [6, 9, 10, 13, 14] M M_97 := by rw [eM_97]; exact hT9.up (i := 9) hM_95 rfl (by decide)
    have hM_99 : M_97 oa = (b9_9 (nI y0) y1 y2 y3 y4 y5 y6 y7 (some b_8) 0 x_94 y11 y12 y13 y14 y15) := by rw [eM_97]; exact va_up_self _ _ _
    obtain ⟨x_100, hM_101⟩ : ∃ x : Int64, M_97 b_8 = (b9_9 (nI v81_0) v81_1 v81_2 v81_3 v81_4 v81_5 v81_6 v81_7 v81_8 x f_89 v81_11 v81_12 v81_13 v81_14 v81_15) := by
      rw [eM_97]
      rcases up_same (v := .long 0) (j := 9) hM_95 hM_93 with h | h
      · exact ⟨0, h⟩
      · exact ⟨f_82, h⟩
    refine lv_aload_n hx hb dX9_payOut_44 rfl (lv_at hl 0 rfl) ?_
    refine lv_lconst (v := 0) hx hb dX9_payOut_45 (by decide) ?_
    refine pg_put (D := D) (ci := 9) (v := .long 0) (ty := .long) (C := RX9) (T := TX9) (N := 16) hx hb hg inG9 tyX9 tyX9_ok nmX9 hown hK hP hD hS ia.1 hM_99 rfl 10 (by decide) (hg _ wd_17) (fun _ h9 => h9) rfl (by decide +kernel) rfl rfl (Nat.le_of_ble_eq_true rfl) dX9_payOut_46 (fun H_102 locs hP hD hS => ?_)
    obtain ⟨M_103, eM_103⟩ : ∃ M1 : Hp, M1 = va_up M_97 oa ((b9_9 (nI y0) y1 y2 y3 y4 y5 y6 y7 (some b_8) 0 0 y11 y12 y13 y14 y15)) := ⟨_, rfl⟩
    have sM_103 : M_103 = sF M_97 oa 10 (.long 0) := eM_103.trans (sF_of (j := 10) (v := .long 0) hM_99 rfl)
    have hV : VC Bo K L Mb M_103 ha Xv Yv := by rw [sM_103]; exact hV.same hW iH (SAME.sF0 hM_99 rfl)
    have hs_104 : RFc (M_103 (rA 2 M_103 ha 8)) di = some oa := by rw [sM_103, rA_c (cVt_sF hM_99 2 _ 8 (Or.inl (by decide))), RFc_sF]; exact hs_98
    have hP : va_P D vwCl ([] ++ va_pl L M_103) H_102 := by rw [eM_103]; exact hP
    have hD : va_D A ([] ++ va_pl L M_103) := by rw [eM_103]; exact hD
    have hW : WOK cy K L M_103 := by rw [eM_103]; exact hW.up_9 ia ⟨y0, y1, y2, y3, y4, y5, y6, y7, (some b_8), 0, 0, y11, y12, y13, y14, y15, rfl, hy0, hy1, hy4, hy8⟩
    have hF : fr K L [9] M M_103 := by rw [eM_103]; exact hF.up ia (by decide)
    have hT9 : fT 9 K L [6, 9, 10, 13, 14] M M_103 := by rw [eM_103]; exact hT9.up (i := 10) hM_99 rfl (by decide)
    have hM_105 : M_103 oa = (b9_9 (nI y0) y1 y2 y3 y4 y5 y6 y7 (some b_8) 0 0 y11 y12 y13 y14 y15) := by rw [eM_103]; exact va_up_self _ _ _
    obtain ⟨x_106, hM_107⟩ : ∃ x : Int64, M_103 b_8 = (b9_9 (nI v81_0) v81_1 v81_2 v81_3 v81_4 v81_5 v81_6 v81_7 v81_8 x_100 x v81_11 v81_12 v81_13 v81_14 v81_15) := by
      rw [eM_103]
      rcases up_same (v := .long 0) (j := 10) hM_99 hM_101 with h | h
      · exact ⟨0, h⟩
      · exact ⟨f_89, h⟩
    rw [hQ]
    exact W.vret hx hb hr (fun t ht hW9 => ⟨⟨M_103, rfl, ⟨hW, hF, hT9, (by rw [insC_n (fun w => by have w1 := w.1; rw [h25] at w1; have w2 : (cV 9 M b_8 0).toInt = -1 := w1; omega), updI, va_upI]; exact hV), trivial⟩, ⟨by rw [ht]; exact hP, hD⟩⟩, hS.F ht⟩) hS.2.2 dX9_payOut_49
