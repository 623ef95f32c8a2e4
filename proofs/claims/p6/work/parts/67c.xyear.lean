theorem insK {g : Nat → Int32} {Y : Nat → Nat → Int32} {e : Int} {n : Nat} (h : ∀ i : Nat, i < n → g i = insE Y e i) (h2 : ∀ i : Nat, n ≤ i → g i = Y 23 i) (q : insE Y e n = Y 23 n) : ∀ i : Nat, i < n + 1 → g i = insE Y e i := fun i hi => by
  by_cases z : i = n
  · rw [z, q]
    exact h2 n (Nat.le_refl _)
  · exact h i (by omega)
theorem insU {g : Nat → Int32} {Y : Nat → Nat → Int32} {e : Int} {n : Nat} {v : Int32} (h : ∀ i : Nat, i < n → g i = insE Y e i) (q : insE Y e n = v) : ∀ i : Nat, i < n + 1 → upd g n v i = insE Y e i := fun i hi => by
  by_cases z : i = n
  · rw [z, upd_self, q]
  · rw [upd_ne _ _ z]
    exact h i (by omega)
theorem insW {g : Nat → Int32} {Y : Nat → Nat → Int32} {n : Nat} {v : Int32} (h : ∀ i : Nat, n ≤ i → g i = Y 23 i) : ∀ i : Nat, n + 1 ≤ i → upd g n v i = Y 23 i := fun i hi => by
  rw [upd_ne _ _ (by omega)]
  exact h i (by omega)
set_option maxHeartbeats 4000000 in
set_option maxRecDepth 100000 in
theorem e_handOver (l : Launch) (D : va_G) (cy : Nat → ClassId) (K : Kp) (L : List Nat) (M : Hp) (sz : Nat) (oa : Nat) (ha : Nat) (k2 : Int32) (Bo : Nat → Nat × Nat) (Mb : Hp) (Xv : Nat → Int) (Yv : Nat → Nat → Int32) (hW : WOK cy K L M) (ia : isk K L oa 0 0) (iH : isk K L ha 2 0) (hV : VC Bo K L Mb M ha Xv Yv) (hk2 : (0 ≤ k2.toInt ∧ k2.toInt < 1000)) (hn28 : (∀ i : Nat, (i : Int) < Xv 10 → Yv 28 i = 1)) : Met l yX0_handOver (wsM yX0_handOver cX0_handOver 5 none) ({ frames := 2, cells := 0, slots := 0, locals := 44 }) (va_Pc [.ref oa, .ref ha, .int k2] (PG D cy [] L M sz)) (va_Qv (fun (M9 : Hp) => WOK cy K L M9 ∧ fr K L [2, 9, 67] M M9 ∧ fT 2 K L [14] M M9 ∧ fT 9 K L [6, 9, 10, 13, 14] M M9 ∧ (∃ g9 : Nat → Int32, (∀ i : Nat, (i : Int) < Xv 10 → g9 i = insE Yv k2.toInt i) ∧ VC Bo K L Mb M9 ha Xv (va_up Yv 23 g9)) ∧ (True)) (fun M9 t => PQ D [] L M9 (va_A ([] ++ va_pl L M) sz) t) (va_A ([] ++ va_pl L M) sz)) 0 0 (va_A ([] ++ va_pl L M) sz) := by
  refine Met.ofW (cc := cX0_handOver) (maxL := 5) (ret := none) (by decide) rfl ?_
  intro p e s m args below meth c s₁ B hml hv
  obtain ⟨rfl, hsz, hP, hK, hD0, hN⟩ := hv
  have hx := B.exec
  have hb := B.bytes
  have hr := B.returns
  have hts := atoms_spec (ws := (wsM yX0_handOver cX0_handOver 5 none)) B.pre
  have hg : ∀ w ∈ lw_good, w.before _ s = true := fun w h => hts w (List.mem_cons_of_mem _ h)
  have hown : s.vm.findClass RX0 = some m.cls := findClass_of_methodNamed B.named
  have hlocks := B.notSynchronized
  subst hsz
  have hD := hD0.self (sz := s.heap.size)
  generalize hAe : va_A ([] ++ va_pl L M) s.heap.size = A at hD ⊢
  have hA : ∀ q : Nat, s.heap.size ≤ q → A q := fun q h => by rw [← hAe]; exact Or.inr h
  have hS : va_S A s.heap s.heap [] := va_S.rf
  have hl := lv_entry ([.ref oa, .ref ha, .int k2]) (n := 5) (Nat.le_of_ble_eq_true rfl)
  rw [lg_entry_eq]
  generalize (lg_sl ([.ref oa, .ref ha, .int k2]) ++ List.replicate (5 - (lg_sl ([.ref oa, .ref ha, .int k2])).length) Slot.unset).toArray = ls at hl ⊢
  refine W.nameQ (fun Q hQ => ?_)
  refine W.nameR (fun R hR => ?_)
  have hRf : 2 ≤ R.frames := by rw [hR]; exact Nat.le_of_ble_eq_true rfl
  have hRl : 44 ≤ R.locals := by rw [hR]; exact Nat.le_of_ble_eq_true rfl
  have hRc : 0 ≤ R.cells := by rw [hR]; exact Nat.le_of_ble_eq_true rfl
  have hRs : 0 ≤ R.slots := by rw [hR]; exact Nat.le_of_ble_eq_true rfl
  have hF : fr K L [2, 9, 67] M M := fr.rf
  have hT2 : fT 2 K L [14] M M := fT.rf
  have hT9 : fT 9 K L [6, 9, 10, 13, 14] M M := fT.rf
  have hl : lv_has ls 5 [(0, .ref oa), (1, .ref ha), (2, .int k2)] := hl
  refine lv_iconst (v := 0) hx hb dX0_handOver_0 (by decide) ?_
  refine lv_istore_n (lv' := [(3, .int 0), (0, .ref oa), (1, .ref ha), (2, .int k2)]) hx hb dX0_handOver_1 rfl hl (by decide) rfl (fun ls hl => ?_)
  have key_1 : ∀ (fu_3 : Nat) (v3w4 : Nat) (M_6 : Hp) (H_7 : Heap) (locs : List Loc) (ls : Array Slot), 24 - v3w4 < fu_3 → v3w4 ≤ 24 → WOK cy K L M_6 → fr K L [2, 9, 67] M M_6 → fT 2 K L [14] M M_6 → fT 9 K L [6, 9, 10, 13, 14] M M_6 → VC Bo K L Mb M_6 ha Xv Yv → va_P D vwCl ([] ++ va_pl L M_6) H_7 → va_D A ([] ++ va_pl L M_6) → va_S A s.heap H_7 locs → lv_has ls 5 [(3, .int (nI v3w4)), (0, .ref oa), (1, .ref ha), (2, .int k2)] → W p l e R s m ([.ref oa, .ref ha, .int k2] : List Value).toArray below meth c H_7 locs 0 0 Q (F0 m 2 ls []) := by
    intro fu_3
    induction fu_3 with
    | zero => intro v3w4 M_6 H_7 locs ls h; exact absurd h (Nat.not_lt_zero _)
    | succ fu_3 ih_2 =>
      intro v3w4 M_6 H_7 locs ls hfu hx_5 hW hF hT2 hT9 hV hP hD hS hl
      refine lv_iload_n hx hb dX0_handOver_2 rfl (lv_at hl 0 rfl) ?_
      refine lv_aload_n hx hb dX0_handOver_3 rfl (lv_at hl 2 rfl) ?_
      obtain ⟨v8_0, v8_1, v8_2, v8_3, v8_4, v8_5, v8_6, v8_7, v8_8, v8_9, v8_10, v8_11, v8_12, v8_13, v8_14, v8_15, v8_16, v8_17, v8_18, v8_19, hM8, h8_3, h8_4, h8_5, h8_6, h8_7, h8_8, h8_9, h8_10, h8_11, h8_12, h8_13, h8_16, h8_17, h8_18, h8_19⟩ := hW.open_2 iH
      refine pg_get (D := D) (ci := 2) (v := .int (nI v8_9)) (C := RX2) (T := TX2) (N := 20) hx hb hg inG2 hown hK hP iH.1 hM8 rfl 9 (by decide) (hg _ wd_278) (fun _ h9 => h9) rfl dX0_handOver_4 ?_
      refine lv_icmp_ge (tgt := 56) hx hb dX0_handOver_7 (by decide) (fun c_9 => ?_) (fun c_9 => ?_)
      · have hz := rfl (a := 0)
        have n_10 : v8_9 ≤ v3w4 := (iLE (a := v8_9) (b := v3w4) (by omega) (by omega)).mp c_9
        refine lv_iconst (v := 0) hx hb dX0_handOver_56 (by decide) ?_
        refine lv_istore_n (lv' := [(3, .int 0), (0, .ref oa), (1, .ref ha), (2, .int k2)]) hx hb dX0_handOver_57 rfl hl (by decide) rfl (fun ls hl => ?_)
        have key_11 : ∀ (fu_13 : Nat) (v3w14 : Nat) (gw14 : Nat → Int32) (M_18 : Hp) (H_19 : Heap) (locs : List Loc) (ls : Array Slot), 24 - v3w14 < fu_13 → v3w14 ≤ 24 → (∀ i : Nat, i < v3w14 → gw14 i = insE Yv k2.toInt i) → (∀ i : Nat, v3w14 ≤ i → gw14 i = Yv 23 i) → WOK cy K L M_18 → fr K L [2, 9, 67] M M_18 → fT 2 K L [14] M M_18 → fT 9 K L [6, 9, 10, 13, 14] M M_18 → VC Bo K L Mb M_18 ha Xv (va_up Yv 23 gw14) → va_P D vwCl ([] ++ va_pl L M_18) H_19 → va_D A ([] ++ va_pl L M_18) → va_S A s.heap H_19 locs → lv_has ls 5 [(3, .int (nI v3w14)), (0, .ref oa), (1, .ref ha), (2, .int k2)] → W p l e R s m ([.ref oa, .ref ha, .int k2] : List Value).toArray below meth c H_19 locs 0 0 Q (F0 m 58 ls []) := by
          intro fu_13
          induction fu_13 with
          | zero => intro v3w14 gw14 M_18 H_19 locs ls h; exact absurd h (Nat.not_lt_zero _)
          | succ fu_13 ih_12 =>
            intro v3w14 gw14 M_18 H_19 locs ls hfu hx_15 hx_16 hx_17 hW hF hT2 hT9 hV hP hD hS hl
            refine lv_iload_n hx hb dX0_handOver_58 rfl (lv_at hl 0 rfl) ?_
            refine lv_aload_n hx hb dX0_handOver_59 rfl (lv_at hl 2 rfl) ?_
            obtain ⟨v20_0, v20_1, v20_2, v20_3, v20_4, v20_5, v20_6, v20_7, v20_8, v20_9, v20_10, v20_11, v20_12, v20_13, v20_14, v20_15, v20_16, v20_17, v20_18, v20_19, hM20, h20_3, h20_4, h20_5, h20_6, h20_7, h20_8, h20_9, h20_10, h20_11, h20_12, h20_13, h20_16, h20_17, h20_18, h20_19⟩ := hW.open_2 iH
            have hc9 : ((v20_9 : Nat) : Int) = Xv 10 := by have h9 : (cV 2 M_18 ha 9).toInt = Xv 10 := congrFun hV.2.1 10; rw [cV_of (j := 9) hM20 rfl, nI_toInt (by omega)] at h9; exact h9
            refine pg_get (D := D) (ci := 2) (v := .int (nI v20_9)) (C := RX2) (T := TX2) (N := 20) hx hb hg inG2 hown hK hP iH.1 hM20 rfl 9 (by decide) (hg _ wd_278) (fun _ h9 => h9) rfl dX0_handOver_60 ?_
            refine lv_icmp_ge (tgt := 108) hx hb dX0_handOver_63 (by decide) (fun c_21 => ?_) (fun c_21 => ?_)
            · have hz := rfl (a := 0)
              have n_22 : v20_9 ≤ v3w14 := (iLE (a := v20_9) (b := v3w14) (by omega) (by omega)).mp c_21
              have hI_23 : ((v8_9 : Nat) : Int) ≤ ((v3w4 : Nat) : Int) := ileI (nI_toInt (by omega)) (nI_toInt (by omega)) c_9
              have hI_24 : ((v20_9 : Nat) : Int) ≤ ((v3w14 : Nat) : Int) := ileI (nI_toInt (by omega)) (nI_toInt (by omega)) c_21
              rw [hQ]
              exact W.vret hx hb hr (fun t ht hW9 => ⟨⟨M_18, rfl, ⟨hW, hF, hT2, hT9, ⟨_, (fun i hi => hx_16 i (by omega)), hV⟩, trivial⟩, ⟨by rw [ht]; exact hP, hD⟩⟩, hS.F ht⟩) hS.2.2 dX0_handOver_108
            · have hz := rfl (a := 0)
              have n_25 : ¬ (v20_9 ≤ v3w14) := fun q => c_21 ((iLE (a := v20_9) (b := v3w14) (by omega) (by omega)).mpr q)
              refine lv_aload_n hx hb dX0_handOver_66 rfl (lv_at hl 2 rfl) ?_
              refine lv_iload_n hx hb dX0_handOver_67 rfl (lv_at hl 0 rfl) ?_
              have hPc : va_P D vwCl ([] ++ va_pl L M_18) H_19 := hP
              have hDc : va_D A ([] ++ va_pl L M_18) := hD
              have hFc : ∀ q, va_A ([] ++ va_pl L M_18) H_19.size q → A q := pg_free hDc hS hA
              refine va_callq (va_runV (As := [.int (nI v3w14)]) (rest := []) ⟨hx, hb, hml, hown, hg⟩ (e_X2_tenureAt l D cy K L M_18 H_19.size ha (nI v3w14)  hW iH) (cwV 1 hg (gV wd_279 wd_55 wd_56 wd_57 wd_58) rfl rfl rfl (by decide +kernel) ⟨(Nat.le_trans (Nat.le_of_ble_eq_true rfl) hRf), (Nat.le_trans (Nat.le_of_ble_eq_true rfl) hRl)⟩) ⟨PG.blind, pg_recv hK hP iH.1 hM20 rfl, fun U hU hW => ⟨rfl, PG.at hPc hK hDc hN hU hW⟩⟩ rfl rfl hl.1 rfl (lv_room (Nat.le_of_ble_eq_true rfl)) dX0_handOver_68 ⟨(Nat.le_trans (Nat.le_of_ble_eq_true rfl) hRc), (Nat.le_trans (Nat.le_of_ble_eq_true rfl) hRs)⟩) hS (fun q _ h => hFc q h) hFc (fun r_27 M_28 t H_26 locs ht hvm hw hB hz1 hk1 hS => ?_)
              have hp_29 := hw
              obtain ⟨hP1, hD1⟩ := hB
              rw [ht] at hP1
              have hP : va_P D vwCl ([] ++ va_pl L M_18) H_26 := hP1
              have hD : va_D A ([] ++ va_pl L M_18) := hD1.mono hFc
              obtain ⟨hp_29, hqx⟩ := hp_29
              rcases r_27 with _ | b_30
              · have hz := rfl (a := 0)
                have hc28 : cax M_18 ha 28 v3w14 = 1 := by rw [hV.2.2.1]; exact hn28 v3w14 (by omega)
                have hcc : (cV 2 M_18 ha 9).toInt = Xv 10 := congrFun hV.2.1 10
                exfalso
                rcases hqx.2 rfl with q9 | q9
                · exact q9 (by rw [nI_toInt (by omega)]; omega)
                · rw [nI_cl (by omega)] at q9
                  rw [tn0 q9 (by omega)] at hc28
                  exact absurd hc28 (by decide)
              · have hb_31 := hp_29 b_30 rfl
                have hc28 : cax M_18 ha 28 v3w14 = 1 := by rw [hV.2.2.1]; exact hn28 v3w14 (by omega)
                have hcc : (cV 2 M_18 ha 9).toInt = Xv 10 := congrFun hV.2.1 10
                obtain ⟨_, hst⟩ := hqx.1 _ rfl
                rw [nI_cl (by omega)] at hst
                have htn : v3w14 < 24 := by omega
                have hlt := lk_te hst htn
                rw [hV.2.2.1] at hlt
                have h22 : Yv 22 v3w14 = cV 9 M_18 b_30 5 := hlt.2.2.2.1
                have h22i := congrArg Int32.toInt h22
                refine lv_astore (lv' := [(4, .ref b_30), (3, .int (nI v3w14)), (0, .ref oa), (1, .ref ha), (2, .int k2)]) hx hb dX0_handOver_71 hl (by decide) rfl (fun ls hl => ?_)
                refine lv_aload hx hb dX0_handOver_73 (lv_at hl 0 rfl) ?_
                refine lv_ifnull hx hb dX0_handOver_75 ?_
                refine lv_aload hx hb dX0_handOver_78 (lv_at hl 0 rfl) ?_
                obtain ⟨v32_0, v32_1, v32_2, v32_3, v32_4, v32_5, v32_6, v32_7, v32_8, v32_9, v32_10, v32_11, v32_12, v32_13, v32_14, v32_15, hM32, h32_0, h32_1, h32_4, h32_8⟩ := hW.open_9 hb_31
                have hPc : va_P D vwCl ([] ++ va_pl L M_18) H_26 := hP
                have hDc : va_D A ([] ++ va_pl L M_18) := hD
                have hFc : ∀ q, va_A ([] ++ va_pl L M_18) H_26.size q → A q := pg_free hDc hS hA
                refine va_calli (va_runV (As := []) (rest := []) ⟨hx, hb, hml, hown, hg⟩ (e_X9_hasEnded l D cy K L M_18 H_26.size b_30  hW hb_31) (cwV 0 hg (gV wd_285 wd_50 wd_51 wd_52 wd_53) rfl rfl rfl (by decide +kernel) ⟨(Nat.le_trans (Nat.le_of_ble_eq_true rfl) hRf), (Nat.le_trans (Nat.le_of_ble_eq_true rfl) hRl)⟩) ⟨PG.blind, pg_recv hK hP hb_31.1 hM32 rfl, fun U hU hW => ⟨rfl, PG.at hPc hK hDc hN hU hW⟩⟩ rfl rfl hl.1 rfl (lv_room (Nat.le_of_ble_eq_true rfl)) dX0_handOver_80 ⟨(Nat.le_trans (Nat.le_of_ble_eq_true rfl) hRc), (Nat.le_trans (Nat.le_of_ble_eq_true rfl) hRs)⟩) hS (fun q _ h => hFc q h) hFc (fun r_34 M_35 t H_33 locs ht hvm hw hB hz1 hk1 hS => ?_)
                have hp_36 := hw
                obtain ⟨hP1, hD1⟩ := hB
                rw [ht] at hP1
                have hP : va_P D vwCl ([] ++ va_pl L M_18) H_33 := hP1
                have hD : va_D A ([] ++ va_pl L M_18) := hD1.mono hFc
                rcases hp_36 with ⟨rfl, c_37⟩ | ⟨rfl, c_38⟩
                · have hz := rfl (a := 0)
                  refine lv_if_eq (tgt := 102) hx hb dX0_handOver_83 (by decide) (fun c_39 => absurd c_39 (by decide)) (fun _ => ?_)
                  refine lv_aload hx hb dX0_handOver_86 (lv_at hl 0 rfl) ?_
                  refine pg_get (D := D) (ci := 9) (v := .int v32_5) (C := RX9) (T := TX9) (N := 16) hx hb hg inG9 hown hK hP hb_31.1 hM32 rfl 5 (by decide) (hg _ wd_286) (fun _ h9 => h9) rfl dX0_handOver_88 ?_
                  refine lv_iload_n hx hb dX0_handOver_91 rfl (lv_at hl 4 rfl) ?_
                  refine lv_iconst (v := 1) hx hb dX0_handOver_92 (by decide) ?_
                  refine lv_iadd hx hb dX0_handOver_93 ?_
                  refine lv_topi (fun f_40 ef_40 => ?_)
                  refine lv_icmp_gt (tgt := 102) hx hb dX0_handOver_94 (by decide) (fun c_41 => ?_) (fun c_41 => ?_)
                  · have hz := rfl (a := 0)
                    have hA_42 : (cV 2 M_18 ha 0).toInt = (v20_0 : Int32).toInt := by rw [cV_of hM20 rfl]
                    have hA_43 : (cV 2 M_18 ha 1).toInt = (v20_1 : Int32).toInt := by rw [cV_of hM20 rfl]
                    have hA_44 : (cV 2 M_18 ha 2).toInt = (v20_2 : Int32).toInt := by rw [cV_of hM20 rfl]
                    have hA_45 : (cV 2 M_18 ha 4).toInt = ((v20_4 : Nat) : Int) := by rw [cV_of hM20 rfl]; exact nI_toInt (by omega)
                    have hA_46 : (cV 2 M_18 ha 5).toInt = ((v20_5 : Nat) : Int) := by rw [cV_of hM20 rfl]; exact nI_toInt (by omega)
                    have hA_47 : (cV 2 M_18 ha 9).toInt = ((v20_9 : Nat) : Int) := by rw [cV_of hM20 rfl]; exact nI_toInt (by omega)
                    have hA_48 : (cV 2 M_18 ha 11).toInt = ((v20_11 : Nat) : Int) := by rw [cV_of hM20 rfl]; exact nI_toInt (by omega)
                    have hA_49 : (cV 2 M_18 ha 15).toInt = (v20_15 : Int32).toInt := by rw [cV_of hM20 rfl]
                    have hA_50 : (cV 9 M_18 b_30 0).toInt = ((v32_0 : Nat) : Int) := by rw [cV_of hM32 rfl]; exact nI_toInt (by omega)
                    have hA_51 : (cV 9 M_18 b_30 2).toInt = (v32_2 : Int32).toInt := by rw [cV_of hM32 rfl]
                    have hA_52 : (cV 9 M_18 b_30 3).toInt = (v32_3 : Int32).toInt := by rw [cV_of hM32 rfl]
                    have hA_53 : (cV 9 M_18 b_30 4).toInt = (v32_4 : Int32).toInt := by rw [cV_of hM32 rfl]
                    have hA_54 : (cV 9 M_18 b_30 5).toInt = (v32_5 : Int32).toInt := by rw [cV_of hM32 rfl]
                    have hA_55 : (cV 9 M_18 b_30 6).toInt = (v32_6 : Int32).toInt := by rw [cV_of hM32 rfl]
                    have hA_56 : (cV 9 M_18 b_30 7).toInt = (v32_7 : Int32).toInt := by rw [cV_of hM32 rfl]
                    have hI_57 : ((v8_9 : Nat) : Int) ≤ ((v3w4 : Nat) : Int) := ileI (nI_toInt (by omega)) (nI_toInt (by omega)) c_9
                    have hI_58 : ((v3w14 : Nat) : Int) < ((v20_9 : Nat) : Int) := inleI (nI_toInt (by omega)) (nI_toInt (by omega)) c_21
                    have hI_59 : (f_40 : Int32).toInt < (v32_5 : Int32).toInt := iltI rfl rfl c_41
                    have hI_60 : (f_40 : Int32).toInt = (k2 : Int32).toInt + (1 : Int) := iaddI rfl rfl ef_40 (by omega) (by omega)
                    have hins9 : insE Yv k2.toInt v3w14 = Yv 23 v3w14 := by unfold insE; exact if_neg (fun w => by have w1 := w.1; have w2 := w.2; omega)
                    refine lv_iinc (v := (nI (v3w14 + 1))) (lv' := [(3, .int (nI (v3w14 + 1))), (4, .ref b_30), (0, .ref oa), (1, .ref ha), (2, .int k2)]) hx hb dX0_handOver_102 hl (k := 1) rfl (nI_1 v3w14) (by decide) rfl (fun ls hl => ?_)
                    refine lv_goto (tgt := 58) hx hb dX0_handOver_105 (by decide) ?_
                    exact ih_12 (v3w14 + 1) gw14 M_18 H_33 _ _ (by omega) (by omega) (insK hx_16 hx_17 hins9) (fun i hi => hx_17 i (by omega)) hW hF hT2 hT9 hV hP hD hS (lv_sub hl [0, 2, 3, 4] rfl)
                  · have hz := rfl (a := 0)
                    have hA_61 : (cV 2 M_18 ha 0).toInt = (v20_0 : Int32).toInt := by rw [cV_of hM20 rfl]
                    have hA_62 : (cV 2 M_18 ha 1).toInt = (v20_1 : Int32).toInt := by rw [cV_of hM20 rfl]
                    have hA_63 : (cV 2 M_18 ha 2).toInt = (v20_2 : Int32).toInt := by rw [cV_of hM20 rfl]
                    have hA_64 : (cV 2 M_18 ha 4).toInt = ((v20_4 : Nat) : Int) := by rw [cV_of hM20 rfl]; exact nI_toInt (by omega)
                    have hA_65 : (cV 2 M_18 ha 5).toInt = ((v20_5 : Nat) : Int) := by rw [cV_of hM20 rfl]; exact nI_toInt (by omega)
                    have hA_66 : (cV 2 M_18 ha 9).toInt = ((v20_9 : Nat) : Int) := by rw [cV_of hM20 rfl]; exact nI_toInt (by omega)
                    have hA_67 : (cV 2 M_18 ha 11).toInt = ((v20_11 : Nat) : Int) := by rw [cV_of hM20 rfl]; exact nI_toInt (by omega)
                    have hA_68 : (cV 2 M_18 ha 15).toInt = (v20_15 : Int32).toInt := by rw [cV_of hM20 rfl]
                    have hA_69 : (cV 9 M_18 b_30 0).toInt = ((v32_0 : Nat) : Int) := by rw [cV_of hM32 rfl]; exact nI_toInt (by omega)
                    have hA_70 : (cV 9 M_18 b_30 2).toInt = (v32_2 : Int32).toInt := by rw [cV_of hM32 rfl]
                    have hA_71 : (cV 9 M_18 b_30 3).toInt = (v32_3 : Int32).toInt := by rw [cV_of hM32 rfl]
                    have hA_72 : (cV 9 M_18 b_30 4).toInt = (v32_4 : Int32).toInt := by rw [cV_of hM32 rfl]
                    have hA_73 : (cV 9 M_18 b_30 5).toInt = (v32_5 : Int32).toInt := by rw [cV_of hM32 rfl]
                    have hA_74 : (cV 9 M_18 b_30 6).toInt = (v32_6 : Int32).toInt := by rw [cV_of hM32 rfl]
                    have hA_75 : (cV 9 M_18 b_30 7).toInt = (v32_7 : Int32).toInt := by rw [cV_of hM32 rfl]
                    have hI_76 : ((v8_9 : Nat) : Int) ≤ ((v3w4 : Nat) : Int) := ileI (nI_toInt (by omega)) (nI_toInt (by omega)) c_9
                    have hI_77 : ((v3w14 : Nat) : Int) < ((v20_9 : Nat) : Int) := inleI (nI_toInt (by omega)) (nI_toInt (by omega)) c_21
                    have hI_78 : (v32_5 : Int32).toInt ≤ (f_40 : Int32).toInt := inltI rfl rfl c_41
                    have hI_79 : (f_40 : Int32).toInt = (k2 : Int32).toInt + (1 : Int) := iaddI rfl rfl ef_40 (by omega) (by omega)
                    refine lv_aload hx hb dX0_handOver_97 (lv_at hl 0 rfl) ?_
                    have hPc : va_P D vwCl ([] ++ va_pl L M_18) H_33 := hP
                    have hDc : va_D A ([] ++ va_pl L M_18) := hD
                    have hFc : ∀ q, va_A ([] ++ va_pl L M_18) H_33.size q → A q := pg_free hDc hS hA
                    refine va_callv (va_runV (As := []) (rest := []) ⟨hx, hb, hml, hown, hg⟩ (e_payOut l D cy K L M_18 H_33.size b_30 Bo Mb ha Xv (va_up Yv 23 gw14) v3w14 v32_0 v32_1 v32_2 v32_3 v32_4 v32_5 v32_6 v32_7 v32_8 v32_9 v32_10 v32_11 v32_12 v32_13 v32_14 v32_15 hW hb_31 iH hV hst htn hM32 h32_0 h32_1 h32_4 h32_8) (cwV 0 hg (gV wd_287 wd_288 wd_289 wd_52 wd_290) rfl rfl rfl (by decide +kernel) ⟨(Nat.le_trans (Nat.le_of_ble_eq_true rfl) hRf), (Nat.le_trans (Nat.le_of_ble_eq_true rfl) hRl)⟩) ⟨PG.blind, pg_recv hK hP hb_31.1 hM32 rfl, fun U hU hW => ⟨rfl, PG.at hPc hK hDc hN hU hW⟩⟩ rfl rfl hl.1 rfl (lv_room (Nat.le_of_ble_eq_true rfl)) dX0_handOver_99 ⟨(Nat.le_trans (Nat.le_of_ble_eq_true rfl) hRc), (Nat.le_trans (Nat.le_of_ble_eq_true rfl) hRs)⟩) hS (fun q _ h => hFc q h) hFc (fun M_82 t H_80 locs ht hvm hw hB hz1 hk1 hS => ?_)
                    have hWb := hW
                    obtain ⟨hW, hF2, gT9, hVP, hp_83⟩ := hw
                    obtain ⟨hP1, hD1⟩ := hB
                    rw [ht] at hP1
                    have hP : va_P D vwCl ([] ++ va_pl L M_82) H_80 := hP1
                    have hD : va_D A ([] ++ va_pl L M_82) := hD1.mono hFc
                    have hM_84 : M_82 ha = (b2_2 v20_0 v20_1 v20_2 v20_3 (nI v20_4) (nI v20_5) v20_6 v20_7 v20_8 (nI v20_9) v20_10 (nI v20_11) v20_12 v20_13 v20_14 v20_15 v20_16 v20_17 v20_18 v20_19) := (hF2.at iH (by decide)).trans hM20
                    have hF : fr K L [2, 9, 67] M M_82 := hF.tr hF2 (by decide)
                    have hT2 : fT 2 K L [14] M M_82 := hT2.frr hF2 (by decide)
                    have hT9 : fT 9 K L [6, 9, 10, 13, 14] M M_82 := hT9.tr gT9 (by decide)
                    have hV : VC Bo K L Mb M_82 ha Xv (va_up (va_up Yv 23 gw14) 23 (upd ((va_up Yv 23 gw14) 23) v3w14 (insC ((va_up Yv 23 gw14) 25 v3w14) ((va_up Yv 23 gw14) 23 v3w14)))) := hVP
                    have hs_85 : RFc (M_82 (rA 2 M_82 ha 8)) v3w14 = some b_30 := by rw [rA_c ((fr.cv hF2 (by decide)) _ iH 8 rfl), hF2.at (KH hWb iH).2.2.2.1 (by decide)]; exact hst
                    have hA_86 : (cV 2 M_82 ha 0).toInt = (v20_0 : Int32).toInt := by rw [cV_of hM_84 rfl]
                    have hA_87 : (cV 2 M_82 ha 1).toInt = (v20_1 : Int32).toInt := by rw [cV_of hM_84 rfl]
                    have hA_88 : (cV 2 M_82 ha 2).toInt = (v20_2 : Int32).toInt := by rw [cV_of hM_84 rfl]
                    have hA_89 : (cV 2 M_82 ha 4).toInt = ((v20_4 : Nat) : Int) := by rw [cV_of hM_84 rfl]; exact nI_toInt (by omega)
                    have hA_90 : (cV 2 M_82 ha 5).toInt = ((v20_5 : Nat) : Int) := by rw [cV_of hM_84 rfl]; exact nI_toInt (by omega)
                    have hA_91 : (cV 2 M_82 ha 9).toInt = ((v20_9 : Nat) : Int) := by rw [cV_of hM_84 rfl]; exact nI_toInt (by omega)
                    have hA_92 : (cV 2 M_82 ha 11).toInt = ((v20_11 : Nat) : Int) := by rw [cV_of hM_84 rfl]; exact nI_toInt (by omega)
                    have hA_93 : (cV 2 M_82 ha 15).toInt = (v20_15 : Int32).toInt := by rw [cV_of hM_84 rfl]
                    have hins9 : insE Yv k2.toInt v3w14 = insC (Yv 25 v3w14) (Yv 23 v3w14) := by unfold insE; exact if_pos ⟨by omega, by omega⟩
                    refine lv_iinc (v := (nI (v3w14 + 1))) (lv' := [(3, .int (nI (v3w14 + 1))), (4, .ref b_30), (0, .ref oa), (1, .ref ha), (2, .int k2)]) hx hb dX0_handOver_102 hl (k := 1) rfl (nI_1 v3w14) (by decide) rfl (fun ls hl => ?_)
                    refine lv_goto (tgt := 58) hx hb dX0_handOver_105 (by decide) ?_
                    exact ih_12 (v3w14 + 1) (upd gw14 v3w14 (insC (Yv 25 v3w14) (Yv 23 v3w14))) M_82 H_80 _ _ (by omega) (by omega) (insU hx_16 hins9) (insW hx_17) hW hF hT2 hT9 (by have h := hV; simp only [va_up_up] at h; rw [show (va_up Yv 23 gw14) 23 v3w14 = Yv 23 v3w14 from hx_17 v3w14 (Nat.le_refl _)] at h; exact h) hP hD hS (lv_sub hl [0, 2, 3, 4] rfl)
                · have hz := rfl (a := 0)
                  refine lv_if_eq (tgt := 102) hx hb dX0_handOver_83 (by decide) (fun _ => ?_) (fun c_94 => absurd c_94 (by decide))
                  have hA_95 : (cV 2 M_18 ha 0).toInt = (v20_0 : Int32).toInt := by rw [cV_of hM20 rfl]
                  have hA_96 : (cV 2 M_18 ha 1).toInt = (v20_1 : Int32).toInt := by rw [cV_of hM20 rfl]
                  have hA_97 : (cV 2 M_18 ha 2).toInt = (v20_2 : Int32).toInt := by rw [cV_of hM20 rfl]
                  have hA_98 : (cV 2 M_18 ha 4).toInt = ((v20_4 : Nat) : Int) := by rw [cV_of hM20 rfl]; exact nI_toInt (by omega)
                  have hA_99 : (cV 2 M_18 ha 5).toInt = ((v20_5 : Nat) : Int) := by rw [cV_of hM20 rfl]; exact nI_toInt (by omega)
                  have hA_100 : (cV 2 M_18 ha 9).toInt = ((v20_9 : Nat) : Int) := by rw [cV_of hM20 rfl]; exact nI_toInt (by omega)
                  have hA_101 : (cV 2 M_18 ha 11).toInt = ((v20_11 : Nat) : Int) := by rw [cV_of hM20 rfl]; exact nI_toInt (by omega)
                  have hA_102 : (cV 2 M_18 ha 15).toInt = (v20_15 : Int32).toInt := by rw [cV_of hM20 rfl]
                  have hA_103 : (cV 9 M_18 b_30 0).toInt = ((v32_0 : Nat) : Int) := by rw [cV_of hM32 rfl]; exact nI_toInt (by omega)
                  have hA_104 : (cV 9 M_18 b_30 2).toInt = (v32_2 : Int32).toInt := by rw [cV_of hM32 rfl]
                  have hA_105 : (cV 9 M_18 b_30 3).toInt = (v32_3 : Int32).toInt := by rw [cV_of hM32 rfl]
                  have hA_106 : (cV 9 M_18 b_30 4).toInt = (v32_4 : Int32).toInt := by rw [cV_of hM32 rfl]
                  have hA_107 : (cV 9 M_18 b_30 5).toInt = (v32_5 : Int32).toInt := by rw [cV_of hM32 rfl]
                  have hA_108 : (cV 9 M_18 b_30 6).toInt = (v32_6 : Int32).toInt := by rw [cV_of hM32 rfl]
                  have hA_109 : (cV 9 M_18 b_30 7).toInt = (v32_7 : Int32).toInt := by rw [cV_of hM32 rfl]
                  have hI_110 : ((v8_9 : Nat) : Int) ≤ ((v3w4 : Nat) : Int) := ileI (nI_toInt (by omega)) (nI_toInt (by omega)) c_9
                  have hI_111 : ((v3w14 : Nat) : Int) < ((v20_9 : Nat) : Int) := inleI (nI_toInt (by omega)) (nI_toInt (by omega)) c_21
                  have hins9 : insE Yv k2.toInt v3w14 = Yv 23 v3w14 := by unfold insE; exact if_neg (fun w => by have w1 := w.1; have w2 := w.2; omega)
                  refine lv_iinc (v := (nI (v3w14 + 1))) (lv' := [(3, .int (nI (v3w14 + 1))), (4, .ref b_30), (0, .ref oa), (1, .ref ha), (2, .int k2)]) hx hb dX0_handOver_102 hl (k := 1) rfl (nI_1 v3w14) (by decide) rfl (fun ls hl => ?_)
                  refine lv_goto (tgt := 58) hx hb dX0_handOver_105 (by decide) ?_
                  exact ih_12 (v3w14 + 1) gw14 M_18 H_33 _ _ (by omega) (by omega) (insK hx_16 hx_17 hins9) (fun i hi => hx_17 i (by omega)) hW hF hT2 hT9 hV hP hD hS (lv_sub hl [0, 2, 3, 4] rfl)
        exact key_11 (24 - 0 + 1) 0 (Yv 23) M_6 H_7 _ _ (by omega) (by omega) (fun i h => absurd h (Nat.not_lt_zero _)) (fun _ _ => rfl) hW hF hT2 hT9 (by rw [va_up_id]; exact hV) hP hD hS (lv_sub hl [0, 1, 2, 3] rfl)
      · have hz := rfl (a := 0)
        have n_112 : ¬ (v8_9 ≤ v3w4) := fun q => c_9 ((iLE (a := v8_9) (b := v3w4) (by omega) (by omega)).mpr q)
        refine lv_aload_n hx hb dX0_handOver_10 rfl (lv_at hl 2 rfl) ?_
        refine lv_iload_n hx hb dX0_handOver_11 rfl (lv_at hl 0 rfl) ?_
        have hPc : va_P D vwCl ([] ++ va_pl L M_6) H_7 := hP
        have hDc : va_D A ([] ++ va_pl L M_6) := hD
        have hFc : ∀ q, va_A ([] ++ va_pl L M_6) H_7.size q → A q := pg_free hDc hS hA
        refine va_callq (va_runV (As := [.int (nI v3w4)]) (rest := []) ⟨hx, hb, hml, hown, hg⟩ (e_X2_tenureAt l D cy K L M_6 H_7.size ha (nI v3w4)  hW iH) (cwV 1 hg (gV wd_279 wd_55 wd_56 wd_57 wd_58) rfl rfl rfl (by decide +kernel) ⟨(Nat.le_trans (Nat.le_of_ble_eq_true rfl) hRf), (Nat.le_trans (Nat.le_of_ble_eq_true rfl) hRl)⟩) ⟨PG.blind, pg_recv hK hP iH.1 hM8 rfl, fun U hU hW => ⟨rfl, PG.at hPc hK hDc hN hU hW⟩⟩ rfl rfl hl.1 rfl (lv_room (Nat.le_of_ble_eq_true rfl)) dX0_handOver_12 ⟨(Nat.le_trans (Nat.le_of_ble_eq_true rfl) hRc), (Nat.le_trans (Nat.le_of_ble_eq_true rfl) hRs)⟩) hS (fun q _ h => hFc q h) hFc (fun r_114 M_115 t H_113 locs ht hvm hw hB hz1 hk1 hS => ?_)
        have hp_116 := hw
        obtain ⟨hP1, hD1⟩ := hB
        rw [ht] at hP1
        have hP : va_P D vwCl ([] ++ va_pl L M_6) H_113 := hP1
        have hD : va_D A ([] ++ va_pl L M_6) := hD1.mono hFc
        obtain ⟨hp_116, hqx⟩ := hp_116
        rcases r_114 with _ | b_117
        · have hz := rfl (a := 0)
          refine lv_astoreN (lv' := [(4, .null), (3, .int (nI v3w4)), (0, .ref oa), (1, .ref ha), (2, .int k2)]) hx hb dX0_handOver_15 hl (by decide) rfl (fun ls hl => ?_)
          refine lv_aloadN hx hb dX0_handOver_17 (lv_at hl 0 rfl) ?_
          refine lv_ifnullN (tgt := 50) hx hb dX0_handOver_19 (by decide) ?_
          refine lv_iinc (v := (nI (v3w4 + 1))) (lv' := [(3, .int (nI (v3w4 + 1))), (4, .null), (0, .ref oa), (1, .ref ha), (2, .int k2)]) hx hb dX0_handOver_50 hl (k := 1) rfl (nI_1 v3w4) (by decide) rfl (fun ls hl => ?_)
          refine lv_goto (tgt := 2) hx hb dX0_handOver_53 (by decide) ?_
          exact ih_2 (v3w4 + 1) M_6 H_113 _ _ (by omega) (by omega) hW hF hT2 hT9 hV hP hD hS (lv_sub hl [0, 2, 3, 4] rfl)
        · have hb_118 := hp_116 b_117 rfl
          refine lv_astore (lv' := [(4, .ref b_117), (3, .int (nI v3w4)), (0, .ref oa), (1, .ref ha), (2, .int k2)]) hx hb dX0_handOver_15 hl (by decide) rfl (fun ls hl => ?_)
          refine lv_aload hx hb dX0_handOver_17 (lv_at hl 0 rfl) ?_
          refine lv_ifnull hx hb dX0_handOver_19 ?_
          refine lv_aload hx hb dX0_handOver_22 (lv_at hl 0 rfl) ?_
          obtain ⟨v119_0, v119_1, v119_2, v119_3, v119_4, v119_5, v119_6, v119_7, v119_8, v119_9, v119_10, v119_11, v119_12, v119_13, v119_14, v119_15, hM119, h119_0, h119_1, h119_4, h119_8⟩ := hW.open_9 hb_118
          refine pg_get (D := D) (ci := 9) (v := .ref v119_1) (C := RX9) (T := TX9) (N := 16) hx hb hg inG9 hown hK hP hb_118.1 hM119 rfl 1 (by decide) (hg _ wd_218) (fun _ h9 => h9) rfl dX0_handOver_24 ?_
          obtain ⟨v120_0, v120_1, v120_2, v120_3, hM120, h120_3⟩ := hW.open_4 h119_1
          refine pg_get (D := D) (ci := 4) (v := va_rf v120_3) (C := RX4) (T := TX4) (N := 4) hx hb hg inG4 hown hK hP h119_1.1 hM120 rfl 3 (by decide) (hg _ wd_291) (fun _ h9 => h9) rfl dX0_handOver_27 ?_
          rcases v120_3 with _ | b_121
          · have hz := rfl (a := 0)
            refine lv_ifnullN (tgt := 50) hx hb dX0_handOver_30 (by decide) ?_
            refine lv_iinc (v := (nI (v3w4 + 1))) (lv' := [(3, .int (nI (v3w4 + 1))), (4, .ref b_117), (0, .ref oa), (1, .ref ha), (2, .int k2)]) hx hb dX0_handOver_50 hl (k := 1) rfl (nI_1 v3w4) (by decide) rfl (fun ls hl => ?_)
            refine lv_goto (tgt := 2) hx hb dX0_handOver_53 (by decide) ?_
            exact ih_2 (v3w4 + 1) M_6 H_113 _ _ (by omega) (by omega) hW hF hT2 hT9 hV hP hD hS (lv_sub hl [0, 2, 3, 4] rfl)
          · have hb_122 := h120_3 b_121 rfl
            refine lv_ifnull hx hb dX0_handOver_30 ?_
            refine lv_aload hx hb dX0_handOver_33 (lv_at hl 0 rfl) ?_
            refine pg_get (D := D) (ci := 9) (v := .ref v119_1) (C := RX9) (T := TX9) (N := 16) hx hb hg inG9 hown hK hP hb_118.1 hM119 rfl 1 (by decide) (hg _ wd_218) (fun _ h9 => h9) rfl dX0_handOver_35 ?_
            refine pg_get (D := D) (ci := 4) (v := va_rf (some b_121)) (C := RX4) (T := TX4) (N := 4) hx hb hg inG4 hown hK hP h119_1.1 hM120 rfl 3 (by decide) (hg _ wd_291) (fun _ h9 => h9) rfl dX0_handOver_38 ?_
            refine lv_iload_n hx hb dX0_handOver_41 rfl (lv_at hl 4 rfl) ?_
            refine lv_aload hx hb dX0_handOver_42 (lv_at hl 0 rfl) ?_
            refine pg_get (D := D) (ci := 9) (v := .long v119_15) (C := RX9) (T := TX9) (N := 16) hx hb hg inG9 hown hK hP hb_118.1 hM119 rfl 15 (by decide) (hg _ wd_280) (fun _ h9 => h9) rfl dX0_handOver_44 ?_
            obtain ⟨v123_0, v123_1, v123_2, v123_3, v123_4, v123_5, v123_6, v123_7, v123_8, v123_9, v123_10, v123_11, v123_12, v123_13, v123_14, v123_15, v123_16, v123_17, v123_18, v123_19, hM123, h123_3, h123_4, h123_5, h123_6, h123_7, h123_8, h123_9, h123_10, h123_11, h123_12, h123_13, h123_16, h123_17, h123_18, h123_19⟩ := hW.open_2 hb_122
            have hPc : va_P D vwCl ([] ++ va_pl L M_6) H_113 := hP
            have hDc : va_D A ([] ++ va_pl L M_6) := hD
            have hFc : ∀ q, va_A ([] ++ va_pl L M_6) H_113.size q → A q := pg_free hDc hS hA
            refine va_callv (va_runV (As := [.int k2, .long v119_15]) (rest := []) ⟨hx, hb, hml, hown, hg⟩ (s_X2_receive l D cy K L M_6 H_113.size b_121 k2 v119_15  hW hb_122) (cwV 2 hg (gV wd_292 wd_293 wd_294 wd_57 wd_295) rfl rfl rfl (by decide +kernel) ⟨(Nat.le_trans (Nat.le_of_ble_eq_true rfl) hRf), (Nat.le_trans (Nat.le_of_ble_eq_true rfl) hRl)⟩) ⟨PG.blind, pg_recv hK hP hb_122.1 hM123 rfl, fun U hU hW => ⟨rfl, PG.at hPc hK hDc hN hU hW⟩⟩ rfl rfl hl.1 rfl (lv_room (Nat.le_of_ble_eq_true rfl)) dX0_handOver_47 ⟨(Nat.le_trans (Nat.le_of_ble_eq_true rfl) hRc), (Nat.le_trans (Nat.le_of_ble_eq_true rfl) hRs)⟩) hS (fun q _ h => hFc q h) hFc (fun M_126 t H_124 locs ht hvm hw hB hz1 hk1 hS => ?_)
            have hWb := hW
            obtain ⟨hW, hF2, gT2, hp_127⟩ := hw
            obtain ⟨hP1, hD1⟩ := hB
            rw [ht] at hP1
            have hP : va_P D vwCl ([] ++ va_pl L M_126) H_124 := hP1
            have hD : va_D A ([] ++ va_pl L M_126) := hD1.mono hFc
            have hM_128 : M_126 b_117 = (b9_9 (nI v119_0) v119_1 v119_2 v119_3 v119_4 v119_5 v119_6 v119_7 v119_8 v119_9 v119_10 v119_11 v119_12 v119_13 v119_14 v119_15) := (hF2.at hb_118 (by decide)).trans hM119
            have hM_129 : M_126 v119_1 = .inr (4, [.int v120_0, .int v120_1, .int v120_2, va_rf (some b_121)]) := (hF2.at h119_1 (by decide)).trans hM120
            have hF : fr K L [2, 9, 67] M M_126 := hF.tr hF2 (by decide)
            have hT2 : fT 2 K L [14] M M_126 := hT2.tr gT2 (by decide)
            have hT9 : fT 9 K L [6, 9, 10, 13, 14] M M_126 := hT9.frr hF2 (by decide)
            have hV : VC Bo K L Mb M_126 ha Xv Yv := hV.same hWb iH (SAME.fr (fT.cv (W2 hWb) gT2 (by decide)) (fr.cv hF2 (by decide)) (fr.cv hF2 (by decide)) (fr.cv hF2 (by decide)) (fr.cv hF2 (by decide)) (fr.cv hF2 (by decide)) (fr.cv hF2 (by decide)) hF2 (by decide))
            refine lv_iinc (v := (nI (v3w4 + 1))) (lv' := [(3, .int (nI (v3w4 + 1))), (4, .ref b_117), (0, .ref oa), (1, .ref ha), (2, .int k2)]) hx hb dX0_handOver_50 hl (k := 1) rfl (nI_1 v3w4) (by decide) rfl (fun ls hl => ?_)
            refine lv_goto (tgt := 2) hx hb dX0_handOver_53 (by decide) ?_
            exact ih_2 (v3w4 + 1) M_126 H_124 _ _ (by omega) (by omega) hW hF hT2 hT9 hV hP hD hS (lv_sub hl [0, 2, 3, 4] rfl)
  exact key_1 (24 - 0 + 1) 0 M s.heap _ _ (by omega) (by omega) hW hF hT2 hT9 hV hP hD hS (lv_sub hl [0, 1, 2, 3] rfl)
set_option maxHeartbeats 4000000 in
set_option maxRecDepth 100000 in
theorem e_closeYear (l : Launch) (D : va_G) (cy : Nat → ClassId) (K0 : Kp) (L0 : List Nat) (M0 : Hp) (sz : Nat) (oa : Nat) (ha : Nat) (k2 : Int32) (Bo : Nat → Nat × Nat) (Mb : Hp) (Xv : Nat → Int) (Yv : Nat → Nat → Int32) (hW : WOK cy K0 L0 M0) (ia : isk K0 L0 oa 0 0) (iH : isk K0 L0 ha 2 0) (hV : VC Bo K0 L0 Mb M0 ha Xv Yv) (hk2 : (0 ≤ k2.toInt ∧ k2.toInt < 1000)) (hyc : (0 ≤ Xv 13 ∧ Xv 13 < 12)) (hn28 : (∀ i : Nat, (i : Int) < Xv 10 → Yv 28 i = 1)) (hn33 : (∀ i : Nat, (i : Int) < Xv 11 → Yv 33 i = 1)) (hdy : (-1 ≤ Xv 1 ∧ Xv 1 + 1 ≤ k2.toInt ∧ k2.toInt ≤ Xv 1 + 100 ∧ k2.toInt < 1000)) (hb15 : (0 ≤ Xv 15 ∧ Xv 15 ≤ 20)) (hn38 : (∀ i : Nat, (i : Int) < Xv 14 → 0 ≤ (Yv 38 i).toInt)) : Met l yX0_closeYear (wsM yX0_closeYear cX0_closeYear 3 none) ({ frames := 5, cells := 720, slots := 4320, locals := 134 }) (va_Pc [.ref oa, .ref ha, .int k2] (PG D cy [] L0 M0 sz)) (va_Qv (fun (u : Kp × List Nat × Hp) => ext K0 L0 u.1 u.2.1 ∧ WOK cy u.1 u.2.1 u.2.2 ∧ fr K0 L0 [0, 1, 2, 7, 8, 9, 10, 21, 56, 57, 63, 64, 65, 66, 67, 68, 69, 70, 71, 72] M0 u.2.2 ∧ fT 2 K0 L0 [2, 5, 14] M0 u.2.2 ∧ fT 9 K0 L0 [6, 9, 10, 11, 13, 14, 15] M0 u.2.2 ∧ fT 1 K0 L0 [3] M0 u.2.2 ∧ fT 10 K0 L0 [1, 2] M0 u.2.2 ∧ (True)) (fun u t => (∃ (X9 : Nat → Int) (n9 : Nat) (p9 q9 r9 g9 : Nat → Int32), (X9 0 = Xv 0 ∧ X9 1 = k2.toInt ∧ X9 10 = Xv 10 ∧ X9 11 = Xv 11 ∧ X9 12 = Xv 12 ∧ X9 13 = Xv 13 + 1 ∧ X9 14 = (n9 : Int) ∧ X9 15 = 0 ∧ X9 16 = 0 ∧ X9 18 = Xv 18 ∧ X9 19 = 0 ∧ X9 20 = Xv 20 ∧ ∀ i, X9 (lKey 3 i) = Xv (lKey 3 i)) ∧ trip p9 q9 r9 n9 = (trip (Yv 38) (Yv 39) (Yv 40) (Xv 14).toNat).filter (bkF k2.toInt) ∧ (∀ i : Nat, (i : Int) < Xv 10 → g9 i = insE Yv k2.toInt i) ∧ VC Bo u.1 u.2.1 Mb u.2.2 ha X9 (va_up (va_up (va_up (va_up Yv 38 p9) 39 q9) 40 r9) 23 g9)) ∧ NW2 K0 L0 u.1 u.2.1 ∧ OTH K0 L0 oa M0 u.2.2 ∧ (cV 0 u.2.2 oa 3).toInt = cntC Xv Yv k2.toInt ∧ PQ D [] u.2.1 u.2.2 (va_A ([] ++ va_pl L0 M0) sz) t) (va_A ([] ++ va_pl L0 M0) sz)) 720 4320 (va_A ([] ++ va_pl L0 M0) sz) := by
  refine Met.ofW (cc := cX0_closeYear) (maxL := 3) (ret := none) (by decide) rfl ?_
  intro p e s m args below meth c s₁ B hml hv
  obtain ⟨rfl, hsz, hP, hK, hD0, hN⟩ := hv
  have hx := B.exec
  have hb := B.bytes
  have hr := B.returns
  have hts := atoms_spec (ws := (wsM yX0_closeYear cX0_closeYear 3 none)) B.pre
  have hg : ∀ w ∈ lw_good, w.before _ s = true := fun w h => hts w (List.mem_cons_of_mem _ h)
  have hown : s.vm.findClass RX0 = some m.cls := findClass_of_methodNamed B.named
  have hlocks := B.notSynchronized
  subst hsz
  have hD := hD0.self (sz := s.heap.size)
  generalize hAe : va_A ([] ++ va_pl L0 M0) s.heap.size = A at hD ⊢
  have hA : ∀ q : Nat, s.heap.size ≤ q → A q := fun q h => by rw [← hAe]; exact Or.inr h
  have hS : va_S A s.heap s.heap [] := va_S.rf
  have hl := lv_entry ([.ref oa, .ref ha, .int k2]) (n := 3) (Nat.le_of_ble_eq_true rfl)
  rw [lg_entry_eq]
  generalize (lg_sl ([.ref oa, .ref ha, .int k2]) ++ List.replicate (3 - (lg_sl ([.ref oa, .ref ha, .int k2])).length) Slot.unset).toArray = ls at hl ⊢
  refine W.nameQ (fun Q hQ => ?_)
  refine W.nameR (fun R hR => ?_)
  have hRf : 5 ≤ R.frames := by rw [hR]; exact Nat.le_of_ble_eq_true rfl
  have hRl : 134 ≤ R.locals := by rw [hR]; exact Nat.le_of_ble_eq_true rfl
  have hRc : 720 ≤ R.cells := by rw [hR]; exact Nat.le_of_ble_eq_true rfl
  have hRs : 4320 ≤ R.slots := by rw [hR]; exact Nat.le_of_ble_eq_true rfl
  have hW00 := hW
  have ia00 := ia
  have iH00 := iH
  have hV00 := hV
  obtain ⟨K, L, M, hX0, hF, hT2, hT9, hT1, hT10, hW, hP, hD, ia, iH, hV, hMe, hKe, hLe⟩ : ∃ (K : Kp) (L : List Nat) (M : Hp), ext K0 L0 K L ∧ fr K0 L0 [0, 1, 2, 7, 8, 9, 10, 21, 56, 57, 63, 64, 65, 66, 67, 68, 69, 70, 71, 72] M0 M ∧ fT 2 K0 L0 [2, 5, 14] M0 M ∧ fT 9 K0 L0 [6, 9, 10, 11, 13, 14, 15] M0 M ∧ fT 1 K0 L0 [3] M0 M ∧ fT 10 K0 L0 [1, 2] M0 M ∧ WOK cy K L M ∧ va_P D vwCl ([] ++ va_pl L M) s.heap ∧ va_D A ([] ++ va_pl L M) ∧ isk K L oa 0 0 ∧ isk K L ha 2 0 ∧ VC Bo K L Mb M ha Xv Yv ∧ M = M0 ∧ K = K0 ∧ L = L0 := ⟨K0, L0, M0, ext.rf, fr.rf, fT.rf, fT.rf, fT.rf, fT.rf, hW, hP, hD, ia, iH, hV, rfl, rfl, rfl⟩
  have hl : lv_has ls 3 [(0, .ref oa), (1, .ref ha), (2, .int k2)] := hl
  have hNW : NW2 K0 L0 K L := by rw [hKe, hLe]; exact NW2.rf
  have hOT : OTH K0 L0 oa M0 M := by rw [hMe]; exact OTH.rf
  refine lv_aload_n hx hb dX0_closeYear_0 rfl (lv_at hl 0 rfl) ?_
  refine lv_iconst (v := 0) hx hb dX0_closeYear_1 (by decide) ?_
  obtain ⟨v2_0, v2_1, v2_2, v2_3, v2_4, hM2, h2_0, h2_1, h2_2, h2_3⟩ := hW.open_0 ia
  refine pg_put (D := D) (ci := 0) (v := .int 0) (ty := .int) (C := RX0) (T := TX0) (N := 5) hx hb hg inG0 tyX0 tyX0_ok nmX0 hown hK hP hD hS ia.1 hM2 rfl 3 (by decide) (hg _ wd_199) (fun _ h9 => h9) rfl (by decide +kernel) rfl rfl (Nat.le_of_ble_eq_true rfl) dX0_closeYear_2 (fun H_1 locs hP hD hS => ?_)
  obtain ⟨M_3, eM_3⟩ : ∃ M1 : Hp, M1 = va_up M oa ((b0_7 v2_0 v2_1 v2_2 (nI 0) v2_4)) := ⟨_, rfl⟩
  have sM_3 : M_3 = sF M oa 3 (.int (nI 0)) := eM_3.trans (sF_of (j := 3) (v := .int (nI 0)) hM2 rfl)
  have hV : VC Bo K L Mb M_3 ha Xv Yv := by rw [sM_3]; exact hV.same hW iH (SAME.sF0 hM2 rfl)
  have hP : va_P D vwCl ([] ++ va_pl L M_3) H_1 := by rw [eM_3]; exact hP
  have hD : va_D A ([] ++ va_pl L M_3) := by rw [eM_3]; exact hD
  have hW : WOK cy K L M_3 := by rw [eM_3]; exact hW.up_0 ia ⟨v2_0, v2_1, v2_2, 0, v2_4, rfl, h2_0, h2_1, h2_2, (by omega)⟩
  have hF : fr K0 L0 [0, 1, 2, 7, 8, 9, 10, 21, 56, 57, 63, 64, 65, 66, 67, 68, 69, 70, 71, 72] M0 M_3 := by rw [eM_3]; exact hF.upX hX0 ia (by decide)
  have hOT : OTH K0 L0 oa M0 M_3 := by rw [eM_3]; exact hOT.upO
  have hT2 : fT 2 K0 L0 [2, 5, 14] M0 M_3 := by rw [eM_3]; exact hT2.neX hX0 ia (by decide)
  have hT9 : fT 9 K0 L0 [6, 9, 10, 11, 13, 14, 15] M0 M_3 := by rw [eM_3]; exact hT9.neX hX0 ia (by decide)
  have hT1 : fT 1 K0 L0 [3] M0 M_3 := by rw [eM_3]; exact hT1.neX hX0 ia (by decide)
  have hT10 : fT 10 K0 L0 [1, 2] M0 M_3 := by rw [eM_3]; exact hT10.neX hX0 ia (by decide)
  have hM_4 : M_3 oa = (b0_7 v2_0 v2_1 v2_2 (nI 0) v2_4) := by rw [eM_3]; exact va_up_self _ _ _
  have hb_5 : 0 ≤ 120 := by omega
  refine lv_aload_n hx hb dX0_closeYear_5 rfl (lv_at hl 0 rfl) ?_
  refine lv_aload_n hx hb dX0_closeYear_6 rfl (lv_at hl 1 rfl) ?_
  refine lv_iload_n hx hb dX0_closeYear_7 rfl (lv_at hl 2 rfl) ?_
  have hnle := nst_le (P := prt Xv Yv) (a := Xv 1 + 1) (n := (k2.toInt - Xv 1).toNat)
  have hPc : va_P D vwCl ([] ++ va_pl L M_3) H_1 := hP
  have hDc : va_D A ([] ++ va_pl L M_3) := hD
  have hFc : ∀ q, va_A ([] ++ va_pl L M_3) H_1.size q → A q := pg_free hDc hS hA
  refine va_callv (va_runV (As := [.ref ha, .int k2]) (rest := []) ⟨hx, hb, hml, hown, hg⟩ (e_partDays l D cy K L M_3 H_1.size oa ha k2 Bo Mb Xv Yv v2_0 v2_1 v2_2 0 v2_4 hW ia iH hV hn28 hn33 hdy (by omega) hM_4 h2_0 h2_1 h2_2 hb_5) (cwV 2 hg (gV wd_641 wd_642 wd_643 wd_204 wd_644) rfl rfl rfl (by decide +kernel) ⟨(Nat.le_trans (Nat.le_of_ble_eq_true rfl) hRf), (Nat.le_trans (Nat.le_of_ble_eq_true rfl) hRl)⟩) ⟨PG.blind, pg_recv hK hP ia.1 hM_4 rfl, fun U hU hW => ⟨rfl, PG.at hPc hK hDc hN hU hW⟩⟩ rfl rfl hl.1 rfl (lv_room (Nat.le_of_ble_eq_true rfl)) dX0_closeYear_8 ⟨(Nat.le_trans (Nat.le_of_ble_eq_true rfl) hRc), (Nat.le_trans (Nat.le_of_ble_eq_true rfl) hRs)⟩) hS (fun q _ h => hFc q h) hFc (fun M_8 t H_6 locs ht hvm hw hB hz1 hk1 hS => ?_)
  have hWb := hW
  obtain ⟨K9, L9, M_8m⟩ := M_8
  dsimp only at hw hB
  obtain ⟨hx9, hW, hF2, hM_10, hp_9⟩ := hw
  obtain ⟨hg_11, hg_12, hP1, hD1⟩ := hB
  rw [ht] at hP1
  have hP : va_P D vwCl ([] ++ va_pl L9 M_8m) H_6 := hP1
  have hD : va_D A ([] ++ va_pl L9 M_8m) := hD1.mono hFc
  have hb_13 : (nst (prt Xv Yv) (Xv 1 + 1) (k2.toInt - Xv 1).toNat) ≤ 120 := by omega
  have hOT : OTH K0 L0 oa M0 M_8m := hOT.trO hX0 hg_12
  have hF : fr K0 L0 [0, 1, 2, 7, 8, 9, 10, 21, 56, 57, 63, 64, 65, 66, 67, 68, 69, 70, 71, 72] M0 M_8m := hF.trX hX0 hF2 (by decide)
  have hT2 : fT 2 K0 L0 [2, 5, 14] M0 M_8m := hT2.frrX hX0 hF2 (by decide)
  have hT9 : fT 9 K0 L0 [6, 9, 10, 11, 13, 14, 15] M0 M_8m := hT9.frrX hX0 hF2 (by decide)
  have hT1 : fT 1 K0 L0 [3] M0 M_8m := hT1.frrX hX0 hF2 (by decide)
  have hT10 : fT 10 K0 L0 [1, 2] M0 M_8m := hT10.frrX hX0 hF2 (by decide)
  have hX0 := hX0.tr hx9
  have hNW9 := hg_11
  have hV := (VC.same (M1 := M_8m) hV hWb iH (SAME.fr (fr.cv hF2 (by decide)) (fr.cv hF2 (by decide)) (fr.cv hF2 (by decide)) (fr.cv hF2 (by decide)) (fr.cv hF2 (by decide)) (fr.cv hF2 (by decide)) (fr.cv hF2 (by decide)) hF2 (by decide))).ext hx9 hNW9.1
  have i_14 := ia.ext hx9
  have i_15 := iH.ext hx9
  have i_16 := h2_0.ext hx9
  have i_17 := h2_1.ext hx9
  have i_18 := h2_2.ext hx9
  obtain ⟨K, L, hK9, hL9⟩ : ∃ (K : Kp) (L : List Nat), K = K9 ∧ L = L9 := ⟨_, _, rfl, rfl⟩
  subst hK9
  subst hL9
  have hNW := hNW.tr hNW9
  refine W.widen (k := 360) (n := 2160) (Nat.le_of_ble_eq_true rfl) (Nat.le_of_ble_eq_true rfl) ?_
  refine lv_aload_n hx hb dX0_closeYear_11 rfl (lv_at hl 0 rfl) ?_
  refine lv_aload_n hx hb dX0_closeYear_12 rfl (lv_at hl 1 rfl) ?_
  have hPc : va_P D vwCl ([] ++ va_pl L M_8m) H_6 := hP
  have hDc : va_D A ([] ++ va_pl L M_8m) := hD
  have hFc : ∀ q, va_A ([] ++ va_pl L M_8m) H_6.size q → A q := pg_free hDc hS hA
  obtain ⟨v19_0, v19_1, v19_2, v19_3, v19_4, v19_5, v19_6, v19_7, v19_8, v19_9, v19_10, v19_11, v19_12, v19_13, v19_14, v19_15, v19_16, v19_17, v19_18, v19_19, hM19, h19_3, h19_4, h19_5, h19_6, h19_7, h19_8, h19_9, h19_10, h19_11, h19_12, h19_13, h19_16, h19_17, h19_18, h19_19⟩ := hW.open_2 i_15
  refine va_callv (va_runV (As := [.ref ha]) (rest := []) ⟨hx, hb, hml, hown, hg⟩ (s_cutLoose_x l D cy K L M_8m H_6.size oa ha v19_0 v19_1 v19_2 v19_3 v19_4 v19_5 v19_6 v19_7 v19_8 v19_9 v19_10 v19_11 v19_12 v19_13 v19_14 v19_15 v19_16 v19_17 v19_18 v19_19 hW i_14 i_15 hM19 h19_3 h19_4 h19_5 h19_6 h19_7 h19_8 h19_9 h19_10 h19_11 h19_12 h19_13 h19_16 h19_17 h19_18 h19_19) (cwV 1 hg (gV wd_645 wd_646 wd_647 wd_204 wd_648) rfl rfl rfl (by decide +kernel) ⟨(Nat.le_trans (Nat.le_of_ble_eq_true rfl) hRf), (Nat.le_trans (Nat.le_of_ble_eq_true rfl) hRl)⟩) ⟨PG.blind, pg_recv hK hP i_14.1 hM_10 rfl, fun U hU hW => ⟨rfl, PG.at hPc hK hDc hN hU hW⟩⟩ rfl rfl hl.1 rfl (lv_room (Nat.le_of_ble_eq_true rfl)) dX0_closeYear_13 ⟨(Nat.le_trans (Nat.le_of_ble_eq_true rfl) hRc), (Nat.le_trans (Nat.le_of_ble_eq_true rfl) hRs)⟩) hS (fun q _ h => hFc q h) hFc (fun M_22 t H_20 locs ht hvm hw hB hz1 hk1 hS => ?_)
  have hWb := hW
  obtain ⟨hW, hF2, gT2, hM_24, hp_23⟩ := hw
  obtain ⟨hP1, hD1⟩ := hB
  rw [ht] at hP1
  have hP : va_P D vwCl ([] ++ va_pl L M_22) H_20 := hP1
  have hD : va_D A ([] ++ va_pl L M_22) := hD1.mono hFc
  have hM_25 : M_22 oa = (b0_7 v2_0 v2_1 v2_2 (nI (nst (prt Xv Yv) (Xv 1 + 1) (k2.toInt - Xv 1).toNat)) v2_4) := (hF2.at i_14 (by decide)).trans hM_10
  have hOT : OTH K0 L0 oa M0 M_22 := hOT.tr hX0 hF2 (by decide)
  have hF : fr K0 L0 [0, 1, 2, 7, 8, 9, 10, 21, 56, 57, 63, 64, 65, 66, 67, 68, 69, 70, 71, 72] M0 M_22 := hF.trX hX0 hF2 (by decide)
  have hT2 : fT 2 K0 L0 [2, 5, 14] M0 M_22 := hT2.trX hX0 gT2 (by decide)
  have hT9 : fT 9 K0 L0 [6, 9, 10, 11, 13, 14, 15] M0 M_22 := hT9.frrX hX0 hF2 (by decide)
  have hT1 : fT 1 K0 L0 [3] M0 M_22 := hT1.frrX hX0 hF2 (by decide)
  have hT10 : fT 10 K0 L0 [1, 2] M0 M_22 := hT10.frrX hX0 hF2 (by decide)
  have hV : VC Bo K L Mb M_22 ha Xv Yv := hV.same hWb i_15 (SAME.fr (fT.cv (W2 hWb) gT2 (by decide)) (fr.cv hF2 (by decide)) (fr.cv hF2 (by decide)) (fr.cv hF2 (by decide)) (fr.cv hF2 (by decide)) (fr.cv hF2 (by decide)) (fr.cv hF2 (by decide)) hF2 (by decide))
  refine lv_aload_n hx hb dX0_closeYear_16 rfl (lv_at hl 0 rfl) ?_
  refine lv_aload_n hx hb dX0_closeYear_17 rfl (lv_at hl 1 rfl) ?_
  have hPc : va_P D vwCl ([] ++ va_pl L M_22) H_20 := hP
  have hDc : va_D A ([] ++ va_pl L M_22) := hD
  have hFc : ∀ q, va_A ([] ++ va_pl L M_22) H_20.size q → A q := pg_free hDc hS hA
  refine va_callv (va_runV (As := [.ref ha]) (rest := []) ⟨hx, hb, hml, hown, hg⟩ (s_X0_settleStretches l D cy K L M_22 H_20.size oa ha  hW i_14 i_15) (cwV 1 hg (gV wd_649 wd_650 wd_651 wd_204 wd_652) rfl rfl rfl (by decide +kernel) ⟨(Nat.le_trans (Nat.le_of_ble_eq_true rfl) hRf), (Nat.le_trans (Nat.le_of_ble_eq_true rfl) hRl)⟩) ⟨PG.blind, pg_recv hK hP i_14.1 hM_25 rfl, fun U hU hW => ⟨rfl, PG.at hPc hK hDc hN hU hW⟩⟩ rfl rfl hl.1 rfl (lv_room (Nat.le_of_ble_eq_true rfl)) dX0_closeYear_18 ⟨(Nat.le_trans (Nat.le_of_ble_eq_true rfl) hRc), (Nat.le_trans (Nat.le_of_ble_eq_true rfl) hRs)⟩) hS (fun q _ h => hFc q h) hFc (fun M_28 t H_26 locs ht hvm hw hB hz1 hk1 hS => ?_)
  have hWb := hW
  obtain ⟨hW, hF2, gT9, hp_29⟩ := hw
  obtain ⟨hP1, hD1⟩ := hB
  rw [ht] at hP1
  have hP : va_P D vwCl ([] ++ va_pl L M_28) H_26 := hP1
  have hD : va_D A ([] ++ va_pl L M_28) := hD1.mono hFc
  have hM_30 : M_28 oa = (b0_7 v2_0 v2_1 v2_2 (nI (nst (prt Xv Yv) (Xv 1 + 1) (k2.toInt - Xv 1).toNat)) v2_4) := (hF2.at i_14 (by decide)).trans hM_25
  have hM_31 : M_28 ha = (b2_2 v19_0 v19_1 v19_2 v19_3 (nI v19_4) (nI v19_5) v19_6 v19_7 v19_8 (nI v19_9) v19_10 (nI v19_11) v19_12 v19_13 0 v19_15 v19_16 v19_17 v19_18 v19_19) := (hF2.at i_15 (by decide)).trans hM_24
  have hOT : OTH K0 L0 oa M0 M_28 := hOT.tr hX0 hF2 (by decide)
  have hF : fr K0 L0 [0, 1, 2, 7, 8, 9, 10, 21, 56, 57, 63, 64, 65, 66, 67, 68, 69, 70, 71, 72] M0 M_28 := hF.trX hX0 hF2 (by decide)
  have hT2 : fT 2 K0 L0 [2, 5, 14] M0 M_28 := hT2.frrX hX0 hF2 (by decide)
  have hT9 : fT 9 K0 L0 [6, 9, 10, 11, 13, 14, 15] M0 M_28 := hT9.trX hX0 gT9 (by decide)
  have hT1 : fT 1 K0 L0 [3] M0 M_28 := hT1.frrX hX0 hF2 (by decide)
  have hT10 : fT 10 K0 L0 [1, 2] M0 M_28 := hT10.frrX hX0 hF2 (by decide)
  have hV : VC Bo K L Mb M_28 ha Xv Yv := hV.same hWb i_15 (SAME.fr (fr.cv hF2 (by decide)) (fT.cv (W9 hWb) gT9 (by decide)) (fr.cv hF2 (by decide)) (fr.cv hF2 (by decide)) (fr.cv hF2 (by decide)) (fr.cv hF2 (by decide)) (fr.cv hF2 (by decide)) hF2 (by decide))
  refine lv_aload_n hx hb dX0_closeYear_21 rfl (lv_at hl 0 rfl) ?_
  refine lv_aload_n hx hb dX0_closeYear_22 rfl (lv_at hl 1 rfl) ?_
  have hPc : va_P D vwCl ([] ++ va_pl L M_28) H_26 := hP
  have hDc : va_D A ([] ++ va_pl L M_28) := hD
  have hFc : ∀ q, va_A ([] ++ va_pl L M_28) H_26.size q → A q := pg_free hDc hS hA
  refine va_callv (va_runV (As := [.ref ha]) (rest := []) ⟨hx, hb, hml, hown, hg⟩ (e_settleMends l D cy K L M_28 H_26.size oa ha Bo Mb Xv Yv v2_0 v2_1 v2_2 (nst (prt Xv Yv) (Xv 1 + 1) (k2.toInt - Xv 1).toNat) v2_4 hW i_14 i_15 hV hb15 (by omega) hM_30 i_16 i_17 i_18 hb_13) (cwV 1 hg (gV wd_653 wd_654 wd_655 wd_204 wd_656) rfl rfl rfl (by decide +kernel) ⟨(Nat.le_trans (Nat.le_of_ble_eq_true rfl) hRf), (Nat.le_trans (Nat.le_of_ble_eq_true rfl) hRl)⟩) ⟨PG.blind, pg_recv hK hP i_14.1 hM_30 rfl, fun U hU hW => ⟨rfl, PG.at hPc hK hDc hN hU hW⟩⟩ rfl rfl hl.1 rfl (lv_room (Nat.le_of_ble_eq_true rfl)) dX0_closeYear_23 ⟨(Nat.le_trans (Nat.le_of_ble_eq_true rfl) hRc), (Nat.le_trans (Nat.le_of_ble_eq_true rfl) hRs)⟩) hS (fun q _ h => hFc q h) hFc (fun M_34 t H_32 locs ht hvm hw hB hz1 hk1 hS => ?_)
  have hWb := hW
  obtain ⟨K9, L9, M_34m⟩ := M_34
  dsimp only at hw hB
  obtain ⟨hx9, hW, hF2, gT9, hM_36, hp_35⟩ := hw
  obtain ⟨hg_37, hg_38, hP1, hD1⟩ := hB
  rw [ht] at hP1
  have hP : va_P D vwCl ([] ++ va_pl L9 M_34m) H_32 := hP1
  have hD : va_D A ([] ++ va_pl L9 M_34m) := hD1.mono hFc
  have hM_39 : M_34m ha = (b2_2 v19_0 v19_1 v19_2 v19_3 (nI v19_4) (nI v19_5) v19_6 v19_7 v19_8 (nI v19_9) v19_10 (nI v19_11) v19_12 v19_13 0 v19_15 v19_16 v19_17 v19_18 v19_19) := (hF2.at i_15 (by decide)).trans hM_31
  have hb_40 : ((nst (prt Xv Yv) (Xv 1 + 1) (k2.toInt - Xv 1).toNat) + (Xv 15).toNat) ≤ 120 := by omega
  have hOT : OTH K0 L0 oa M0 M_34m := hOT.trO hX0 hg_38
  have hF : fr K0 L0 [0, 1, 2, 7, 8, 9, 10, 21, 56, 57, 63, 64, 65, 66, 67, 68, 69, 70, 71, 72] M0 M_34m := hF.trX hX0 hF2 (by decide)
  have hT2 : fT 2 K0 L0 [2, 5, 14] M0 M_34m := hT2.frrX hX0 hF2 (by decide)
  have hT9 : fT 9 K0 L0 [6, 9, 10, 11, 13, 14, 15] M0 M_34m := hT9.trX hX0 gT9 (by decide)
  have hT1 : fT 1 K0 L0 [3] M0 M_34m := hT1.frrX hX0 hF2 (by decide)
  have hT10 : fT 10 K0 L0 [1, 2] M0 M_34m := hT10.frrX hX0 hF2 (by decide)
  have hX0 := hX0.tr hx9
  have hNW9 := hg_37
  have hV := (VC.same (M1 := M_34m) hV hWb i_15 (SAME.fr (fr.cv hF2 (by decide)) (fT.cv (W9 hWb) gT9 (by decide)) (fr.cv hF2 (by decide)) (fr.cv hF2 (by decide)) (fr.cv hF2 (by decide)) (fr.cv hF2 (by decide)) (fr.cv hF2 (by decide)) hF2 (by decide))).ext hx9 hNW9.1
  have i_41 := i_14.ext hx9
  have i_42 := i_15.ext hx9
  have i_43 := i_16.ext hx9
  have i_44 := i_17.ext hx9
  have i_45 := i_18.ext hx9
  have i_46 := h19_3.ext hx9
  have i_47 := h19_6.ext hx9
  have i_48 := h19_7.ext hx9
  have i_49 := h19_8.ext hx9
  have i_50 := h19_10.ext hx9
  have i_51 := h19_12.ext hx9
  have i_52 := h19_13.ext hx9
  have i_53 := h19_16.ext hx9
  have i_54 := h19_17.ext hx9
  have i_55 := h19_18.ext hx9
  have i_56 := h19_19.ext hx9
  obtain ⟨K, L, hK9, hL9⟩ : ∃ (K : Kp) (L : List Nat), K = K9 ∧ L = L9 := ⟨_, _, rfl, rfl⟩
  subst hK9
  subst hL9
  have hNW := hNW.tr hNW9
  refine W.widen (k := 720) (n := 4320) (Nat.le_of_ble_eq_true rfl) (Nat.le_of_ble_eq_true rfl) ?_
  refine lv_aload_n hx hb dX0_closeYear_26 rfl (lv_at hl 0 rfl) ?_
  refine lv_aload_n hx hb dX0_closeYear_27 rfl (lv_at hl 1 rfl) ?_
  have hPc : va_P D vwCl ([] ++ va_pl L M_34m) H_32 := hP
  have hDc : va_D A ([] ++ va_pl L M_34m) := hD
  have hFc : ∀ q, va_A ([] ++ va_pl L M_34m) H_32.size q → A q := pg_free hDc hS hA
  refine va_callv (va_runV (As := [.ref ha]) (rest := []) ⟨hx, hb, hml, hown, hg⟩ (s_X0_bookDues l D cy K L M_34m H_32.size oa ha  hW i_41 i_42) (cwV 1 hg (gV wd_657 wd_658 wd_659 wd_204 wd_660) rfl rfl rfl (by decide +kernel) ⟨(Nat.le_trans (Nat.le_of_ble_eq_true rfl) hRf), (Nat.le_trans (Nat.le_of_ble_eq_true rfl) hRl)⟩) ⟨PG.blind, pg_recv hK hP i_41.1 hM_36 rfl, fun U hU hW => ⟨rfl, PG.at hPc hK hDc hN hU hW⟩⟩ rfl rfl hl.1 rfl (lv_room (Nat.le_of_ble_eq_true rfl)) dX0_closeYear_28 ⟨(Nat.le_trans (Nat.le_of_ble_eq_true rfl) hRc), (Nat.le_trans (Nat.le_of_ble_eq_true rfl) hRs)⟩) hS (fun q _ h => hFc q h) hFc (fun M_59 t H_57 locs ht hvm hw hB hz1 hk1 hS => ?_)
  have hWb := hW
  obtain ⟨hW, hF2, gT9, hp_60⟩ := hw
  obtain ⟨hP1, hD1⟩ := hB
  rw [ht] at hP1
  have hP : va_P D vwCl ([] ++ va_pl L M_59) H_57 := hP1
  have hD : va_D A ([] ++ va_pl L M_59) := hD1.mono hFc
  have hM_61 : M_59 ha = (b2_2 v19_0 v19_1 v19_2 v19_3 (nI v19_4) (nI v19_5) v19_6 v19_7 v19_8 (nI v19_9) v19_10 (nI v19_11) v19_12 v19_13 0 v19_15 v19_16 v19_17 v19_18 v19_19) := (hF2.at i_42 (by decide)).trans hM_39
  have hM_62 : M_59 oa = (b0_7 v2_0 v2_1 v2_2 (nI ((nst (prt Xv Yv) (Xv 1 + 1) (k2.toInt - Xv 1).toNat) + (Xv 15).toNat)) v2_4) := (hF2.at i_41 (by decide)).trans hM_36
  have hOT : OTH K0 L0 oa M0 M_59 := hOT.tr hX0 hF2 (by decide)
  have hF : fr K0 L0 [0, 1, 2, 7, 8, 9, 10, 21, 56, 57, 63, 64, 65, 66, 67, 68, 69, 70, 71, 72] M0 M_59 := hF.trX hX0 hF2 (by decide)
  have hT2 : fT 2 K0 L0 [2, 5, 14] M0 M_59 := hT2.frrX hX0 hF2 (by decide)
  have hT9 : fT 9 K0 L0 [6, 9, 10, 11, 13, 14, 15] M0 M_59 := hT9.trX hX0 gT9 (by decide)
  have hT1 : fT 1 K0 L0 [3] M0 M_59 := hT1.frrX hX0 hF2 (by decide)
  have hT10 : fT 10 K0 L0 [1, 2] M0 M_59 := hT10.frrX hX0 hF2 (by decide)
  have hV : VC Bo K L Mb M_59 ha Xv Yv := hV.same hWb i_42 (SAME.fr (fr.cv hF2 (by decide)) (fT.cv (W9 hWb) gT9 (by decide)) (fr.cv hF2 (by decide)) (fr.cv hF2 (by decide)) (fr.cv hF2 (by decide)) (fr.cv hF2 (by decide)) (fr.cv hF2 (by decide)) hF2 (by decide))
  refine lv_aload_n hx hb dX0_closeYear_31 rfl (lv_at hl 0 rfl) ?_
  refine lv_dup hx hb dX0_closeYear_32 rfl ?_
  refine pg_get (D := D) (ci := 0) (v := .long v2_4) (C := RX0) (T := TX0) (N := 5) hx hb hg inG0 hown hK hP i_41.1 hM_62 rfl 4 (by decide) (hg _ wd_661) (fun _ h9 => h9) rfl dX0_closeYear_33 ?_
  refine lv_aload_n hx hb dX0_closeYear_36 rfl (lv_at hl 0 rfl) ?_
  have hPc : va_P D vwCl ([] ++ va_pl L M_59) H_57 := hP
  have hDc : va_D A ([] ++ va_pl L M_59) := hD
  have hFc : ∀ q, va_A ([] ++ va_pl L M_59) H_57.size q → A q := pg_free hDc hS hA
  refine va_calll (va_runV (As := []) (rest := [.long v2_4, .ref oa]) ⟨hx, hb, hml, hown, hg⟩ (s_X0_nobodyOfLatest l D cy K L M_59 H_57.size oa  hW i_41) (cwV 0 hg (gV wd_662 wd_520 wd_521 wd_204 wd_522) rfl rfl rfl (by decide +kernel) ⟨(Nat.le_trans (Nat.le_of_ble_eq_true rfl) hRf), (Nat.le_trans (Nat.le_of_ble_eq_true rfl) hRl)⟩) ⟨PG.blind, pg_recv hK hP i_41.1 hM_62 rfl, fun U hU hW => ⟨rfl, PG.at hPc hK hDc hN hU hW⟩⟩ rfl rfl hl.1 rfl (lv_room (Nat.le_of_ble_eq_true rfl)) dX0_closeYear_37 ⟨(Nat.le_trans (Nat.le_of_ble_eq_true rfl) hRc), (Nat.le_trans (Nat.le_of_ble_eq_true rfl) hRs)⟩) hS (fun q _ h => hFc q h) hFc (fun r_64 M_65 t H_63 locs ht hvm hw hB hz1 hk1 hS => ?_)
  have hp_66 := hw
  obtain ⟨hP1, hD1⟩ := hB
  rw [ht] at hP1
  have hP : va_P D vwCl ([] ++ va_pl L M_59) H_63 := hP1
  have hD : va_D A ([] ++ va_pl L M_59) := hD1.mono hFc
  refine lv_ladd hx hb dX0_closeYear_40 ?_
  refine lv_topl (fun f_67 ef_67 => ?_)
  refine pg_put (D := D) (ci := 0) (v := .long f_67) (ty := .long) (C := RX0) (T := TX0) (N := 5) hx hb hg inG0 tyX0 tyX0_ok nmX0 hown hK hP hD hS i_41.1 hM_62 rfl 4 (by decide) (hg _ wd_661) (fun _ h9 => h9) rfl (by decide +kernel) rfl rfl (Nat.le_of_ble_eq_true rfl) dX0_closeYear_41 (fun H_68 locs hP hD hS => ?_)
  obtain ⟨M_69, eM_69⟩ : ∃ M1 : Hp, M1 = va_up M_59 oa ((b0_7 v2_0 v2_1 v2_2 (nI ((nst (prt Xv Yv) (Xv 1 + 1) (k2.toInt - Xv 1).toNat) + (Xv 15).toNat)) f_67)) := ⟨_, rfl⟩
  have sM_69 : M_69 = sF M_59 oa 4 (.long f_67) := eM_69.trans (sF_of (j := 4) (v := .long f_67) hM_62 rfl)
  have hV : VC Bo K L Mb M_69 ha Xv Yv := by rw [sM_69]; exact hV.same hW i_42 (SAME.sF0 hM_62 rfl)
  have hP : va_P D vwCl ([] ++ va_pl L M_69) H_68 := by rw [eM_69]; exact hP
  have hD : va_D A ([] ++ va_pl L M_69) := by rw [eM_69]; exact hD
  have hW : WOK cy K L M_69 := by rw [eM_69]; exact hW.up_0 i_41 ⟨v2_0, v2_1, v2_2, ((nst (prt Xv Yv) (Xv 1 + 1) (k2.toInt - Xv 1).toNat) + (Xv 15).toNat), f_67, rfl, i_43, i_44, i_45, hb_40⟩
  have hF : fr K0 L0 [0, 1, 2, 7, 8, 9, 10, 21, 56, 57, 63, 64, 65, 66, 67, 68, 69, 70, 71, 72] M0 M_69 := by rw [eM_69]; exact hF.upX hX0 i_41 (by decide)
  have hOT : OTH K0 L0 oa M0 M_69 := by rw [eM_69]; exact hOT.upO
  have hT2 : fT 2 K0 L0 [2, 5, 14] M0 M_69 := by rw [eM_69]; exact hT2.neX hX0 i_41 (by decide)
  have hT9 : fT 9 K0 L0 [6, 9, 10, 11, 13, 14, 15] M0 M_69 := by rw [eM_69]; exact hT9.neX hX0 i_41 (by decide)
  have hT1 : fT 1 K0 L0 [3] M0 M_69 := by rw [eM_69]; exact hT1.neX hX0 i_41 (by decide)
  have hT10 : fT 10 K0 L0 [1, 2] M0 M_69 := by rw [eM_69]; exact hT10.neX hX0 i_41 (by decide)
  have hM_70 : M_69 oa = (b0_7 v2_0 v2_1 v2_2 (nI ((nst (prt Xv Yv) (Xv 1 + 1) (k2.toInt - Xv 1).toNat) + (Xv 15).toNat)) f_67) := by rw [eM_69]; exact va_up_self _ _ _
  have hM_71 : M_69 ha = (b2_2 v19_0 v19_1 v19_2 v19_3 (nI v19_4) (nI v19_5) v19_6 v19_7 v19_8 (nI v19_9) v19_10 (nI v19_11) v19_12 v19_13 0 v19_15 v19_16 v19_17 v19_18 v19_19) := by rw [eM_69, va_up_ne _ _ (i_42.neT i_41 (by decide))]; exact hM_61
  refine lv_aload_n hx hb dX0_closeYear_44 rfl (lv_at hl 1 rfl) ?_
  refine pg_get (D := D) (ci := 2) (v := .ref v19_16) (C := RX2) (T := TX2) (N := 20) hx hb hg inG2 hown hK hP i_42.1 hM_71 rfl 16 (by decide) (hg _ wd_232) (fun _ h9 => h9) rfl dX0_closeYear_45 ?_
  refine lv_iload_n hx hb dX0_closeYear_48 rfl (lv_at hl 2 rfl) ?_
  obtain ⟨n72, v72_0, v72_1, v72_2, v72_3, hM72, h72_0, h72_1, h72_2, h72_3, y72_0⟩ := hW.open_1 i_53
  have hPc : va_P D vwCl ([] ++ va_pl L M_69) H_68 := hP
  have hDc : va_D A ([] ++ va_pl L M_69) := hD
  have hFc : ∀ q, va_A ([] ++ va_pl L M_69) H_68.size q → A q := pg_free hDc hS hA
  have hI_73 : Xv 14 = (Xv 14) := rfl
  refine va_callv (va_runV (As := [.int k2]) (rest := []) ⟨hx, hb, hml, hown, hg⟩ (e_bookUpTo l D cy K L M_69 H_68.size v19_16 k2 Bo Mb ha Xv Yv n72 v72_0 v72_1 v72_2 v72_3 hW i_53 i_42 hV (rA_of (j := 16) hM_71 rfl) hn38 hM72 h72_0 h72_1 h72_2 h72_3 y72_0) (cwV 1 hg (gV wd_663 wd_664 wd_665 wd_123 wd_666) rfl rfl rfl (by decide +kernel) ⟨(Nat.le_trans (Nat.le_of_ble_eq_true rfl) hRf), (Nat.le_trans (Nat.le_of_ble_eq_true rfl) hRl)⟩) ⟨PG.blind, pg_recv hK hP i_53.1 hM72 rfl, fun U hU hW => ⟨rfl, PG.at hPc hK hDc hN hU hW⟩⟩ rfl rfl hl.1 rfl (lv_room (Nat.le_of_ble_eq_true rfl)) dX0_closeYear_49 ⟨(Nat.le_trans (Nat.le_of_ble_eq_true rfl) hRc), (Nat.le_trans (Nat.le_of_ble_eq_true rfl) hRs)⟩) hS (fun q _ h => hFc q h) hFc (fun M_76 t H_74 locs ht hvm hw hB hz1 hk1 hS => ?_)
  have hWb := hW
  obtain ⟨hW, hF2, gT9, gT1, hVP, hp_77⟩ := hw
  obtain ⟨hP1, hD1⟩ := hB
  rw [ht] at hP1
  have hP : va_P D vwCl ([] ++ va_pl L M_76) H_74 := hP1
  have hD : va_D A ([] ++ va_pl L M_76) := hD1.mono hFc
  have hM_78 : M_76 oa = (b0_7 v2_0 v2_1 v2_2 (nI ((nst (prt Xv Yv) (Xv 1 + 1) (k2.toInt - Xv 1).toNat) + (Xv 15).toNat)) f_67) := (hF2.at i_41 (by decide)).trans hM_70
  have hM_79 : M_76 ha = (b2_2 v19_0 v19_1 v19_2 v19_3 (nI v19_4) (nI v19_5) v19_6 v19_7 v19_8 (nI v19_9) v19_10 (nI v19_11) v19_12 v19_13 0 v19_15 v19_16 v19_17 v19_18 v19_19) := (hF2.at i_42 (by decide)).trans hM_71
  have hOT : OTH K0 L0 oa M0 M_76 := hOT.tr hX0 hF2 (by decide)
  have hF : fr K0 L0 [0, 1, 2, 7, 8, 9, 10, 21, 56, 57, 63, 64, 65, 66, 67, 68, 69, 70, 71, 72] M0 M_76 := hF.trX hX0 hF2 (by decide)
  have hT2 : fT 2 K0 L0 [2, 5, 14] M0 M_76 := hT2.frrX hX0 hF2 (by decide)
  have hT9 : fT 9 K0 L0 [6, 9, 10, 11, 13, 14, 15] M0 M_76 := hT9.trX hX0 gT9 (by decide)
  have hT1 : fT 1 K0 L0 [3] M0 M_76 := hT1.trX hX0 gT1 (by decide)
  have hT10 : fT 10 K0 L0 [1, 2] M0 M_76 := hT10.frrX hX0 hF2 (by decide)
  obtain ⟨n_80, p_81, q_82, r_83, htb9, hV⟩ := hVP
  refine lv_aload_n hx hb dX0_closeYear_52 rfl (lv_at hl 1 rfl) ?_
  refine pg_get (D := D) (ci := 2) (v := .ref v19_17) (C := RX2) (T := TX2) (N := 20) hx hb hg inG2 hown hK hP i_42.1 hM_79 rfl 17 (by decide) (hg _ wd_640) (fun _ h9 => h9) rfl dX0_closeYear_53 ?_
  refine lv_iconst (v := 0) hx hb dX0_closeYear_56 (by decide) ?_
  obtain ⟨n85, v85_0, v85_1, v85_2, v85_3, hM85, h85_0, h85_1, h85_2, h85_3, y85_0⟩ := hW.open_1 i_54
  refine pg_put (D := D) (ci := 1) (v := .int 0) (ty := .int) (C := RX1) (T := TX1) (N := 4) hx hb hg inG1 tyX1 tyX1_ok nmX1 hown hK hP hD hS i_54.1 hM85 rfl 3 (by decide) (hg _ wd_225) (fun _ h9 => h9) rfl (by decide +kernel) rfl rfl (Nat.le_of_ble_eq_true rfl) dX0_closeYear_57 (fun H_84 locs hP hD hS => ?_)
  obtain ⟨M_86, eM_86⟩ : ∃ M1 : Hp, M1 = va_up M_76 v19_17 ((b1_4 v85_0 v85_1 v85_2 (nI 0))) := ⟨_, rfl⟩
  have sM_86 : M_86 = sF M_76 v19_17 3 (.int (nI 0)) := eM_86.trans (sF_of (j := 3) (v := .int (nI 0)) hM85 rfl)
  have hV : VC Bo K L Mb M_86 ha (va_up (va_up Xv 14 ((n_80 : Nat) : Int)) 15 ((0 : Nat) : Int)) (va_up (va_up (va_up Yv 38 p_81) 39 q_82) 40 r_83) := by rw [sM_86]; have h9 := VC.n17 (v := (nI 0)) hV hW i_42 (rA_of (j := 17) hM_79 rfl) hM85 (Nat.le_of_ble_eq_true rfl); rw [show ((nI 0) : Int32).toInt = ((0 : Nat) : Int) from (nI_toInt (by omega))] at h9; exact h9
  have hP : va_P D vwCl ([] ++ va_pl L M_86) H_84 := by rw [eM_86]; exact hP
  have hD : va_D A ([] ++ va_pl L M_86) := by rw [eM_86]; exact hD
  have hW : WOK cy K L M_86 := by rw [eM_86]; exact hW.up_1 i_54 ⟨n85, v85_0, v85_1, v85_2, 0, rfl, h85_0, h85_1, h85_2, (by omega), y85_0⟩
  have hF : fr K0 L0 [0, 1, 2, 7, 8, 9, 10, 21, 56, 57, 63, 64, 65, 66, 67, 68, 69, 70, 71, 72] M0 M_86 := by rw [eM_86]; exact hF.upX hX0 i_54 (by decide)
  have hOT : OTH K0 L0 oa M0 M_86 := by rw [eM_86]; exact hOT.upX hX0 i_54 (by decide)
  have hT2 : fT 2 K0 L0 [2, 5, 14] M0 M_86 := by rw [eM_86]; exact hT2.neX hX0 i_54 (by decide)
  have hT9 : fT 9 K0 L0 [6, 9, 10, 11, 13, 14, 15] M0 M_86 := by rw [eM_86]; exact hT9.neX hX0 i_54 (by decide)
  have hT1 : fT 1 K0 L0 [3] M0 M_86 := by rw [eM_86]; exact hT1.up (i := 3) hM85 rfl (by decide)
  have hT10 : fT 10 K0 L0 [1, 2] M0 M_86 := by rw [eM_86]; exact hT10.neX hX0 i_54 (by decide)
  have hM_87 : M_86 v19_17 = (b1_4 v85_0 v85_1 v85_2 (nI 0)) := by rw [eM_86]; exact va_up_self _ _ _
  have hM_88 : M_86 oa = (b0_7 v2_0 v2_1 v2_2 (nI ((nst (prt Xv Yv) (Xv 1 + 1) (k2.toInt - Xv 1).toNat) + (Xv 15).toNat)) f_67) := by rw [eM_86, va_up_ne _ _ (i_41.neT i_54 (by decide))]; exact hM_78
  have hM_89 : M_86 ha = (b2_2 v19_0 v19_1 v19_2 v19_3 (nI v19_4) (nI v19_5) v19_6 v19_7 v19_8 (nI v19_9) v19_10 (nI v19_11) v19_12 v19_13 0 v19_15 v19_16 v19_17 v19_18 v19_19) := by rw [eM_86, va_up_ne _ _ (i_42.neT i_54 (by decide))]; exact hM_79
  have hb_90 : 0 ≤ n85 := by omega
  refine lv_aload_n hx hb dX0_closeYear_60 rfl (lv_at hl 1 rfl) ?_
  refine pg_get (D := D) (ci := 2) (v := .ref v19_18) (C := RX2) (T := TX2) (N := 20) hx hb hg inG2 hown hK hP i_42.1 hM_89 rfl 18 (by decide) (hg _ wd_667) (fun _ h9 => h9) rfl dX0_closeYear_61 ?_
  obtain ⟨v91_0, v91_1, v91_2, hM91, h91_0⟩ := hW.open_10 i_55
  have hPc : va_P D vwCl ([] ++ va_pl L M_86) H_84 := hP
  have hDc : va_D A ([] ++ va_pl L M_86) := hD
  have hFc : ∀ q, va_A ([] ++ va_pl L M_86) H_84.size q → A q := pg_free hDc hS hA
  refine va_callv (va_runV (As := []) (rest := []) ⟨hx, hb, hml, hown, hg⟩ (e_clear l D cy K L M_86 H_84.size v19_18 Bo Mb ha (va_up (va_up Xv 14 ((n_80 : Nat) : Int)) 15 ((0 : Nat) : Int)) (va_up (va_up (va_up Yv 38 p_81) 39 q_82) 40 r_83)  hW i_55 i_42 hV (rA_of (j := 18) hM_89 rfl)) (cwV 0 hg (gV wd_668 wd_380 wd_381 wd_114 wd_382) rfl rfl rfl (by decide +kernel) ⟨(Nat.le_trans (Nat.le_of_ble_eq_true rfl) hRf), (Nat.le_trans (Nat.le_of_ble_eq_true rfl) hRl)⟩) ⟨PG.blind, pg_recv hK hP i_55.1 hM91 rfl, fun U hU hW => ⟨rfl, PG.at hPc hK hDc hN hU hW⟩⟩ rfl rfl hl.1 rfl (lv_room (Nat.le_of_ble_eq_true rfl)) dX0_closeYear_64 ⟨(Nat.le_trans (Nat.le_of_ble_eq_true rfl) hRc), (Nat.le_trans (Nat.le_of_ble_eq_true rfl) hRs)⟩) hS (fun q _ h => hFc q h) hFc (fun M_94 t H_92 locs ht hvm hw hB hz1 hk1 hS => ?_)
  have hWb := hW
  obtain ⟨hW, hF2, gT10, hVP, hp_95⟩ := hw
  obtain ⟨hP1, hD1⟩ := hB
  rw [ht] at hP1
  have hP : va_P D vwCl ([] ++ va_pl L M_94) H_92 := hP1
  have hD : va_D A ([] ++ va_pl L M_94) := hD1.mono hFc
  have hM_96 : M_94 v19_17 = (b1_4 v85_0 v85_1 v85_2 (nI 0)) := (hF2.at i_54 (by decide)).trans hM_87
  have hM_97 : M_94 oa = (b0_7 v2_0 v2_1 v2_2 (nI ((nst (prt Xv Yv) (Xv 1 + 1) (k2.toInt - Xv 1).toNat) + (Xv 15).toNat)) f_67) := (hF2.at i_41 (by decide)).trans hM_88
  have hM_98 : M_94 ha = (b2_2 v19_0 v19_1 v19_2 v19_3 (nI v19_4) (nI v19_5) v19_6 v19_7 v19_8 (nI v19_9) v19_10 (nI v19_11) v19_12 v19_13 0 v19_15 v19_16 v19_17 v19_18 v19_19) := (hF2.at i_42 (by decide)).trans hM_89
  have hOT : OTH K0 L0 oa M0 M_94 := hOT.tr hX0 hF2 (by decide)
  have hF : fr K0 L0 [0, 1, 2, 7, 8, 9, 10, 21, 56, 57, 63, 64, 65, 66, 67, 68, 69, 70, 71, 72] M0 M_94 := hF.trX hX0 hF2 (by decide)
  have hT2 : fT 2 K0 L0 [2, 5, 14] M0 M_94 := hT2.frrX hX0 hF2 (by decide)
  have hT9 : fT 9 K0 L0 [6, 9, 10, 11, 13, 14, 15] M0 M_94 := hT9.frrX hX0 hF2 (by decide)
  have hT1 : fT 1 K0 L0 [3] M0 M_94 := hT1.frrX hX0 hF2 (by decide)
  have hT10 : fT 10 K0 L0 [1, 2] M0 M_94 := hT10.trX hX0 gT10 (by decide)
  have hV : VC Bo K L Mb M_94 ha (va_up (va_up (va_up (va_up Xv 14 ((n_80 : Nat) : Int)) 15 ((0 : Nat) : Int)) 19 (0 : Int)) 16 (0 : Int)) (va_up (va_up (va_up Yv 38 p_81) 39 q_82) 40 r_83) := hVP
  refine lv_aload_n hx hb dX0_closeYear_67 rfl (lv_at hl 1 rfl) ?_
  refine lv_iload_n hx hb dX0_closeYear_68 rfl (lv_at hl 2 rfl) ?_
  refine pg_put (D := D) (ci := 2) (v := .int k2) (ty := .int) (C := RX2) (T := TX2) (N := 20) hx hb hg inG2 tyX2 tyX2_ok nmX2 hown hK hP hD hS i_42.1 hM_98 rfl 2 (by decide) (hg _ wd_628) (fun _ h9 => h9) rfl (by decide +kernel) rfl rfl (Nat.le_of_ble_eq_true rfl) dX0_closeYear_69 (fun H_99 locs hP hD hS => ?_)
  obtain ⟨M_100, eM_100⟩ : ∃ M1 : Hp, M1 = va_up M_94 ha ((b2_2 v19_0 v19_1 k2 v19_3 (nI v19_4) (nI v19_5) v19_6 v19_7 v19_8 (nI v19_9) v19_10 (nI v19_11) v19_12 v19_13 0 v19_15 v19_16 v19_17 v19_18 v19_19)) := ⟨_, rfl⟩
  have sM_100 : M_100 = sF M_94 ha 2 (.int k2) := eM_100.trans (sF_of (j := 2) (v := .int k2) hM_98 rfl)
  have hV : VC Bo K L Mb M_100 ha (va_up (va_up (va_up (va_up (va_up Xv 14 ((n_80 : Nat) : Int)) 15 ((0 : Nat) : Int)) 19 (0 : Int)) 16 (0 : Int)) 1 (k2 : Int32).toInt) (va_up (va_up (va_up Yv 38 p_81) 39 q_82) 40 r_83) := by rw [sM_100]; have h9 := VC.f2 (v := k2) hV hW i_42 hM_98 (Nat.le_of_ble_eq_true rfl); rw [show (k2 : Int32).toInt = (k2 : Int32).toInt from rfl] at h9; exact h9
  have hP : va_P D vwCl ([] ++ va_pl L M_100) H_99 := by rw [eM_100]; exact hP
  have hD : va_D A ([] ++ va_pl L M_100) := by rw [eM_100]; exact hD
  have hW : WOK cy K L M_100 := by rw [eM_100]; exact hW.up_2 i_42 ⟨v19_0, v19_1, k2, v19_3, v19_4, v19_5, v19_6, v19_7, v19_8, v19_9, v19_10, v19_11, v19_12, v19_13, 0, v19_15, v19_16, v19_17, v19_18, v19_19, rfl, i_46, h19_4, h19_5, i_47, i_48, i_49, h19_9, i_50, h19_11, i_51, i_52, i_53, i_54, i_55, i_56⟩
  have hF : fr K0 L0 [0, 1, 2, 7, 8, 9, 10, 21, 56, 57, 63, 64, 65, 66, 67, 68, 69, 70, 71, 72] M0 M_100 := by rw [eM_100]; exact hF.upX hX0 i_42 (by decide)
  have hOT : OTH K0 L0 oa M0 M_100 := by rw [eM_100]; exact hOT.upX hX0 i_42 (by decide)
  have hT2 : fT 2 K0 L0 [2, 5, 14] M0 M_100 := by rw [eM_100]; exact hT2.up (i := 2) hM_98 rfl (by decide)
  have hT9 : fT 9 K0 L0 [6, 9, 10, 11, 13, 14, 15] M0 M_100 := by rw [eM_100]; exact hT9.neX hX0 i_42 (by decide)
  have hT1 : fT 1 K0 L0 [3] M0 M_100 := by rw [eM_100]; exact hT1.neX hX0 i_42 (by decide)
  have hT10 : fT 10 K0 L0 [1, 2] M0 M_100 := by rw [eM_100]; exact hT10.neX hX0 i_42 (by decide)
  have hM_101 : M_100 ha = (b2_2 v19_0 v19_1 k2 v19_3 (nI v19_4) (nI v19_5) v19_6 v19_7 v19_8 (nI v19_9) v19_10 (nI v19_11) v19_12 v19_13 0 v19_15 v19_16 v19_17 v19_18 v19_19) := by rw [eM_100]; exact va_up_self _ _ _
  have hM_102 : M_100 v19_17 = (b1_4 v85_0 v85_1 v85_2 (nI 0)) := by rw [eM_100, va_up_ne _ _ (i_54.neT i_42 (by decide))]; exact hM_96
  have hM_103 : M_100 oa = (b0_7 v2_0 v2_1 v2_2 (nI ((nst (prt Xv Yv) (Xv 1 + 1) (k2.toInt - Xv 1).toNat) + (Xv 15).toNat)) f_67) := by rw [eM_100, va_up_ne _ _ (i_41.neT i_42 (by decide))]; exact hM_97
  refine lv_aload_n hx hb dX0_closeYear_72 rfl (lv_at hl 1 rfl) ?_
  refine lv_dup hx hb dX0_closeYear_73 rfl ?_
  refine pg_get (D := D) (ci := 2) (v := .int (nI v19_5)) (C := RX2) (T := TX2) (N := 20) hx hb hg inG2 hown hK hP i_42.1 hM_101 rfl 5 (by decide) (hg _ wd_669) (fun _ h9 => h9) rfl dX0_closeYear_74 ?_
  have hv13 : ((v19_5 : Nat) : Int) = Xv 13 := by have h9 : (cV 2 M_100 ha 5).toInt = Xv 13 := congrFun hV.2.1 13; rw [cV_of (j := 5) hM_101 rfl, nI_toInt (by omega)] at h9; exact h9
  refine lv_iconst (v := 1) hx hb dX0_closeYear_77 (by decide) ?_
  refine lv_iadd hx hb dX0_closeYear_78 ?_
  refine lv_topi (fun f_104 ef_104 => ?_)
  obtain rfl : f_104 = (nI (v19_5 + 1)) := ef_104.trans (nI_add v19_5 1)
  refine pg_put (D := D) (ci := 2) (v := .int (nI (v19_5 + 1))) (ty := .int) (C := RX2) (T := TX2) (N := 20) hx hb hg inG2 tyX2 tyX2_ok nmX2 hown hK hP hD hS i_42.1 hM_101 rfl 5 (by decide) (hg _ wd_669) (fun _ h9 => h9) rfl (by decide +kernel) rfl rfl (Nat.le_of_ble_eq_true rfl) dX0_closeYear_79 (fun H_105 locs hP hD hS => ?_)
  obtain ⟨M_106, eM_106⟩ : ∃ M1 : Hp, M1 = va_up M_100 ha ((b2_2 v19_0 v19_1 k2 v19_3 (nI v19_4) (nI (v19_5 + 1)) v19_6 v19_7 v19_8 (nI v19_9) v19_10 (nI v19_11) v19_12 v19_13 0 v19_15 v19_16 v19_17 v19_18 v19_19)) := ⟨_, rfl⟩
  have sM_106 : M_106 = sF M_100 ha 5 (.int (nI (v19_5 + 1))) := eM_106.trans (sF_of (j := 5) (v := .int (nI (v19_5 + 1))) hM_101 rfl)
  have hV : VC Bo K L Mb M_106 ha (va_up (va_up (va_up (va_up (va_up (va_up Xv 14 ((n_80 : Nat) : Int)) 15 ((0 : Nat) : Int)) 19 (0 : Int)) 16 (0 : Int)) 1 (k2 : Int32).toInt) 13 (((v19_5 + 1) : Nat) : Int)) (va_up (va_up (va_up Yv 38 p_81) 39 q_82) 40 r_83) := by rw [sM_106]; have h9 := VC.f5 (v := (nI (v19_5 + 1))) hV hW i_42 hM_101 (Nat.le_of_ble_eq_true rfl); rw [show ((nI (v19_5 + 1)) : Int32).toInt = (((v19_5 + 1) : Nat) : Int) from (nI_toInt (by omega))] at h9; exact h9
  have hP : va_P D vwCl ([] ++ va_pl L M_106) H_105 := by rw [eM_106]; exact hP
  have hD : va_D A ([] ++ va_pl L M_106) := by rw [eM_106]; exact hD
  have hW : WOK cy K L M_106 := by rw [eM_106]; exact hW.up_2 i_42 ⟨v19_0, v19_1, k2, v19_3, v19_4, (v19_5 + 1), v19_6, v19_7, v19_8, v19_9, v19_10, v19_11, v19_12, v19_13, 0, v19_15, v19_16, v19_17, v19_18, v19_19, rfl, i_46, h19_4, (by omega), i_47, i_48, i_49, h19_9, i_50, h19_11, i_51, i_52, i_53, i_54, i_55, i_56⟩
  have hF : fr K0 L0 [0, 1, 2, 7, 8, 9, 10, 21, 56, 57, 63, 64, 65, 66, 67, 68, 69, 70, 71, 72] M0 M_106 := by rw [eM_106]; exact hF.upX hX0 i_42 (by decide)
  have hOT : OTH K0 L0 oa M0 M_106 := by rw [eM_106]; exact hOT.upX hX0 i_42 (by decide)
  have hT2 : fT 2 K0 L0 [2, 5, 14] M0 M_106 := by rw [eM_106]; exact hT2.up (i := 5) hM_101 rfl (by decide)
  have hT9 : fT 9 K0 L0 [6, 9, 10, 11, 13, 14, 15] M0 M_106 := by rw [eM_106]; exact hT9.neX hX0 i_42 (by decide)
  have hT1 : fT 1 K0 L0 [3] M0 M_106 := by rw [eM_106]; exact hT1.neX hX0 i_42 (by decide)
  have hT10 : fT 10 K0 L0 [1, 2] M0 M_106 := by rw [eM_106]; exact hT10.neX hX0 i_42 (by decide)
  have hM_107 : M_106 ha = (b2_2 v19_0 v19_1 k2 v19_3 (nI v19_4) (nI (v19_5 + 1)) v19_6 v19_7 v19_8 (nI v19_9) v19_10 (nI v19_11) v19_12 v19_13 0 v19_15 v19_16 v19_17 v19_18 v19_19) := by rw [eM_106]; exact va_up_self _ _ _
  have hM_108 : M_106 v19_17 = (b1_4 v85_0 v85_1 v85_2 (nI 0)) := by rw [eM_106, va_up_ne _ _ (i_54.neT i_42 (by decide))]; exact hM_102
  have hM_109 : M_106 oa = (b0_7 v2_0 v2_1 v2_2 (nI ((nst (prt Xv Yv) (Xv 1 + 1) (k2.toInt - Xv 1).toNat) + (Xv 15).toNat)) f_67) := by rw [eM_106, va_up_ne _ _ (i_41.neT i_42 (by decide))]; exact hM_103
  have hb_110 : (v19_5 + 1) ≤ 12 := by omega
  refine lv_aload_n hx hb dX0_closeYear_82 rfl (lv_at hl 0 rfl) ?_
  refine lv_aload_n hx hb dX0_closeYear_83 rfl (lv_at hl 1 rfl) ?_
  refine lv_iload_n hx hb dX0_closeYear_84 rfl (lv_at hl 2 rfl) ?_
  have hPc : va_P D vwCl ([] ++ va_pl L M_106) H_105 := hP
  have hDc : va_D A ([] ++ va_pl L M_106) := hD
  have hFc : ∀ q, va_A ([] ++ va_pl L M_106) H_105.size q → A q := pg_free hDc hS hA
  refine va_callv (va_runV (As := [.ref ha, .int k2]) (rest := []) ⟨hx, hb, hml, hown, hg⟩ (e_handOver l D cy K L M_106 H_105.size oa ha k2 Bo Mb (va_up (va_up (va_up (va_up (va_up (va_up Xv 14 ((n_80 : Nat) : Int)) 15 ((0 : Nat) : Int)) 19 (0 : Int)) 16 (0 : Int)) 1 (k2 : Int32).toInt) 13 (((v19_5 + 1) : Nat) : Int)) (va_up (va_up (va_up Yv 38 p_81) 39 q_82) 40 r_83)  hW i_41 i_42 hV hk2 hn28) (cwV 2 hg (gV wd_670 wd_671 wd_672 wd_204 wd_673) rfl rfl rfl (by decide +kernel) ⟨(Nat.le_trans (Nat.le_of_ble_eq_true rfl) hRf), (Nat.le_trans (Nat.le_of_ble_eq_true rfl) hRl)⟩) ⟨PG.blind, pg_recv hK hP i_41.1 hM_109 rfl, fun U hU hW => ⟨rfl, PG.at hPc hK hDc hN hU hW⟩⟩ rfl rfl hl.1 rfl (lv_room (Nat.le_of_ble_eq_true rfl)) dX0_closeYear_85 ⟨(Nat.le_trans (Nat.le_of_ble_eq_true rfl) hRc), (Nat.le_trans (Nat.le_of_ble_eq_true rfl) hRs)⟩) hS (fun q _ h => hFc q h) hFc (fun M_113 t H_111 locs ht hvm hw hB hz1 hk1 hS => ?_)
  have hWb := hW
  obtain ⟨hW, hF2, gT2, gT9, hVP, hp_114⟩ := hw
  obtain ⟨hP1, hD1⟩ := hB
  rw [ht] at hP1
  have hP : va_P D vwCl ([] ++ va_pl L M_113) H_111 := hP1
  have hD : va_D A ([] ++ va_pl L M_113) := hD1.mono hFc
  have hM_115 : M_113 v19_17 = (b1_4 v85_0 v85_1 v85_2 (nI 0)) := (hF2.at i_54 (by decide)).trans hM_108
  have hM_116 : M_113 oa = (b0_7 v2_0 v2_1 v2_2 (nI ((nst (prt Xv Yv) (Xv 1 + 1) (k2.toInt - Xv 1).toNat) + (Xv 15).toNat)) f_67) := (hF2.at i_41 (by decide)).trans hM_109
  have hOT : OTH K0 L0 oa M0 M_113 := hOT.tr hX0 hF2 (by decide)
  have hF : fr K0 L0 [0, 1, 2, 7, 8, 9, 10, 21, 56, 57, 63, 64, 65, 66, 67, 68, 69, 70, 71, 72] M0 M_113 := hF.trX hX0 hF2 (by decide)
  have hT2 : fT 2 K0 L0 [2, 5, 14] M0 M_113 := hT2.trX hX0 gT2 (by decide)
  have hT9 : fT 9 K0 L0 [6, 9, 10, 11, 13, 14, 15] M0 M_113 := hT9.trX hX0 gT9 (by decide)
  have hT1 : fT 1 K0 L0 [3] M0 M_113 := hT1.frrX hX0 hF2 (by decide)
  have hT10 : fT 10 K0 L0 [1, 2] M0 M_113 := hT10.frrX hX0 hF2 (by decide)
  obtain ⟨g_117, hg23, hV⟩ := hVP
  rw [hQ]
  exact W.vret hx hb hr (fun t ht hW9 => ⟨⟨(K, L, M_113), rfl, ⟨hX0, hW, hF, hT2, hT9, hT1, hT10, trivial⟩, ⟨⟨(va_up (va_up (va_up (va_up (va_up (va_up Xv 14 ((n_80 : Nat) : Int)) 15 ((0 : Nat) : Int)) 19 (0 : Int)) 16 (0 : Int)) 1 (k2 : Int32).toInt) 13 (((v19_5 + 1) : Nat) : Int)), n_80, p_81, q_82, r_83, g_117, ⟨rfl, rfl, rfl, rfl, rfl, (by show (((v19_5 + 1) : Nat) : Int) = Xv 13 + 1; omega), rfl, rfl, rfl, rfl, rfl, rfl, (fun i => (lKup _ 3 i _ _ (by decide)).trans ((lKup _ 3 i _ _ (by decide)).trans ((lKup _ 3 i _ _ (by decide)).trans ((lKup _ 3 i _ _ (by decide)).trans ((lKup _ 3 i _ _ (by decide)).trans ((lKup _ 3 i _ _ (by decide)).trans (rfl)))))))⟩, htb9, hg23, hV⟩, hNW, hOT, (by rw [cV_of (j := 3) hM_116 rfl, nI_toInt (by omega)]; unfold cntC; omega), by rw [ht]; exact hP, hD⟩⟩, hS.F ht⟩) hS.2.2 dX0_closeYear_88
