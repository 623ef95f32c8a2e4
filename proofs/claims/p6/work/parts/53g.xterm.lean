/-- the greatest value of a term -/
def mostI (w : Int32) : Int := if w.toInt = 0 then 1000000 else if w.toInt = 1 then 1000000000 else if w.toInt = 4 then 500 else 1000
theorem mostM {w : Int32} (h0 : 0 ≤ w.toInt) (h1 : w.toInt < 5) : (mtI w.toNatClampNeg).toInt = mostI w := by
  have e : (w.toNatClampNeg : Int) = w.toInt := clT h0
  unfold mostI
  rcases (show w.toNatClampNeg = 0 ∨ w.toNatClampNeg = 1 ∨ w.toNatClampNeg = 2 ∨ w.toNatClampNeg = 3 ∨ w.toNatClampNeg = 4 by omega) with q | q | q | q | q
  · rw [q, if_pos (by omega)]; rfl
  · rw [q, if_neg (by omega), if_pos (by omega)]; rfl
  · rw [q, if_neg (by omega), if_neg (by omega), if_neg (by omega)]; rfl
  · rw [q, if_neg (by omega), if_neg (by omega), if_neg (by omega)]; rfl
  · rw [q, if_neg (by omega), if_neg (by omega), if_pos (by omega)]; rfl
def okTm (n : Nat) (SX : Nat → Nat → Int) (SY : Nat → Nat → Nat → Int32) (h s w v : Int32) : Prop := okH n h ∧ 1 ≤ SX h.toNatClampNeg 11 ∧ (w.toInt = 4 ∨ (0 ≤ s.toInt ∧ s.toInt < 6)) ∧ 0 ≤ w.toInt ∧ w.toInt < 5 ∧ 0 ≤ v.toInt ∧ v.toInt ≤ mostI w ∧ SX h.toNatClampNeg 1 < (SY h.toNatClampNeg 34 (SX h.toNatClampNeg 11 - 1).toNat).toInt ∧ (SY h.toNatClampNeg 34 (SX h.toNatClampNeg 11 - 1).toNat).toInt < 1000
noncomputable def anTm (n : Nat) (SX : Nat → Nat → Int) (SY : Nat → Nat → Nat → Int32) (h s w v : Int32) : Int32 := (@ite _ (okTm n SX SY h s w v) (Classical.propDecidable _) ((if w.toInt = 4 then SY h.toNatClampNeg 35 (SX h.toNatClampNeg 11 - 1).toNat else SY h.toNatClampNeg 36 (24 * (SX h.toNatClampNeg 11 - 1).toNat + (6 * w.toNatClampNeg + s.toNatClampNeg)))) (-1))
noncomputable def syTm (n : Nat) (SX : Nat → Nat → Int) (SY : Nat → Nat → Nat → Int32) (h s w v : Int32) : Nat → Nat → Nat → Int32 := (@ite _ (okTm n SX SY h s w v) (Classical.propDecidable _) (va_up SY h.toNatClampNeg (if w.toInt = 4 then va_up (SY h.toNatClampNeg) 35 (upd (SY h.toNatClampNeg 35) (SX h.toNatClampNeg 11 - 1).toNat v) else va_up (SY h.toNatClampNeg) 36 (upd (SY h.toNatClampNeg 36) (24 * (SX h.toNatClampNeg 11 - 1).toNat + (6 * w.toNatClampNeg + s.toNatClampNeg)) v))) (SY))
theorem SIM.term {k : Nat} {T : Int} {np : Nat} {PK PT : Nat → Int32} {x : Nat → Int} {y : Nat → Nat → Int32} {X : Nat → Int} {Y : Nat → Nat → Int32} {i j : Nat} {p : Prop} [Decidable p] {v : Int32} (h : SIM k T np PK PT x y X Y) : SIM k T np PK PT x (if p then va_up y 35 (upd (y 35) i v) else va_up y 36 (upd (y 36) j v)) X (if p then va_up Y 35 (upd (Y 35) i v) else va_up Y 36 (upd (Y 36) j v)) := by
  by_cases q : p
  · rw [if_pos q, if_pos q]
    refine ⟨h.x0, h.x1, h.x10, h.x11, h.x12, h.x13, h.x14, h.x15, h.x16, h.x20, h.pl, h.te, h.tn, h.se, fun m hm => ?_, h.en, h.mo, h.me, h.un, h.ow, h.ob, h.wh, h.ex⟩
    have g := h.ru m hm
    refine ⟨g.1, g.2.1, ?_, g.2.2.2⟩
    show upd (y 35) i v m = upd (Y 35) i v m
    by_cases z : m = i
    · rw [z, upd_self, upd_self]
    · rw [upd_ne _ _ z, upd_ne _ _ z]
      exact g.2.2.1
  · rw [if_neg q, if_neg q]
    refine ⟨h.x0, h.x1, h.x10, h.x11, h.x12, h.x13, h.x14, h.x15, h.x16, h.x20, h.pl, h.te, h.tn, h.se, fun m hm => ?_, h.en, h.mo, h.me, h.un, h.ow, h.ob, h.wh, h.ex⟩
    have g := h.ru m hm
    refine ⟨g.1, g.2.1, g.2.2.1, fun t ht => ?_⟩
    show upd (y 36) j v (24 * m + t) = upd (Y 36) j v (24 * m + t)
    by_cases z : 24 * m + t = j
    · rw [z, upd_self, upd_self]
    · rw [upd_ne _ _ z, upd_ne _ _ z]
      exact g.2.2.2 t ht
set_option maxHeartbeats 4000000 in
set_option maxRecDepth 100000 in
theorem e_latest (l : Launch) (D : va_G) (cy : Nat → ClassId) (K : Kp) (L : List Nat) (M : Hp) (sz : Nat) (oa : Nat) (hW : WOK cy K L M) (ia : isk K L oa 2 0) : Met l yX2_latestRule (wsM yX2_latestRule cX2_latestRule 1 (some (.object "PartnersBook$Rule"))) ({ frames := 0, cells := 0, slots := 0, locals := 0 }) (va_Pc [.ref oa] (PG D cy [] L M sz)) (va_Qq (fun (r : Option Nat) (_ : Unit) => iskN K L r 6 0 ∧ (∀ q9, r = some q9 → (1 ≤ (cV 2 M oa 11).toInt ∧ (cV 2 M oa 11).toInt ≤ 16) ∧ RFc (M (rA 2 M oa 10)) ((cV 2 M oa 11).toInt - 1).toNat = some q9) ∧ (r = none → (cV 2 M oa 11).toInt = 0 ∨ (1 ≤ (cV 2 M oa 11).toInt ∧ (cV 2 M oa 11).toInt ≤ 16) ∧ RFc (M (rA 2 M oa 10)) ((cV 2 M oa 11).toInt - 1).toNat = none)) (fun _ t => PQ D [] L M (va_A ([] ++ va_pl L M) sz) t) (va_A ([] ++ va_pl L M) sz)) 0 0 (va_A ([] ++ va_pl L M) sz) := by
  refine Met.ofW (cc := cX2_latestRule) (maxL := 1) (ret := (some (.object "PartnersBook$Rule"))) (by decide) rfl ?_
  intro p e s m args below meth c s₁ B hml hv
  obtain ⟨rfl, hsz, hP, hK, hD0, hN⟩ := hv
  have hx := B.exec
  have hb := B.bytes
  have hr := B.returns
  have hts := atoms_spec (ws := (wsM yX2_latestRule cX2_latestRule 1 (some (.object "PartnersBook$Rule")))) B.pre
  have hg : ∀ w ∈ lw_good, w.before _ s = true := fun w h => hts w (List.mem_cons_of_mem _ h)
  have hown : s.vm.findClass RX2 = some m.cls := findClass_of_methodNamed B.named
  have hlocks := B.notSynchronized
  subst hsz
  have hD := hD0.self (sz := s.heap.size)
  generalize hAe : va_A ([] ++ va_pl L M) s.heap.size = A at hD ⊢
  have hA : ∀ q : Nat, s.heap.size ≤ q → A q := fun q h => by rw [← hAe]; exact Or.inr h
  have hS : va_S A s.heap s.heap [] := va_S.rf
  have hl := lv_entry ([.ref oa]) (n := 1) (Nat.le_of_ble_eq_true rfl)
  rw [lg_entry_eq]
  generalize (lg_sl ([.ref oa]) ++ List.replicate (1 - (lg_sl ([.ref oa])).length) Slot.unset).toArray = ls at hl ⊢
  refine W.nameQ (fun Q hQ => ?_)
  refine W.nameR (fun R hR => ?_)
  have hRf : 0 ≤ R.frames := by rw [hR]; exact Nat.le_of_ble_eq_true rfl
  have hRl : 0 ≤ R.locals := by rw [hR]; exact Nat.le_of_ble_eq_true rfl
  have hRc : 0 ≤ R.cells := by rw [hR]; exact Nat.le_of_ble_eq_true rfl
  have hRs : 0 ≤ R.slots := by rw [hR]; exact Nat.le_of_ble_eq_true rfl
  have hl : lv_has ls 1 [(0, .ref oa)] := hl
  refine lv_aload_n hx hb dX2_latestRule_0 rfl (lv_at hl 0 rfl) ?_
  obtain ⟨v1_0, v1_1, v1_2, v1_3, v1_4, v1_5, v1_6, v1_7, v1_8, v1_9, v1_10, v1_11, v1_12, v1_13, v1_14, v1_15, v1_16, v1_17, v1_18, v1_19, hM1, h1_3, h1_4, h1_5, h1_6, h1_7, h1_8, h1_9, h1_10, h1_11, h1_12, h1_13, h1_16, h1_17, h1_18, h1_19⟩ := hW.open_2 ia
  refine pg_get (D := D) (ci := 2) (v := .int (nI v1_11)) (C := RX2) (T := TX2) (N := 20) hx hb hg inG2 hown hK hP ia.1 hM1 rfl 11 (by decide) (hg _ wd_66) (fun _ h9 => h9) rfl dX2_latestRule_1 ?_
  refine lv_if_le (tgt := 30) hx hb dX2_latestRule_4 (by decide) (fun c_2 => ?_) (fun c_2 => ?_)
  · have hz := rfl (a := 0)
    have n_3 : v1_11 ≤ 0 := (iLE (a := v1_11) (b := 0) (by omega) (by omega)).mp c_2
    refine lv_null hx hb dX2_latestRule_30 ?_
    have hI_4 : ((v1_11 : Nat) : Int) ≤ (0 : Int) := ileI (nI_toInt (by omega)) rfl c_2
    have hA_5 : (cV 2 M oa 0).toInt = (v1_0 : Int32).toInt := by rw [cV_of hM1 rfl]
    have hA_6 : (cV 2 M oa 1).toInt = (v1_1 : Int32).toInt := by rw [cV_of hM1 rfl]
    have hA_7 : (cV 2 M oa 2).toInt = (v1_2 : Int32).toInt := by rw [cV_of hM1 rfl]
    have hA_8 : (cV 2 M oa 4).toInt = ((v1_4 : Nat) : Int) := by rw [cV_of hM1 rfl]; exact nI_toInt (by omega)
    have hA_9 : (cV 2 M oa 5).toInt = ((v1_5 : Nat) : Int) := by rw [cV_of hM1 rfl]; exact nI_toInt (by omega)
    have hA_10 : (cV 2 M oa 9).toInt = ((v1_9 : Nat) : Int) := by rw [cV_of hM1 rfl]; exact nI_toInt (by omega)
    have hA_11 : (cV 2 M oa 11).toInt = ((v1_11 : Nat) : Int) := by rw [cV_of hM1 rfl]; exact nI_toInt (by omega)
    have hA_12 : (cV 2 M oa 15).toInt = (v1_15 : Int32).toInt := by rw [cV_of hM1 rfl]
    rw [hQ]
    exact W.aret (v := .null) hx hb hr (Or.inl ⟨_, rfl⟩) (Or.inl rfl) (fun t ht hW9 => ⟨⟨none, (), rfl, ⟨iskN.none, ⟨(fun t9 q9 => by cases q9), fun _ => Or.inl (by omega)⟩⟩, ⟨by rw [ht]; exact hP, hD⟩⟩, hS.F ht⟩) hS.2.2 dX2_latestRule_31
  · have hz := rfl (a := 0)
    have n_13 : ¬ (v1_11 ≤ 0) := fun q => c_2 ((iLE (a := v1_11) (b := 0) (by omega) (by omega)).mpr q)
    refine lv_aload_n hx hb dX2_latestRule_7 rfl (lv_at hl 0 rfl) ?_
    refine pg_get (D := D) (ci := 2) (v := .int (nI v1_11)) (C := RX2) (T := TX2) (N := 20) hx hb hg inG2 hown hK hP ia.1 hM1 rfl 11 (by decide) (hg _ wd_66) (fun _ h9 => h9) rfl dX2_latestRule_8 ?_
    refine lv_bipush (v := 16) hx hb dX2_latestRule_11 (by decide) ?_
    refine lv_icmp_gt (tgt := 30) hx hb dX2_latestRule_13 (by decide) (fun c_14 => ?_) (fun c_14 => ?_)
    · have hz := rfl (a := 0)
      have n_15 : 16 < v1_11 := (iLT (a := 16) (b := v1_11) (by omega) (by omega)).mp c_14
      refine lv_null hx hb dX2_latestRule_30 ?_
      have hI_16 : (0 : Int) < ((v1_11 : Nat) : Int) := inleI (nI_toInt (by omega)) rfl c_2
      have hI_17 : (16 : Int) < ((v1_11 : Nat) : Int) := iltI rfl (nI_toInt (by omega)) c_14
      have hA_18 : (cV 2 M oa 0).toInt = (v1_0 : Int32).toInt := by rw [cV_of hM1 rfl]
      have hA_19 : (cV 2 M oa 1).toInt = (v1_1 : Int32).toInt := by rw [cV_of hM1 rfl]
      have hA_20 : (cV 2 M oa 2).toInt = (v1_2 : Int32).toInt := by rw [cV_of hM1 rfl]
      have hA_21 : (cV 2 M oa 4).toInt = ((v1_4 : Nat) : Int) := by rw [cV_of hM1 rfl]; exact nI_toInt (by omega)
      have hA_22 : (cV 2 M oa 5).toInt = ((v1_5 : Nat) : Int) := by rw [cV_of hM1 rfl]; exact nI_toInt (by omega)
      have hA_23 : (cV 2 M oa 9).toInt = ((v1_9 : Nat) : Int) := by rw [cV_of hM1 rfl]; exact nI_toInt (by omega)
      have hA_24 : (cV 2 M oa 11).toInt = ((v1_11 : Nat) : Int) := by rw [cV_of hM1 rfl]; exact nI_toInt (by omega)
      have hA_25 : (cV 2 M oa 15).toInt = (v1_15 : Int32).toInt := by rw [cV_of hM1 rfl]
      rw [hQ]
      exact W.aret (v := .null) hx hb hr (Or.inl ⟨_, rfl⟩) (Or.inl rfl) (fun t ht hW9 => ⟨⟨none, (), rfl, ⟨iskN.none, ⟨(fun t9 q9 => by cases q9), fun _ => Or.inl (by omega)⟩⟩, ⟨by rw [ht]; exact hP, hD⟩⟩, hS.F ht⟩) hS.2.2 dX2_latestRule_31
    · have hz := rfl (a := 0)
      have n_26 : ¬ (16 < v1_11) := fun q => c_14 ((iLT (a := 16) (b := v1_11) (by omega) (by omega)).mpr q)
      refine lv_aload_n hx hb dX2_latestRule_16 rfl (lv_at hl 0 rfl) ?_
      refine pg_get (D := D) (ci := 2) (v := .ref v1_10) (C := RX2) (T := TX2) (N := 20) hx hb hg inG2 hown hK hP ia.1 hM1 rfl 10 (by decide) (hg _ wd_67) (fun _ h9 => h9) rfl dX2_latestRule_17 ?_
      refine lv_aload_n hx hb dX2_latestRule_20 rfl (lv_at hl 0 rfl) ?_
      refine pg_get (D := D) (ci := 2) (v := .int (nI v1_11)) (C := RX2) (T := TX2) (N := 20) hx hb hg inG2 hown hK hP ia.1 hM1 rfl 11 (by decide) (hg _ wd_66) (fun _ h9 => h9) rfl dX2_latestRule_21 ?_
      refine lv_iconst (v := 1) hx hb dX2_latestRule_24 (by decide) ?_
      refine lv_isub hx hb dX2_latestRule_25 ?_
      refine lv_topi (fun f_27 ef_27 => ?_)
      obtain rfl : f_27 = (nI (v1_11 - 1)) := ef_27.trans (nI_prd (by omega))
      obtain ⟨f28, hM28, hf28⟩ := hW.open_20 h1_10
      have hi_29 : vp_in (nI (v1_11 - 1)) 16 := (inbN (v1_11 - 1) 16 (by omega) (by omega))
      refine pg_aldq hx hb hK hP h1_10.1 6 hM28 rfl hi_29 dX2_latestRule_26 ?_
      obtain ⟨q_30, ho_31⟩ : ∃ q : Option Nat, q = f28 ((nI (v1_11 - 1)) : Int32).toNatClampNeg := ⟨_, rfl⟩
      rw [← ho_31]
      have hq_32 : iskN K L q_30 6 0 := by rw [ho_31]; exact hf28 _ (vp_lt hi_29)
      rcases q_30 with _ | bq_30
      · have hz := rfl (a := 0)
        refine lv_goto (tgt := 31) hx hb dX2_latestRule_27 (by decide) ?_
        have hI_34 : (0 : Int) < ((v1_11 : Nat) : Int) := inleI (nI_toInt (by omega)) rfl c_2
        have hI_35 : ((v1_11 : Nat) : Int) ≤ (16 : Int) := inltI rfl (nI_toInt (by omega)) c_14
        have hA_36 : (cV 2 M oa 0).toInt = (v1_0 : Int32).toInt := by rw [cV_of hM1 rfl]
        have hA_37 : (cV 2 M oa 1).toInt = (v1_1 : Int32).toInt := by rw [cV_of hM1 rfl]
        have hA_38 : (cV 2 M oa 2).toInt = (v1_2 : Int32).toInt := by rw [cV_of hM1 rfl]
        have hA_39 : (cV 2 M oa 4).toInt = ((v1_4 : Nat) : Int) := by rw [cV_of hM1 rfl]; exact nI_toInt (by omega)
        have hA_40 : (cV 2 M oa 5).toInt = ((v1_5 : Nat) : Int) := by rw [cV_of hM1 rfl]; exact nI_toInt (by omega)
        have hA_41 : (cV 2 M oa 9).toInt = ((v1_9 : Nat) : Int) := by rw [cV_of hM1 rfl]; exact nI_toInt (by omega)
        have hA_42 : (cV 2 M oa 11).toInt = ((v1_11 : Nat) : Int) := by rw [cV_of hM1 rfl]; exact nI_toInt (by omega)
        have hA_43 : (cV 2 M oa 15).toInt = (v1_15 : Int32).toInt := by rw [cV_of hM1 rfl]
        rw [hQ]
        exact W.aret (v := .null) hx hb hr (Or.inl ⟨_, rfl⟩) (Or.inl rfl) (fun t ht hW9 => ⟨⟨none, (), rfl, ⟨iskN.none, ⟨(fun t9 q9 => by cases q9), fun _ => Or.inr ⟨by omega, (by rw [show ((cV 2 M oa 11).toInt - 1).toNat = v1_11 - 1 by omega, rA_of (j := 10) hM1 rfl, RFc_of hM28]; have h9 := Eq.symm ho_31; rw [nI_cl (by omega)] at h9; exact h9)⟩⟩⟩, ⟨by rw [ht]; exact hP, hD⟩⟩, hS.F ht⟩) hS.2.2 dX2_latestRule_31
      · have hb_33 := hq_32 bq_30 rfl
        refine lv_goto (tgt := 31) hx hb dX2_latestRule_27 (by decide) ?_
        have hI_44 : (0 : Int) < ((v1_11 : Nat) : Int) := inleI (nI_toInt (by omega)) rfl c_2
        have hI_45 : ((v1_11 : Nat) : Int) ≤ (16 : Int) := inltI rfl (nI_toInt (by omega)) c_14
        have hA_46 : (cV 2 M oa 0).toInt = (v1_0 : Int32).toInt := by rw [cV_of hM1 rfl]
        have hA_47 : (cV 2 M oa 1).toInt = (v1_1 : Int32).toInt := by rw [cV_of hM1 rfl]
        have hA_48 : (cV 2 M oa 2).toInt = (v1_2 : Int32).toInt := by rw [cV_of hM1 rfl]
        have hA_49 : (cV 2 M oa 4).toInt = ((v1_4 : Nat) : Int) := by rw [cV_of hM1 rfl]; exact nI_toInt (by omega)
        have hA_50 : (cV 2 M oa 5).toInt = ((v1_5 : Nat) : Int) := by rw [cV_of hM1 rfl]; exact nI_toInt (by omega)
        have hA_51 : (cV 2 M oa 9).toInt = ((v1_9 : Nat) : Int) := by rw [cV_of hM1 rfl]; exact nI_toInt (by omega)
        have hA_52 : (cV 2 M oa 11).toInt = ((v1_11 : Nat) : Int) := by rw [cV_of hM1 rfl]; exact nI_toInt (by omega)
        have hA_53 : (cV 2 M oa 15).toInt = (v1_15 : Int32).toInt := by rw [cV_of hM1 rfl]
        rw [hQ]
        exact W.aret (v := .ref bq_30) hx hb hr (Or.inl ⟨_, rfl⟩) (Or.inr ⟨_, rfl⟩) (fun t ht hW9 => ⟨⟨(some bq_30), (), rfl, ⟨iskN.some hb_33, ⟨(fun t9 q9 => by cases q9; exact ⟨by omega, (by rw [show ((cV 2 M oa 11).toInt - 1).toNat = v1_11 - 1 by omega, rA_of (j := 10) hM1 rfl, RFc_of hM28]; have h9 := (Eq.symm ho_31); rw [nI_cl (by omega)] at h9; exact h9)⟩), (fun q9 => by cases q9)⟩⟩, ⟨by rw [ht]; exact hP, hD⟩⟩, hS.F ht⟩) hS.2.2 dX2_latestRule_31
set_option maxHeartbeats 4000000 in
set_option maxRecDepth 100000 in
theorem x_term (l : Launch) (D : va_G) (cy : Nat → ClassId) (K : Kp) (L : List Nat) (M : Hp) (sz : Nat) (xa : Nat) (x0 : Nat) (x1 : Nat) (x2 : Nat) (x3 : Nat) (x4 : Nat) (x5 : Nat) (x6 : Nat) (x7 : Int32) (x8 : Nat) (x9 : Int32) (x10 : Int32) (k1 : Int32) (k2 : Int32) (k3 : Int32) (k4 : Int32) (Bo : Nat → Nat × Nat) (T : Int) (PK : Nat → Int32) (PT : Nat → Int32) (SX : Nat → Nat → Int) (SY : Nat → Nat → Nat → Int32) (hW : WOK cy K L M) (i0 : isk K L x0 17 8) (b1 : x1 ≤ 8) (i2 : isk K L x2 19 40) (b3 : x3 ≤ 40) (i4 : isk K L x4 7 0) (i5 : isk K L x5 5 0) (i6 : isk K L x6 60 24) (i8 : isk K L x8 73 25) (hC : CX Bo K L x0 x1 T x3 PK PT SX SY M) (hSV : ∀ k, k < x1 → SV (SX k) (SY k)) (hHI : ∀ k, k < x1 → HI (SX k) (SY k)) (hT : (0 ≤ T ∧ T ≤ 900000)) : Met l yX11_term (wsM yX11_term cX11_term 7 (some .int)) ({ frames := 2, cells := 0, slots := 0, locals := 45 }) (va_Pc [.ref xa, .int k1, .int k2, .int k3, .int k4] (fun U => PG D cy [(xa, (b11_1 x0 (nI x1) x2 (nI x3) x4 x5 x6 x7 x8 x9 x10))] L M sz U ∧ STAT (va_A ([(xa, (b11_1 x0 (nI x1) x2 (nI x3) x4 x5 x6 x7 x8 x9 x10))] ++ va_pl L M) sz) U)) (va_Qi (fun (r : Int32) (M9 : Hp) => WOK cy K L M9 ∧ fr K L [6, 54] M M9 ∧ fT 6 K L [1] M M9 ∧ (CX Bo K L x0 x1 (T + 1) x3 PK PT SX (syTm x1 SX SY k1 k2 k3 k4) M9) ∧ ((r = anTm x1 SX SY k1 k2 k3 k4))) (fun M9 t => ∃ (w9 : Int32), PQ D [(xa, (b11_1 x0 (nI x1) x2 (nI x3) x4 x5 x6 x7 x8 w9 (-1)))] L M9 (va_A ([(xa, (b11_1 x0 (nI x1) x2 (nI x3) x4 x5 x6 x7 x8 x9 x10))] ++ va_pl L M) sz) t) (va_A ([(xa, (b11_1 x0 (nI x1) x2 (nI x3) x4 x5 x6 x7 x8 x9 x10))] ++ va_pl L M) sz)) 0 0 (va_A ([(xa, (b11_1 x0 (nI x1) x2 (nI x3) x4 x5 x6 x7 x8 x9 x10))] ++ va_pl L M) sz) := by
  refine Met.ofW (cc := cX11_term) (maxL := 7) (ret := (some .int)) (by decide) rfl ?_
  intro p e s m args below meth c s₁ B hml hv
  obtain ⟨rfl, ⟨hsz, hP, hK, hD0, hN⟩, tS, hZS, hTS⟩ := hv
  have hx := B.exec
  have hb := B.bytes
  have hr := B.returns
  have hts := atoms_spec (ws := (wsM yX11_term cX11_term 7 (some .int))) B.pre
  have hg : ∀ w ∈ lw_good, w.before _ s = true := fun w h => hts w (List.mem_cons_of_mem _ h)
  have hown : s.vm.findClass RX11 = some m.cls := findClass_of_methodNamed B.named
  have hlocks := B.notSynchronized
  subst hsz
  have hD := hD0.self (sz := s.heap.size)
  generalize hAe : va_A ([(xa, (b11_1 x0 (nI x1) x2 (nI x3) x4 x5 x6 x7 x8 x9 x10))] ++ va_pl L M) s.heap.size = A at hD hZS hTS ⊢
  have hA : ∀ q : Nat, s.heap.size ≤ q → A q := fun q h => by rw [← hAe]; exact Or.inr h
  have hS : va_S A s.heap s.heap [] := va_S.rf
  have hl := lv_entry ([.ref xa, .int k1, .int k2, .int k3, .int k4]) (n := 7) (Nat.le_of_ble_eq_true rfl)
  rw [lg_entry_eq]
  generalize (lg_sl ([.ref xa, .int k1, .int k2, .int k3, .int k4]) ++ List.replicate (7 - (lg_sl ([.ref xa, .int k1, .int k2, .int k3, .int k4])).length) Slot.unset).toArray = ls at hl ⊢
  refine W.nameQ (fun Q hQ => ?_)
  refine W.nameR (fun R hR => ?_)
  have hRf : 2 ≤ R.frames := by rw [hR]; exact Nat.le_of_ble_eq_true rfl
  have hRl : 45 ≤ R.locals := by rw [hR]; exact Nat.le_of_ble_eq_true rfl
  have hRc : 0 ≤ R.cells := by rw [hR]; exact Nat.le_of_ble_eq_true rfl
  have hRs : 0 ≤ R.slots := by rw [hR]; exact Nat.le_of_ble_eq_true rfl
  have hF : fr K L [6, 54] M M := fr.rf
  have hT6 : fT 6 K L [1] M M := fT.rf
  have hl : lv_has ls 7 [(0, .ref xa), (1, .int k1), (2, .int k2), (3, .int k3), (4, .int k4)] := hl
  have hW0 := hW
  refine lv_aload_n hx hb dX11_term_0 rfl (lv_at hl 0 rfl) ?_
  refine lv_iload_n hx hb dX11_term_1 rfl (lv_at hl 1 rfl) ?_
  have hPc : va_P D vwCl ([(xa, (b11_1 x0 (nI x1) x2 (nI x3) x4 x5 x6 x7 x8 x9 x10))] ++ va_pl L M) s.heap := hP
  have hDc : va_D A ([(xa, (b11_1 x0 (nI x1) x2 (nI x3) x4 x5 x6 x7 x8 x9 x10))] ++ va_pl L M) := hD
  have hFc : ∀ q, va_A ([(xa, (b11_1 x0 (nI x1) x2 (nI x3) x4 x5 x6 x7 x8 x9 x10))] ++ va_pl L M) s.heap.size q → A q := pg_free hDc hS hA
  refine va_callq (va_runV (As := [.int k1]) (rest := []) ⟨hx, hb, hml, hown, hg⟩ (e_houseAt l D cy K L M s.heap.size xa x0 x1 x2 x3 x4 x5 x6 x7 x8 x9 x10 k1 Bo T PK PT SX SY  hW i0 b1 i2 b3 i4 i5 i6 i8 hC) (cwV 1 hg (gV wd_340 wd_341 wd_342 wd_3 wd_343) rfl rfl rfl (by decide +kernel) ⟨(Nat.le_trans (Nat.le_of_ble_eq_true rfl) hRf), (Nat.le_trans (Nat.le_of_ble_eq_true rfl) hRl)⟩) ⟨PG.blind, va_recv hK hP (ci := 11) (q0 := 0) rfl rfl, fun U hU hW => ⟨rfl, PG.at hPc hK hDc hN hU hW⟩⟩ rfl rfl hl.1 rfl (lv_room (Nat.le_of_ble_eq_true rfl)) dX11_term_2 ⟨(Nat.le_trans (Nat.le_of_ble_eq_true rfl) hRc), (Nat.le_trans (Nat.le_of_ble_eq_true rfl) hRs)⟩) hS (fun q _ h => hFc q h) hFc (fun r_2 M_3 t H_1 locs ht hvm hw hB hz1 hk1 hS => ?_)
  have hp_4 := hw
  obtain ⟨hP1, hD1⟩ := hB
  rw [ht] at hP1
  have hP : va_P D vwCl ([(xa, (b11_1 x0 (nI x1) x2 (nI x3) x4 x5 x6 x7 x8 x9 x10))] ++ va_pl L M) H_1 := hP1
  have hD : va_D A ([(xa, (b11_1 x0 (nI x1) x2 (nI x3) x4 x5 x6 x7 x8 x9 x10))] ++ va_pl L M) := hD1.mono hFc
  obtain ⟨hp_4, hqx⟩ := hp_4
  rcases r_2 with _ | b_5
  · have hz := rfl (a := 0)
    refine lv_astoreN (lv' := [(5, .null), (0, .ref xa), (1, .int k1), (2, .int k2), (3, .int k3), (4, .int k4)]) hx hb dX11_term_5 hl (by decide) rfl (fun ls hl => ?_)
    refine lv_aloadN hx hb dX11_term_7 (lv_at hl 0 rfl) ?_
    refine lv_ifnonnullN hx hb dX11_term_9 ?_
    refine lv_null hx hb dX11_term_12 ?_
    refine lv_goto (tgt := 21) hx hb dX11_term_13 (by decide) ?_
    refine lv_astoreN (lv' := [(6, .null), (5, .null), (0, .ref xa), (1, .int k1), (2, .int k2), (3, .int k3), (4, .int k4)]) hx hb dX11_term_21 hl (by decide) rfl (fun ls hl => ?_)
    refine lv_aloadN hx hb dX11_term_23 (lv_at hl 1 rfl) ?_
    refine lv_ifnullN (tgt := 45) hx hb dX11_term_25 (by decide) ?_
    refine lv_aload_n hx hb dX11_term_45 rfl (lv_at hl 2 rfl) ?_
    refine lv_iconst (v := 1) hx hb dX11_term_46 (by decide) ?_
    have hPc := hP.sub (ws' := [(xa, (b11_1 x0 (nI x1) x2 (nI x3) x4 x5 x6 x7 x8 x9 x10))]) [0] rfl
    have hDc := hD.sub (ws' := [(xa, (b11_1 x0 (nI x1) x2 (nI x3) x4 x5 x6 x7 x8 x9 x10))]) [0] (by decide) rfl
    have hKc := hK.sub (tys' := []) [] rfl
    have hFc := va_free (wc := [(xa, (b11_1 x0 (nI x1) x2 (nI x3) x4 x5 x6 x7 x8 x9 x10))]) hD hS hA [0] rfl
    refine va_calli (va_runV (As := [.int 1]) (rest := []) ⟨hx, hb, hml, hown, hg⟩ (k_refuse l D H_1.size xa x0 (nI x1) x2 (nI x3) x4 x5 x6 x7 x8 x9 x10 1) (cwV 1 hg (gV wd_344 wd_345 wd_346 wd_3 wd_347) rfl rfl rfl (by decide +kernel) ⟨(Nat.le_trans (Nat.le_of_ble_eq_true rfl) hRf), (Nat.le_trans (Nat.le_of_ble_eq_true rfl) hRl)⟩) ⟨Pr.blind, va_recv hK hP (ci := 11) (q0 := 0) rfl rfl, fun U hU hW => ⟨rfl, Pr.at hPc hKc hDc hN hU hW⟩⟩ rfl rfl hl.1 rfl (lv_room (Nat.le_of_ble_eq_true rfl)) dX11_term_47 ⟨(Nat.le_trans (Nat.le_of_ble_eq_true rfl) hRc), (Nat.le_trans (Nat.le_of_ble_eq_true rfl) hRs)⟩) hS (fun q _ h => hFc q h) hFc (fun r_7 M_8 t H_6 locs ht hvm hw hB hz1 hk1 hS => ?_)
    have hp_9 := hw
    obtain ⟨hP1, hK1, hD1⟩ := hB
    rw [ht] at hP1
    obtain ⟨hP, hD⟩ := va_joinQ (X := [(xa, (b11_1 x0 (nI x1) x2 (nI x3) x4 x5 x6 x7 x8 x9 x10))]) (cx := [(xa, (b11_1 x0 (nI x1) x2 (nI x3) x4 x5 x6 x7 x8 x9 x10))]) (wr := []) (w1 := [(xa, (b11_1 x0 (nI x1) x2 (nI x3) x4 x5 x6 x7 x8 1 (-1)))]) (pl := va_pl L M) hP hD [0] [] rfl rfl (by decide) (by decide) hk1 hFc hP1 hD1
    have hP : va_P D vwCl ([(xa, (b11_1 x0 (nI x1) x2 (nI x3) x4 x5 x6 x7 x8 1 (-1)))] ++ va_pl L M) H_6 := hP
    have hD : va_D A ([(xa, (b11_1 x0 (nI x1) x2 (nI x3) x4 x5 x6 x7 x8 1 (-1)))] ++ va_pl L M) := hD
    have hq := Eq.symm hp_9
    subst hq
    have hnh := hqx.2 rfl
    have hno : ¬ okTm x1 SX SY k1 k2 k3 k4 := fun q9 => by unfold okTm okH at q9; first | omega | (obtain ⟨⟨_, _⟩, _, _, _, _, _, _, _, _⟩ := q9; first | omega | contradiction)
    rw [hQ]
    exact W.iret (v := (-1)) hx hb hr (fun t ht hW9 => ⟨⟨(-1), M, rfl, ⟨hW, hF, hT6, (by unfold syTm; rw [if_neg hno]; exact hC.mono), (by unfold anTm; rw [if_neg hno])⟩, ⟨1, by rw [ht]; exact hP, hD⟩⟩, hS.F ht⟩) hS.2.2 dX11_term_50
  · have hb_10 := hp_4 b_5 rfl
    refine lv_astore (lv' := [(5, .ref b_5), (0, .ref xa), (1, .int k1), (2, .int k2), (3, .int k3), (4, .int k4)]) hx hb dX11_term_5 hl (by decide) rfl (fun ls hl => ?_)
    obtain ⟨hr9, hb9⟩ := hqx.1 b_5 rfl
    have hck : ((k1 : Int32).toNatClampNeg : Int) = (k1 : Int32).toInt := clT (by omega)
    have hkn : (k1 : Int32).toNatClampNeg < x1 := by omega
    have hSM := hC.at hkn hb9
    have hSVk := hSV (k1 : Int32).toNatClampNeg hkn
    have hHIk := hHI (k1 : Int32).toNatClampNeg hkn
    have hV : VC Bo K L M M b_5 (cfx M b_5) (cax M b_5) := VC.rf b_5 hC.oc
    obtain ⟨v11_0, v11_1, v11_2, v11_3, v11_4, v11_5, v11_6, v11_7, v11_8, v11_9, v11_10, v11_11, v11_12, v11_13, v11_14, v11_15, v11_16, v11_17, v11_18, v11_19, hM11, h11_3, h11_4, h11_5, h11_6, h11_7, h11_8, h11_9, h11_10, h11_11, h11_12, h11_13, h11_16, h11_17, h11_18, h11_19⟩ := hW.open_2 hb_10
    have hA_12 : (cV 2 M b_5 0).toInt = (v11_0 : Int32).toInt := by rw [cV_of hM11 rfl]
    have hA_13 : (cV 2 M b_5 1).toInt = (v11_1 : Int32).toInt := by rw [cV_of hM11 rfl]
    have hA_14 : (cV 2 M b_5 2).toInt = (v11_2 : Int32).toInt := by rw [cV_of hM11 rfl]
    have hA_15 : (cV 2 M b_5 4).toInt = ((v11_4 : Nat) : Int) := by rw [cV_of hM11 rfl]; exact nI_toInt (by omega)
    have hA_16 : (cV 2 M b_5 5).toInt = ((v11_5 : Nat) : Int) := by rw [cV_of hM11 rfl]; exact nI_toInt (by omega)
    have hA_17 : (cV 2 M b_5 9).toInt = ((v11_9 : Nat) : Int) := by rw [cV_of hM11 rfl]; exact nI_toInt (by omega)
    have hA_18 : (cV 2 M b_5 11).toInt = ((v11_11 : Nat) : Int) := by rw [cV_of hM11 rfl]; exact nI_toInt (by omega)
    have hA_19 : (cV 2 M b_5 15).toInt = (v11_15 : Int32).toInt := by rw [cV_of hM11 rfl]
    have hq0 : (cV 2 M b_5 1).toInt = SX (k1 : Int32).toNatClampNeg 0 := hSM.x0
    have hq1 : (cV 2 M b_5 2).toInt = SX (k1 : Int32).toNatClampNeg 1 := hSM.x1
    have hq10 : (cV 2 M b_5 9).toInt = SX (k1 : Int32).toNatClampNeg 10 := hSM.x10
    have hq11 : (cV 2 M b_5 11).toInt = SX (k1 : Int32).toNatClampNeg 11 := hSM.x11
    have hq12 : (cV 2 M b_5 4).toInt = SX (k1 : Int32).toNatClampNeg 12 := hSM.x12
    have hq13 : (cV 2 M b_5 5).toInt = SX (k1 : Int32).toNatClampNeg 13 := hSM.x13
    have hq14 : (cV 1 M v11_16 3).toInt = SX (k1 : Int32).toNatClampNeg 14 := by have h9 := hSM.x14; rw [← h9]; show _ = (cV 1 M (rA 2 M b_5 16) 3).toInt; rw [rA_of (j := 16) hM11 rfl]
    have hq15 : (cV 1 M v11_17 3).toInt = SX (k1 : Int32).toNatClampNeg 15 := by have h9 := hSM.x15; rw [← h9]; show _ = (cV 1 M (rA 2 M b_5 17) 3).toInt; rw [rA_of (j := 17) hM11 rfl]
    have hq16 : (cV 10 M v11_18 2).toInt = SX (k1 : Int32).toNatClampNeg 16 := by have h9 := hSM.x16; rw [← h9]; show _ = (cV 10 M (rA 2 M b_5 18) 2).toInt; rw [rA_of (j := 18) hM11 rfl]
    have hq19 : (cV 10 M v11_18 1).toInt = cfx M b_5 19 := by show _ = (cV 10 M (rA 2 M b_5 18) 1).toInt; rw [rA_of (j := 18) hM11 rfl]
    have hun := hSM.un
    have hl16 : (ALc (M (rA 1 M v11_16 1)) : Int) = 120 := by have h9 := hC.oc.l16 hW hb_10; rw [rA_of (j := 16) hM11 rfl] at h9; omega
    have hl17 : (ALc (M (rA 1 M v11_17 1)) : Int) = 20 := by have h9 := hC.oc.l17 hW hb_10; rw [rA_of (j := 17) hM11 rfl] at h9; omega
    have hbd0 := hSVk.b0
    have hbd1 := hSVk.b1
    have hbd10 := hSVk.b10
    have hbd11 := hSVk.b11
    have hbd12 := hSVk.b12
    have hbd13 := hSVk.b13
    have hbd14 := hSVk.b14
    have hbd15 := hSVk.b15
    have hbd16 := hSVk.b16
    have hqx14 : cfx M b_5 14 = SX (k1 : Int32).toNatClampNeg 14 := hSM.x14
    have hqx15 : cfx M b_5 15 = SX (k1 : Int32).toNatClampNeg 15 := hSM.x15
    have hqx16 : cfx M b_5 16 = SX (k1 : Int32).toNatClampNeg 16 := hSM.x16
    refine lv_aload hx hb dX11_term_7 (lv_at hl 0 rfl) ?_
    refine lv_ifnonnull (tgt := 16) hx hb dX11_term_9 (by decide) ?_
    refine lv_aload hx hb dX11_term_16 (lv_at hl 0 rfl) ?_
    have hPc : va_P D vwCl ([] ++ va_pl L M) H_1 := hP.part (cx := []) [] rfl
    have hDc : va_D A ([] ++ va_pl L M) := hD.part (cx := []) [] (by decide) rfl
    have hFc : ∀ q, va_A ([] ++ va_pl L M) H_1.size q → A q := pg_free hDc hS hA
    refine va_callq (va_runV (As := []) (rest := []) ⟨hx, hb, hml, hown, hg⟩ (e_latest l D cy K L M H_1.size b_5  hW hb_10) (cwV 0 hg (gV wd_461 wd_462 wd_463 wd_57 wd_464) rfl rfl rfl (by decide +kernel) ⟨(Nat.le_trans (Nat.le_of_ble_eq_true rfl) hRf), (Nat.le_trans (Nat.le_of_ble_eq_true rfl) hRl)⟩) ⟨PG.blind, pg_recv hK hP hb_10.1 hM11 rfl, fun U hU hW => ⟨rfl, PG.at hPc hK hDc hN hU hW⟩⟩ rfl rfl hl.1 rfl (lv_room (Nat.le_of_ble_eq_true rfl)) dX11_term_18 ⟨(Nat.le_trans (Nat.le_of_ble_eq_true rfl) hRc), (Nat.le_trans (Nat.le_of_ble_eq_true rfl) hRs)⟩) hS (fun q _ h => hFc q h) hFc (fun r_21 M_22 t H_20 locs ht hvm hw hB hz1 hk1 hS => ?_)
    have hp_23 := hw
    obtain ⟨hP1, hD1⟩ := hB
    rw [ht] at hP1
    obtain ⟨hP, hD⟩ := va_joinP (X := [(xa, (b11_1 x0 (nI x1) x2 (nI x3) x4 x5 x6 x7 x8 x9 x10))]) (cx := []) (wr := [(xa, (b11_1 x0 (nI x1) x2 (nI x3) x4 x5 x6 x7 x8 x9 x10))]) (rx := []) (pl := va_pl L M) (pl1 := va_pl L M) hP hD [] [0] rfl rfl (by decide) (by decide) hk1 hFc hP1 hD1
    have hP : va_P D vwCl ([(xa, (b11_1 x0 (nI x1) x2 (nI x3) x4 x5 x6 x7 x8 x9 x10))] ++ va_pl L M) H_20 := hP
    have hD : va_D A ([(xa, (b11_1 x0 (nI x1) x2 (nI x3) x4 x5 x6 x7 x8 x9 x10))] ++ va_pl L M) := hD
    obtain ⟨hp_23, hqx⟩ := hp_23
    rcases r_21 with _ | b_24
    · have hz := rfl (a := 0)
      have h11 : SX (k1 : Int32).toNatClampNeg 11 = 0 := by
        rcases hqx.2 rfl with q9 | ⟨q8, q9⟩
        · omega
        · have h9 := (hSM.ru (SX (k1 : Int32).toNatClampNeg 11 - 1).toNat (by omega)).1
          rw [hq11] at q9
          rw [rn0 q9 (by omega)] at h9
          exact absurd h9 (by decide)
      refine lv_astoreN (lv' := [(6, .null), (5, .ref b_5), (0, .ref xa), (1, .int k1), (2, .int k2), (3, .int k3), (4, .int k4)]) hx hb dX11_term_21 hl (by decide) rfl (fun ls hl => ?_)
      refine lv_aload hx hb dX11_term_23 (lv_at hl 1 rfl) ?_
      refine lv_ifnull hx hb dX11_term_25 ?_
      refine lv_aloadN hx hb dX11_term_28 (lv_at hl 0 rfl) ?_
      refine lv_ifnullN (tgt := 45) hx hb dX11_term_30 (by decide) ?_
      refine lv_aload_n hx hb dX11_term_45 rfl (lv_at hl 2 rfl) ?_
      refine lv_iconst (v := 1) hx hb dX11_term_46 (by decide) ?_
      have hPc := hP.sub (ws' := [(xa, (b11_1 x0 (nI x1) x2 (nI x3) x4 x5 x6 x7 x8 x9 x10))]) [0] rfl
      have hDc := hD.sub (ws' := [(xa, (b11_1 x0 (nI x1) x2 (nI x3) x4 x5 x6 x7 x8 x9 x10))]) [0] (by decide) rfl
      have hKc := hK.sub (tys' := []) [] rfl
      have hFc := va_free (wc := [(xa, (b11_1 x0 (nI x1) x2 (nI x3) x4 x5 x6 x7 x8 x9 x10))]) hD hS hA [0] rfl
      refine va_calli (va_runV (As := [.int 1]) (rest := []) ⟨hx, hb, hml, hown, hg⟩ (k_refuse l D H_20.size xa x0 (nI x1) x2 (nI x3) x4 x5 x6 x7 x8 x9 x10 1) (cwV 1 hg (gV wd_344 wd_345 wd_346 wd_3 wd_347) rfl rfl rfl (by decide +kernel) ⟨(Nat.le_trans (Nat.le_of_ble_eq_true rfl) hRf), (Nat.le_trans (Nat.le_of_ble_eq_true rfl) hRl)⟩) ⟨Pr.blind, va_recv hK hP (ci := 11) (q0 := 0) rfl rfl, fun U hU hW => ⟨rfl, Pr.at hPc hKc hDc hN hU hW⟩⟩ rfl rfl hl.1 rfl (lv_room (Nat.le_of_ble_eq_true rfl)) dX11_term_47 ⟨(Nat.le_trans (Nat.le_of_ble_eq_true rfl) hRc), (Nat.le_trans (Nat.le_of_ble_eq_true rfl) hRs)⟩) hS (fun q _ h => hFc q h) hFc (fun r_26 M_27 t H_25 locs ht hvm hw hB hz1 hk1 hS => ?_)
      have hp_28 := hw
      obtain ⟨hP1, hK1, hD1⟩ := hB
      rw [ht] at hP1
      obtain ⟨hP, hD⟩ := va_joinQ (X := [(xa, (b11_1 x0 (nI x1) x2 (nI x3) x4 x5 x6 x7 x8 x9 x10))]) (cx := [(xa, (b11_1 x0 (nI x1) x2 (nI x3) x4 x5 x6 x7 x8 x9 x10))]) (wr := []) (w1 := [(xa, (b11_1 x0 (nI x1) x2 (nI x3) x4 x5 x6 x7 x8 1 (-1)))]) (pl := va_pl L M) hP hD [0] [] rfl rfl (by decide) (by decide) hk1 hFc hP1 hD1
      have hP : va_P D vwCl ([(xa, (b11_1 x0 (nI x1) x2 (nI x3) x4 x5 x6 x7 x8 1 (-1)))] ++ va_pl L M) H_25 := hP
      have hD : va_D A ([(xa, (b11_1 x0 (nI x1) x2 (nI x3) x4 x5 x6 x7 x8 1 (-1)))] ++ va_pl L M) := hD
      have hq := Eq.symm hp_28
      subst hq
      have hno : ¬ okTm x1 SX SY k1 k2 k3 k4 := fun q9 => by unfold okTm okH at q9; first | omega | (obtain ⟨⟨_, _⟩, _, _, _, _, _, _, _, _⟩ := q9; first | omega | contradiction)
      rw [hQ]
      exact W.iret (v := (-1)) hx hb hr (fun t ht hW9 => ⟨⟨(-1), M, rfl, ⟨hW, hF, hT6, (by unfold syTm; rw [if_neg hno]; exact hC.mono), (by unfold anTm; rw [if_neg hno])⟩, ⟨1, by rw [ht]; exact hP, hD⟩⟩, hS.F ht⟩) hS.2.2 dX11_term_50
    · have hb_29 := hp_23 b_24 rfl
      obtain ⟨hrc, hsr0⟩ := hqx.1 _ rfl
      have hri : (SX (k1 : Int32).toNatClampNeg 11 - 1).toNat < 16 := by omega
      have hsr : RFc (M (rA 2 M b_5 10)) (SX (k1 : Int32).toNatClampNeg 11 - 1).toNat = some b_24 := by rw [← hq11]; exact hsr0
      have hlr := lk_ru hsr hri
      have hru := hSM.ru (SX (k1 : Int32).toNatClampNeg 11 - 1).toNat (by omega)
      have h34 : (SY (k1 : Int32).toNatClampNeg 34 (SX (k1 : Int32).toNatClampNeg 11 - 1).toNat).toInt = (cV 6 M b_24 0).toInt := by rw [← hru.2.1, hlr.1]
      refine lv_astore (lv' := [(6, .ref b_24), (5, .ref b_5), (0, .ref xa), (1, .int k1), (2, .int k2), (3, .int k3), (4, .int k4)]) hx hb dX11_term_21 hl (by decide) rfl (fun ls hl => ?_)
      refine lv_aload hx hb dX11_term_23 (lv_at hl 1 rfl) ?_
      refine lv_ifnull hx hb dX11_term_25 ?_
      refine lv_aload hx hb dX11_term_28 (lv_at hl 0 rfl) ?_
      refine lv_ifnull hx hb dX11_term_30 ?_
      refine lv_iload_n hx hb dX11_term_33 rfl (lv_at hl 5 rfl) ?_
      refine lv_iconst (v := 4) hx hb dX11_term_34 (by decide) ?_
      refine lv_icmp_eq (tgt := 51) hx hb dX11_term_35 (by decide) (fun c_30 => ?_) (fun c_30 => ?_)
      · have hz := rfl (a := 0)
        refine lv_iload_n hx hb dX11_term_51 rfl (lv_at hl 5 rfl) ?_
        refine lv_if_lt (tgt := 78) hx hb dX11_term_52 (by decide) (fun c_31 => absurd c_31 (by rw [c_30]; decide)) (fun c_31 => ?_)
        refine lv_iload_n hx hb dX11_term_55 rfl (lv_at hl 5 rfl) ?_
        refine va_gets hx hb hZS hS hown (hg _ wd_683) (fun _ h9 => h9) dX11_term_56 ?_
        refine va_tlen (v := 5) hx hb hTS hS rfl dX11_term_59 ?_
        refine lv_icmp_ge (tgt := 78) hx hb dX11_term_60 (by decide) (fun c_32 => absurd c_32 (by rw [c_30]; decide)) (fun c_32 => ?_)
        refine lv_iload hx hb dX11_term_63 (lv_at hl 6 rfl) ?_
        refine lv_if_lt (tgt := 78) hx hb dX11_term_65 (by decide) (fun c_33 => ?_) (fun c_33 => ?_)
        · have hz := rfl (a := 0)
          refine lv_aload_n hx hb dX11_term_78 rfl (lv_at hl 2 rfl) ?_
          refine lv_iconst (v := 2) hx hb dX11_term_79 (by decide) ?_
          have hPc := hP.sub (ws' := [(xa, (b11_1 x0 (nI x1) x2 (nI x3) x4 x5 x6 x7 x8 x9 x10))]) [0] rfl
          have hDc := hD.sub (ws' := [(xa, (b11_1 x0 (nI x1) x2 (nI x3) x4 x5 x6 x7 x8 x9 x10))]) [0] (by decide) rfl
          have hKc := hK.sub (tys' := []) [] rfl
          have hFc := va_free (wc := [(xa, (b11_1 x0 (nI x1) x2 (nI x3) x4 x5 x6 x7 x8 x9 x10))]) hD hS hA [0] rfl
          refine va_calli (va_runV (As := [.int 2]) (rest := []) ⟨hx, hb, hml, hown, hg⟩ (k_refuse l D H_20.size xa x0 (nI x1) x2 (nI x3) x4 x5 x6 x7 x8 x9 x10 2) (cwV 1 hg (gV wd_344 wd_345 wd_346 wd_3 wd_347) rfl rfl rfl (by decide +kernel) ⟨(Nat.le_trans (Nat.le_of_ble_eq_true rfl) hRf), (Nat.le_trans (Nat.le_of_ble_eq_true rfl) hRl)⟩) ⟨Pr.blind, va_recv hK hP (ci := 11) (q0 := 0) rfl rfl, fun U hU hW => ⟨rfl, Pr.at hPc hKc hDc hN hU hW⟩⟩ rfl rfl hl.1 rfl (lv_room (Nat.le_of_ble_eq_true rfl)) dX11_term_80 ⟨(Nat.le_trans (Nat.le_of_ble_eq_true rfl) hRc), (Nat.le_trans (Nat.le_of_ble_eq_true rfl) hRs)⟩) hS (fun q _ h => hFc q h) hFc (fun r_35 M_36 t H_34 locs ht hvm hw hB hz1 hk1 hS => ?_)
          have hp_37 := hw
          obtain ⟨hP1, hK1, hD1⟩ := hB
          rw [ht] at hP1
          obtain ⟨hP, hD⟩ := va_joinQ (X := [(xa, (b11_1 x0 (nI x1) x2 (nI x3) x4 x5 x6 x7 x8 x9 x10))]) (cx := [(xa, (b11_1 x0 (nI x1) x2 (nI x3) x4 x5 x6 x7 x8 x9 x10))]) (wr := []) (w1 := [(xa, (b11_1 x0 (nI x1) x2 (nI x3) x4 x5 x6 x7 x8 2 (-1)))]) (pl := va_pl L M) hP hD [0] [] rfl rfl (by decide) (by decide) hk1 hFc hP1 hD1
          have hP : va_P D vwCl ([(xa, (b11_1 x0 (nI x1) x2 (nI x3) x4 x5 x6 x7 x8 2 (-1)))] ++ va_pl L M) H_34 := hP
          have hD : va_D A ([(xa, (b11_1 x0 (nI x1) x2 (nI x3) x4 x5 x6 x7 x8 2 (-1)))] ++ va_pl L M) := hD
          have hq := Eq.symm hp_37
          subst hq
          have hI_38 : (k3 : Int32).toInt = (4 : Int) := ieqI rfl rfl c_30
          have hI_39 : (0 : Int) ≤ (k3 : Int32).toInt := inltI rfl rfl c_31
          have hI_40 : (k3 : Int32).toInt < (5 : Int) := inleI rfl rfl c_32
          have hI_41 : (k4 : Int32).toInt < (0 : Int) := iltI rfl rfl c_33
          have hno : ¬ okTm x1 SX SY k1 k2 k3 k4 := fun q9 => by unfold okTm okH at q9; first | omega | (obtain ⟨⟨_, _⟩, _, _, _, _, _, _, _, _⟩ := q9; first | omega | contradiction)
          rw [hQ]
          exact W.iret (v := (-1)) hx hb hr (fun t ht hW9 => ⟨⟨(-1), M, rfl, ⟨hW, hF, hT6, (by unfold syTm; rw [if_neg hno]; exact hC.mono), (by unfold anTm; rw [if_neg hno])⟩, ⟨2, by rw [ht]; exact hP, hD⟩⟩, hS.F ht⟩) hS.2.2 dX11_term_83
        · have hz := rfl (a := 0)
          refine lv_iload hx hb dX11_term_68 (lv_at hl 6 rfl) ?_
          refine va_gets hx hb hZS hS hown (hg _ wd_683) (fun _ h9 => h9) dX11_term_70 ?_
          refine lv_iload_n hx hb dX11_term_73 rfl (lv_at hl 5 rfl) ?_
          refine va_ti (v := .int (mtI (k3 : Int32).toNatClampNeg)) hx hb hTS hS (inb k3 5 (by omega) c_31 c_32) rfl dX11_term_74 ?_
          refine lv_topi (fun f_42 ef_42 => ?_)
          refine lv_icmp_le (tgt := 84) hx hb dX11_term_75 (by decide) (fun c_43 => ?_) (fun c_43 => ?_)
          · have hz := rfl (a := 0)
            refine lv_aload hx hb dX11_term_84 (lv_at hl 1 rfl) ?_
            refine lv_aload hx hb dX11_term_86 (lv_at hl 0 rfl) ?_
            obtain ⟨v44_0, v44_1, v44_2, hM44, h44_2⟩ := hW.open_6 hb_29
            refine pg_get (D := D) (ci := 6) (v := .int v44_0) (C := RX6) (T := TX6) (N := 3) hx hb hg inG6 hown hK hP hb_29.1 hM44 rfl 0 (by decide) (hg _ wd_585) (fun _ h9 => h9) rfl dX11_term_88 ?_
            have hPc : va_P D vwCl ([] ++ va_pl L M) H_20 := hP.part (cx := []) [] rfl
            have hDc : va_D A ([] ++ va_pl L M) := hD.part (cx := []) [] (by decide) rfl
            have hFc : ∀ q, va_A ([] ++ va_pl L M) H_20.size q → A q := pg_free hDc hS hA
            refine va_calli (va_runV (As := [.int v44_0]) (rest := []) ⟨hx, hb, hml, hown, hg⟩ (e_X2_isFree l D cy K L M H_20.size b_5 v44_0  hW hb_10) (cwV 1 hg (gV wd_361 wd_362 wd_363 wd_57 wd_364) rfl rfl rfl (by decide +kernel) ⟨(Nat.le_trans (Nat.le_of_ble_eq_true rfl) hRf), (Nat.le_trans (Nat.le_of_ble_eq_true rfl) hRl)⟩) ⟨PG.blind, pg_recv hK hP hb_10.1 hM11 rfl, fun U hU hW => ⟨rfl, PG.at hPc hK hDc hN hU hW⟩⟩ rfl rfl hl.1 rfl (lv_room (Nat.le_of_ble_eq_true rfl)) dX11_term_91 ⟨(Nat.le_trans (Nat.le_of_ble_eq_true rfl) hRc), (Nat.le_trans (Nat.le_of_ble_eq_true rfl) hRs)⟩) hS (fun q _ h => hFc q h) hFc (fun r_46 M_47 t H_45 locs ht hvm hw hB hz1 hk1 hS => ?_)
            have hp_48 := hw
            obtain ⟨hP1, hD1⟩ := hB
            rw [ht] at hP1
            obtain ⟨hP, hD⟩ := va_joinP (X := [(xa, (b11_1 x0 (nI x1) x2 (nI x3) x4 x5 x6 x7 x8 x9 x10))]) (cx := []) (wr := [(xa, (b11_1 x0 (nI x1) x2 (nI x3) x4 x5 x6 x7 x8 x9 x10))]) (rx := []) (pl := va_pl L M) (pl1 := va_pl L M) hP hD [] [0] rfl rfl (by decide) (by decide) hk1 hFc hP1 hD1
            have hP : va_P D vwCl ([(xa, (b11_1 x0 (nI x1) x2 (nI x3) x4 x5 x6 x7 x8 x9 x10))] ++ va_pl L M) H_45 := hP
            have hD : va_D A ([(xa, (b11_1 x0 (nI x1) x2 (nI x3) x4 x5 x6 x7 x8 x9 x10))] ++ va_pl L M) := hD
            rcases hp_48 with ⟨rfl, c_49, c_50, c_51⟩ | ⟨rfl, c_52⟩
            · have hz := rfl (a := 0)
              refine lv_if_ne (tgt := 103) hx hb dX11_term_94 (by decide) (fun _ => ?_) (fun c_53 => absurd c_53 (by decide))
              refine lv_aload_n hx hb dX11_term_103 rfl (lv_at hl 2 rfl) ?_
              refine lv_aload hx hb dX11_term_104 (lv_at hl 0 rfl) ?_
              refine lv_iload_n hx hb dX11_term_106 rfl (lv_at hl 4 rfl) ?_
              refine lv_iload_n hx hb dX11_term_107 rfl (lv_at hl 5 rfl) ?_
              refine lv_iload hx hb dX11_term_108 (lv_at hl 6 rfl) ?_
              have hPc : va_P D vwCl ([] ++ va_pl L M) H_45 := hP.part (cx := []) [] rfl
              have hDc : va_D A ([] ++ va_pl L M) := hD.part (cx := []) [] (by decide) rfl
              have hFc : ∀ q, va_A ([] ++ va_pl L M) H_45.size q → A q := pg_free hDc hS hA
              have hI_54 : (k3 : Int32).toInt = (4 : Int) := ieqI rfl rfl c_30
              have hI_55 : (0 : Int) ≤ (k3 : Int32).toInt := inltI rfl rfl c_31
              have hI_56 : (k3 : Int32).toInt < (5 : Int) := inleI rfl rfl c_32
              have hI_57 : (0 : Int) ≤ (k4 : Int32).toInt := inltI rfl rfl c_33
              have hI_58 : (k4 : Int32).toInt ≤ (f_42 : Int32).toInt := ileI rfl rfl c_43
              have hI_59 : (0 : Int) ≤ (v44_0 : Int32).toInt := inltI rfl rfl c_50
              have hI_60 : (v44_0 : Int32).toInt ≤ (999 : Int) := inltI rfl rfl c_51
              have hA_61 : (cV 6 M b_24 0).toInt = (v44_0 : Int32).toInt := by rw [cV_of hM44 rfl]
              have hA_62 : (cV 6 M b_24 1).toInt = (v44_1 : Int32).toInt := by rw [cV_of hM44 rfl]
              refine va_calli (va_runV (As := [.int k2, .int k3, .int k4]) (rest := [.ref xa]) ⟨hx, hb, hml, hown, hg⟩ (e_replace l D cy K L M H_45.size b_24 k2 k3 k4 Bo M b_5 (cfx M b_5) (cax M b_5) ((SX (k1 : Int32).toNatClampNeg 11 - 1).toNat) v44_0 v44_1 v44_2 hW hb_29 hb_10 hV hsr hri (by omega) hM44 h44_2) (cwV 3 hg (gV wd_684 wd_685 wd_686 wd_97 wd_687) rfl rfl rfl (by decide +kernel) ⟨(Nat.le_trans (Nat.le_of_ble_eq_true rfl) hRf), (Nat.le_trans (Nat.le_of_ble_eq_true rfl) hRl)⟩) ⟨PG.blind, pg_recv hK hP hb_29.1 hM44 rfl, fun U hU hW => ⟨rfl, PG.at hPc hK hDc hN hU hW⟩⟩ rfl rfl hl.1 rfl (lv_room (Nat.le_of_ble_eq_true rfl)) dX11_term_110 ⟨(Nat.le_trans (Nat.le_of_ble_eq_true rfl) hRc), (Nat.le_trans (Nat.le_of_ble_eq_true rfl) hRs)⟩) hS (fun q _ h => hFc q h) hFc (fun r_64 M_65 t H_63 locs ht hvm hw hB hz1 hk1 hS => ?_)
              have hWb := hW
              obtain ⟨hW, hF2, gT6, hVP, hp_66⟩ := hw
              obtain ⟨hP1, hD1⟩ := hB
              rw [ht] at hP1
              obtain ⟨hP, hD⟩ := va_joinP (X := [(xa, (b11_1 x0 (nI x1) x2 (nI x3) x4 x5 x6 x7 x8 x9 x10))]) (cx := []) (wr := [(xa, (b11_1 x0 (nI x1) x2 (nI x3) x4 x5 x6 x7 x8 x9 x10))]) (rx := []) (pl := va_pl L M) (pl1 := va_pl L M_65) hP hD [] [0] rfl rfl (by decide) (by decide) hk1 hFc hP1 hD1
              have hP : va_P D vwCl ([(xa, (b11_1 x0 (nI x1) x2 (nI x3) x4 x5 x6 x7 x8 x9 x10))] ++ va_pl L M_65) H_63 := hP
              have hD : va_D A ([(xa, (b11_1 x0 (nI x1) x2 (nI x3) x4 x5 x6 x7 x8 x9 x10))] ++ va_pl L M_65) := hD
              have hM_67 : M_65 b_5 = (b2_2 v11_0 v11_1 v11_2 v11_3 (nI v11_4) (nI v11_5) v11_6 v11_7 v11_8 (nI v11_9) v11_10 (nI v11_11) v11_12 v11_13 v11_14 v11_15 v11_16 v11_17 v11_18 v11_19) := (hF2.at hb_10 (by decide)).trans hM11
              have hF : fr K L [6, 54] M M_65 := hF.tr hF2 (by decide)
              have hT6 : fT 6 K L [1] M M_65 := hT6.tr gT6 (by decide)
              have hV : VC Bo K L M M_65 b_5 (cfx M b_5) (if k3.toInt = 4 then va_up (cax M b_5) 35 (upd ((cax M b_5) 35) (SX (k1 : Int32).toNatClampNeg 11 - 1).toNat k4) else va_up (cax M b_5) 36 (upd ((cax M b_5) 36) (24 * (SX (k1 : Int32).toNatClampNeg 11 - 1).toNat + (6 * k3.toNatClampNeg + k2.toNatClampNeg)) k4)) := hVP
              have hs_68 : RFc (M_65 (rA 2 M_65 b_5 10)) (SX (k1 : Int32).toNatClampNeg 11 - 1).toNat = some b_24 := by rw [rA_c ((fr.cv hF2 (by decide)) _ hb_10 10 rfl), hF2.at (KH hWb hb_10).2.2.2.2.1 (by decide)]; exact hsr
              obtain rfl := hp_66
              have hPc := hP.sub (ws' := [(xa, (b11_1 x0 (nI x1) x2 (nI x3) x4 x5 x6 x7 x8 x9 x10))]) [0] rfl
              have hDc := hD.sub (ws' := [(xa, (b11_1 x0 (nI x1) x2 (nI x3) x4 x5 x6 x7 x8 x9 x10))]) [0] (by decide) rfl
              have hKc := hK.sub (tys' := []) [] rfl
              have hFc := va_free (wc := [(xa, (b11_1 x0 (nI x1) x2 (nI x3) x4 x5 x6 x7 x8 x9 x10))]) hD hS hA [0] rfl
              refine va_calli (va_runV (As := [.int (if k3.toInt = 4 then (cax M b_5) 35 (SX (k1 : Int32).toNatClampNeg 11 - 1).toNat else (cax M b_5) 36 (24 * (SX (k1 : Int32).toNatClampNeg 11 - 1).toNat + (6 * k3.toNatClampNeg + k2.toNatClampNeg)))]) (rest := []) ⟨hx, hb, hml, hown, hg⟩ (k_accept l D H_63.size xa x0 (nI x1) x2 (nI x3) x4 x5 x6 x7 x8 x9 x10 (if k3.toInt = 4 then (cax M b_5) 35 (SX (k1 : Int32).toNatClampNeg 11 - 1).toNat else (cax M b_5) 36 (24 * (SX (k1 : Int32).toNatClampNeg 11 - 1).toNat + (6 * k3.toNatClampNeg + k2.toNatClampNeg)))) (cwV 1 hg (gV wd_356 wd_357 wd_358 wd_3 wd_359) rfl rfl rfl (by decide +kernel) ⟨(Nat.le_trans (Nat.le_of_ble_eq_true rfl) hRf), (Nat.le_trans (Nat.le_of_ble_eq_true rfl) hRl)⟩) ⟨Pr.blind, va_recv hK hP (ci := 11) (q0 := 0) rfl rfl, fun U hU hW => ⟨rfl, Pr.at hPc hKc hDc hN hU hW⟩⟩ rfl rfl hl.1 rfl (lv_room (Nat.le_of_ble_eq_true rfl)) dX11_term_113 ⟨(Nat.le_trans (Nat.le_of_ble_eq_true rfl) hRc), (Nat.le_trans (Nat.le_of_ble_eq_true rfl) hRs)⟩) hS (fun q _ h => hFc q h) hFc (fun r_70 M_71 t H_69 locs ht hvm hw hB hz1 hk1 hS => ?_)
              have hp_72 := hw
              obtain ⟨hP1, hK1, hD1⟩ := hB
              rw [ht] at hP1
              obtain ⟨hP, hD⟩ := va_joinQ (X := [(xa, (b11_1 x0 (nI x1) x2 (nI x3) x4 x5 x6 x7 x8 x9 x10))]) (cx := [(xa, (b11_1 x0 (nI x1) x2 (nI x3) x4 x5 x6 x7 x8 x9 x10))]) (wr := []) (w1 := [(xa, (b11_1 x0 (nI x1) x2 (nI x3) x4 x5 x6 x7 x8 0 (-1)))]) (pl := va_pl L M_65) hP hD [0] [] rfl rfl (by decide) (by decide) hk1 hFc hP1 hD1
              have hP : va_P D vwCl ([(xa, (b11_1 x0 (nI x1) x2 (nI x3) x4 x5 x6 x7 x8 0 (-1)))] ++ va_pl L M_65) H_69 := hP
              have hD : va_D A ([(xa, (b11_1 x0 (nI x1) x2 (nI x3) x4 x5 x6 x7 x8 0 (-1)))] ++ va_pl L M_65) := hD
              have hq := Eq.symm hp_72
              subst hq
              have hmt : (f_42 : Int32).toInt = mostI k3 := by rw [ef_42]; exact mostM (by omega) (by omega)
              have hyes : okTm x1 SX SY k1 k2 k3 k4 := by unfold okTm okH; refine ⟨⟨?_, ?_⟩, ?_, ?_, ?_, ?_, ?_, ?_, ?_, ?_⟩ <;> first | omega | assumption
              rw [hQ]
              exact W.iret (v := (if k3.toInt = 4 then (cax M b_5) 35 (SX (k1 : Int32).toNatClampNeg 11 - 1).toNat else (cax M b_5) 36 (24 * (SX (k1 : Int32).toNatClampNeg 11 - 1).toNat + (6 * k3.toNatClampNeg + k2.toNatClampNeg)))) hx hb hr (fun t ht hW9 => ⟨⟨(if k3.toInt = 4 then (cax M b_5) 35 (SX (k1 : Int32).toNatClampNeg 11 - 1).toNat else (cax M b_5) 36 (24 * (SX (k1 : Int32).toNatClampNeg 11 - 1).toNat + (6 * k3.toNatClampNeg + k2.toNatClampNeg))), M_65, rfl, ⟨hW, hF, hT6, (by unfold syTm; rw [if_pos hyes]; have hZ := hC.fin hW0 i0 b1 hkn hb9 hV ext.rf (by rw [hF.at i0 (by decide)]) (fun q iq => ⟨iq, cR_c (fr.cv hF (by decide) q iq 3 rfl)⟩) ((hSM.term.up1)); rw [va_upI] at hZ; exact hZ), (by unfold anTm; rw [if_pos hyes]; exact (Classical.em (k3.toInt = 4)).elim (fun z9 => by rw [if_pos z9, if_pos z9]; exact hru.2.2.1) (fun z9 => by rw [if_neg z9, if_neg z9]; have hk2 : (k2.toNatClampNeg : Int) = k2.toInt := clT (by omega); have hk3 : (k3.toNatClampNeg : Int) = k3.toInt := clT (by omega); exact hru.2.2.2 _ (by omega)))⟩, ⟨0, by rw [ht]; exact hP, hD⟩⟩, hS.F ht⟩) hS.2.2 dX11_term_116
            · have hz := rfl (a := 0)
              refine lv_if_ne (tgt := 103) hx hb dX11_term_94 (by decide) (fun c_73 => absurd c_73 (by decide)) (fun _ => ?_)
              refine lv_aload_n hx hb dX11_term_97 rfl (lv_at hl 2 rfl) ?_
              refine lv_iconst (v := 3) hx hb dX11_term_98 (by decide) ?_
              have hPc := hP.sub (ws' := [(xa, (b11_1 x0 (nI x1) x2 (nI x3) x4 x5 x6 x7 x8 x9 x10))]) [0] rfl
              have hDc := hD.sub (ws' := [(xa, (b11_1 x0 (nI x1) x2 (nI x3) x4 x5 x6 x7 x8 x9 x10))]) [0] (by decide) rfl
              have hKc := hK.sub (tys' := []) [] rfl
              have hFc := va_free (wc := [(xa, (b11_1 x0 (nI x1) x2 (nI x3) x4 x5 x6 x7 x8 x9 x10))]) hD hS hA [0] rfl
              refine va_calli (va_runV (As := [.int 3]) (rest := []) ⟨hx, hb, hml, hown, hg⟩ (k_refuse l D H_45.size xa x0 (nI x1) x2 (nI x3) x4 x5 x6 x7 x8 x9 x10 3) (cwV 1 hg (gV wd_344 wd_345 wd_346 wd_3 wd_347) rfl rfl rfl (by decide +kernel) ⟨(Nat.le_trans (Nat.le_of_ble_eq_true rfl) hRf), (Nat.le_trans (Nat.le_of_ble_eq_true rfl) hRl)⟩) ⟨Pr.blind, va_recv hK hP (ci := 11) (q0 := 0) rfl rfl, fun U hU hW => ⟨rfl, Pr.at hPc hKc hDc hN hU hW⟩⟩ rfl rfl hl.1 rfl (lv_room (Nat.le_of_ble_eq_true rfl)) dX11_term_99 ⟨(Nat.le_trans (Nat.le_of_ble_eq_true rfl) hRc), (Nat.le_trans (Nat.le_of_ble_eq_true rfl) hRs)⟩) hS (fun q _ h => hFc q h) hFc (fun r_75 M_76 t H_74 locs ht hvm hw hB hz1 hk1 hS => ?_)
              have hp_77 := hw
              obtain ⟨hP1, hK1, hD1⟩ := hB
              rw [ht] at hP1
              obtain ⟨hP, hD⟩ := va_joinQ (X := [(xa, (b11_1 x0 (nI x1) x2 (nI x3) x4 x5 x6 x7 x8 x9 x10))]) (cx := [(xa, (b11_1 x0 (nI x1) x2 (nI x3) x4 x5 x6 x7 x8 x9 x10))]) (wr := []) (w1 := [(xa, (b11_1 x0 (nI x1) x2 (nI x3) x4 x5 x6 x7 x8 3 (-1)))]) (pl := va_pl L M) hP hD [0] [] rfl rfl (by decide) (by decide) hk1 hFc hP1 hD1
              have hP : va_P D vwCl ([(xa, (b11_1 x0 (nI x1) x2 (nI x3) x4 x5 x6 x7 x8 3 (-1)))] ++ va_pl L M) H_74 := hP
              have hD : va_D A ([(xa, (b11_1 x0 (nI x1) x2 (nI x3) x4 x5 x6 x7 x8 3 (-1)))] ++ va_pl L M) := hD
              have hq := Eq.symm hp_77
              subst hq
              have hI_78 : (k3 : Int32).toInt = (4 : Int) := ieqI rfl rfl c_30
              have hI_79 : (0 : Int) ≤ (k3 : Int32).toInt := inltI rfl rfl c_31
              have hI_80 : (k3 : Int32).toInt < (5 : Int) := inleI rfl rfl c_32
              have hI_81 : (0 : Int) ≤ (k4 : Int32).toInt := inltI rfl rfl c_33
              have hI_82 : (k4 : Int32).toInt ≤ (f_42 : Int32).toInt := ileI rfl rfl c_43
              have hA_83 : (cV 6 M b_24 0).toInt = (v44_0 : Int32).toInt := by rw [cV_of hM44 rfl]
              have hA_84 : (cV 6 M b_24 1).toInt = (v44_1 : Int32).toInt := by rw [cV_of hM44 rfl]
              have hmt : (f_42 : Int32).toInt = mostI k3 := by rw [ef_42]; exact mostM (by omega) (by omega)
              have hno : ¬ okTm x1 SX SY k1 k2 k3 k4 := fun q9 => by unfold okTm okH at q9; first | omega | (obtain ⟨⟨_, _⟩, _, _, _, _, _, _, _, _⟩ := q9; first | omega | contradiction)
              rw [hQ]
              exact W.iret (v := (-1)) hx hb hr (fun t ht hW9 => ⟨⟨(-1), M, rfl, ⟨hW, hF, hT6, (by unfold syTm; rw [if_neg hno]; exact hC.mono), (by unfold anTm; rw [if_neg hno])⟩, ⟨3, by rw [ht]; exact hP, hD⟩⟩, hS.F ht⟩) hS.2.2 dX11_term_102
          · have hz := rfl (a := 0)
            refine lv_aload_n hx hb dX11_term_78 rfl (lv_at hl 2 rfl) ?_
            refine lv_iconst (v := 2) hx hb dX11_term_79 (by decide) ?_
            have hPc := hP.sub (ws' := [(xa, (b11_1 x0 (nI x1) x2 (nI x3) x4 x5 x6 x7 x8 x9 x10))]) [0] rfl
            have hDc := hD.sub (ws' := [(xa, (b11_1 x0 (nI x1) x2 (nI x3) x4 x5 x6 x7 x8 x9 x10))]) [0] (by decide) rfl
            have hKc := hK.sub (tys' := []) [] rfl
            have hFc := va_free (wc := [(xa, (b11_1 x0 (nI x1) x2 (nI x3) x4 x5 x6 x7 x8 x9 x10))]) hD hS hA [0] rfl
            refine va_calli (va_runV (As := [.int 2]) (rest := []) ⟨hx, hb, hml, hown, hg⟩ (k_refuse l D H_20.size xa x0 (nI x1) x2 (nI x3) x4 x5 x6 x7 x8 x9 x10 2) (cwV 1 hg (gV wd_344 wd_345 wd_346 wd_3 wd_347) rfl rfl rfl (by decide +kernel) ⟨(Nat.le_trans (Nat.le_of_ble_eq_true rfl) hRf), (Nat.le_trans (Nat.le_of_ble_eq_true rfl) hRl)⟩) ⟨Pr.blind, va_recv hK hP (ci := 11) (q0 := 0) rfl rfl, fun U hU hW => ⟨rfl, Pr.at hPc hKc hDc hN hU hW⟩⟩ rfl rfl hl.1 rfl (lv_room (Nat.le_of_ble_eq_true rfl)) dX11_term_80 ⟨(Nat.le_trans (Nat.le_of_ble_eq_true rfl) hRc), (Nat.le_trans (Nat.le_of_ble_eq_true rfl) hRs)⟩) hS (fun q _ h => hFc q h) hFc (fun r_86 M_87 t H_85 locs ht hvm hw hB hz1 hk1 hS => ?_)
            have hp_88 := hw
            obtain ⟨hP1, hK1, hD1⟩ := hB
            rw [ht] at hP1
            obtain ⟨hP, hD⟩ := va_joinQ (X := [(xa, (b11_1 x0 (nI x1) x2 (nI x3) x4 x5 x6 x7 x8 x9 x10))]) (cx := [(xa, (b11_1 x0 (nI x1) x2 (nI x3) x4 x5 x6 x7 x8 x9 x10))]) (wr := []) (w1 := [(xa, (b11_1 x0 (nI x1) x2 (nI x3) x4 x5 x6 x7 x8 2 (-1)))]) (pl := va_pl L M) hP hD [0] [] rfl rfl (by decide) (by decide) hk1 hFc hP1 hD1
            have hP : va_P D vwCl ([(xa, (b11_1 x0 (nI x1) x2 (nI x3) x4 x5 x6 x7 x8 2 (-1)))] ++ va_pl L M) H_85 := hP
            have hD : va_D A ([(xa, (b11_1 x0 (nI x1) x2 (nI x3) x4 x5 x6 x7 x8 2 (-1)))] ++ va_pl L M) := hD
            have hq := Eq.symm hp_88
            subst hq
            have hI_89 : (k3 : Int32).toInt = (4 : Int) := ieqI rfl rfl c_30
            have hI_90 : (0 : Int) ≤ (k3 : Int32).toInt := inltI rfl rfl c_31
            have hI_91 : (k3 : Int32).toInt < (5 : Int) := inleI rfl rfl c_32
            have hI_92 : (0 : Int) ≤ (k4 : Int32).toInt := inltI rfl rfl c_33
            have hI_93 : (f_42 : Int32).toInt < (k4 : Int32).toInt := inleI rfl rfl c_43
            have hmt : (f_42 : Int32).toInt = mostI k3 := by rw [ef_42]; exact mostM (by omega) (by omega)
            have hno : ¬ okTm x1 SX SY k1 k2 k3 k4 := fun q9 => by unfold okTm okH at q9; first | omega | (obtain ⟨⟨_, _⟩, _, _, _, _, _, _, _, _⟩ := q9; first | omega | contradiction)
            rw [hQ]
            exact W.iret (v := (-1)) hx hb hr (fun t ht hW9 => ⟨⟨(-1), M, rfl, ⟨hW, hF, hT6, (by unfold syTm; rw [if_neg hno]; exact hC.mono), (by unfold anTm; rw [if_neg hno])⟩, ⟨2, by rw [ht]; exact hP, hD⟩⟩, hS.F ht⟩) hS.2.2 dX11_term_83
      · have hz := rfl (a := 0)
        refine lv_iload_n hx hb dX11_term_38 rfl (lv_at hl 4 rfl) ?_
        have hPc : va_P D vwCl ([] ++ va_pl L M) H_20 := hP.part (cx := []) [] rfl
        have hDc : va_D A ([] ++ va_pl L M) := hD.part (cx := []) [] (by decide) rfl
        have hFc : ∀ q, va_A ([] ++ va_pl L M) H_20.size q → A q := pg_free hDc hS hA
        refine va_calli (va_runS (As := [.int k2]) (rest := []) ⟨hx, hb, hml, hown, hg⟩ (e_X11_isSeat l D cy K L M H_20.size k2  hW ) (va_cwS 1 hg (gS wd_348 wd_47 wd_3 wd_46) rfl rfl rfl (by decide +kernel) ⟨(Nat.le_trans (Nat.le_of_ble_eq_true rfl) hRf), (Nat.le_trans (Nat.le_of_ble_eq_true rfl) hRl)⟩) ⟨PG.blind, fun U hU hW => ⟨rfl, PG.at hPc hK hDc hN hU hW⟩⟩ rfl rfl hl.1 rfl (lv_room (Nat.le_of_ble_eq_true rfl)) dX11_term_39 ⟨(Nat.le_trans (Nat.le_of_ble_eq_true rfl) hRc), (Nat.le_trans (Nat.le_of_ble_eq_true rfl) hRs)⟩) hS (fun q _ h => hFc q h) hFc (fun r_95 M_96 t H_94 locs ht hvm hw hB hz1 hk1 hS => ?_)
        have hp_97 := hw
        obtain ⟨hP1, hD1⟩ := hB
        rw [ht] at hP1
        obtain ⟨hP, hD⟩ := va_joinP (X := [(xa, (b11_1 x0 (nI x1) x2 (nI x3) x4 x5 x6 x7 x8 x9 x10))]) (cx := []) (wr := [(xa, (b11_1 x0 (nI x1) x2 (nI x3) x4 x5 x6 x7 x8 x9 x10))]) (rx := []) (pl := va_pl L M) (pl1 := va_pl L M) hP hD [] [0] rfl rfl (by decide) (by decide) hk1 hFc hP1 hD1
        have hP : va_P D vwCl ([(xa, (b11_1 x0 (nI x1) x2 (nI x3) x4 x5 x6 x7 x8 x9 x10))] ++ va_pl L M) H_94 := hP
        have hD : va_D A ([(xa, (b11_1 x0 (nI x1) x2 (nI x3) x4 x5 x6 x7 x8 x9 x10))] ++ va_pl L M) := hD
        rcases hp_97 with ⟨rfl, c_98, c_99, c_100⟩ | ⟨rfl, c_101⟩
        · have hz := rfl (a := 0)
          refine lv_if_ne (tgt := 51) hx hb dX11_term_42 (by decide) (fun _ => ?_) (fun c_102 => absurd c_102 (by decide))
          refine lv_iload_n hx hb dX11_term_51 rfl (lv_at hl 5 rfl) ?_
          refine lv_if_lt (tgt := 78) hx hb dX11_term_52 (by decide) (fun c_103 => ?_) (fun c_103 => ?_)
          · have hz := rfl (a := 0)
            refine lv_aload_n hx hb dX11_term_78 rfl (lv_at hl 2 rfl) ?_
            refine lv_iconst (v := 2) hx hb dX11_term_79 (by decide) ?_
            have hPc := hP.sub (ws' := [(xa, (b11_1 x0 (nI x1) x2 (nI x3) x4 x5 x6 x7 x8 x9 x10))]) [0] rfl
            have hDc := hD.sub (ws' := [(xa, (b11_1 x0 (nI x1) x2 (nI x3) x4 x5 x6 x7 x8 x9 x10))]) [0] (by decide) rfl
            have hKc := hK.sub (tys' := []) [] rfl
            have hFc := va_free (wc := [(xa, (b11_1 x0 (nI x1) x2 (nI x3) x4 x5 x6 x7 x8 x9 x10))]) hD hS hA [0] rfl
            refine va_calli (va_runV (As := [.int 2]) (rest := []) ⟨hx, hb, hml, hown, hg⟩ (k_refuse l D H_94.size xa x0 (nI x1) x2 (nI x3) x4 x5 x6 x7 x8 x9 x10 2) (cwV 1 hg (gV wd_344 wd_345 wd_346 wd_3 wd_347) rfl rfl rfl (by decide +kernel) ⟨(Nat.le_trans (Nat.le_of_ble_eq_true rfl) hRf), (Nat.le_trans (Nat.le_of_ble_eq_true rfl) hRl)⟩) ⟨Pr.blind, va_recv hK hP (ci := 11) (q0 := 0) rfl rfl, fun U hU hW => ⟨rfl, Pr.at hPc hKc hDc hN hU hW⟩⟩ rfl rfl hl.1 rfl (lv_room (Nat.le_of_ble_eq_true rfl)) dX11_term_80 ⟨(Nat.le_trans (Nat.le_of_ble_eq_true rfl) hRc), (Nat.le_trans (Nat.le_of_ble_eq_true rfl) hRs)⟩) hS (fun q _ h => hFc q h) hFc (fun r_105 M_106 t H_104 locs ht hvm hw hB hz1 hk1 hS => ?_)
            have hp_107 := hw
            obtain ⟨hP1, hK1, hD1⟩ := hB
            rw [ht] at hP1
            obtain ⟨hP, hD⟩ := va_joinQ (X := [(xa, (b11_1 x0 (nI x1) x2 (nI x3) x4 x5 x6 x7 x8 x9 x10))]) (cx := [(xa, (b11_1 x0 (nI x1) x2 (nI x3) x4 x5 x6 x7 x8 x9 x10))]) (wr := []) (w1 := [(xa, (b11_1 x0 (nI x1) x2 (nI x3) x4 x5 x6 x7 x8 2 (-1)))]) (pl := va_pl L M) hP hD [0] [] rfl rfl (by decide) (by decide) hk1 hFc hP1 hD1
            have hP : va_P D vwCl ([(xa, (b11_1 x0 (nI x1) x2 (nI x3) x4 x5 x6 x7 x8 2 (-1)))] ++ va_pl L M) H_104 := hP
            have hD : va_D A ([(xa, (b11_1 x0 (nI x1) x2 (nI x3) x4 x5 x6 x7 x8 2 (-1)))] ++ va_pl L M) := hD
            have hq := Eq.symm hp_107
            subst hq
            have hI_108 : (k3 : Int32).toInt ≠ (4 : Int) := ineI rfl rfl c_30
            have hI_109 : (0 : Int) ≤ (k2 : Int32).toInt := inltI rfl rfl c_99
            have hI_110 : (k2 : Int32).toInt < (6 : Int) := inleI rfl rfl c_100
            have hI_111 : (k3 : Int32).toInt < (0 : Int) := iltI rfl rfl c_103
            have hno : ¬ okTm x1 SX SY k1 k2 k3 k4 := fun q9 => by unfold okTm okH at q9; first | omega | (obtain ⟨⟨_, _⟩, _, _, _, _, _, _, _, _⟩ := q9; first | omega | contradiction)
            rw [hQ]
            exact W.iret (v := (-1)) hx hb hr (fun t ht hW9 => ⟨⟨(-1), M, rfl, ⟨hW, hF, hT6, (by unfold syTm; rw [if_neg hno]; exact hC.mono), (by unfold anTm; rw [if_neg hno])⟩, ⟨2, by rw [ht]; exact hP, hD⟩⟩, hS.F ht⟩) hS.2.2 dX11_term_83
          · have hz := rfl (a := 0)
            refine lv_iload_n hx hb dX11_term_55 rfl (lv_at hl 5 rfl) ?_
            refine va_gets hx hb hZS hS hown (hg _ wd_683) (fun _ h9 => h9) dX11_term_56 ?_
            refine va_tlen (v := 5) hx hb hTS hS rfl dX11_term_59 ?_
            refine lv_icmp_ge (tgt := 78) hx hb dX11_term_60 (by decide) (fun c_112 => ?_) (fun c_112 => ?_)
            · have hz := rfl (a := 0)
              refine lv_aload_n hx hb dX11_term_78 rfl (lv_at hl 2 rfl) ?_
              refine lv_iconst (v := 2) hx hb dX11_term_79 (by decide) ?_
              have hPc := hP.sub (ws' := [(xa, (b11_1 x0 (nI x1) x2 (nI x3) x4 x5 x6 x7 x8 x9 x10))]) [0] rfl
              have hDc := hD.sub (ws' := [(xa, (b11_1 x0 (nI x1) x2 (nI x3) x4 x5 x6 x7 x8 x9 x10))]) [0] (by decide) rfl
              have hKc := hK.sub (tys' := []) [] rfl
              have hFc := va_free (wc := [(xa, (b11_1 x0 (nI x1) x2 (nI x3) x4 x5 x6 x7 x8 x9 x10))]) hD hS hA [0] rfl
              refine va_calli (va_runV (As := [.int 2]) (rest := []) ⟨hx, hb, hml, hown, hg⟩ (k_refuse l D H_94.size xa x0 (nI x1) x2 (nI x3) x4 x5 x6 x7 x8 x9 x10 2) (cwV 1 hg (gV wd_344 wd_345 wd_346 wd_3 wd_347) rfl rfl rfl (by decide +kernel) ⟨(Nat.le_trans (Nat.le_of_ble_eq_true rfl) hRf), (Nat.le_trans (Nat.le_of_ble_eq_true rfl) hRl)⟩) ⟨Pr.blind, va_recv hK hP (ci := 11) (q0 := 0) rfl rfl, fun U hU hW => ⟨rfl, Pr.at hPc hKc hDc hN hU hW⟩⟩ rfl rfl hl.1 rfl (lv_room (Nat.le_of_ble_eq_true rfl)) dX11_term_80 ⟨(Nat.le_trans (Nat.le_of_ble_eq_true rfl) hRc), (Nat.le_trans (Nat.le_of_ble_eq_true rfl) hRs)⟩) hS (fun q _ h => hFc q h) hFc (fun r_114 M_115 t H_113 locs ht hvm hw hB hz1 hk1 hS => ?_)
              have hp_116 := hw
              obtain ⟨hP1, hK1, hD1⟩ := hB
              rw [ht] at hP1
              obtain ⟨hP, hD⟩ := va_joinQ (X := [(xa, (b11_1 x0 (nI x1) x2 (nI x3) x4 x5 x6 x7 x8 x9 x10))]) (cx := [(xa, (b11_1 x0 (nI x1) x2 (nI x3) x4 x5 x6 x7 x8 x9 x10))]) (wr := []) (w1 := [(xa, (b11_1 x0 (nI x1) x2 (nI x3) x4 x5 x6 x7 x8 2 (-1)))]) (pl := va_pl L M) hP hD [0] [] rfl rfl (by decide) (by decide) hk1 hFc hP1 hD1
              have hP : va_P D vwCl ([(xa, (b11_1 x0 (nI x1) x2 (nI x3) x4 x5 x6 x7 x8 2 (-1)))] ++ va_pl L M) H_113 := hP
              have hD : va_D A ([(xa, (b11_1 x0 (nI x1) x2 (nI x3) x4 x5 x6 x7 x8 2 (-1)))] ++ va_pl L M) := hD
              have hq := Eq.symm hp_116
              subst hq
              have hI_117 : (k3 : Int32).toInt ≠ (4 : Int) := ineI rfl rfl c_30
              have hI_118 : (0 : Int) ≤ (k2 : Int32).toInt := inltI rfl rfl c_99
              have hI_119 : (k2 : Int32).toInt < (6 : Int) := inleI rfl rfl c_100
              have hI_120 : (0 : Int) ≤ (k3 : Int32).toInt := inltI rfl rfl c_103
              have hI_121 : (5 : Int) ≤ (k3 : Int32).toInt := ileI rfl rfl c_112
              have hno : ¬ okTm x1 SX SY k1 k2 k3 k4 := fun q9 => by unfold okTm okH at q9; first | omega | (obtain ⟨⟨_, _⟩, _, _, _, _, _, _, _, _⟩ := q9; first | omega | contradiction)
              rw [hQ]
              exact W.iret (v := (-1)) hx hb hr (fun t ht hW9 => ⟨⟨(-1), M, rfl, ⟨hW, hF, hT6, (by unfold syTm; rw [if_neg hno]; exact hC.mono), (by unfold anTm; rw [if_neg hno])⟩, ⟨2, by rw [ht]; exact hP, hD⟩⟩, hS.F ht⟩) hS.2.2 dX11_term_83
            · have hz := rfl (a := 0)
              refine lv_iload hx hb dX11_term_63 (lv_at hl 6 rfl) ?_
              refine lv_if_lt (tgt := 78) hx hb dX11_term_65 (by decide) (fun c_122 => ?_) (fun c_122 => ?_)
              · have hz := rfl (a := 0)
                refine lv_aload_n hx hb dX11_term_78 rfl (lv_at hl 2 rfl) ?_
                refine lv_iconst (v := 2) hx hb dX11_term_79 (by decide) ?_
                have hPc := hP.sub (ws' := [(xa, (b11_1 x0 (nI x1) x2 (nI x3) x4 x5 x6 x7 x8 x9 x10))]) [0] rfl
                have hDc := hD.sub (ws' := [(xa, (b11_1 x0 (nI x1) x2 (nI x3) x4 x5 x6 x7 x8 x9 x10))]) [0] (by decide) rfl
                have hKc := hK.sub (tys' := []) [] rfl
                have hFc := va_free (wc := [(xa, (b11_1 x0 (nI x1) x2 (nI x3) x4 x5 x6 x7 x8 x9 x10))]) hD hS hA [0] rfl
                refine va_calli (va_runV (As := [.int 2]) (rest := []) ⟨hx, hb, hml, hown, hg⟩ (k_refuse l D H_94.size xa x0 (nI x1) x2 (nI x3) x4 x5 x6 x7 x8 x9 x10 2) (cwV 1 hg (gV wd_344 wd_345 wd_346 wd_3 wd_347) rfl rfl rfl (by decide +kernel) ⟨(Nat.le_trans (Nat.le_of_ble_eq_true rfl) hRf), (Nat.le_trans (Nat.le_of_ble_eq_true rfl) hRl)⟩) ⟨Pr.blind, va_recv hK hP (ci := 11) (q0 := 0) rfl rfl, fun U hU hW => ⟨rfl, Pr.at hPc hKc hDc hN hU hW⟩⟩ rfl rfl hl.1 rfl (lv_room (Nat.le_of_ble_eq_true rfl)) dX11_term_80 ⟨(Nat.le_trans (Nat.le_of_ble_eq_true rfl) hRc), (Nat.le_trans (Nat.le_of_ble_eq_true rfl) hRs)⟩) hS (fun q _ h => hFc q h) hFc (fun r_124 M_125 t H_123 locs ht hvm hw hB hz1 hk1 hS => ?_)
                have hp_126 := hw
                obtain ⟨hP1, hK1, hD1⟩ := hB
                rw [ht] at hP1
                obtain ⟨hP, hD⟩ := va_joinQ (X := [(xa, (b11_1 x0 (nI x1) x2 (nI x3) x4 x5 x6 x7 x8 x9 x10))]) (cx := [(xa, (b11_1 x0 (nI x1) x2 (nI x3) x4 x5 x6 x7 x8 x9 x10))]) (wr := []) (w1 := [(xa, (b11_1 x0 (nI x1) x2 (nI x3) x4 x5 x6 x7 x8 2 (-1)))]) (pl := va_pl L M) hP hD [0] [] rfl rfl (by decide) (by decide) hk1 hFc hP1 hD1
                have hP : va_P D vwCl ([(xa, (b11_1 x0 (nI x1) x2 (nI x3) x4 x5 x6 x7 x8 2 (-1)))] ++ va_pl L M) H_123 := hP
                have hD : va_D A ([(xa, (b11_1 x0 (nI x1) x2 (nI x3) x4 x5 x6 x7 x8 2 (-1)))] ++ va_pl L M) := hD
                have hq := Eq.symm hp_126
                subst hq
                have hI_127 : (k3 : Int32).toInt ≠ (4 : Int) := ineI rfl rfl c_30
                have hI_128 : (0 : Int) ≤ (k2 : Int32).toInt := inltI rfl rfl c_99
                have hI_129 : (k2 : Int32).toInt < (6 : Int) := inleI rfl rfl c_100
                have hI_130 : (0 : Int) ≤ (k3 : Int32).toInt := inltI rfl rfl c_103
                have hI_131 : (k3 : Int32).toInt < (5 : Int) := inleI rfl rfl c_112
                have hI_132 : (k4 : Int32).toInt < (0 : Int) := iltI rfl rfl c_122
                have hno : ¬ okTm x1 SX SY k1 k2 k3 k4 := fun q9 => by unfold okTm okH at q9; first | omega | (obtain ⟨⟨_, _⟩, _, _, _, _, _, _, _, _⟩ := q9; first | omega | contradiction)
                rw [hQ]
                exact W.iret (v := (-1)) hx hb hr (fun t ht hW9 => ⟨⟨(-1), M, rfl, ⟨hW, hF, hT6, (by unfold syTm; rw [if_neg hno]; exact hC.mono), (by unfold anTm; rw [if_neg hno])⟩, ⟨2, by rw [ht]; exact hP, hD⟩⟩, hS.F ht⟩) hS.2.2 dX11_term_83
              · have hz := rfl (a := 0)
                refine lv_iload hx hb dX11_term_68 (lv_at hl 6 rfl) ?_
                refine va_gets hx hb hZS hS hown (hg _ wd_683) (fun _ h9 => h9) dX11_term_70 ?_
                refine lv_iload_n hx hb dX11_term_73 rfl (lv_at hl 5 rfl) ?_
                refine va_ti (v := .int (mtI (k3 : Int32).toNatClampNeg)) hx hb hTS hS (inb k3 5 (by omega) c_103 c_112) rfl dX11_term_74 ?_
                refine lv_topi (fun f_133 ef_133 => ?_)
                refine lv_icmp_le (tgt := 84) hx hb dX11_term_75 (by decide) (fun c_134 => ?_) (fun c_134 => ?_)
                · have hz := rfl (a := 0)
                  refine lv_aload hx hb dX11_term_84 (lv_at hl 1 rfl) ?_
                  refine lv_aload hx hb dX11_term_86 (lv_at hl 0 rfl) ?_
                  obtain ⟨v135_0, v135_1, v135_2, hM135, h135_2⟩ := hW.open_6 hb_29
                  refine pg_get (D := D) (ci := 6) (v := .int v135_0) (C := RX6) (T := TX6) (N := 3) hx hb hg inG6 hown hK hP hb_29.1 hM135 rfl 0 (by decide) (hg _ wd_585) (fun _ h9 => h9) rfl dX11_term_88 ?_
                  have hPc : va_P D vwCl ([] ++ va_pl L M) H_94 := hP.part (cx := []) [] rfl
                  have hDc : va_D A ([] ++ va_pl L M) := hD.part (cx := []) [] (by decide) rfl
                  have hFc : ∀ q, va_A ([] ++ va_pl L M) H_94.size q → A q := pg_free hDc hS hA
                  refine va_calli (va_runV (As := [.int v135_0]) (rest := []) ⟨hx, hb, hml, hown, hg⟩ (e_X2_isFree l D cy K L M H_94.size b_5 v135_0  hW hb_10) (cwV 1 hg (gV wd_361 wd_362 wd_363 wd_57 wd_364) rfl rfl rfl (by decide +kernel) ⟨(Nat.le_trans (Nat.le_of_ble_eq_true rfl) hRf), (Nat.le_trans (Nat.le_of_ble_eq_true rfl) hRl)⟩) ⟨PG.blind, pg_recv hK hP hb_10.1 hM11 rfl, fun U hU hW => ⟨rfl, PG.at hPc hK hDc hN hU hW⟩⟩ rfl rfl hl.1 rfl (lv_room (Nat.le_of_ble_eq_true rfl)) dX11_term_91 ⟨(Nat.le_trans (Nat.le_of_ble_eq_true rfl) hRc), (Nat.le_trans (Nat.le_of_ble_eq_true rfl) hRs)⟩) hS (fun q _ h => hFc q h) hFc (fun r_137 M_138 t H_136 locs ht hvm hw hB hz1 hk1 hS => ?_)
                  have hp_139 := hw
                  obtain ⟨hP1, hD1⟩ := hB
                  rw [ht] at hP1
                  obtain ⟨hP, hD⟩ := va_joinP (X := [(xa, (b11_1 x0 (nI x1) x2 (nI x3) x4 x5 x6 x7 x8 x9 x10))]) (cx := []) (wr := [(xa, (b11_1 x0 (nI x1) x2 (nI x3) x4 x5 x6 x7 x8 x9 x10))]) (rx := []) (pl := va_pl L M) (pl1 := va_pl L M) hP hD [] [0] rfl rfl (by decide) (by decide) hk1 hFc hP1 hD1
                  have hP : va_P D vwCl ([(xa, (b11_1 x0 (nI x1) x2 (nI x3) x4 x5 x6 x7 x8 x9 x10))] ++ va_pl L M) H_136 := hP
                  have hD : va_D A ([(xa, (b11_1 x0 (nI x1) x2 (nI x3) x4 x5 x6 x7 x8 x9 x10))] ++ va_pl L M) := hD
                  rcases hp_139 with ⟨rfl, c_140, c_141, c_142⟩ | ⟨rfl, c_143⟩
                  · have hz := rfl (a := 0)
                    refine lv_if_ne (tgt := 103) hx hb dX11_term_94 (by decide) (fun _ => ?_) (fun c_144 => absurd c_144 (by decide))
                    refine lv_aload_n hx hb dX11_term_103 rfl (lv_at hl 2 rfl) ?_
                    refine lv_aload hx hb dX11_term_104 (lv_at hl 0 rfl) ?_
                    refine lv_iload_n hx hb dX11_term_106 rfl (lv_at hl 4 rfl) ?_
                    refine lv_iload_n hx hb dX11_term_107 rfl (lv_at hl 5 rfl) ?_
                    refine lv_iload hx hb dX11_term_108 (lv_at hl 6 rfl) ?_
                    have hPc : va_P D vwCl ([] ++ va_pl L M) H_136 := hP.part (cx := []) [] rfl
                    have hDc : va_D A ([] ++ va_pl L M) := hD.part (cx := []) [] (by decide) rfl
                    have hFc : ∀ q, va_A ([] ++ va_pl L M) H_136.size q → A q := pg_free hDc hS hA
                    have hI_145 : (k3 : Int32).toInt ≠ (4 : Int) := ineI rfl rfl c_30
                    have hI_146 : (0 : Int) ≤ (k2 : Int32).toInt := inltI rfl rfl c_99
                    have hI_147 : (k2 : Int32).toInt < (6 : Int) := inleI rfl rfl c_100
                    have hI_148 : (0 : Int) ≤ (k3 : Int32).toInt := inltI rfl rfl c_103
                    have hI_149 : (k3 : Int32).toInt < (5 : Int) := inleI rfl rfl c_112
                    have hI_150 : (0 : Int) ≤ (k4 : Int32).toInt := inltI rfl rfl c_122
                    have hI_151 : (k4 : Int32).toInt ≤ (f_133 : Int32).toInt := ileI rfl rfl c_134
                    have hI_152 : (0 : Int) ≤ (v135_0 : Int32).toInt := inltI rfl rfl c_141
                    have hI_153 : (v135_0 : Int32).toInt ≤ (999 : Int) := inltI rfl rfl c_142
                    have hA_154 : (cV 6 M b_24 0).toInt = (v135_0 : Int32).toInt := by rw [cV_of hM135 rfl]
                    have hA_155 : (cV 6 M b_24 1).toInt = (v135_1 : Int32).toInt := by rw [cV_of hM135 rfl]
                    refine va_calli (va_runV (As := [.int k2, .int k3, .int k4]) (rest := [.ref xa]) ⟨hx, hb, hml, hown, hg⟩ (e_replace l D cy K L M H_136.size b_24 k2 k3 k4 Bo M b_5 (cfx M b_5) (cax M b_5) ((SX (k1 : Int32).toNatClampNeg 11 - 1).toNat) v135_0 v135_1 v135_2 hW hb_29 hb_10 hV hsr hri (by omega) hM135 h135_2) (cwV 3 hg (gV wd_684 wd_685 wd_686 wd_97 wd_687) rfl rfl rfl (by decide +kernel) ⟨(Nat.le_trans (Nat.le_of_ble_eq_true rfl) hRf), (Nat.le_trans (Nat.le_of_ble_eq_true rfl) hRl)⟩) ⟨PG.blind, pg_recv hK hP hb_29.1 hM135 rfl, fun U hU hW => ⟨rfl, PG.at hPc hK hDc hN hU hW⟩⟩ rfl rfl hl.1 rfl (lv_room (Nat.le_of_ble_eq_true rfl)) dX11_term_110 ⟨(Nat.le_trans (Nat.le_of_ble_eq_true rfl) hRc), (Nat.le_trans (Nat.le_of_ble_eq_true rfl) hRs)⟩) hS (fun q _ h => hFc q h) hFc (fun r_157 M_158 t H_156 locs ht hvm hw hB hz1 hk1 hS => ?_)
                    have hWb := hW
                    obtain ⟨hW, hF2, gT6, hVP, hp_159⟩ := hw
                    obtain ⟨hP1, hD1⟩ := hB
                    rw [ht] at hP1
                    obtain ⟨hP, hD⟩ := va_joinP (X := [(xa, (b11_1 x0 (nI x1) x2 (nI x3) x4 x5 x6 x7 x8 x9 x10))]) (cx := []) (wr := [(xa, (b11_1 x0 (nI x1) x2 (nI x3) x4 x5 x6 x7 x8 x9 x10))]) (rx := []) (pl := va_pl L M) (pl1 := va_pl L M_158) hP hD [] [0] rfl rfl (by decide) (by decide) hk1 hFc hP1 hD1
                    have hP : va_P D vwCl ([(xa, (b11_1 x0 (nI x1) x2 (nI x3) x4 x5 x6 x7 x8 x9 x10))] ++ va_pl L M_158) H_156 := hP
                    have hD : va_D A ([(xa, (b11_1 x0 (nI x1) x2 (nI x3) x4 x5 x6 x7 x8 x9 x10))] ++ va_pl L M_158) := hD
                    have hM_160 : M_158 b_5 = (b2_2 v11_0 v11_1 v11_2 v11_3 (nI v11_4) (nI v11_5) v11_6 v11_7 v11_8 (nI v11_9) v11_10 (nI v11_11) v11_12 v11_13 v11_14 v11_15 v11_16 v11_17 v11_18 v11_19) := (hF2.at hb_10 (by decide)).trans hM11
                    have hF : fr K L [6, 54] M M_158 := hF.tr hF2 (by decide)
                    have hT6 : fT 6 K L [1] M M_158 := hT6.tr gT6 (by decide)
                    have hV : VC Bo K L M M_158 b_5 (cfx M b_5) (if k3.toInt = 4 then va_up (cax M b_5) 35 (upd ((cax M b_5) 35) (SX (k1 : Int32).toNatClampNeg 11 - 1).toNat k4) else va_up (cax M b_5) 36 (upd ((cax M b_5) 36) (24 * (SX (k1 : Int32).toNatClampNeg 11 - 1).toNat + (6 * k3.toNatClampNeg + k2.toNatClampNeg)) k4)) := hVP
                    have hs_161 : RFc (M_158 (rA 2 M_158 b_5 10)) (SX (k1 : Int32).toNatClampNeg 11 - 1).toNat = some b_24 := by rw [rA_c ((fr.cv hF2 (by decide)) _ hb_10 10 rfl), hF2.at (KH hWb hb_10).2.2.2.2.1 (by decide)]; exact hsr
                    obtain rfl := hp_159
                    have hPc := hP.sub (ws' := [(xa, (b11_1 x0 (nI x1) x2 (nI x3) x4 x5 x6 x7 x8 x9 x10))]) [0] rfl
                    have hDc := hD.sub (ws' := [(xa, (b11_1 x0 (nI x1) x2 (nI x3) x4 x5 x6 x7 x8 x9 x10))]) [0] (by decide) rfl
                    have hKc := hK.sub (tys' := []) [] rfl
                    have hFc := va_free (wc := [(xa, (b11_1 x0 (nI x1) x2 (nI x3) x4 x5 x6 x7 x8 x9 x10))]) hD hS hA [0] rfl
                    refine va_calli (va_runV (As := [.int (if k3.toInt = 4 then (cax M b_5) 35 (SX (k1 : Int32).toNatClampNeg 11 - 1).toNat else (cax M b_5) 36 (24 * (SX (k1 : Int32).toNatClampNeg 11 - 1).toNat + (6 * k3.toNatClampNeg + k2.toNatClampNeg)))]) (rest := []) ⟨hx, hb, hml, hown, hg⟩ (k_accept l D H_156.size xa x0 (nI x1) x2 (nI x3) x4 x5 x6 x7 x8 x9 x10 (if k3.toInt = 4 then (cax M b_5) 35 (SX (k1 : Int32).toNatClampNeg 11 - 1).toNat else (cax M b_5) 36 (24 * (SX (k1 : Int32).toNatClampNeg 11 - 1).toNat + (6 * k3.toNatClampNeg + k2.toNatClampNeg)))) (cwV 1 hg (gV wd_356 wd_357 wd_358 wd_3 wd_359) rfl rfl rfl (by decide +kernel) ⟨(Nat.le_trans (Nat.le_of_ble_eq_true rfl) hRf), (Nat.le_trans (Nat.le_of_ble_eq_true rfl) hRl)⟩) ⟨Pr.blind, va_recv hK hP (ci := 11) (q0 := 0) rfl rfl, fun U hU hW => ⟨rfl, Pr.at hPc hKc hDc hN hU hW⟩⟩ rfl rfl hl.1 rfl (lv_room (Nat.le_of_ble_eq_true rfl)) dX11_term_113 ⟨(Nat.le_trans (Nat.le_of_ble_eq_true rfl) hRc), (Nat.le_trans (Nat.le_of_ble_eq_true rfl) hRs)⟩) hS (fun q _ h => hFc q h) hFc (fun r_163 M_164 t H_162 locs ht hvm hw hB hz1 hk1 hS => ?_)
                    have hp_165 := hw
                    obtain ⟨hP1, hK1, hD1⟩ := hB
                    rw [ht] at hP1
                    obtain ⟨hP, hD⟩ := va_joinQ (X := [(xa, (b11_1 x0 (nI x1) x2 (nI x3) x4 x5 x6 x7 x8 x9 x10))]) (cx := [(xa, (b11_1 x0 (nI x1) x2 (nI x3) x4 x5 x6 x7 x8 x9 x10))]) (wr := []) (w1 := [(xa, (b11_1 x0 (nI x1) x2 (nI x3) x4 x5 x6 x7 x8 0 (-1)))]) (pl := va_pl L M_158) hP hD [0] [] rfl rfl (by decide) (by decide) hk1 hFc hP1 hD1
                    have hP : va_P D vwCl ([(xa, (b11_1 x0 (nI x1) x2 (nI x3) x4 x5 x6 x7 x8 0 (-1)))] ++ va_pl L M_158) H_162 := hP
                    have hD : va_D A ([(xa, (b11_1 x0 (nI x1) x2 (nI x3) x4 x5 x6 x7 x8 0 (-1)))] ++ va_pl L M_158) := hD
                    have hq := Eq.symm hp_165
                    subst hq
                    have hmt : (f_133 : Int32).toInt = mostI k3 := by rw [ef_133]; exact mostM (by omega) (by omega)
                    have hyes : okTm x1 SX SY k1 k2 k3 k4 := by unfold okTm okH; refine ⟨⟨?_, ?_⟩, ?_, ?_, ?_, ?_, ?_, ?_, ?_, ?_⟩ <;> first | omega | assumption
                    rw [hQ]
                    exact W.iret (v := (if k3.toInt = 4 then (cax M b_5) 35 (SX (k1 : Int32).toNatClampNeg 11 - 1).toNat else (cax M b_5) 36 (24 * (SX (k1 : Int32).toNatClampNeg 11 - 1).toNat + (6 * k3.toNatClampNeg + k2.toNatClampNeg)))) hx hb hr (fun t ht hW9 => ⟨⟨(if k3.toInt = 4 then (cax M b_5) 35 (SX (k1 : Int32).toNatClampNeg 11 - 1).toNat else (cax M b_5) 36 (24 * (SX (k1 : Int32).toNatClampNeg 11 - 1).toNat + (6 * k3.toNatClampNeg + k2.toNatClampNeg))), M_158, rfl, ⟨hW, hF, hT6, (by unfold syTm; rw [if_pos hyes]; have hZ := hC.fin hW0 i0 b1 hkn hb9 hV ext.rf (by rw [hF.at i0 (by decide)]) (fun q iq => ⟨iq, cR_c (fr.cv hF (by decide) q iq 3 rfl)⟩) ((hSM.term.up1)); rw [va_upI] at hZ; exact hZ), (by unfold anTm; rw [if_pos hyes]; exact (Classical.em (k3.toInt = 4)).elim (fun z9 => by rw [if_pos z9, if_pos z9]; exact hru.2.2.1) (fun z9 => by rw [if_neg z9, if_neg z9]; have hk2 : (k2.toNatClampNeg : Int) = k2.toInt := clT (by omega); have hk3 : (k3.toNatClampNeg : Int) = k3.toInt := clT (by omega); exact hru.2.2.2 _ (by omega)))⟩, ⟨0, by rw [ht]; exact hP, hD⟩⟩, hS.F ht⟩) hS.2.2 dX11_term_116
                  · have hz := rfl (a := 0)
                    refine lv_if_ne (tgt := 103) hx hb dX11_term_94 (by decide) (fun c_166 => absurd c_166 (by decide)) (fun _ => ?_)
                    refine lv_aload_n hx hb dX11_term_97 rfl (lv_at hl 2 rfl) ?_
                    refine lv_iconst (v := 3) hx hb dX11_term_98 (by decide) ?_
                    have hPc := hP.sub (ws' := [(xa, (b11_1 x0 (nI x1) x2 (nI x3) x4 x5 x6 x7 x8 x9 x10))]) [0] rfl
                    have hDc := hD.sub (ws' := [(xa, (b11_1 x0 (nI x1) x2 (nI x3) x4 x5 x6 x7 x8 x9 x10))]) [0] (by decide) rfl
                    have hKc := hK.sub (tys' := []) [] rfl
                    have hFc := va_free (wc := [(xa, (b11_1 x0 (nI x1) x2 (nI x3) x4 x5 x6 x7 x8 x9 x10))]) hD hS hA [0] rfl
                    refine va_calli (va_runV (As := [.int 3]) (rest := []) ⟨hx, hb, hml, hown, hg⟩ (k_refuse l D H_136.size xa x0 (nI x1) x2 (nI x3) x4 x5 x6 x7 x8 x9 x10 3) (cwV 1 hg (gV wd_344 wd_345 wd_346 wd_3 wd_347) rfl rfl rfl (by decide +kernel) ⟨(Nat.le_trans (Nat.le_of_ble_eq_true rfl) hRf), (Nat.le_trans (Nat.le_of_ble_eq_true rfl) hRl)⟩) ⟨Pr.blind, va_recv hK hP (ci := 11) (q0 := 0) rfl rfl, fun U hU hW => ⟨rfl, Pr.at hPc hKc hDc hN hU hW⟩⟩ rfl rfl hl.1 rfl (lv_room (Nat.le_of_ble_eq_true rfl)) dX11_term_99 ⟨(Nat.le_trans (Nat.le_of_ble_eq_true rfl) hRc), (Nat.le_trans (Nat.le_of_ble_eq_true rfl) hRs)⟩) hS (fun q _ h => hFc q h) hFc (fun r_168 M_169 t H_167 locs ht hvm hw hB hz1 hk1 hS => ?_)
                    have hp_170 := hw
                    obtain ⟨hP1, hK1, hD1⟩ := hB
                    rw [ht] at hP1
                    obtain ⟨hP, hD⟩ := va_joinQ (X := [(xa, (b11_1 x0 (nI x1) x2 (nI x3) x4 x5 x6 x7 x8 x9 x10))]) (cx := [(xa, (b11_1 x0 (nI x1) x2 (nI x3) x4 x5 x6 x7 x8 x9 x10))]) (wr := []) (w1 := [(xa, (b11_1 x0 (nI x1) x2 (nI x3) x4 x5 x6 x7 x8 3 (-1)))]) (pl := va_pl L M) hP hD [0] [] rfl rfl (by decide) (by decide) hk1 hFc hP1 hD1
                    have hP : va_P D vwCl ([(xa, (b11_1 x0 (nI x1) x2 (nI x3) x4 x5 x6 x7 x8 3 (-1)))] ++ va_pl L M) H_167 := hP
                    have hD : va_D A ([(xa, (b11_1 x0 (nI x1) x2 (nI x3) x4 x5 x6 x7 x8 3 (-1)))] ++ va_pl L M) := hD
                    have hq := Eq.symm hp_170
                    subst hq
                    have hI_171 : (k3 : Int32).toInt ≠ (4 : Int) := ineI rfl rfl c_30
                    have hI_172 : (0 : Int) ≤ (k2 : Int32).toInt := inltI rfl rfl c_99
                    have hI_173 : (k2 : Int32).toInt < (6 : Int) := inleI rfl rfl c_100
                    have hI_174 : (0 : Int) ≤ (k3 : Int32).toInt := inltI rfl rfl c_103
                    have hI_175 : (k3 : Int32).toInt < (5 : Int) := inleI rfl rfl c_112
                    have hI_176 : (0 : Int) ≤ (k4 : Int32).toInt := inltI rfl rfl c_122
                    have hI_177 : (k4 : Int32).toInt ≤ (f_133 : Int32).toInt := ileI rfl rfl c_134
                    have hA_178 : (cV 6 M b_24 0).toInt = (v135_0 : Int32).toInt := by rw [cV_of hM135 rfl]
                    have hA_179 : (cV 6 M b_24 1).toInt = (v135_1 : Int32).toInt := by rw [cV_of hM135 rfl]
                    have hmt : (f_133 : Int32).toInt = mostI k3 := by rw [ef_133]; exact mostM (by omega) (by omega)
                    have hno : ¬ okTm x1 SX SY k1 k2 k3 k4 := fun q9 => by unfold okTm okH at q9; first | omega | (obtain ⟨⟨_, _⟩, _, _, _, _, _, _, _, _⟩ := q9; first | omega | contradiction)
                    rw [hQ]
                    exact W.iret (v := (-1)) hx hb hr (fun t ht hW9 => ⟨⟨(-1), M, rfl, ⟨hW, hF, hT6, (by unfold syTm; rw [if_neg hno]; exact hC.mono), (by unfold anTm; rw [if_neg hno])⟩, ⟨3, by rw [ht]; exact hP, hD⟩⟩, hS.F ht⟩) hS.2.2 dX11_term_102
                · have hz := rfl (a := 0)
                  refine lv_aload_n hx hb dX11_term_78 rfl (lv_at hl 2 rfl) ?_
                  refine lv_iconst (v := 2) hx hb dX11_term_79 (by decide) ?_
                  have hPc := hP.sub (ws' := [(xa, (b11_1 x0 (nI x1) x2 (nI x3) x4 x5 x6 x7 x8 x9 x10))]) [0] rfl
                  have hDc := hD.sub (ws' := [(xa, (b11_1 x0 (nI x1) x2 (nI x3) x4 x5 x6 x7 x8 x9 x10))]) [0] (by decide) rfl
                  have hKc := hK.sub (tys' := []) [] rfl
                  have hFc := va_free (wc := [(xa, (b11_1 x0 (nI x1) x2 (nI x3) x4 x5 x6 x7 x8 x9 x10))]) hD hS hA [0] rfl
                  refine va_calli (va_runV (As := [.int 2]) (rest := []) ⟨hx, hb, hml, hown, hg⟩ (k_refuse l D H_94.size xa x0 (nI x1) x2 (nI x3) x4 x5 x6 x7 x8 x9 x10 2) (cwV 1 hg (gV wd_344 wd_345 wd_346 wd_3 wd_347) rfl rfl rfl (by decide +kernel) ⟨(Nat.le_trans (Nat.le_of_ble_eq_true rfl) hRf), (Nat.le_trans (Nat.le_of_ble_eq_true rfl) hRl)⟩) ⟨Pr.blind, va_recv hK hP (ci := 11) (q0 := 0) rfl rfl, fun U hU hW => ⟨rfl, Pr.at hPc hKc hDc hN hU hW⟩⟩ rfl rfl hl.1 rfl (lv_room (Nat.le_of_ble_eq_true rfl)) dX11_term_80 ⟨(Nat.le_trans (Nat.le_of_ble_eq_true rfl) hRc), (Nat.le_trans (Nat.le_of_ble_eq_true rfl) hRs)⟩) hS (fun q _ h => hFc q h) hFc (fun r_181 M_182 t H_180 locs ht hvm hw hB hz1 hk1 hS => ?_)
                  have hp_183 := hw
                  obtain ⟨hP1, hK1, hD1⟩ := hB
                  rw [ht] at hP1
                  obtain ⟨hP, hD⟩ := va_joinQ (X := [(xa, (b11_1 x0 (nI x1) x2 (nI x3) x4 x5 x6 x7 x8 x9 x10))]) (cx := [(xa, (b11_1 x0 (nI x1) x2 (nI x3) x4 x5 x6 x7 x8 x9 x10))]) (wr := []) (w1 := [(xa, (b11_1 x0 (nI x1) x2 (nI x3) x4 x5 x6 x7 x8 2 (-1)))]) (pl := va_pl L M) hP hD [0] [] rfl rfl (by decide) (by decide) hk1 hFc hP1 hD1
                  have hP : va_P D vwCl ([(xa, (b11_1 x0 (nI x1) x2 (nI x3) x4 x5 x6 x7 x8 2 (-1)))] ++ va_pl L M) H_180 := hP
                  have hD : va_D A ([(xa, (b11_1 x0 (nI x1) x2 (nI x3) x4 x5 x6 x7 x8 2 (-1)))] ++ va_pl L M) := hD
                  have hq := Eq.symm hp_183
                  subst hq
                  have hI_184 : (k3 : Int32).toInt ≠ (4 : Int) := ineI rfl rfl c_30
                  have hI_185 : (0 : Int) ≤ (k2 : Int32).toInt := inltI rfl rfl c_99
                  have hI_186 : (k2 : Int32).toInt < (6 : Int) := inleI rfl rfl c_100
                  have hI_187 : (0 : Int) ≤ (k3 : Int32).toInt := inltI rfl rfl c_103
                  have hI_188 : (k3 : Int32).toInt < (5 : Int) := inleI rfl rfl c_112
                  have hI_189 : (0 : Int) ≤ (k4 : Int32).toInt := inltI rfl rfl c_122
                  have hI_190 : (f_133 : Int32).toInt < (k4 : Int32).toInt := inleI rfl rfl c_134
                  have hmt : (f_133 : Int32).toInt = mostI k3 := by rw [ef_133]; exact mostM (by omega) (by omega)
                  have hno : ¬ okTm x1 SX SY k1 k2 k3 k4 := fun q9 => by unfold okTm okH at q9; first | omega | (obtain ⟨⟨_, _⟩, _, _, _, _, _, _, _, _⟩ := q9; first | omega | contradiction)
                  rw [hQ]
                  exact W.iret (v := (-1)) hx hb hr (fun t ht hW9 => ⟨⟨(-1), M, rfl, ⟨hW, hF, hT6, (by unfold syTm; rw [if_neg hno]; exact hC.mono), (by unfold anTm; rw [if_neg hno])⟩, ⟨2, by rw [ht]; exact hP, hD⟩⟩, hS.F ht⟩) hS.2.2 dX11_term_83
        · have hz := rfl (a := 0)
          refine lv_if_ne (tgt := 51) hx hb dX11_term_42 (by decide) (fun c_191 => absurd c_191 (by decide)) (fun _ => ?_)
          refine lv_aload_n hx hb dX11_term_45 rfl (lv_at hl 2 rfl) ?_
          refine lv_iconst (v := 1) hx hb dX11_term_46 (by decide) ?_
          have hPc := hP.sub (ws' := [(xa, (b11_1 x0 (nI x1) x2 (nI x3) x4 x5 x6 x7 x8 x9 x10))]) [0] rfl
          have hDc := hD.sub (ws' := [(xa, (b11_1 x0 (nI x1) x2 (nI x3) x4 x5 x6 x7 x8 x9 x10))]) [0] (by decide) rfl
          have hKc := hK.sub (tys' := []) [] rfl
          have hFc := va_free (wc := [(xa, (b11_1 x0 (nI x1) x2 (nI x3) x4 x5 x6 x7 x8 x9 x10))]) hD hS hA [0] rfl
          refine va_calli (va_runV (As := [.int 1]) (rest := []) ⟨hx, hb, hml, hown, hg⟩ (k_refuse l D H_94.size xa x0 (nI x1) x2 (nI x3) x4 x5 x6 x7 x8 x9 x10 1) (cwV 1 hg (gV wd_344 wd_345 wd_346 wd_3 wd_347) rfl rfl rfl (by decide +kernel) ⟨(Nat.le_trans (Nat.le_of_ble_eq_true rfl) hRf), (Nat.le_trans (Nat.le_of_ble_eq_true rfl) hRl)⟩) ⟨Pr.blind, va_recv hK hP (ci := 11) (q0 := 0) rfl rfl, fun U hU hW => ⟨rfl, Pr.at hPc hKc hDc hN hU hW⟩⟩ rfl rfl hl.1 rfl (lv_room (Nat.le_of_ble_eq_true rfl)) dX11_term_47 ⟨(Nat.le_trans (Nat.le_of_ble_eq_true rfl) hRc), (Nat.le_trans (Nat.le_of_ble_eq_true rfl) hRs)⟩) hS (fun q _ h => hFc q h) hFc (fun r_193 M_194 t H_192 locs ht hvm hw hB hz1 hk1 hS => ?_)
          have hp_195 := hw
          obtain ⟨hP1, hK1, hD1⟩ := hB
          rw [ht] at hP1
          obtain ⟨hP, hD⟩ := va_joinQ (X := [(xa, (b11_1 x0 (nI x1) x2 (nI x3) x4 x5 x6 x7 x8 x9 x10))]) (cx := [(xa, (b11_1 x0 (nI x1) x2 (nI x3) x4 x5 x6 x7 x8 x9 x10))]) (wr := []) (w1 := [(xa, (b11_1 x0 (nI x1) x2 (nI x3) x4 x5 x6 x7 x8 1 (-1)))]) (pl := va_pl L M) hP hD [0] [] rfl rfl (by decide) (by decide) hk1 hFc hP1 hD1
          have hP : va_P D vwCl ([(xa, (b11_1 x0 (nI x1) x2 (nI x3) x4 x5 x6 x7 x8 1 (-1)))] ++ va_pl L M) H_192 := hP
          have hD : va_D A ([(xa, (b11_1 x0 (nI x1) x2 (nI x3) x4 x5 x6 x7 x8 1 (-1)))] ++ va_pl L M) := hD
          have hq := Eq.symm hp_195
          subst hq
          have hI_196 : (k3 : Int32).toInt ≠ (4 : Int) := ineI rfl rfl c_30
          have hno : ¬ okTm x1 SX SY k1 k2 k3 k4 := fun q9 => by unfold okTm okH at q9; first | omega | (obtain ⟨⟨_, _⟩, _, _, _, _, _, _, _, _⟩ := q9; first | omega | contradiction)
          rw [hQ]
          exact W.iret (v := (-1)) hx hb hr (fun t ht hW9 => ⟨⟨(-1), M, rfl, ⟨hW, hF, hT6, (by unfold syTm; rw [if_neg hno]; exact hC.mono), (by unfold anTm; rw [if_neg hno])⟩, ⟨1, by rw [ht]; exact hP, hD⟩⟩, hS.F ht⟩) hS.2.2 dX11_term_50
set_option maxHeartbeats 4000000 in
set_option maxRecDepth 100000 in
theorem x_earn (l : Launch) (D : va_G) (cy : Nat → ClassId) (K : Kp) (L : List Nat) (M : Hp) (sz : Nat) (xa : Nat) (x0 : Nat) (x1 : Nat) (x2 : Nat) (x3 : Nat) (x4 : Nat) (x5 : Nat) (x6 : Nat) (x7 : Int32) (x8 : Nat) (x9 : Int32) (x10 : Int32) (k1 : Int32) (k2 : Int32) (k3 : Int32) (Bo : Nat → Nat × Nat) (T : Int) (PK : Nat → Int32) (PT : Nat → Int32) (SX : Nat → Nat → Int) (SY : Nat → Nat → Nat → Int32) (hW : WOK cy K L M) (i0 : isk K L x0 17 8) (b1 : x1 ≤ 8) (i2 : isk K L x2 19 40) (b3 : x3 ≤ 40) (i4 : isk K L x4 7 0) (i5 : isk K L x5 5 0) (i6 : isk K L x6 60 24) (i8 : isk K L x8 73 25) (hC : CX Bo K L x0 x1 T x3 PK PT SX SY M) (hSV : ∀ k, k < x1 → SV (SX k) (SY k)) (hHI : ∀ k, k < x1 → HI (SX k) (SY k)) (hT : (0 ≤ T ∧ T ≤ 900000)) : Met l yX11_earn (wsM yX11_earn cX11_earn 4 (some .int)) ({ frames := 3, cells := 0, slots := 0, locals := 70 }) (va_Pc [.ref xa, .int k1, .int k2, .int k3] (PG D cy [(xa, (b11_1 x0 (nI x1) x2 (nI x3) x4 x5 x6 x7 x8 x9 x10))] L M sz)) (va_Qi (fun (r : Int32) (M9 : Hp) => WOK cy K L M9 ∧ fr K L [3, 10, 53, 55] M M9 ∧ fT 3 K L [2] M M9 ∧ fT 10 K L [1, 2] M M9 ∧ (∀ n9 l9, (okEn x1 SX SY k1 k2 k3 1 → REMF (SX k1.toNatClampNeg 16) (SY k1.toNatClampNeg 43) k2 n9 l9) → CX Bo K L x0 x1 (T + 1) x3 PK PT (sxEn x1 SX SY k1 k2 k3 1 n9) (syEn x1 SX SY k1 k2 k3 1 l9) M9) ∧ ((r = anEn x1 SX SY k1 k2 k3 1))) (fun M9 t => ∃ (w9 : Int32), PQ D [(xa, (b11_1 x0 (nI x1) x2 (nI x3) x4 x5 x6 x7 x8 w9 (-1)))] L M9 (va_A ([(xa, (b11_1 x0 (nI x1) x2 (nI x3) x4 x5 x6 x7 x8 x9 x10))] ++ va_pl L M) sz) t) (va_A ([(xa, (b11_1 x0 (nI x1) x2 (nI x3) x4 x5 x6 x7 x8 x9 x10))] ++ va_pl L M) sz)) 0 0 (va_A ([(xa, (b11_1 x0 (nI x1) x2 (nI x3) x4 x5 x6 x7 x8 x9 x10))] ++ va_pl L M) sz) := by
  refine Met.ofW (cc := cX11_earn) (maxL := 4) (ret := (some .int)) (by decide) rfl ?_
  intro p e s m args below meth c s₁ B hml hv
  obtain ⟨rfl, hsz, hP, hK, hD0, hN⟩ := hv
  have hx := B.exec
  have hb := B.bytes
  have hr := B.returns
  have hts := atoms_spec (ws := (wsM yX11_earn cX11_earn 4 (some .int))) B.pre
  have hg : ∀ w ∈ lw_good, w.before _ s = true := fun w h => hts w (List.mem_cons_of_mem _ h)
  have hown : s.vm.findClass RX11 = some m.cls := findClass_of_methodNamed B.named
  have hlocks := B.notSynchronized
  subst hsz
  have hD := hD0.self (sz := s.heap.size)
  generalize hAe : va_A ([(xa, (b11_1 x0 (nI x1) x2 (nI x3) x4 x5 x6 x7 x8 x9 x10))] ++ va_pl L M) s.heap.size = A at hD ⊢
  have hA : ∀ q : Nat, s.heap.size ≤ q → A q := fun q h => by rw [← hAe]; exact Or.inr h
  have hS : va_S A s.heap s.heap [] := va_S.rf
  have hl := lv_entry ([.ref xa, .int k1, .int k2, .int k3]) (n := 4) (Nat.le_of_ble_eq_true rfl)
  rw [lg_entry_eq]
  generalize (lg_sl ([.ref xa, .int k1, .int k2, .int k3]) ++ List.replicate (4 - (lg_sl ([.ref xa, .int k1, .int k2, .int k3])).length) Slot.unset).toArray = ls at hl ⊢
  refine W.nameQ (fun Q hQ => ?_)
  refine W.nameR (fun R hR => ?_)
  have hRf : 3 ≤ R.frames := by rw [hR]; exact Nat.le_of_ble_eq_true rfl
  have hRl : 70 ≤ R.locals := by rw [hR]; exact Nat.le_of_ble_eq_true rfl
  have hRc : 0 ≤ R.cells := by rw [hR]; exact Nat.le_of_ble_eq_true rfl
  have hRs : 0 ≤ R.slots := by rw [hR]; exact Nat.le_of_ble_eq_true rfl
  have hF : fr K L [3, 10, 53, 55] M M := fr.rf
  have hT3 : fT 3 K L [2] M M := fT.rf
  have hT10 : fT 10 K L [1, 2] M M := fT.rf
  have hl : lv_has ls 4 [(0, .ref xa), (1, .int k1), (2, .int k2), (3, .int k3)] := hl
  refine lv_aload_n hx hb dX11_earn_0 rfl (lv_at hl 0 rfl) ?_
  refine lv_iload_n hx hb dX11_earn_1 rfl (lv_at hl 1 rfl) ?_
  refine lv_iload_n hx hb dX11_earn_2 rfl (lv_at hl 2 rfl) ?_
  refine lv_iload_n hx hb dX11_earn_3 rfl (lv_at hl 3 rfl) ?_
  refine lv_iconst (v := 1) hx hb dX11_earn_4 (by decide) ?_
  have hPc : va_P D vwCl ([(xa, (b11_1 x0 (nI x1) x2 (nI x3) x4 x5 x6 x7 x8 x9 x10))] ++ va_pl L M) s.heap := hP
  have hDc : va_D A ([(xa, (b11_1 x0 (nI x1) x2 (nI x3) x4 x5 x6 x7 x8 x9 x10))] ++ va_pl L M) := hD
  have hFc : ∀ q, va_A ([(xa, (b11_1 x0 (nI x1) x2 (nI x3) x4 x5 x6 x7 x8 x9 x10))] ++ va_pl L M) s.heap.size q → A q := pg_free hDc hS hA
  refine va_calli (va_runV (As := [.int k1, .int k2, .int k3, .int 1]) (rest := []) ⟨hx, hb, hml, hown, hg⟩ (x_enter l D cy K L M s.heap.size xa x0 x1 x2 x3 x4 x5 x6 x7 x8 x9 x10 k1 k2 k3 1 Bo T PK PT SX SY  hW i0 b1 i2 b3 i4 i5 i6 i8 hC hSV hHI hT) (cwV 4 hg (gV wd_397 wd_398 wd_399 wd_3 wd_400) rfl rfl rfl (by decide +kernel) ⟨(Nat.le_trans (Nat.le_of_ble_eq_true rfl) hRf), (Nat.le_trans (Nat.le_of_ble_eq_true rfl) hRl)⟩) ⟨PG.blind, va_recv hK hP (ci := 11) (q0 := 0) rfl rfl, fun U hU hW => ⟨rfl, PG.at hPc hK hDc hN hU hW⟩⟩ rfl rfl hl.1 rfl (lv_room (Nat.le_of_ble_eq_true rfl)) dX11_earn_5 ⟨(Nat.le_trans (Nat.le_of_ble_eq_true rfl) hRc), (Nat.le_trans (Nat.le_of_ble_eq_true rfl) hRs)⟩) hS (fun q _ h => hFc q h) hFc (fun r_2 M_3 t H_1 locs ht hvm hw hB hz1 hk1 hS => ?_)
  obtain ⟨hW, hF2, gT3, gT10, hVP, hp_4⟩ := hw
  obtain ⟨w9_5, hP1, hD1⟩ := hB
  rw [ht] at hP1
  have hP : va_P D vwCl ([(xa, (b11_1 x0 (nI x1) x2 (nI x3) x4 x5 x6 x7 x8 w9_5 (-1)))] ++ va_pl L M_3) H_1 := hP1
  have hD : va_D A ([(xa, (b11_1 x0 (nI x1) x2 (nI x3) x4 x5 x6 x7 x8 w9_5 (-1)))] ++ va_pl L M_3) := hD1.mono hFc
  have hF : fr K L [3, 10, 53, 55] M M_3 := hF.tr hF2 (by decide)
  have hT3 : fT 3 K L [2] M M_3 := hT3.tr gT3 (by decide)
  have hT10 : fT 10 K L [1, 2] M M_3 := hT10.tr gT10 (by decide)
  obtain rfl := hp_4
  rw [hQ]
  exact W.iret (v := (anEn x1 SX SY k1 k2 k3 1)) hx hb hr (fun t ht hW9 => ⟨⟨(anEn x1 SX SY k1 k2 k3 1), M_3, rfl, ⟨hW, hF, hT3, hT10, hVP, rfl⟩, ⟨w9_5, by rw [ht]; exact hP, hD⟩⟩, hS.F ht⟩) hS.2.2 dX11_earn_8
set_option maxHeartbeats 4000000 in
set_option maxRecDepth 100000 in
theorem x_spend (l : Launch) (D : va_G) (cy : Nat → ClassId) (K : Kp) (L : List Nat) (M : Hp) (sz : Nat) (xa : Nat) (x0 : Nat) (x1 : Nat) (x2 : Nat) (x3 : Nat) (x4 : Nat) (x5 : Nat) (x6 : Nat) (x7 : Int32) (x8 : Nat) (x9 : Int32) (x10 : Int32) (k1 : Int32) (k2 : Int32) (k3 : Int32) (Bo : Nat → Nat × Nat) (T : Int) (PK : Nat → Int32) (PT : Nat → Int32) (SX : Nat → Nat → Int) (SY : Nat → Nat → Nat → Int32) (hW : WOK cy K L M) (i0 : isk K L x0 17 8) (b1 : x1 ≤ 8) (i2 : isk K L x2 19 40) (b3 : x3 ≤ 40) (i4 : isk K L x4 7 0) (i5 : isk K L x5 5 0) (i6 : isk K L x6 60 24) (i8 : isk K L x8 73 25) (hC : CX Bo K L x0 x1 T x3 PK PT SX SY M) (hSV : ∀ k, k < x1 → SV (SX k) (SY k)) (hHI : ∀ k, k < x1 → HI (SX k) (SY k)) (hT : (0 ≤ T ∧ T ≤ 900000)) : Met l yX11_spend (wsM yX11_spend cX11_spend 4 (some .int)) ({ frames := 3, cells := 0, slots := 0, locals := 70 }) (va_Pc [.ref xa, .int k1, .int k2, .int k3] (PG D cy [(xa, (b11_1 x0 (nI x1) x2 (nI x3) x4 x5 x6 x7 x8 x9 x10))] L M sz)) (va_Qi (fun (r : Int32) (M9 : Hp) => WOK cy K L M9 ∧ fr K L [3, 10, 53, 55] M M9 ∧ fT 3 K L [2] M M9 ∧ fT 10 K L [1, 2] M M9 ∧ (∀ n9 l9, (okEn x1 SX SY k1 k2 k3 (-1) → REMF (SX k1.toNatClampNeg 16) (SY k1.toNatClampNeg 43) k2 n9 l9) → CX Bo K L x0 x1 (T + 1) x3 PK PT (sxEn x1 SX SY k1 k2 k3 (-1) n9) (syEn x1 SX SY k1 k2 k3 (-1) l9) M9) ∧ ((r = anEn x1 SX SY k1 k2 k3 (-1)))) (fun M9 t => ∃ (w9 : Int32), PQ D [(xa, (b11_1 x0 (nI x1) x2 (nI x3) x4 x5 x6 x7 x8 w9 (-1)))] L M9 (va_A ([(xa, (b11_1 x0 (nI x1) x2 (nI x3) x4 x5 x6 x7 x8 x9 x10))] ++ va_pl L M) sz) t) (va_A ([(xa, (b11_1 x0 (nI x1) x2 (nI x3) x4 x5 x6 x7 x8 x9 x10))] ++ va_pl L M) sz)) 0 0 (va_A ([(xa, (b11_1 x0 (nI x1) x2 (nI x3) x4 x5 x6 x7 x8 x9 x10))] ++ va_pl L M) sz) := by
  refine Met.ofW (cc := cX11_spend) (maxL := 4) (ret := (some .int)) (by decide) rfl ?_
  intro p e s m args below meth c s₁ B hml hv
  obtain ⟨rfl, hsz, hP, hK, hD0, hN⟩ := hv
  have hx := B.exec
  have hb := B.bytes
  have hr := B.returns
  have hts := atoms_spec (ws := (wsM yX11_spend cX11_spend 4 (some .int))) B.pre
  have hg : ∀ w ∈ lw_good, w.before _ s = true := fun w h => hts w (List.mem_cons_of_mem _ h)
  have hown : s.vm.findClass RX11 = some m.cls := findClass_of_methodNamed B.named
  have hlocks := B.notSynchronized
  subst hsz
  have hD := hD0.self (sz := s.heap.size)
  generalize hAe : va_A ([(xa, (b11_1 x0 (nI x1) x2 (nI x3) x4 x5 x6 x7 x8 x9 x10))] ++ va_pl L M) s.heap.size = A at hD ⊢
  have hA : ∀ q : Nat, s.heap.size ≤ q → A q := fun q h => by rw [← hAe]; exact Or.inr h
  have hS : va_S A s.heap s.heap [] := va_S.rf
  have hl := lv_entry ([.ref xa, .int k1, .int k2, .int k3]) (n := 4) (Nat.le_of_ble_eq_true rfl)
  rw [lg_entry_eq]
  generalize (lg_sl ([.ref xa, .int k1, .int k2, .int k3]) ++ List.replicate (4 - (lg_sl ([.ref xa, .int k1, .int k2, .int k3])).length) Slot.unset).toArray = ls at hl ⊢
  refine W.nameQ (fun Q hQ => ?_)
  refine W.nameR (fun R hR => ?_)
  have hRf : 3 ≤ R.frames := by rw [hR]; exact Nat.le_of_ble_eq_true rfl
  have hRl : 70 ≤ R.locals := by rw [hR]; exact Nat.le_of_ble_eq_true rfl
  have hRc : 0 ≤ R.cells := by rw [hR]; exact Nat.le_of_ble_eq_true rfl
  have hRs : 0 ≤ R.slots := by rw [hR]; exact Nat.le_of_ble_eq_true rfl
  have hF : fr K L [3, 10, 53, 55] M M := fr.rf
  have hT3 : fT 3 K L [2] M M := fT.rf
  have hT10 : fT 10 K L [1, 2] M M := fT.rf
  have hl : lv_has ls 4 [(0, .ref xa), (1, .int k1), (2, .int k2), (3, .int k3)] := hl
  refine lv_aload_n hx hb dX11_spend_0 rfl (lv_at hl 0 rfl) ?_
  refine lv_iload_n hx hb dX11_spend_1 rfl (lv_at hl 1 rfl) ?_
  refine lv_iload_n hx hb dX11_spend_2 rfl (lv_at hl 2 rfl) ?_
  refine lv_iload_n hx hb dX11_spend_3 rfl (lv_at hl 3 rfl) ?_
  refine lv_iconst (v := (-1)) hx hb dX11_spend_4 (by decide) ?_
  have hPc : va_P D vwCl ([(xa, (b11_1 x0 (nI x1) x2 (nI x3) x4 x5 x6 x7 x8 x9 x10))] ++ va_pl L M) s.heap := hP
  have hDc : va_D A ([(xa, (b11_1 x0 (nI x1) x2 (nI x3) x4 x5 x6 x7 x8 x9 x10))] ++ va_pl L M) := hD
  have hFc : ∀ q, va_A ([(xa, (b11_1 x0 (nI x1) x2 (nI x3) x4 x5 x6 x7 x8 x9 x10))] ++ va_pl L M) s.heap.size q → A q := pg_free hDc hS hA
  refine va_calli (va_runV (As := [.int k1, .int k2, .int k3, .int (-1)]) (rest := []) ⟨hx, hb, hml, hown, hg⟩ (x_enter l D cy K L M s.heap.size xa x0 x1 x2 x3 x4 x5 x6 x7 x8 x9 x10 k1 k2 k3 (-1) Bo T PK PT SX SY  hW i0 b1 i2 b3 i4 i5 i6 i8 hC hSV hHI hT) (cwV 4 hg (gV wd_397 wd_398 wd_399 wd_3 wd_400) rfl rfl rfl (by decide +kernel) ⟨(Nat.le_trans (Nat.le_of_ble_eq_true rfl) hRf), (Nat.le_trans (Nat.le_of_ble_eq_true rfl) hRl)⟩) ⟨PG.blind, va_recv hK hP (ci := 11) (q0 := 0) rfl rfl, fun U hU hW => ⟨rfl, PG.at hPc hK hDc hN hU hW⟩⟩ rfl rfl hl.1 rfl (lv_room (Nat.le_of_ble_eq_true rfl)) dX11_spend_5 ⟨(Nat.le_trans (Nat.le_of_ble_eq_true rfl) hRc), (Nat.le_trans (Nat.le_of_ble_eq_true rfl) hRs)⟩) hS (fun q _ h => hFc q h) hFc (fun r_2 M_3 t H_1 locs ht hvm hw hB hz1 hk1 hS => ?_)
  obtain ⟨hW, hF2, gT3, gT10, hVP, hp_4⟩ := hw
  obtain ⟨w9_5, hP1, hD1⟩ := hB
  rw [ht] at hP1
  have hP : va_P D vwCl ([(xa, (b11_1 x0 (nI x1) x2 (nI x3) x4 x5 x6 x7 x8 w9_5 (-1)))] ++ va_pl L M_3) H_1 := hP1
  have hD : va_D A ([(xa, (b11_1 x0 (nI x1) x2 (nI x3) x4 x5 x6 x7 x8 w9_5 (-1)))] ++ va_pl L M_3) := hD1.mono hFc
  have hF : fr K L [3, 10, 53, 55] M M_3 := hF.tr hF2 (by decide)
  have hT3 : fT 3 K L [2] M M_3 := hT3.tr gT3 (by decide)
  have hT10 : fT 10 K L [1, 2] M M_3 := hT10.tr gT10 (by decide)
  obtain rfl := hp_4
  rw [hQ]
  exact W.iret (v := (anEn x1 SX SY k1 k2 k3 (-1))) hx hb hr (fun t ht hW9 => ⟨⟨(anEn x1 SX SY k1 k2 k3 (-1)), M_3, rfl, ⟨hW, hF, hT3, hT10, hVP, rfl⟩, ⟨w9_5, by rw [ht]; exact hP, hD⟩⟩, hS.F ht⟩) hS.2.2 dX11_spend_8
set_option maxHeartbeats 4000000 in
set_option maxRecDepth 100000 in
theorem x_where (l : Launch) (D : va_G) (cy : Nat → ClassId) (K : Kp) (L : List Nat) (M : Hp) (sz : Nat) (xa : Nat) (x0 : Nat) (x1 : Nat) (x2 : Nat) (x3 : Nat) (x4 : Nat) (x5 : Nat) (x6 : Nat) (x7 : Int32) (x8 : Nat) (x9 : Int32) (x10 : Int32) (hW : WOK cy K L M) (i0 : isk K L x0 17 8) (b1 : x1 ≤ 8) (i2 : isk K L x2 19 40) (b3 : x3 ≤ 40) (i4 : isk K L x4 7 0) (i5 : isk K L x5 5 0) (i6 : isk K L x6 60 24) (i8 : isk K L x8 73 25) : Met l yX11_where (wsM yX11_where cX11_where 1 (some .int)) ({ frames := 0, cells := 0, slots := 0, locals := 0 }) (va_Pc [.ref xa] (PG D cy [(xa, (b11_1 x0 (nI x1) x2 (nI x3) x4 x5 x6 x7 x8 x9 x10))] L M sz)) (va_Qi (fun (r : Int32) (_ : Unit) => (r = x10)) (fun _ t => PQ D [(xa, (b11_1 x0 (nI x1) x2 (nI x3) x4 x5 x6 x7 x8 x9 x10))] L M (va_A ([(xa, (b11_1 x0 (nI x1) x2 (nI x3) x4 x5 x6 x7 x8 x9 x10))] ++ va_pl L M) sz) t) (va_A ([(xa, (b11_1 x0 (nI x1) x2 (nI x3) x4 x5 x6 x7 x8 x9 x10))] ++ va_pl L M) sz)) 0 0 (va_A ([(xa, (b11_1 x0 (nI x1) x2 (nI x3) x4 x5 x6 x7 x8 x9 x10))] ++ va_pl L M) sz) := by
  refine Met.ofW (cc := cX11_where) (maxL := 1) (ret := (some .int)) (by decide) rfl ?_
  intro p e s m args below meth c s₁ B hml hv
  obtain ⟨rfl, hsz, hP, hK, hD0, hN⟩ := hv
  have hx := B.exec
  have hb := B.bytes
  have hr := B.returns
  have hts := atoms_spec (ws := (wsM yX11_where cX11_where 1 (some .int))) B.pre
  have hg : ∀ w ∈ lw_good, w.before _ s = true := fun w h => hts w (List.mem_cons_of_mem _ h)
  have hown : s.vm.findClass RX11 = some m.cls := findClass_of_methodNamed B.named
  have hlocks := B.notSynchronized
  subst hsz
  have hD := hD0.self (sz := s.heap.size)
  generalize hAe : va_A ([(xa, (b11_1 x0 (nI x1) x2 (nI x3) x4 x5 x6 x7 x8 x9 x10))] ++ va_pl L M) s.heap.size = A at hD ⊢
  have hA : ∀ q : Nat, s.heap.size ≤ q → A q := fun q h => by rw [← hAe]; exact Or.inr h
  have hS : va_S A s.heap s.heap [] := va_S.rf
  have hl := lv_entry ([.ref xa]) (n := 1) (Nat.le_of_ble_eq_true rfl)
  rw [lg_entry_eq]
  generalize (lg_sl ([.ref xa]) ++ List.replicate (1 - (lg_sl ([.ref xa])).length) Slot.unset).toArray = ls at hl ⊢
  refine W.nameQ (fun Q hQ => ?_)
  refine W.nameR (fun R hR => ?_)
  have hRf : 0 ≤ R.frames := by rw [hR]; exact Nat.le_of_ble_eq_true rfl
  have hRl : 0 ≤ R.locals := by rw [hR]; exact Nat.le_of_ble_eq_true rfl
  have hRc : 0 ≤ R.cells := by rw [hR]; exact Nat.le_of_ble_eq_true rfl
  have hRs : 0 ≤ R.slots := by rw [hR]; exact Nat.le_of_ble_eq_true rfl
  have hl : lv_has ls 1 [(0, .ref xa)] := hl
  refine lv_aload_n hx hb dX11_where_0 rfl (lv_at hl 0 rfl) ?_
  refine va_get (D := D) (ci := 11) (v := .int x10) (C := RX11) (T := TX11) (N := 11) hx hb hg inG11 hown hK hP 0 rfl rfl 10 (by decide) (hg _ wd_331) (fun _ h9 => h9) rfl dX11_where_1 ?_
  rw [hQ]
  exact W.iret (v := x10) hx hb hr (fun t ht hW9 => ⟨⟨x10, (), rfl, rfl, ⟨by rw [ht]; exact hP, hD⟩⟩, hS.F ht⟩) hS.2.2 dX11_where_4
