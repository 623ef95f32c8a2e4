theorem fr.wk {K : Kp} {L ts us : List Nat} {M M' : Hp} (h : fr K L ts M M') (hs : ∀ t ∈ ts, t ∈ us) : fr K L us M M' := fun b hb hn => h b hb (fun q => hn (hs _ q))
theorem rA_e {t a j : Nat} {M M1 : Hp} (h : M1 a = M a) : rA t M1 a j = rA t M a j := by
  unfold rA cR cVt
  rw [h]
theorem itS_bb {c0 : Int} {P : Nat → Prop} {D S : Nat → Int} {n : Nat} {f : Int} {m : Nat} (hS : ∀ k, k < n → -1000000000 ≤ S k ∧ S k ≤ 1000000000) (hn : n ≤ 120) (hm : m ≤ 100) (hc : -10000000000000 ≤ c0 ∧ c0 ≤ 10000000000000) : 0 ≤ itS c0 P D S n f m ∧ itS c0 P D S n f m ≤ 1012000000000000 := by
  have h1 : ∀ d, crD c0 P D S n d ≤ 10120000000000 := fun d => by
    have h8 := mvS_b (P := fun k => P k ∧ D k ≤ d) (S := S) n hS
    show c0 + mvS _ _ n ≤ _
    omega
  have h2 := itS_b (f := f) m h1 (by decide)
  omega
/-- the interest of seat q for the days of stretch s of the class -/
noncomputable def inE (M : Hp) (mv s n : Nat) (th : Int) (q : Nat) : Int := match sT M s q with
  | none => 0
  | some t => itS (cL 9 M t 9).toInt (fun k => RFc (M (rA 1 M mv 0)) k = some t) (wJ (IFc (M (rA 1 M mv 1)))) (wJ (IFc (M (rA 1 M mv 2)))) n (cV 8 M s 2).toInt (cV 8 M s 3).toInt.toNat * th / 360000
theorem inE_n {M : Hp} {mv s n q : Nat} {th : Int} (h : sT M s q = none) : inE M mv s n th q = 0 := by
  unfold inE
  rw [h]
theorem inE_y {M : Hp} {mv s n q t : Nat} {th : Int} (h : sT M s q = some t) : inE M mv s n th q = itS (cL 9 M t 9).toInt (fun k => RFc (M (rA 1 M mv 0)) k = some t) (wJ (IFc (M (rA 1 M mv 1)))) (wJ (IFc (M (rA 1 M mv 2)))) n (cV 8 M s 2).toInt (cV 8 M s 3).toInt.toNat * th / 360000 := by
  unfold inE
  rw [h]
theorem inE_0 {M : Hp} {mv s n q : Nat} {th : Int} (h : th = 0) : inE M mv s n th q = 0 := by
  cases e : sT M s q with
  | none => exact inE_n e
  | some t => rw [inE_y e, h, Int.mul_zero]; rfl
theorem inE_b {M : Hp} {mv s n q : Nat} {th : Int} (ht : 0 ≤ th ∧ th ≤ 500) (hS : ∀ k, k < n → -1000000000 ≤ wJ (IFc (M (rA 1 M mv 2))) k ∧ wJ (IFc (M (rA 1 M mv 2))) k ≤ 1000000000) (hn : n ≤ 120) (hd : (cV 8 M s 3).toInt ≤ 100) (hc : ∀ t, sT M s q = some t → -10000000000000 ≤ (cL 9 M t 9).toInt ∧ (cL 9 M t 9).toInt ≤ 10000000000000) : 0 ≤ inE M mv s n th q ∧ inE M mv s n th q ≤ 2000000000000 := by
  cases e : sT M s q with
  | none => rw [inE_n e]; omega
  | some t =>
    rw [inE_y e]
    have h1 := itS_bb (P := fun k => RFc (M (rA 1 M mv 0)) k = some t) (D := wJ (IFc (M (rA 1 M mv 1)))) (f := (cV 8 M s 2).toInt) hS hn (show (cV 8 M s 3).toInt.toNat ≤ 100 by omega) (hc t e)
    have h3 := Int.mul_nonneg h1.1 ht.1
    have h4 := Int.mul_le_mul_of_nonneg_left ht.2 h1.1
    exact ⟨Int.ediv_nonneg h3 (by decide), by omega⟩
/-- the weight of seat q in stretch s of the class by rule r's terms w -/
def wtE (M : Hp) (s r w q : Nat) : Int := match sT M s q with
  | none => 0
  | some _ => tR M r w q
theorem wtE_n {M : Hp} {s r w q : Nat} (h : sT M s q = none) : wtE M s r w q = 0 := by
  unfold wtE
  rw [h]
theorem wtE_y {M : Hp} {s r w q t : Nat} (h : sT M s q = some t) : wtE M s r w q = tR M r w q := by
  unfold wtE
  rw [h]
theorem wtE_b {M : Hp} {s r w q : Nat} (h : 0 ≤ tR M r w q ∧ tR M r w q ≤ 1000) : 0 ≤ wtE M s r w q ∧ wtE M s r w q ≤ 1000 := by
  cases e : sT M s q with
  | none => rw [wtE_n e]; omega
  | some t => rw [wtE_y e]; exact h
/-- who sits in seat q on day d: o, of n tenures in the slots sl -/
def TSQ (sl : Nat → Option Nat) (n : Int) (Y : Nat → Nat → Int32) (q d : Int) (o : Option Nat) : Prop := (∀ t, o = some t → ∃ i : Nat, (i : Int) < n ∧ sl i = some t ∧ tin Y q d i) ∧ (o = none → ∀ i : Nat, (i : Int) < n → ¬ tin Y q d i)
/-- who in stretch s of the class is limited, and what he may lose -/
def LMC (M : Hp) (s q : Nat) : Prop := ∃ t, sT M s q = some t ∧ LKD (cV 4 M (rA 9 M t 1) 1)
def RMC (M : Hp) (s q : Nat) : Int := match sT M s q with
  | none => 0
  | some t => rmI (cV 4 M (rA 9 M t 1) 2).toInt (cL 9 M t 11).toInt
theorem RMC_y {M : Hp} {s q t : Nat} (h : sT M s q = some t) : RMC M s q = rmI (cV 4 M (rA 9 M t 1) 2).toInt (cL 9 M t 11).toInt := by
  unfold RMC
  rw [h]
theorem sT_k {cy : Nat → ClassId} {K : Kp} {L : List Nat} {M : Hp} {s q t : Nat} (hW : WOK cy K L M) (hs : isk K L s 8 0) (hq : q < 6) (h : sT M s q = some t) : isk K L t 9 0 := by
  obtain ⟨v0, v1, v2, v3, v4, v5, hM, i0, i1⟩ := hW.open_8 hs
  obtain ⟨f, hf, hf2⟩ := hW.open_65 i0
  unfold sT at h
  rw [rA_of (j := 0) hM rfl, RFc_of hf] at h
  exact hf2 q hq t h
theorem pn_k {cy : Nat → ClassId} {K : Kp} {L : List Nat} {M : Hp} {t : Nat} (hW : WOK cy K L M) (ht : isk K L t 9 0) : isk K L (rA 9 M t 1) 4 0 := by
  obtain ⟨v0, v1, v2, v3, v4, v5, v6, v7, v8, v9, v10, v11, v12, v13, v14, v15, hM, h0, i1, _⟩ := hW.open_9 ht
  rw [rA_of (j := 1) hM rfl]
  exact i1
theorem LMR.mk2 {cy : Nat → ClassId} {K : Kp} {L ts : List Nat} {M Mw : Hp} {s a j : Nat} (hW : WOK cy K L M) (hs : isk K L s 8 0) (hq : j < 6) (e : RFc (Mw a) j = sT M s j) (hF : fr K L ts M Mw) (h9 : 9 ∉ ts) (h4 : 4 ∉ ts) (hb : ∀ t, sT M s j = some t → -1000000000000000 ≤ (cL 9 M t 11).toInt ∧ (cL 9 M t 11).toInt ≤ 1000000000000000) : LMR Mw a (LMC M s) (RMC M s) j := by
  refine ⟨fun h ⟨t, g1, _⟩ => ?_, fun t h => ?_⟩
  · rw [e, g1] at h
    cases h
  · rw [e] at h
    have it := sT_k hW hs hq h
    have e9 : Mw t = M t := hF.at it h9
    have e4 : Mw (rA 9 M t 1) = M (rA 9 M t 1) := hF.at (pn_k hW it) h4
    refine ⟨⟨fun ⟨t', g1, g2⟩ => ?_, fun g => ⟨t, h, ?_⟩⟩, ?_, fun _ => ?_⟩
    · rw [h] at g1
      cases g1
      rw [rA_e e9, cV_eq e4]
      exact g2
    · rw [rA_e e9, cV_eq e4] at g
      exact g
    · rw [cL_e e9]
      exact hb t h
    · rw [RMC_y h, rA_e e9, cV_eq e4, cL_e e9]
theorem sumI_to {f : Nat → Int} {m : Nat} : ∀ n, m ≤ n → (∀ j, m ≤ j → j < n → f j = 0) → sumI f n = sumI f m := by
  intro n
  induction n with
  | zero => intro h _; rw [show m = 0 by omega]
  | succ n ih =>
    intro h g
    by_cases z : m = n + 1
    · rw [z]
    · show sumI f n + f n = sumI f m
      rw [g n (by omega) (by omega), Int.add_zero]
      exact ih (by omega) (fun j h1 h2 => g j h1 (by omega))
theorem brQ_cg {L : Int} {w w' : Nat → Int} {lim : Nat → Prop} {room : Nat → Int} {n j : Nat} (h : ∀ i, i < n → w i = w' i) (hj : j < n) : brQ L w lim room n j = brQ L w' lim room n j := by
  have k1 : ∀ i, i < n → kpt L w lim room n i = kpt L w' lim room n i := fun i hi => by
    unfold kpt
    rw [cutQ_cg h hi]
  have k2 : offQ L w lim room n n = offQ L w' lim room n n := sumI_cg n (fun i hi => by rw [cutQ_cg h hi, k1 i hi])
  have k3 : ∀ i, i < n → wAl w lim i = wAl w' lim i := fun i hi => by
    unfold wAl
    rw [h i hi]
  unfold brQ
  rw [k1 j hj, k2, cutQ_cg k3 hj]
set_option maxHeartbeats 4000000 in
set_option maxRecDepth 100000 in
theorem e_interest (l : Launch) (D : va_G) (cy : Nat → ClassId) (K : Kp) (L : List Nat) (M : Hp) (sz : Nat) (oa : Nat) (k1 : Nat) (k2 : Nat) (k3 : Nat) (z0 : Int32) (z1 : Int32) (z2 : Int32) (z3 : Nat) (z4 : Nat) (z5 : Nat) (z6 : Nat) (z7 : Nat) (z8 : Nat) (z9 : Nat) (z10 : Nat) (z11 : Nat) (z12 : Nat) (z13 : Nat) (z14 : Int64) (z15 : Int32) (z16 : Nat) (z17 : Nat) (z18 : Nat) (z19 : Nat) (un : Nat) (u0 : Nat) (u1 : Nat) (u2 : Nat) (u3 : Nat) (y0 : Nat) (y1 : Nat) (y2 : Int32) (y3 : Int32) (y4 : Int64) (y5 : Int64) (r0 : Int32) (r1 : Int32) (r2 : Nat) (hW : WOK cy K L M) (ia : isk K L oa 0 0) (ik1 : isk K L k1 2 0) (ik2 : isk K L k2 8 0) (ik3 : isk K L k3 6 0) (hTH : (0 ≤ r1.toInt ∧ r1.toInt ≤ 500)) (hSB : (∀ k : Nat, k < u3 → -1000000000 ≤ (wJ (IFc (M u2))) k ∧ (wJ (IFc (M u2))) k ≤ 1000000000)) (hDB : (∀ k : Nat, k < u3 → 0 ≤ (wJ (IFc (M u1))) k ∧ (wJ (IFc (M u1))) k ≤ 999)) (hfd : (0 ≤ y2.toInt ∧ y2.toInt ≤ 999)) (hdd : (0 ≤ y3.toInt ∧ y3.toInt ≤ 100)) (hnn : un = 120) (hCB : (∀ q : Nat, q < 6 → ∀ t, sT M k2 q = some t → -10000000000000 ≤ (cL 9 M t 9).toInt ∧ (cL 9 M t 9).toInt ≤ 10000000000000)) (hUB : (∀ q : Nat, q < 6 → -1000000000000000 ≤ (LFc (M y1) q).toInt ∧ (LFc (M y1) q).toInt ≤ 1000000000000000)) (hMz : M k1 = .inr (2, [.int z0, .int z1, .int z2, .ref z3, .int (nI z4), .int (nI z5), .ref z6, .ref z7, .ref z8, .int (nI z9), .ref z10, .int (nI z11), .ref z12, .ref z13, .long z14, .int z15, .ref z16, .ref z17, .ref z18, .ref z19])) (hz3 : isk K L z3 51 12) (hz4 : z4 ≤ 12) (hz5 : z5 ≤ 12) (hz6 : isk K L z6 52 6) (hz7 : isk K L z7 61 6) (hz8 : isk K L z8 62 24) (hz9 : z9 ≤ 24) (hz10 : isk K L z10 20 16) (hz11 : z11 ≤ 16) (hz12 : isk K L z12 18 1000) (hz13 : isk K L z13 67 1000) (hz16 : isk K L z16 1 0) (hz17 : isk K L z17 1 0) (hz18 : isk K L z18 10 0) (hz19 : isk K L z19 0 0) (hMu : M z16 = .inr (1, [.ref u0, .ref u1, .ref u2, .int (nI u3)])) (hu0 : isk K L u0 63 un) (hu1 : isk K L u1 56 un) (hu2 : isk K L u2 57 un) (hu3 : u3 ≤ un) (heu0 : un ≤ 120) (hMy : M k2 = .inr (8, [.ref y0, .ref y1, .int y2, .int y3, .long y4, .long y5])) (hy0 : isk K L y0 65 6) (hy1 : isk K L y1 72 6) (hMr : M k3 = .inr (6, [.int r0, .int r1, .ref r2])) (hr2 : isk K L r2 54 24) : Met l yX0_giveInterest (wsM yX0_giveInterest cX0_giveInterest 10 (some .long)) ({ frames := 2, cells := 0, slots := 0, locals := 52 }) (va_Pc [.ref oa, .ref k1, .ref k2, .ref k3] (PG D cy [] L M sz)) (va_Ql (fun (r : Int64) (M9 : Hp) => WOK cy K L M9 ∧ fr K L [66, 72] M M9 ∧ ONL 72 K L (fun b => b = y1) M M9 ∧ ((∀ q : Nat, q < 6 → (LFc (M9 y1) q).toInt = (LFc (M y1) q).toInt + inE M z16 k2 u3 r1.toInt q)) ∧ ((∃ (vr : Int64), r = vr ∧ ((vr : Int64).toInt = sumI (inE M z16 k2 u3 r1.toInt) 6)))) (fun M9 t => PQ D [] L M9 (va_A ([] ++ va_pl L M) sz) t) (va_A ([] ++ va_pl L M) sz)) 0 0 (va_A ([] ++ va_pl L M) sz) := by
  refine Met.ofW (cc := cX0_giveInterest) (maxL := 10) (ret := (some .long)) (by decide) rfl ?_
  intro p e s m args below meth c s₁ B hml hv
  obtain ⟨rfl, hsz, hP, hK, hD0, hN⟩ := hv
  have hx := B.exec
  have hb := B.bytes
  have hr := B.returns
  have hts := atoms_spec (ws := (wsM yX0_giveInterest cX0_giveInterest 10 (some .long))) B.pre
  have hg : ∀ w ∈ lw_good, w.before _ s = true := fun w h => hts w (List.mem_cons_of_mem _ h)
  have hown : s.vm.findClass RX0 = some m.cls := findClass_of_methodNamed B.named
  have hlocks := B.notSynchronized
  subst hsz
  have hD := hD0.self (sz := s.heap.size)
  generalize hAe : va_A ([] ++ va_pl L M) s.heap.size = A at hD ⊢
  have hA : ∀ q : Nat, s.heap.size ≤ q → A q := fun q h => by rw [← hAe]; exact Or.inr h
  have hS : va_S A s.heap s.heap [] := va_S.rf
  have hl := lv_entry ([.ref oa, .ref k1, .ref k2, .ref k3]) (n := 10) (Nat.le_of_ble_eq_true rfl)
  rw [lg_entry_eq]
  generalize (lg_sl ([.ref oa, .ref k1, .ref k2, .ref k3]) ++ List.replicate (10 - (lg_sl ([.ref oa, .ref k1, .ref k2, .ref k3])).length) Slot.unset).toArray = ls at hl ⊢
  refine W.nameQ (fun Q hQ => ?_)
  refine W.nameR (fun R hR => ?_)
  have hRf : 2 ≤ R.frames := by rw [hR]; exact Nat.le_of_ble_eq_true rfl
  have hRl : 52 ≤ R.locals := by rw [hR]; exact Nat.le_of_ble_eq_true rfl
  have hRc : 0 ≤ R.cells := by rw [hR]; exact Nat.le_of_ble_eq_true rfl
  have hRs : 0 ≤ R.slots := by rw [hR]; exact Nat.le_of_ble_eq_true rfl
  have hF : fr K L [66, 72] M M := fr.rf
  have hO72 : ONL 72 K L (fun b => b = y1) M M := ONL.rf
  have hl : lv_has ls 10 [(0, .ref oa), (1, .ref k1), (2, .ref k2), (3, .ref k3)] := hl
  obtain ⟨f1, hM1⟩ := hW.open_72 hy1
  have hD0 : ∀ q : Nat, (f1 q).toInt = (LFc (M y1) q).toInt := fun q => by rw [LFc_of hM1]
  have hyT : rA 8 M k2 0 = y0 := rA_of (j := 0) hMy rfl
  have hy22 : cV 8 M k2 2 = y2 := cV_of (j := 2) hMy rfl
  have hy33 : cV 8 M k2 3 = y3 := cV_of (j := 3) hMy rfl
  have hmv0 : rA 1 M z16 0 = u0 := rA_of (j := 0) hMu rfl
  have hmv1 : rA 1 M z16 1 = u1 := rA_of (j := 1) hMu rfl
  have hmv2 : rA 1 M z16 2 = u2 := rA_of (j := 2) hMu rfl
  have hu3 : u3 ≤ 120 := by omega
  have hinb : ∀ q : Nat, q < 6 → 0 ≤ inE M z16 k2 u3 r1.toInt q ∧ inE M z16 k2 u3 r1.toInt q ≤ 2000000000000 := fun q hq => inE_b hTH (by rw [hmv2]; exact hSB) hu3 (by rw [hy33]; exact hdd.2) (hCB q hq)
  refine lv_lconst (v := 0) hx hb dX0_giveInterest_0 (by decide) ?_
  refine lv_lstore (lv' := [(4, .long 0), (0, .ref oa), (1, .ref k1), (2, .ref k2), (3, .ref k3)]) hx hb dX0_giveInterest_1 hl (by decide) rfl (fun ls hl => ?_)
  refine lv_iconst (v := 0) hx hb dX0_giveInterest_3 (by decide) ?_
  refine lv_istore (lv' := [(6, .int 0), (4, .long 0), (0, .ref oa), (1, .ref k1), (2, .ref k2), (3, .ref k3)]) hx hb dX0_giveInterest_4 hl (by decide) rfl (fun ls hl => ?_)
  have key_2 : ∀ (fu_4 : Nat) (v4w5 : Int64) (v6w5 : Nat) (gDw5 : Nat → Int64) (M_10 : Hp) (H_11 : Heap) (locs : List Loc) (ls : Array Slot), 7 - v6w5 < fu_4 → M_10 k1 = .inr (2, [.int z0, .int z1, .int z2, .ref z3, .int (nI z4), .int (nI z5), .ref z6, .ref z7, .ref z8, .int (nI z9), .ref z10, .int (nI z11), .ref z12, .ref z13, .long z14, .int z15, .ref z16, .ref z17, .ref z18, .ref z19]) → M_10 z16 = .inr (1, [.ref u0, .ref u1, .ref u2, .int (nI u3)]) → M_10 k2 = .inr (8, [.ref y0, .ref y1, .int y2, .int y3, .long y4, .long y5]) → M_10 k3 = .inr (6, [.int r0, .int r1, .ref r2]) → M_10 y1 = .inl (cy 15, 6, .inr (.inl (gDw5))) → v6w5 ≤ 6 → (∀ q : Nat, q < v6w5 → (gDw5 q).toInt = (LFc (M y1) q).toInt + inE M z16 k2 u3 r1.toInt q) → (∀ q : Nat, v6w5 ≤ q → q < 6 → (gDw5 q).toInt = (LFc (M y1) q).toInt) → v4w5.toInt = sumI (inE M z16 k2 u3 r1.toInt) v6w5 → WOK cy K L M_10 → fr K L [66, 72] M M_10 → ONL 72 K L (fun b => b = y1) M M_10 → va_P D vwCl ([] ++ va_pl L M_10) H_11 → va_D A ([] ++ va_pl L M_10) → va_S A s.heap H_11 locs → lv_has ls 10 [(6, .int (nI v6w5)), (4, .long v4w5), (0, .ref oa), (1, .ref k1), (2, .ref k2), (3, .ref k3)] → W p l e R s m ([.ref oa, .ref k1, .ref k2, .ref k3] : List Value).toArray below meth c H_11 locs 0 0 Q (F0 m 6 ls []) := by
    intro fu_4
    induction fu_4 with
    | zero => intro v4w5 v6w5 gDw5 M_10 H_11 locs ls h; exact absurd h (Nat.not_lt_zero _)
    | succ fu_4 ih_3 =>
      intro v4w5 v6w5 gDw5 M_10 H_11 locs ls hfu hM_12 hM_13 hM_14 hM_15 hM_16 hx_6 hx_7 hx_8 hx_9 hW hF hO72 hP hD hS hl
      refine lv_iload hx hb dX0_giveInterest_6 (lv_at hl 0 rfl) ?_
      refine lv_bipush (v := 6) hx hb dX0_giveInterest_8 (by decide) ?_
      refine lv_icmp_ge (tgt := 82) hx hb dX0_giveInterest_10 (by decide) (fun c_17 => ?_) (fun c_17 => ?_)
      · have hz := rfl (a := 0)
        have n_18 : 6 ≤ v6w5 := (iLE (a := 6) (b := v6w5) (by omega) (by omega)).mp c_17
        have hI_19 : (6 : Int) ≤ ((v6w5 : Nat) : Int) := ileI rfl (nI_toInt (by omega)) c_17
        have hrest : ∀ q : Nat, v6w5 ≤ q → q < 6 → inE M z16 k2 u3 r1.toInt q = 0 := fun q h1 h2 => absurd h2 (by omega)
        have hsf : sumI (inE M z16 k2 u3 r1.toInt) 6 = sumI (inE M z16 k2 u3 r1.toInt) v6w5 := sumI_to 6 (by omega) hrest
        refine lv_lload hx hb dX0_giveInterest_82 (lv_at hl 1 rfl) ?_
        rw [hQ]
        exact W.lret (v := v4w5) hx hb hr (fun t ht hW9 => ⟨⟨v4w5, M_10, rfl, ⟨hW, hF, hO72, (fun q hq => by rw [LFc_of hM_16]; by_cases z9 : q < v6w5; exact hx_7 q z9; rw [hx_8 q (by omega) hq, hrest q (by omega) hq, Int.add_zero]), ⟨_, rfl, (by rw [hsf]; exact hx_9)⟩⟩, ⟨by rw [ht]; exact hP, hD⟩⟩, hS.F ht⟩) hS.2.2 dX0_giveInterest_84
      · have hz := rfl (a := 0)
        have n_20 : ¬ (6 ≤ v6w5) := fun q => c_17 ((iLE (a := 6) (b := v6w5) (by omega) (by omega)).mpr q)
        refine lv_aload_n hx hb dX0_giveInterest_13 rfl (lv_at hl 5 rfl) ?_
        refine pg_get (D := D) (ci := 6) (v := .int r1) (C := RX6) (T := TX6) (N := 3) hx hb hg inG6 hown hK hP ik3.1 hM_15 rfl 1 (by decide) (hg _ wd_231) (fun _ h9 => h9) rfl dX0_giveInterest_14 ?_
        refine lv_if_le (tgt := 82) hx hb dX0_giveInterest_17 (by decide) (fun c_21 => ?_) (fun c_21 => ?_)
        · have hz := rfl (a := 0)
          have hI_22 : ((v6w5 : Nat) : Int) < (6 : Int) := inleI rfl (nI_toInt (by omega)) c_17
          have hI_23 : (r1 : Int32).toInt ≤ (0 : Int) := ileI rfl rfl c_21
          have hth0 : r1.toInt = 0 := by omega
          have hrest : ∀ q : Nat, v6w5 ≤ q → q < 6 → inE M z16 k2 u3 r1.toInt q = 0 := fun q _ _ => inE_0 hth0
          have hsf : sumI (inE M z16 k2 u3 r1.toInt) 6 = sumI (inE M z16 k2 u3 r1.toInt) v6w5 := sumI_to 6 (by omega) hrest
          refine lv_lload hx hb dX0_giveInterest_82 (lv_at hl 1 rfl) ?_
          rw [hQ]
          exact W.lret (v := v4w5) hx hb hr (fun t ht hW9 => ⟨⟨v4w5, M_10, rfl, ⟨hW, hF, hO72, (fun q hq => by rw [LFc_of hM_16]; by_cases z9 : q < v6w5; exact hx_7 q z9; rw [hx_8 q (by omega) hq, hrest q (by omega) hq, Int.add_zero]), ⟨_, rfl, (by rw [hsf]; exact hx_9)⟩⟩, ⟨by rw [ht]; exact hP, hD⟩⟩, hS.F ht⟩) hS.2.2 dX0_giveInterest_84
        · have hz := rfl (a := 0)
          refine lv_aload_n hx hb dX0_giveInterest_20 rfl (lv_at hl 4 rfl) ?_
          refine pg_get (D := D) (ci := 8) (v := .ref y0) (C := RX8) (T := TX8) (N := 6) hx hb hg inG8 hown hK hP ik2.1 hM_14 rfl 0 (by decide) (hg _ wd_212) (fun _ h9 => h9) rfl dX0_giveInterest_21 ?_
          refine lv_iload hx hb dX0_giveInterest_24 (lv_at hl 0 rfl) ?_
          obtain ⟨f24, hM24, hf24⟩ := hW.open_65 hy0
          have hi_25 : vp_in (nI v6w5) 6 := (inbN v6w5 6 (by omega) (by omega))
          refine pg_aldq hx hb hK hP hy0.1 8 hM24 rfl hi_25 dX0_giveInterest_26 ?_
          obtain ⟨q_26, ho_27⟩ : ∃ q : Option Nat, q = f24 ((nI v6w5) : Int32).toNatClampNeg := ⟨_, rfl⟩
          rw [← ho_27]
          have hq_28 : iskN K L q_26 9 0 := by rw [ho_27]; exact hf24 _ (vp_lt hi_25)
          rcases q_26 with _ | bq_26
          · have hz := rfl (a := 0)
            have hs9 : sT M k2 v6w5 = none := by unfold sT; rw [hyT, ← hF.at hy0 (by decide), RFc_of hM24]; have h9 := Eq.symm ho_27; rw [nI_cl (by omega)] at h9; exact h9
            have hw9 : inE M z16 k2 u3 r1.toInt v6w5 = 0 := inE_n hs9
            refine lv_astoreN (lv' := [(7, .null), (6, .int (nI v6w5)), (4, .long v4w5), (0, .ref oa), (1, .ref k1), (2, .ref k2), (3, .ref k3)]) hx hb dX0_giveInterest_27 hl (by decide) rfl (fun ls hl => ?_)
            refine lv_aloadN hx hb dX0_giveInterest_29 (lv_at hl 0 rfl) ?_
            refine lv_ifnullN (tgt := 76) hx hb dX0_giveInterest_31 (by decide) ?_
            refine lv_iinc (v := (nI (v6w5 + 1))) (lv' := [(6, .int (nI (v6w5 + 1))), (7, .null), (4, .long v4w5), (0, .ref oa), (1, .ref k1), (2, .ref k2), (3, .ref k3)]) hx hb dX0_giveInterest_76 hl (k := 1) rfl (nI_1 v6w5) (by decide) rfl (fun ls hl => ?_)
            refine lv_goto (tgt := 6) hx hb dX0_giveInterest_79 (by decide) ?_
            exact ih_3 v4w5 (v6w5 + 1) gDw5 M_10 H_11 _ _ (by omega) hM_12 hM_13 hM_14 hM_15 hM_16 (by omega) (fun q hq => by by_cases z9 : q = v6w5; rw [z9, hw9, Int.add_zero]; exact hx_8 v6w5 (by omega) (by omega); exact hx_7 q (by omega)) (fun q hq hq2 => hx_8 q (by omega) hq2) (by rw [hx_9]; show _ = sumI (inE M z16 k2 u3 r1.toInt) v6w5 + inE M z16 k2 u3 r1.toInt v6w5; rw [hw9, Int.add_zero]) hW hF hO72 hP hD hS (lv_sub hl [0, 2, 3, 4, 5, 6] rfl)
          · have hb_29 := hq_28 bq_26 rfl
            have hs9 : sT M k2 v6w5 = some bq_26 := by unfold sT; rw [hyT, ← hF.at hy0 (by decide), RFc_of hM24]; have h9 := (Eq.symm ho_27); rw [nI_cl (by omega)] at h9; exact h9
            refine lv_astore (lv' := [(7, .ref bq_26), (6, .int (nI v6w5)), (4, .long v4w5), (0, .ref oa), (1, .ref k1), (2, .ref k2), (3, .ref k3)]) hx hb dX0_giveInterest_27 hl (by decide) rfl (fun ls hl => ?_)
            refine lv_aload hx hb dX0_giveInterest_29 (lv_at hl 0 rfl) ?_
            refine lv_ifnull hx hb dX0_giveInterest_31 ?_
            refine lv_aload_n hx hb dX0_giveInterest_34 rfl (lv_at hl 3 rfl) ?_
            refine lv_aload_n hx hb dX0_giveInterest_35 rfl (lv_at hl 4 rfl) ?_
            refine pg_get (D := D) (ci := 2) (v := .ref z16) (C := RX2) (T := TX2) (N := 20) hx hb hg inG2 hown hK hP ik1.1 hM_12 rfl 16 (by decide) (hg _ wd_232) (fun _ h9 => h9) rfl dX0_giveInterest_36 ?_
            refine lv_aload_n hx hb dX0_giveInterest_39 rfl (lv_at hl 5 rfl) ?_
            refine lv_aload hx hb dX0_giveInterest_40 (lv_at hl 0 rfl) ?_
            have hFk := hF
            obtain ⟨v30_0, v30_1, v30_2, v30_3, v30_4, hM30, h30_0, h30_1, h30_2, h30_3⟩ := hW.open_0 ia
            have hPc : va_P D vwCl ([] ++ va_pl L M_10) H_11 := hP
            have hDc : va_D A ([] ++ va_pl L M_10) := hD
            have hFc : ∀ q, va_A ([] ++ va_pl L M_10) H_11.size q → A q := pg_free hDc hS hA
            refine va_calll (va_runV (As := [.ref z16, .ref k2, .ref bq_26]) (rest := []) ⟨hx, hb, hml, hown, hg⟩ (e_credit l D cy K L M_10 H_11.size oa z16 k2 bq_26 v30_0 v30_1 v30_2 v30_3 v30_4 un u0 u1 u2 u3 y0 y1 y2 y3 y4 y5 hW ia hz16 ik2 hb_29 (by rw [hF.at hu2 (by decide)]; exact hSB) (by rw [hF.at hu1 (by decide)]; exact hDB) hfd hdd hu3 (by rw [cL_e (hF.at hb_29 (by decide))]; have h9 := hCB v6w5 (by omega) bq_26 hs9; omega) hnn hM30 h30_0 h30_1 h30_2 h30_3 hM_13 hu0 hu1 hu2 hu3 heu0 hM_14 hy0 hy1) (cwV 3 hg (gV wd_233 wd_234 wd_235 wd_204 wd_236) rfl rfl rfl (by decide +kernel) ⟨(Nat.le_trans (Nat.le_of_ble_eq_true rfl) hRf), (Nat.le_trans (Nat.le_of_ble_eq_true rfl) hRl)⟩) ⟨PG.blind, pg_recv hK hP ia.1 hM30 rfl, fun U hU hW => ⟨rfl, PG.at hPc hK hDc hN hU hW⟩⟩ rfl rfl hl.1 rfl (lv_room (Nat.le_of_ble_eq_true rfl)) dX0_giveInterest_42 ⟨(Nat.le_trans (Nat.le_of_ble_eq_true rfl) hRc), (Nat.le_trans (Nat.le_of_ble_eq_true rfl) hRs)⟩) hS (fun q _ h => hFc q h) hFc (fun r_32 M_33 t H_31 locs ht hvm hw hB hz1 hk1 hS => ?_)
            obtain ⟨hW, hF2, hp_34⟩ := hw
            obtain ⟨hP1, hD1⟩ := hB
            rw [ht] at hP1
            have hP : va_P D vwCl ([] ++ va_pl L M_33) H_31 := hP1
            have hD : va_D A ([] ++ va_pl L M_33) := hD1.mono hFc
            have hM_35 : M_33 k1 = .inr (2, [.int z0, .int z1, .int z2, .ref z3, .int (nI z4), .int (nI z5), .ref z6, .ref z7, .ref z8, .int (nI z9), .ref z10, .int (nI z11), .ref z12, .ref z13, .long z14, .int z15, .ref z16, .ref z17, .ref z18, .ref z19]) := (hF2.at ik1 (by decide)).trans hM_12
            have hM_36 : M_33 z16 = .inr (1, [.ref u0, .ref u1, .ref u2, .int (nI u3)]) := (hF2.at hz16 (by decide)).trans hM_13
            have hM_37 : M_33 k2 = .inr (8, [.ref y0, .ref y1, .int y2, .int y3, .long y4, .long y5]) := (hF2.at ik2 (by decide)).trans hM_14
            have hM_38 : M_33 k3 = .inr (6, [.int r0, .int r1, .ref r2]) := (hF2.at ik3 (by decide)).trans hM_15
            have hM_39 : M_33 y1 = .inl (cy 15, 6, .inr (.inl (gDw5))) := (hF2.at hy1 (by decide)).trans hM_16
            have hM_40 : M_33 y0 = .inl (cy 22, 6, .inr (.inr (.inr (.inr (f24))))) := (hF2.at hy0 (by decide)).trans hM24
            have hM_41 : M_33 oa = .inr (0, [.ref v30_0, .ref v30_1, .ref v30_2, .int (nI v30_3), .long v30_4]) := (hF2.at ia (by decide)).trans hM30
            have hF : fr K L [66, 72] M M_33 := hF.tr hF2 (by decide)
            have hO72 : ONL 72 K L (fun b => b = y1) M M_33 := hO72.frr hF2 (by decide)
            obtain ⟨vr_42, hr_44, c_43⟩ := hp_34
            have hq := Eq.symm hr_44
            subst hq
            have hvi : (vr_42 : Int64).toInt = itS (cL 9 M bq_26 9).toInt (fun k => RFc (M u0) k = some bq_26) (wJ (IFc (M u1))) (wJ (IFc (M u2))) u3 y2.toInt y3.toInt.toNat := by have h9 := c_43; rw [cL_e (hFk.at hb_29 (by decide)), hFk.at hu0 (by decide), hFk.at hu1 (by decide), hFk.at hu2 (by decide)] at h9; exact h9
            have hib := itS_bb (P := fun k => RFc (M u0) k = some bq_26) (D := wJ (IFc (M u1))) (f := y2.toInt) hSB hu3 (show y3.toInt.toNat ≤ 100 by omega) (hCB v6w5 (by omega) bq_26 hs9)
            rw [← hvi] at hib
            have hie : inE M z16 k2 u3 r1.toInt v6w5 = (vr_42 : Int64).toInt * r1.toInt / 360000 := by rw [inE_y hs9, hvi, hmv0, hmv1, hmv2, hy22, hy33]
            refine lv_aload_n hx hb dX0_giveInterest_45 rfl (lv_at hl 6 rfl) ?_
            refine pg_get (D := D) (ci := 6) (v := .int r1) (C := RX6) (T := TX6) (N := 3) hx hb hg inG6 hown hK hP ik3.1 hM_38 rfl 1 (by decide) (hg _ wd_231) (fun _ h9 => h9) rfl dX0_giveInterest_46 ?_
            refine lv_i2l hx hb dX0_giveInterest_49 rfl ?_
            refine lv_topl (fun f_45 ef_45 => ?_)
            have hth : (f_45 : Int64).toInt = r1.toInt := by rw [ef_45]; exact Int32.toInt_toInt64 _
            refine lv_lmul hx hb dX0_giveInterest_50 ?_
            refine lv_topl (fun f_46 ef_46 => ?_)
            have hm1 := Int.mul_nonneg hib.1 hTH.1
            have hm2 := Int.mul_le_mul_of_nonneg_left hTH.2 hib.1
            have hpv : (f_46 : Int64).toInt = (vr_42 : Int64).toInt * r1.toInt := by rw [← hth]; exact lM ef_46 (by rw [hth]; omega) (by rw [hth]; omega)
            refine lv_ldc2 (v := 360000) hx hb hown (hg _ wd_237) dX0_giveInterest_51 ?_
            refine lv_ldiv hx hb dX0_giveInterest_54 (by decide) ?_
            refine lv_topl (fun f_47 ef_47 => ?_)
            have hwv : (f_47 : Int64).toInt = inE M z16 k2 u3 r1.toInt v6w5 := by rw [hie]; have h9 := lD ef_47 (by rw [hpv]; exact hm1) (by decide); rw [hpv] at h9; exact h9
            refine lv_lstore (lv' := [(8, .long f_47), (7, .ref bq_26), (6, .int (nI v6w5)), (4, .long v4w5), (0, .ref oa), (1, .ref k1), (2, .ref k2), (3, .ref k3)]) hx hb dX0_giveInterest_55 hl (by decide) rfl (fun ls hl => ?_)
            refine lv_aload_n hx hb dX0_giveInterest_57 rfl (lv_at hl 6 rfl) ?_
            refine pg_get (D := D) (ci := 8) (v := .ref y1) (C := RX8) (T := TX8) (N := 6) hx hb hg inG8 hown hK hP ik2.1 hM_37 rfl 1 (by decide) (hg _ wd_221) (fun _ h9 => h9) rfl dX0_giveInterest_58 ?_
            refine lv_iload hx hb dX0_giveInterest_61 (lv_at hl 2 rfl) ?_
            refine lv_dup2_11 hx hb dX0_giveInterest_63 rfl rfl ?_
            refine pg_lald hx hb hK hP hy1.1 1 hM_39 rfl (inbN v6w5 6 (by omega) (by omega)) dX0_giveInterest_64 ?_
            refine lv_topl (fun f_48 ef_48 => ?_)
            have hdv : (f_48 : Int64).toInt = (LFc (M y1) v6w5).toInt := by rw [ef_48, nI_cl (by omega)]; exact hx_8 v6w5 (by omega) (by omega)
            refine lv_lload hx hb dX0_giveInterest_65 (lv_at hl 0 rfl) ?_
            refine lv_ladd hx hb dX0_giveInterest_67 ?_
            refine lv_topl (fun f_49 ef_49 => ?_)
            have hu9 := hUB v6w5 (by omega)
            have hb8 := hinb v6w5 (by omega)
            have hsv : (f_49 : Int64).toInt = (LFc (M y1) v6w5).toInt + inE M z16 k2 u3 r1.toInt v6w5 := by have h9 := lA ef_49 (by rw [hdv, hwv]; omega) (by rw [hdv, hwv]; omega); rw [hdv, hwv] at h9; exact h9
            refine pg_last hx hb hK hP hD hS hy1.1 1 hM_39 rfl (inbN v6w5 6 (by omega) (by omega)) dX0_giveInterest_68 (fun H_50 locs hP hD hS => ?_)
            obtain ⟨M_51, eM_51⟩ : ∃ M1 : Hp, M1 = va_up M_33 y1 (.inl (cy 15, 6, .inr (.inl (vp_updL gDw5 ((nI v6w5) : Int32).toNatClampNeg f_49)))) := ⟨_, rfl⟩
            have hP : va_P D vwCl ([] ++ va_pl L M_51) H_50 := by rw [eM_51]; exact hP
            have hD : va_D A ([] ++ va_pl L M_51) := by rw [eM_51]; exact hD
            have hW : WOK cy K L M_51 := by rw [eM_51]; exact hW.up_72 hy1 ⟨_, rfl⟩
            have hF : fr K L [66, 72] M M_51 := by rw [eM_51]; exact hF.up hy1 (by decide)
            have hO72 : ONL 72 K L (fun b => b = y1) M M_51 := by rw [eM_51]; exact hO72.upS ((fun _ => rfl))
            have hM_52 : M_51 y1 = .inl (cy 15, 6, .inr (.inl (vp_updL gDw5 ((nI v6w5) : Int32).toNatClampNeg f_49))) := by rw [eM_51]; exact va_up_self _ _ _
            have hM_53 : M_51 k1 = .inr (2, [.int z0, .int z1, .int z2, .ref z3, .int (nI z4), .int (nI z5), .ref z6, .ref z7, .ref z8, .int (nI z9), .ref z10, .int (nI z11), .ref z12, .ref z13, .long z14, .int z15, .ref z16, .ref z17, .ref z18, .ref z19]) := by rw [eM_51, va_up_ne _ _ (ik1.neT hy1 (by decide))]; exact hM_35
            have hM_54 : M_51 z16 = .inr (1, [.ref u0, .ref u1, .ref u2, .int (nI u3)]) := by rw [eM_51, va_up_ne _ _ (hz16.neT hy1 (by decide))]; exact hM_36
            have hM_55 : M_51 k2 = .inr (8, [.ref y0, .ref y1, .int y2, .int y3, .long y4, .long y5]) := by rw [eM_51, va_up_ne _ _ (ik2.neT hy1 (by decide))]; exact hM_37
            have hM_56 : M_51 k3 = .inr (6, [.int r0, .int r1, .ref r2]) := by rw [eM_51, va_up_ne _ _ (ik3.neT hy1 (by decide))]; exact hM_38
            have hM_57 : M_51 y0 = .inl (cy 22, 6, .inr (.inr (.inr (.inr (f24))))) := by rw [eM_51, va_up_ne _ _ (hy0.neT hy1 (by decide))]; exact hM_40
            have hM_58 : M_51 oa = .inr (0, [.ref v30_0, .ref v30_1, .ref v30_2, .int (nI v30_3), .long v30_4]) := by rw [eM_51, va_up_ne _ _ (ia.neT hy1 (by decide))]; exact hM_41
            obtain ⟨f_59, ef_59⟩ : ∃ f : Nat → Int64, f = vp_updL gDw5 ((nI v6w5) : Int32).toNatClampNeg f_49 := ⟨_, rfl⟩
            rw [← ef_59] at hM_52
            refine lv_lload hx hb dX0_giveInterest_69 (lv_at hl 3 rfl) ?_
            refine lv_lload hx hb dX0_giveInterest_71 (lv_at hl 0 rfl) ?_
            refine lv_ladd hx hb dX0_giveInterest_73 ?_
            refine lv_topl (fun f_60 ef_60 => ?_)
            have hs8 := sumI_bd (f := inE M z16 k2 u3 r1.toInt) (b := 2000000000000) v6w5 (fun i hi => hinb i (by omega))
            have hnv : (f_60 : Int64).toInt = sumI (inE M z16 k2 u3 r1.toInt) (v6w5 + 1) := by have h9 := lA ef_60 (by rw [hx_9, hwv]; omega) (by rw [hx_9, hwv]; omega); rw [hx_9, hwv] at h9; exact h9
            refine lv_lstore (lv' := [(4, .long f_60), (8, .long f_47), (7, .ref bq_26), (6, .int (nI v6w5)), (0, .ref oa), (1, .ref k1), (2, .ref k2), (3, .ref k3)]) hx hb dX0_giveInterest_74 hl (by decide) rfl (fun ls hl => ?_)
            refine lv_iinc (v := (nI (v6w5 + 1))) (lv' := [(6, .int (nI (v6w5 + 1))), (4, .long f_60), (8, .long f_47), (7, .ref bq_26), (0, .ref oa), (1, .ref k1), (2, .ref k2), (3, .ref k3)]) hx hb dX0_giveInterest_76 hl (k := 3) rfl (nI_1 v6w5) (by decide) rfl (fun ls hl => ?_)
            refine lv_goto (tgt := 6) hx hb dX0_giveInterest_79 (by decide) ?_
            exact ih_3 f_60 (v6w5 + 1) f_59 M_51 H_50 _ _ (by omega) hM_53 hM_54 hM_55 hM_56 hM_52 (by omega) (by rw [ef_59, nI_cl (by omega)]; intro q hq; by_cases z9 : q = v6w5; rw [z9, vp_updL_self]; exact hsv; rw [vp_updL_ne _ _ z9]; exact hx_7 q (by omega)) (by rw [ef_59, nI_cl (by omega)]; intro q hq hq2; rw [vp_updL_ne _ _ (by omega)]; exact hx_8 q (by omega) hq2) hnv hW hF hO72 hP hD hS (lv_sub hl [0, 1, 4, 5, 6, 7] rfl)
  exact key_2 (7 - 0 + 1) 0 0 f1 M s.heap _ _ (by omega) hMz hMu hMy hMr hM1 (by omega) (fun q h => absurd h (Nat.not_lt_zero _)) (fun q _ hq => hD0 q) rfl hW hF hO72 hP hD hS (lv_sub hl [0, 1, 2, 3, 4, 5] rfl)
set_option maxHeartbeats 4000000 in
set_option maxRecDepth 100000 in
theorem e_tenIn2 (l : Launch) (D : va_G) (cy : Nat → ClassId) (K : Kp) (L : List Nat) (M : Hp) (sz : Nat) (oa : Nat) (k1 : Int32) (k2 : Int32) (hW : WOK cy K L M) (ia : isk K L oa 2 0) (h28 : (∀ i : Nat, (i : Int) < cfx M oa 10 → cax M oa 28 i = 1)) : Met l yX2_tenureIn (wsM yX2_tenureIn cX2_tenureIn 5 (some (.object "PartnersBook$Tenure"))) ({ frames := 1, cells := 0, slots := 0, locals := 21 }) (va_Pc [.ref oa, .int k1, .int k2] (PG D cy [] L M sz)) (va_Qq (fun (r : Option Nat) (_ : Unit) => iskN K L r 9 0 ∧ TSQ (RFc (M (rA 2 M oa 8))) (cfx M oa 10) (cax M oa) k1.toInt k2.toInt r) (fun _ t => PQ D [] L M (va_A ([] ++ va_pl L M) sz) t) (va_A ([] ++ va_pl L M) sz)) 0 0 (va_A ([] ++ va_pl L M) sz) := by
  refine Met.ofW (cc := cX2_tenureIn) (maxL := 5) (ret := (some (.object "PartnersBook$Tenure"))) (by decide) rfl ?_
  intro p e s m args below meth c s₁ B hml hv
  obtain ⟨rfl, hsz, hP, hK, hD0, hN⟩ := hv
  have hx := B.exec
  have hb := B.bytes
  have hr := B.returns
  have hts := atoms_spec (ws := (wsM yX2_tenureIn cX2_tenureIn 5 (some (.object "PartnersBook$Tenure")))) B.pre
  have hg : ∀ w ∈ lw_good, w.before _ s = true := fun w h => hts w (List.mem_cons_of_mem _ h)
  have hown : s.vm.findClass RX2 = some m.cls := findClass_of_methodNamed B.named
  have hlocks := B.notSynchronized
  subst hsz
  have hD := hD0.self (sz := s.heap.size)
  generalize hAe : va_A ([] ++ va_pl L M) s.heap.size = A at hD ⊢
  have hA : ∀ q : Nat, s.heap.size ≤ q → A q := fun q h => by rw [← hAe]; exact Or.inr h
  have hS : va_S A s.heap s.heap [] := va_S.rf
  have hl := lv_entry ([.ref oa, .int k1, .int k2]) (n := 5) (Nat.le_of_ble_eq_true rfl)
  rw [lg_entry_eq]
  generalize (lg_sl ([.ref oa, .int k1, .int k2]) ++ List.replicate (5 - (lg_sl ([.ref oa, .int k1, .int k2])).length) Slot.unset).toArray = ls at hl ⊢
  refine W.nameQ (fun Q hQ => ?_)
  refine W.nameR (fun R hR => ?_)
  have hRf : 1 ≤ R.frames := by rw [hR]; exact Nat.le_of_ble_eq_true rfl
  have hRl : 21 ≤ R.locals := by rw [hR]; exact Nat.le_of_ble_eq_true rfl
  have hRc : 0 ≤ R.cells := by rw [hR]; exact Nat.le_of_ble_eq_true rfl
  have hRs : 0 ≤ R.slots := by rw [hR]; exact Nat.le_of_ble_eq_true rfl
  have hl : lv_has ls 5 [(0, .ref oa), (1, .int k1), (2, .int k2)] := hl
  obtain ⟨v1_0, v1_1, v1_2, v1_3, v1_4, v1_5, v1_6, v1_7, v1_8, v1_9, v1_10, v1_11, v1_12, v1_13, v1_14, v1_15, v1_16, v1_17, v1_18, v1_19, hM1, h1_3, h1_4, h1_5, h1_6, h1_7, h1_8, h1_9, h1_10, h1_11, h1_12, h1_13, h1_16, h1_17, h1_18, h1_19⟩ := hW.open_2 ia
  have hc10 : ((v1_9 : Nat) : Int) = cfx M oa 10 := by show _ = (cV 2 M oa 9).toInt; rw [cV_of (j := 9) hM1 rfl, nI_toInt (by omega)]
  have hcc10 : (cV 2 M oa 9).toInt = ((v1_9 : Nat) : Int) := by rw [cV_of (j := 9) hM1 rfl, nI_toInt (by omega)]
  refine lv_iconst (v := 0) hx hb dX2_tenureIn_0 (by decide) ?_
  refine lv_istore_n (lv' := [(3, .int 0), (0, .ref oa), (1, .int k1), (2, .int k2)]) hx hb dX2_tenureIn_1 rfl hl (by decide) rfl (fun ls hl => ?_)
  have key_2 : ∀ (fu_4 : Nat) (v3w5 : Nat) (H_8 : Heap) (locs : List Loc) (ls : Array Slot), 24 - v3w5 < fu_4 → v3w5 ≤ 24 → (∀ i : Nat, i < v3w5 → ¬ tin (cax M oa) k1.toInt k2.toInt i) → WOK cy K L M → va_P D vwCl ([] ++ va_pl L M) H_8 → va_D A ([] ++ va_pl L M) → va_S A s.heap H_8 locs → lv_has ls 5 [(3, .int (nI v3w5)), (0, .ref oa), (1, .int k1), (2, .int k2)] → W p l e R s m ([.ref oa, .int k1, .int k2] : List Value).toArray below meth c H_8 locs 0 0 Q (F0 m 2 ls []) := by
    intro fu_4
    induction fu_4 with
    | zero => intro v3w5 H_8 locs ls h; exact absurd h (Nat.not_lt_zero _)
    | succ fu_4 ih_3 =>
      intro v3w5 H_8 locs ls hfu hx_6 hx_7 hW hP hD hS hl
      refine lv_iload_n hx hb dX2_tenureIn_2 rfl (lv_at hl 0 rfl) ?_
      refine lv_aload_n hx hb dX2_tenureIn_3 rfl (lv_at hl 1 rfl) ?_
      refine pg_get (D := D) (ci := 2) (v := .int (nI v1_9)) (C := RX2) (T := TX2) (N := 20) hx hb hg inG2 hown hK hP ia.1 hM1 rfl 9 (by decide) (hg _ wd_44) (fun _ h9 => h9) rfl dX2_tenureIn_4 ?_
      refine lv_icmp_ge (tgt := 49) hx hb dX2_tenureIn_7 (by decide) (fun c_9 => ?_) (fun c_9 => ?_)
      · have hz := rfl (a := 0)
        have n_10 : v1_9 ≤ v3w5 := (iLE (a := v1_9) (b := v3w5) (by omega) (by omega)).mp c_9
        refine lv_null hx hb dX2_tenureIn_49 ?_
        rw [hQ]
        exact W.aret (v := .null) hx hb hr (Or.inl ⟨_, rfl⟩) (Or.inl rfl) (fun t ht hW9 => ⟨⟨none, (), rfl, ⟨iskN.none, ⟨(fun t9 q9 => by cases q9), fun _ i hi => hx_7 i (by omega)⟩⟩, ⟨by rw [ht]; exact hP, hD⟩⟩, hS.F ht⟩) hS.2.2 dX2_tenureIn_50
      · have hz := rfl (a := 0)
        have n_11 : ¬ (v1_9 ≤ v3w5) := fun q => c_9 ((iLE (a := v1_9) (b := v3w5) (by omega) (by omega)).mpr q)
        refine lv_aload_n hx hb dX2_tenureIn_10 rfl (lv_at hl 1 rfl) ?_
        refine lv_iload_n hx hb dX2_tenureIn_11 rfl (lv_at hl 0 rfl) ?_
        have hPc : va_P D vwCl ([] ++ va_pl L M) H_8 := hP
        have hDc : va_D A ([] ++ va_pl L M) := hD
        have hFc : ∀ q, va_A ([] ++ va_pl L M) H_8.size q → A q := pg_free hDc hS hA
        refine va_callq (va_runV (As := [.int (nI v3w5)]) (rest := []) ⟨hx, hb, hml, hown, hg⟩ (e_X2_tenureAt l D cy K L M H_8.size oa (nI v3w5)  hW ia) (cwV 1 hg (gV wd_54 wd_55 wd_56 wd_57 wd_58) rfl rfl rfl (by decide +kernel) ⟨(Nat.le_trans (Nat.le_of_ble_eq_true rfl) hRf), (Nat.le_trans (Nat.le_of_ble_eq_true rfl) hRl)⟩) ⟨PG.blind, pg_recv hK hP ia.1 hM1 rfl, fun U hU hW => ⟨rfl, PG.at hPc hK hDc hN hU hW⟩⟩ rfl rfl hl.1 rfl (lv_room (Nat.le_of_ble_eq_true rfl)) dX2_tenureIn_12 ⟨(Nat.le_trans (Nat.le_of_ble_eq_true rfl) hRc), (Nat.le_trans (Nat.le_of_ble_eq_true rfl) hRs)⟩) hS (fun q _ h => hFc q h) hFc (fun r_13 M_14 t H_12 locs ht hvm hw hB hz1 hk1 hS => ?_)
        have hp_15 := hw
        obtain ⟨hP1, hD1⟩ := hB
        rw [ht] at hP1
        have hP : va_P D vwCl ([] ++ va_pl L M) H_12 := hP1
        have hD : va_D A ([] ++ va_pl L M) := hD1.mono hFc
        obtain ⟨hp_15, hqx⟩ := hp_15
        rcases r_13 with _ | b_16
        · have hz := rfl (a := 0)
          have hqt := hqx
          refine lv_astoreN (lv' := [(4, .null), (3, .int (nI v3w5)), (0, .ref oa), (1, .int k1), (2, .int k2)]) hx hb dX2_tenureIn_15 hl (by decide) rfl (fun ls hl => ?_)
          refine lv_aloadN hx hb dX2_tenureIn_17 (lv_at hl 0 rfl) ?_
          refine lv_ifnullN (tgt := 43) hx hb dX2_tenureIn_19 (by decide) ?_
          refine lv_iinc (v := (nI (v3w5 + 1))) (lv' := [(3, .int (nI (v3w5 + 1))), (4, .null), (0, .ref oa), (1, .int k1), (2, .int k2)]) hx hb dX2_tenureIn_43 hl (k := 1) rfl (nI_1 v3w5) (by decide) rfl (fun ls hl => ?_)
          refine lv_goto (tgt := 2) hx hb dX2_tenureIn_46 (by decide) ?_
          exact ih_3 (v3w5 + 1) H_12 _ _ (by omega) (by omega) (fun i hi q8 => by by_cases z9 : ¬ i = v3w5; exact hx_7 i (by omega) q8; rw [Classical.not_not.mp z9] at q8; rcases hqt.2 rfl with q9 | q9; exact q9 (by rw [nI_toInt (by omega)]; omega); rw [nI_cl (by omega)] at q9; have h8 := h28 v3w5 (by omega); rw [tn0 q9 (by omega)] at h8; exact absurd h8 (by decide)) hW hP hD hS (lv_sub hl [0, 2, 3, 4] rfl)
        · have hb_17 := hp_15 b_16 rfl
          have hqt := hqx
          refine lv_astore (lv' := [(4, .ref b_16), (3, .int (nI v3w5)), (0, .ref oa), (1, .int k1), (2, .int k2)]) hx hb dX2_tenureIn_15 hl (by decide) rfl (fun ls hl => ?_)
          refine lv_aload hx hb dX2_tenureIn_17 (lv_at hl 0 rfl) ?_
          obtain ⟨v18_0, v18_1, v18_2, v18_3, v18_4, v18_5, v18_6, v18_7, v18_8, v18_9, v18_10, v18_11, v18_12, v18_13, v18_14, v18_15, hM18, h18_0, h18_1, h18_4, h18_8⟩ := hW.open_9 hb_17
          refine lv_ifnull hx hb dX2_tenureIn_19 ?_
          refine lv_aload hx hb dX2_tenureIn_22 (lv_at hl 0 rfl) ?_
          refine pg_get (D := D) (ci := 9) (v := .int v18_2) (C := RX9) (T := TX9) (N := 16) hx hb hg inG9 hown hK hP hb_17.1 hM18 rfl 2 (by decide) (hg _ wd_59) (fun _ h9 => h9) rfl dX2_tenureIn_24 ?_
          refine lv_iload_n hx hb dX2_tenureIn_27 rfl (lv_at hl 3 rfl) ?_
          refine lv_icmp_ne (tgt := 43) hx hb dX2_tenureIn_28 (by decide) (fun c_19 => ?_) (fun c_19 => ?_)
          · have hz := rfl (a := 0)
            refine lv_iinc (v := (nI (v3w5 + 1))) (lv' := [(3, .int (nI (v3w5 + 1))), (4, .ref b_16), (0, .ref oa), (1, .int k1), (2, .int k2)]) hx hb dX2_tenureIn_43 hl (k := 1) rfl (nI_1 v3w5) (by decide) rfl (fun ls hl => ?_)
            refine lv_goto (tgt := 2) hx hb dX2_tenureIn_46 (by decide) ?_
            have hI_20 : ((v3w5 : Nat) : Int) < ((v1_9 : Nat) : Int) := inleI (nI_toInt (by omega)) (nI_toInt (by omega)) c_9
            have hI_21 : (v18_2 : Int32).toInt ≠ (k1 : Int32).toInt := ineI rfl rfl c_19
            have hA_22 : (cV 2 M oa 0).toInt = (v1_0 : Int32).toInt := by rw [cV_of hM1 rfl]
            have hA_23 : (cV 2 M oa 1).toInt = (v1_1 : Int32).toInt := by rw [cV_of hM1 rfl]
            have hA_24 : (cV 2 M oa 2).toInt = (v1_2 : Int32).toInt := by rw [cV_of hM1 rfl]
            have hA_25 : (cV 2 M oa 4).toInt = ((v1_4 : Nat) : Int) := by rw [cV_of hM1 rfl]; exact nI_toInt (by omega)
            have hA_26 : (cV 2 M oa 5).toInt = ((v1_5 : Nat) : Int) := by rw [cV_of hM1 rfl]; exact nI_toInt (by omega)
            have hA_27 : (cV 2 M oa 9).toInt = ((v1_9 : Nat) : Int) := by rw [cV_of hM1 rfl]; exact nI_toInt (by omega)
            have hA_28 : (cV 2 M oa 11).toInt = ((v1_11 : Nat) : Int) := by rw [cV_of hM1 rfl]; exact nI_toInt (by omega)
            have hA_29 : (cV 2 M oa 15).toInt = (v1_15 : Int32).toInt := by rw [cV_of hM1 rfl]
            have hA_30 : (cV 9 M b_16 0).toInt = ((v18_0 : Nat) : Int) := by rw [cV_of hM18 rfl]; exact nI_toInt (by omega)
            have hA_31 : (cV 9 M b_16 2).toInt = (v18_2 : Int32).toInt := by rw [cV_of hM18 rfl]
            have hA_32 : (cV 9 M b_16 3).toInt = (v18_3 : Int32).toInt := by rw [cV_of hM18 rfl]
            have hA_33 : (cV 9 M b_16 4).toInt = (v18_4 : Int32).toInt := by rw [cV_of hM18 rfl]
            have hA_34 : (cV 9 M b_16 5).toInt = (v18_5 : Int32).toInt := by rw [cV_of hM18 rfl]
            have hA_35 : (cV 9 M b_16 6).toInt = (v18_6 : Int32).toInt := by rw [cV_of hM18 rfl]
            have hA_36 : (cV 9 M b_16 7).toInt = (v18_7 : Int32).toInt := by rw [cV_of hM18 rfl]
            obtain ⟨_, hs9⟩ := hqt.1 b_16 rfl
            rw [nI_cl (by omega)] at hs9
            have hlt := lk_te hs9 (by omega)
            have hr20 : (cax M oa 20 v3w5).toInt = (cV 9 M b_16 2).toInt := congrArg Int32.toInt hlt.2.1
            have hr21 : (cax M oa 21 v3w5).toInt = (cV 9 M b_16 3).toInt := congrArg Int32.toInt hlt.2.2.1
            have hr22 : (cax M oa 22 v3w5).toInt = (cV 9 M b_16 5).toInt := congrArg Int32.toInt hlt.2.2.2.1
            exact ih_3 (v3w5 + 1) H_12 _ _ (by omega) (by omega) (fun i hi q8 => by by_cases z9 : ¬ i = v3w5; exact hx_7 i (by omega) q8; rw [Classical.not_not.mp z9] at q8; unfold tin at q8; omega) hW hP hD hS (lv_sub hl [0, 2, 3, 4] rfl)
          · have hz := rfl (a := 0)
            refine lv_aload hx hb dX2_tenureIn_31 (lv_at hl 0 rfl) ?_
            refine lv_iload_n hx hb dX2_tenureIn_33 rfl (lv_at hl 4 rfl) ?_
            have hPc : va_P D vwCl ([] ++ va_pl L M) H_12 := hP
            have hDc : va_D A ([] ++ va_pl L M) := hD
            have hFc : ∀ q, va_A ([] ++ va_pl L M) H_12.size q → A q := pg_free hDc hS hA
            refine va_calli (va_runV (As := [.int k2]) (rest := []) ⟨hx, hb, hml, hown, hg⟩ (e_X9_isIn l D cy K L M H_12.size b_16 k2  hW hb_17) (cwV 1 hg (gV wd_62 wd_63 wd_64 wd_52 wd_65) rfl rfl rfl (by decide +kernel) ⟨(Nat.le_trans (Nat.le_of_ble_eq_true rfl) hRf), (Nat.le_trans (Nat.le_of_ble_eq_true rfl) hRl)⟩) ⟨PG.blind, pg_recv hK hP hb_17.1 hM18 rfl, fun U hU hW => ⟨rfl, PG.at hPc hK hDc hN hU hW⟩⟩ rfl rfl hl.1 rfl (lv_room (Nat.le_of_ble_eq_true rfl)) dX2_tenureIn_34 ⟨(Nat.le_trans (Nat.le_of_ble_eq_true rfl) hRc), (Nat.le_trans (Nat.le_of_ble_eq_true rfl) hRs)⟩) hS (fun q _ h => hFc q h) hFc (fun r_38 M_39 t H_37 locs ht hvm hw hB hz1 hk1 hS => ?_)
            have hp_40 := hw
            obtain ⟨hP1, hD1⟩ := hB
            rw [ht] at hP1
            have hP : va_P D vwCl ([] ++ va_pl L M) H_37 := hP1
            have hD : va_D A ([] ++ va_pl L M) := hD1.mono hFc
            rcases hp_40 with ⟨rfl, c_41⟩ | ⟨rfl, c_42⟩
            · have hz := rfl (a := 0)
              refine lv_if_eq (tgt := 43) hx hb dX2_tenureIn_37 (by decide) (fun c_43 => absurd c_43 (by decide)) (fun _ => ?_)
              refine lv_aload hx hb dX2_tenureIn_40 (lv_at hl 0 rfl) ?_
              have hI_44 : ((v3w5 : Nat) : Int) < ((v1_9 : Nat) : Int) := inleI (nI_toInt (by omega)) (nI_toInt (by omega)) c_9
              have hI_45 : (v18_2 : Int32).toInt = (k1 : Int32).toInt := ieqI rfl rfl c_19
              have hA_46 : (cV 2 M oa 0).toInt = (v1_0 : Int32).toInt := by rw [cV_of hM1 rfl]
              have hA_47 : (cV 2 M oa 1).toInt = (v1_1 : Int32).toInt := by rw [cV_of hM1 rfl]
              have hA_48 : (cV 2 M oa 2).toInt = (v1_2 : Int32).toInt := by rw [cV_of hM1 rfl]
              have hA_49 : (cV 2 M oa 4).toInt = ((v1_4 : Nat) : Int) := by rw [cV_of hM1 rfl]; exact nI_toInt (by omega)
              have hA_50 : (cV 2 M oa 5).toInt = ((v1_5 : Nat) : Int) := by rw [cV_of hM1 rfl]; exact nI_toInt (by omega)
              have hA_51 : (cV 2 M oa 9).toInt = ((v1_9 : Nat) : Int) := by rw [cV_of hM1 rfl]; exact nI_toInt (by omega)
              have hA_52 : (cV 2 M oa 11).toInt = ((v1_11 : Nat) : Int) := by rw [cV_of hM1 rfl]; exact nI_toInt (by omega)
              have hA_53 : (cV 2 M oa 15).toInt = (v1_15 : Int32).toInt := by rw [cV_of hM1 rfl]
              have hA_54 : (cV 9 M b_16 0).toInt = ((v18_0 : Nat) : Int) := by rw [cV_of hM18 rfl]; exact nI_toInt (by omega)
              have hA_55 : (cV 9 M b_16 2).toInt = (v18_2 : Int32).toInt := by rw [cV_of hM18 rfl]
              have hA_56 : (cV 9 M b_16 3).toInt = (v18_3 : Int32).toInt := by rw [cV_of hM18 rfl]
              have hA_57 : (cV 9 M b_16 4).toInt = (v18_4 : Int32).toInt := by rw [cV_of hM18 rfl]
              have hA_58 : (cV 9 M b_16 5).toInt = (v18_5 : Int32).toInt := by rw [cV_of hM18 rfl]
              have hA_59 : (cV 9 M b_16 6).toInt = (v18_6 : Int32).toInt := by rw [cV_of hM18 rfl]
              have hA_60 : (cV 9 M b_16 7).toInt = (v18_7 : Int32).toInt := by rw [cV_of hM18 rfl]
              obtain ⟨_, hs9⟩ := hqt.1 b_16 rfl
              rw [nI_cl (by omega)] at hs9
              have hlt := lk_te hs9 (by omega)
              have hr20 : (cax M oa 20 v3w5).toInt = (cV 9 M b_16 2).toInt := congrArg Int32.toInt hlt.2.1
              have hr21 : (cax M oa 21 v3w5).toInt = (cV 9 M b_16 3).toInt := congrArg Int32.toInt hlt.2.2.1
              have hr22 : (cax M oa 22 v3w5).toInt = (cV 9 M b_16 5).toInt := congrArg Int32.toInt hlt.2.2.2.1
              rw [hQ]
              exact W.aret (v := .ref b_16) hx hb hr (Or.inl ⟨_, rfl⟩) (Or.inr ⟨_, rfl⟩) (fun t ht hW9 => ⟨⟨(some b_16), (), rfl, ⟨iskN.some hb_17, ⟨(fun t9 q9 => by cases q9; exact ⟨v3w5, by omega, hs9, by unfold tin; omega⟩), (fun q9 => by cases q9)⟩⟩, ⟨by rw [ht]; exact hP, hD⟩⟩, hS.F ht⟩) hS.2.2 dX2_tenureIn_42
            · have hz := rfl (a := 0)
              refine lv_if_eq (tgt := 43) hx hb dX2_tenureIn_37 (by decide) (fun _ => ?_) (fun c_61 => absurd c_61 (by decide))
              refine lv_iinc (v := (nI (v3w5 + 1))) (lv' := [(3, .int (nI (v3w5 + 1))), (4, .ref b_16), (0, .ref oa), (1, .int k1), (2, .int k2)]) hx hb dX2_tenureIn_43 hl (k := 1) rfl (nI_1 v3w5) (by decide) rfl (fun ls hl => ?_)
              refine lv_goto (tgt := 2) hx hb dX2_tenureIn_46 (by decide) ?_
              have hI_62 : ((v3w5 : Nat) : Int) < ((v1_9 : Nat) : Int) := inleI (nI_toInt (by omega)) (nI_toInt (by omega)) c_9
              have hI_63 : (v18_2 : Int32).toInt = (k1 : Int32).toInt := ieqI rfl rfl c_19
              have hA_64 : (cV 2 M oa 0).toInt = (v1_0 : Int32).toInt := by rw [cV_of hM1 rfl]
              have hA_65 : (cV 2 M oa 1).toInt = (v1_1 : Int32).toInt := by rw [cV_of hM1 rfl]
              have hA_66 : (cV 2 M oa 2).toInt = (v1_2 : Int32).toInt := by rw [cV_of hM1 rfl]
              have hA_67 : (cV 2 M oa 4).toInt = ((v1_4 : Nat) : Int) := by rw [cV_of hM1 rfl]; exact nI_toInt (by omega)
              have hA_68 : (cV 2 M oa 5).toInt = ((v1_5 : Nat) : Int) := by rw [cV_of hM1 rfl]; exact nI_toInt (by omega)
              have hA_69 : (cV 2 M oa 9).toInt = ((v1_9 : Nat) : Int) := by rw [cV_of hM1 rfl]; exact nI_toInt (by omega)
              have hA_70 : (cV 2 M oa 11).toInt = ((v1_11 : Nat) : Int) := by rw [cV_of hM1 rfl]; exact nI_toInt (by omega)
              have hA_71 : (cV 2 M oa 15).toInt = (v1_15 : Int32).toInt := by rw [cV_of hM1 rfl]
              have hA_72 : (cV 9 M b_16 0).toInt = ((v18_0 : Nat) : Int) := by rw [cV_of hM18 rfl]; exact nI_toInt (by omega)
              have hA_73 : (cV 9 M b_16 2).toInt = (v18_2 : Int32).toInt := by rw [cV_of hM18 rfl]
              have hA_74 : (cV 9 M b_16 3).toInt = (v18_3 : Int32).toInt := by rw [cV_of hM18 rfl]
              have hA_75 : (cV 9 M b_16 4).toInt = (v18_4 : Int32).toInt := by rw [cV_of hM18 rfl]
              have hA_76 : (cV 9 M b_16 5).toInt = (v18_5 : Int32).toInt := by rw [cV_of hM18 rfl]
              have hA_77 : (cV 9 M b_16 6).toInt = (v18_6 : Int32).toInt := by rw [cV_of hM18 rfl]
              have hA_78 : (cV 9 M b_16 7).toInt = (v18_7 : Int32).toInt := by rw [cV_of hM18 rfl]
              obtain ⟨_, hs9⟩ := hqt.1 b_16 rfl
              rw [nI_cl (by omega)] at hs9
              have hlt := lk_te hs9 (by omega)
              have hr20 : (cax M oa 20 v3w5).toInt = (cV 9 M b_16 2).toInt := congrArg Int32.toInt hlt.2.1
              have hr21 : (cax M oa 21 v3w5).toInt = (cV 9 M b_16 3).toInt := congrArg Int32.toInt hlt.2.2.1
              have hr22 : (cax M oa 22 v3w5).toInt = (cV 9 M b_16 5).toInt := congrArg Int32.toInt hlt.2.2.2.1
              exact ih_3 (v3w5 + 1) H_37 _ _ (by omega) (by omega) (fun i hi q8 => by by_cases z9 : ¬ i = v3w5; exact hx_7 i (by omega) q8; rw [Classical.not_not.mp z9] at q8; unfold tin at q8; omega) hW hP hD hS (lv_sub hl [0, 2, 3, 4] rfl)
  exact key_2 (24 - 0 + 1) 0 s.heap _ _ (by omega) (by omega) (fun i h => absurd h (Nat.not_lt_zero _)) hW hP hD hS (lv_sub hl [0, 1, 2, 3] rfl)
set_option maxHeartbeats 4000000 in
set_option maxRecDepth 100000 in
theorem e_seatAll (l : Launch) (D : va_G) (cy : Nat → ClassId) (K : Kp) (L : List Nat) (M : Hp) (sz : Nat) (oa : Nat) (k1 : Nat) (Bo : Nat → Nat × Nat) (Mb : Hp) (Xv : Nat → Int) (Yv : Nat → Nat → Int32) (y0 : Nat) (y1 : Nat) (y2 : Int32) (y3 : Int32) (y4 : Int64) (y5 : Int64) (hW : WOK cy K L M) (ia : isk K L oa 8 0) (ik1 : isk K L k1 2 0) (hV : VC Bo K L Mb M k1 Xv Yv) (hn28 : (∀ i : Nat, (i : Int) < Xv 10 → Yv 28 i = 1)) (hMy : M oa = .inr (8, [.ref y0, .ref y1, .int y2, .int y3, .long y4, .long y5])) (hy0 : isk K L y0 65 6) (hy1 : isk K L y1 72 6) : Met l yX8_seatAll (wsM yX8_seatAll cX8_seatAll 3 none) ({ frames := 2, cells := 0, slots := 0, locals := 45 }) (va_Pc [.ref oa, .ref k1] (PG D cy [] L M sz)) (va_Qv (fun (M9 : Hp) => WOK cy K L M9 ∧ fr K L [65] M M9 ∧ ONL 65 K L (fun b => b = y0) M M9 ∧ ((∀ q : Nat, q < 6 → TSQ (RFc (M (rA 2 M k1 8))) (Xv 10) Yv ((q : Nat) : Int) y2.toInt (RFc (M9 y0) q))) ∧ (True)) (fun M9 t => PQ D [] L M9 (va_A ([] ++ va_pl L M) sz) t) (va_A ([] ++ va_pl L M) sz)) 0 0 (va_A ([] ++ va_pl L M) sz) := by
  refine Met.ofW (cc := cX8_seatAll) (maxL := 3) (ret := none) (by decide) rfl ?_
  intro p e s m args below meth c s₁ B hml hv
  obtain ⟨rfl, hsz, hP, hK, hD0, hN⟩ := hv
  have hx := B.exec
  have hb := B.bytes
  have hr := B.returns
  have hts := atoms_spec (ws := (wsM yX8_seatAll cX8_seatAll 3 none)) B.pre
  have hg : ∀ w ∈ lw_good, w.before _ s = true := fun w h => hts w (List.mem_cons_of_mem _ h)
  have hown : s.vm.findClass RX8 = some m.cls := findClass_of_methodNamed B.named
  have hlocks := B.notSynchronized
  subst hsz
  have hD := hD0.self (sz := s.heap.size)
  generalize hAe : va_A ([] ++ va_pl L M) s.heap.size = A at hD ⊢
  have hA : ∀ q : Nat, s.heap.size ≤ q → A q := fun q h => by rw [← hAe]; exact Or.inr h
  have hS : va_S A s.heap s.heap [] := va_S.rf
  have hl := lv_entry ([.ref oa, .ref k1]) (n := 3) (Nat.le_of_ble_eq_true rfl)
  rw [lg_entry_eq]
  generalize (lg_sl ([.ref oa, .ref k1]) ++ List.replicate (3 - (lg_sl ([.ref oa, .ref k1])).length) Slot.unset).toArray = ls at hl ⊢
  refine W.nameQ (fun Q hQ => ?_)
  refine W.nameR (fun R hR => ?_)
  have hRf : 2 ≤ R.frames := by rw [hR]; exact Nat.le_of_ble_eq_true rfl
  have hRl : 45 ≤ R.locals := by rw [hR]; exact Nat.le_of_ble_eq_true rfl
  have hRc : 0 ≤ R.cells := by rw [hR]; exact Nat.le_of_ble_eq_true rfl
  have hRs : 0 ≤ R.slots := by rw [hR]; exact Nat.le_of_ble_eq_true rfl
  have hF : fr K L [65] M M := fr.rf
  have hO65 : ONL 65 K L (fun b => b = y0) M M := ONL.rf
  have hl : lv_has ls 3 [(0, .ref oa), (1, .ref k1)] := hl
  have hW00 := hW
  have hV00 := hV
  have ik100 := ik1
  obtain ⟨v1_0, v1_1, v1_2, v1_3, v1_4, v1_5, v1_6, v1_7, v1_8, v1_9, v1_10, v1_11, v1_12, v1_13, v1_14, v1_15, v1_16, v1_17, v1_18, v1_19, hM1, h1_3, h1_4, h1_5, h1_6, h1_7, h1_8, h1_9, h1_10, h1_11, h1_12, h1_13, h1_16, h1_17, h1_18, h1_19⟩ := hW.open_2 ik1
  have hsl : rA 2 M k1 8 = v1_8 := rA_of (j := 8) hM1 rfl
  obtain ⟨f2, hM2, hf2⟩ := hW.open_65 hy0
  refine lv_iconst (v := 0) hx hb dX8_seatAll_0 (by decide) ?_
  refine lv_istore_n (lv' := [(2, .int 0), (0, .ref oa), (1, .ref k1)]) hx hb dX8_seatAll_1 rfl hl (by decide) rfl (fun ls hl => ?_)
  have key_3 : ∀ (fu_5 : Nat) (v2w6 : Nat) (gTw6 : Nat → Option Nat) (M_9 : Hp) (H_10 : Heap) (locs : List Loc) (ls : Array Slot), 6 - v2w6 < fu_5 → M_9 oa = .inr (8, [.ref y0, .ref y1, .int y2, .int y3, .long y4, .long y5]) → M_9 k1 = .inr (2, [.int v1_0, .int v1_1, .int v1_2, .ref v1_3, .int (nI v1_4), .int (nI v1_5), .ref v1_6, .ref v1_7, .ref v1_8, .int (nI v1_9), .ref v1_10, .int (nI v1_11), .ref v1_12, .ref v1_13, .long v1_14, .int v1_15, .ref v1_16, .ref v1_17, .ref v1_18, .ref v1_19]) → M_9 y0 = .inl (cy 22, 6, .inr (.inr (.inr (.inr (gTw6))))) → (∀ j, j < 6 → iskN K L (gTw6 j) 9 0) → v2w6 ≤ 6 → (∀ q : Nat, q < v2w6 → TSQ (RFc (M (rA 2 M k1 8))) (Xv 10) Yv ((q : Nat) : Int) y2.toInt (gTw6 q)) → WOK cy K L M_9 → fr K L [65] M M_9 → ONL 65 K L (fun b => b = y0) M M_9 → va_P D vwCl ([] ++ va_pl L M_9) H_10 → va_D A ([] ++ va_pl L M_9) → va_S A s.heap H_10 locs → lv_has ls 3 [(2, .int (nI v2w6)), (0, .ref oa), (1, .ref k1)] → W p l e R s m ([.ref oa, .ref k1] : List Value).toArray below meth c H_10 locs 0 0 Q (F0 m 2 ls []) := by
    intro fu_5
    induction fu_5 with
    | zero => intro v2w6 gTw6 M_9 H_10 locs ls h; exact absurd h (Nat.not_lt_zero _)
    | succ fu_5 ih_4 =>
      intro v2w6 gTw6 M_9 H_10 locs ls hfu hM_11 hM_12 hM_13 hf_14 hx_7 hx_8 hW hF hO65 hP hD hS hl
      refine lv_iload_n hx hb dX8_seatAll_2 rfl (lv_at hl 0 rfl) ?_
      refine lv_bipush (v := 6) hx hb dX8_seatAll_3 (by decide) ?_
      refine lv_icmp_ge (tgt := 29) hx hb dX8_seatAll_5 (by decide) (fun c_15 => ?_) (fun c_15 => ?_)
      · have hz := rfl (a := 0)
        have n_16 : 6 ≤ v2w6 := (iLE (a := 6) (b := v2w6) (by omega) (by omega)).mp c_15
        rw [hQ]
        exact W.vret hx hb hr (fun t ht hW9 => ⟨⟨M_9, rfl, ⟨hW, hF, hO65, (fun q hq => by rw [RFc_of hM_13]; exact hx_8 q (by omega)), trivial⟩, ⟨by rw [ht]; exact hP, hD⟩⟩, hS.F ht⟩) hS.2.2 dX8_seatAll_29
      · have hz := rfl (a := 0)
        have n_17 : ¬ (6 ≤ v2w6) := fun q => c_15 ((iLE (a := 6) (b := v2w6) (by omega) (by omega)).mpr q)
        have hVp := VC.same (M1 := M_9) hV00 hW00 ik100 (SAME.fr (fr.cv hF (by decide)) (fr.cv hF (by decide)) (fr.cv hF (by decide)) (fr.cv hF (by decide)) (fr.cv hF (by decide)) (fr.cv hF (by decide)) (fr.cv hF (by decide)) hF (by decide))
        refine lv_aload_n hx hb dX8_seatAll_8 rfl (lv_at hl 1 rfl) ?_
        refine pg_get (D := D) (ci := 8) (v := .ref y0) (C := RX8) (T := TX8) (N := 6) hx hb hg inG8 hown hK hP ia.1 hM_11 rfl 0 (by decide) (hg _ wd_184) (fun _ h9 => h9) rfl dX8_seatAll_9 ?_
        refine lv_iload_n hx hb dX8_seatAll_12 rfl (lv_at hl 0 rfl) ?_
        refine lv_aload_n hx hb dX8_seatAll_13 rfl (lv_at hl 2 rfl) ?_
        refine lv_iload_n hx hb dX8_seatAll_14 rfl (lv_at hl 0 rfl) ?_
        refine lv_aload_n hx hb dX8_seatAll_15 rfl (lv_at hl 1 rfl) ?_
        refine pg_get (D := D) (ci := 8) (v := .int y2) (C := RX8) (T := TX8) (N := 6) hx hb hg inG8 hown hK hP ia.1 hM_11 rfl 2 (by decide) (hg _ wd_178) (fun _ h9 => h9) rfl dX8_seatAll_16 ?_
        have hPc : va_P D vwCl ([] ++ va_pl L M_9) H_10 := hP
        have hDc : va_D A ([] ++ va_pl L M_9) := hD
        have hFc : ∀ q, va_A ([] ++ va_pl L M_9) H_10.size q → A q := pg_free hDc hS hA
        refine va_callq (va_runV (As := [.int (nI v2w6), .int y2]) (rest := [.int (nI v2w6), .ref y0]) ⟨hx, hb, hml, hown, hg⟩ (e_tenIn2 l D cy K L M_9 H_10.size k1 (nI v2w6) y2  hW ik1 (by rw [hVp.2.1, hVp.2.2.1]; exact hn28)) (cwV 2 hg (gV wd_185 wd_186 wd_187 wd_57 wd_188) rfl rfl rfl (by decide +kernel) ⟨(Nat.le_trans (Nat.le_of_ble_eq_true rfl) hRf), (Nat.le_trans (Nat.le_of_ble_eq_true rfl) hRl)⟩) ⟨PG.blind, pg_recv hK hP ik1.1 hM_12 rfl, fun U hU hW => ⟨rfl, PG.at hPc hK hDc hN hU hW⟩⟩ rfl rfl hl.1 rfl (lv_room (Nat.le_of_ble_eq_true rfl)) dX8_seatAll_19 ⟨(Nat.le_trans (Nat.le_of_ble_eq_true rfl) hRc), (Nat.le_trans (Nat.le_of_ble_eq_true rfl) hRs)⟩) hS (fun q _ h => hFc q h) hFc (fun r_19 M_20 t H_18 locs ht hvm hw hB hz1 hk1 hS => ?_)
        have hp_21 := hw
        obtain ⟨hP1, hD1⟩ := hB
        rw [ht] at hP1
        have hP : va_P D vwCl ([] ++ va_pl L M_9) H_18 := hP1
        have hD : va_D A ([] ++ va_pl L M_9) := hD1.mono hFc
        obtain ⟨hp_21, hqx⟩ := hp_21
        rcases r_19 with _ | b_22
        · have hz := rfl (a := 0)
          have hts : TSQ (RFc (M (rA 2 M k1 8))) (Xv 10) Yv ((v2w6 : Nat) : Int) y2.toInt (none) := by have h9 := hqx; rw [hVp.2.1, hVp.2.2.1, nI_toInt (by omega), rA_e (hF.at ik1 (by decide)), hsl, hF.at h1_8 (by decide)] at h9; rw [hsl]; exact h9
          refine pg_astqN hx hb hK hP hD hS hy0.1 8 hM_13 rfl (inbN v2w6 6 (by omega) (by omega)) dX8_seatAll_22 (fun H_23 locs hP hD hS => ?_)
          obtain ⟨M_24, eM_24⟩ : ∃ M1 : Hp, M1 = va_up M_9 y0 (.inl (cy 22, 6, .inr (.inr (.inr (.inr (va_up gTw6 ((nI v2w6) : Int32).toNatClampNeg none)))))) := ⟨_, rfl⟩
          have hP : va_P D vwCl ([] ++ va_pl L M_24) H_23 := by rw [eM_24]; exact hP
          have hD : va_D A ([] ++ va_pl L M_24) := by rw [eM_24]; exact hD
          have hW : WOK cy K L M_24 := by rw [eM_24]; exact hW.up_65 hy0 ⟨_, rfl, (upN0 hf_14)⟩
          have hF : fr K L [65] M M_24 := by rw [eM_24]; exact hF.up hy0 (by decide)
          have hO65 : ONL 65 K L (fun b => b = y0) M M_24 := by rw [eM_24]; exact hO65.upS ((fun _ => rfl))
          have hM_25 : M_24 y0 = .inl (cy 22, 6, .inr (.inr (.inr (.inr (va_up gTw6 ((nI v2w6) : Int32).toNatClampNeg none))))) := by rw [eM_24]; exact va_up_self _ _ _
          have hM_26 : M_24 oa = .inr (8, [.ref y0, .ref y1, .int y2, .int y3, .long y4, .long y5]) := by rw [eM_24, va_up_ne _ _ (ia.neT hy0 (by decide))]; exact hM_11
          have hM_27 : M_24 k1 = .inr (2, [.int v1_0, .int v1_1, .int v1_2, .ref v1_3, .int (nI v1_4), .int (nI v1_5), .ref v1_6, .ref v1_7, .ref v1_8, .int (nI v1_9), .ref v1_10, .int (nI v1_11), .ref v1_12, .ref v1_13, .long v1_14, .int v1_15, .ref v1_16, .ref v1_17, .ref v1_18, .ref v1_19]) := by rw [eM_24, va_up_ne _ _ (ik1.neT hy0 (by decide))]; exact hM_12
          have hf_29 : ∀ j, j < 6 → iskN K L ((va_up gTw6 ((nI v2w6) : Int32).toNatClampNeg none) j) 9 0 := (upN0 hf_14)
          obtain ⟨f_28, ef_28⟩ : ∃ f : Nat → Option Nat, f = va_up gTw6 ((nI v2w6) : Int32).toNatClampNeg none := ⟨_, rfl⟩
          rw [← ef_28] at hM_25 hf_29
          refine lv_iinc (v := (nI (v2w6 + 1))) (lv' := [(2, .int (nI (v2w6 + 1))), (0, .ref oa), (1, .ref k1)]) hx hb dX8_seatAll_23 hl (k := 0) rfl (nI_1 v2w6) (by decide) rfl (fun ls hl => ?_)
          refine lv_goto (tgt := 2) hx hb dX8_seatAll_26 (by decide) ?_
          exact ih_4 (v2w6 + 1) f_28 M_24 H_23 _ _ (by omega) hM_26 hM_27 hM_25 hf_29 (by omega) (by rw [ef_28, nI_cl (by omega)]; intro q hq; by_cases z9 : q = v2w6; rw [z9, va_up_self]; exact hts; rw [va_up_ne _ _ z9]; exact hx_8 q (by omega)) hW hF hO65 hP hD hS (lv_sub hl [0, 1, 2] rfl)
        · have hb_30 := hp_21 b_22 rfl
          have hts : TSQ (RFc (M (rA 2 M k1 8))) (Xv 10) Yv ((v2w6 : Nat) : Int) y2.toInt (some b_22) := by have h9 := hqx; rw [hVp.2.1, hVp.2.2.1, nI_toInt (by omega), rA_e (hF.at ik1 (by decide)), hsl, hF.at h1_8 (by decide)] at h9; rw [hsl]; exact h9
          obtain ⟨v32_0, v32_1, v32_2, v32_3, v32_4, v32_5, v32_6, v32_7, v32_8, v32_9, v32_10, v32_11, v32_12, v32_13, v32_14, v32_15, hM32, h32_0, h32_1, h32_4, h32_8⟩ := hW.open_9 hb_30
          refine pg_astq (r := (RX9, TX9, 16)) hx hb hK hP hD hS hy0.1 8 9 hM_13 rfl hb_30.1 hM32 rfl (inbN v2w6 6 (by omega) (by omega)) dX8_seatAll_22 (fun H_31 locs hP hD hS => ?_)
          obtain ⟨M_33, eM_33⟩ : ∃ M1 : Hp, M1 = va_up M_9 y0 (.inl (cy 22, 6, .inr (.inr (.inr (.inr (va_up gTw6 ((nI v2w6) : Int32).toNatClampNeg (some b_22))))))) := ⟨_, rfl⟩
          have hP : va_P D vwCl ([] ++ va_pl L M_33) H_31 := by rw [eM_33]; exact hP
          have hD : va_D A ([] ++ va_pl L M_33) := by rw [eM_33]; exact hD
          have hW : WOK cy K L M_33 := by rw [eM_33]; exact hW.up_65 hy0 ⟨_, rfl, (upN hf_14 hb_30)⟩
          have hF : fr K L [65] M M_33 := by rw [eM_33]; exact hF.up hy0 (by decide)
          have hO65 : ONL 65 K L (fun b => b = y0) M M_33 := by rw [eM_33]; exact hO65.upS ((fun _ => rfl))
          have hM_34 : M_33 y0 = .inl (cy 22, 6, .inr (.inr (.inr (.inr (va_up gTw6 ((nI v2w6) : Int32).toNatClampNeg (some b_22)))))) := by rw [eM_33]; exact va_up_self _ _ _
          have hM_35 : M_33 oa = .inr (8, [.ref y0, .ref y1, .int y2, .int y3, .long y4, .long y5]) := by rw [eM_33, va_up_ne _ _ (ia.neT hy0 (by decide))]; exact hM_11
          have hM_36 : M_33 k1 = .inr (2, [.int v1_0, .int v1_1, .int v1_2, .ref v1_3, .int (nI v1_4), .int (nI v1_5), .ref v1_6, .ref v1_7, .ref v1_8, .int (nI v1_9), .ref v1_10, .int (nI v1_11), .ref v1_12, .ref v1_13, .long v1_14, .int v1_15, .ref v1_16, .ref v1_17, .ref v1_18, .ref v1_19]) := by rw [eM_33, va_up_ne _ _ (ik1.neT hy0 (by decide))]; exact hM_12
          have hM_37 : M_33 b_22 = .inr (9, [.int (nI v32_0), .ref v32_1, .int v32_2, .int v32_3, .int v32_4, .int v32_5, .int v32_6, .int v32_7, va_rf v32_8, .long v32_9, .long v32_10, .long v32_11, .long v32_12, .long v32_13, .long v32_14, .long v32_15]) := by rw [eM_33, va_up_ne _ _ (hb_30.neT hy0 (by decide))]; exact hM32
          have hf_39 : ∀ j, j < 6 → iskN K L ((va_up gTw6 ((nI v2w6) : Int32).toNatClampNeg (some b_22)) j) 9 0 := (upN hf_14 hb_30)
          obtain ⟨f_38, ef_38⟩ : ∃ f : Nat → Option Nat, f = va_up gTw6 ((nI v2w6) : Int32).toNatClampNeg (some b_22) := ⟨_, rfl⟩
          rw [← ef_38] at hM_34 hf_39
          have hk_40 : f_38 ((nI v2w6) : Int32).toNatClampNeg = some b_22 := by rw [ef_38]; exact va_up_self _ _ _
          refine lv_iinc (v := (nI (v2w6 + 1))) (lv' := [(2, .int (nI (v2w6 + 1))), (0, .ref oa), (1, .ref k1)]) hx hb dX8_seatAll_23 hl (k := 0) rfl (nI_1 v2w6) (by decide) rfl (fun ls hl => ?_)
          refine lv_goto (tgt := 2) hx hb dX8_seatAll_26 (by decide) ?_
          exact ih_4 (v2w6 + 1) f_38 M_33 H_31 _ _ (by omega) hM_35 hM_36 hM_34 hf_39 (by omega) (by rw [ef_38, nI_cl (by omega)]; intro q hq; by_cases z9 : q = v2w6; rw [z9, va_up_self]; exact hts; rw [va_up_ne _ _ z9]; exact hx_8 q (by omega)) hW hF hO65 hP hD hS (lv_sub hl [0, 1, 2] rfl)
  exact key_3 (6 - 0 + 1) 0 f2 M s.heap _ _ (by omega) hMy hM1 hM2 hf2 (by omega) (fun q h => absurd h (Nat.not_lt_zero _)) hW hF hO65 hP hD hS (lv_sub hl [0, 1, 2] rfl)
set_option maxHeartbeats 4000000 in
set_option maxRecDepth 100000 in
theorem e_at (l : Launch) (D : va_G) (cy : Nat → ClassId) (K : Kp) (L : List Nat) (M : Hp) (sz : Nat) (oa : Nat) (k1 : Int32) (y0 : Nat) (y1 : Nat) (y2 : Nat) (y3 : Nat) (y4 : Int64) (hW : WOK cy K L M) (ia : isk K L oa 0 0) (hMy : M oa = .inr (0, [.ref y0, .ref y1, .ref y2, .int (nI y3), .long y4])) (hy0 : isk K L y0 21 120) (hy1 : isk K L y1 66 100) (hy2 : isk K L y2 7 0) (hy3 : y3 ≤ 120) : Met l yX0_at (wsM yX0_at cX0_at 2 (some (.object "PartnersBook$Stretch"))) ({ frames := 0, cells := 0, slots := 0, locals := 0 }) (va_Pc [.ref oa, .int k1] (PG D cy [] L M sz)) (va_Qq (fun (r : Option Nat) (_ : Unit) => iskN K L r 8 0 ∧ ((0 ≤ k1.toInt ∧ k1.toInt < ((y3 : Nat) : Int)) → r = RFc (M y0) k1.toNatClampNeg) ∧ (¬ (0 ≤ k1.toInt ∧ k1.toInt < ((y3 : Nat) : Int)) → r = none)) (fun _ t => PQ D [] L M (va_A ([] ++ va_pl L M) sz) t) (va_A ([] ++ va_pl L M) sz)) 0 0 (va_A ([] ++ va_pl L M) sz) := by
  refine Met.ofW (cc := cX0_at) (maxL := 2) (ret := (some (.object "PartnersBook$Stretch"))) (by decide) rfl ?_
  intro p e s m args below meth c s₁ B hml hv
  obtain ⟨rfl, hsz, hP, hK, hD0, hN⟩ := hv
  have hx := B.exec
  have hb := B.bytes
  have hr := B.returns
  have hts := atoms_spec (ws := (wsM yX0_at cX0_at 2 (some (.object "PartnersBook$Stretch")))) B.pre
  have hg : ∀ w ∈ lw_good, w.before _ s = true := fun w h => hts w (List.mem_cons_of_mem _ h)
  have hown : s.vm.findClass RX0 = some m.cls := findClass_of_methodNamed B.named
  have hlocks := B.notSynchronized
  subst hsz
  have hD := hD0.self (sz := s.heap.size)
  generalize hAe : va_A ([] ++ va_pl L M) s.heap.size = A at hD ⊢
  have hA : ∀ q : Nat, s.heap.size ≤ q → A q := fun q h => by rw [← hAe]; exact Or.inr h
  have hS : va_S A s.heap s.heap [] := va_S.rf
  have hl := lv_entry ([.ref oa, .int k1]) (n := 2) (Nat.le_of_ble_eq_true rfl)
  rw [lg_entry_eq]
  generalize (lg_sl ([.ref oa, .int k1]) ++ List.replicate (2 - (lg_sl ([.ref oa, .int k1])).length) Slot.unset).toArray = ls at hl ⊢
  refine W.nameQ (fun Q hQ => ?_)
  refine W.nameR (fun R hR => ?_)
  have hRf : 0 ≤ R.frames := by rw [hR]; exact Nat.le_of_ble_eq_true rfl
  have hRl : 0 ≤ R.locals := by rw [hR]; exact Nat.le_of_ble_eq_true rfl
  have hRc : 0 ≤ R.cells := by rw [hR]; exact Nat.le_of_ble_eq_true rfl
  have hRs : 0 ≤ R.slots := by rw [hR]; exact Nat.le_of_ble_eq_true rfl
  have hl : lv_has ls 2 [(0, .ref oa), (1, .int k1)] := hl
  refine lv_iload_n hx hb dX0_at_0 rfl (lv_at hl 1 rfl) ?_
  refine lv_if_lt (tgt := 30) hx hb dX0_at_1 (by decide) (fun c_1 => ?_) (fun c_1 => ?_)
  · have hz := rfl (a := 0)
    refine lv_null hx hb dX0_at_30 ?_
    have hI_2 : (k1 : Int32).toInt < (0 : Int) := iltI rfl rfl c_1
    rw [hQ]
    exact W.aret (v := .null) hx hb hr (Or.inl ⟨_, rfl⟩) (Or.inl rfl) (fun t ht hW9 => ⟨⟨none, (), rfl, ⟨iskN.none, ⟨fun h9 => absurd h9 (by omega), fun _ => rfl⟩⟩, ⟨by rw [ht]; exact hP, hD⟩⟩, hS.F ht⟩) hS.2.2 dX0_at_31
  · have hz := rfl (a := 0)
    refine lv_iload_n hx hb dX0_at_4 rfl (lv_at hl 1 rfl) ?_
    refine lv_aload_n hx hb dX0_at_5 rfl (lv_at hl 0 rfl) ?_
    refine pg_get (D := D) (ci := 0) (v := .int (nI y3)) (C := RX0) (T := TX0) (N := 5) hx hb hg inG0 hown hK hP ia.1 hMy rfl 3 (by decide) (hg _ wd_199) (fun _ h9 => h9) rfl dX0_at_6 ?_
    refine lv_icmp_ge (tgt := 30) hx hb dX0_at_9 (by decide) (fun c_3 => ?_) (fun c_3 => ?_)
    · have hz := rfl (a := 0)
      refine lv_null hx hb dX0_at_30 ?_
      have hI_4 : (0 : Int) ≤ (k1 : Int32).toInt := inltI rfl rfl c_1
      have hI_5 : ((y3 : Nat) : Int) ≤ (k1 : Int32).toInt := ileI (nI_toInt (by omega)) rfl c_3
      rw [hQ]
      exact W.aret (v := .null) hx hb hr (Or.inl ⟨_, rfl⟩) (Or.inl rfl) (fun t ht hW9 => ⟨⟨none, (), rfl, ⟨iskN.none, ⟨fun h9 => absurd h9 (by omega), fun _ => rfl⟩⟩, ⟨by rw [ht]; exact hP, hD⟩⟩, hS.F ht⟩) hS.2.2 dX0_at_31
    · have hz := rfl (a := 0)
      refine lv_iload_n hx hb dX0_at_12 rfl (lv_at hl 1 rfl) ?_
      refine lv_aload_n hx hb dX0_at_13 rfl (lv_at hl 0 rfl) ?_
      refine pg_get (D := D) (ci := 0) (v := .ref y0) (C := RX0) (T := TX0) (N := 5) hx hb hg inG0 hown hK hP ia.1 hMy rfl 0 (by decide) (hg _ wd_200) (fun _ h9 => h9) rfl dX0_at_14 ?_
      obtain ⟨f6, hM6, hf6⟩ := hW.open_21 hy0
      refine pg_alen (v := 120) hx hb hK hP hy0.1 7 hM6 rfl (by rfl) dX0_at_17 ?_
      refine lv_icmp_ge (tgt := 30) hx hb dX0_at_18 (by decide) (fun c_7 => ?_) (fun c_7 => ?_)
      · have hz := rfl (a := 0)
        refine lv_null hx hb dX0_at_30 ?_
        have hI_8 : (0 : Int) ≤ (k1 : Int32).toInt := inltI rfl rfl c_1
        have hI_9 : (k1 : Int32).toInt < ((y3 : Nat) : Int) := inleI (nI_toInt (by omega)) rfl c_3
        have hI_10 : (120 : Int) ≤ (k1 : Int32).toInt := ileI rfl rfl c_7
        rw [hQ]
        exact W.aret (v := .null) hx hb hr (Or.inl ⟨_, rfl⟩) (Or.inl rfl) (fun t ht hW9 => ⟨⟨none, (), rfl, ⟨iskN.none, ⟨fun h9 => absurd h9 (by omega), fun _ => rfl⟩⟩, ⟨by rw [ht]; exact hP, hD⟩⟩, hS.F ht⟩) hS.2.2 dX0_at_31
      · have hz := rfl (a := 0)
        refine lv_aload_n hx hb dX0_at_21 rfl (lv_at hl 0 rfl) ?_
        refine pg_get (D := D) (ci := 0) (v := .ref y0) (C := RX0) (T := TX0) (N := 5) hx hb hg inG0 hown hK hP ia.1 hMy rfl 0 (by decide) (hg _ wd_200) (fun _ h9 => h9) rfl dX0_at_22 ?_
        refine lv_iload_n hx hb dX0_at_25 rfl (lv_at hl 1 rfl) ?_
        have hi_11 : vp_in k1 120 := (inb k1 120 (by omega) c_1 c_7)
        refine pg_aldq hx hb hK hP hy0.1 7 hM6 rfl hi_11 dX0_at_26 ?_
        obtain ⟨q_12, ho_13⟩ : ∃ q : Option Nat, q = f6 (k1 : Int32).toNatClampNeg := ⟨_, rfl⟩
        rw [← ho_13]
        have hq_14 : iskN K L q_12 8 0 := by rw [ho_13]; exact hf6 _ (vp_lt hi_11)
        rcases q_12 with _ | bq_12
        · have hz := rfl (a := 0)
          refine lv_goto (tgt := 31) hx hb dX0_at_27 (by decide) ?_
          have hI_16 : (0 : Int) ≤ (k1 : Int32).toInt := inltI rfl rfl c_1
          have hI_17 : (k1 : Int32).toInt < ((y3 : Nat) : Int) := inleI (nI_toInt (by omega)) rfl c_3
          have hI_18 : (k1 : Int32).toInt < (120 : Int) := inleI rfl rfl c_7
          rw [hQ]
          exact W.aret (v := .null) hx hb hr (Or.inl ⟨_, rfl⟩) (Or.inl rfl) (fun t ht hW9 => ⟨⟨none, (), rfl, ⟨iskN.none, ⟨fun _ => by rw [RFc_of hM6]; exact ho_13, fun _ => rfl⟩⟩, ⟨by rw [ht]; exact hP, hD⟩⟩, hS.F ht⟩) hS.2.2 dX0_at_31
        · have hb_15 := hq_14 bq_12 rfl
          refine lv_goto (tgt := 31) hx hb dX0_at_27 (by decide) ?_
          have hI_19 : (0 : Int) ≤ (k1 : Int32).toInt := inltI rfl rfl c_1
          have hI_20 : (k1 : Int32).toInt < ((y3 : Nat) : Int) := inleI (nI_toInt (by omega)) rfl c_3
          have hI_21 : (k1 : Int32).toInt < (120 : Int) := inleI rfl rfl c_7
          rw [hQ]
          exact W.aret (v := .ref bq_12) hx hb hr (Or.inl ⟨_, rfl⟩) (Or.inr ⟨_, rfl⟩) (fun t ht hW9 => ⟨⟨(some bq_12), (), rfl, ⟨iskN.some hb_15, ⟨fun _ => by rw [RFc_of hM6]; exact ((Eq.symm ho_13)).symm, fun h9 => absurd (show _ ∧ _ from ⟨by omega, by omega⟩) h9⟩⟩, ⟨by rw [ht]; exact hP, hD⟩⟩, hS.F ht⟩) hS.2.2 dX0_at_31
set_option maxHeartbeats 4000000 in
set_option maxRecDepth 100000 in
theorem e_addq (l : Launch) (D : va_G) (cy : Nat → ClassId) (K : Kp) (L : List Nat) (M : Hp) (sz : Nat) (oa : Nat) (k1 : Option Nat) (k2 : Int64) (y0 : Nat) (y1 : Nat) (y2 : Nat) (y3 : Nat) (y4 : Nat) (y5 : Nat) (hW : WOK cy K L M) (ia : isk K L oa 7 0) (ik1 : iskN K L k1 9 0) (hlt : y5 < 100) (hMy : M oa = .inr (7, [.ref y0, .ref y1, .ref y2, .ref y3, .ref y4, .int (nI y5)])) (hy0 : isk K L y0 64 100) (hy1 : isk K L y1 68 100) (hy2 : isk K L y2 69 100) (hy3 : isk K L y3 70 100) (hy4 : isk K L y4 71 100) (hy5 : y5 ≤ 100) : Met l yX7_add (wsM yX7_add cX7_add 4 none) ({ frames := 0, cells := 0, slots := 0, locals := 0 }) (va_Pc [.ref oa, (va_rf k1), .long k2] (PG D cy [] L M sz)) (va_Qv (fun (M9 : Hp) => WOK cy K L M9 ∧ fr K L [7, 64, 68] M M9 ∧ ((LFc (M9 y1) = vp_updL (LFc (M y1)) y5 k2 ∧ RFc (M9 y0) = va_up (RFc (M y0)) y5 k1)) ∧ M9 oa = .inr (7, [.ref y0, .ref y1, .ref y2, .ref y3, .ref y4, .int (nI (y5 + 1))]) ∧ (True)) (fun M9 t => PQ D [] L M9 (va_A ([] ++ va_pl L M) sz) t) (va_A ([] ++ va_pl L M) sz)) 0 0 (va_A ([] ++ va_pl L M) sz) := by
  refine Met.ofW (cc := cX7_add) (maxL := 4) (ret := none) (by decide) rfl ?_
  intro p e s m args below meth c s₁ B hml hv
  obtain ⟨rfl, hsz, hP, hK, hD0, hN⟩ := hv
  have hx := B.exec
  have hb := B.bytes
  have hr := B.returns
  have hts := atoms_spec (ws := (wsM yX7_add cX7_add 4 none)) B.pre
  have hg : ∀ w ∈ lw_good, w.before _ s = true := fun w h => hts w (List.mem_cons_of_mem _ h)
  have hown : s.vm.findClass RX7 = some m.cls := findClass_of_methodNamed B.named
  have hlocks := B.notSynchronized
  subst hsz
  have hD := hD0.self (sz := s.heap.size)
  generalize hAe : va_A ([] ++ va_pl L M) s.heap.size = A at hD ⊢
  have hA : ∀ q : Nat, s.heap.size ≤ q → A q := fun q h => by rw [← hAe]; exact Or.inr h
  have hS : va_S A s.heap s.heap [] := va_S.rf
  have hl := lv_entry ([.ref oa, (va_rf k1), .long k2]) (n := 4) (Nat.le_of_ble_eq_true rfl)
  rw [lg_entry_eq]
  generalize (lg_sl ([.ref oa, (va_rf k1), .long k2]) ++ List.replicate (4 - (lg_sl ([.ref oa, (va_rf k1), .long k2])).length) Slot.unset).toArray = ls at hl ⊢
  refine W.nameQ (fun Q hQ => ?_)
  refine W.nameR (fun R hR => ?_)
  have hRf : 0 ≤ R.frames := by rw [hR]; exact Nat.le_of_ble_eq_true rfl
  have hRl : 0 ≤ R.locals := by rw [hR]; exact Nat.le_of_ble_eq_true rfl
  have hRc : 0 ≤ R.cells := by rw [hR]; exact Nat.le_of_ble_eq_true rfl
  have hRs : 0 ≤ R.slots := by rw [hR]; exact Nat.le_of_ble_eq_true rfl
  have hF : fr K L [7, 64, 68] M M := fr.rf
  have hl : lv_has ls 4 [(0, .ref oa), (1, (va_rf k1)), (2, .long k2)] := hl
  obtain ⟨f1, hM1⟩ := hW.open_68 hy1
  have hL0 : LFc (M y1) = f1 := LFc_of hM1
  obtain ⟨f2, hM2, hf2⟩ := hW.open_64 hy0
  have hR0 : RFc (M y0) = f2 := RFc_of hM2
  refine lv_aload_n hx hb dX7_add_0 rfl (lv_at hl 0 rfl) ?_
  refine pg_get (D := D) (ci := 7) (v := .int (nI y5)) (C := RX7) (T := TX7) (N := 6) hx hb hg inG7 hown hK hP ia.1 hMy rfl 5 (by decide) (hg _ wd_139) (fun _ h9 => h9) rfl dX7_add_1 ?_
  refine lv_bipush (v := 100) hx hb dX7_add_4 (by decide) ?_
  refine lv_icmp_ge (tgt := 39) hx hb dX7_add_6 (by decide) (fun c_3 => ?_) (fun c_3 => ?_)
  · have hz := rfl (a := 0)
    have n_4 : 100 ≤ y5 := (iLE (a := 100) (b := y5) (by omega) (by omega)).mp c_3
    exfalso
    omega
  · have hz := rfl (a := 0)
    have n_5 : ¬ (100 ≤ y5) := fun q => c_3 ((iLE (a := 100) (b := y5) (by omega) (by omega)).mpr q)
    refine lv_aload_n hx hb dX7_add_9 rfl (lv_at hl 0 rfl) ?_
    refine pg_get (D := D) (ci := 7) (v := .ref y0) (C := RX7) (T := TX7) (N := 6) hx hb hg inG7 hown hK hP ia.1 hMy rfl 0 (by decide) (hg _ wd_140) (fun _ h9 => h9) rfl dX7_add_10 ?_
    refine lv_aload_n hx hb dX7_add_13 rfl (lv_at hl 0 rfl) ?_
    refine pg_get (D := D) (ci := 7) (v := .int (nI y5)) (C := RX7) (T := TX7) (N := 6) hx hb hg inG7 hown hK hP ia.1 hMy rfl 5 (by decide) (hg _ wd_139) (fun _ h9 => h9) rfl dX7_add_14 ?_
    rcases k1 with _ | b_6
    · have hz := rfl (a := 0)
      refine lv_aload_nN hx hb dX7_add_17 rfl (lv_at hl 1 rfl) ?_
      refine pg_astqN hx hb hK hP hD hS hy0.1 8 hM2 rfl (inbN y5 100 (by omega) (by omega)) dX7_add_18 (fun H_7 locs hP hD hS => ?_)
      obtain ⟨M_8, eM_8⟩ : ∃ M1 : Hp, M1 = va_up M y0 (.inl (cy 22, 100, .inr (.inr (.inr (.inr (va_up f2 ((nI y5) : Int32).toNatClampNeg none)))))) := ⟨_, rfl⟩
      have hP : va_P D vwCl ([] ++ va_pl L M_8) H_7 := by rw [eM_8]; exact hP
      have hD : va_D A ([] ++ va_pl L M_8) := by rw [eM_8]; exact hD
      have hW : WOK cy K L M_8 := by rw [eM_8]; exact hW.up_64 hy0 ⟨_, rfl, (upN0 hf2)⟩
      have hF : fr K L [7, 64, 68] M M_8 := by rw [eM_8]; exact hF.up hy0 (by decide)
      have hM_9 : M_8 y0 = .inl (cy 22, 100, .inr (.inr (.inr (.inr (va_up f2 ((nI y5) : Int32).toNatClampNeg none))))) := by rw [eM_8]; exact va_up_self _ _ _
      have hM_10 : M_8 oa = .inr (7, [.ref y0, .ref y1, .ref y2, .ref y3, .ref y4, .int (nI y5)]) := by rw [eM_8, va_up_ne _ _ (ia.neT hy0 (by decide))]; exact hMy
      have hM_11 : M_8 y1 = .inl (cy 15, 100, .inr (.inl (f1))) := by rw [eM_8, va_up_ne _ _ (hy1.neT hy0 (by decide))]; exact hM1
      have hf_13 : ∀ j, j < 100 → iskN K L ((va_up f2 ((nI y5) : Int32).toNatClampNeg none) j) 9 0 := (upN0 hf2)
      obtain ⟨f_12, ef_12⟩ : ∃ f : Nat → Option Nat, f = va_up f2 ((nI y5) : Int32).toNatClampNeg none := ⟨_, rfl⟩
      rw [← ef_12] at hM_9 hf_13
      refine lv_aload_n hx hb dX7_add_19 rfl (lv_at hl 0 rfl) ?_
      refine pg_get (D := D) (ci := 7) (v := .ref y1) (C := RX7) (T := TX7) (N := 6) hx hb hg inG7 hown hK hP ia.1 hM_10 rfl 1 (by decide) (hg _ wd_141) (fun _ h9 => h9) rfl dX7_add_20 ?_
      refine lv_aload_n hx hb dX7_add_23 rfl (lv_at hl 0 rfl) ?_
      refine pg_get (D := D) (ci := 7) (v := .int (nI y5)) (C := RX7) (T := TX7) (N := 6) hx hb hg inG7 hown hK hP ia.1 hM_10 rfl 5 (by decide) (hg _ wd_139) (fun _ h9 => h9) rfl dX7_add_24 ?_
      refine lv_lload_n hx hb dX7_add_27 rfl (lv_at hl 2 rfl) ?_
      refine pg_last hx hb hK hP hD hS hy1.1 1 hM_11 rfl (inbN y5 100 (by omega) (by omega)) dX7_add_28 (fun H_14 locs hP hD hS => ?_)
      obtain ⟨M_15, eM_15⟩ : ∃ M1 : Hp, M1 = va_up M_8 y1 (.inl (cy 15, 100, .inr (.inl (vp_updL f1 ((nI y5) : Int32).toNatClampNeg k2)))) := ⟨_, rfl⟩
      have hP : va_P D vwCl ([] ++ va_pl L M_15) H_14 := by rw [eM_15]; exact hP
      have hD : va_D A ([] ++ va_pl L M_15) := by rw [eM_15]; exact hD
      have hW : WOK cy K L M_15 := by rw [eM_15]; exact hW.up_68 hy1 ⟨_, rfl⟩
      have hF : fr K L [7, 64, 68] M M_15 := by rw [eM_15]; exact hF.up hy1 (by decide)
      have hM_16 : M_15 y1 = .inl (cy 15, 100, .inr (.inl (vp_updL f1 ((nI y5) : Int32).toNatClampNeg k2))) := by rw [eM_15]; exact va_up_self _ _ _
      have hM_17 : M_15 y0 = .inl (cy 22, 100, .inr (.inr (.inr (.inr (f_12))))) := by rw [eM_15, va_up_ne _ _ (hy0.neT hy1 (by decide))]; exact hM_9
      have hM_18 : M_15 oa = .inr (7, [.ref y0, .ref y1, .ref y2, .ref y3, .ref y4, .int (nI y5)]) := by rw [eM_15, va_up_ne _ _ (ia.neT hy1 (by decide))]; exact hM_10
      obtain ⟨f_19, ef_19⟩ : ∃ f : Nat → Int64, f = vp_updL f1 ((nI y5) : Int32).toNatClampNeg k2 := ⟨_, rfl⟩
      rw [← ef_19] at hM_16
      refine lv_aload_n hx hb dX7_add_29 rfl (lv_at hl 0 rfl) ?_
      refine lv_dup hx hb dX7_add_30 rfl ?_
      refine pg_get (D := D) (ci := 7) (v := .int (nI y5)) (C := RX7) (T := TX7) (N := 6) hx hb hg inG7 hown hK hP ia.1 hM_18 rfl 5 (by decide) (hg _ wd_139) (fun _ h9 => h9) rfl dX7_add_31 ?_
      refine lv_iconst (v := 1) hx hb dX7_add_34 (by decide) ?_
      refine lv_iadd hx hb dX7_add_35 ?_
      refine lv_topi (fun f_20 ef_20 => ?_)
      obtain rfl : f_20 = (nI (y5 + 1)) := ef_20.trans (nI_add y5 1)
      refine pg_put (D := D) (ci := 7) (v := .int (nI (y5 + 1))) (ty := .int) (C := RX7) (T := TX7) (N := 6) hx hb hg inG7 tyX7 tyX7_ok nmX7 hown hK hP hD hS ia.1 hM_18 rfl 5 (by decide) (hg _ wd_139) (fun _ h9 => h9) rfl (by decide +kernel) rfl rfl (Nat.le_of_ble_eq_true rfl) dX7_add_36 (fun H_21 locs hP hD hS => ?_)
      obtain ⟨M_22, eM_22⟩ : ∃ M1 : Hp, M1 = va_up M_15 oa (.inr (7, [.ref y0, .ref y1, .ref y2, .ref y3, .ref y4, .int (nI (y5 + 1))])) := ⟨_, rfl⟩
      have hP : va_P D vwCl ([] ++ va_pl L M_22) H_21 := by rw [eM_22]; exact hP
      have hD : va_D A ([] ++ va_pl L M_22) := by rw [eM_22]; exact hD
      have hW : WOK cy K L M_22 := by rw [eM_22]; exact hW.up_7 ia ⟨y0, y1, y2, y3, y4, (y5 + 1), rfl, hy0, hy1, hy2, hy3, hy4, (by omega)⟩
      have hF : fr K L [7, 64, 68] M M_22 := by rw [eM_22]; exact hF.up ia (by decide)
      have hM_23 : M_22 oa = .inr (7, [.ref y0, .ref y1, .ref y2, .ref y3, .ref y4, .int (nI (y5 + 1))]) := by rw [eM_22]; exact va_up_self _ _ _
      have hM_24 : M_22 y1 = .inl (cy 15, 100, .inr (.inl (f_19))) := by rw [eM_22, va_up_ne _ _ (hy1.neT ia (by decide))]; exact hM_16
      have hM_25 : M_22 y0 = .inl (cy 22, 100, .inr (.inr (.inr (.inr (f_12))))) := by rw [eM_22, va_up_ne _ _ (hy0.neT ia (by decide))]; exact hM_17
      have hb_26 : (y5 + 1) ≤ 100 := by omega
      rw [hQ]
      exact W.vret hx hb hr (fun t ht hW9 => ⟨⟨M_22, rfl, ⟨hW, hF, ⟨(by rw [LFc_of hM_24, hL0, ef_19, nI_cl (by omega)]), (by rw [RFc_of hM_25, hR0, ef_12, nI_cl (by omega)])⟩, hM_23, trivial⟩, ⟨by rw [ht]; exact hP, hD⟩⟩, hS.F ht⟩) hS.2.2 dX7_add_39
    · have hb_27 := ik1 b_6 rfl
      refine lv_aload_n hx hb dX7_add_17 rfl (lv_at hl 1 rfl) ?_
      obtain ⟨v29_0, v29_1, v29_2, v29_3, v29_4, v29_5, v29_6, v29_7, v29_8, v29_9, v29_10, v29_11, v29_12, v29_13, v29_14, v29_15, hM29, h29_0, h29_1, h29_4, h29_8⟩ := hW.open_9 hb_27
      refine pg_astq (r := (RX9, TX9, 16)) hx hb hK hP hD hS hy0.1 8 9 hM2 rfl hb_27.1 hM29 rfl (inbN y5 100 (by omega) (by omega)) dX7_add_18 (fun H_28 locs hP hD hS => ?_)
      obtain ⟨M_30, eM_30⟩ : ∃ M1 : Hp, M1 = va_up M y0 (.inl (cy 22, 100, .inr (.inr (.inr (.inr (va_up f2 ((nI y5) : Int32).toNatClampNeg (some b_6))))))) := ⟨_, rfl⟩
      have hP : va_P D vwCl ([] ++ va_pl L M_30) H_28 := by rw [eM_30]; exact hP
      have hD : va_D A ([] ++ va_pl L M_30) := by rw [eM_30]; exact hD
      have hW : WOK cy K L M_30 := by rw [eM_30]; exact hW.up_64 hy0 ⟨_, rfl, (upN hf2 hb_27)⟩
      have hF : fr K L [7, 64, 68] M M_30 := by rw [eM_30]; exact hF.up hy0 (by decide)
      have hM_31 : M_30 y0 = .inl (cy 22, 100, .inr (.inr (.inr (.inr (va_up f2 ((nI y5) : Int32).toNatClampNeg (some b_6)))))) := by rw [eM_30]; exact va_up_self _ _ _
      have hM_32 : M_30 oa = .inr (7, [.ref y0, .ref y1, .ref y2, .ref y3, .ref y4, .int (nI y5)]) := by rw [eM_30, va_up_ne _ _ (ia.neT hy0 (by decide))]; exact hMy
      have hM_33 : M_30 y1 = .inl (cy 15, 100, .inr (.inl (f1))) := by rw [eM_30, va_up_ne _ _ (hy1.neT hy0 (by decide))]; exact hM1
      have hM_34 : M_30 b_6 = .inr (9, [.int (nI v29_0), .ref v29_1, .int v29_2, .int v29_3, .int v29_4, .int v29_5, .int v29_6, .int v29_7, va_rf v29_8, .long v29_9, .long v29_10, .long v29_11, .long v29_12, .long v29_13, .long v29_14, .long v29_15]) := by rw [eM_30, va_up_ne _ _ (hb_27.neT hy0 (by decide))]; exact hM29
      have hf_36 : ∀ j, j < 100 → iskN K L ((va_up f2 ((nI y5) : Int32).toNatClampNeg (some b_6)) j) 9 0 := (upN hf2 hb_27)
      obtain ⟨f_35, ef_35⟩ : ∃ f : Nat → Option Nat, f = va_up f2 ((nI y5) : Int32).toNatClampNeg (some b_6) := ⟨_, rfl⟩
      rw [← ef_35] at hM_31 hf_36
      have hk_37 : f_35 ((nI y5) : Int32).toNatClampNeg = some b_6 := by rw [ef_35]; exact va_up_self _ _ _
      refine lv_aload_n hx hb dX7_add_19 rfl (lv_at hl 0 rfl) ?_
      refine pg_get (D := D) (ci := 7) (v := .ref y1) (C := RX7) (T := TX7) (N := 6) hx hb hg inG7 hown hK hP ia.1 hM_32 rfl 1 (by decide) (hg _ wd_141) (fun _ h9 => h9) rfl dX7_add_20 ?_
      refine lv_aload_n hx hb dX7_add_23 rfl (lv_at hl 0 rfl) ?_
      refine pg_get (D := D) (ci := 7) (v := .int (nI y5)) (C := RX7) (T := TX7) (N := 6) hx hb hg inG7 hown hK hP ia.1 hM_32 rfl 5 (by decide) (hg _ wd_139) (fun _ h9 => h9) rfl dX7_add_24 ?_
      refine lv_lload_n hx hb dX7_add_27 rfl (lv_at hl 2 rfl) ?_
      refine pg_last hx hb hK hP hD hS hy1.1 1 hM_33 rfl (inbN y5 100 (by omega) (by omega)) dX7_add_28 (fun H_38 locs hP hD hS => ?_)
      obtain ⟨M_39, eM_39⟩ : ∃ M1 : Hp, M1 = va_up M_30 y1 (.inl (cy 15, 100, .inr (.inl (vp_updL f1 ((nI y5) : Int32).toNatClampNeg k2)))) := ⟨_, rfl⟩
      have hP : va_P D vwCl ([] ++ va_pl L M_39) H_38 := by rw [eM_39]; exact hP
      have hD : va_D A ([] ++ va_pl L M_39) := by rw [eM_39]; exact hD
      have hW : WOK cy K L M_39 := by rw [eM_39]; exact hW.up_68 hy1 ⟨_, rfl⟩
      have hF : fr K L [7, 64, 68] M M_39 := by rw [eM_39]; exact hF.up hy1 (by decide)
      have hM_40 : M_39 y1 = .inl (cy 15, 100, .inr (.inl (vp_updL f1 ((nI y5) : Int32).toNatClampNeg k2))) := by rw [eM_39]; exact va_up_self _ _ _
      have hM_41 : M_39 y0 = .inl (cy 22, 100, .inr (.inr (.inr (.inr (f_35))))) := by rw [eM_39, va_up_ne _ _ (hy0.neT hy1 (by decide))]; exact hM_31
      have hM_42 : M_39 oa = .inr (7, [.ref y0, .ref y1, .ref y2, .ref y3, .ref y4, .int (nI y5)]) := by rw [eM_39, va_up_ne _ _ (ia.neT hy1 (by decide))]; exact hM_32
      have hM_43 : M_39 b_6 = .inr (9, [.int (nI v29_0), .ref v29_1, .int v29_2, .int v29_3, .int v29_4, .int v29_5, .int v29_6, .int v29_7, va_rf v29_8, .long v29_9, .long v29_10, .long v29_11, .long v29_12, .long v29_13, .long v29_14, .long v29_15]) := by rw [eM_39, va_up_ne _ _ (hb_27.neT hy1 (by decide))]; exact hM_34
      obtain ⟨f_44, ef_44⟩ : ∃ f : Nat → Int64, f = vp_updL f1 ((nI y5) : Int32).toNatClampNeg k2 := ⟨_, rfl⟩
      rw [← ef_44] at hM_40
      refine lv_aload_n hx hb dX7_add_29 rfl (lv_at hl 0 rfl) ?_
      refine lv_dup hx hb dX7_add_30 rfl ?_
      refine pg_get (D := D) (ci := 7) (v := .int (nI y5)) (C := RX7) (T := TX7) (N := 6) hx hb hg inG7 hown hK hP ia.1 hM_42 rfl 5 (by decide) (hg _ wd_139) (fun _ h9 => h9) rfl dX7_add_31 ?_
      refine lv_iconst (v := 1) hx hb dX7_add_34 (by decide) ?_
      refine lv_iadd hx hb dX7_add_35 ?_
      refine lv_topi (fun f_45 ef_45 => ?_)
      obtain rfl : f_45 = (nI (y5 + 1)) := ef_45.trans (nI_add y5 1)
      refine pg_put (D := D) (ci := 7) (v := .int (nI (y5 + 1))) (ty := .int) (C := RX7) (T := TX7) (N := 6) hx hb hg inG7 tyX7 tyX7_ok nmX7 hown hK hP hD hS ia.1 hM_42 rfl 5 (by decide) (hg _ wd_139) (fun _ h9 => h9) rfl (by decide +kernel) rfl rfl (Nat.le_of_ble_eq_true rfl) dX7_add_36 (fun H_46 locs hP hD hS => ?_)
      obtain ⟨M_47, eM_47⟩ : ∃ M1 : Hp, M1 = va_up M_39 oa (.inr (7, [.ref y0, .ref y1, .ref y2, .ref y3, .ref y4, .int (nI (y5 + 1))])) := ⟨_, rfl⟩
      have hP : va_P D vwCl ([] ++ va_pl L M_47) H_46 := by rw [eM_47]; exact hP
      have hD : va_D A ([] ++ va_pl L M_47) := by rw [eM_47]; exact hD
      have hW : WOK cy K L M_47 := by rw [eM_47]; exact hW.up_7 ia ⟨y0, y1, y2, y3, y4, (y5 + 1), rfl, hy0, hy1, hy2, hy3, hy4, (by omega)⟩
      have hF : fr K L [7, 64, 68] M M_47 := by rw [eM_47]; exact hF.up ia (by decide)
      have hM_48 : M_47 oa = .inr (7, [.ref y0, .ref y1, .ref y2, .ref y3, .ref y4, .int (nI (y5 + 1))]) := by rw [eM_47]; exact va_up_self _ _ _
      have hM_49 : M_47 y1 = .inl (cy 15, 100, .inr (.inl (f_44))) := by rw [eM_47, va_up_ne _ _ (hy1.neT ia (by decide))]; exact hM_40
      have hM_50 : M_47 y0 = .inl (cy 22, 100, .inr (.inr (.inr (.inr (f_35))))) := by rw [eM_47, va_up_ne _ _ (hy0.neT ia (by decide))]; exact hM_41
      have hM_51 : M_47 b_6 = .inr (9, [.int (nI v29_0), .ref v29_1, .int v29_2, .int v29_3, .int v29_4, .int v29_5, .int v29_6, .int v29_7, va_rf v29_8, .long v29_9, .long v29_10, .long v29_11, .long v29_12, .long v29_13, .long v29_14, .long v29_15]) := by rw [eM_47, va_up_ne _ _ (hb_27.neT ia (by decide))]; exact hM_43
      have hb_52 : (y5 + 1) ≤ 100 := by omega
      rw [hQ]
      exact W.vret hx hb hr (fun t ht hW9 => ⟨⟨M_47, rfl, ⟨hW, hF, ⟨(by rw [LFc_of hM_49, hL0, ef_44, nI_cl (by omega)]), (by rw [RFc_of hM_50, hR0, ef_35, nI_cl (by omega)])⟩, hM_48, trivial⟩, ⟨by rw [ht]; exact hP, hD⟩⟩, hS.F ht⟩) hS.2.2 dX7_add_39
set_option maxHeartbeats 4000000 in
set_option maxRecDepth 100000 in
theorem e_weigh (l : Launch) (D : va_G) (cy : Nat → ClassId) (K : Kp) (L : List Nat) (M : Hp) (sz : Nat) (oa : Nat) (k1 : Nat) (k2 : Nat) (k3 : Int32) (y0 : Nat) (y1 : Nat) (y2 : Nat) (y3 : Nat) (y4 : Int64) (s0 : Nat) (s1 : Nat) (s2 : Int32) (s3 : Int32) (s4 : Int64) (s5 : Int64) (a0 : Nat) (a1 : Nat) (a2 : Nat) (a3 : Nat) (a4 : Nat) (a5 : Nat) (hW : WOK cy K L M) (ia : isk K L oa 0 0) (ik1 : isk K L k1 8 0) (ik2 : isk K L k2 6 0) (hk3 : k3 = nI 2 ∨ k3 = nI 3) (hMy : M oa = .inr (0, [.ref y0, .ref y1, .ref y2, .int (nI y3), .long y4])) (hy0 : isk K L y0 21 120) (hy1 : isk K L y1 66 100) (hy2 : isk K L y2 7 0) (hy3 : y3 ≤ 120) (hMs : M k1 = .inr (8, [.ref s0, .ref s1, .int s2, .int s3, .long s4, .long s5])) (hs0 : isk K L s0 65 6) (hs1 : isk K L s1 72 6) (hMa : M y2 = .inr (7, [.ref a0, .ref a1, .ref a2, .ref a3, .ref a4, .int (nI a5)])) (ha0 : isk K L a0 64 100) (ha1 : isk K L a1 68 100) (ha2 : isk K L a2 69 100) (ha3 : isk K L a3 70 100) (ha4 : isk K L a4 71 100) (ha5 : a5 ≤ 100) : Met l yX0_weigh (wsM yX0_weigh cX0_weigh 6 none) ({ frames := 2, cells := 0, slots := 0, locals := 43 }) (va_Pc [.ref oa, .ref k1, .ref k2, .int k3] (PG D cy [] L M sz)) (va_Qv (fun (M9 : Hp) => WOK cy K L M9 ∧ fr K L [7, 64, 68] M M9 ∧ (((∀ q : Nat, q < 6 → RFc (M9 a0) q = sT M k1 q) ∧ (∀ q : Nat, q < 6 → (LFc (M9 a1) q).toInt = wtE M k1 k2 k3.toNatClampNeg q))) ∧ M9 y2 = .inr (7, [.ref a0, .ref a1, .ref a2, .ref a3, .ref a4, .int (nI 6)]) ∧ (True)) (fun M9 t => PQ D [] L M9 (va_A ([] ++ va_pl L M) sz) t) (va_A ([] ++ va_pl L M) sz)) 0 0 (va_A ([] ++ va_pl L M) sz) := by
  refine Met.ofW (cc := cX0_weigh) (maxL := 6) (ret := none) (by decide) rfl ?_
  intro p e s m args below meth c s₁ B hml hv
  obtain ⟨rfl, hsz, hP, hK, hD0, hN⟩ := hv
  have hx := B.exec
  have hb := B.bytes
  have hr := B.returns
  have hts := atoms_spec (ws := (wsM yX0_weigh cX0_weigh 6 none)) B.pre
  have hg : ∀ w ∈ lw_good, w.before _ s = true := fun w h => hts w (List.mem_cons_of_mem _ h)
  have hown : s.vm.findClass RX0 = some m.cls := findClass_of_methodNamed B.named
  have hlocks := B.notSynchronized
  subst hsz
  have hD := hD0.self (sz := s.heap.size)
  generalize hAe : va_A ([] ++ va_pl L M) s.heap.size = A at hD ⊢
  have hA : ∀ q : Nat, s.heap.size ≤ q → A q := fun q h => by rw [← hAe]; exact Or.inr h
  have hS : va_S A s.heap s.heap [] := va_S.rf
  have hl := lv_entry ([.ref oa, .ref k1, .ref k2, .int k3]) (n := 6) (Nat.le_of_ble_eq_true rfl)
  rw [lg_entry_eq]
  generalize (lg_sl ([.ref oa, .ref k1, .ref k2, .int k3]) ++ List.replicate (6 - (lg_sl ([.ref oa, .ref k1, .ref k2, .int k3])).length) Slot.unset).toArray = ls at hl ⊢
  refine W.nameQ (fun Q hQ => ?_)
  refine W.nameR (fun R hR => ?_)
  have hRf : 2 ≤ R.frames := by rw [hR]; exact Nat.le_of_ble_eq_true rfl
  have hRl : 43 ≤ R.locals := by rw [hR]; exact Nat.le_of_ble_eq_true rfl
  have hRc : 0 ≤ R.cells := by rw [hR]; exact Nat.le_of_ble_eq_true rfl
  have hRs : 0 ≤ R.slots := by rw [hR]; exact Nat.le_of_ble_eq_true rfl
  have hF : fr K L [7, 64, 68] M M := fr.rf
  have hl : lv_has ls 6 [(0, .ref oa), (1, .ref k1), (2, .ref k2), (3, .int k3)] := hl
  have hsT : rA 8 M k1 0 = s0 := rA_of (j := 0) hMs rfl
  obtain ⟨v1_0, v1_1, v1_2, hM1, h1_2⟩ := hW.open_6 ik2
  have hyr : rA 6 M k2 2 = v1_2 := rA_of (j := 2) hM1 rfl
  have hk3n : k3.toNatClampNeg < 4 ∧ k3 = nI k3.toNatClampNeg := by rcases hk3 with z9 | z9 <;> rw [z9] <;> decide
  refine lv_aload_n hx hb dX0_weigh_0 rfl (lv_at hl 0 rfl) ?_
  refine pg_get (D := D) (ci := 0) (v := .ref y2) (C := RX0) (T := TX0) (N := 5) hx hb hg inG0 hown hK hP ia.1 hMy rfl 2 (by decide) (hg _ wd_207) (fun _ h9 => h9) rfl dX0_weigh_1 ?_
  have hPc : va_P D vwCl ([] ++ va_pl L M) s.heap := hP
  have hDc : va_D A ([] ++ va_pl L M) := hD
  have hFc : ∀ q, va_A ([] ++ va_pl L M) s.heap.size q → A q := pg_free hDc hS hA
  refine va_callv (va_runV (As := []) (rest := []) ⟨hx, hb, hml, hown, hg⟩ (e_start l D cy K L M s.heap.size y2 a0 a1 a2 a3 a4 a5 hW hy2 hMa ha0 ha1 ha2 ha3 ha4 ha5) (cwV 0 hg (gV wd_208 wd_209 wd_210 wd_148 wd_211) rfl rfl rfl (by decide +kernel) ⟨(Nat.le_trans (Nat.le_of_ble_eq_true rfl) hRf), (Nat.le_trans (Nat.le_of_ble_eq_true rfl) hRl)⟩) ⟨PG.blind, pg_recv hK hP hy2.1 hMa rfl, fun U hU hW => ⟨rfl, PG.at hPc hK hDc hN hU hW⟩⟩ rfl rfl hl.1 rfl (lv_room (Nat.le_of_ble_eq_true rfl)) dX0_weigh_4 ⟨(Nat.le_trans (Nat.le_of_ble_eq_true rfl) hRc), (Nat.le_trans (Nat.le_of_ble_eq_true rfl) hRs)⟩) hS (fun q _ h => hFc q h) hFc (fun M_4 t H_2 locs ht hvm hw hB hz1 hk1 hS => ?_)
  obtain ⟨hW, hF2, hM_6, hp_5⟩ := hw
  obtain ⟨hP1, hD1⟩ := hB
  rw [ht] at hP1
  have hP : va_P D vwCl ([] ++ va_pl L M_4) H_2 := hP1
  have hD : va_D A ([] ++ va_pl L M_4) := hD1.mono hFc
  have hM_7 : M_4 oa = .inr (0, [.ref y0, .ref y1, .ref y2, .int (nI y3), .long y4]) := (hF2.at ia (by decide)).trans hMy
  have hM_8 : M_4 k1 = .inr (8, [.ref s0, .ref s1, .int s2, .int s3, .long s4, .long s5]) := (hF2.at ik1 (by decide)).trans hMs
  have hM_9 : M_4 k2 = .inr (6, [.int v1_0, .int v1_1, .ref v1_2]) := (hF2.at ik2 (by decide)).trans hM1
  have hb_10 : 0 ≤ 100 := by omega
  have hF : fr K L [7, 64, 68] M M_4 := hF.tr hF2 (by decide)
  refine lv_iconst (v := 0) hx hb dX0_weigh_7 (by decide) ?_
  refine lv_istore (lv' := [(4, .int 0), (0, .ref oa), (1, .ref k1), (2, .ref k2), (3, .int k3)]) hx hb dX0_weigh_8 hl (by decide) rfl (fun ls hl => ?_)
  obtain ⟨f11, hM11, hf11⟩ := hW.open_64 ha0
  obtain ⟨f12, hM12⟩ := hW.open_68 ha1
  have key_13 : ∀ (fu_15 : Nat) (v4w16 : Nat) (gTw16 : Nat → Option Nat) (gWw16 : Nat → Int64) (gCw16 : Nat) (M_21 : Hp) (H_22 : Heap) (locs : List Loc) (ls : Array Slot), 6 - v4w16 < fu_15 → M_21 oa = .inr (0, [.ref y0, .ref y1, .ref y2, .int (nI y3), .long y4]) → M_21 k1 = .inr (8, [.ref s0, .ref s1, .int s2, .int s3, .long s4, .long s5]) → M_21 k2 = .inr (6, [.int v1_0, .int v1_1, .ref v1_2]) → M_21 y2 = .inr (7, [.ref a0, .ref a1, .ref a2, .ref a3, .ref a4, .int (nI gCw16)]) → M_21 a0 = .inl (cy 22, 100, .inr (.inr (.inr (.inr (gTw16))))) → (∀ j, j < 100 → iskN K L (gTw16 j) 9 0) → M_21 a1 = .inl (cy 15, 100, .inr (.inl (gWw16))) → gCw16 ≤ 100 → v4w16 ≤ 6 → gCw16 = v4w16 → (∀ q : Nat, q < v4w16 → gTw16 q = sT M k1 q) → (∀ q : Nat, q < v4w16 → (gWw16 q).toInt = wtE M k1 k2 k3.toNatClampNeg q) → WOK cy K L M_21 → fr K L [7, 64, 68] M M_21 → va_P D vwCl ([] ++ va_pl L M_21) H_22 → va_D A ([] ++ va_pl L M_21) → va_S A s.heap H_22 locs → lv_has ls 6 [(4, .int (nI v4w16)), (0, .ref oa), (1, .ref k1), (2, .ref k2), (3, .int k3)] → W p l e R s m ([.ref oa, .ref k1, .ref k2, .int k3] : List Value).toArray below meth c H_22 locs 0 0 Q (F0 m 10 ls []) := by
    intro fu_15
    induction fu_15 with
    | zero => intro v4w16 gTw16 gWw16 gCw16 M_21 H_22 locs ls h; exact absurd h (Nat.not_lt_zero _)
    | succ fu_15 ih_14 =>
      intro v4w16 gTw16 gWw16 gCw16 M_21 H_22 locs ls hfu hM_23 hM_24 hM_25 hM_26 hM_27 hf_28 hM_29 hb_30 hx_17 hx_18 hx_19 hx_20 hW hF hP hD hS hl
      refine lv_iload hx hb dX0_weigh_10 (lv_at hl 0 rfl) ?_
      refine lv_bipush (v := 6) hx hb dX0_weigh_12 (by decide) ?_
      refine lv_icmp_ge (tgt := 58) hx hb dX0_weigh_14 (by decide) (fun c_31 => ?_) (fun c_31 => ?_)
      · have hz := rfl (a := 0)
        have n_32 : 6 ≤ v4w16 := (iLE (a := 6) (b := v4w16) (by omega) (by omega)).mp c_31
        have hg6 : gCw16 = 6 := by omega
        subst hg6
        rw [hQ]
        exact W.vret hx hb hr (fun t ht hW9 => ⟨⟨M_21, rfl, ⟨hW, hF, ⟨(fun q hq => by rw [RFc_of hM_27]; exact hx_19 q (by omega)), (fun q hq => by rw [LFc_of hM_29]; exact hx_20 q (by omega))⟩, hM_26, trivial⟩, ⟨by rw [ht]; exact hP, hD⟩⟩, hS.F ht⟩) hS.2.2 dX0_weigh_58
      · have hz := rfl (a := 0)
        have n_33 : ¬ (6 ≤ v4w16) := fun q => c_31 ((iLE (a := 6) (b := v4w16) (by omega) (by omega)).mpr q)
        refine lv_aload_n hx hb dX0_weigh_17 rfl (lv_at hl 2 rfl) ?_
        refine pg_get (D := D) (ci := 8) (v := .ref s0) (C := RX8) (T := TX8) (N := 6) hx hb hg inG8 hown hK hP ik1.1 hM_24 rfl 0 (by decide) (hg _ wd_212) (fun _ h9 => h9) rfl dX0_weigh_18 ?_
        refine lv_iload hx hb dX0_weigh_21 (lv_at hl 0 rfl) ?_
        obtain ⟨f34, hM34, hf34⟩ := hW.open_65 hs0
        have hi_35 : vp_in (nI v4w16) 6 := (inbN v4w16 6 (by omega) (by omega))
        refine pg_aldq hx hb hK hP hs0.1 8 hM34 rfl hi_35 dX0_weigh_23 ?_
        obtain ⟨q_36, ho_37⟩ : ∃ q : Option Nat, q = f34 ((nI v4w16) : Int32).toNatClampNeg := ⟨_, rfl⟩
        rw [← ho_37]
        have hq_38 : iskN K L q_36 9 0 := by rw [ho_37]; exact hf34 _ (vp_lt hi_35)
        rcases q_36 with _ | bq_36
        · have hz := rfl (a := 0)
          have hs9 : sT M k1 v4w16 = none := by unfold sT; rw [hsT, ← hF.at hs0 (by decide), RFc_of hM34]; have h9 := Eq.symm ho_37; rw [nI_cl (by omega)] at h9; exact h9
          refine lv_astoreN (lv' := [(5, .null), (4, .int (nI v4w16)), (0, .ref oa), (1, .ref k1), (2, .ref k2), (3, .int k3)]) hx hb dX0_weigh_24 hl (by decide) rfl (fun ls hl => ?_)
          refine lv_aload_n hx hb dX0_weigh_26 rfl (lv_at hl 2 rfl) ?_
          refine pg_get (D := D) (ci := 0) (v := .ref y2) (C := RX0) (T := TX0) (N := 5) hx hb hg inG0 hown hK hP ia.1 hM_23 rfl 2 (by decide) (hg _ wd_207) (fun _ h9 => h9) rfl dX0_weigh_27 ?_
          refine lv_aloadN hx hb dX0_weigh_30 (lv_at hl 0 rfl) ?_
          refine lv_aloadN hx hb dX0_weigh_32 (lv_at hl 0 rfl) ?_
          refine lv_ifnonnullN hx hb dX0_weigh_34 ?_
          refine lv_lconst (v := 0) hx hb dX0_weigh_37 (by decide) ?_
          refine lv_goto (tgt := 49) hx hb dX0_weigh_38 (by decide) ?_
          have hwv : (0 : Int64).toInt = wtE M k1 k2 k3.toNatClampNeg v4w16 := by rw [wtE_n hs9]; rfl
          have hPc : va_P D vwCl ([] ++ va_pl L M_21) H_22 := hP
          have hDc : va_D A ([] ++ va_pl L M_21) := hD
          have hFc : ∀ q, va_A ([] ++ va_pl L M_21) H_22.size q → A q := pg_free hDc hS hA
          refine va_callv (va_runV (As := [.null, .long 0]) (rest := []) ⟨hx, hb, hml, hown, hg⟩ (e_addq l D cy K L M_21 H_22.size y2 none 0 a0 a1 a2 a3 a4 gCw16 hW hy2 iskN.none (by omega) hM_26 ha0 ha1 ha2 ha3 ha4 hb_30) (cwV 2 hg (gV wd_213 wd_214 wd_215 wd_148 wd_216) rfl rfl rfl (by decide +kernel) ⟨(Nat.le_trans (Nat.le_of_ble_eq_true rfl) hRf), (Nat.le_trans (Nat.le_of_ble_eq_true rfl) hRl)⟩) ⟨PG.blind, pg_recv hK hP hy2.1 hM_26 rfl, fun U hU hW => ⟨rfl, PG.at hPc hK hDc hN hU hW⟩⟩ rfl rfl hl.1 rfl (lv_room (Nat.le_of_ble_eq_true rfl)) dX0_weigh_49 ⟨(Nat.le_trans (Nat.le_of_ble_eq_true rfl) hRc), (Nat.le_trans (Nat.le_of_ble_eq_true rfl) hRs)⟩) hS (fun q _ h => hFc q h) hFc (fun M_42 t H_40 locs ht hvm hw hB hz1 hk1 hS => ?_)
          obtain ⟨hW, hF2, hVP, hM_44, hp_43⟩ := hw
          obtain ⟨hP1, hD1⟩ := hB
          rw [ht] at hP1
          have hP : va_P D vwCl ([] ++ va_pl L M_42) H_40 := hP1
          have hD : va_D A ([] ++ va_pl L M_42) := hD1.mono hFc
          have hM_45 : M_42 oa = .inr (0, [.ref y0, .ref y1, .ref y2, .int (nI y3), .long y4]) := (hF2.at ia (by decide)).trans hM_23
          have hM_46 : M_42 k1 = .inr (8, [.ref s0, .ref s1, .int s2, .int s3, .long s4, .long s5]) := (hF2.at ik1 (by decide)).trans hM_24
          have hM_47 : M_42 k2 = .inr (6, [.int v1_0, .int v1_1, .ref v1_2]) := (hF2.at ik2 (by decide)).trans hM_25
          have hM_48 : M_42 s0 = .inl (cy 22, 6, .inr (.inr (.inr (.inr (f34))))) := (hF2.at hs0 (by decide)).trans hM34
          have hb_49 : (gCw16 + 1) ≤ 100 := by omega
          have hF : fr K L [7, 64, 68] M M_42 := hF.tr hF2 (by decide)
          obtain ⟨f50, hM50⟩ := hW.open_68 ha1
          obtain ⟨f51, hM51, hf51⟩ := hW.open_64 ha0
          have hvw : f50 = vp_updL gWw16 gCw16 0 := by have h9 := hVP.1; rw [LFc_of hM50, LFc_of hM_29] at h9; exact h9
          have hvt : f51 = va_up gTw16 gCw16 none := by have h9 := hVP.2; rw [RFc_of hM51, RFc_of hM_27] at h9; exact h9
          refine lv_iinc (v := (nI (v4w16 + 1))) (lv' := [(4, .int (nI (v4w16 + 1))), (5, .null), (0, .ref oa), (1, .ref k1), (2, .ref k2), (3, .int k3)]) hx hb dX0_weigh_52 hl (k := 1) rfl (nI_1 v4w16) (by decide) rfl (fun ls hl => ?_)
          refine lv_goto (tgt := 10) hx hb dX0_weigh_55 (by decide) ?_
          exact ih_14 (v4w16 + 1) f51 f50 (gCw16 + 1) M_42 H_40 _ _ (by omega) hM_45 hM_46 hM_47 hM_44 hM51 hf51 hM50 hb_49 (by omega) (by omega) (by rw [hvt, show gCw16 = v4w16 by omega]; intro q hq; by_cases z9 : q = v4w16; rw [z9, va_up_self]; exact hs9.symm; rw [va_up_ne _ _ z9]; exact hx_19 q (by omega)) (by rw [hvw, show gCw16 = v4w16 by omega]; intro q hq; by_cases z9 : q = v4w16; rw [z9, vp_updL_self]; exact hwv; rw [vp_updL_ne _ _ z9]; exact hx_20 q (by omega)) hW hF hP hD hS (lv_sub hl [0, 2, 3, 4, 5] rfl)
        · have hb_39 := hq_38 bq_36 rfl
          have hs9 : sT M k1 v4w16 = some bq_36 := by unfold sT; rw [hsT, ← hF.at hs0 (by decide), RFc_of hM34]; have h9 := (Eq.symm ho_37); rw [nI_cl (by omega)] at h9; exact h9
          refine lv_astore (lv' := [(5, .ref bq_36), (4, .int (nI v4w16)), (0, .ref oa), (1, .ref k1), (2, .ref k2), (3, .int k3)]) hx hb dX0_weigh_24 hl (by decide) rfl (fun ls hl => ?_)
          refine lv_aload_n hx hb dX0_weigh_26 rfl (lv_at hl 2 rfl) ?_
          refine pg_get (D := D) (ci := 0) (v := .ref y2) (C := RX0) (T := TX0) (N := 5) hx hb hg inG0 hown hK hP ia.1 hM_23 rfl 2 (by decide) (hg _ wd_207) (fun _ h9 => h9) rfl dX0_weigh_27 ?_
          refine lv_aload hx hb dX0_weigh_30 (lv_at hl 0 rfl) ?_
          refine lv_aload hx hb dX0_weigh_32 (lv_at hl 0 rfl) ?_
          refine lv_ifnonnull (tgt := 41) hx hb dX0_weigh_34 (by decide) ?_
          refine lv_aload_n hx hb dX0_weigh_41 rfl (lv_at hl 4 rfl) ?_
          refine lv_iload hx hb dX0_weigh_42 (lv_at hl 1 rfl) ?_
          refine lv_iload_n hx hb dX0_weigh_44 rfl (lv_at hl 5 rfl) ?_
          have hPc : va_P D vwCl ([] ++ va_pl L M_21) H_22 := hP
          have hDc : va_D A ([] ++ va_pl L M_21) := hD
          have hFc : ∀ q, va_A ([] ++ va_pl L M_21) H_22.size q → A q := pg_free hDc hS hA
          refine va_calli (va_runV (As := [.int (nI v4w16), .int k3]) (rest := [.ref bq_36, .ref y2]) ⟨hx, hb, hml, hown, hg⟩ (e_termOf l D cy K L M_21 H_22.size k2 (nI v4w16) k3  hW ik2) (cwV 2 hg (gV wd_217 wd_136 wd_137 wd_97 wd_138) rfl rfl rfl (by decide +kernel) ⟨(Nat.le_trans (Nat.le_of_ble_eq_true rfl) hRf), (Nat.le_trans (Nat.le_of_ble_eq_true rfl) hRl)⟩) ⟨PG.blind, pg_recv hK hP ik2.1 hM_25 rfl, fun U hU hW => ⟨rfl, PG.at hPc hK hDc hN hU hW⟩⟩ rfl rfl hl.1 rfl (lv_room (Nat.le_of_ble_eq_true rfl)) dX0_weigh_45 ⟨(Nat.le_trans (Nat.le_of_ble_eq_true rfl) hRc), (Nat.le_trans (Nat.le_of_ble_eq_true rfl) hRs)⟩) hS (fun q _ h => hFc q h) hFc (fun r_53 M_54 t H_52 locs ht hvm hw hB hz1 hk1 hS => ?_)
          have hp_55 := hw
          obtain ⟨hP1, hD1⟩ := hB
          rw [ht] at hP1
          have hP : va_P D vwCl ([] ++ va_pl L M_21) H_52 := hP1
          have hD : va_D A ([] ++ va_pl L M_21) := hD1.mono hFc
          obtain ⟨vr_56, hr_58, c_57⟩ := hp_55
          have hq := Eq.symm hr_58
          subst hq
          have htv : (vr_56 : Int32).toInt = tR M k2 k3.toNatClampNeg v4w16 := by rw [c_57, trV_e (hF.at ik2 (by decide)) (by rw [hyr]; exact hF.at h1_2 (by decide))]; have h9 := trV_R (M := M) (r := k2) (w := k3.toNatClampNeg) (q := v4w16) hk3n.1 (by omega); rw [← hk3n.2] at h9; exact h9
          refine lv_i2l hx hb dX0_weigh_48 rfl ?_
          refine lv_topl (fun f_59 ef_59 => ?_)
          have hwv : (f_59 : Int64).toInt = wtE M k1 k2 k3.toNatClampNeg v4w16 := by rw [wtE_y hs9, ef_59, Int32.toInt_toInt64, htv]
          have hPc : va_P D vwCl ([] ++ va_pl L M_21) H_52 := hP
          have hDc : va_D A ([] ++ va_pl L M_21) := hD
          have hFc : ∀ q, va_A ([] ++ va_pl L M_21) H_52.size q → A q := pg_free hDc hS hA
          refine va_callv (va_runV (As := [.ref bq_36, .long f_59]) (rest := []) ⟨hx, hb, hml, hown, hg⟩ (e_addq l D cy K L M_21 H_52.size y2 (some bq_36) f_59 a0 a1 a2 a3 a4 gCw16 hW hy2 (iskN.some hb_39) (by omega) hM_26 ha0 ha1 ha2 ha3 ha4 hb_30) (cwV 2 hg (gV wd_213 wd_214 wd_215 wd_148 wd_216) rfl rfl rfl (by decide +kernel) ⟨(Nat.le_trans (Nat.le_of_ble_eq_true rfl) hRf), (Nat.le_trans (Nat.le_of_ble_eq_true rfl) hRl)⟩) ⟨PG.blind, pg_recv hK hP hy2.1 hM_26 rfl, fun U hU hW => ⟨rfl, PG.at hPc hK hDc hN hU hW⟩⟩ rfl rfl hl.1 rfl (lv_room (Nat.le_of_ble_eq_true rfl)) dX0_weigh_49 ⟨(Nat.le_trans (Nat.le_of_ble_eq_true rfl) hRc), (Nat.le_trans (Nat.le_of_ble_eq_true rfl) hRs)⟩) hS (fun q _ h => hFc q h) hFc (fun M_62 t H_60 locs ht hvm hw hB hz1 hk1 hS => ?_)
          obtain ⟨hW, hF2, hVP, hM_64, hp_63⟩ := hw
          obtain ⟨hP1, hD1⟩ := hB
          rw [ht] at hP1
          have hP : va_P D vwCl ([] ++ va_pl L M_62) H_60 := hP1
          have hD : va_D A ([] ++ va_pl L M_62) := hD1.mono hFc
          have hM_65 : M_62 oa = .inr (0, [.ref y0, .ref y1, .ref y2, .int (nI y3), .long y4]) := (hF2.at ia (by decide)).trans hM_23
          have hM_66 : M_62 k1 = .inr (8, [.ref s0, .ref s1, .int s2, .int s3, .long s4, .long s5]) := (hF2.at ik1 (by decide)).trans hM_24
          have hM_67 : M_62 k2 = .inr (6, [.int v1_0, .int v1_1, .ref v1_2]) := (hF2.at ik2 (by decide)).trans hM_25
          have hM_68 : M_62 s0 = .inl (cy 22, 6, .inr (.inr (.inr (.inr (f34))))) := (hF2.at hs0 (by decide)).trans hM34
          have hb_69 : (gCw16 + 1) ≤ 100 := by omega
          have hF : fr K L [7, 64, 68] M M_62 := hF.tr hF2 (by decide)
          obtain ⟨f70, hM70⟩ := hW.open_68 ha1
          obtain ⟨f71, hM71, hf71⟩ := hW.open_64 ha0
          have hvw : f70 = vp_updL gWw16 gCw16 f_59 := by have h9 := hVP.1; rw [LFc_of hM70, LFc_of hM_29] at h9; exact h9
          have hvt : f71 = va_up gTw16 gCw16 (some bq_36) := by have h9 := hVP.2; rw [RFc_of hM71, RFc_of hM_27] at h9; exact h9
          refine lv_iinc (v := (nI (v4w16 + 1))) (lv' := [(4, .int (nI (v4w16 + 1))), (5, .ref bq_36), (0, .ref oa), (1, .ref k1), (2, .ref k2), (3, .int k3)]) hx hb dX0_weigh_52 hl (k := 1) rfl (nI_1 v4w16) (by decide) rfl (fun ls hl => ?_)
          refine lv_goto (tgt := 10) hx hb dX0_weigh_55 (by decide) ?_
          exact ih_14 (v4w16 + 1) f71 f70 (gCw16 + 1) M_62 H_60 _ _ (by omega) hM_65 hM_66 hM_67 hM_64 hM71 hf71 hM70 hb_69 (by omega) (by omega) (by rw [hvt, show gCw16 = v4w16 by omega]; intro q hq; by_cases z9 : q = v4w16; rw [z9, va_up_self]; exact hs9.symm; rw [va_up_ne _ _ z9]; exact hx_19 q (by omega)) (by rw [hvw, show gCw16 = v4w16 by omega]; intro q hq; by_cases z9 : q = v4w16; rw [z9, vp_updL_self]; exact hwv; rw [vp_updL_ne _ _ z9]; exact hx_20 q (by omega)) hW hF hP hD hS (lv_sub hl [0, 2, 3, 4, 5] rfl)
  exact key_13 (6 - 0 + 1) 0 f11 f12 0 M_4 H_2 _ _ (by omega) hM_7 hM_8 hM_9 hM_6 hM11 hf11 hM12 hb_10 (by omega) (by omega) (fun q h => absurd h (Nat.not_lt_zero _)) (fun q h => absurd h (Nat.not_lt_zero _)) hW hF hP hD hS (lv_sub hl [0, 1, 2, 3, 4] rfl)
set_option maxHeartbeats 4000000 in
set_option maxRecDepth 100000 in
theorem e_gain (l : Launch) (D : va_G) (cy : Nat → ClassId) (K : Kp) (L : List Nat) (M : Hp) (sz : Nat) (oa : Nat) (k1 : Nat) (k2 : Nat) (k3 : Int64) (y0 : Nat) (y1 : Nat) (y2 : Nat) (y3 : Nat) (y4 : Int64) (s0 : Nat) (s1 : Nat) (s2 : Int32) (s3 : Int32) (s4 : Int64) (s5 : Int64) (a0 : Nat) (a1 : Nat) (a2 : Nat) (a3 : Nat) (a4 : Nat) (a5 : Nat) (hW : WOK cy K L M) (ia : isk K L oa 0 0) (ik1 : isk K L k1 8 0) (ik2 : isk K L k2 6 0) (hTB : (∀ q : Nat, q < 6 → 0 ≤ tR M k2 2 q ∧ tR M k2 2 q ≤ 1000)) (hk3 : (0 ≤ k3.toInt ∧ k3.toInt ≤ 1000000000000000)) (hUB : (∀ q : Nat, q < 6 → -1000000000000000 ≤ (LFc (M s1) q).toInt ∧ (LFc (M s1) q).toInt ≤ 1000000000000000)) (hMy : M oa = .inr (0, [.ref y0, .ref y1, .ref y2, .int (nI y3), .long y4])) (hy0 : isk K L y0 21 120) (hy1 : isk K L y1 66 100) (hy2 : isk K L y2 7 0) (hy3 : y3 ≤ 120) (hMs : M k1 = .inr (8, [.ref s0, .ref s1, .int s2, .int s3, .long s4, .long s5])) (hs0 : isk K L s0 65 6) (hs1 : isk K L s1 72 6) (hMa : M y2 = .inr (7, [.ref a0, .ref a1, .ref a2, .ref a3, .ref a4, .int (nI a5)])) (ha0 : isk K L a0 64 100) (ha1 : isk K L a1 68 100) (ha2 : isk K L a2 69 100) (ha3 : isk K L a3 70 100) (ha4 : isk K L a4 71 100) (ha5 : a5 ≤ 100) : Met l yX0_shareGain (wsM yX0_shareGain cX0_shareGain 6 none) ({ frames := 3, cells := 0, slots := 0, locals := 68 }) (va_Pc [.ref oa, .ref k1, .ref k2, .long k3] (PG D cy [] L M sz)) (va_Qv (fun (M9 : Hp) => WOK cy K L M9 ∧ fr K L [7, 8, 64, 68, 69, 70, 72] M M9 ∧ ONL 8 K L (fun b => b = k1) M M9 ∧ ONL 72 K L (fun b => b = s1) M M9 ∧ (((∀ q : Nat, q < 6 → (LFc (M9 s1) q).toInt = (LFc (M s1) q).toInt + cutQ k3.toInt (wtE M k1 k2 2) 6 q) ∧ ∃ v5 : Int64, M9 k1 = .inr (8, [.ref s0, .ref s1, .int s2, .int s3, .long s4, .long v5]) ∧ v5.toInt = if sumI (wtE M k1 k2 2) 6 = 0 then k3.toInt else 0)) ∧ (True)) (fun M9 t => PQ D [] L M9 (va_A ([] ++ va_pl L M) sz) t) (va_A ([] ++ va_pl L M) sz)) 0 0 (va_A ([] ++ va_pl L M) sz) := by
  refine Met.ofW (cc := cX0_shareGain) (maxL := 6) (ret := none) (by decide) rfl ?_
  intro p e s m args below meth c s₁ B hml hv
  obtain ⟨rfl, hsz, hP, hK, hD0, hN⟩ := hv
  have hx := B.exec
  have hb := B.bytes
  have hr := B.returns
  have hts := atoms_spec (ws := (wsM yX0_shareGain cX0_shareGain 6 none)) B.pre
  have hg : ∀ w ∈ lw_good, w.before _ s = true := fun w h => hts w (List.mem_cons_of_mem _ h)
  have hown : s.vm.findClass RX0 = some m.cls := findClass_of_methodNamed B.named
  have hlocks := B.notSynchronized
  subst hsz
  have hD := hD0.self (sz := s.heap.size)
  generalize hAe : va_A ([] ++ va_pl L M) s.heap.size = A at hD ⊢
  have hA : ∀ q : Nat, s.heap.size ≤ q → A q := fun q h => by rw [← hAe]; exact Or.inr h
  have hS : va_S A s.heap s.heap [] := va_S.rf
  have hl := lv_entry ([.ref oa, .ref k1, .ref k2, .long k3]) (n := 6) (Nat.le_of_ble_eq_true rfl)
  rw [lg_entry_eq]
  generalize (lg_sl ([.ref oa, .ref k1, .ref k2, .long k3]) ++ List.replicate (6 - (lg_sl ([.ref oa, .ref k1, .ref k2, .long k3])).length) Slot.unset).toArray = ls at hl ⊢
  refine W.nameQ (fun Q hQ => ?_)
  refine W.nameR (fun R hR => ?_)
  have hRf : 3 ≤ R.frames := by rw [hR]; exact Nat.le_of_ble_eq_true rfl
  have hRl : 68 ≤ R.locals := by rw [hR]; exact Nat.le_of_ble_eq_true rfl
  have hRc : 0 ≤ R.cells := by rw [hR]; exact Nat.le_of_ble_eq_true rfl
  have hRs : 0 ≤ R.slots := by rw [hR]; exact Nat.le_of_ble_eq_true rfl
  have hF : fr K L [7, 8, 64, 68, 69, 70, 72] M M := fr.rf
  have hO8 : ONL 8 K L (fun b => b = k1) M M := ONL.rf
  have hO72 : ONL 72 K L (fun b => b = s1) M M := ONL.rf
  have hl : lv_has ls 6 [(0, .ref oa), (1, .ref k1), (2, .ref k2), (3, .long k3)] := hl
  obtain ⟨f1, hM1⟩ := hW.open_72 hs1
  have hD0 : ∀ q : Nat, (f1 q).toInt = (LFc (M s1) q).toInt := fun q => by rw [LFc_of hM1]
  have hwb : ∀ q : Nat, q < 6 → 0 ≤ (wtE M k1 k2 2) q ∧ (wtE M k1 k2 2) q ≤ 1000 := fun q hq => wtE_b (hTB q hq)
  have hw0 : ∀ q : Nat, q < 6 → 0 ≤ (wtE M k1 k2 2) q := fun q hq => (hwb q hq).1
  have hsw := sumI_nn 6 hw0
  refine lv_aload_n hx hb dX0_shareGain_0 rfl (lv_at hl 0 rfl) ?_
  refine lv_aload_n hx hb dX0_shareGain_1 rfl (lv_at hl 1 rfl) ?_
  refine lv_aload_n hx hb dX0_shareGain_2 rfl (lv_at hl 2 rfl) ?_
  refine lv_iconst (v := 2) hx hb dX0_shareGain_3 (by decide) ?_
  have hPc : va_P D vwCl ([] ++ va_pl L M) s.heap := hP
  have hDc : va_D A ([] ++ va_pl L M) := hD
  have hFc : ∀ q, va_A ([] ++ va_pl L M) s.heap.size q → A q := pg_free hDc hS hA
  refine va_callv (va_runV (As := [.ref k1, .ref k2, .int 2]) (rest := []) ⟨hx, hb, hml, hown, hg⟩ (e_weigh l D cy K L M s.heap.size oa k1 k2 2 y0 y1 y2 y3 y4 s0 s1 s2 s3 s4 s5 a0 a1 a2 a3 a4 a5 hW ia ik1 ik2 (Or.inl rfl) hMy hy0 hy1 hy2 hy3 hMs hs0 hs1 hMa ha0 ha1 ha2 ha3 ha4 ha5) (cwV 3 hg (gV wd_239 wd_240 wd_241 wd_204 wd_242) rfl rfl rfl (by decide +kernel) ⟨(Nat.le_trans (Nat.le_of_ble_eq_true rfl) hRf), (Nat.le_trans (Nat.le_of_ble_eq_true rfl) hRl)⟩) ⟨PG.blind, pg_recv hK hP ia.1 hMy rfl, fun U hU hW => ⟨rfl, PG.at hPc hK hDc hN hU hW⟩⟩ rfl rfl hl.1 rfl (lv_room (Nat.le_of_ble_eq_true rfl)) dX0_shareGain_4 ⟨(Nat.le_trans (Nat.le_of_ble_eq_true rfl) hRc), (Nat.le_trans (Nat.le_of_ble_eq_true rfl) hRs)⟩) hS (fun q _ h => hFc q h) hFc (fun M_4 t H_2 locs ht hvm hw hB hz1 hk1 hS => ?_)
  obtain ⟨hW, hF2, hVP, hM_6, hp_5⟩ := hw
  obtain ⟨hP1, hD1⟩ := hB
  rw [ht] at hP1
  have hP : va_P D vwCl ([] ++ va_pl L M_4) H_2 := hP1
  have hD : va_D A ([] ++ va_pl L M_4) := hD1.mono hFc
  have hM_7 : M_4 oa = .inr (0, [.ref y0, .ref y1, .ref y2, .int (nI y3), .long y4]) := (hF2.at ia (by decide)).trans hMy
  have hM_8 : M_4 k1 = .inr (8, [.ref s0, .ref s1, .int s2, .int s3, .long s4, .long s5]) := (hF2.at ik1 (by decide)).trans hMs
  have hM_9 : M_4 s1 = .inl (cy 15, 6, .inr (.inl (f1))) := (hF2.at hs1 (by decide)).trans hM1
  have hb_10 : 6 ≤ 100 := by omega
  have hF : fr K L [7, 8, 64, 68, 69, 70, 72] M M_4 := hF.tr hF2 (by decide)
  have hO8 : ONL 8 K L (fun b => b = k1) M M_4 := hO8.frr hF2 (by decide)
  have hO72 : ONL 72 K L (fun b => b = s1) M M_4 := hO72.frr hF2 (by decide)
  obtain ⟨f11, hM11⟩ := hW.open_68 ha1
  have hFw := hF2
  have hVw := hVP
  have hWw : ∀ j : Nat, j < 6 → wI (LFc (M_4 a1)) j = (wtE M k1 k2 2) j := hVw.2
  refine lv_aload_n hx hb dX0_shareGain_7 rfl (lv_at hl 1 rfl) ?_
  refine lv_lload_n hx hb dX0_shareGain_8 rfl (lv_at hl 3 rfl) ?_
  refine lv_aload_n hx hb dX0_shareGain_9 rfl (lv_at hl 0 rfl) ?_
  refine pg_get (D := D) (ci := 0) (v := .ref y2) (C := RX0) (T := TX0) (N := 5) hx hb hg inG0 hown hK hP ia.1 hM_7 rfl 2 (by decide) (hg _ wd_207) (fun _ h9 => h9) rfl dX0_shareGain_10 ?_
  refine lv_lload_n hx hb dX0_shareGain_13 rfl (lv_at hl 3 rfl) ?_
  have hPc : va_P D vwCl ([] ++ va_pl L M_4) H_2 := hP
  have hDc : va_D A ([] ++ va_pl L M_4) := hD
  have hFc : ∀ q, va_A ([] ++ va_pl L M_4) H_2.size q → A q := pg_free hDc hS hA
  refine va_calll (va_runV (As := [.long k3]) (rest := [.long k3, .ref k1]) ⟨hx, hb, hml, hown, hg⟩ (e_cutP l D cy K L M_4 H_2.size y2 k3 a0 a1 a2 a3 a4 6 hW hy2 (fun j hj => by rw [hWw j hj]; exact hwb j hj) (by omega) hM_6 ha0 ha1 ha2 ha3 ha4 hb_10) (cwV 1 hg (gV wd_243 wd_162 wd_163 wd_148 wd_164) rfl rfl rfl (by decide +kernel) ⟨(Nat.le_trans (Nat.le_of_ble_eq_true rfl) hRf), (Nat.le_trans (Nat.le_of_ble_eq_true rfl) hRl)⟩) ⟨PG.blind, pg_recv hK hP hy2.1 hM_6 rfl, fun U hU hW => ⟨rfl, PG.at hPc hK hDc hN hU hW⟩⟩ rfl rfl hl.1 rfl (lv_room (Nat.le_of_ble_eq_true rfl)) dX0_shareGain_14 ⟨(Nat.le_trans (Nat.le_of_ble_eq_true rfl) hRc), (Nat.le_trans (Nat.le_of_ble_eq_true rfl) hRs)⟩) hS (fun q _ h => hFc q h) hFc (fun r_13 M_14 t H_12 locs ht hvm hw hB hz1 hk1 hS => ?_)
  obtain ⟨hW, hF2, hVP, hp_15⟩ := hw
  obtain ⟨hP1, hD1⟩ := hB
  rw [ht] at hP1
  have hP : va_P D vwCl ([] ++ va_pl L M_14) H_12 := hP1
  have hD : va_D A ([] ++ va_pl L M_14) := hD1.mono hFc
  have hM_16 : M_14 oa = .inr (0, [.ref y0, .ref y1, .ref y2, .int (nI y3), .long y4]) := (hF2.at ia (by decide)).trans hM_7
  have hM_17 : M_14 k1 = .inr (8, [.ref s0, .ref s1, .int s2, .int s3, .long s4, .long s5]) := (hF2.at ik1 (by decide)).trans hM_8
  have hM_18 : M_14 s1 = .inl (cy 15, 6, .inr (.inl (f1))) := (hF2.at hs1 (by decide)).trans hM_9
  have hM_19 : M_14 y2 = .inr (7, [.ref a0, .ref a1, .ref a2, .ref a3, .ref a4, .int (nI 6)]) := (hF2.at hy2 (by decide)).trans hM_6
  have hM_20 : M_14 a1 = .inl (cy 15, 100, .inr (.inl (f11))) := (hF2.at ha1 (by decide)).trans hM11
  have hF : fr K L [7, 8, 64, 68, 69, 70, 72] M M_14 := hF.tr hF2 (by decide)
  have hO8 : ONL 8 K L (fun b => b = k1) M M_14 := hO8.frr hF2 (by decide)
  have hO72 : ONL 72 K L (fun b => b = s1) M M_14 := hO72.frr hF2 (by decide)
  obtain ⟨vr_21, hr_23, c_22⟩ := hp_15
  have hq := Eq.symm hr_23
  subst hq
  have hsq : sumI (wI (LFc (M_4 a1))) 6 = sumI (wtE M k1 k2 2) 6 := sumI_cg 6 hWw
  have hcv : vr_21 = if sumI (wtE M k1 k2 2) 6 = 0 then 0 else k3 := by rw [← hsq]; exact c_22
  have hpt : ∀ j : Nat, j < 6 → (LFc (M_14 a2) j).toInt = cutQ k3.toInt (wtE M k1 k2 2) 6 j := fun j hj => by have h9 := CUTP.q hVP hk3.1 (by rw [hsq]; exact hsw) j hj; rw [cutQ_cg hWw hj] at h9; exact h9
  obtain ⟨f24, hM24⟩ := hW.open_69 ha2
  have hpf : ∀ j : Nat, j < 6 → (f24 j).toInt = cutQ k3.toInt (wtE M k1 k2 2) 6 j := fun j hj => by rw [← hpt j hj, LFc_of hM24]
  refine lv_lsub hx hb dX0_shareGain_17 ?_
  refine lv_topl (fun f_25 ef_25 => ?_)
  have hnb : (f_25 : Int64).toInt = if sumI (wtE M k1 k2 2) 6 = 0 then k3.toInt else 0 := by rw [ef_25, hcv]; by_cases z9 : sumI (wtE M k1 k2 2) 6 = 0; rw [if_pos z9, if_pos z9, Int64.sub_zero]; rw [if_neg z9, if_neg z9, Int64.sub_self]; rfl
  refine pg_put (D := D) (ci := 8) (v := .long f_25) (ty := .long) (C := RX8) (T := TX8) (N := 6) hx hb hg inG8 tyX8 tyX8_ok nmX8 hown hK hP hD hS ik1.1 hM_17 rfl 5 (by decide) (hg _ wd_206) (fun _ h9 => h9) rfl (by decide +kernel) rfl rfl (Nat.le_of_ble_eq_true rfl) dX0_shareGain_18 (fun H_26 locs hP hD hS => ?_)
  obtain ⟨M_27, eM_27⟩ : ∃ M1 : Hp, M1 = va_up M_14 k1 (.inr (8, [.ref s0, .ref s1, .int s2, .int s3, .long s4, .long f_25])) := ⟨_, rfl⟩
  have hP : va_P D vwCl ([] ++ va_pl L M_27) H_26 := by rw [eM_27]; exact hP
  have hD : va_D A ([] ++ va_pl L M_27) := by rw [eM_27]; exact hD
  have hW : WOK cy K L M_27 := by rw [eM_27]; exact hW.up_8 ik1 ⟨s0, s1, s2, s3, s4, f_25, rfl, hs0, hs1⟩
  have hF : fr K L [7, 8, 64, 68, 69, 70, 72] M M_27 := by rw [eM_27]; exact hF.up ik1 (by decide)
  have hO8 : ONL 8 K L (fun b => b = k1) M M_27 := by rw [eM_27]; exact hO8.upS ((fun _ => rfl))
  have hO72 : ONL 72 K L (fun b => b = s1) M M_27 := by rw [eM_27]; exact hO72.up ik1 (by decide)
  have hM_28 : M_27 k1 = .inr (8, [.ref s0, .ref s1, .int s2, .int s3, .long s4, .long f_25]) := by rw [eM_27]; exact va_up_self _ _ _
  have hM_29 : M_27 oa = .inr (0, [.ref y0, .ref y1, .ref y2, .int (nI y3), .long y4]) := by rw [eM_27, va_up_ne _ _ (ia.neT ik1 (by decide))]; exact hM_16
  have hM_30 : M_27 s1 = .inl (cy 15, 6, .inr (.inl (f1))) := by rw [eM_27, va_up_ne _ _ (hs1.neT ik1 (by decide))]; exact hM_18
  have hM_31 : M_27 y2 = .inr (7, [.ref a0, .ref a1, .ref a2, .ref a3, .ref a4, .int (nI 6)]) := by rw [eM_27, va_up_ne _ _ (hy2.neT ik1 (by decide))]; exact hM_19
  have hM_32 : M_27 a1 = .inl (cy 15, 100, .inr (.inl (f11))) := by rw [eM_27, va_up_ne _ _ (ha1.neT ik1 (by decide))]; exact hM_20
  have hM_33 : M_27 a2 = .inl (cy 15, 100, .inr (.inl (f24))) := by rw [eM_27, va_up_ne _ _ (ha2.neT ik1 (by decide))]; exact hM24
  refine lv_iconst (v := 0) hx hb dX0_shareGain_21 (by decide) ?_
  refine lv_istore (lv' := [(5, .int 0), (0, .ref oa), (1, .ref k1), (2, .ref k2), (3, .long k3)]) hx hb dX0_shareGain_22 hl (by decide) rfl (fun ls hl => ?_)
  have key_34 : ∀ (fu_36 : Nat) (v5w37 : Nat) (gDw37 : Nat → Int64) (M_41 : Hp) (H_42 : Heap) (locs : List Loc) (ls : Array Slot), 6 - v5w37 < fu_36 → M_41 oa = .inr (0, [.ref y0, .ref y1, .ref y2, .int (nI y3), .long y4]) → M_41 k1 = .inr (8, [.ref s0, .ref s1, .int s2, .int s3, .long s4, .long f_25]) → M_41 y2 = .inr (7, [.ref a0, .ref a1, .ref a2, .ref a3, .ref a4, .int (nI 6)]) → M_41 a2 = .inl (cy 15, 100, .inr (.inl (f24))) → M_41 s1 = .inl (cy 15, 6, .inr (.inl (gDw37))) → v5w37 ≤ 6 → (∀ q : Nat, q < v5w37 → (gDw37 q).toInt = (LFc (M s1) q).toInt + cutQ k3.toInt (wtE M k1 k2 2) 6 q) → (∀ q : Nat, v5w37 ≤ q → q < 6 → (gDw37 q).toInt = (LFc (M s1) q).toInt) → WOK cy K L M_41 → fr K L [7, 8, 64, 68, 69, 70, 72] M M_41 → ONL 8 K L (fun b => b = k1) M M_41 → ONL 72 K L (fun b => b = s1) M M_41 → va_P D vwCl ([] ++ va_pl L M_41) H_42 → va_D A ([] ++ va_pl L M_41) → va_S A s.heap H_42 locs → lv_has ls 6 [(5, .int (nI v5w37)), (0, .ref oa), (1, .ref k1), (2, .ref k2), (3, .long k3)] → W p l e R s m ([.ref oa, .ref k1, .ref k2, .long k3] : List Value).toArray below meth c H_42 locs 0 0 Q (F0 m 24 ls []) := by
    intro fu_36
    induction fu_36 with
    | zero => intro v5w37 gDw37 M_41 H_42 locs ls h; exact absurd h (Nat.not_lt_zero _)
    | succ fu_36 ih_35 =>
      intro v5w37 gDw37 M_41 H_42 locs ls hfu hM_43 hM_44 hM_45 hM_46 hM_47 hx_38 hx_39 hx_40 hW hF hO8 hO72 hP hD hS hl
      refine lv_iload hx hb dX0_shareGain_24 (lv_at hl 0 rfl) ?_
      refine lv_bipush (v := 6) hx hb dX0_shareGain_26 (by decide) ?_
      refine lv_icmp_ge (tgt := 57) hx hb dX0_shareGain_28 (by decide) (fun c_48 => ?_) (fun c_48 => ?_)
      · have hz := rfl (a := 0)
        have n_49 : 6 ≤ v5w37 := (iLE (a := 6) (b := v5w37) (by omega) (by omega)).mp c_48
        rw [hQ]
        exact W.vret hx hb hr (fun t ht hW9 => ⟨⟨M_41, rfl, ⟨hW, hF, hO8, hO72, ⟨(fun q hq => by rw [LFc_of hM_47]; exact hx_39 q (by omega)), ⟨_, hM_44, hnb⟩⟩, trivial⟩, ⟨by rw [ht]; exact hP, hD⟩⟩, hS.F ht⟩) hS.2.2 dX0_shareGain_57
      · have hz := rfl (a := 0)
        have n_50 : ¬ (6 ≤ v5w37) := fun q => c_48 ((iLE (a := 6) (b := v5w37) (by omega) (by omega)).mpr q)
        refine lv_aload_n hx hb dX0_shareGain_31 rfl (lv_at hl 2 rfl) ?_
        refine pg_get (D := D) (ci := 8) (v := .ref s1) (C := RX8) (T := TX8) (N := 6) hx hb hg inG8 hown hK hP ik1.1 hM_44 rfl 1 (by decide) (hg _ wd_221) (fun _ h9 => h9) rfl dX0_shareGain_32 ?_
        refine lv_iload hx hb dX0_shareGain_35 (lv_at hl 0 rfl) ?_
        refine lv_dup2_11 hx hb dX0_shareGain_37 rfl rfl ?_
        refine pg_lald hx hb hK hP hs1.1 1 hM_47 rfl (inbN v5w37 6 (by omega) (by omega)) dX0_shareGain_38 ?_
        refine lv_topl (fun f_51 ef_51 => ?_)
        have hdv : (f_51 : Int64).toInt = (LFc (M s1) v5w37).toInt := by rw [ef_51, nI_cl (by omega)]; exact hx_40 v5w37 (by omega) (by omega)
        refine lv_aload_n hx hb dX0_shareGain_39 rfl (lv_at hl 1 rfl) ?_
        refine pg_get (D := D) (ci := 0) (v := .ref y2) (C := RX0) (T := TX0) (N := 5) hx hb hg inG0 hown hK hP ia.1 hM_43 rfl 2 (by decide) (hg _ wd_207) (fun _ h9 => h9) rfl dX0_shareGain_40 ?_
        refine pg_get (D := D) (ci := 7) (v := .ref a2) (C := RX7) (T := TX7) (N := 6) hx hb hg inG7 hown hK hP hy2.1 hM_45 rfl 2 (by decide) (hg _ wd_244) (fun _ h9 => h9) rfl dX0_shareGain_43 ?_
        refine lv_iload hx hb dX0_shareGain_46 (lv_at hl 0 rfl) ?_
        refine pg_lald hx hb hK hP ha2.1 1 hM_46 rfl (inbN v5w37 100 (by omega) (by omega)) dX0_shareGain_48 ?_
        refine lv_topl (fun f_52 ef_52 => ?_)
        have hpv : (f_52 : Int64).toInt = cutQ k3.toInt (wtE M k1 k2 2) 6 v5w37 := by rw [ef_52, nI_cl (by omega)]; exact hpf v5w37 (by omega)
        refine lv_ladd hx hb dX0_shareGain_49 ?_
        refine lv_topl (fun f_53 ef_53 => ?_)
        have hu9 := hUB v5w37 (by omega)
        have hc9 := cutQ_b (s := k3.toInt) hk3.1 hw0 (show v5w37 < 6 by omega)
        have hsv : (f_53 : Int64).toInt = (LFc (M s1) v5w37).toInt + cutQ k3.toInt (wtE M k1 k2 2) 6 v5w37 := by have h9 := lA ef_53 (by rw [hdv, hpv]; omega) (by rw [hdv, hpv]; omega); rw [hdv, hpv] at h9; exact h9
        refine pg_last hx hb hK hP hD hS hs1.1 1 hM_47 rfl (inbN v5w37 6 (by omega) (by omega)) dX0_shareGain_50 (fun H_54 locs hP hD hS => ?_)
        obtain ⟨M_55, eM_55⟩ : ∃ M1 : Hp, M1 = va_up M_41 s1 (.inl (cy 15, 6, .inr (.inl (vp_updL gDw37 ((nI v5w37) : Int32).toNatClampNeg f_53)))) := ⟨_, rfl⟩
        have hP : va_P D vwCl ([] ++ va_pl L M_55) H_54 := by rw [eM_55]; exact hP
        have hD : va_D A ([] ++ va_pl L M_55) := by rw [eM_55]; exact hD
        have hW : WOK cy K L M_55 := by rw [eM_55]; exact hW.up_72 hs1 ⟨_, rfl⟩
        have hF : fr K L [7, 8, 64, 68, 69, 70, 72] M M_55 := by rw [eM_55]; exact hF.up hs1 (by decide)
        have hO8 : ONL 8 K L (fun b => b = k1) M M_55 := by rw [eM_55]; exact hO8.up hs1 (by decide)
        have hO72 : ONL 72 K L (fun b => b = s1) M M_55 := by rw [eM_55]; exact hO72.upS ((fun _ => rfl))
        have hM_56 : M_55 s1 = .inl (cy 15, 6, .inr (.inl (vp_updL gDw37 ((nI v5w37) : Int32).toNatClampNeg f_53))) := by rw [eM_55]; exact va_up_self _ _ _
        have hM_57 : M_55 oa = .inr (0, [.ref y0, .ref y1, .ref y2, .int (nI y3), .long y4]) := by rw [eM_55, va_up_ne _ _ (ia.neT hs1 (by decide))]; exact hM_43
        have hM_58 : M_55 k1 = .inr (8, [.ref s0, .ref s1, .int s2, .int s3, .long s4, .long f_25]) := by rw [eM_55, va_up_ne _ _ (ik1.neT hs1 (by decide))]; exact hM_44
        have hM_59 : M_55 y2 = .inr (7, [.ref a0, .ref a1, .ref a2, .ref a3, .ref a4, .int (nI 6)]) := by rw [eM_55, va_up_ne _ _ (hy2.neT hs1 (by decide))]; exact hM_45
        have hM_60 : M_55 a2 = .inl (cy 15, 100, .inr (.inl (f24))) := by rw [eM_55, va_up_ne _ _ (ha2.neT hs1 (by decide))]; exact hM_46
        obtain ⟨f_61, ef_61⟩ : ∃ f : Nat → Int64, f = vp_updL gDw37 ((nI v5w37) : Int32).toNatClampNeg f_53 := ⟨_, rfl⟩
        rw [← ef_61] at hM_56
        refine lv_iinc (v := (nI (v5w37 + 1))) (lv' := [(5, .int (nI (v5w37 + 1))), (0, .ref oa), (1, .ref k1), (2, .ref k2), (3, .long k3)]) hx hb dX0_shareGain_51 hl (k := 0) rfl (nI_1 v5w37) (by decide) rfl (fun ls hl => ?_)
        refine lv_goto (tgt := 24) hx hb dX0_shareGain_54 (by decide) ?_
        exact ih_35 (v5w37 + 1) f_61 M_55 H_54 _ _ (by omega) hM_57 hM_58 hM_59 hM_60 hM_56 (by omega) (by rw [ef_61, nI_cl (by omega)]; intro q hq; by_cases z9 : q = v5w37; rw [z9, vp_updL_self]; exact hsv; rw [vp_updL_ne _ _ z9]; exact hx_39 q (by omega)) (by rw [ef_61, nI_cl (by omega)]; intro q hq hq2; rw [vp_updL_ne _ _ (by omega)]; exact hx_40 q (by omega) hq2) hW hF hO8 hO72 hP hD hS (lv_sub hl [0, 1, 2, 3, 4] rfl)
  exact key_34 (6 - 0 + 1) 0 f1 M_27 H_26 _ _ (by omega) hM_29 hM_28 hM_31 hM_33 hM_30 (by omega) (fun q h => absurd h (Nat.not_lt_zero _)) (fun q _ hq => hD0 q) hW hF hO8 hO72 hP hD hS (lv_sub hl [0, 1, 2, 3, 4] rfl)
set_option maxHeartbeats 4000000 in
set_option maxRecDepth 100000 in
theorem e_lack (l : Launch) (D : va_G) (cy : Nat → ClassId) (K : Kp) (L : List Nat) (M : Hp) (sz : Nat) (oa : Nat) (k1 : Nat) (k2 : Nat) (k3 : Int64) (y0 : Nat) (y1 : Nat) (y2 : Nat) (y3 : Nat) (y4 : Int64) (s0 : Nat) (s1 : Nat) (s2 : Int32) (s3 : Int32) (s4 : Int64) (s5 : Int64) (a0 : Nat) (a1 : Nat) (a2 : Nat) (a3 : Nat) (a4 : Nat) (a5 : Nat) (hW : WOK cy K L M) (ia : isk K L oa 0 0) (ik1 : isk K L k1 8 0) (ik2 : isk K L k2 6 0) (hTB : (∀ q : Nat, q < 6 → 0 ≤ tR M k2 3 q ∧ tR M k2 3 q ≤ 1000)) (hk3 : (0 ≤ k3.toInt ∧ k3.toInt ≤ 1000000000000000)) (hUB : (∀ q : Nat, q < 6 → -1000000000000000 ≤ (LFc (M s1) q).toInt ∧ (LFc (M s1) q).toInt ≤ 1000000000000000)) (hTD : (∀ q q1 : Nat, q < 6 → q1 < 6 → ∀ t, sT M k1 q = some t → sT M k1 q1 = some t → q = q1)) (hBB : (∀ q : Nat, q < 6 → ∀ t, sT M k1 q = some t → -1000000000000000 ≤ (cL 9 M t 11).toInt ∧ (cL 9 M t 11).toInt ≤ 1000000000000000)) (hMy : M oa = .inr (0, [.ref y0, .ref y1, .ref y2, .int (nI y3), .long y4])) (hy0 : isk K L y0 21 120) (hy1 : isk K L y1 66 100) (hy2 : isk K L y2 7 0) (hy3 : y3 ≤ 120) (hMs : M k1 = .inr (8, [.ref s0, .ref s1, .int s2, .int s3, .long s4, .long s5])) (hs0 : isk K L s0 65 6) (hs1 : isk K L s1 72 6) (hMa : M y2 = .inr (7, [.ref a0, .ref a1, .ref a2, .ref a3, .ref a4, .int (nI a5)])) (ha0 : isk K L a0 64 100) (ha1 : isk K L a1 68 100) (ha2 : isk K L a2 69 100) (ha3 : isk K L a3 70 100) (ha4 : isk K L a4 71 100) (ha5 : a5 ≤ 100) : Met l yX0_shareLack (wsM yX0_shareLack cX0_shareLack 7 none) ({ frames := 3, cells := 0, slots := 0, locals := 82 }) (va_Pc [.ref oa, .ref k1, .ref k2, .long k3] (PG D cy [] L M sz)) (va_Qv (fun (M9 : Hp) => WOK cy K L M9 ∧ fr K L [7, 8, 9, 64, 68, 69, 70, 71, 72] M M9 ∧ fT 9 K L [11] M M9 ∧ ONL 8 K L (fun b => b = k1) M M9 ∧ ONL 72 K L (fun b => b = s1) M M9 ∧ (((∀ q : Nat, q < 6 → (sT M k1 q = none → (LFc (M9 s1) q).toInt = (LFc (M s1) q).toInt) ∧ (sT M k1 q ≠ none → (LFc (M9 s1) q).toInt = (LFc (M s1) q).toInt - brQ k3.toInt (wtE M k1 k2 3) (LMC M k1) (RMC M k1) 6 q)) ∧ (∃ v5 : Int64, M9 k1 = .inr (8, [.ref s0, .ref s1, .int s2, .int s3, .long s4, .long v5]) ∧ v5.toInt = -(k3.toInt - sumI (brQ k3.toInt (wtE M k1 k2 3) (LMC M k1) (RMC M k1) 6) 6)) ∧ (∀ q : Nat, q < 6 → ∀ t, sT M k1 q = some t → (cL 9 M9 t 11).toInt = (cL 9 M t 11).toInt + brQ k3.toInt (wtE M k1 k2 3) (LMC M k1) (RMC M k1) 6 q) ∧ (∀ t, isk K L t 9 0 → (∀ q : Nat, q < 6 → sT M k1 q ≠ some t) → (cL 9 M9 t 11) = (cL 9 M t 11)))) ∧ (True)) (fun M9 t => PQ D [] L M9 (va_A ([] ++ va_pl L M) sz) t) (va_A ([] ++ va_pl L M) sz)) 0 0 (va_A ([] ++ va_pl L M) sz) := by
  refine Met.ofW (cc := cX0_shareLack) (maxL := 7) (ret := none) (by decide) rfl ?_
  intro p e s m args below meth c s₁ B hml hv
  obtain ⟨rfl, hsz, hP, hK, hD0, hN⟩ := hv
  have hx := B.exec
  have hb := B.bytes
  have hr := B.returns
  have hts := atoms_spec (ws := (wsM yX0_shareLack cX0_shareLack 7 none)) B.pre
  have hg : ∀ w ∈ lw_good, w.before _ s = true := fun w h => hts w (List.mem_cons_of_mem _ h)
  have hown : s.vm.findClass RX0 = some m.cls := findClass_of_methodNamed B.named
  have hlocks := B.notSynchronized
  subst hsz
  have hD := hD0.self (sz := s.heap.size)
  generalize hAe : va_A ([] ++ va_pl L M) s.heap.size = A at hD ⊢
  have hA : ∀ q : Nat, s.heap.size ≤ q → A q := fun q h => by rw [← hAe]; exact Or.inr h
  have hS : va_S A s.heap s.heap [] := va_S.rf
  have hl := lv_entry ([.ref oa, .ref k1, .ref k2, .long k3]) (n := 7) (Nat.le_of_ble_eq_true rfl)
  rw [lg_entry_eq]
  generalize (lg_sl ([.ref oa, .ref k1, .ref k2, .long k3]) ++ List.replicate (7 - (lg_sl ([.ref oa, .ref k1, .ref k2, .long k3])).length) Slot.unset).toArray = ls at hl ⊢
  refine W.nameQ (fun Q hQ => ?_)
  refine W.nameR (fun R hR => ?_)
  have hRf : 3 ≤ R.frames := by rw [hR]; exact Nat.le_of_ble_eq_true rfl
  have hRl : 82 ≤ R.locals := by rw [hR]; exact Nat.le_of_ble_eq_true rfl
  have hRc : 0 ≤ R.cells := by rw [hR]; exact Nat.le_of_ble_eq_true rfl
  have hRs : 0 ≤ R.slots := by rw [hR]; exact Nat.le_of_ble_eq_true rfl
  have hF : fr K L [7, 8, 9, 64, 68, 69, 70, 71, 72] M M := fr.rf
  have hT9 : fT 9 K L [11] M M := fT.rf
  have hO8 : ONL 8 K L (fun b => b = k1) M M := ONL.rf
  have hO72 : ONL 72 K L (fun b => b = s1) M M := ONL.rf
  have hl : lv_has ls 7 [(0, .ref oa), (1, .ref k1), (2, .ref k2), (3, .long k3)] := hl
  have hW00 := hW
  obtain ⟨f1, hM1⟩ := hW.open_72 hs1
  have hD0 : ∀ q : Nat, (f1 q).toInt = (LFc (M s1) q).toInt := fun q => by rw [LFc_of hM1]
  have hsT : rA 8 M k1 0 = s0 := rA_of (j := 0) hMs rfl
  have hwb : ∀ q : Nat, q < 6 → 0 ≤ (wtE M k1 k2 3) q ∧ (wtE M k1 k2 3) q ≤ 1000 := fun q hq => wtE_b (hTB q hq)
  have hw0 : ∀ q : Nat, q < 6 → 0 ≤ (wtE M k1 k2 3) q := fun q hq => (hwb q hq).1
  have hwa0 : ∀ q : Nat, q < 6 → 0 ≤ wAl (wtE M k1 k2 3) (LMC M k1) q := fun q hq => (wAl_b (hwb q hq)).1
  have hrm : ∀ q : Nat, q < 6 → LMC M k1 q → 0 ≤ RMC M k1 q := fun q _ h9 => by obtain ⟨t9, g1, _⟩ := h9; rw [RMC_y g1]; exact rmI_nn
  have hbq : ∀ q : Nat, q < 6 → 0 ≤ brQ k3.toInt (wtE M k1 k2 3) (LMC M k1) (RMC M k1) 6 q ∧ brQ k3.toInt (wtE M k1 k2 3) (LMC M k1) (RMC M k1) 6 q ≤ 2000000000000000 := fun q hq => brQ_b hk3 hw0 hrm hwa0 hq
  have hsb := sumI_bd (f := brQ k3.toInt (wtE M k1 k2 3) (LMC M k1) (RMC M k1) 6) (b := 2000000000000000) 6 hbq
  refine lv_aload_n hx hb dX0_shareLack_0 rfl (lv_at hl 0 rfl) ?_
  refine lv_aload_n hx hb dX0_shareLack_1 rfl (lv_at hl 1 rfl) ?_
  refine lv_aload_n hx hb dX0_shareLack_2 rfl (lv_at hl 2 rfl) ?_
  refine lv_iconst (v := 3) hx hb dX0_shareLack_3 (by decide) ?_
  have hPc : va_P D vwCl ([] ++ va_pl L M) s.heap := hP
  have hDc : va_D A ([] ++ va_pl L M) := hD
  have hFc : ∀ q, va_A ([] ++ va_pl L M) s.heap.size q → A q := pg_free hDc hS hA
  refine va_callv (va_runV (As := [.ref k1, .ref k2, .int 3]) (rest := []) ⟨hx, hb, hml, hown, hg⟩ (e_weigh l D cy K L M s.heap.size oa k1 k2 3 y0 y1 y2 y3 y4 s0 s1 s2 s3 s4 s5 a0 a1 a2 a3 a4 a5 hW ia ik1 ik2 (Or.inr rfl) hMy hy0 hy1 hy2 hy3 hMs hs0 hs1 hMa ha0 ha1 ha2 ha3 ha4 ha5) (cwV 3 hg (gV wd_239 wd_240 wd_241 wd_204 wd_242) rfl rfl rfl (by decide +kernel) ⟨(Nat.le_trans (Nat.le_of_ble_eq_true rfl) hRf), (Nat.le_trans (Nat.le_of_ble_eq_true rfl) hRl)⟩) ⟨PG.blind, pg_recv hK hP ia.1 hMy rfl, fun U hU hW => ⟨rfl, PG.at hPc hK hDc hN hU hW⟩⟩ rfl rfl hl.1 rfl (lv_room (Nat.le_of_ble_eq_true rfl)) dX0_shareLack_4 ⟨(Nat.le_trans (Nat.le_of_ble_eq_true rfl) hRc), (Nat.le_trans (Nat.le_of_ble_eq_true rfl) hRs)⟩) hS (fun q _ h => hFc q h) hFc (fun M_4 t H_2 locs ht hvm hw hB hz1 hk1 hS => ?_)
  obtain ⟨hW, hF2, hVP, hM_6, hp_5⟩ := hw
  obtain ⟨hP1, hD1⟩ := hB
  rw [ht] at hP1
  have hP : va_P D vwCl ([] ++ va_pl L M_4) H_2 := hP1
  have hD : va_D A ([] ++ va_pl L M_4) := hD1.mono hFc
  have hM_7 : M_4 oa = .inr (0, [.ref y0, .ref y1, .ref y2, .int (nI y3), .long y4]) := (hF2.at ia (by decide)).trans hMy
  have hM_8 : M_4 k1 = .inr (8, [.ref s0, .ref s1, .int s2, .int s3, .long s4, .long s5]) := (hF2.at ik1 (by decide)).trans hMs
  have hM_9 : M_4 s1 = .inl (cy 15, 6, .inr (.inl (f1))) := (hF2.at hs1 (by decide)).trans hM1
  have hb_10 : 6 ≤ 100 := by omega
  have hF : fr K L [7, 8, 9, 64, 68, 69, 70, 71, 72] M M_4 := hF.tr hF2 (by decide)
  have hO8 : ONL 8 K L (fun b => b = k1) M M_4 := hO8.frr hF2 (by decide)
  have hO72 : ONL 72 K L (fun b => b = s1) M M_4 := hO72.frr hF2 (by decide)
  have hT9 : fT 9 K L [11] M M_4 := hT9.frr hF2 (by decide)
  obtain ⟨f11, hM11⟩ := hW.open_68 ha1
  have hFw := hF2
  have hVw := hVP
  have hWw : ∀ j : Nat, j < 6 → wI (LFc (M_4 a1)) j = (wtE M k1 k2 3) j := hVw.2
  have hLw : ∀ j : Nat, j < 6 → LMR M_4 a0 (LMC M k1) (RMC M k1) j := fun j hj => LMR.mk2 hW00 ik1 hj (hVw.1 j hj) hFw (by decide) (by decide) (hBB j hj)
  refine lv_aload_n hx hb dX0_shareLack_7 rfl (lv_at hl 1 rfl) ?_
  refine lv_aload_n hx hb dX0_shareLack_8 rfl (lv_at hl 0 rfl) ?_
  refine pg_get (D := D) (ci := 0) (v := .ref y2) (C := RX0) (T := TX0) (N := 5) hx hb hg inG0 hown hK hP ia.1 hM_7 rfl 2 (by decide) (hg _ wd_207) (fun _ h9 => h9) rfl dX0_shareLack_9 ?_
  refine lv_lload_n hx hb dX0_shareLack_12 rfl (lv_at hl 3 rfl) ?_
  have hPc : va_P D vwCl ([] ++ va_pl L M_4) H_2 := hP
  have hDc : va_D A ([] ++ va_pl L M_4) := hD
  have hFc : ∀ q, va_A ([] ++ va_pl L M_4) H_2.size q → A q := pg_free hDc hS hA
  refine va_calll (va_runV (As := [.long k3]) (rest := [.ref k1]) ⟨hx, hb, hml, hown, hg⟩ (e_loss l D cy K L M_4 H_2.size y2 k3 (LMC M k1) (RMC M k1) a0 a1 a2 a3 a4 6 hW hy2 (fun j hj => by rw [hWw j hj]; exact hwb j hj) hk3 hLw hM_6 ha0 ha1 ha2 ha3 ha4 hb_10) (cwV 1 hg (gV wd_245 wd_246 wd_247 wd_148 wd_248) rfl rfl rfl (by decide +kernel) ⟨(Nat.le_trans (Nat.le_of_ble_eq_true rfl) hRf), (Nat.le_trans (Nat.le_of_ble_eq_true rfl) hRl)⟩) ⟨PG.blind, pg_recv hK hP hy2.1 hM_6 rfl, fun U hU hW => ⟨rfl, PG.at hPc hK hDc hN hU hW⟩⟩ rfl rfl hl.1 rfl (lv_room (Nat.le_of_ble_eq_true rfl)) dX0_shareLack_13 ⟨(Nat.le_trans (Nat.le_of_ble_eq_true rfl) hRc), (Nat.le_trans (Nat.le_of_ble_eq_true rfl) hRs)⟩) hS (fun q _ h => hFc q h) hFc (fun r_13 M_14 t H_12 locs ht hvm hw hB hz1 hk1 hS => ?_)
  obtain ⟨hW, hF2, hVP, hp_15⟩ := hw
  obtain ⟨hP1, hD1⟩ := hB
  rw [ht] at hP1
  have hP : va_P D vwCl ([] ++ va_pl L M_14) H_12 := hP1
  have hD : va_D A ([] ++ va_pl L M_14) := hD1.mono hFc
  have hM_16 : M_14 oa = .inr (0, [.ref y0, .ref y1, .ref y2, .int (nI y3), .long y4]) := (hF2.at ia (by decide)).trans hM_7
  have hM_17 : M_14 k1 = .inr (8, [.ref s0, .ref s1, .int s2, .int s3, .long s4, .long s5]) := (hF2.at ik1 (by decide)).trans hM_8
  have hM_18 : M_14 s1 = .inl (cy 15, 6, .inr (.inl (f1))) := (hF2.at hs1 (by decide)).trans hM_9
  have hM_19 : M_14 y2 = .inr (7, [.ref a0, .ref a1, .ref a2, .ref a3, .ref a4, .int (nI 6)]) := (hF2.at hy2 (by decide)).trans hM_6
  have hF : fr K L [7, 8, 9, 64, 68, 69, 70, 71, 72] M M_14 := hF.tr hF2 (by decide)
  have hO8 : ONL 8 K L (fun b => b = k1) M M_14 := hO8.frr hF2 (by decide)
  have hO72 : ONL 72 K L (fun b => b = s1) M M_14 := hO72.frr hF2 (by decide)
  have hT9 : fT 9 K L [11] M M_14 := hT9.frr hF2 (by decide)
  obtain ⟨vr_20, hr_22, c_21⟩ := hp_15
  have hq := Eq.symm hr_22
  subst hq
  have hFl := (hFw.wk (us := [7, 8, 64, 68, 69, 70, 71]) (by decide)).tr hF2 (by decide)
  have hbe : ∀ j : Nat, j < 6 → brQ k3.toInt (wI (LFc (M_4 a1))) (LMC M k1) (RMC M k1) 6 j = brQ k3.toInt (wtE M k1 k2 3) (LMC M k1) (RMC M k1) 6 j := fun j hj => brQ_cg hWw hj
  have hcv : (vr_20 : Int64).toInt = k3.toInt - sumI (brQ k3.toInt (wtE M k1 k2 3) (LMC M k1) (RMC M k1) 6) 6 := by rw [← sumI_cg 6 hbe]; exact c_21
  obtain ⟨f23, hM23⟩ := hW.open_69 ha2
  have hpf : ∀ j : Nat, j < 6 → (f23 j).toInt = brQ k3.toInt (wtE M k1 k2 3) (LMC M k1) (RMC M k1) 6 j := fun j hj => by rw [← hbe j hj, ← hVP j hj, LFc_of hM23]
  refine lv_lneg hx hb dX0_shareLack_16 ?_
  refine lv_topl (fun f_24 ef_24 => ?_)
  have hnb : (f_24 : Int64).toInt = -(k3.toInt - sumI (brQ k3.toInt (wtE M k1 k2 3) (LMC M k1) (RMC M k1) 6) 6) := by rw [← hcv]; exact lNg ef_24 (by rw [hcv]; omega)
  refine pg_put (D := D) (ci := 8) (v := .long f_24) (ty := .long) (C := RX8) (T := TX8) (N := 6) hx hb hg inG8 tyX8 tyX8_ok nmX8 hown hK hP hD hS ik1.1 hM_17 rfl 5 (by decide) (hg _ wd_206) (fun _ h9 => h9) rfl (by decide +kernel) rfl rfl (Nat.le_of_ble_eq_true rfl) dX0_shareLack_17 (fun H_25 locs hP hD hS => ?_)
  obtain ⟨M_26, eM_26⟩ : ∃ M1 : Hp, M1 = va_up M_14 k1 (.inr (8, [.ref s0, .ref s1, .int s2, .int s3, .long s4, .long f_24])) := ⟨_, rfl⟩
  have hP : va_P D vwCl ([] ++ va_pl L M_26) H_25 := by rw [eM_26]; exact hP
  have hD : va_D A ([] ++ va_pl L M_26) := by rw [eM_26]; exact hD
  have hW : WOK cy K L M_26 := by rw [eM_26]; exact hW.up_8 ik1 ⟨s0, s1, s2, s3, s4, f_24, rfl, hs0, hs1⟩
  have hF : fr K L [7, 8, 9, 64, 68, 69, 70, 71, 72] M M_26 := by rw [eM_26]; exact hF.up ik1 (by decide)
  have hO8 : ONL 8 K L (fun b => b = k1) M M_26 := by rw [eM_26]; exact hO8.upS ((fun _ => rfl))
  have hO72 : ONL 72 K L (fun b => b = s1) M M_26 := by rw [eM_26]; exact hO72.up ik1 (by decide)
  have hT9 : fT 9 K L [11] M M_26 := by rw [eM_26]; exact hT9.ne ik1 (by decide)
  have hM_27 : M_26 k1 = .inr (8, [.ref s0, .ref s1, .int s2, .int s3, .long s4, .long f_24]) := by rw [eM_26]; exact va_up_self _ _ _
  have hM_28 : M_26 oa = .inr (0, [.ref y0, .ref y1, .ref y2, .int (nI y3), .long y4]) := by rw [eM_26, va_up_ne _ _ (ia.neT ik1 (by decide))]; exact hM_16
  have hM_29 : M_26 s1 = .inl (cy 15, 6, .inr (.inl (f1))) := by rw [eM_26, va_up_ne _ _ (hs1.neT ik1 (by decide))]; exact hM_18
  have hM_30 : M_26 y2 = .inr (7, [.ref a0, .ref a1, .ref a2, .ref a3, .ref a4, .int (nI 6)]) := by rw [eM_26, va_up_ne _ _ (hy2.neT ik1 (by decide))]; exact hM_19
  have hM_31 : M_26 a2 = .inl (cy 15, 100, .inr (.inl (f23))) := by rw [eM_26, va_up_ne _ _ (ha2.neT ik1 (by decide))]; exact hM23
  have hFm : fr K L [7, 8, 64, 68, 69, 70, 71] M M_26 := by rw [eM_26]; exact hFl.up ik1 (by decide)
  refine lv_iconst (v := 0) hx hb dX0_shareLack_20 (by decide) ?_
  refine lv_istore (lv' := [(5, .int 0), (0, .ref oa), (1, .ref k1), (2, .ref k2), (3, .long k3)]) hx hb dX0_shareLack_21 hl (by decide) rfl (fun ls hl => ?_)
  have key_32 : ∀ (fu_34 : Nat) (v5w35 : Nat) (gDw35 : Nat → Int64) (M_41 : Hp) (H_42 : Heap) (locs : List Loc) (ls : Array Slot), 6 - v5w35 < fu_34 → M_41 oa = .inr (0, [.ref y0, .ref y1, .ref y2, .int (nI y3), .long y4]) → M_41 k1 = .inr (8, [.ref s0, .ref s1, .int s2, .int s3, .long s4, .long f_24]) → M_41 y2 = .inr (7, [.ref a0, .ref a1, .ref a2, .ref a3, .ref a4, .int (nI 6)]) → M_41 a2 = .inl (cy 15, 100, .inr (.inl (f23))) → M_41 s1 = .inl (cy 15, 6, .inr (.inl (gDw35))) → v5w35 ≤ 6 → (∀ q : Nat, q < v5w35 → (sT M k1 q = none → (gDw35 q).toInt = (LFc (M s1) q).toInt) ∧ (sT M k1 q ≠ none → (gDw35 q).toInt = (LFc (M s1) q).toInt - brQ k3.toInt (wtE M k1 k2 3) (LMC M k1) (RMC M k1) 6 q)) → (∀ q : Nat, v5w35 ≤ q → q < 6 → (gDw35 q).toInt = (LFc (M s1) q).toInt) → (∀ q : Nat, q < v5w35 → ∀ t, sT M k1 q = some t → (cL 9 M_41 t 11).toInt = (cL 9 M t 11).toInt + brQ k3.toInt (wtE M k1 k2 3) (LMC M k1) (RMC M k1) 6 q) → (∀ t, isk K L t 9 0 → (∀ q : Nat, q < v5w35 → sT M k1 q ≠ some t) → (cL 9 M_41 t 11) = (cL 9 M t 11)) → WOK cy K L M_41 → fr K L [7, 8, 9, 64, 68, 69, 70, 71, 72] M M_41 → fT 9 K L [11] M M_41 → ONL 8 K L (fun b => b = k1) M M_41 → ONL 72 K L (fun b => b = s1) M M_41 → va_P D vwCl ([] ++ va_pl L M_41) H_42 → va_D A ([] ++ va_pl L M_41) → va_S A s.heap H_42 locs → lv_has ls 7 [(5, .int (nI v5w35)), (0, .ref oa), (1, .ref k1), (2, .ref k2), (3, .long k3)] → W p l e R s m ([.ref oa, .ref k1, .ref k2, .long k3] : List Value).toArray below meth c H_42 locs 0 0 Q (F0 m 23 ls []) := by
    intro fu_34
    induction fu_34 with
    | zero => intro v5w35 gDw35 M_41 H_42 locs ls h; exact absurd h (Nat.not_lt_zero _)
    | succ fu_34 ih_33 =>
      intro v5w35 gDw35 M_41 H_42 locs ls hfu hM_43 hM_44 hM_45 hM_46 hM_47 hx_36 hx_37 hx_38 hx_39 hx_40 hW hF hT9 hO8 hO72 hP hD hS hl
      refine lv_iload hx hb dX0_shareLack_23 (lv_at hl 0 rfl) ?_
      refine lv_bipush (v := 6) hx hb dX0_shareLack_25 (by decide) ?_
      refine lv_icmp_ge (tgt := 90) hx hb dX0_shareLack_27 (by decide) (fun c_48 => ?_) (fun c_48 => ?_)
      · have hz := rfl (a := 0)
        have n_49 : 6 ≤ v5w35 := (iLE (a := 6) (b := v5w35) (by omega) (by omega)).mp c_48
        rw [hQ]
        exact W.vret hx hb hr (fun t ht hW9 => ⟨⟨M_41, rfl, ⟨hW, hF, hT9, hO8, hO72, ⟨(fun q hq => by rw [LFc_of hM_47]; exact hx_37 q (by omega)), ⟨_, hM_44, hnb⟩, (by rw [show v5w35 = 6 by omega] at hx_39; exact hx_39), (by rw [show v5w35 = 6 by omega] at hx_40; exact hx_40)⟩, trivial⟩, ⟨by rw [ht]; exact hP, hD⟩⟩, hS.F ht⟩) hS.2.2 dX0_shareLack_90
      · have hz := rfl (a := 0)
        have n_50 : ¬ (6 ≤ v5w35) := fun q => c_48 ((iLE (a := 6) (b := v5w35) (by omega) (by omega)).mpr q)
        refine lv_aload_n hx hb dX0_shareLack_30 rfl (lv_at hl 2 rfl) ?_
        refine pg_get (D := D) (ci := 8) (v := .ref s0) (C := RX8) (T := TX8) (N := 6) hx hb hg inG8 hown hK hP ik1.1 hM_44 rfl 0 (by decide) (hg _ wd_212) (fun _ h9 => h9) rfl dX0_shareLack_31 ?_
        refine lv_iload hx hb dX0_shareLack_34 (lv_at hl 0 rfl) ?_
        obtain ⟨f51, hM51, hf51⟩ := hW.open_65 hs0
        have hi_52 : vp_in (nI v5w35) 6 := (inbN v5w35 6 (by omega) (by omega))
        refine pg_aldq hx hb hK hP hs0.1 8 hM51 rfl hi_52 dX0_shareLack_36 ?_
        obtain ⟨q_53, ho_54⟩ : ∃ q : Option Nat, q = f51 ((nI v5w35) : Int32).toNatClampNeg := ⟨_, rfl⟩
        rw [← ho_54]
        have hq_55 : iskN K L q_53 9 0 := by rw [ho_54]; exact hf51 _ (vp_lt hi_52)
        rcases q_53 with _ | bq_53
        · have hz := rfl (a := 0)
          have hs9 : sT M k1 v5w35 = none := by unfold sT; rw [hsT, ← hF.at hs0 (by decide), RFc_of hM51]; have h9 := Eq.symm ho_54; rw [nI_cl (by omega)] at h9; exact h9
          refine lv_astoreN (lv' := [(6, .null), (5, .int (nI v5w35)), (0, .ref oa), (1, .ref k1), (2, .ref k2), (3, .long k3)]) hx hb dX0_shareLack_37 hl (by decide) rfl (fun ls hl => ?_)
          refine lv_aloadN hx hb dX0_shareLack_39 (lv_at hl 0 rfl) ?_
          refine lv_ifnullN (tgt := 84) hx hb dX0_shareLack_41 (by decide) ?_
          refine lv_iinc (v := (nI (v5w35 + 1))) (lv' := [(5, .int (nI (v5w35 + 1))), (6, .null), (0, .ref oa), (1, .ref k1), (2, .ref k2), (3, .long k3)]) hx hb dX0_shareLack_84 hl (k := 1) rfl (nI_1 v5w35) (by decide) rfl (fun ls hl => ?_)
          refine lv_goto (tgt := 23) hx hb dX0_shareLack_87 (by decide) ?_
          exact ih_33 (v5w35 + 1) gDw35 M_41 H_42 _ _ (by omega) hM_43 hM_44 hM_45 hM_46 hM_47 (by omega) (fun q hq => by by_cases z9 : q = v5w35; rw [z9]; exact ⟨fun _ => hx_38 v5w35 (by omega) (by omega), fun h9 => absurd hs9 h9⟩; exact hx_37 q (by omega)) (fun q hq hq2 => hx_38 q (by omega) hq2) (fun q hq t9 h9 => by by_cases z9 : q = v5w35; rw [z9, hs9] at h9; cases h9; exact hx_39 q (by omega) t9 h9) (fun t9 i9 h9 => hx_40 t9 i9 (fun q hq => h9 q (by omega))) hW hF hT9 hO8 hO72 hP hD hS (lv_sub hl [0, 2, 3, 4, 5] rfl)
        · have hb_56 := hq_55 bq_53 rfl
          have hs9 : sT M k1 v5w35 = some bq_53 := by unfold sT; rw [hsT, ← hF.at hs0 (by decide), RFc_of hM51]; have h9 := (Eq.symm ho_54); rw [nI_cl (by omega)] at h9; exact h9
          refine lv_astore (lv' := [(6, .ref bq_53), (5, .int (nI v5w35)), (0, .ref oa), (1, .ref k1), (2, .ref k2), (3, .long k3)]) hx hb dX0_shareLack_37 hl (by decide) rfl (fun ls hl => ?_)
          refine lv_aload hx hb dX0_shareLack_39 (lv_at hl 0 rfl) ?_
          refine lv_ifnull hx hb dX0_shareLack_41 ?_
          refine lv_aload_n hx hb dX0_shareLack_44 rfl (lv_at hl 3 rfl) ?_
          refine pg_get (D := D) (ci := 8) (v := .ref s1) (C := RX8) (T := TX8) (N := 6) hx hb hg inG8 hown hK hP ik1.1 hM_44 rfl 1 (by decide) (hg _ wd_221) (fun _ h9 => h9) rfl dX0_shareLack_45 ?_
          refine lv_iload hx hb dX0_shareLack_48 (lv_at hl 1 rfl) ?_
          refine lv_dup2_11 hx hb dX0_shareLack_50 rfl rfl ?_
          refine pg_lald hx hb hK hP hs1.1 1 hM_47 rfl (inbN v5w35 6 (by omega) (by omega)) dX0_shareLack_51 ?_
          refine lv_topl (fun f_57 ef_57 => ?_)
          have hdv : (f_57 : Int64).toInt = (LFc (M s1) v5w35).toInt := by rw [ef_57, nI_cl (by omega)]; exact hx_38 v5w35 (by omega) (by omega)
          refine lv_aload_n hx hb dX0_shareLack_52 rfl (lv_at hl 2 rfl) ?_
          refine pg_get (D := D) (ci := 0) (v := .ref y2) (C := RX0) (T := TX0) (N := 5) hx hb hg inG0 hown hK hP ia.1 hM_43 rfl 2 (by decide) (hg _ wd_207) (fun _ h9 => h9) rfl dX0_shareLack_53 ?_
          refine pg_get (D := D) (ci := 7) (v := .ref a2) (C := RX7) (T := TX7) (N := 6) hx hb hg inG7 hown hK hP hy2.1 hM_45 rfl 2 (by decide) (hg _ wd_244) (fun _ h9 => h9) rfl dX0_shareLack_56 ?_
          refine lv_iload hx hb dX0_shareLack_59 (lv_at hl 1 rfl) ?_
          refine pg_lald hx hb hK hP ha2.1 1 hM_46 rfl (inbN v5w35 100 (by omega) (by omega)) dX0_shareLack_61 ?_
          refine lv_topl (fun f_58 ef_58 => ?_)
          have hpv : (f_58 : Int64).toInt = brQ k3.toInt (wtE M k1 k2 3) (LMC M k1) (RMC M k1) 6 v5w35 := by rw [ef_58, nI_cl (by omega)]; exact hpf v5w35 (by omega)
          refine lv_lsub hx hb dX0_shareLack_62 ?_
          refine lv_topl (fun f_59 ef_59 => ?_)
          have hu9 := hUB v5w35 (by omega)
          have hc9 := hbq v5w35 (by omega)
          have hsv : (f_59 : Int64).toInt = (LFc (M s1) v5w35).toInt - brQ k3.toInt (wtE M k1 k2 3) (LMC M k1) (RMC M k1) 6 v5w35 := by have h9 := lS ef_59 (by rw [hdv, hpv]; omega) (by rw [hdv, hpv]; omega); rw [hdv, hpv] at h9; exact h9
          refine pg_last hx hb hK hP hD hS hs1.1 1 hM_47 rfl (inbN v5w35 6 (by omega) (by omega)) dX0_shareLack_63 (fun H_60 locs hP hD hS => ?_)
          obtain ⟨M_61, eM_61⟩ : ∃ M1 : Hp, M1 = va_up M_41 s1 (.inl (cy 15, 6, .inr (.inl (vp_updL gDw35 ((nI v5w35) : Int32).toNatClampNeg f_59)))) := ⟨_, rfl⟩
          have hP : va_P D vwCl ([] ++ va_pl L M_61) H_60 := by rw [eM_61]; exact hP
          have hD : va_D A ([] ++ va_pl L M_61) := by rw [eM_61]; exact hD
          have hW : WOK cy K L M_61 := by rw [eM_61]; exact hW.up_72 hs1 ⟨_, rfl⟩
          have hF : fr K L [7, 8, 9, 64, 68, 69, 70, 71, 72] M M_61 := by rw [eM_61]; exact hF.up hs1 (by decide)
          have hO8 : ONL 8 K L (fun b => b = k1) M M_61 := by rw [eM_61]; exact hO8.up hs1 (by decide)
          have hO72 : ONL 72 K L (fun b => b = s1) M M_61 := by rw [eM_61]; exact hO72.upS ((fun _ => rfl))
          have hT9 : fT 9 K L [11] M M_61 := by rw [eM_61]; exact hT9.ne hs1 (by decide)
          have hM_62 : M_61 s1 = .inl (cy 15, 6, .inr (.inl (vp_updL gDw35 ((nI v5w35) : Int32).toNatClampNeg f_59))) := by rw [eM_61]; exact va_up_self _ _ _
          have hM_63 : M_61 oa = .inr (0, [.ref y0, .ref y1, .ref y2, .int (nI y3), .long y4]) := by rw [eM_61, va_up_ne _ _ (ia.neT hs1 (by decide))]; exact hM_43
          have hM_64 : M_61 k1 = .inr (8, [.ref s0, .ref s1, .int s2, .int s3, .long s4, .long f_24]) := by rw [eM_61, va_up_ne _ _ (ik1.neT hs1 (by decide))]; exact hM_44
          have hM_65 : M_61 y2 = .inr (7, [.ref a0, .ref a1, .ref a2, .ref a3, .ref a4, .int (nI 6)]) := by rw [eM_61, va_up_ne _ _ (hy2.neT hs1 (by decide))]; exact hM_45
          have hM_66 : M_61 a2 = .inl (cy 15, 100, .inr (.inl (f23))) := by rw [eM_61, va_up_ne _ _ (ha2.neT hs1 (by decide))]; exact hM_46
          have hM_67 : M_61 s0 = .inl (cy 22, 6, .inr (.inr (.inr (.inr (f51))))) := by rw [eM_61, va_up_ne _ _ (hs0.neT hs1 (by decide))]; exact hM51
          obtain ⟨f_68, ef_68⟩ : ∃ f : Nat → Int64, f = vp_updL gDw35 ((nI v5w35) : Int32).toNatClampNeg f_59 := ⟨_, rfl⟩
          rw [← ef_68] at hM_62
          refine lv_aload hx hb dX0_shareLack_64 (lv_at hl 0 rfl) ?_
          refine lv_dup hx hb dX0_shareLack_66 rfl ?_
          obtain ⟨v69_0, v69_1, v69_2, v69_3, v69_4, v69_5, v69_6, v69_7, v69_8, v69_9, v69_10, v69_11, v69_12, v69_13, v69_14, v69_15, hM69, h69_0, h69_1, h69_4, h69_8⟩ := hW.open_9 hb_56
          refine pg_get (D := D) (ci := 9) (v := .long v69_11) (C := RX9) (T := TX9) (N := 16) hx hb hg inG9 hown hK hP hb_56.1 hM69 rfl 11 (by decide) (hg _ wd_249) (fun _ h9 => h9) rfl dX0_shareLack_67 ?_
          have hbv : (v69_11 : Int64).toInt = (cL 9 M bq_53 11).toInt := by rw [← cL_of (j := 11) hM69 rfl, cL_e (show M_61 bq_53 = M_41 bq_53 from by rw [eM_61]; exact va_up_ne _ _ (hb_56.neT hs1 (by decide))), hx_40 bq_53 hb_56 (fun q hq h9 => absurd (hTD q v5w35 (by omega) (by omega) bq_53 h9 hs9) (by omega))]
          refine lv_aload_n hx hb dX0_shareLack_70 rfl (lv_at hl 2 rfl) ?_
          refine pg_get (D := D) (ci := 0) (v := .ref y2) (C := RX0) (T := TX0) (N := 5) hx hb hg inG0 hown hK hP ia.1 hM_63 rfl 2 (by decide) (hg _ wd_207) (fun _ h9 => h9) rfl dX0_shareLack_71 ?_
          refine pg_get (D := D) (ci := 7) (v := .ref a2) (C := RX7) (T := TX7) (N := 6) hx hb hg inG7 hown hK hP hy2.1 hM_65 rfl 2 (by decide) (hg _ wd_244) (fun _ h9 => h9) rfl dX0_shareLack_74 ?_
          refine lv_iload hx hb dX0_shareLack_77 (lv_at hl 1 rfl) ?_
          refine pg_lald hx hb hK hP ha2.1 1 hM_66 rfl (inbN v5w35 100 (by omega) (by omega)) dX0_shareLack_79 ?_
          refine lv_topl (fun f_70 ef_70 => ?_)
          have hpv2 : (f_70 : Int64).toInt = brQ k3.toInt (wtE M k1 k2 3) (LMC M k1) (RMC M k1) 6 v5w35 := by rw [ef_70, nI_cl (by omega)]; exact hpf v5w35 (by omega)
          refine lv_ladd hx hb dX0_shareLack_80 ?_
          refine lv_topl (fun f_71 ef_71 => ?_)
          have hb9 := hBB v5w35 (by omega) bq_53 hs9
          have hbs : (f_71 : Int64).toInt = (cL 9 M bq_53 11).toInt + brQ k3.toInt (wtE M k1 k2 3) (LMC M k1) (RMC M k1) 6 v5w35 := by have h9 := lA ef_71 (by rw [hbv, hpv2]; omega) (by rw [hbv, hpv2]; omega); rw [hbv, hpv2] at h9; exact h9
          refine pg_put (D := D) (ci := 9) (v := .long f_71) (ty := .long) (C := RX9) (T := TX9) (N := 16) hx hb hg inG9 tyX9 tyX9_ok nmX9 hown hK hP hD hS hb_56.1 hM69 rfl 11 (by decide) (hg _ wd_249) (fun _ h9 => h9) rfl (by decide +kernel) rfl rfl (Nat.le_of_ble_eq_true rfl) dX0_shareLack_81 (fun H_72 locs hP hD hS => ?_)
          obtain ⟨M_73, eM_73⟩ : ∃ M1 : Hp, M1 = va_up M_61 bq_53 (.inr (9, [.int (nI v69_0), .ref v69_1, .int v69_2, .int v69_3, .int v69_4, .int v69_5, .int v69_6, .int v69_7, va_rf v69_8, .long v69_9, .long v69_10, .long f_71, .long v69_12, .long v69_13, .long v69_14, .long v69_15])) := ⟨_, rfl⟩
          have hP : va_P D vwCl ([] ++ va_pl L M_73) H_72 := by rw [eM_73]; exact hP
          have hD : va_D A ([] ++ va_pl L M_73) := by rw [eM_73]; exact hD
          have hW : WOK cy K L M_73 := by rw [eM_73]; exact hW.up_9 hb_56 ⟨v69_0, v69_1, v69_2, v69_3, v69_4, v69_5, v69_6, v69_7, v69_8, v69_9, v69_10, f_71, v69_12, v69_13, v69_14, v69_15, rfl, h69_0, h69_1, h69_4, h69_8⟩
          have hF : fr K L [7, 8, 9, 64, 68, 69, 70, 71, 72] M M_73 := by rw [eM_73]; exact hF.up hb_56 (by decide)
          have hO8 : ONL 8 K L (fun b => b = k1) M M_73 := by rw [eM_73]; exact hO8.up hb_56 (by decide)
          have hO72 : ONL 72 K L (fun b => b = s1) M M_73 := by rw [eM_73]; exact hO72.up hb_56 (by decide)
          have hT9 : fT 9 K L [11] M M_73 := by rw [eM_73]; exact hT9.up (i := 11) hM69 rfl (by decide)
          have hM_74 : M_73 bq_53 = .inr (9, [.int (nI v69_0), .ref v69_1, .int v69_2, .int v69_3, .int v69_4, .int v69_5, .int v69_6, .int v69_7, va_rf v69_8, .long v69_9, .long v69_10, .long f_71, .long v69_12, .long v69_13, .long v69_14, .long v69_15]) := by rw [eM_73]; exact va_up_self _ _ _
          have hM_75 : M_73 s1 = .inl (cy 15, 6, .inr (.inl (f_68))) := by rw [eM_73, va_up_ne _ _ (hs1.neT hb_56 (by decide))]; exact hM_62
          have hM_76 : M_73 oa = .inr (0, [.ref y0, .ref y1, .ref y2, .int (nI y3), .long y4]) := by rw [eM_73, va_up_ne _ _ (ia.neT hb_56 (by decide))]; exact hM_63
          have hM_77 : M_73 k1 = .inr (8, [.ref s0, .ref s1, .int s2, .int s3, .long s4, .long f_24]) := by rw [eM_73, va_up_ne _ _ (ik1.neT hb_56 (by decide))]; exact hM_64
          have hM_78 : M_73 y2 = .inr (7, [.ref a0, .ref a1, .ref a2, .ref a3, .ref a4, .int (nI 6)]) := by rw [eM_73, va_up_ne _ _ (hy2.neT hb_56 (by decide))]; exact hM_65
          have hM_79 : M_73 a2 = .inl (cy 15, 100, .inr (.inl (f23))) := by rw [eM_73, va_up_ne _ _ (ha2.neT hb_56 (by decide))]; exact hM_66
          have hM_80 : M_73 s0 = .inl (cy 22, 6, .inr (.inr (.inr (.inr (f51))))) := by rw [eM_73, va_up_ne _ _ (hs0.neT hb_56 (by decide))]; exact hM_67
          refine lv_iinc (v := (nI (v5w35 + 1))) (lv' := [(5, .int (nI (v5w35 + 1))), (6, .ref bq_53), (0, .ref oa), (1, .ref k1), (2, .ref k2), (3, .long k3)]) hx hb dX0_shareLack_84 hl (k := 1) rfl (nI_1 v5w35) (by decide) rfl (fun ls hl => ?_)
          refine lv_goto (tgt := 23) hx hb dX0_shareLack_87 (by decide) ?_
          have hot : ∀ t9, isk K L t9 9 0 → t9 ≠ bq_53 → cL 9 M_73 t9 11 = cL 9 M_41 t9 11 := fun t9 i9 h9 => by rw [cL_e (show M_73 t9 = M_61 t9 from by rw [eM_73]; exact va_up_ne _ _ h9), cL_e (show M_61 t9 = M_41 t9 from by rw [eM_61]; exact va_up_ne _ _ (i9.neT hs1 (by decide)))]
          have hnw : cL 9 M_73 bq_53 11 = f_71 := cL_of (j := 11) hM_74 rfl
          exact ih_33 (v5w35 + 1) f_68 M_73 H_72 _ _ (by omega) hM_76 hM_77 hM_78 hM_79 hM_75 (by omega) (by rw [ef_68, nI_cl (by omega)]; intro q hq; by_cases z9 : q = v5w35; rw [z9, vp_updL_self]; exact ⟨fun h9 => absurd (hs9.symm.trans h9) (fun w => by cases w), fun _ => hsv⟩; rw [vp_updL_ne _ _ z9]; exact hx_37 q (by omega)) (by rw [ef_68, nI_cl (by omega)]; intro q hq hq2; rw [vp_updL_ne _ _ (by omega)]; exact hx_38 q (by omega) hq2) (fun q hq t9 h9 => by by_cases z9 : q = v5w35; rw [z9, hs9] at h9; cases h9; rw [z9, hnw]; exact hbs; rw [hot t9 (sT_k hW00 ik1 (by omega) h9) (fun w => z9 (hTD q v5w35 (by omega) (by omega) t9 h9 (by rw [w]; exact hs9)))]; exact hx_39 q (by omega) t9 h9) (fun t9 i9 h9 => by rw [hot t9 i9 (fun w => h9 v5w35 (by omega) (by rw [w]; exact hs9))]; exact hx_40 t9 i9 (fun q hq => h9 q (by omega))) hW hF hT9 hO8 hO72 hP hD hS (lv_sub hl [0, 2, 3, 4, 5] rfl)
  exact key_32 (6 - 0 + 1) 0 f1 M_26 H_25 _ _ (by omega) hM_28 hM_27 hM_30 hM_31 hM_29 (by omega) (fun q h => absurd h (Nat.not_lt_zero _)) (fun q _ hq => hD0 q) (fun q h => absurd h (Nat.not_lt_zero _)) (fun t it _ => cL_e (hFm.at it (by decide))) hW hF hT9 hO8 hO72 hP hD hS (lv_sub hl [0, 1, 2, 3, 4] rfl)
