theorem dX13_house_0 : decode cX13_house 0 = .ok (.aload_n 0, 1) := by decide +kernel
theorem dX13_house_1 : decode cX13_house 1 = .ok (.iconst 0, 1) := by decide +kernel
theorem dX13_house_2 : decode cX13_house 2 = .ok (.putfield 55, 3) := by decide +kernel
theorem dX13_house_5 : decode cX13_house 5 = .ok (.iload_n 1, 1) := by decide +kernel
theorem dX13_house_6 : decode cX13_house 6 = .ok (.ifCond .lt 10, 3) := by decide +kernel
theorem dX13_house_9 : decode cX13_house 9 = .ok (.iload_n 1, 1) := by decide +kernel
theorem dX13_house_10 : decode cX13_house 10 = .ok (.sipush 900, 3) := by decide +kernel
theorem dX13_house_13 : decode cX13_house 13 = .ok (.if_icmp .le 9, 3) := by decide +kernel
theorem dX13_house_16 : decode cX13_house 16 = .ok (.aload_n 0, 1) := by decide +kernel
theorem dX13_house_17 : decode cX13_house 17 = .ok (.iconst 2, 1) := by decide +kernel
theorem dX13_house_18 : decode cX13_house 18 = .ok (.invokevirtual 73, 3) := by decide +kernel
theorem dX13_house_21 : decode cX13_house 21 = .ok (.ireturn, 1) := by decide +kernel
theorem dX13_house_22 : decode cX13_house 22 = .ok (.aload_n 0, 1) := by decide +kernel
theorem dX13_house_23 : decode cX13_house 23 = .ok (.getfield 61, 3) := by decide +kernel
theorem dX13_house_26 : decode cX13_house 26 = .ok (.bipush 8, 2) := by decide +kernel
theorem dX13_house_28 : decode cX13_house 28 = .ok (.if_icmp .ne 10, 3) := by decide +kernel
theorem dX13_house_31 : decode cX13_house 31 = .ok (.aload_n 0, 1) := by decide +kernel
theorem dX13_house_32 : decode cX13_house 32 = .ok (.bipush 9, 2) := by decide +kernel
theorem dX13_house_34 : decode cX13_house 34 = .ok (.invokevirtual 73, 3) := by decide +kernel
theorem dX13_house_37 : decode cX13_house 37 = .ok (.ireturn, 1) := by decide +kernel
theorem dX13_house_38 : decode cX13_house 38 = .ok (.aload_n 0, 1) := by decide +kernel
theorem dX13_house_39 : decode cX13_house 39 = .ok (.getfield 12, 3) := by decide +kernel
theorem dX13_house_42 : decode cX13_house 42 = .ok (.aload_n 0, 1) := by decide +kernel
theorem dX13_house_43 : decode cX13_house 43 = .ok (.getfield 61, 3) := by decide +kernel
theorem dX13_house_46 : decode cX13_house 46 = .ok (.aaload, 1) := by decide +kernel
theorem dX13_house_47 : decode cX13_house 47 = .ok (.astore_n 2, 1) := by decide +kernel
theorem dX13_house_48 : decode cX13_house 48 = .ok (.aload_n 2, 1) := by decide +kernel
theorem dX13_house_49 : decode cX13_house 49 = .ok (.iload_n 1, 1) := by decide +kernel
theorem dX13_house_50 : decode cX13_house 50 = .ok (.putfield 77, 3) := by decide +kernel
theorem dX13_house_53 : decode cX13_house 53 = .ok (.aload_n 2, 1) := by decide +kernel
theorem dX13_house_54 : decode cX13_house 54 = .ok (.iload_n 1, 1) := by decide +kernel
theorem dX13_house_55 : decode cX13_house 55 = .ok (.iconst 1, 1) := by decide +kernel
theorem dX13_house_56 : decode cX13_house 56 = .ok (.isub, 1) := by decide +kernel
theorem dX13_house_57 : decode cX13_house 57 = .ok (.putfield 80, 3) := by decide +kernel
theorem dX13_house_60 : decode cX13_house 60 = .ok (.iconst 0, 1) := by decide +kernel
theorem dX13_house_61 : decode cX13_house 61 = .ok (.istore_n 3, 1) := by decide +kernel
theorem dX13_house_62 : decode cX13_house 62 = .ok (.iload_n 3, 1) := by decide +kernel
theorem dX13_house_63 : decode cX13_house 63 = .ok (.sipush 1000, 3) := by decide +kernel
theorem dX13_house_66 : decode cX13_house 66 = .ok (.if_icmp .ge 16, 3) := by decide +kernel
theorem dX13_house_69 : decode cX13_house 69 = .ok (.aload_n 2, 1) := by decide +kernel
theorem dX13_house_70 : decode cX13_house 70 = .ok (.getfield 83, 3) := by decide +kernel
theorem dX13_house_73 : decode cX13_house 73 = .ok (.iload_n 3, 1) := by decide +kernel
theorem dX13_house_74 : decode cX13_house 74 = .ok (.iconst (-1), 1) := by decide +kernel
theorem dX13_house_75 : decode cX13_house 75 = .ok (.iastore, 1) := by decide +kernel
theorem dX13_house_76 : decode cX13_house 76 = .ok (.iinc 3 1, 3) := by decide +kernel
theorem dX13_house_79 : decode cX13_house 79 = .ok (.goto (-17), 3) := by decide +kernel
theorem dX13_house_82 : decode cX13_house 82 = .ok (.aload_n 0, 1) := by decide +kernel
theorem dX13_house_83 : decode cX13_house 83 = .ok (.dup, 1) := by decide +kernel
theorem dX13_house_84 : decode cX13_house 84 = .ok (.getfield 61, 3) := by decide +kernel
theorem dX13_house_87 : decode cX13_house 87 = .ok (.iconst 1, 1) := by decide +kernel
theorem dX13_house_88 : decode cX13_house 88 = .ok (.iadd, 1) := by decide +kernel
theorem dX13_house_89 : decode cX13_house 89 = .ok (.putfield 61, 3) := by decide +kernel
theorem dX13_house_92 : decode cX13_house 92 = .ok (.aload_n 0, 1) := by decide +kernel
theorem dX13_house_93 : decode cX13_house 93 = .ok (.aload_n 0, 1) := by decide +kernel
theorem dX13_house_94 : decode cX13_house 94 = .ok (.getfield 61, 3) := by decide +kernel
theorem dX13_house_97 : decode cX13_house 97 = .ok (.iconst 1, 1) := by decide +kernel
theorem dX13_house_98 : decode cX13_house 98 = .ok (.isub, 1) := by decide +kernel
theorem dX13_house_99 : decode cX13_house 99 = .ok (.invokevirtual 86, 3) := by decide +kernel
theorem dX13_house_102 : decode cX13_house 102 = .ok (.ireturn, 1) := by decide +kernel
/-- what a new rule's row holds -/
def trm (y : Nat → Int32) (r i : Nat) : Int32 := if r = 0 then 0 else y (24 * (r - 1) + i)
theorem trm1 {g y : Nat → Int32} {k n r : Nat} {v : Int32} (h : ∀ i : Nat, i < 24 * r → g i = y i) (hk : k = 24 * r + n) : ∀ i : Nat, i < 24 * r → upd g k v i = y i := fun i hi => by
  rw [upd_ne _ _ (show i ≠ k by omega)]
  exact h i hi
theorem trm2 {g y : Nat → Int32} {k n r : Nat} {v : Int32} (h : ∀ i : Nat, i < n → g (24 * r + i) = trm y r i) (hk : k = 24 * r + n) (hv : v = trm y r n) : ∀ i : Nat, i < n + 1 → upd g k v (24 * r + i) = trm y r i := fun i hi => by
  by_cases z : i = n
  · rw [z, hk, upd_self]
    exact hv
  · rw [upd_ne _ _ (by omega)]
    exact h i (by omega)
/-- a partner that is a House names one -/
def R5 (z6 z7 : Nat) (M : Hp) : Prop := ∀ p, p < 40 → IFc (M z6) p = 5 → ∃ j : Nat, j < 8 ∧ IFc (M z7) p = nI j
theorem R5.mv {K : Kp} {L ts : List Nat} {z6 z7 : Nat} {M M1 : Hp} (h : R5 z6 z7 M) (i6 : isk K L z6 47 40) (i7 : isk K L z7 48 40) (hF : fr K L ts M M1) (h1 : 47 ∉ ts) (h2 : 48 ∉ ts) : R5 z6 z7 M1 := by
  unfold R5
  rw [hF.at i6 h1, hF.at i7 h2]
  exact h
theorem R5.put {z6 z7 k n6 n7 : Nat} {c6 c7 : ClassId} {f6 f7 : Nat → Int32} {v w : Int32} {M M1 : Hp} (h : R5 z6 z7 M) (e6 : M z6 = .inl (c6, n6, .inl f6)) (e7 : M z7 = .inl (c7, n7, .inl f7)) (g6 : M1 z6 = .inl (c6, n6, .inl (upd f6 k v))) (g7 : M1 z7 = .inl (c7, n7, .inl (upd f7 k w))) (hv : v = 5 → ∃ j : Nat, j < 8 ∧ w = nI j) : R5 z6 z7 M1 := fun p hp q => by
  have h0 := h p hp
  rw [e6, e7] at h0
  rw [g6] at q
  rw [g7]
  show ∃ j : Nat, j < 8 ∧ upd f7 k w p = nI j
  have q : upd f6 k v p = 5 := q
  by_cases z : p = k
  · subst z
    rw [upd_self] at q ⊢
    exact hv q
  · rw [upd_ne _ _ z] at q ⊢
    exact h0 q
theorem i8n {x : Int32} {z : Nat} (hz : z ≤ 8) (h0 : ¬ x < 0) (h1 : ¬ nI z ≤ x) : ∃ j : Nat, j < 8 ∧ x = nI j := by
  obtain ⟨j, hj, e⟩ := i32nat z (by omega) h0 h1
  exact ⟨j, by omega, e⟩
set_option maxHeartbeats 4000000 in
set_option maxRecDepth 100000 in
theorem g_X13_leave (l : Launch) (D : va_G) (cy : Nat → ClassId) (K : Kp) (L : List Nat) (M : Hp) (sz : Nat) (za : Nat) (z0 : Int32) (z1 : Nat) (z2 : Nat) (z3 : Nat) (z4 : Int32) (z5 : Int32) (z6 : Nat) (z7 : Nat) (z8 : Nat) (z9 : Nat) (z10 : Nat) (z11 : Nat) (z12 : Nat) (z13 : Nat) (z14 : Nat) (z15 : Nat) (z16 : Nat) (z17 : Nat) (z18 : Int32) (z19 : Nat) (k1 : Int32) (k2 : Int32) (k3 : Int32) (k4 : Int32) (k5 : Int32) (hW : WOM cy K L M) (i1 : isk K L z1 23 8) (b2 : z2 ≤ 8) (b3 : z3 ≤ 40) (i6 : isk K L z6 47 40) (i7 : isk K L z7 48 40) (i8 : isk K L z8 49 8) (i9 : isk K L z9 50 8) (b10 : z10 ≤ 8) (i11 : isk K L z11 32 24) (i12 : isk K L z12 14 24) (i13 : isk K L z13 15 24) (i14 : isk K L z14 15 24) (i15 : isk K L z15 15 24) (b16 : z16 ≤ 24) (i17 : isk K L z17 14 24) (i19 : isk K L z19 15 25) (hGI : GI K L z1 z2 M) : Met l yX13_leave (wsM yX13_leave cX13_leave 8 (some .int)) ({ frames := 2, cells := 0, slots := 0, locals := 43 }) (va_Pc [.ref za, .int k1, .int k2, .int k3, .int k4, .int k5] (PG D cy [(za, .inr (13, [.int z0, .ref z1, .int (nI z2), .int (nI z3), .int z4, .int z5, .ref z6, .ref z7, .ref z8, .ref z9, .int (nI z10), .ref z11, .ref z12, .ref z13, .ref z14, .ref z15, .int (nI z16), .ref z17, .int z18, .ref z19]))] L M sz)) (va_Qi (fun (r : Int32) (M9 : Hp) => WOM cy K L M9 ∧ fr K L [14, 41, 42, 76] M M9 ∧ (GI K L z1 z2 M9) ∧ (True)) (fun M9 t => ∃ (w4 : Int32) (w5 : Int32), PQ D [(za, .inr (13, [.int 0, .ref z1, .int (nI z2), .int (nI z3), .int w4, .int w5, .ref z6, .ref z7, .ref z8, .ref z9, .int (nI z10), .ref z11, .ref z12, .ref z13, .ref z14, .ref z15, .int (nI z16), .ref z17, .int z18, .ref z19]))] L M9 (va_A ([(za, .inr (13, [.int z0, .ref z1, .int (nI z2), .int (nI z3), .int z4, .int z5, .ref z6, .ref z7, .ref z8, .ref z9, .int (nI z10), .ref z11, .ref z12, .ref z13, .ref z14, .ref z15, .int (nI z16), .ref z17, .int z18, .ref z19]))] ++ va_pl L M) sz) t) (va_A ([(za, .inr (13, [.int z0, .ref z1, .int (nI z2), .int (nI z3), .int z4, .int z5, .ref z6, .ref z7, .ref z8, .ref z9, .int (nI z10), .ref z11, .ref z12, .ref z13, .ref z14, .ref z15, .int (nI z16), .ref z17, .int z18, .ref z19]))] ++ va_pl L M) sz)) 0 0 (va_A ([(za, .inr (13, [.int z0, .ref z1, .int (nI z2), .int (nI z3), .int z4, .int z5, .ref z6, .ref z7, .ref z8, .ref z9, .int (nI z10), .ref z11, .ref z12, .ref z13, .ref z14, .ref z15, .int (nI z16), .ref z17, .int z18, .ref z19]))] ++ va_pl L M) sz) := by
  refine Met.ofW (cc := cX13_leave) (maxL := 8) (ret := (some .int)) (by decide) rfl ?_
  intro p e s m args below meth c s₁ B hml hv
  obtain ⟨rfl, hsz, hP, hK, hD0, hN⟩ := hv
  have hx := B.exec
  have hb := B.bytes
  have hr := B.returns
  have hts := atoms_spec (ws := (wsM yX13_leave cX13_leave 8 (some .int))) B.pre
  have hg : ∀ w ∈ lw_good, w.before _ s = true := fun w h => hts w (List.mem_cons_of_mem _ h)
  have hown : s.vm.findClass RX13 = some m.cls := findClass_of_methodNamed B.named
  have hlocks := B.notSynchronized
  subst hsz
  have hD := hD0.self (sz := s.heap.size)
  generalize hAe : va_A ([(za, .inr (13, [.int z0, .ref z1, .int (nI z2), .int (nI z3), .int z4, .int z5, .ref z6, .ref z7, .ref z8, .ref z9, .int (nI z10), .ref z11, .ref z12, .ref z13, .ref z14, .ref z15, .int (nI z16), .ref z17, .int z18, .ref z19]))] ++ va_pl L M) s.heap.size = A at hD ⊢
  have hA : ∀ q : Nat, s.heap.size ≤ q → A q := fun q h => by rw [← hAe]; exact Or.inr h
  have hS : va_S A s.heap s.heap [] := va_S.rf
  have hl := lv_entry ([.ref za, .int k1, .int k2, .int k3, .int k4, .int k5]) (n := 8) (Nat.le_of_ble_eq_true rfl)
  rw [lg_entry_eq]
  generalize (lg_sl ([.ref za, .int k1, .int k2, .int k3, .int k4, .int k5]) ++ List.replicate (8 - (lg_sl ([.ref za, .int k1, .int k2, .int k3, .int k4, .int k5])).length) Slot.unset).toArray = ls at hl ⊢
  refine W.nameQ (fun Q hQ => ?_)
  refine W.nameR (fun R hR => ?_)
  have hRf : 2 ≤ R.frames := by rw [hR]; exact Nat.le_of_ble_eq_true rfl
  have hRl : 43 ≤ R.locals := by rw [hR]; exact Nat.le_of_ble_eq_true rfl
  have hRc : 0 ≤ R.cells := by rw [hR]; exact Nat.le_of_ble_eq_true rfl
  have hRs : 0 ≤ R.slots := by rw [hR]; exact Nat.le_of_ble_eq_true rfl
  have hF : fr K L [14, 41, 42, 76] M M := fr.rf
  have hl : lv_has ls 8 [(0, .ref za), (1, .int k1), (2, .int k2), (3, .int k3), (4, .int k4), (5, .int k5)] := hl
  have hW0 := hW
  refine lv_aload_n hx hb dX13_leave_0 rfl (lv_at hl 0 rfl) ?_
  refine lv_iconst (v := 0) hx hb dX13_leave_1 (by decide) ?_
  refine va_put (D := D) (ci := 13) (v := .int 0) (ty := .int) (C := RX13) (T := TX13) (N := 20) hx hb hg inG13 tyX13 tyX13_ok nmX13 hown hK hP hD hS 0 rfl rfl 0 (by decide) (hg _ wd_720) (fun _ h9 => h9) rfl (by decide +kernel) rfl rfl (Nat.le_of_ble_eq_true rfl) dX13_leave_2 (fun H_1 locs hP hD hS => ?_)
  have hP : va_P D vwCl ([(za, .inr (13, [.int 0, .ref z1, .int (nI z2), .int (nI z3), .int z4, .int z5, .ref z6, .ref z7, .ref z8, .ref z9, .int (nI z10), .ref z11, .ref z12, .ref z13, .ref z14, .ref z15, .int (nI z16), .ref z17, .int z18, .ref z19]))] ++ va_pl L M) H_1 := hP
  have hD : va_D A ([(za, .inr (13, [.int 0, .ref z1, .int (nI z2), .int (nI z3), .int z4, .int z5, .ref z6, .ref z7, .ref z8, .ref z9, .int (nI z10), .ref z11, .ref z12, .ref z13, .ref z14, .ref z15, .int (nI z16), .ref z17, .int z18, .ref z19]))] ++ va_pl L M) := hD
  refine lv_aload_n hx hb dX13_leave_5 rfl (lv_at hl 0 rfl) ?_
  refine lv_iload_n hx hb dX13_leave_6 rfl (lv_at hl 1 rfl) ?_
  refine lv_iload_n hx hb dX13_leave_7 rfl (lv_at hl 2 rfl) ?_
  have hPc : va_P D vwCl ([(za, .inr (13, [.int 0, .ref z1, .int (nI z2), .int (nI z3), .int z4, .int z5, .ref z6, .ref z7, .ref z8, .ref z9, .int (nI z10), .ref z11, .ref z12, .ref z13, .ref z14, .ref z15, .int (nI z16), .ref z17, .int z18, .ref z19]))] ++ va_pl L M) H_1 := hP
  have hDc : va_D A ([(za, .inr (13, [.int 0, .ref z1, .int (nI z2), .int (nI z3), .int z4, .int z5, .ref z6, .ref z7, .ref z8, .ref z9, .int (nI z10), .ref z11, .ref z12, .ref z13, .ref z14, .ref z15, .int (nI z16), .ref z17, .int z18, .ref z19]))] ++ va_pl L M) := hD
  have hFc : ∀ q, va_A ([(za, .inr (13, [.int 0, .ref z1, .int (nI z2), .int (nI z3), .int z4, .int z5, .ref z6, .ref z7, .ref z8, .ref z9, .int (nI z10), .ref z11, .ref z12, .ref z13, .ref z14, .ref z15, .int (nI z16), .ref z17, .int z18, .ref z19]))] ++ va_pl L M) H_1.size q → A q := pg_free hDc hS hA
  refine va_calli (va_runV (As := [.int k1, .int k2]) (rest := []) ⟨hx, hb, hml, hown, hg⟩ (r_X13_isSeat l D cy K L M H_1.size za 0 z1 z2 z3 z4 z5 z6 z7 z8 z9 z10 z11 z12 z13 z14 z15 z16 z17 z18 z19 k1 k2  hW i1 b2 b3 i6 i7 i8 i9 b10 i11 i12 i13 i14 i15 b16 i17 i19) (cwV 2 hg (gV wd_744 wd_745 wd_746 wd_717 wd_747) rfl rfl rfl (by decide +kernel) ⟨(Nat.le_trans (Nat.le_of_ble_eq_true rfl) hRf), (Nat.le_trans (Nat.le_of_ble_eq_true rfl) hRl)⟩) ⟨PG.blind, va_recv hK hP (ci := 13) (q0 := 0) rfl rfl, fun U hU hW => ⟨rfl, PG.at hPc hK hDc hN hU hW⟩⟩ rfl rfl hl.1 rfl (lv_room (Nat.le_of_ble_eq_true rfl)) dX13_leave_8 ⟨(Nat.le_trans (Nat.le_of_ble_eq_true rfl) hRc), (Nat.le_trans (Nat.le_of_ble_eq_true rfl) hRs)⟩) hS (fun q _ h => hFc q h) hFc (fun r_3 M_4 t H_2 locs ht hvm hw hB hz1 hk1 hS => ?_)
  have hp_5 := hw
  obtain ⟨hP1, hD1⟩ := hB
  rw [ht] at hP1
  have hP : va_P D vwCl ([(za, .inr (13, [.int 0, .ref z1, .int (nI z2), .int (nI z3), .int z4, .int z5, .ref z6, .ref z7, .ref z8, .ref z9, .int (nI z10), .ref z11, .ref z12, .ref z13, .ref z14, .ref z15, .int (nI z16), .ref z17, .int z18, .ref z19]))] ++ va_pl L M) H_2 := hP1
  have hD : va_D A ([(za, .inr (13, [.int 0, .ref z1, .int (nI z2), .int (nI z3), .int z4, .int z5, .ref z6, .ref z7, .ref z8, .ref z9, .int (nI z10), .ref z11, .ref z12, .ref z13, .ref z14, .ref z15, .int (nI z16), .ref z17, .int z18, .ref z19]))] ++ va_pl L M) := hD1.mono hFc
  rcases hp_5 with ⟨rfl, c_6, c_7, c_8, c_9⟩ | rfl
  · have hz := rfl (a := 0)
    refine lv_if_ne (tgt := 20) hx hb dX13_leave_11 (by decide) (fun _ => ?_) (fun c_10 => absurd c_10 (by decide))
    refine lv_aload_n hx hb dX13_leave_20 rfl (lv_at hl 0 rfl) ?_
    refine va_get (D := D) (ci := 13) (v := .ref z1) (C := RX13) (T := TX13) (N := 20) hx hb hg inG13 hown hK hP 0 rfl rfl 1 (by decide) (hg _ wd_739) (fun _ h9 => h9) rfl dX13_leave_21 ?_
    refine lv_iload_n hx hb dX13_leave_24 rfl (lv_at hl 1 rfl) ?_
    obtain ⟨f11, hM11, hf11⟩ := hW.open_23 i1
    have hi_12 : vp_in k1 8 := (inbW (a := z2) (by omega) (inb k1 z2 (by omega) c_6 c_7))
    refine pg_aldq hx hb hK hP i1.1 9 hM11 rfl hi_12 dX13_leave_25 ?_
    obtain ⟨b13, eb_14, hb_15⟩ := hf11 _ (vp_lt hi_12)
    rw [eb_14]
    have hact : ACT z1 z2 b13 M := ⟨(k1 : Int32).toNatClampNeg, vp_lt (inb k1 z2 (by omega) c_6 c_7), by rw [show RFc (M z1) = f11 from by rw [hM11]; rfl]; exact eb_14⟩
    have hAT := GI.at hGI hact
    have hV : VW K L M M b13 (fx M b13) (ax M b13) := VW.rf b13 hGI.2.2.2
    refine lv_astore (lv' := [(6, .ref b13), (0, .ref za), (1, .int k1), (2, .int k2), (3, .int k3), (4, .int k4), (5, .int k5)]) hx hb dX13_leave_26 hl (by decide) rfl (fun ls hl => ?_)
    refine lv_aload_n hx hb dX13_leave_28 rfl (lv_at hl 1 rfl) ?_
    refine lv_aload hx hb dX13_leave_29 (lv_at hl 0 rfl) ?_
    refine lv_iload_n hx hb dX13_leave_31 rfl (lv_at hl 3 rfl) ?_
    obtain ⟨j_16, hj_17, rfl⟩ := i32nat 6 (by decide) c_8 c_9
    have hPc : va_P D vwCl ([(za, .inr (13, [.int 0, .ref z1, .int (nI z2), .int (nI z3), .int z4, .int z5, .ref z6, .ref z7, .ref z8, .ref z9, .int (nI z10), .ref z11, .ref z12, .ref z13, .ref z14, .ref z15, .int (nI z16), .ref z17, .int z18, .ref z19]))] ++ va_pl L M) H_2 := hP
    have hDc : va_D A ([(za, .inr (13, [.int 0, .ref z1, .int (nI z2), .int (nI z3), .int z4, .int z5, .ref z6, .ref z7, .ref z8, .ref z9, .int (nI z10), .ref z11, .ref z12, .ref z13, .ref z14, .ref z15, .int (nI z16), .ref z17, .int z18, .ref z19]))] ++ va_pl L M) := hD
    have hFc : ∀ q, va_A ([(za, .inr (13, [.int 0, .ref z1, .int (nI z2), .int (nI z3), .int z4, .int z5, .ref z6, .ref z7, .ref z8, .ref z9, .int (nI z10), .ref z11, .ref z12, .ref z13, .ref z14, .ref z15, .int (nI z16), .ref z17, .int z18, .ref z19]))] ++ va_pl L M) H_2.size q → A q := pg_free hDc hS hA
    refine va_calli (va_runV (As := [.ref b13, .int (nI j_16)]) (rest := []) ⟨hx, hb, hml, hown, hg⟩ (r_X13_holder l D cy K L M H_2.size za 0 z1 z2 z3 z4 z5 z6 z7 z8 z9 z10 z11 z12 z13 z14 z15 z16 z17 z18 z19 b13 j_16  hW i1 b2 b3 i6 i7 i8 i9 b10 i11 i12 i13 i14 i15 b16 i17 i19 hb_15 (by omega)) (cwV 2 hg (gV wd_779 wd_780 wd_781 wd_717 wd_782) rfl rfl rfl (by decide +kernel) ⟨(Nat.le_trans (Nat.le_of_ble_eq_true rfl) hRf), (Nat.le_trans (Nat.le_of_ble_eq_true rfl) hRl)⟩) ⟨PG.blind, va_recv hK hP (ci := 13) (q0 := 0) rfl rfl, fun U hU hW => ⟨rfl, PG.at hPc hK hDc hN hU hW⟩⟩ rfl rfl hl.1 rfl (lv_room (Nat.le_of_ble_eq_true rfl)) dX13_leave_32 ⟨(Nat.le_trans (Nat.le_of_ble_eq_true rfl) hRc), (Nat.le_trans (Nat.le_of_ble_eq_true rfl) hRs)⟩) hS (fun q _ h => hFc q h) hFc (fun r_19 M_20 t H_18 locs ht hvm hw hB hz1 hk1 hS => ?_)
    have hp_21 := hw
    obtain ⟨hP1, hD1⟩ := hB
    rw [ht] at hP1
    have hP : va_P D vwCl ([(za, .inr (13, [.int 0, .ref z1, .int (nI z2), .int (nI z3), .int z4, .int z5, .ref z6, .ref z7, .ref z8, .ref z9, .int (nI z10), .ref z11, .ref z12, .ref z13, .ref z14, .ref z15, .int (nI z16), .ref z17, .int z18, .ref z19]))] ++ va_pl L M) H_18 := hP1
    have hD : va_D A ([(za, .inr (13, [.int 0, .ref z1, .int (nI z2), .int (nI z3), .int z4, .int z5, .ref z6, .ref z7, .ref z8, .ref z9, .int (nI z10), .ref z11, .ref z12, .ref z13, .ref z14, .ref z15, .int (nI z16), .ref z17, .int z18, .ref z19]))] ++ va_pl L M) := hD1.mono hFc
    rcases hp_21 with rfl | ⟨j_22, rfl, c_23⟩
    · have hz := rfl (a := 0)
      refine lv_istore (lv' := [(7, .int (-1)), (6, .ref b13), (0, .ref za), (1, .int k1), (2, .int (nI j_16)), (3, .int k3), (4, .int k4), (5, .int k5)]) hx hb dX13_leave_35 hl (by decide) rfl (fun ls hl => ?_)
      refine lv_iload hx hb dX13_leave_37 (lv_at hl 0 rfl) ?_
      refine lv_iconst (v := (-1)) hx hb dX13_leave_39 (by decide) ?_
      refine lv_icmp_ne (tgt := 49) hx hb dX13_leave_40 (by decide) (fun c_24 => absurd c_24 (by decide)) (fun _ => ?_)
      refine lv_aload_n hx hb dX13_leave_43 rfl (lv_at hl 2 rfl) ?_
      refine lv_iconst (v := 4) hx hb dX13_leave_44 (by decide) ?_
      have hPc := hP.sub (ws' := [(za, .inr (13, [.int 0, .ref z1, .int (nI z2), .int (nI z3), .int z4, .int z5, .ref z6, .ref z7, .ref z8, .ref z9, .int (nI z10), .ref z11, .ref z12, .ref z13, .ref z14, .ref z15, .int (nI z16), .ref z17, .int z18, .ref z19]))]) [0] rfl
      have hDc := hD.sub (ws' := [(za, .inr (13, [.int 0, .ref z1, .int (nI z2), .int (nI z3), .int z4, .int z5, .ref z6, .ref z7, .ref z8, .ref z9, .int (nI z10), .ref z11, .ref z12, .ref z13, .ref z14, .ref z15, .int (nI z16), .ref z17, .int z18, .ref z19]))]) [0] (by decide) rfl
      have hKc := hK.sub (tys' := []) [] rfl
      have hFc := va_free (wc := [(za, .inr (13, [.int 0, .ref z1, .int (nI z2), .int (nI z3), .int z4, .int z5, .ref z6, .ref z7, .ref z8, .ref z9, .int (nI z10), .ref z11, .ref z12, .ref z13, .ref z14, .ref z15, .int (nI z16), .ref z17, .int z18, .ref z19]))]) hD hS hA [0] rfl
      refine va_calli (va_runV (As := [.int 4]) (rest := []) ⟨hx, hb, hml, hown, hg⟩ (m_refused l D H_18.size za 0 z1 (nI z2) (nI z3) z4 z5 z6 z7 z8 z9 (nI z10) z11 z12 z13 z14 z15 (nI z16) z17 z18 z19 4) (cwV 1 hg (gV wd_725 wd_726 wd_727 wd_717 wd_728) rfl rfl rfl (by decide +kernel) ⟨(Nat.le_trans (Nat.le_of_ble_eq_true rfl) hRf), (Nat.le_trans (Nat.le_of_ble_eq_true rfl) hRl)⟩) ⟨Pr.blind, va_recv hK hP (ci := 13) (q0 := 0) rfl rfl, fun U hU hW => ⟨rfl, Pr.at hPc hKc hDc hN hU hW⟩⟩ rfl rfl hl.1 rfl (lv_room (Nat.le_of_ble_eq_true rfl)) dX13_leave_45 ⟨(Nat.le_trans (Nat.le_of_ble_eq_true rfl) hRc), (Nat.le_trans (Nat.le_of_ble_eq_true rfl) hRs)⟩) hS (fun q _ h => hFc q h) hFc (fun r_26 M_27 t H_25 locs ht hvm hw hB hz1 hk1 hS => ?_)
      have hp_28 := hw
      obtain ⟨hP1, hK1, hD1⟩ := hB
      rw [ht] at hP1
      obtain ⟨hP, hD⟩ := va_joinQ (X := [(za, .inr (13, [.int 0, .ref z1, .int (nI z2), .int (nI z3), .int z4, .int z5, .ref z6, .ref z7, .ref z8, .ref z9, .int (nI z10), .ref z11, .ref z12, .ref z13, .ref z14, .ref z15, .int (nI z16), .ref z17, .int z18, .ref z19]))]) (cx := [(za, .inr (13, [.int 0, .ref z1, .int (nI z2), .int (nI z3), .int z4, .int z5, .ref z6, .ref z7, .ref z8, .ref z9, .int (nI z10), .ref z11, .ref z12, .ref z13, .ref z14, .ref z15, .int (nI z16), .ref z17, .int z18, .ref z19]))]) (wr := []) (w1 := [(za, .inr (13, [.int 0, .ref z1, .int (nI z2), .int (nI z3), .int 4, .int (-1), .ref z6, .ref z7, .ref z8, .ref z9, .int (nI z10), .ref z11, .ref z12, .ref z13, .ref z14, .ref z15, .int (nI z16), .ref z17, .int z18, .ref z19]))]) (pl := va_pl L M) hP hD [0] [] rfl rfl (by decide) (by decide) hk1 hFc hP1 hD1
      have hP : va_P D vwCl ([(za, .inr (13, [.int 0, .ref z1, .int (nI z2), .int (nI z3), .int 4, .int (-1), .ref z6, .ref z7, .ref z8, .ref z9, .int (nI z10), .ref z11, .ref z12, .ref z13, .ref z14, .ref z15, .int (nI z16), .ref z17, .int z18, .ref z19]))] ++ va_pl L M) H_25 := hP
      have hD : va_D A ([(za, .inr (13, [.int 0, .ref z1, .int (nI z2), .int (nI z3), .int 4, .int (-1), .ref z6, .ref z7, .ref z8, .ref z9, .int (nI z10), .ref z11, .ref z12, .ref z13, .ref z14, .ref z15, .int (nI z16), .ref z17, .int z18, .ref z19]))] ++ va_pl L M) := hD
      have hq := Eq.symm hp_28
      subst hq
      rw [hQ]
      exact W.iret (v := (-1)) hx hb hr (fun t ht hW9 => ⟨⟨(-1), M, rfl, ⟨hW, hF, hGI, trivial⟩, ⟨4, (-1), by rw [ht]; exact hP, hD⟩⟩, hS.F ht⟩) hS.2.2 dX13_leave_48
    · have hz := rfl (a := 0)
      refine lv_istore (lv' := [(7, .int (nI j_22)), (6, .ref b13), (0, .ref za), (1, .int k1), (2, .int (nI j_16)), (3, .int k3), (4, .int k4), (5, .int k5)]) hx hb dX13_leave_35 hl (by decide) rfl (fun ls hl => ?_)
      refine lv_iload hx hb dX13_leave_37 (lv_at hl 0 rfl) ?_
      refine lv_iconst (v := (-1)) hx hb dX13_leave_39 (by decide) ?_
      refine lv_icmp_ne (tgt := 49) hx hb dX13_leave_40 (by decide) (fun _ => ?_) (fun c_29 => absurd c_29 (nI_ne_m1 (by omega)))
      refine lv_iload hx hb dX13_leave_49 (lv_at hl 6 rfl) ?_
      refine lv_iconst (v := 1) hx hb dX13_leave_51 (by decide) ?_
      refine lv_icmp_lt (tgt := 73) hx hb dX13_leave_52 (by decide) (fun c_30 => ?_) (fun c_30 => ?_)
      · have hz := rfl (a := 0)
        refine lv_aload_n hx hb dX13_leave_73 rfl (lv_at hl 2 rfl) ?_
        refine lv_iconst (v := 2) hx hb dX13_leave_74 (by decide) ?_
        have hPc := hP.sub (ws' := [(za, .inr (13, [.int 0, .ref z1, .int (nI z2), .int (nI z3), .int z4, .int z5, .ref z6, .ref z7, .ref z8, .ref z9, .int (nI z10), .ref z11, .ref z12, .ref z13, .ref z14, .ref z15, .int (nI z16), .ref z17, .int z18, .ref z19]))]) [0] rfl
        have hDc := hD.sub (ws' := [(za, .inr (13, [.int 0, .ref z1, .int (nI z2), .int (nI z3), .int z4, .int z5, .ref z6, .ref z7, .ref z8, .ref z9, .int (nI z10), .ref z11, .ref z12, .ref z13, .ref z14, .ref z15, .int (nI z16), .ref z17, .int z18, .ref z19]))]) [0] (by decide) rfl
        have hKc := hK.sub (tys' := []) [] rfl
        have hFc := va_free (wc := [(za, .inr (13, [.int 0, .ref z1, .int (nI z2), .int (nI z3), .int z4, .int z5, .ref z6, .ref z7, .ref z8, .ref z9, .int (nI z10), .ref z11, .ref z12, .ref z13, .ref z14, .ref z15, .int (nI z16), .ref z17, .int z18, .ref z19]))]) hD hS hA [0] rfl
        refine va_calli (va_runV (As := [.int 2]) (rest := []) ⟨hx, hb, hml, hown, hg⟩ (m_refused l D H_18.size za 0 z1 (nI z2) (nI z3) z4 z5 z6 z7 z8 z9 (nI z10) z11 z12 z13 z14 z15 (nI z16) z17 z18 z19 2) (cwV 1 hg (gV wd_725 wd_726 wd_727 wd_717 wd_728) rfl rfl rfl (by decide +kernel) ⟨(Nat.le_trans (Nat.le_of_ble_eq_true rfl) hRf), (Nat.le_trans (Nat.le_of_ble_eq_true rfl) hRl)⟩) ⟨Pr.blind, va_recv hK hP (ci := 13) (q0 := 0) rfl rfl, fun U hU hW => ⟨rfl, Pr.at hPc hKc hDc hN hU hW⟩⟩ rfl rfl hl.1 rfl (lv_room (Nat.le_of_ble_eq_true rfl)) dX13_leave_75 ⟨(Nat.le_trans (Nat.le_of_ble_eq_true rfl) hRc), (Nat.le_trans (Nat.le_of_ble_eq_true rfl) hRs)⟩) hS (fun q _ h => hFc q h) hFc (fun r_32 M_33 t H_31 locs ht hvm hw hB hz1 hk1 hS => ?_)
        have hp_34 := hw
        obtain ⟨hP1, hK1, hD1⟩ := hB
        rw [ht] at hP1
        obtain ⟨hP, hD⟩ := va_joinQ (X := [(za, .inr (13, [.int 0, .ref z1, .int (nI z2), .int (nI z3), .int z4, .int z5, .ref z6, .ref z7, .ref z8, .ref z9, .int (nI z10), .ref z11, .ref z12, .ref z13, .ref z14, .ref z15, .int (nI z16), .ref z17, .int z18, .ref z19]))]) (cx := [(za, .inr (13, [.int 0, .ref z1, .int (nI z2), .int (nI z3), .int z4, .int z5, .ref z6, .ref z7, .ref z8, .ref z9, .int (nI z10), .ref z11, .ref z12, .ref z13, .ref z14, .ref z15, .int (nI z16), .ref z17, .int z18, .ref z19]))]) (wr := []) (w1 := [(za, .inr (13, [.int 0, .ref z1, .int (nI z2), .int (nI z3), .int 2, .int (-1), .ref z6, .ref z7, .ref z8, .ref z9, .int (nI z10), .ref z11, .ref z12, .ref z13, .ref z14, .ref z15, .int (nI z16), .ref z17, .int z18, .ref z19]))]) (pl := va_pl L M) hP hD [0] [] rfl rfl (by decide) (by decide) hk1 hFc hP1 hD1
        have hP : va_P D vwCl ([(za, .inr (13, [.int 0, .ref z1, .int (nI z2), .int (nI z3), .int 2, .int (-1), .ref z6, .ref z7, .ref z8, .ref z9, .int (nI z10), .ref z11, .ref z12, .ref z13, .ref z14, .ref z15, .int (nI z16), .ref z17, .int z18, .ref z19]))] ++ va_pl L M) H_31 := hP
        have hD : va_D A ([(za, .inr (13, [.int 0, .ref z1, .int (nI z2), .int (nI z3), .int 2, .int (-1), .ref z6, .ref z7, .ref z8, .ref z9, .int (nI z10), .ref z11, .ref z12, .ref z13, .ref z14, .ref z15, .int (nI z16), .ref z17, .int z18, .ref z19]))] ++ va_pl L M) := hD
        have hq := Eq.symm hp_34
        subst hq
        rw [hQ]
        exact W.iret (v := (-1)) hx hb hr (fun t ht hW9 => ⟨⟨(-1), M, rfl, ⟨hW, hF, hGI, trivial⟩, ⟨2, (-1), by rw [ht]; exact hP, hD⟩⟩, hS.F ht⟩) hS.2.2 dX13_leave_78
      · have hz := rfl (a := 0)
        refine lv_iload hx hb dX13_leave_55 (lv_at hl 6 rfl) ?_
        refine lv_bipush (v := 10) hx hb dX13_leave_57 (by decide) ?_
        refine lv_icmp_gt (tgt := 73) hx hb dX13_leave_59 (by decide) (fun c_35 => ?_) (fun c_35 => ?_)
        · have hz := rfl (a := 0)
          have n_36 : ¬ k4 < 0 := gtN (c := 10) (by omega) c_35
          refine lv_aload_n hx hb dX13_leave_73 rfl (lv_at hl 2 rfl) ?_
          refine lv_iconst (v := 2) hx hb dX13_leave_74 (by decide) ?_
          have hPc := hP.sub (ws' := [(za, .inr (13, [.int 0, .ref z1, .int (nI z2), .int (nI z3), .int z4, .int z5, .ref z6, .ref z7, .ref z8, .ref z9, .int (nI z10), .ref z11, .ref z12, .ref z13, .ref z14, .ref z15, .int (nI z16), .ref z17, .int z18, .ref z19]))]) [0] rfl
          have hDc := hD.sub (ws' := [(za, .inr (13, [.int 0, .ref z1, .int (nI z2), .int (nI z3), .int z4, .int z5, .ref z6, .ref z7, .ref z8, .ref z9, .int (nI z10), .ref z11, .ref z12, .ref z13, .ref z14, .ref z15, .int (nI z16), .ref z17, .int z18, .ref z19]))]) [0] (by decide) rfl
          have hKc := hK.sub (tys' := []) [] rfl
          have hFc := va_free (wc := [(za, .inr (13, [.int 0, .ref z1, .int (nI z2), .int (nI z3), .int z4, .int z5, .ref z6, .ref z7, .ref z8, .ref z9, .int (nI z10), .ref z11, .ref z12, .ref z13, .ref z14, .ref z15, .int (nI z16), .ref z17, .int z18, .ref z19]))]) hD hS hA [0] rfl
          refine va_calli (va_runV (As := [.int 2]) (rest := []) ⟨hx, hb, hml, hown, hg⟩ (m_refused l D H_18.size za 0 z1 (nI z2) (nI z3) z4 z5 z6 z7 z8 z9 (nI z10) z11 z12 z13 z14 z15 (nI z16) z17 z18 z19 2) (cwV 1 hg (gV wd_725 wd_726 wd_727 wd_717 wd_728) rfl rfl rfl (by decide +kernel) ⟨(Nat.le_trans (Nat.le_of_ble_eq_true rfl) hRf), (Nat.le_trans (Nat.le_of_ble_eq_true rfl) hRl)⟩) ⟨Pr.blind, va_recv hK hP (ci := 13) (q0 := 0) rfl rfl, fun U hU hW => ⟨rfl, Pr.at hPc hKc hDc hN hU hW⟩⟩ rfl rfl hl.1 rfl (lv_room (Nat.le_of_ble_eq_true rfl)) dX13_leave_75 ⟨(Nat.le_trans (Nat.le_of_ble_eq_true rfl) hRc), (Nat.le_trans (Nat.le_of_ble_eq_true rfl) hRs)⟩) hS (fun q _ h => hFc q h) hFc (fun r_38 M_39 t H_37 locs ht hvm hw hB hz1 hk1 hS => ?_)
          have hp_40 := hw
          obtain ⟨hP1, hK1, hD1⟩ := hB
          rw [ht] at hP1
          obtain ⟨hP, hD⟩ := va_joinQ (X := [(za, .inr (13, [.int 0, .ref z1, .int (nI z2), .int (nI z3), .int z4, .int z5, .ref z6, .ref z7, .ref z8, .ref z9, .int (nI z10), .ref z11, .ref z12, .ref z13, .ref z14, .ref z15, .int (nI z16), .ref z17, .int z18, .ref z19]))]) (cx := [(za, .inr (13, [.int 0, .ref z1, .int (nI z2), .int (nI z3), .int z4, .int z5, .ref z6, .ref z7, .ref z8, .ref z9, .int (nI z10), .ref z11, .ref z12, .ref z13, .ref z14, .ref z15, .int (nI z16), .ref z17, .int z18, .ref z19]))]) (wr := []) (w1 := [(za, .inr (13, [.int 0, .ref z1, .int (nI z2), .int (nI z3), .int 2, .int (-1), .ref z6, .ref z7, .ref z8, .ref z9, .int (nI z10), .ref z11, .ref z12, .ref z13, .ref z14, .ref z15, .int (nI z16), .ref z17, .int z18, .ref z19]))]) (pl := va_pl L M) hP hD [0] [] rfl rfl (by decide) (by decide) hk1 hFc hP1 hD1
          have hP : va_P D vwCl ([(za, .inr (13, [.int 0, .ref z1, .int (nI z2), .int (nI z3), .int 2, .int (-1), .ref z6, .ref z7, .ref z8, .ref z9, .int (nI z10), .ref z11, .ref z12, .ref z13, .ref z14, .ref z15, .int (nI z16), .ref z17, .int z18, .ref z19]))] ++ va_pl L M) H_37 := hP
          have hD : va_D A ([(za, .inr (13, [.int 0, .ref z1, .int (nI z2), .int (nI z3), .int 2, .int (-1), .ref z6, .ref z7, .ref z8, .ref z9, .int (nI z10), .ref z11, .ref z12, .ref z13, .ref z14, .ref z15, .int (nI z16), .ref z17, .int z18, .ref z19]))] ++ va_pl L M) := hD
          have hq := Eq.symm hp_40
          subst hq
          rw [hQ]
          exact W.iret (v := (-1)) hx hb hr (fun t ht hW9 => ⟨⟨(-1), M, rfl, ⟨hW, hF, hGI, trivial⟩, ⟨2, (-1), by rw [ht]; exact hP, hD⟩⟩, hS.F ht⟩) hS.2.2 dX13_leave_78
        · have hz := rfl (a := 0)
          refine lv_iload hx hb dX13_leave_62 (lv_at hl 7 rfl) ?_
          refine lv_if_lt (tgt := 73) hx hb dX13_leave_64 (by decide) (fun c_41 => ?_) (fun c_41 => ?_)
          · have hz := rfl (a := 0)
            refine lv_aload_n hx hb dX13_leave_73 rfl (lv_at hl 2 rfl) ?_
            refine lv_iconst (v := 2) hx hb dX13_leave_74 (by decide) ?_
            have hPc := hP.sub (ws' := [(za, .inr (13, [.int 0, .ref z1, .int (nI z2), .int (nI z3), .int z4, .int z5, .ref z6, .ref z7, .ref z8, .ref z9, .int (nI z10), .ref z11, .ref z12, .ref z13, .ref z14, .ref z15, .int (nI z16), .ref z17, .int z18, .ref z19]))]) [0] rfl
            have hDc := hD.sub (ws' := [(za, .inr (13, [.int 0, .ref z1, .int (nI z2), .int (nI z3), .int z4, .int z5, .ref z6, .ref z7, .ref z8, .ref z9, .int (nI z10), .ref z11, .ref z12, .ref z13, .ref z14, .ref z15, .int (nI z16), .ref z17, .int z18, .ref z19]))]) [0] (by decide) rfl
            have hKc := hK.sub (tys' := []) [] rfl
            have hFc := va_free (wc := [(za, .inr (13, [.int 0, .ref z1, .int (nI z2), .int (nI z3), .int z4, .int z5, .ref z6, .ref z7, .ref z8, .ref z9, .int (nI z10), .ref z11, .ref z12, .ref z13, .ref z14, .ref z15, .int (nI z16), .ref z17, .int z18, .ref z19]))]) hD hS hA [0] rfl
            refine va_calli (va_runV (As := [.int 2]) (rest := []) ⟨hx, hb, hml, hown, hg⟩ (m_refused l D H_18.size za 0 z1 (nI z2) (nI z3) z4 z5 z6 z7 z8 z9 (nI z10) z11 z12 z13 z14 z15 (nI z16) z17 z18 z19 2) (cwV 1 hg (gV wd_725 wd_726 wd_727 wd_717 wd_728) rfl rfl rfl (by decide +kernel) ⟨(Nat.le_trans (Nat.le_of_ble_eq_true rfl) hRf), (Nat.le_trans (Nat.le_of_ble_eq_true rfl) hRl)⟩) ⟨Pr.blind, va_recv hK hP (ci := 13) (q0 := 0) rfl rfl, fun U hU hW => ⟨rfl, Pr.at hPc hKc hDc hN hU hW⟩⟩ rfl rfl hl.1 rfl (lv_room (Nat.le_of_ble_eq_true rfl)) dX13_leave_75 ⟨(Nat.le_trans (Nat.le_of_ble_eq_true rfl) hRc), (Nat.le_trans (Nat.le_of_ble_eq_true rfl) hRs)⟩) hS (fun q _ h => hFc q h) hFc (fun r_43 M_44 t H_42 locs ht hvm hw hB hz1 hk1 hS => ?_)
            have hp_45 := hw
            obtain ⟨hP1, hK1, hD1⟩ := hB
            rw [ht] at hP1
            obtain ⟨hP, hD⟩ := va_joinQ (X := [(za, .inr (13, [.int 0, .ref z1, .int (nI z2), .int (nI z3), .int z4, .int z5, .ref z6, .ref z7, .ref z8, .ref z9, .int (nI z10), .ref z11, .ref z12, .ref z13, .ref z14, .ref z15, .int (nI z16), .ref z17, .int z18, .ref z19]))]) (cx := [(za, .inr (13, [.int 0, .ref z1, .int (nI z2), .int (nI z3), .int z4, .int z5, .ref z6, .ref z7, .ref z8, .ref z9, .int (nI z10), .ref z11, .ref z12, .ref z13, .ref z14, .ref z15, .int (nI z16), .ref z17, .int z18, .ref z19]))]) (wr := []) (w1 := [(za, .inr (13, [.int 0, .ref z1, .int (nI z2), .int (nI z3), .int 2, .int (-1), .ref z6, .ref z7, .ref z8, .ref z9, .int (nI z10), .ref z11, .ref z12, .ref z13, .ref z14, .ref z15, .int (nI z16), .ref z17, .int z18, .ref z19]))]) (pl := va_pl L M) hP hD [0] [] rfl rfl (by decide) (by decide) hk1 hFc hP1 hD1
            have hP : va_P D vwCl ([(za, .inr (13, [.int 0, .ref z1, .int (nI z2), .int (nI z3), .int 2, .int (-1), .ref z6, .ref z7, .ref z8, .ref z9, .int (nI z10), .ref z11, .ref z12, .ref z13, .ref z14, .ref z15, .int (nI z16), .ref z17, .int z18, .ref z19]))] ++ va_pl L M) H_42 := hP
            have hD : va_D A ([(za, .inr (13, [.int 0, .ref z1, .int (nI z2), .int (nI z3), .int 2, .int (-1), .ref z6, .ref z7, .ref z8, .ref z9, .int (nI z10), .ref z11, .ref z12, .ref z13, .ref z14, .ref z15, .int (nI z16), .ref z17, .int z18, .ref z19]))] ++ va_pl L M) := hD
            have hq := Eq.symm hp_45
            subst hq
            rw [hQ]
            exact W.iret (v := (-1)) hx hb hr (fun t ht hW9 => ⟨⟨(-1), M, rfl, ⟨hW, hF, hGI, trivial⟩, ⟨2, (-1), by rw [ht]; exact hP, hD⟩⟩, hS.F ht⟩) hS.2.2 dX13_leave_78
          · have hz := rfl (a := 0)
            refine lv_iload hx hb dX13_leave_67 (lv_at hl 7 rfl) ?_
            refine lv_iconst (v := 5) hx hb dX13_leave_69 (by decide) ?_
            refine lv_icmp_le (tgt := 79) hx hb dX13_leave_70 (by decide) (fun c_46 => ?_) (fun c_46 => ?_)
            · have hz := rfl (a := 0)
              refine lv_aload hx hb dX13_leave_79 (lv_at hl 1 rfl) ?_
              refine lv_iload_n hx hb dX13_leave_81 rfl (lv_at hl 5 rfl) ?_
              obtain ⟨fs47, hM47, hn47, hl47⟩ := hW.open_12 hb_15
              have hPc : va_P D vwCl ([] ++ va_pl L M) H_18 := hP.part (cx := []) [] rfl
              have hDc : va_D A ([] ++ va_pl L M) := hD.part (cx := []) [] (by decide) rfl
              have hFc : ∀ q, va_A ([] ++ va_pl L M) H_18.size q → A q := pg_free hDc hS hA
              refine va_calli (va_runV (As := [.int k3]) (rest := []) ⟨hx, hb, hml, hown, hg⟩ (r_X12_isFree l D cy K L M H_18.size b13 k3  hW hb_15) (cwV 1 hg (gV wd_807 wd_808 wd_809 wd_737 wd_810) rfl rfl rfl (by decide +kernel) ⟨(Nat.le_trans (Nat.le_of_ble_eq_true rfl) hRf), (Nat.le_trans (Nat.le_of_ble_eq_true rfl) hRl)⟩) ⟨PG.blind, pg_recv hK hP hb_15.1 hM47 rfl, fun U hU hW => ⟨rfl, PG.at hPc hK hDc hN hU hW⟩⟩ rfl rfl hl.1 rfl (lv_room (Nat.le_of_ble_eq_true rfl)) dX13_leave_82 ⟨(Nat.le_trans (Nat.le_of_ble_eq_true rfl) hRc), (Nat.le_trans (Nat.le_of_ble_eq_true rfl) hRs)⟩) hS (fun q _ h => hFc q h) hFc (fun r_49 M_50 t H_48 locs ht hvm hw hB hz1 hk1 hS => ?_)
              have hp_51 := hw
              obtain ⟨hP1, hD1⟩ := hB
              rw [ht] at hP1
              obtain ⟨hP, hD⟩ := va_joinP (X := [(za, .inr (13, [.int 0, .ref z1, .int (nI z2), .int (nI z3), .int z4, .int z5, .ref z6, .ref z7, .ref z8, .ref z9, .int (nI z10), .ref z11, .ref z12, .ref z13, .ref z14, .ref z15, .int (nI z16), .ref z17, .int z18, .ref z19]))]) (cx := []) (wr := [(za, .inr (13, [.int 0, .ref z1, .int (nI z2), .int (nI z3), .int z4, .int z5, .ref z6, .ref z7, .ref z8, .ref z9, .int (nI z10), .ref z11, .ref z12, .ref z13, .ref z14, .ref z15, .int (nI z16), .ref z17, .int z18, .ref z19]))]) (rx := []) (pl := va_pl L M) (pl1 := va_pl L M) hP hD [] [0] rfl rfl (by decide) (by decide) hk1 hFc hP1 hD1
              have hP : va_P D vwCl ([(za, .inr (13, [.int 0, .ref z1, .int (nI z2), .int (nI z3), .int z4, .int z5, .ref z6, .ref z7, .ref z8, .ref z9, .int (nI z10), .ref z11, .ref z12, .ref z13, .ref z14, .ref z15, .int (nI z16), .ref z17, .int z18, .ref z19]))] ++ va_pl L M) H_48 := hP
              have hD : va_D A ([(za, .inr (13, [.int 0, .ref z1, .int (nI z2), .int (nI z3), .int z4, .int z5, .ref z6, .ref z7, .ref z8, .ref z9, .int (nI z10), .ref z11, .ref z12, .ref z13, .ref z14, .ref z15, .int (nI z16), .ref z17, .int z18, .ref z19]))] ++ va_pl L M) := hD
              rcases hp_51 with ⟨rfl, c_52, c_53⟩ | rfl
              · have hz := rfl (a := 0)
                refine lv_if_eq (tgt := 100) hx hb dX13_leave_85 (by decide) (fun c_54 => absurd c_54 (by decide)) (fun _ => ?_)
                refine lv_iload_n hx hb dX13_leave_88 rfl (lv_at hl 5 rfl) ?_
                refine lv_aload hx hb dX13_leave_89 (lv_at hl 1 rfl) ?_
                obtain ⟨v55, hv55, hc55⟩ : ∃ v : Nat, fs47[21]? = some (.ref v : Value) ∧ isk K L v 75 24 := hl47 21 (by decide)
                refine pg_getN (D := D) (ci := 12) (v := .ref v55) (C := RX12) (T := TX12) (N := 51) hx hb hg inG12 hown hK hP hb_15.1 hM47 rfl 21 (by decide) (hN.use (Cond.fieldLinkNest RX13 112 RX12 "begin" "[I" RX13) 30 rfl rfl) (fun _ h9 => h9) hv55 dX13_leave_91 ?_
                refine lv_iload hx hb dX13_leave_94 (lv_at hl 0 rfl) ?_
                obtain ⟨f56, hM56⟩ := hW.open_75 hc55
                refine pg_iald hx hb hK hP hc55.1 0 hM56 rfl (inbN j_22 24 (by omega) (by omega)) dX13_leave_96 ?_
                refine lv_topi (fun f_57 ef_57 => ?_)
                refine lv_icmp_gt (tgt := 106) hx hb dX13_leave_97 (by decide) (fun c_58 => ?_) (fun c_58 => ?_)
                · have hz := rfl (a := 0)
                  refine lv_aload hx hb dX13_leave_106 (lv_at hl 1 rfl) ?_
                  obtain ⟨v59, hv59, hc59⟩ : ∃ v : Nat, fs47[22]? = some (.ref v : Value) ∧ isk K L v 41 24 := hl47 22 (by decide)
                  refine pg_getN (D := D) (ci := 12) (v := .ref v59) (C := RX12) (T := TX12) (N := 51) hx hb hg inG12 hown hK hP hb_15.1 hM47 rfl 22 (by decide) (hN.use (Cond.fieldLinkNest RX13 95 RX12 "ended" "[I" RX13) 31 rfl rfl) (fun _ h9 => h9) hv59 dX13_leave_108 ?_
                  refine lv_iload hx hb dX13_leave_111 (lv_at hl 0 rfl) ?_
                  refine lv_iload_n hx hb dX13_leave_113 rfl (lv_at hl 5 rfl) ?_
                  obtain ⟨f60, hM60⟩ := hW.open_41 hc59
                  refine pg_iast hx hb hK hP hD hS hc59.1 0 hM60 rfl (inbN j_22 24 (by omega) (by omega)) dX13_leave_114 (fun H_61 locs hP hD hS => ?_)
                  obtain ⟨M_62, eM_62⟩ : ∃ M1 : Hp, M1 = va_up M v59 (.inl (cy 14, 24, .inl (upd f60 ((nI j_22) : Int32).toNatClampNeg k3))) := ⟨_, rfl⟩
                  have hy22 : (ax M b13 22) = f60 := (congrFun hV.2.2.1 22).symm.trans (ax_of hM47 (by decide) hv59 hM60)
                  have hV : VW K L M M_62 b13 (fx M b13) (va_up (ax M b13) 22 (upd (ax M b13 22) ((nI j_22) : Int32).toNatClampNeg k3)) := by rw [eM_62]; exact hV.ast (j := 22) hW hb_15 hM47 (by decide) hv59 hc59 hM60
                  have hP : va_P D vwCl ([(za, .inr (13, [.int 0, .ref z1, .int (nI z2), .int (nI z3), .int z4, .int z5, .ref z6, .ref z7, .ref z8, .ref z9, .int (nI z10), .ref z11, .ref z12, .ref z13, .ref z14, .ref z15, .int (nI z16), .ref z17, .int z18, .ref z19]))] ++ va_pl L M_62) H_61 := by rw [eM_62]; exact hP
                  have hD : va_D A ([(za, .inr (13, [.int 0, .ref z1, .int (nI z2), .int (nI z3), .int z4, .int z5, .ref z6, .ref z7, .ref z8, .ref z9, .int (nI z10), .ref z11, .ref z12, .ref z13, .ref z14, .ref z15, .int (nI z16), .ref z17, .int z18, .ref z19]))] ++ va_pl L M_62) := by rw [eM_62]; exact hD
                  have hW : WOM cy K L M_62 := by rw [eM_62]; exact hW.up_41 hc59 ⟨_, rfl⟩
                  have hF : fr K L [14, 41, 42, 76] M M_62 := by rw [eM_62]; exact hF.up hc59 (by decide)
                  have hM_63 : M_62 v59 = .inl (cy 14, 24, .inl (upd f60 ((nI j_22) : Int32).toNatClampNeg k3)) := by rw [eM_62]; exact va_up_self _ _ _
                  have hM_64 : M_62 z1 = .inl (cy 23, 8, .inr (.inr (.inr (.inr (f11))))) := by rw [eM_62, va_up_ne _ _ (i1.neT hc59 (by decide))]; exact hM11
                  have hM_65 : M_62 b13 = .inr (12, fs47) := by rw [eM_62, va_up_ne _ _ (hb_15.neT hc59 (by decide))]; exact hM47
                  have hM_66 : M_62 v55 = .inl (cy 14, 24, .inl (f56)) := by rw [eM_62, va_up_ne _ _ (hc55.neT hc59 (by decide))]; exact hM56
                  obtain ⟨f_67, ef_67⟩ : ∃ f : Nat → Int32, f = upd f60 ((nI j_22) : Int32).toNatClampNeg k3 := ⟨_, rfl⟩
                  rw [← ef_67] at hM_63
                  refine lv_aload hx hb dX13_leave_115 (lv_at hl 1 rfl) ?_
                  obtain ⟨v68, hv68, hc68⟩ : ∃ v : Nat, fs47[23]? = some (.ref v : Value) ∧ isk K L v 42 24 := hl47 23 (by decide)
                  refine pg_getN (D := D) (ci := 12) (v := .ref v68) (C := RX12) (T := TX12) (N := 51) hx hb hg inG12 hown hK hP hb_15.1 hM_65 rfl 23 (by decide) (hN.use (Cond.fieldLinkNest RX13 115 RX12 "instalments" "[I" RX13) 32 rfl rfl) (fun _ h9 => h9) hv68 dX13_leave_117 ?_
                  refine lv_iload hx hb dX13_leave_120 (lv_at hl 0 rfl) ?_
                  refine lv_iload hx hb dX13_leave_122 (lv_at hl 6 rfl) ?_
                  obtain ⟨f69, hM69⟩ := hW.open_42 hc68
                  refine pg_iast hx hb hK hP hD hS hc68.1 0 hM69 rfl (inbN j_22 24 (by omega) (by omega)) dX13_leave_124 (fun H_70 locs hP hD hS => ?_)
                  obtain ⟨M_71, eM_71⟩ : ∃ M1 : Hp, M1 = va_up M_62 v68 (.inl (cy 14, 24, .inl (upd f69 ((nI j_22) : Int32).toNatClampNeg k4))) := ⟨_, rfl⟩
                  have hy23 : (ax M b13 23) = f69 := (congrFun hV.2.2.1 23).symm.trans (ax_of hM_65 (by decide) hv68 hM69)
                  have hV : VW K L M M_71 b13 (fx M b13) (va_up (va_up (ax M b13) 22 (upd (ax M b13 22) ((nI j_22) : Int32).toNatClampNeg k3)) 23 (upd (ax M b13 23) ((nI j_22) : Int32).toNatClampNeg k4)) := by rw [eM_71]; exact hV.ast (j := 23) hW hb_15 hM_65 (by decide) hv68 hc68 hM69
                  have hP : va_P D vwCl ([(za, .inr (13, [.int 0, .ref z1, .int (nI z2), .int (nI z3), .int z4, .int z5, .ref z6, .ref z7, .ref z8, .ref z9, .int (nI z10), .ref z11, .ref z12, .ref z13, .ref z14, .ref z15, .int (nI z16), .ref z17, .int z18, .ref z19]))] ++ va_pl L M_71) H_70 := by rw [eM_71]; exact hP
                  have hD : va_D A ([(za, .inr (13, [.int 0, .ref z1, .int (nI z2), .int (nI z3), .int z4, .int z5, .ref z6, .ref z7, .ref z8, .ref z9, .int (nI z10), .ref z11, .ref z12, .ref z13, .ref z14, .ref z15, .int (nI z16), .ref z17, .int z18, .ref z19]))] ++ va_pl L M_71) := by rw [eM_71]; exact hD
                  have hW : WOM cy K L M_71 := by rw [eM_71]; exact hW.up_42 hc68 ⟨_, rfl⟩
                  have hF : fr K L [14, 41, 42, 76] M M_71 := by rw [eM_71]; exact hF.up hc68 (by decide)
                  have hM_72 : M_71 v68 = .inl (cy 14, 24, .inl (upd f69 ((nI j_22) : Int32).toNatClampNeg k4)) := by rw [eM_71]; exact va_up_self _ _ _
                  have hM_73 : M_71 v59 = .inl (cy 14, 24, .inl (f_67)) := by rw [eM_71, va_up_ne _ _ (hc59.neT hc68 (by decide))]; exact hM_63
                  have hM_74 : M_71 z1 = .inl (cy 23, 8, .inr (.inr (.inr (.inr (f11))))) := by rw [eM_71, va_up_ne _ _ (i1.neT hc68 (by decide))]; exact hM_64
                  have hM_75 : M_71 b13 = .inr (12, fs47) := by rw [eM_71, va_up_ne _ _ (hb_15.neT hc68 (by decide))]; exact hM_65
                  have hM_76 : M_71 v55 = .inl (cy 14, 24, .inl (f56)) := by rw [eM_71, va_up_ne _ _ (hc55.neT hc68 (by decide))]; exact hM_66
                  obtain ⟨f_77, ef_77⟩ : ∃ f : Nat → Int32, f = upd f69 ((nI j_22) : Int32).toNatClampNeg k4 := ⟨_, rfl⟩
                  rw [← ef_77] at hM_72
                  refine lv_aload hx hb dX13_leave_125 (lv_at hl 1 rfl) ?_
                  obtain ⟨v78, hv78, hc78⟩ : ∃ v : Nat, fs47[24]? = some (.ref v : Value) ∧ isk K L v 76 24 := hl47 24 (by decide)
                  refine pg_getN (D := D) (ci := 12) (v := .ref v78) (C := RX12) (T := TX12) (N := 51) hx hb hg inG12 hown hK hP hb_15.1 hM_75 rfl 24 (by decide) (hN.use (Cond.fieldLinkNest RX13 118 RX12 "bears" "[I" RX13) 33 rfl rfl) (fun _ h9 => h9) hv78 dX13_leave_127 ?_
                  refine lv_iload hx hb dX13_leave_130 (lv_at hl 0 rfl) ?_
                  refine lv_iload hx hb dX13_leave_132 (lv_at hl 7 rfl) ?_
                  obtain ⟨f79, hM79⟩ := hW.open_76 hc78
                  refine pg_iast hx hb hK hP hD hS hc78.1 0 hM79 rfl (inbN j_22 24 (by omega) (by omega)) dX13_leave_134 (fun H_80 locs hP hD hS => ?_)
                  obtain ⟨M_81, eM_81⟩ : ∃ M1 : Hp, M1 = va_up M_71 v78 (.inl (cy 14, 24, .inl (upd f79 ((nI j_22) : Int32).toNatClampNeg k5))) := ⟨_, rfl⟩
                  have hy24 : (ax M b13 24) = f79 := (congrFun hV.2.2.1 24).symm.trans (ax_of hM_75 (by decide) hv78 hM79)
                  have hV : VW K L M M_81 b13 (fx M b13) (va_up (va_up (va_up (ax M b13) 22 (upd (ax M b13 22) ((nI j_22) : Int32).toNatClampNeg k3)) 23 (upd (ax M b13 23) ((nI j_22) : Int32).toNatClampNeg k4)) 24 (upd (ax M b13 24) ((nI j_22) : Int32).toNatClampNeg k5)) := by rw [eM_81]; exact hV.ast (j := 24) hW hb_15 hM_75 (by decide) hv78 hc78 hM79
                  have hP : va_P D vwCl ([(za, .inr (13, [.int 0, .ref z1, .int (nI z2), .int (nI z3), .int z4, .int z5, .ref z6, .ref z7, .ref z8, .ref z9, .int (nI z10), .ref z11, .ref z12, .ref z13, .ref z14, .ref z15, .int (nI z16), .ref z17, .int z18, .ref z19]))] ++ va_pl L M_81) H_80 := by rw [eM_81]; exact hP
                  have hD : va_D A ([(za, .inr (13, [.int 0, .ref z1, .int (nI z2), .int (nI z3), .int z4, .int z5, .ref z6, .ref z7, .ref z8, .ref z9, .int (nI z10), .ref z11, .ref z12, .ref z13, .ref z14, .ref z15, .int (nI z16), .ref z17, .int z18, .ref z19]))] ++ va_pl L M_81) := by rw [eM_81]; exact hD
                  have hW : WOM cy K L M_81 := by rw [eM_81]; exact hW.up_76 hc78 ⟨_, rfl⟩
                  have hF : fr K L [14, 41, 42, 76] M M_81 := by rw [eM_81]; exact hF.up hc78 (by decide)
                  have hM_82 : M_81 v78 = .inl (cy 14, 24, .inl (upd f79 ((nI j_22) : Int32).toNatClampNeg k5)) := by rw [eM_81]; exact va_up_self _ _ _
                  have hM_83 : M_81 v68 = .inl (cy 14, 24, .inl (f_77)) := by rw [eM_81, va_up_ne _ _ (hc68.neT hc78 (by decide))]; exact hM_72
                  have hM_84 : M_81 v59 = .inl (cy 14, 24, .inl (f_67)) := by rw [eM_81, va_up_ne _ _ (hc59.neT hc78 (by decide))]; exact hM_73
                  have hM_85 : M_81 z1 = .inl (cy 23, 8, .inr (.inr (.inr (.inr (f11))))) := by rw [eM_81, va_up_ne _ _ (i1.neT hc78 (by decide))]; exact hM_74
                  have hM_86 : M_81 b13 = .inr (12, fs47) := by rw [eM_81, va_up_ne _ _ (hb_15.neT hc78 (by decide))]; exact hM_75
                  have hM_87 : M_81 v55 = .inl (cy 14, 24, .inl (f56)) := by rw [eM_81, va_up_ne _ _ (hc55.neT hc78 (by decide))]; exact hM_76
                  obtain ⟨f_88, ef_88⟩ : ∃ f : Nat → Int32, f = upd f79 ((nI j_22) : Int32).toNatClampNeg k5 := ⟨_, rfl⟩
                  rw [← ef_88] at hM_82
                  refine lv_aload_n hx hb dX13_leave_135 rfl (lv_at hl 2 rfl) ?_
                  refine lv_iload hx hb dX13_leave_136 (lv_at hl 0 rfl) ?_
                  have hPc := hP.sub (ws' := [(za, .inr (13, [.int 0, .ref z1, .int (nI z2), .int (nI z3), .int z4, .int z5, .ref z6, .ref z7, .ref z8, .ref z9, .int (nI z10), .ref z11, .ref z12, .ref z13, .ref z14, .ref z15, .int (nI z16), .ref z17, .int z18, .ref z19]))]) [0] rfl
                  have hDc := hD.sub (ws' := [(za, .inr (13, [.int 0, .ref z1, .int (nI z2), .int (nI z3), .int z4, .int z5, .ref z6, .ref z7, .ref z8, .ref z9, .int (nI z10), .ref z11, .ref z12, .ref z13, .ref z14, .ref z15, .int (nI z16), .ref z17, .int z18, .ref z19]))]) [0] (by decide) rfl
                  have hKc := hK.sub (tys' := []) [] rfl
                  have hFc := va_free (wc := [(za, .inr (13, [.int 0, .ref z1, .int (nI z2), .int (nI z3), .int z4, .int z5, .ref z6, .ref z7, .ref z8, .ref z9, .int (nI z10), .ref z11, .ref z12, .ref z13, .ref z14, .ref z15, .int (nI z16), .ref z17, .int z18, .ref z19]))]) hD hS hA [0] rfl
                  refine va_calli (va_runV (As := [.int (nI j_22)]) (rest := []) ⟨hx, hb, hml, hown, hg⟩ (m_done l D H_80.size za 0 z1 (nI z2) (nI z3) z4 z5 z6 z7 z8 z9 (nI z10) z11 z12 z13 z14 z15 (nI z16) z17 z18 z19 (nI j_22)) (cwV 1 hg (gV wd_730 wd_731 wd_732 wd_717 wd_733) rfl rfl rfl (by decide +kernel) ⟨(Nat.le_trans (Nat.le_of_ble_eq_true rfl) hRf), (Nat.le_trans (Nat.le_of_ble_eq_true rfl) hRl)⟩) ⟨Pr.blind, va_recv hK hP (ci := 13) (q0 := 0) rfl rfl, fun U hU hW => ⟨rfl, Pr.at hPc hKc hDc hN hU hW⟩⟩ rfl rfl hl.1 rfl (lv_room (Nat.le_of_ble_eq_true rfl)) dX13_leave_138 ⟨(Nat.le_trans (Nat.le_of_ble_eq_true rfl) hRc), (Nat.le_trans (Nat.le_of_ble_eq_true rfl) hRs)⟩) hS (fun q _ h => hFc q h) hFc (fun r_90 M_91 t H_89 locs ht hvm hw hB hz1 hk1 hS => ?_)
                  have hp_92 := hw
                  obtain ⟨hP1, hK1, hD1⟩ := hB
                  rw [ht] at hP1
                  obtain ⟨hP, hD⟩ := va_joinQ (X := [(za, .inr (13, [.int 0, .ref z1, .int (nI z2), .int (nI z3), .int z4, .int z5, .ref z6, .ref z7, .ref z8, .ref z9, .int (nI z10), .ref z11, .ref z12, .ref z13, .ref z14, .ref z15, .int (nI z16), .ref z17, .int z18, .ref z19]))]) (cx := [(za, .inr (13, [.int 0, .ref z1, .int (nI z2), .int (nI z3), .int z4, .int z5, .ref z6, .ref z7, .ref z8, .ref z9, .int (nI z10), .ref z11, .ref z12, .ref z13, .ref z14, .ref z15, .int (nI z16), .ref z17, .int z18, .ref z19]))]) (wr := []) (w1 := [(za, .inr (13, [.int 0, .ref z1, .int (nI z2), .int (nI z3), .int 0, .int (-1), .ref z6, .ref z7, .ref z8, .ref z9, .int (nI z10), .ref z11, .ref z12, .ref z13, .ref z14, .ref z15, .int (nI z16), .ref z17, .int z18, .ref z19]))]) (pl := va_pl L M_81) hP hD [0] [] rfl rfl (by decide) (by decide) hk1 hFc hP1 hD1
                  have hP : va_P D vwCl ([(za, .inr (13, [.int 0, .ref z1, .int (nI z2), .int (nI z3), .int 0, .int (-1), .ref z6, .ref z7, .ref z8, .ref z9, .int (nI z10), .ref z11, .ref z12, .ref z13, .ref z14, .ref z15, .int (nI z16), .ref z17, .int z18, .ref z19]))] ++ va_pl L M_81) H_89 := hP
                  have hD : va_D A ([(za, .inr (13, [.int 0, .ref z1, .int (nI z2), .int (nI z3), .int 0, .int (-1), .ref z6, .ref z7, .ref z8, .ref z9, .int (nI z10), .ref z11, .ref z12, .ref z13, .ref z14, .ref z15, .int (nI z16), .ref z17, .int z18, .ref z19]))] ++ va_pl L M_81) := hD
                  have hq := Eq.symm hp_92
                  subst hq
                  have hA9 : HA (ax M b13 2) (ax M b13 3) := hAT.1
                  have hB9 : HB (fx M b13 16) (fx M b13 14) (ax M b13 3) (ax M b13 43) := hAT.2.1
                  have hC9 : HC (fx M b13 10) (upd (ax M b13 22) ((nI j_22) : Int32).toNatClampNeg k3) (upd (ax M b13 23) ((nI j_22) : Int32).toNatClampNeg k4) := HC.st hAT.2.2.1 (by first | decide | exact ge1 (by assumption) | (rw [nI_toInt (by omega)]; omega))
                  have hD9 : HD (fx M b13 0) (fx M b13 11) (fx M b13 15) (ax M b13 34) (ax M b13 41) := hAT.2.2.2.1
                  have hE9 : HE (fx M b13 0) (fx M b13 1) (fx M b13 12) (fx M b13 13) (ax M b13 37) := hAT.2.2.2.2
                  have hH9 : HI (fx M b13) (va_up (va_up (va_up (ax M b13) 22 (upd (ax M b13 22) ((nI j_22) : Int32).toNatClampNeg k3)) 23 (upd (ax M b13 23) ((nI j_22) : Int32).toNatClampNeg k4)) 24 (upd (ax M b13 24) ((nI j_22) : Int32).toNatClampNeg k5)) := ⟨hA9, hB9, hC9, hD9, hE9⟩
                  have hGI9 : GI K L z1 z2 M_81 := GI.fin hW0 i1 b2 hGI hact hV (hF.at i1 (by decide)) hH9
                  rw [hQ]
                  exact W.iret (v := (nI j_22)) hx hb hr (fun t ht hW9 => ⟨⟨(nI j_22), M_81, rfl, ⟨hW, hF, hGI9, trivial⟩, ⟨0, (-1), by rw [ht]; exact hP, hD⟩⟩, hS.F ht⟩) hS.2.2 dX13_leave_141
                · have hz := rfl (a := 0)
                  refine lv_aload_n hx hb dX13_leave_100 rfl (lv_at hl 2 rfl) ?_
                  refine lv_iconst (v := 3) hx hb dX13_leave_101 (by decide) ?_
                  have hPc := hP.sub (ws' := [(za, .inr (13, [.int 0, .ref z1, .int (nI z2), .int (nI z3), .int z4, .int z5, .ref z6, .ref z7, .ref z8, .ref z9, .int (nI z10), .ref z11, .ref z12, .ref z13, .ref z14, .ref z15, .int (nI z16), .ref z17, .int z18, .ref z19]))]) [0] rfl
                  have hDc := hD.sub (ws' := [(za, .inr (13, [.int 0, .ref z1, .int (nI z2), .int (nI z3), .int z4, .int z5, .ref z6, .ref z7, .ref z8, .ref z9, .int (nI z10), .ref z11, .ref z12, .ref z13, .ref z14, .ref z15, .int (nI z16), .ref z17, .int z18, .ref z19]))]) [0] (by decide) rfl
                  have hKc := hK.sub (tys' := []) [] rfl
                  have hFc := va_free (wc := [(za, .inr (13, [.int 0, .ref z1, .int (nI z2), .int (nI z3), .int z4, .int z5, .ref z6, .ref z7, .ref z8, .ref z9, .int (nI z10), .ref z11, .ref z12, .ref z13, .ref z14, .ref z15, .int (nI z16), .ref z17, .int z18, .ref z19]))]) hD hS hA [0] rfl
                  refine va_calli (va_runV (As := [.int 3]) (rest := []) ⟨hx, hb, hml, hown, hg⟩ (m_refused l D H_48.size za 0 z1 (nI z2) (nI z3) z4 z5 z6 z7 z8 z9 (nI z10) z11 z12 z13 z14 z15 (nI z16) z17 z18 z19 3) (cwV 1 hg (gV wd_725 wd_726 wd_727 wd_717 wd_728) rfl rfl rfl (by decide +kernel) ⟨(Nat.le_trans (Nat.le_of_ble_eq_true rfl) hRf), (Nat.le_trans (Nat.le_of_ble_eq_true rfl) hRl)⟩) ⟨Pr.blind, va_recv hK hP (ci := 13) (q0 := 0) rfl rfl, fun U hU hW => ⟨rfl, Pr.at hPc hKc hDc hN hU hW⟩⟩ rfl rfl hl.1 rfl (lv_room (Nat.le_of_ble_eq_true rfl)) dX13_leave_102 ⟨(Nat.le_trans (Nat.le_of_ble_eq_true rfl) hRc), (Nat.le_trans (Nat.le_of_ble_eq_true rfl) hRs)⟩) hS (fun q _ h => hFc q h) hFc (fun r_94 M_95 t H_93 locs ht hvm hw hB hz1 hk1 hS => ?_)
                  have hp_96 := hw
                  obtain ⟨hP1, hK1, hD1⟩ := hB
                  rw [ht] at hP1
                  obtain ⟨hP, hD⟩ := va_joinQ (X := [(za, .inr (13, [.int 0, .ref z1, .int (nI z2), .int (nI z3), .int z4, .int z5, .ref z6, .ref z7, .ref z8, .ref z9, .int (nI z10), .ref z11, .ref z12, .ref z13, .ref z14, .ref z15, .int (nI z16), .ref z17, .int z18, .ref z19]))]) (cx := [(za, .inr (13, [.int 0, .ref z1, .int (nI z2), .int (nI z3), .int z4, .int z5, .ref z6, .ref z7, .ref z8, .ref z9, .int (nI z10), .ref z11, .ref z12, .ref z13, .ref z14, .ref z15, .int (nI z16), .ref z17, .int z18, .ref z19]))]) (wr := []) (w1 := [(za, .inr (13, [.int 0, .ref z1, .int (nI z2), .int (nI z3), .int 3, .int (-1), .ref z6, .ref z7, .ref z8, .ref z9, .int (nI z10), .ref z11, .ref z12, .ref z13, .ref z14, .ref z15, .int (nI z16), .ref z17, .int z18, .ref z19]))]) (pl := va_pl L M) hP hD [0] [] rfl rfl (by decide) (by decide) hk1 hFc hP1 hD1
                  have hP : va_P D vwCl ([(za, .inr (13, [.int 0, .ref z1, .int (nI z2), .int (nI z3), .int 3, .int (-1), .ref z6, .ref z7, .ref z8, .ref z9, .int (nI z10), .ref z11, .ref z12, .ref z13, .ref z14, .ref z15, .int (nI z16), .ref z17, .int z18, .ref z19]))] ++ va_pl L M) H_93 := hP
                  have hD : va_D A ([(za, .inr (13, [.int 0, .ref z1, .int (nI z2), .int (nI z3), .int 3, .int (-1), .ref z6, .ref z7, .ref z8, .ref z9, .int (nI z10), .ref z11, .ref z12, .ref z13, .ref z14, .ref z15, .int (nI z16), .ref z17, .int z18, .ref z19]))] ++ va_pl L M) := hD
                  have hq := Eq.symm hp_96
                  subst hq
                  rw [hQ]
                  exact W.iret (v := (-1)) hx hb hr (fun t ht hW9 => ⟨⟨(-1), M, rfl, ⟨hW, hF, hGI, trivial⟩, ⟨3, (-1), by rw [ht]; exact hP, hD⟩⟩, hS.F ht⟩) hS.2.2 dX13_leave_105
              · have hz := rfl (a := 0)
                refine lv_if_eq (tgt := 100) hx hb dX13_leave_85 (by decide) (fun _ => ?_) (fun c_97 => absurd c_97 (by decide))
                refine lv_aload_n hx hb dX13_leave_100 rfl (lv_at hl 2 rfl) ?_
                refine lv_iconst (v := 3) hx hb dX13_leave_101 (by decide) ?_
                have hPc := hP.sub (ws' := [(za, .inr (13, [.int 0, .ref z1, .int (nI z2), .int (nI z3), .int z4, .int z5, .ref z6, .ref z7, .ref z8, .ref z9, .int (nI z10), .ref z11, .ref z12, .ref z13, .ref z14, .ref z15, .int (nI z16), .ref z17, .int z18, .ref z19]))]) [0] rfl
                have hDc := hD.sub (ws' := [(za, .inr (13, [.int 0, .ref z1, .int (nI z2), .int (nI z3), .int z4, .int z5, .ref z6, .ref z7, .ref z8, .ref z9, .int (nI z10), .ref z11, .ref z12, .ref z13, .ref z14, .ref z15, .int (nI z16), .ref z17, .int z18, .ref z19]))]) [0] (by decide) rfl
                have hKc := hK.sub (tys' := []) [] rfl
                have hFc := va_free (wc := [(za, .inr (13, [.int 0, .ref z1, .int (nI z2), .int (nI z3), .int z4, .int z5, .ref z6, .ref z7, .ref z8, .ref z9, .int (nI z10), .ref z11, .ref z12, .ref z13, .ref z14, .ref z15, .int (nI z16), .ref z17, .int z18, .ref z19]))]) hD hS hA [0] rfl
                refine va_calli (va_runV (As := [.int 3]) (rest := []) ⟨hx, hb, hml, hown, hg⟩ (m_refused l D H_48.size za 0 z1 (nI z2) (nI z3) z4 z5 z6 z7 z8 z9 (nI z10) z11 z12 z13 z14 z15 (nI z16) z17 z18 z19 3) (cwV 1 hg (gV wd_725 wd_726 wd_727 wd_717 wd_728) rfl rfl rfl (by decide +kernel) ⟨(Nat.le_trans (Nat.le_of_ble_eq_true rfl) hRf), (Nat.le_trans (Nat.le_of_ble_eq_true rfl) hRl)⟩) ⟨Pr.blind, va_recv hK hP (ci := 13) (q0 := 0) rfl rfl, fun U hU hW => ⟨rfl, Pr.at hPc hKc hDc hN hU hW⟩⟩ rfl rfl hl.1 rfl (lv_room (Nat.le_of_ble_eq_true rfl)) dX13_leave_102 ⟨(Nat.le_trans (Nat.le_of_ble_eq_true rfl) hRc), (Nat.le_trans (Nat.le_of_ble_eq_true rfl) hRs)⟩) hS (fun q _ h => hFc q h) hFc (fun r_99 M_100 t H_98 locs ht hvm hw hB hz1 hk1 hS => ?_)
                have hp_101 := hw
                obtain ⟨hP1, hK1, hD1⟩ := hB
                rw [ht] at hP1
                obtain ⟨hP, hD⟩ := va_joinQ (X := [(za, .inr (13, [.int 0, .ref z1, .int (nI z2), .int (nI z3), .int z4, .int z5, .ref z6, .ref z7, .ref z8, .ref z9, .int (nI z10), .ref z11, .ref z12, .ref z13, .ref z14, .ref z15, .int (nI z16), .ref z17, .int z18, .ref z19]))]) (cx := [(za, .inr (13, [.int 0, .ref z1, .int (nI z2), .int (nI z3), .int z4, .int z5, .ref z6, .ref z7, .ref z8, .ref z9, .int (nI z10), .ref z11, .ref z12, .ref z13, .ref z14, .ref z15, .int (nI z16), .ref z17, .int z18, .ref z19]))]) (wr := []) (w1 := [(za, .inr (13, [.int 0, .ref z1, .int (nI z2), .int (nI z3), .int 3, .int (-1), .ref z6, .ref z7, .ref z8, .ref z9, .int (nI z10), .ref z11, .ref z12, .ref z13, .ref z14, .ref z15, .int (nI z16), .ref z17, .int z18, .ref z19]))]) (pl := va_pl L M) hP hD [0] [] rfl rfl (by decide) (by decide) hk1 hFc hP1 hD1
                have hP : va_P D vwCl ([(za, .inr (13, [.int 0, .ref z1, .int (nI z2), .int (nI z3), .int 3, .int (-1), .ref z6, .ref z7, .ref z8, .ref z9, .int (nI z10), .ref z11, .ref z12, .ref z13, .ref z14, .ref z15, .int (nI z16), .ref z17, .int z18, .ref z19]))] ++ va_pl L M) H_98 := hP
                have hD : va_D A ([(za, .inr (13, [.int 0, .ref z1, .int (nI z2), .int (nI z3), .int 3, .int (-1), .ref z6, .ref z7, .ref z8, .ref z9, .int (nI z10), .ref z11, .ref z12, .ref z13, .ref z14, .ref z15, .int (nI z16), .ref z17, .int z18, .ref z19]))] ++ va_pl L M) := hD
                have hq := Eq.symm hp_101
                subst hq
                rw [hQ]
                exact W.iret (v := (-1)) hx hb hr (fun t ht hW9 => ⟨⟨(-1), M, rfl, ⟨hW, hF, hGI, trivial⟩, ⟨3, (-1), by rw [ht]; exact hP, hD⟩⟩, hS.F ht⟩) hS.2.2 dX13_leave_105
            · have hz := rfl (a := 0)
              have n_102 : ¬ k5 < 0 := gtN (c := 5) (by omega) (Int32.not_le.mp c_46)
              refine lv_aload_n hx hb dX13_leave_73 rfl (lv_at hl 2 rfl) ?_
              refine lv_iconst (v := 2) hx hb dX13_leave_74 (by decide) ?_
              have hPc := hP.sub (ws' := [(za, .inr (13, [.int 0, .ref z1, .int (nI z2), .int (nI z3), .int z4, .int z5, .ref z6, .ref z7, .ref z8, .ref z9, .int (nI z10), .ref z11, .ref z12, .ref z13, .ref z14, .ref z15, .int (nI z16), .ref z17, .int z18, .ref z19]))]) [0] rfl
              have hDc := hD.sub (ws' := [(za, .inr (13, [.int 0, .ref z1, .int (nI z2), .int (nI z3), .int z4, .int z5, .ref z6, .ref z7, .ref z8, .ref z9, .int (nI z10), .ref z11, .ref z12, .ref z13, .ref z14, .ref z15, .int (nI z16), .ref z17, .int z18, .ref z19]))]) [0] (by decide) rfl
              have hKc := hK.sub (tys' := []) [] rfl
              have hFc := va_free (wc := [(za, .inr (13, [.int 0, .ref z1, .int (nI z2), .int (nI z3), .int z4, .int z5, .ref z6, .ref z7, .ref z8, .ref z9, .int (nI z10), .ref z11, .ref z12, .ref z13, .ref z14, .ref z15, .int (nI z16), .ref z17, .int z18, .ref z19]))]) hD hS hA [0] rfl
              refine va_calli (va_runV (As := [.int 2]) (rest := []) ⟨hx, hb, hml, hown, hg⟩ (m_refused l D H_18.size za 0 z1 (nI z2) (nI z3) z4 z5 z6 z7 z8 z9 (nI z10) z11 z12 z13 z14 z15 (nI z16) z17 z18 z19 2) (cwV 1 hg (gV wd_725 wd_726 wd_727 wd_717 wd_728) rfl rfl rfl (by decide +kernel) ⟨(Nat.le_trans (Nat.le_of_ble_eq_true rfl) hRf), (Nat.le_trans (Nat.le_of_ble_eq_true rfl) hRl)⟩) ⟨Pr.blind, va_recv hK hP (ci := 13) (q0 := 0) rfl rfl, fun U hU hW => ⟨rfl, Pr.at hPc hKc hDc hN hU hW⟩⟩ rfl rfl hl.1 rfl (lv_room (Nat.le_of_ble_eq_true rfl)) dX13_leave_75 ⟨(Nat.le_trans (Nat.le_of_ble_eq_true rfl) hRc), (Nat.le_trans (Nat.le_of_ble_eq_true rfl) hRs)⟩) hS (fun q _ h => hFc q h) hFc (fun r_104 M_105 t H_103 locs ht hvm hw hB hz1 hk1 hS => ?_)
              have hp_106 := hw
              obtain ⟨hP1, hK1, hD1⟩ := hB
              rw [ht] at hP1
              obtain ⟨hP, hD⟩ := va_joinQ (X := [(za, .inr (13, [.int 0, .ref z1, .int (nI z2), .int (nI z3), .int z4, .int z5, .ref z6, .ref z7, .ref z8, .ref z9, .int (nI z10), .ref z11, .ref z12, .ref z13, .ref z14, .ref z15, .int (nI z16), .ref z17, .int z18, .ref z19]))]) (cx := [(za, .inr (13, [.int 0, .ref z1, .int (nI z2), .int (nI z3), .int z4, .int z5, .ref z6, .ref z7, .ref z8, .ref z9, .int (nI z10), .ref z11, .ref z12, .ref z13, .ref z14, .ref z15, .int (nI z16), .ref z17, .int z18, .ref z19]))]) (wr := []) (w1 := [(za, .inr (13, [.int 0, .ref z1, .int (nI z2), .int (nI z3), .int 2, .int (-1), .ref z6, .ref z7, .ref z8, .ref z9, .int (nI z10), .ref z11, .ref z12, .ref z13, .ref z14, .ref z15, .int (nI z16), .ref z17, .int z18, .ref z19]))]) (pl := va_pl L M) hP hD [0] [] rfl rfl (by decide) (by decide) hk1 hFc hP1 hD1
              have hP : va_P D vwCl ([(za, .inr (13, [.int 0, .ref z1, .int (nI z2), .int (nI z3), .int 2, .int (-1), .ref z6, .ref z7, .ref z8, .ref z9, .int (nI z10), .ref z11, .ref z12, .ref z13, .ref z14, .ref z15, .int (nI z16), .ref z17, .int z18, .ref z19]))] ++ va_pl L M) H_103 := hP
              have hD : va_D A ([(za, .inr (13, [.int 0, .ref z1, .int (nI z2), .int (nI z3), .int 2, .int (-1), .ref z6, .ref z7, .ref z8, .ref z9, .int (nI z10), .ref z11, .ref z12, .ref z13, .ref z14, .ref z15, .int (nI z16), .ref z17, .int z18, .ref z19]))] ++ va_pl L M) := hD
              have hq := Eq.symm hp_106
              subst hq
              rw [hQ]
              exact W.iret (v := (-1)) hx hb hr (fun t ht hW9 => ⟨⟨(-1), M, rfl, ⟨hW, hF, hGI, trivial⟩, ⟨2, (-1), by rw [ht]; exact hP, hD⟩⟩, hS.F ht⟩) hS.2.2 dX13_leave_78
  · have hz := rfl (a := 0)
    refine lv_if_ne (tgt := 20) hx hb dX13_leave_11 (by decide) (fun c_107 => absurd c_107 (by decide)) (fun _ => ?_)
    refine lv_aload_n hx hb dX13_leave_14 rfl (lv_at hl 0 rfl) ?_
    refine lv_iconst (v := 1) hx hb dX13_leave_15 (by decide) ?_
    have hPc := hP.sub (ws' := [(za, .inr (13, [.int 0, .ref z1, .int (nI z2), .int (nI z3), .int z4, .int z5, .ref z6, .ref z7, .ref z8, .ref z9, .int (nI z10), .ref z11, .ref z12, .ref z13, .ref z14, .ref z15, .int (nI z16), .ref z17, .int z18, .ref z19]))]) [0] rfl
    have hDc := hD.sub (ws' := [(za, .inr (13, [.int 0, .ref z1, .int (nI z2), .int (nI z3), .int z4, .int z5, .ref z6, .ref z7, .ref z8, .ref z9, .int (nI z10), .ref z11, .ref z12, .ref z13, .ref z14, .ref z15, .int (nI z16), .ref z17, .int z18, .ref z19]))]) [0] (by decide) rfl
    have hKc := hK.sub (tys' := []) [] rfl
    have hFc := va_free (wc := [(za, .inr (13, [.int 0, .ref z1, .int (nI z2), .int (nI z3), .int z4, .int z5, .ref z6, .ref z7, .ref z8, .ref z9, .int (nI z10), .ref z11, .ref z12, .ref z13, .ref z14, .ref z15, .int (nI z16), .ref z17, .int z18, .ref z19]))]) hD hS hA [0] rfl
    refine va_calli (va_runV (As := [.int 1]) (rest := []) ⟨hx, hb, hml, hown, hg⟩ (m_refused l D H_2.size za 0 z1 (nI z2) (nI z3) z4 z5 z6 z7 z8 z9 (nI z10) z11 z12 z13 z14 z15 (nI z16) z17 z18 z19 1) (cwV 1 hg (gV wd_725 wd_726 wd_727 wd_717 wd_728) rfl rfl rfl (by decide +kernel) ⟨(Nat.le_trans (Nat.le_of_ble_eq_true rfl) hRf), (Nat.le_trans (Nat.le_of_ble_eq_true rfl) hRl)⟩) ⟨Pr.blind, va_recv hK hP (ci := 13) (q0 := 0) rfl rfl, fun U hU hW => ⟨rfl, Pr.at hPc hKc hDc hN hU hW⟩⟩ rfl rfl hl.1 rfl (lv_room (Nat.le_of_ble_eq_true rfl)) dX13_leave_16 ⟨(Nat.le_trans (Nat.le_of_ble_eq_true rfl) hRc), (Nat.le_trans (Nat.le_of_ble_eq_true rfl) hRs)⟩) hS (fun q _ h => hFc q h) hFc (fun r_109 M_110 t H_108 locs ht hvm hw hB hz1 hk1 hS => ?_)
    have hp_111 := hw
    obtain ⟨hP1, hK1, hD1⟩ := hB
    rw [ht] at hP1
    obtain ⟨hP, hD⟩ := va_joinQ (X := [(za, .inr (13, [.int 0, .ref z1, .int (nI z2), .int (nI z3), .int z4, .int z5, .ref z6, .ref z7, .ref z8, .ref z9, .int (nI z10), .ref z11, .ref z12, .ref z13, .ref z14, .ref z15, .int (nI z16), .ref z17, .int z18, .ref z19]))]) (cx := [(za, .inr (13, [.int 0, .ref z1, .int (nI z2), .int (nI z3), .int z4, .int z5, .ref z6, .ref z7, .ref z8, .ref z9, .int (nI z10), .ref z11, .ref z12, .ref z13, .ref z14, .ref z15, .int (nI z16), .ref z17, .int z18, .ref z19]))]) (wr := []) (w1 := [(za, .inr (13, [.int 0, .ref z1, .int (nI z2), .int (nI z3), .int 1, .int (-1), .ref z6, .ref z7, .ref z8, .ref z9, .int (nI z10), .ref z11, .ref z12, .ref z13, .ref z14, .ref z15, .int (nI z16), .ref z17, .int z18, .ref z19]))]) (pl := va_pl L M) hP hD [0] [] rfl rfl (by decide) (by decide) hk1 hFc hP1 hD1
    have hP : va_P D vwCl ([(za, .inr (13, [.int 0, .ref z1, .int (nI z2), .int (nI z3), .int 1, .int (-1), .ref z6, .ref z7, .ref z8, .ref z9, .int (nI z10), .ref z11, .ref z12, .ref z13, .ref z14, .ref z15, .int (nI z16), .ref z17, .int z18, .ref z19]))] ++ va_pl L M) H_108 := hP
    have hD : va_D A ([(za, .inr (13, [.int 0, .ref z1, .int (nI z2), .int (nI z3), .int 1, .int (-1), .ref z6, .ref z7, .ref z8, .ref z9, .int (nI z10), .ref z11, .ref z12, .ref z13, .ref z14, .ref z15, .int (nI z16), .ref z17, .int z18, .ref z19]))] ++ va_pl L M) := hD
    have hq := Eq.symm hp_111
    subst hq
    rw [hQ]
    exact W.iret (v := (-1)) hx hb hr (fun t ht hW9 => ⟨⟨(-1), M, rfl, ⟨hW, hF, hGI, trivial⟩, ⟨1, (-1), by rw [ht]; exact hP, hD⟩⟩, hS.F ht⟩) hS.2.2 dX13_leave_19
set_option maxHeartbeats 4000000 in
set_option maxRecDepth 100000 in
theorem r_begins2 (l : Launch) (D : va_G) (cy : Nat → ClassId) (K : Kp) (L : List Nat) (M : Hp) (sz : Nat) (za : Nat) (z0 : Int32) (z1 : Nat) (z2 : Nat) (z3 : Nat) (z4 : Int32) (z5 : Int32) (z6 : Nat) (z7 : Nat) (z8 : Nat) (z9 : Nat) (z10 : Nat) (z11 : Nat) (z12 : Nat) (z13 : Nat) (z14 : Nat) (z15 : Nat) (z16 : Nat) (z17 : Nat) (z18 : Int32) (z19 : Nat) (k1 : Nat) (k2 : Nat) (k3 : Nat) (k4 : Int32) (k5 : Int32) (hW : WOM cy K L M) (i1 : isk K L z1 23 8) (b2 : z2 ≤ 8) (b3 : z3 ≤ 40) (i6 : isk K L z6 47 40) (i7 : isk K L z7 48 40) (i8 : isk K L z8 49 8) (i9 : isk K L z9 50 8) (b10 : z10 ≤ 8) (i11 : isk K L z11 32 24) (i12 : isk K L z12 14 24) (i13 : isk K L z13 15 24) (i14 : isk K L z14 15 24) (i15 : isk K L z15 15 24) (b16 : z16 ≤ 24) (i17 : isk K L z17 14 24) (i19 : isk K L z19 15 25) (ik1 : isk K L k1 12 0) (nk2 : k2 < 6) (nk3 : k3 < 40) (hFL : FL k1 10 24 M) (hO : OWN K L M) : Met l yX13_begins (wsM yX13_begins cX13_begins 7 (some .int)) ({ frames := 0, cells := 0, slots := 0, locals := 0 }) (va_Pc [.ref za, .ref k1, .int (nI k2), .int (nI k3), .int k4, .int k5] (PG D cy [(za, .inr (13, [.int z0, .ref z1, .int (nI z2), .int (nI z3), .int z4, .int z5, .ref z6, .ref z7, .ref z8, .ref z9, .int (nI z10), .ref z11, .ref z12, .ref z13, .ref z14, .ref z15, .int (nI z16), .ref z17, .int z18, .ref z19]))] L M sz)) (va_Qi (fun (r : Int32) (M9 : Hp) => WOM cy K L M9 ∧ fr K L [12, 14, 16, 30, 31, 33, 34, 41, 42, 75, 76] M M9 ∧ fG K L [10] M M9 ∧ (∃ n9 : Nat, fx M k1 10 = (n9 : Int) ∧ n9 < 24 ∧ VW K L M M9 k1 (va_up (fx M k1) 10 ((n9 + 1 : Nat) : Int)) (va_up (va_up (va_up (va_up (va_up (va_up (va_up (va_up (ax M k1) 19 (upd (ax M k1 19) (nI n9).toNatClampNeg (nI k3))) 20 (upd (ax M k1 20) (nI n9).toNatClampNeg (nI k2))) 21 (upd (ax M k1 21) (nI n9).toNatClampNeg k4)) 22 (upd (ax M k1 22) (nI n9).toNatClampNeg (-1))) 23 (upd (ax M k1 23) (nI n9).toNatClampNeg 0)) 24 (upd (ax M k1 24) (nI n9).toNatClampNeg 0)) 25 (upd (ax M k1 25) (nI n9).toNatClampNeg (-1))) 9 (upd (ax M k1 9) (nI k2).toNatClampNeg (nI (n9 + 1))))) ∧ ((∃ (j : Nat), r = (nI j) ∧ j < 24))) (fun M9 t => PQ D [(za, .inr (13, [.int z0, .ref z1, .int (nI z2), .int (nI z3), .int z4, .int z5, .ref z6, .ref z7, .ref z8, .ref z9, .int (nI z10), .ref z11, .ref z12, .ref z13, .ref z14, .ref z15, .int (nI z16), .ref z17, .int z18, .ref z19]))] L M9 (va_A ([(za, .inr (13, [.int z0, .ref z1, .int (nI z2), .int (nI z3), .int z4, .int z5, .ref z6, .ref z7, .ref z8, .ref z9, .int (nI z10), .ref z11, .ref z12, .ref z13, .ref z14, .ref z15, .int (nI z16), .ref z17, .int z18, .ref z19]))] ++ va_pl L M) sz) t) (va_A ([(za, .inr (13, [.int z0, .ref z1, .int (nI z2), .int (nI z3), .int z4, .int z5, .ref z6, .ref z7, .ref z8, .ref z9, .int (nI z10), .ref z11, .ref z12, .ref z13, .ref z14, .ref z15, .int (nI z16), .ref z17, .int z18, .ref z19]))] ++ va_pl L M) sz)) 0 0 (va_A ([(za, .inr (13, [.int z0, .ref z1, .int (nI z2), .int (nI z3), .int z4, .int z5, .ref z6, .ref z7, .ref z8, .ref z9, .int (nI z10), .ref z11, .ref z12, .ref z13, .ref z14, .ref z15, .int (nI z16), .ref z17, .int z18, .ref z19]))] ++ va_pl L M) sz) := by
  refine Met.ofW (cc := cX13_begins) (maxL := 7) (ret := (some .int)) (by decide) rfl ?_
  intro p e s m args below meth c s₁ B hml hv
  obtain ⟨rfl, hsz, hP, hK, hD0, hN⟩ := hv
  have hx := B.exec
  have hb := B.bytes
  have hr := B.returns
  have hts := atoms_spec (ws := (wsM yX13_begins cX13_begins 7 (some .int))) B.pre
  have hg : ∀ w ∈ lw_good, w.before _ s = true := fun w h => hts w (List.mem_cons_of_mem _ h)
  have hown : s.vm.findClass RX13 = some m.cls := findClass_of_methodNamed B.named
  have hlocks := B.notSynchronized
  subst hsz
  have hD := hD0.self (sz := s.heap.size)
  generalize hAe : va_A ([(za, .inr (13, [.int z0, .ref z1, .int (nI z2), .int (nI z3), .int z4, .int z5, .ref z6, .ref z7, .ref z8, .ref z9, .int (nI z10), .ref z11, .ref z12, .ref z13, .ref z14, .ref z15, .int (nI z16), .ref z17, .int z18, .ref z19]))] ++ va_pl L M) s.heap.size = A at hD ⊢
  have hA : ∀ q : Nat, s.heap.size ≤ q → A q := fun q h => by rw [← hAe]; exact Or.inr h
  have hS : va_S A s.heap s.heap [] := va_S.rf
  have hl := lv_entry ([.ref za, .ref k1, .int (nI k2), .int (nI k3), .int k4, .int k5]) (n := 7) (Nat.le_of_ble_eq_true rfl)
  rw [lg_entry_eq]
  generalize (lg_sl ([.ref za, .ref k1, .int (nI k2), .int (nI k3), .int k4, .int k5]) ++ List.replicate (7 - (lg_sl ([.ref za, .ref k1, .int (nI k2), .int (nI k3), .int k4, .int k5])).length) Slot.unset).toArray = ls at hl ⊢
  refine W.nameQ (fun Q hQ => ?_)
  refine W.nameR (fun R hR => ?_)
  have hRf : 0 ≤ R.frames := by rw [hR]; exact Nat.le_of_ble_eq_true rfl
  have hRl : 0 ≤ R.locals := by rw [hR]; exact Nat.le_of_ble_eq_true rfl
  have hRc : 0 ≤ R.cells := by rw [hR]; exact Nat.le_of_ble_eq_true rfl
  have hRs : 0 ≤ R.slots := by rw [hR]; exact Nat.le_of_ble_eq_true rfl
  have hF : fr K L [12, 14, 16, 30, 31, 33, 34, 41, 42, 75, 76] M M := fr.rf
  have hG : fG K L [10] M M := fG.rf
  have hl : lv_has ls 7 [(0, .ref za), (1, .ref k1), (2, .int (nI k2)), (3, .int (nI k3)), (4, .int k4), (5, .int k5)] := hl
  have hW0 := hW
  obtain ⟨fs1, hM1, hn1, hl1⟩ := hW.open_12 ik1
  obtain ⟨v2, hv2, hc2⟩ : ∃ v : Nat, fs1[10]? = some (.int (nI v) : Value) ∧ v ≤ 24 := hl1 10 (by decide)
  have hfl : v2 < 24 := by
    obtain ⟨fs, n, e1, e2, e3⟩ := hFL
    rw [inr12 (e1.symm.trans hM1)] at e2
    have e4 := Value.int.inj (Option.some.inj (e2.symm.trans hv2))
    have e5 := (iEQ (by omega) (by omega)).mp e4
    omega
  have hV : VW K L M M k1 (fx M k1) (ax M k1) := VW.rf k1 hO
  refine lv_aload_n hx hb dX13_begins_0 rfl (lv_at hl 1 rfl) ?_
  refine pg_getN (D := D) (ci := 12) (v := .int (nI v2)) (C := RX12) (T := TX12) (N := 51) hx hb hg inG12 hown hK hP ik1.1 hM1 rfl 10 (by decide) (hN.use (Cond.fieldLinkNest RX13 68 RX12 "tenures" "I" RX13) 19 rfl rfl) (fun _ h9 => h9) hv2 dX13_begins_1 ?_
  refine lv_istore (lv' := [(6, .int (nI v2)), (0, .ref za), (1, .ref k1), (2, .int (nI k2)), (3, .int (nI k3)), (4, .int k4), (5, .int k5)]) hx hb dX13_begins_4 hl (by decide) rfl (fun ls hl => ?_)
  refine lv_aload_n hx hb dX13_begins_6 rfl (lv_at hl 2 rfl) ?_
  refine lv_dup hx hb dX13_begins_7 rfl ?_
  refine pg_getN (D := D) (ci := 12) (v := .int (nI v2)) (C := RX12) (T := TX12) (N := 51) hx hb hg inG12 hown hK hP ik1.1 hM1 rfl 10 (by decide) (hN.use (Cond.fieldLinkNest RX13 68 RX12 "tenures" "I" RX13) 19 rfl rfl) (fun _ h9 => h9) hv2 dX13_begins_8 ?_
  refine lv_iconst (v := 1) hx hb dX13_begins_11 (by decide) ?_
  refine lv_iadd hx hb dX13_begins_12 ?_
  refine lv_topi (fun f_3 ef_3 => ?_)
  obtain rfl : f_3 = (nI (v2 + 1)) := ef_3.trans (nI_add v2 1)
  refine pg_putN (D := D) (ci := 12) (v := .int (nI (v2 + 1))) (ty := .int) (C := RX12) (T := TX12) (N := 51) hx hb hg inG12 tyX12 tyX12_ok nmX12 hown hK hP hD hS ik1.1 hM1 rfl 10 (by decide) (hN.use (Cond.fieldLinkNest RX13 68 RX12 "tenures" "I" RX13) 19 rfl rfl) (fun _ h9 => h9) rfl (by decide +kernel) rfl rfl (by rw [hn1]; decide) dX13_begins_13 (fun H_4 locs hP hD hS => ?_)
  have hs_7 : (fs1.set 10 (.int (nI (v2 + 1))))[10]? = some (.int (nI (v2 + 1))) := List.getElem?_set_self (by rw [hn1]; decide)
  have hk_6 := fld12_set (k := 10) (w := .int (nI (v2 + 1))) hl1 (show fld12 K L 10 (fs1.set 10 (.int (nI (v2 + 1)))) from ⟨(v2 + 1), hs_7, by omega⟩)
  have hn_8 : (fs1.set 10 (.int (nI (v2 + 1)))).length = 51 := by rw [List.length_set]; exact hn1
  have hb_9 : (v2 + 1) ≤ 24 := by omega
  obtain ⟨M_10, eM_10⟩ : ∃ M1 : Hp, M1 = va_up M k1 (.inr (12, fs1.set 10 (.int (nI (v2 + 1))))) := ⟨_, rfl⟩
  have hx10 : (fx M k1 10) = ((v2 : Nat) : Int) := (congrFun hV.2.1 10).symm.trans ((fx_of hM1 rfl hv2).trans (nI_toInt (by omega)))
  have hV : VW K L M M_10 k1 (va_up (fx M k1) 10 (((v2 + 1) : Nat) : Int)) (ax M k1) := by rw [eM_10]; exact hV.put hW ik1 hM1 hn1 rfl (by decide) rfl (nI_toInt (by omega))
  have hP : va_P D vwCl ([(za, .inr (13, [.int z0, .ref z1, .int (nI z2), .int (nI z3), .int z4, .int z5, .ref z6, .ref z7, .ref z8, .ref z9, .int (nI z10), .ref z11, .ref z12, .ref z13, .ref z14, .ref z15, .int (nI z16), .ref z17, .int z18, .ref z19]))] ++ va_pl L M_10) H_4 := by rw [eM_10]; exact hP
  have hD : va_D A ([(za, .inr (13, [.int z0, .ref z1, .int (nI z2), .int (nI z3), .int z4, .int z5, .ref z6, .ref z7, .ref z8, .ref z9, .int (nI z10), .ref z11, .ref z12, .ref z13, .ref z14, .ref z15, .int (nI z16), .ref z17, .int z18, .ref z19]))] ++ va_pl L M_10) := by rw [eM_10]; exact hD
  have hW : WOM cy K L M_10 := by rw [eM_10]; exact hW.up_12 ik1 ⟨_, rfl, hn_8, hk_6⟩
  have hF : fr K L [12, 14, 16, 30, 31, 33, 34, 41, 42, 75, 76] M M_10 := by rw [eM_10]; exact hF.up ik1 (by decide)
  have hG : fG K L [10] M M_10 := by rw [eM_10]; exact hG.up hM1 (by decide)
  have hM_11 : M_10 k1 = .inr (12, fs1.set 10 (.int (nI (v2 + 1)))) := by rw [eM_10]; exact va_up_self _ _ _
  refine lv_aload_n hx hb dX13_begins_16 rfl (lv_at hl 2 rfl) ?_
  obtain ⟨v12, hv12, hc12⟩ : ∃ v : Nat, (fs1.set 10 (.int (nI (v2 + 1))))[19]? = some (.ref v : Value) ∧ isk K L v 30 24 := hk_6 19 (by decide)
  refine pg_getN (D := D) (ci := 12) (v := .ref v12) (C := RX12) (T := TX12) (N := 51) hx hb hg inG12 hown hK hP ik1.1 hM_11 rfl 19 (by decide) (hN.use (Cond.fieldLinkNest RX13 72 RX12 "who" "[I" RX13) 28 rfl rfl) (fun _ h9 => h9) hv12 dX13_begins_17 ?_
  refine lv_iload hx hb dX13_begins_20 (lv_at hl 0 rfl) ?_
  refine lv_iload_n hx hb dX13_begins_22 rfl (lv_at hl 4 rfl) ?_
  obtain ⟨f13, hM13, hf13⟩ := hW.open_30 hc12
  refine pg_iast hx hb hK hP hD hS hc12.1 0 hM13 rfl (inbN v2 24 (by omega) (by omega)) dX13_begins_23 (fun H_14 locs hP hD hS => ?_)
  obtain ⟨M_15, eM_15⟩ : ∃ M1 : Hp, M1 = va_up M_10 v12 (.inl (cy 14, 24, .inl (upd f13 ((nI v2) : Int32).toNatClampNeg (nI k3)))) := ⟨_, rfl⟩
  have hy19 : (ax M k1 19) = f13 := (congrFun hV.2.2.1 19).symm.trans (ax_of hM_11 (by decide) hv12 hM13)
  have hV : VW K L M M_15 k1 (va_up (fx M k1) 10 (((v2 + 1) : Nat) : Int)) (va_up (ax M k1) 19 (upd (ax M k1 19) ((nI v2) : Int32).toNatClampNeg (nI k3))) := by rw [eM_15]; exact hV.ast (j := 19) hW ik1 hM_11 (by decide) hv12 hc12 hM13
  have hP : va_P D vwCl ([(za, .inr (13, [.int z0, .ref z1, .int (nI z2), .int (nI z3), .int z4, .int z5, .ref z6, .ref z7, .ref z8, .ref z9, .int (nI z10), .ref z11, .ref z12, .ref z13, .ref z14, .ref z15, .int (nI z16), .ref z17, .int z18, .ref z19]))] ++ va_pl L M_15) H_14 := by rw [eM_15]; exact hP
  have hD : va_D A ([(za, .inr (13, [.int z0, .ref z1, .int (nI z2), .int (nI z3), .int z4, .int z5, .ref z6, .ref z7, .ref z8, .ref z9, .int (nI z10), .ref z11, .ref z12, .ref z13, .ref z14, .ref z15, .int (nI z16), .ref z17, .int z18, .ref z19]))] ++ va_pl L M_15) := by rw [eM_15]; exact hD
  have hW : WOM cy K L M_15 := by rw [eM_15]; exact hW.up_30 hc12 ⟨_, rfl, (updP (P := fun z => ∃ c : Nat, c < 40 ∧ z = nI c) hf13 ⟨k3, by omega, rfl⟩)⟩
  have hF : fr K L [12, 14, 16, 30, 31, 33, 34, 41, 42, 75, 76] M M_15 := by rw [eM_15]; exact hF.up hc12 (by decide)
  have hG : fG K L [10] M M_15 := by rw [eM_15]; exact hG.arr hc12 (by decide)
  have hM_16 : M_15 v12 = .inl (cy 14, 24, .inl (upd f13 ((nI v2) : Int32).toNatClampNeg (nI k3))) := by rw [eM_15]; exact va_up_self _ _ _
  have hM_17 : M_15 k1 = .inr (12, fs1.set 10 (.int (nI (v2 + 1)))) := by rw [eM_15, va_up_ne _ _ (ik1.neT hc12 (by decide))]; exact hM_11
  have hf_19 : ∀ j, j < 24 → ∃ c : Nat, c < 40 ∧ (upd f13 ((nI v2) : Int32).toNatClampNeg (nI k3)) j = nI c := (updP (P := fun z => ∃ c : Nat, c < 40 ∧ z = nI c) hf13 ⟨k3, by omega, rfl⟩)
  obtain ⟨f_18, ef_18⟩ : ∃ f : Nat → Int32, f = upd f13 ((nI v2) : Int32).toNatClampNeg (nI k3) := ⟨_, rfl⟩
  rw [← ef_18] at hM_16 hf_19
  refine lv_aload_n hx hb dX13_begins_24 rfl (lv_at hl 2 rfl) ?_
  obtain ⟨v20, hv20, hc20⟩ : ∃ v : Nat, (fs1.set 10 (.int (nI (v2 + 1))))[20]? = some (.ref v : Value) ∧ isk K L v 31 24 := hk_6 20 (by decide)
  refine pg_getN (D := D) (ci := 12) (v := .ref v20) (C := RX12) (T := TX12) (N := 51) hx hb hg inG12 hown hK hP ik1.1 hM_17 rfl 20 (by decide) (hN.use (Cond.fieldLinkNest RX13 110 RX12 "where" "[I" RX13) 29 rfl rfl) (fun _ h9 => h9) hv20 dX13_begins_25 ?_
  refine lv_iload hx hb dX13_begins_28 (lv_at hl 0 rfl) ?_
  refine lv_iload_n hx hb dX13_begins_30 rfl (lv_at hl 3 rfl) ?_
  obtain ⟨f21, hM21, hf21⟩ := hW.open_31 hc20
  refine pg_iast hx hb hK hP hD hS hc20.1 0 hM21 rfl (inbN v2 24 (by omega) (by omega)) dX13_begins_31 (fun H_22 locs hP hD hS => ?_)
  obtain ⟨M_23, eM_23⟩ : ∃ M1 : Hp, M1 = va_up M_15 v20 (.inl (cy 14, 24, .inl (upd f21 ((nI v2) : Int32).toNatClampNeg (nI k2)))) := ⟨_, rfl⟩
  have hy20 : (ax M k1 20) = f21 := (congrFun hV.2.2.1 20).symm.trans (ax_of hM_17 (by decide) hv20 hM21)
  have hV : VW K L M M_23 k1 (va_up (fx M k1) 10 (((v2 + 1) : Nat) : Int)) (va_up (va_up (ax M k1) 19 (upd (ax M k1 19) ((nI v2) : Int32).toNatClampNeg (nI k3))) 20 (upd (ax M k1 20) ((nI v2) : Int32).toNatClampNeg (nI k2))) := by rw [eM_23]; exact hV.ast (j := 20) hW ik1 hM_17 (by decide) hv20 hc20 hM21
  have hP : va_P D vwCl ([(za, .inr (13, [.int z0, .ref z1, .int (nI z2), .int (nI z3), .int z4, .int z5, .ref z6, .ref z7, .ref z8, .ref z9, .int (nI z10), .ref z11, .ref z12, .ref z13, .ref z14, .ref z15, .int (nI z16), .ref z17, .int z18, .ref z19]))] ++ va_pl L M_23) H_22 := by rw [eM_23]; exact hP
  have hD : va_D A ([(za, .inr (13, [.int z0, .ref z1, .int (nI z2), .int (nI z3), .int z4, .int z5, .ref z6, .ref z7, .ref z8, .ref z9, .int (nI z10), .ref z11, .ref z12, .ref z13, .ref z14, .ref z15, .int (nI z16), .ref z17, .int z18, .ref z19]))] ++ va_pl L M_23) := by rw [eM_23]; exact hD
  have hW : WOM cy K L M_23 := by rw [eM_23]; exact hW.up_31 hc20 ⟨_, rfl, (updP (P := fun z => ∃ c : Nat, c < 6 ∧ z = nI c) hf21 ⟨k2, by omega, rfl⟩)⟩
  have hF : fr K L [12, 14, 16, 30, 31, 33, 34, 41, 42, 75, 76] M M_23 := by rw [eM_23]; exact hF.up hc20 (by decide)
  have hG : fG K L [10] M M_23 := by rw [eM_23]; exact hG.arr hc20 (by decide)
  have hM_24 : M_23 v20 = .inl (cy 14, 24, .inl (upd f21 ((nI v2) : Int32).toNatClampNeg (nI k2))) := by rw [eM_23]; exact va_up_self _ _ _
  have hM_25 : M_23 v12 = .inl (cy 14, 24, .inl (f_18)) := by rw [eM_23, va_up_ne _ _ (hc12.neT hc20 (by decide))]; exact hM_16
  have hM_26 : M_23 k1 = .inr (12, fs1.set 10 (.int (nI (v2 + 1)))) := by rw [eM_23, va_up_ne _ _ (ik1.neT hc20 (by decide))]; exact hM_17
  have hf_28 : ∀ j, j < 24 → ∃ c : Nat, c < 6 ∧ (upd f21 ((nI v2) : Int32).toNatClampNeg (nI k2)) j = nI c := (updP (P := fun z => ∃ c : Nat, c < 6 ∧ z = nI c) hf21 ⟨k2, by omega, rfl⟩)
  obtain ⟨f_27, ef_27⟩ : ∃ f : Nat → Int32, f = upd f21 ((nI v2) : Int32).toNatClampNeg (nI k2) := ⟨_, rfl⟩
  rw [← ef_27] at hM_24 hf_28
  refine lv_aload_n hx hb dX13_begins_32 rfl (lv_at hl 2 rfl) ?_
  obtain ⟨v29, hv29, hc29⟩ : ∃ v : Nat, (fs1.set 10 (.int (nI (v2 + 1))))[21]? = some (.ref v : Value) ∧ isk K L v 75 24 := hk_6 21 (by decide)
  refine pg_getN (D := D) (ci := 12) (v := .ref v29) (C := RX12) (T := TX12) (N := 51) hx hb hg inG12 hown hK hP ik1.1 hM_26 rfl 21 (by decide) (hN.use (Cond.fieldLinkNest RX13 112 RX12 "begin" "[I" RX13) 30 rfl rfl) (fun _ h9 => h9) hv29 dX13_begins_33 ?_
  refine lv_iload hx hb dX13_begins_36 (lv_at hl 0 rfl) ?_
  refine lv_iload hx hb dX13_begins_38 (lv_at hl 5 rfl) ?_
  obtain ⟨f30, hM30⟩ := hW.open_75 hc29
  refine pg_iast hx hb hK hP hD hS hc29.1 0 hM30 rfl (inbN v2 24 (by omega) (by omega)) dX13_begins_40 (fun H_31 locs hP hD hS => ?_)
  obtain ⟨M_32, eM_32⟩ : ∃ M1 : Hp, M1 = va_up M_23 v29 (.inl (cy 14, 24, .inl (upd f30 ((nI v2) : Int32).toNatClampNeg k4))) := ⟨_, rfl⟩
  have hy21 : (ax M k1 21) = f30 := (congrFun hV.2.2.1 21).symm.trans (ax_of hM_26 (by decide) hv29 hM30)
  have hV : VW K L M M_32 k1 (va_up (fx M k1) 10 (((v2 + 1) : Nat) : Int)) (va_up (va_up (va_up (ax M k1) 19 (upd (ax M k1 19) ((nI v2) : Int32).toNatClampNeg (nI k3))) 20 (upd (ax M k1 20) ((nI v2) : Int32).toNatClampNeg (nI k2))) 21 (upd (ax M k1 21) ((nI v2) : Int32).toNatClampNeg k4)) := by rw [eM_32]; exact hV.ast (j := 21) hW ik1 hM_26 (by decide) hv29 hc29 hM30
  have hP : va_P D vwCl ([(za, .inr (13, [.int z0, .ref z1, .int (nI z2), .int (nI z3), .int z4, .int z5, .ref z6, .ref z7, .ref z8, .ref z9, .int (nI z10), .ref z11, .ref z12, .ref z13, .ref z14, .ref z15, .int (nI z16), .ref z17, .int z18, .ref z19]))] ++ va_pl L M_32) H_31 := by rw [eM_32]; exact hP
  have hD : va_D A ([(za, .inr (13, [.int z0, .ref z1, .int (nI z2), .int (nI z3), .int z4, .int z5, .ref z6, .ref z7, .ref z8, .ref z9, .int (nI z10), .ref z11, .ref z12, .ref z13, .ref z14, .ref z15, .int (nI z16), .ref z17, .int z18, .ref z19]))] ++ va_pl L M_32) := by rw [eM_32]; exact hD
  have hW : WOM cy K L M_32 := by rw [eM_32]; exact hW.up_75 hc29 ⟨_, rfl⟩
  have hF : fr K L [12, 14, 16, 30, 31, 33, 34, 41, 42, 75, 76] M M_32 := by rw [eM_32]; exact hF.up hc29 (by decide)
  have hG : fG K L [10] M M_32 := by rw [eM_32]; exact hG.arr hc29 (by decide)
  have hM_33 : M_32 v29 = .inl (cy 14, 24, .inl (upd f30 ((nI v2) : Int32).toNatClampNeg k4)) := by rw [eM_32]; exact va_up_self _ _ _
  have hM_34 : M_32 v20 = .inl (cy 14, 24, .inl (f_27)) := by rw [eM_32, va_up_ne _ _ (hc20.neT hc29 (by decide))]; exact hM_24
  have hM_35 : M_32 v12 = .inl (cy 14, 24, .inl (f_18)) := by rw [eM_32, va_up_ne _ _ (hc12.neT hc29 (by decide))]; exact hM_25
  have hM_36 : M_32 k1 = .inr (12, fs1.set 10 (.int (nI (v2 + 1)))) := by rw [eM_32, va_up_ne _ _ (ik1.neT hc29 (by decide))]; exact hM_26
  obtain ⟨f_37, ef_37⟩ : ∃ f : Nat → Int32, f = upd f30 ((nI v2) : Int32).toNatClampNeg k4 := ⟨_, rfl⟩
  rw [← ef_37] at hM_33
  refine lv_aload_n hx hb dX13_begins_41 rfl (lv_at hl 2 rfl) ?_
  obtain ⟨v38, hv38, hc38⟩ : ∃ v : Nat, (fs1.set 10 (.int (nI (v2 + 1))))[22]? = some (.ref v : Value) ∧ isk K L v 41 24 := hk_6 22 (by decide)
  refine pg_getN (D := D) (ci := 12) (v := .ref v38) (C := RX12) (T := TX12) (N := 51) hx hb hg inG12 hown hK hP ik1.1 hM_36 rfl 22 (by decide) (hN.use (Cond.fieldLinkNest RX13 95 RX12 "ended" "[I" RX13) 31 rfl rfl) (fun _ h9 => h9) hv38 dX13_begins_42 ?_
  refine lv_iload hx hb dX13_begins_45 (lv_at hl 0 rfl) ?_
  refine lv_iconst (v := (-1)) hx hb dX13_begins_47 (by decide) ?_
  obtain ⟨f39, hM39⟩ := hW.open_41 hc38
  refine pg_iast hx hb hK hP hD hS hc38.1 0 hM39 rfl (inbN v2 24 (by omega) (by omega)) dX13_begins_48 (fun H_40 locs hP hD hS => ?_)
  obtain ⟨M_41, eM_41⟩ : ∃ M1 : Hp, M1 = va_up M_32 v38 (.inl (cy 14, 24, .inl (upd f39 ((nI v2) : Int32).toNatClampNeg (-1)))) := ⟨_, rfl⟩
  have hy22 : (ax M k1 22) = f39 := (congrFun hV.2.2.1 22).symm.trans (ax_of hM_36 (by decide) hv38 hM39)
  have hV : VW K L M M_41 k1 (va_up (fx M k1) 10 (((v2 + 1) : Nat) : Int)) (va_up (va_up (va_up (va_up (ax M k1) 19 (upd (ax M k1 19) ((nI v2) : Int32).toNatClampNeg (nI k3))) 20 (upd (ax M k1 20) ((nI v2) : Int32).toNatClampNeg (nI k2))) 21 (upd (ax M k1 21) ((nI v2) : Int32).toNatClampNeg k4)) 22 (upd (ax M k1 22) ((nI v2) : Int32).toNatClampNeg (-1))) := by rw [eM_41]; exact hV.ast (j := 22) hW ik1 hM_36 (by decide) hv38 hc38 hM39
  have hP : va_P D vwCl ([(za, .inr (13, [.int z0, .ref z1, .int (nI z2), .int (nI z3), .int z4, .int z5, .ref z6, .ref z7, .ref z8, .ref z9, .int (nI z10), .ref z11, .ref z12, .ref z13, .ref z14, .ref z15, .int (nI z16), .ref z17, .int z18, .ref z19]))] ++ va_pl L M_41) H_40 := by rw [eM_41]; exact hP
  have hD : va_D A ([(za, .inr (13, [.int z0, .ref z1, .int (nI z2), .int (nI z3), .int z4, .int z5, .ref z6, .ref z7, .ref z8, .ref z9, .int (nI z10), .ref z11, .ref z12, .ref z13, .ref z14, .ref z15, .int (nI z16), .ref z17, .int z18, .ref z19]))] ++ va_pl L M_41) := by rw [eM_41]; exact hD
  have hW : WOM cy K L M_41 := by rw [eM_41]; exact hW.up_41 hc38 ⟨_, rfl⟩
  have hF : fr K L [12, 14, 16, 30, 31, 33, 34, 41, 42, 75, 76] M M_41 := by rw [eM_41]; exact hF.up hc38 (by decide)
  have hG : fG K L [10] M M_41 := by rw [eM_41]; exact hG.arr hc38 (by decide)
  have hM_42 : M_41 v38 = .inl (cy 14, 24, .inl (upd f39 ((nI v2) : Int32).toNatClampNeg (-1))) := by rw [eM_41]; exact va_up_self _ _ _
  have hM_43 : M_41 v29 = .inl (cy 14, 24, .inl (f_37)) := by rw [eM_41, va_up_ne _ _ (hc29.neT hc38 (by decide))]; exact hM_33
  have hM_44 : M_41 v20 = .inl (cy 14, 24, .inl (f_27)) := by rw [eM_41, va_up_ne _ _ (hc20.neT hc38 (by decide))]; exact hM_34
  have hM_45 : M_41 v12 = .inl (cy 14, 24, .inl (f_18)) := by rw [eM_41, va_up_ne _ _ (hc12.neT hc38 (by decide))]; exact hM_35
  have hM_46 : M_41 k1 = .inr (12, fs1.set 10 (.int (nI (v2 + 1)))) := by rw [eM_41, va_up_ne _ _ (ik1.neT hc38 (by decide))]; exact hM_36
  obtain ⟨f_47, ef_47⟩ : ∃ f : Nat → Int32, f = upd f39 ((nI v2) : Int32).toNatClampNeg (-1) := ⟨_, rfl⟩
  rw [← ef_47] at hM_42
  refine lv_aload_n hx hb dX13_begins_49 rfl (lv_at hl 2 rfl) ?_
  obtain ⟨v48, hv48, hc48⟩ : ∃ v : Nat, (fs1.set 10 (.int (nI (v2 + 1))))[23]? = some (.ref v : Value) ∧ isk K L v 42 24 := hk_6 23 (by decide)
  refine pg_getN (D := D) (ci := 12) (v := .ref v48) (C := RX12) (T := TX12) (N := 51) hx hb hg inG12 hown hK hP ik1.1 hM_46 rfl 23 (by decide) (hN.use (Cond.fieldLinkNest RX13 115 RX12 "instalments" "[I" RX13) 32 rfl rfl) (fun _ h9 => h9) hv48 dX13_begins_50 ?_
  refine lv_iload hx hb dX13_begins_53 (lv_at hl 0 rfl) ?_
  refine lv_iconst (v := 0) hx hb dX13_begins_55 (by decide) ?_
  obtain ⟨f49, hM49⟩ := hW.open_42 hc48
  refine pg_iast hx hb hK hP hD hS hc48.1 0 hM49 rfl (inbN v2 24 (by omega) (by omega)) dX13_begins_56 (fun H_50 locs hP hD hS => ?_)
  obtain ⟨M_51, eM_51⟩ : ∃ M1 : Hp, M1 = va_up M_41 v48 (.inl (cy 14, 24, .inl (upd f49 ((nI v2) : Int32).toNatClampNeg 0))) := ⟨_, rfl⟩
  have hy23 : (ax M k1 23) = f49 := (congrFun hV.2.2.1 23).symm.trans (ax_of hM_46 (by decide) hv48 hM49)
  have hV : VW K L M M_51 k1 (va_up (fx M k1) 10 (((v2 + 1) : Nat) : Int)) (va_up (va_up (va_up (va_up (va_up (ax M k1) 19 (upd (ax M k1 19) ((nI v2) : Int32).toNatClampNeg (nI k3))) 20 (upd (ax M k1 20) ((nI v2) : Int32).toNatClampNeg (nI k2))) 21 (upd (ax M k1 21) ((nI v2) : Int32).toNatClampNeg k4)) 22 (upd (ax M k1 22) ((nI v2) : Int32).toNatClampNeg (-1))) 23 (upd (ax M k1 23) ((nI v2) : Int32).toNatClampNeg 0)) := by rw [eM_51]; exact hV.ast (j := 23) hW ik1 hM_46 (by decide) hv48 hc48 hM49
  have hP : va_P D vwCl ([(za, .inr (13, [.int z0, .ref z1, .int (nI z2), .int (nI z3), .int z4, .int z5, .ref z6, .ref z7, .ref z8, .ref z9, .int (nI z10), .ref z11, .ref z12, .ref z13, .ref z14, .ref z15, .int (nI z16), .ref z17, .int z18, .ref z19]))] ++ va_pl L M_51) H_50 := by rw [eM_51]; exact hP
  have hD : va_D A ([(za, .inr (13, [.int z0, .ref z1, .int (nI z2), .int (nI z3), .int z4, .int z5, .ref z6, .ref z7, .ref z8, .ref z9, .int (nI z10), .ref z11, .ref z12, .ref z13, .ref z14, .ref z15, .int (nI z16), .ref z17, .int z18, .ref z19]))] ++ va_pl L M_51) := by rw [eM_51]; exact hD
  have hW : WOM cy K L M_51 := by rw [eM_51]; exact hW.up_42 hc48 ⟨_, rfl⟩
  have hF : fr K L [12, 14, 16, 30, 31, 33, 34, 41, 42, 75, 76] M M_51 := by rw [eM_51]; exact hF.up hc48 (by decide)
  have hG : fG K L [10] M M_51 := by rw [eM_51]; exact hG.arr hc48 (by decide)
  have hM_52 : M_51 v48 = .inl (cy 14, 24, .inl (upd f49 ((nI v2) : Int32).toNatClampNeg 0)) := by rw [eM_51]; exact va_up_self _ _ _
  have hM_53 : M_51 v38 = .inl (cy 14, 24, .inl (f_47)) := by rw [eM_51, va_up_ne _ _ (hc38.neT hc48 (by decide))]; exact hM_42
  have hM_54 : M_51 v29 = .inl (cy 14, 24, .inl (f_37)) := by rw [eM_51, va_up_ne _ _ (hc29.neT hc48 (by decide))]; exact hM_43
  have hM_55 : M_51 v20 = .inl (cy 14, 24, .inl (f_27)) := by rw [eM_51, va_up_ne _ _ (hc20.neT hc48 (by decide))]; exact hM_44
  have hM_56 : M_51 v12 = .inl (cy 14, 24, .inl (f_18)) := by rw [eM_51, va_up_ne _ _ (hc12.neT hc48 (by decide))]; exact hM_45
  have hM_57 : M_51 k1 = .inr (12, fs1.set 10 (.int (nI (v2 + 1)))) := by rw [eM_51, va_up_ne _ _ (ik1.neT hc48 (by decide))]; exact hM_46
  obtain ⟨f_58, ef_58⟩ : ∃ f : Nat → Int32, f = upd f49 ((nI v2) : Int32).toNatClampNeg 0 := ⟨_, rfl⟩
  rw [← ef_58] at hM_52
  refine lv_aload_n hx hb dX13_begins_57 rfl (lv_at hl 2 rfl) ?_
  obtain ⟨v59, hv59, hc59⟩ : ∃ v : Nat, (fs1.set 10 (.int (nI (v2 + 1))))[24]? = some (.ref v : Value) ∧ isk K L v 76 24 := hk_6 24 (by decide)
  refine pg_getN (D := D) (ci := 12) (v := .ref v59) (C := RX12) (T := TX12) (N := 51) hx hb hg inG12 hown hK hP ik1.1 hM_57 rfl 24 (by decide) (hN.use (Cond.fieldLinkNest RX13 118 RX12 "bears" "[I" RX13) 33 rfl rfl) (fun _ h9 => h9) hv59 dX13_begins_58 ?_
  refine lv_iload hx hb dX13_begins_61 (lv_at hl 0 rfl) ?_
  refine lv_iconst (v := 0) hx hb dX13_begins_63 (by decide) ?_
  obtain ⟨f60, hM60⟩ := hW.open_76 hc59
  refine pg_iast hx hb hK hP hD hS hc59.1 0 hM60 rfl (inbN v2 24 (by omega) (by omega)) dX13_begins_64 (fun H_61 locs hP hD hS => ?_)
  obtain ⟨M_62, eM_62⟩ : ∃ M1 : Hp, M1 = va_up M_51 v59 (.inl (cy 14, 24, .inl (upd f60 ((nI v2) : Int32).toNatClampNeg 0))) := ⟨_, rfl⟩
  have hy24 : (ax M k1 24) = f60 := (congrFun hV.2.2.1 24).symm.trans (ax_of hM_57 (by decide) hv59 hM60)
  have hV : VW K L M M_62 k1 (va_up (fx M k1) 10 (((v2 + 1) : Nat) : Int)) (va_up (va_up (va_up (va_up (va_up (va_up (ax M k1) 19 (upd (ax M k1 19) ((nI v2) : Int32).toNatClampNeg (nI k3))) 20 (upd (ax M k1 20) ((nI v2) : Int32).toNatClampNeg (nI k2))) 21 (upd (ax M k1 21) ((nI v2) : Int32).toNatClampNeg k4)) 22 (upd (ax M k1 22) ((nI v2) : Int32).toNatClampNeg (-1))) 23 (upd (ax M k1 23) ((nI v2) : Int32).toNatClampNeg 0)) 24 (upd (ax M k1 24) ((nI v2) : Int32).toNatClampNeg 0)) := by rw [eM_62]; exact hV.ast (j := 24) hW ik1 hM_57 (by decide) hv59 hc59 hM60
  have hP : va_P D vwCl ([(za, .inr (13, [.int z0, .ref z1, .int (nI z2), .int (nI z3), .int z4, .int z5, .ref z6, .ref z7, .ref z8, .ref z9, .int (nI z10), .ref z11, .ref z12, .ref z13, .ref z14, .ref z15, .int (nI z16), .ref z17, .int z18, .ref z19]))] ++ va_pl L M_62) H_61 := by rw [eM_62]; exact hP
  have hD : va_D A ([(za, .inr (13, [.int z0, .ref z1, .int (nI z2), .int (nI z3), .int z4, .int z5, .ref z6, .ref z7, .ref z8, .ref z9, .int (nI z10), .ref z11, .ref z12, .ref z13, .ref z14, .ref z15, .int (nI z16), .ref z17, .int z18, .ref z19]))] ++ va_pl L M_62) := by rw [eM_62]; exact hD
  have hW : WOM cy K L M_62 := by rw [eM_62]; exact hW.up_76 hc59 ⟨_, rfl⟩
  have hF : fr K L [12, 14, 16, 30, 31, 33, 34, 41, 42, 75, 76] M M_62 := by rw [eM_62]; exact hF.up hc59 (by decide)
  have hG : fG K L [10] M M_62 := by rw [eM_62]; exact hG.arr hc59 (by decide)
  have hM_63 : M_62 v59 = .inl (cy 14, 24, .inl (upd f60 ((nI v2) : Int32).toNatClampNeg 0)) := by rw [eM_62]; exact va_up_self _ _ _
  have hM_64 : M_62 v48 = .inl (cy 14, 24, .inl (f_58)) := by rw [eM_62, va_up_ne _ _ (hc48.neT hc59 (by decide))]; exact hM_52
  have hM_65 : M_62 v38 = .inl (cy 14, 24, .inl (f_47)) := by rw [eM_62, va_up_ne _ _ (hc38.neT hc59 (by decide))]; exact hM_53
  have hM_66 : M_62 v29 = .inl (cy 14, 24, .inl (f_37)) := by rw [eM_62, va_up_ne _ _ (hc29.neT hc59 (by decide))]; exact hM_54
  have hM_67 : M_62 v20 = .inl (cy 14, 24, .inl (f_27)) := by rw [eM_62, va_up_ne _ _ (hc20.neT hc59 (by decide))]; exact hM_55
  have hM_68 : M_62 v12 = .inl (cy 14, 24, .inl (f_18)) := by rw [eM_62, va_up_ne _ _ (hc12.neT hc59 (by decide))]; exact hM_56
  have hM_69 : M_62 k1 = .inr (12, fs1.set 10 (.int (nI (v2 + 1)))) := by rw [eM_62, va_up_ne _ _ (ik1.neT hc59 (by decide))]; exact hM_57
  obtain ⟨f_70, ef_70⟩ : ∃ f : Nat → Int32, f = upd f60 ((nI v2) : Int32).toNatClampNeg 0 := ⟨_, rfl⟩
  rw [← ef_70] at hM_63
  refine lv_aload_n hx hb dX13_begins_65 rfl (lv_at hl 2 rfl) ?_
  obtain ⟨v71, hv71, hc71⟩ : ∃ v : Nat, (fs1.set 10 (.int (nI (v2 + 1))))[25]? = some (.ref v : Value) ∧ isk K L v 34 24 := hk_6 25 (by decide)
  refine pg_getN (D := D) (ci := 12) (v := .ref v71) (C := RX12) (T := TX12) (N := 51) hx hb hg inG12 hown hK hP ik1.1 hM_69 rfl 25 (by decide) (hN.use (Cond.fieldLinkNest RX13 121 RX12 "heir" "[I" RX13) 34 rfl rfl) (fun _ h9 => h9) hv71 dX13_begins_66 ?_
  refine lv_iload hx hb dX13_begins_69 (lv_at hl 0 rfl) ?_
  refine lv_iconst (v := (-1)) hx hb dX13_begins_71 (by decide) ?_
  obtain ⟨f72, hM72, hf72⟩ := hW.open_34 hc71
  refine pg_iast hx hb hK hP hD hS hc71.1 0 hM72 rfl (inbN v2 24 (by omega) (by omega)) dX13_begins_72 (fun H_73 locs hP hD hS => ?_)
  obtain ⟨M_74, eM_74⟩ : ∃ M1 : Hp, M1 = va_up M_62 v71 (.inl (cy 14, 24, .inl (upd f72 ((nI v2) : Int32).toNatClampNeg (-1)))) := ⟨_, rfl⟩
  have hy25 : (ax M k1 25) = f72 := (congrFun hV.2.2.1 25).symm.trans (ax_of hM_69 (by decide) hv71 hM72)
  have hV : VW K L M M_74 k1 (va_up (fx M k1) 10 (((v2 + 1) : Nat) : Int)) (va_up (va_up (va_up (va_up (va_up (va_up (va_up (ax M k1) 19 (upd (ax M k1 19) ((nI v2) : Int32).toNatClampNeg (nI k3))) 20 (upd (ax M k1 20) ((nI v2) : Int32).toNatClampNeg (nI k2))) 21 (upd (ax M k1 21) ((nI v2) : Int32).toNatClampNeg k4)) 22 (upd (ax M k1 22) ((nI v2) : Int32).toNatClampNeg (-1))) 23 (upd (ax M k1 23) ((nI v2) : Int32).toNatClampNeg 0)) 24 (upd (ax M k1 24) ((nI v2) : Int32).toNatClampNeg 0)) 25 (upd (ax M k1 25) ((nI v2) : Int32).toNatClampNeg (-1))) := by rw [eM_74]; exact hV.ast (j := 25) hW ik1 hM_69 (by decide) hv71 hc71 hM72
  have hP : va_P D vwCl ([(za, .inr (13, [.int z0, .ref z1, .int (nI z2), .int (nI z3), .int z4, .int z5, .ref z6, .ref z7, .ref z8, .ref z9, .int (nI z10), .ref z11, .ref z12, .ref z13, .ref z14, .ref z15, .int (nI z16), .ref z17, .int z18, .ref z19]))] ++ va_pl L M_74) H_73 := by rw [eM_74]; exact hP
  have hD : va_D A ([(za, .inr (13, [.int z0, .ref z1, .int (nI z2), .int (nI z3), .int z4, .int z5, .ref z6, .ref z7, .ref z8, .ref z9, .int (nI z10), .ref z11, .ref z12, .ref z13, .ref z14, .ref z15, .int (nI z16), .ref z17, .int z18, .ref z19]))] ++ va_pl L M_74) := by rw [eM_74]; exact hD
  have hW : WOM cy K L M_74 := by rw [eM_74]; exact hW.up_34 hc71 ⟨_, rfl, (updP (P := fun z => (z = -1 ∨ ∃ c : Nat, c < 24 ∧ z = nI c)) hf72 (Or.inl rfl))⟩
  have hF : fr K L [12, 14, 16, 30, 31, 33, 34, 41, 42, 75, 76] M M_74 := by rw [eM_74]; exact hF.up hc71 (by decide)
  have hG : fG K L [10] M M_74 := by rw [eM_74]; exact hG.arr hc71 (by decide)
  have hM_75 : M_74 v71 = .inl (cy 14, 24, .inl (upd f72 ((nI v2) : Int32).toNatClampNeg (-1))) := by rw [eM_74]; exact va_up_self _ _ _
  have hM_76 : M_74 v59 = .inl (cy 14, 24, .inl (f_70)) := by rw [eM_74, va_up_ne _ _ (hc59.neT hc71 (by decide))]; exact hM_63
  have hM_77 : M_74 v48 = .inl (cy 14, 24, .inl (f_58)) := by rw [eM_74, va_up_ne _ _ (hc48.neT hc71 (by decide))]; exact hM_64
  have hM_78 : M_74 v38 = .inl (cy 14, 24, .inl (f_47)) := by rw [eM_74, va_up_ne _ _ (hc38.neT hc71 (by decide))]; exact hM_65
  have hM_79 : M_74 v29 = .inl (cy 14, 24, .inl (f_37)) := by rw [eM_74, va_up_ne _ _ (hc29.neT hc71 (by decide))]; exact hM_66
  have hM_80 : M_74 v20 = .inl (cy 14, 24, .inl (f_27)) := by rw [eM_74, va_up_ne _ _ (hc20.neT hc71 (by decide))]; exact hM_67
  have hM_81 : M_74 v12 = .inl (cy 14, 24, .inl (f_18)) := by rw [eM_74, va_up_ne _ _ (hc12.neT hc71 (by decide))]; exact hM_68
  have hM_82 : M_74 k1 = .inr (12, fs1.set 10 (.int (nI (v2 + 1)))) := by rw [eM_74, va_up_ne _ _ (ik1.neT hc71 (by decide))]; exact hM_69
  have hf_84 : ∀ j, j < 24 → ((upd f72 ((nI v2) : Int32).toNatClampNeg (-1)) j = -1 ∨ ∃ c : Nat, c < 24 ∧ (upd f72 ((nI v2) : Int32).toNatClampNeg (-1)) j = nI c) := (updP (P := fun z => (z = -1 ∨ ∃ c : Nat, c < 24 ∧ z = nI c)) hf72 (Or.inl rfl))
  obtain ⟨f_83, ef_83⟩ : ∃ f : Nat → Int32, f = upd f72 ((nI v2) : Int32).toNatClampNeg (-1) := ⟨_, rfl⟩
  rw [← ef_83] at hM_75 hf_84
  refine lv_aload_n hx hb dX13_begins_73 rfl (lv_at hl 2 rfl) ?_
  obtain ⟨v85, hv85, hc85⟩ : ∃ v : Nat, (fs1.set 10 (.int (nI (v2 + 1))))[26]? = some (.ref v : Value) ∧ isk K L v 16 24 := hk_6 26 (by decide)
  refine pg_getN (D := D) (ci := 12) (v := .ref v85) (C := RX12) (T := TX12) (N := 51) hx hb hg inG12 hown hK hP ik1.1 hM_82 rfl 26 (by decide) (hN.use (Cond.fieldLinkNest RX13 124 RX12 "word" "[Z" RX13) 35 rfl rfl) (fun _ h9 => h9) hv85 dX13_begins_74 ?_
  refine lv_iload hx hb dX13_begins_77 (lv_at hl 0 rfl) ?_
  refine lv_iload hx hb dX13_begins_79 (lv_at hl 6 rfl) ?_
  obtain ⟨f86, hM86, hf86⟩ := hW.open_16 hc85
  refine pg_zast hx hb hK hP hD hS hc85.1 2 hM86 rfl (inbN v2 24 (by omega) (by omega)) dX13_begins_81 (fun H_87 locs hP hD hS => ?_)
  obtain ⟨M_88, eM_88⟩ : ∃ M1 : Hp, M1 = va_up M_74 v85 (.inl (cy 16, 24, .inl (upd f86 ((nI v2) : Int32).toNatClampNeg (vp_nar .boolean k5)))) := ⟨_, rfl⟩
  have hV : VW K L M M_88 k1 (va_up (fx M k1) 10 (((v2 + 1) : Nat) : Int)) (va_up (va_up (va_up (va_up (va_up (va_up (va_up (ax M k1) 19 (upd (ax M k1 19) ((nI v2) : Int32).toNatClampNeg (nI k3))) 20 (upd (ax M k1 20) ((nI v2) : Int32).toNatClampNeg (nI k2))) 21 (upd (ax M k1 21) ((nI v2) : Int32).toNatClampNeg k4)) 22 (upd (ax M k1 22) ((nI v2) : Int32).toNatClampNeg (-1))) 23 (upd (ax M k1 23) ((nI v2) : Int32).toNatClampNeg 0)) 24 (upd (ax M k1 24) ((nI v2) : Int32).toNatClampNeg 0)) 25 (upd (ax M k1 25) ((nI v2) : Int32).toNatClampNeg (-1))) := by rw [eM_88]; exact hV.oth hW ik1 hc85 (by decide)
  have hP : va_P D vwCl ([(za, .inr (13, [.int z0, .ref z1, .int (nI z2), .int (nI z3), .int z4, .int z5, .ref z6, .ref z7, .ref z8, .ref z9, .int (nI z10), .ref z11, .ref z12, .ref z13, .ref z14, .ref z15, .int (nI z16), .ref z17, .int z18, .ref z19]))] ++ va_pl L M_88) H_87 := by rw [eM_88]; exact hP
  have hD : va_D A ([(za, .inr (13, [.int z0, .ref z1, .int (nI z2), .int (nI z3), .int z4, .int z5, .ref z6, .ref z7, .ref z8, .ref z9, .int (nI z10), .ref z11, .ref z12, .ref z13, .ref z14, .ref z15, .int (nI z16), .ref z17, .int z18, .ref z19]))] ++ va_pl L M_88) := by rw [eM_88]; exact hD
  have hW : WOM cy K L M_88 := by rw [eM_88]; exact hW.up_16 hc85 ⟨_, rfl, (updP (P := fun z => (z = 0 ∨ z = 1)) hf86 (nar01 k5))⟩
  have hF : fr K L [12, 14, 16, 30, 31, 33, 34, 41, 42, 75, 76] M M_88 := by rw [eM_88]; exact hF.up hc85 (by decide)
  have hG : fG K L [10] M M_88 := by rw [eM_88]; exact hG.arr hc85 (by decide)
  have hM_89 : M_88 v85 = .inl (cy 16, 24, .inl (upd f86 ((nI v2) : Int32).toNatClampNeg (vp_nar .boolean k5))) := by rw [eM_88]; exact va_up_self _ _ _
  have hM_90 : M_88 v71 = .inl (cy 14, 24, .inl (f_83)) := by rw [eM_88, va_up_ne _ _ (hc71.neT hc85 (by decide))]; exact hM_75
  have hM_91 : M_88 v59 = .inl (cy 14, 24, .inl (f_70)) := by rw [eM_88, va_up_ne _ _ (hc59.neT hc85 (by decide))]; exact hM_76
  have hM_92 : M_88 v48 = .inl (cy 14, 24, .inl (f_58)) := by rw [eM_88, va_up_ne _ _ (hc48.neT hc85 (by decide))]; exact hM_77
  have hM_93 : M_88 v38 = .inl (cy 14, 24, .inl (f_47)) := by rw [eM_88, va_up_ne _ _ (hc38.neT hc85 (by decide))]; exact hM_78
  have hM_94 : M_88 v29 = .inl (cy 14, 24, .inl (f_37)) := by rw [eM_88, va_up_ne _ _ (hc29.neT hc85 (by decide))]; exact hM_79
  have hM_95 : M_88 v20 = .inl (cy 14, 24, .inl (f_27)) := by rw [eM_88, va_up_ne _ _ (hc20.neT hc85 (by decide))]; exact hM_80
  have hM_96 : M_88 v12 = .inl (cy 14, 24, .inl (f_18)) := by rw [eM_88, va_up_ne _ _ (hc12.neT hc85 (by decide))]; exact hM_81
  have hM_97 : M_88 k1 = .inr (12, fs1.set 10 (.int (nI (v2 + 1)))) := by rw [eM_88, va_up_ne _ _ (ik1.neT hc85 (by decide))]; exact hM_82
  refine lv_aload_n hx hb dX13_begins_82 rfl (lv_at hl 2 rfl) ?_
  obtain ⟨v98, hv98, hc98⟩ : ∃ v : Nat, (fs1.set 10 (.int (nI (v2 + 1))))[9]? = some (.ref v : Value) ∧ isk K L v 33 6 := hk_6 9 (by decide)
  refine pg_getN (D := D) (ci := 12) (v := .ref v98) (C := RX12) (T := TX12) (N := 51) hx hb hg inG12 hown hK hP ik1.1 hM_97 rfl 9 (by decide) (hN.use (Cond.fieldLinkNest RX13 92 RX12 "seat" "[I" RX13) 18 rfl rfl) (fun _ h9 => h9) hv98 dX13_begins_83 ?_
  refine lv_iload_n hx hb dX13_begins_86 rfl (lv_at hl 3 rfl) ?_
  refine lv_iload hx hb dX13_begins_87 (lv_at hl 0 rfl) ?_
  refine lv_iconst (v := 1) hx hb dX13_begins_89 (by decide) ?_
  refine lv_iadd hx hb dX13_begins_90 ?_
  refine lv_topi (fun f_99 ef_99 => ?_)
  obtain rfl : f_99 = (nI (v2 + 1)) := ef_99.trans (nI_add v2 1)
  obtain ⟨f100, hM100, hf100⟩ := hW.open_33 hc98
  refine pg_iast hx hb hK hP hD hS hc98.1 0 hM100 rfl (inbN k2 6 (by omega) (by omega)) dX13_begins_91 (fun H_101 locs hP hD hS => ?_)
  obtain ⟨M_102, eM_102⟩ : ∃ M1 : Hp, M1 = va_up M_88 v98 (.inl (cy 14, 6, .inl (upd f100 ((nI k2) : Int32).toNatClampNeg (nI (v2 + 1))))) := ⟨_, rfl⟩
  have hy9 : (ax M k1 9) = f100 := (congrFun hV.2.2.1 9).symm.trans (ax_of hM_97 (by decide) hv98 hM100)
  have hV : VW K L M M_102 k1 (va_up (fx M k1) 10 (((v2 + 1) : Nat) : Int)) (va_up (va_up (va_up (va_up (va_up (va_up (va_up (va_up (ax M k1) 19 (upd (ax M k1 19) ((nI v2) : Int32).toNatClampNeg (nI k3))) 20 (upd (ax M k1 20) ((nI v2) : Int32).toNatClampNeg (nI k2))) 21 (upd (ax M k1 21) ((nI v2) : Int32).toNatClampNeg k4)) 22 (upd (ax M k1 22) ((nI v2) : Int32).toNatClampNeg (-1))) 23 (upd (ax M k1 23) ((nI v2) : Int32).toNatClampNeg 0)) 24 (upd (ax M k1 24) ((nI v2) : Int32).toNatClampNeg 0)) 25 (upd (ax M k1 25) ((nI v2) : Int32).toNatClampNeg (-1))) 9 (upd (ax M k1 9) ((nI k2) : Int32).toNatClampNeg (nI (v2 + 1)))) := by rw [eM_102]; exact hV.ast (j := 9) hW ik1 hM_97 (by decide) hv98 hc98 hM100
  have hP : va_P D vwCl ([(za, .inr (13, [.int z0, .ref z1, .int (nI z2), .int (nI z3), .int z4, .int z5, .ref z6, .ref z7, .ref z8, .ref z9, .int (nI z10), .ref z11, .ref z12, .ref z13, .ref z14, .ref z15, .int (nI z16), .ref z17, .int z18, .ref z19]))] ++ va_pl L M_102) H_101 := by rw [eM_102]; exact hP
  have hD : va_D A ([(za, .inr (13, [.int z0, .ref z1, .int (nI z2), .int (nI z3), .int z4, .int z5, .ref z6, .ref z7, .ref z8, .ref z9, .int (nI z10), .ref z11, .ref z12, .ref z13, .ref z14, .ref z15, .int (nI z16), .ref z17, .int z18, .ref z19]))] ++ va_pl L M_102) := by rw [eM_102]; exact hD
  have hW : WOM cy K L M_102 := by rw [eM_102]; exact hW.up_33 hc98 ⟨_, rfl, (updP (P := fun z => ((-1000000) ≤ z ∧ z ≤ 24)) hf100 (le24n (by omega)))⟩
  have hF : fr K L [12, 14, 16, 30, 31, 33, 34, 41, 42, 75, 76] M M_102 := by rw [eM_102]; exact hF.up hc98 (by decide)
  have hG : fG K L [10] M M_102 := by rw [eM_102]; exact hG.arr hc98 (by decide)
  have hM_103 : M_102 v98 = .inl (cy 14, 6, .inl (upd f100 ((nI k2) : Int32).toNatClampNeg (nI (v2 + 1)))) := by rw [eM_102]; exact va_up_self _ _ _
  have hM_104 : M_102 v71 = .inl (cy 14, 24, .inl (f_83)) := by rw [eM_102, va_up_ne _ _ (hc71.neT hc98 (by decide))]; exact hM_90
  have hM_105 : M_102 v59 = .inl (cy 14, 24, .inl (f_70)) := by rw [eM_102, va_up_ne _ _ (hc59.neT hc98 (by decide))]; exact hM_91
  have hM_106 : M_102 v48 = .inl (cy 14, 24, .inl (f_58)) := by rw [eM_102, va_up_ne _ _ (hc48.neT hc98 (by decide))]; exact hM_92
  have hM_107 : M_102 v38 = .inl (cy 14, 24, .inl (f_47)) := by rw [eM_102, va_up_ne _ _ (hc38.neT hc98 (by decide))]; exact hM_93
  have hM_108 : M_102 v29 = .inl (cy 14, 24, .inl (f_37)) := by rw [eM_102, va_up_ne _ _ (hc29.neT hc98 (by decide))]; exact hM_94
  have hM_109 : M_102 v20 = .inl (cy 14, 24, .inl (f_27)) := by rw [eM_102, va_up_ne _ _ (hc20.neT hc98 (by decide))]; exact hM_95
  have hM_110 : M_102 v12 = .inl (cy 14, 24, .inl (f_18)) := by rw [eM_102, va_up_ne _ _ (hc12.neT hc98 (by decide))]; exact hM_96
  have hM_111 : M_102 k1 = .inr (12, fs1.set 10 (.int (nI (v2 + 1)))) := by rw [eM_102, va_up_ne _ _ (ik1.neT hc98 (by decide))]; exact hM_97
  have hf_113 : ∀ j, j < 6 → ((-1000000) ≤ (upd f100 ((nI k2) : Int32).toNatClampNeg (nI (v2 + 1))) j ∧ (upd f100 ((nI k2) : Int32).toNatClampNeg (nI (v2 + 1))) j ≤ 24) := (updP (P := fun z => ((-1000000) ≤ z ∧ z ≤ 24)) hf100 (le24n (by omega)))
  obtain ⟨f_112, ef_112⟩ : ∃ f : Nat → Int32, f = upd f100 ((nI k2) : Int32).toNatClampNeg (nI (v2 + 1)) := ⟨_, rfl⟩
  rw [← ef_112] at hM_103 hf_113
  refine lv_iload hx hb dX13_begins_92 (lv_at hl 0 rfl) ?_
  rw [hQ]
  exact W.iret (v := (nI v2)) hx hb hr (fun t ht hW9 => ⟨⟨(nI v2), M_102, rfl, ⟨hW, hF, hG, ⟨_, hx10, by omega, hV⟩, ⟨v2, rfl, (by omega)⟩⟩, ⟨by rw [ht]; exact hP, hD⟩⟩, hS.F ht⟩) hS.2.2 dX13_begins_94
set_option maxHeartbeats 4000000 in
set_option maxRecDepth 100000 in
theorem g_X13_die (l : Launch) (D : va_G) (cy : Nat → ClassId) (K : Kp) (L : List Nat) (M : Hp) (sz : Nat) (za : Nat) (z0 : Int32) (z1 : Nat) (z2 : Nat) (z3 : Nat) (z4 : Int32) (z5 : Int32) (z6 : Nat) (z7 : Nat) (z8 : Nat) (z9 : Nat) (z10 : Nat) (z11 : Nat) (z12 : Nat) (z13 : Nat) (z14 : Nat) (z15 : Nat) (z16 : Nat) (z17 : Nat) (z18 : Int32) (z19 : Nat) (k1 : Int32) (k2 : Int32) (k3 : Int32) (k4 : Int32) (hW : WOM cy K L M) (i1 : isk K L z1 23 8) (b2 : z2 ≤ 8) (b3 : z3 ≤ 40) (i6 : isk K L z6 47 40) (i7 : isk K L z7 48 40) (i8 : isk K L z8 49 8) (i9 : isk K L z9 50 8) (b10 : z10 ≤ 8) (i11 : isk K L z11 32 24) (i12 : isk K L z12 14 24) (i13 : isk K L z13 15 24) (i14 : isk K L z14 15 24) (i15 : isk K L z15 15 24) (b16 : z16 ≤ 24) (i17 : isk K L z17 14 24) (i19 : isk K L z19 15 25) (hGI : GI K L z1 z2 M) : Met l yX13_die (wsM yX13_die cX13_die 7 (some .int)) ({ frames := 2, cells := 0, slots := 0, locals := 43 }) (va_Pc [.ref za, .int k1, .int k2, .int k3, .int k4] (PG D cy [(za, .inr (13, [.int z0, .ref z1, .int (nI z2), .int (nI z3), .int z4, .int z5, .ref z6, .ref z7, .ref z8, .ref z9, .int (nI z10), .ref z11, .ref z12, .ref z13, .ref z14, .ref z15, .int (nI z16), .ref z17, .int z18, .ref z19]))] L M sz)) (va_Qi (fun (r : Int32) (M9 : Hp) => WOM cy K L M9 ∧ fr K L [12, 14, 16, 30, 31, 33, 34, 41, 42, 75, 76] M M9 ∧ fG K L [10] M M9 ∧ (GI K L z1 z2 M9) ∧ (True)) (fun M9 t => ∃ (w4 : Int32) (w5 : Int32), PQ D [(za, .inr (13, [.int 0, .ref z1, .int (nI z2), .int (nI z3), .int w4, .int w5, .ref z6, .ref z7, .ref z8, .ref z9, .int (nI z10), .ref z11, .ref z12, .ref z13, .ref z14, .ref z15, .int (nI z16), .ref z17, .int z18, .ref z19]))] L M9 (va_A ([(za, .inr (13, [.int z0, .ref z1, .int (nI z2), .int (nI z3), .int z4, .int z5, .ref z6, .ref z7, .ref z8, .ref z9, .int (nI z10), .ref z11, .ref z12, .ref z13, .ref z14, .ref z15, .int (nI z16), .ref z17, .int z18, .ref z19]))] ++ va_pl L M) sz) t) (va_A ([(za, .inr (13, [.int z0, .ref z1, .int (nI z2), .int (nI z3), .int z4, .int z5, .ref z6, .ref z7, .ref z8, .ref z9, .int (nI z10), .ref z11, .ref z12, .ref z13, .ref z14, .ref z15, .int (nI z16), .ref z17, .int z18, .ref z19]))] ++ va_pl L M) sz)) 0 0 (va_A ([(za, .inr (13, [.int z0, .ref z1, .int (nI z2), .int (nI z3), .int z4, .int z5, .ref z6, .ref z7, .ref z8, .ref z9, .int (nI z10), .ref z11, .ref z12, .ref z13, .ref z14, .ref z15, .int (nI z16), .ref z17, .int z18, .ref z19]))] ++ va_pl L M) sz) := by
  refine Met.ofW (cc := cX13_die) (maxL := 7) (ret := (some .int)) (by decide) rfl ?_
  intro p e s m args below meth c s₁ B hml hv
  obtain ⟨rfl, hsz, hP, hK, hD0, hN⟩ := hv
  have hx := B.exec
  have hb := B.bytes
  have hr := B.returns
  have hts := atoms_spec (ws := (wsM yX13_die cX13_die 7 (some .int))) B.pre
  have hg : ∀ w ∈ lw_good, w.before _ s = true := fun w h => hts w (List.mem_cons_of_mem _ h)
  have hown : s.vm.findClass RX13 = some m.cls := findClass_of_methodNamed B.named
  have hlocks := B.notSynchronized
  subst hsz
  have hD := hD0.self (sz := s.heap.size)
  generalize hAe : va_A ([(za, .inr (13, [.int z0, .ref z1, .int (nI z2), .int (nI z3), .int z4, .int z5, .ref z6, .ref z7, .ref z8, .ref z9, .int (nI z10), .ref z11, .ref z12, .ref z13, .ref z14, .ref z15, .int (nI z16), .ref z17, .int z18, .ref z19]))] ++ va_pl L M) s.heap.size = A at hD ⊢
  have hA : ∀ q : Nat, s.heap.size ≤ q → A q := fun q h => by rw [← hAe]; exact Or.inr h
  have hS : va_S A s.heap s.heap [] := va_S.rf
  have hl := lv_entry ([.ref za, .int k1, .int k2, .int k3, .int k4]) (n := 7) (Nat.le_of_ble_eq_true rfl)
  rw [lg_entry_eq]
  generalize (lg_sl ([.ref za, .int k1, .int k2, .int k3, .int k4]) ++ List.replicate (7 - (lg_sl ([.ref za, .int k1, .int k2, .int k3, .int k4])).length) Slot.unset).toArray = ls at hl ⊢
  refine W.nameQ (fun Q hQ => ?_)
  refine W.nameR (fun R hR => ?_)
  have hRf : 2 ≤ R.frames := by rw [hR]; exact Nat.le_of_ble_eq_true rfl
  have hRl : 43 ≤ R.locals := by rw [hR]; exact Nat.le_of_ble_eq_true rfl
  have hRc : 0 ≤ R.cells := by rw [hR]; exact Nat.le_of_ble_eq_true rfl
  have hRs : 0 ≤ R.slots := by rw [hR]; exact Nat.le_of_ble_eq_true rfl
  have hF : fr K L [12, 14, 16, 30, 31, 33, 34, 41, 42, 75, 76] M M := fr.rf
  have hG : fG K L [10] M M := fG.rf
  have hl : lv_has ls 7 [(0, .ref za), (1, .int k1), (2, .int k2), (3, .int k3), (4, .int k4)] := hl
  have hW0 := hW
  refine lv_aload_n hx hb dX13_die_0 rfl (lv_at hl 0 rfl) ?_
  refine lv_iconst (v := 0) hx hb dX13_die_1 (by decide) ?_
  refine va_put (D := D) (ci := 13) (v := .int 0) (ty := .int) (C := RX13) (T := TX13) (N := 20) hx hb hg inG13 tyX13 tyX13_ok nmX13 hown hK hP hD hS 0 rfl rfl 0 (by decide) (hg _ wd_720) (fun _ h9 => h9) rfl (by decide +kernel) rfl rfl (Nat.le_of_ble_eq_true rfl) dX13_die_2 (fun H_1 locs hP hD hS => ?_)
  have hP : va_P D vwCl ([(za, .inr (13, [.int 0, .ref z1, .int (nI z2), .int (nI z3), .int z4, .int z5, .ref z6, .ref z7, .ref z8, .ref z9, .int (nI z10), .ref z11, .ref z12, .ref z13, .ref z14, .ref z15, .int (nI z16), .ref z17, .int z18, .ref z19]))] ++ va_pl L M) H_1 := hP
  have hD : va_D A ([(za, .inr (13, [.int 0, .ref z1, .int (nI z2), .int (nI z3), .int z4, .int z5, .ref z6, .ref z7, .ref z8, .ref z9, .int (nI z10), .ref z11, .ref z12, .ref z13, .ref z14, .ref z15, .int (nI z16), .ref z17, .int z18, .ref z19]))] ++ va_pl L M) := hD
  refine lv_aload_n hx hb dX13_die_5 rfl (lv_at hl 0 rfl) ?_
  refine lv_iload_n hx hb dX13_die_6 rfl (lv_at hl 1 rfl) ?_
  refine lv_iload_n hx hb dX13_die_7 rfl (lv_at hl 2 rfl) ?_
  have hPc : va_P D vwCl ([(za, .inr (13, [.int 0, .ref z1, .int (nI z2), .int (nI z3), .int z4, .int z5, .ref z6, .ref z7, .ref z8, .ref z9, .int (nI z10), .ref z11, .ref z12, .ref z13, .ref z14, .ref z15, .int (nI z16), .ref z17, .int z18, .ref z19]))] ++ va_pl L M) H_1 := hP
  have hDc : va_D A ([(za, .inr (13, [.int 0, .ref z1, .int (nI z2), .int (nI z3), .int z4, .int z5, .ref z6, .ref z7, .ref z8, .ref z9, .int (nI z10), .ref z11, .ref z12, .ref z13, .ref z14, .ref z15, .int (nI z16), .ref z17, .int z18, .ref z19]))] ++ va_pl L M) := hD
  have hFc : ∀ q, va_A ([(za, .inr (13, [.int 0, .ref z1, .int (nI z2), .int (nI z3), .int z4, .int z5, .ref z6, .ref z7, .ref z8, .ref z9, .int (nI z10), .ref z11, .ref z12, .ref z13, .ref z14, .ref z15, .int (nI z16), .ref z17, .int z18, .ref z19]))] ++ va_pl L M) H_1.size q → A q := pg_free hDc hS hA
  refine va_calli (va_runV (As := [.int k1, .int k2]) (rest := []) ⟨hx, hb, hml, hown, hg⟩ (r_X13_isSeat l D cy K L M H_1.size za 0 z1 z2 z3 z4 z5 z6 z7 z8 z9 z10 z11 z12 z13 z14 z15 z16 z17 z18 z19 k1 k2  hW i1 b2 b3 i6 i7 i8 i9 b10 i11 i12 i13 i14 i15 b16 i17 i19) (cwV 2 hg (gV wd_744 wd_745 wd_746 wd_717 wd_747) rfl rfl rfl (by decide +kernel) ⟨(Nat.le_trans (Nat.le_of_ble_eq_true rfl) hRf), (Nat.le_trans (Nat.le_of_ble_eq_true rfl) hRl)⟩) ⟨PG.blind, va_recv hK hP (ci := 13) (q0 := 0) rfl rfl, fun U hU hW => ⟨rfl, PG.at hPc hK hDc hN hU hW⟩⟩ rfl rfl hl.1 rfl (lv_room (Nat.le_of_ble_eq_true rfl)) dX13_die_8 ⟨(Nat.le_trans (Nat.le_of_ble_eq_true rfl) hRc), (Nat.le_trans (Nat.le_of_ble_eq_true rfl) hRs)⟩) hS (fun q _ h => hFc q h) hFc (fun r_3 M_4 t H_2 locs ht hvm hw hB hz1 hk1 hS => ?_)
  have hp_5 := hw
  obtain ⟨hP1, hD1⟩ := hB
  rw [ht] at hP1
  have hP : va_P D vwCl ([(za, .inr (13, [.int 0, .ref z1, .int (nI z2), .int (nI z3), .int z4, .int z5, .ref z6, .ref z7, .ref z8, .ref z9, .int (nI z10), .ref z11, .ref z12, .ref z13, .ref z14, .ref z15, .int (nI z16), .ref z17, .int z18, .ref z19]))] ++ va_pl L M) H_2 := hP1
  have hD : va_D A ([(za, .inr (13, [.int 0, .ref z1, .int (nI z2), .int (nI z3), .int z4, .int z5, .ref z6, .ref z7, .ref z8, .ref z9, .int (nI z10), .ref z11, .ref z12, .ref z13, .ref z14, .ref z15, .int (nI z16), .ref z17, .int z18, .ref z19]))] ++ va_pl L M) := hD1.mono hFc
  rcases hp_5 with ⟨rfl, c_6, c_7, c_8, c_9⟩ | rfl
  · have hz := rfl (a := 0)
    refine lv_if_eq (tgt := 28) hx hb dX13_die_11 (by decide) (fun c_10 => absurd c_10 (by decide)) (fun _ => ?_)
    refine lv_iload hx hb dX13_die_14 (lv_at hl 4 rfl) ?_
    refine lv_if_lt (tgt := 28) hx hb dX13_die_16 (by decide) (fun c_11 => ?_) (fun c_11 => ?_)
    · have hz := rfl (a := 0)
      refine lv_aload_n hx hb dX13_die_28 rfl (lv_at hl 0 rfl) ?_
      refine lv_iconst (v := 1) hx hb dX13_die_29 (by decide) ?_
      have hPc := hP.sub (ws' := [(za, .inr (13, [.int 0, .ref z1, .int (nI z2), .int (nI z3), .int z4, .int z5, .ref z6, .ref z7, .ref z8, .ref z9, .int (nI z10), .ref z11, .ref z12, .ref z13, .ref z14, .ref z15, .int (nI z16), .ref z17, .int z18, .ref z19]))]) [0] rfl
      have hDc := hD.sub (ws' := [(za, .inr (13, [.int 0, .ref z1, .int (nI z2), .int (nI z3), .int z4, .int z5, .ref z6, .ref z7, .ref z8, .ref z9, .int (nI z10), .ref z11, .ref z12, .ref z13, .ref z14, .ref z15, .int (nI z16), .ref z17, .int z18, .ref z19]))]) [0] (by decide) rfl
      have hKc := hK.sub (tys' := []) [] rfl
      have hFc := va_free (wc := [(za, .inr (13, [.int 0, .ref z1, .int (nI z2), .int (nI z3), .int z4, .int z5, .ref z6, .ref z7, .ref z8, .ref z9, .int (nI z10), .ref z11, .ref z12, .ref z13, .ref z14, .ref z15, .int (nI z16), .ref z17, .int z18, .ref z19]))]) hD hS hA [0] rfl
      refine va_calli (va_runV (As := [.int 1]) (rest := []) ⟨hx, hb, hml, hown, hg⟩ (m_refused l D H_2.size za 0 z1 (nI z2) (nI z3) z4 z5 z6 z7 z8 z9 (nI z10) z11 z12 z13 z14 z15 (nI z16) z17 z18 z19 1) (cwV 1 hg (gV wd_725 wd_726 wd_727 wd_717 wd_728) rfl rfl rfl (by decide +kernel) ⟨(Nat.le_trans (Nat.le_of_ble_eq_true rfl) hRf), (Nat.le_trans (Nat.le_of_ble_eq_true rfl) hRl)⟩) ⟨Pr.blind, va_recv hK hP (ci := 13) (q0 := 0) rfl rfl, fun U hU hW => ⟨rfl, Pr.at hPc hKc hDc hN hU hW⟩⟩ rfl rfl hl.1 rfl (lv_room (Nat.le_of_ble_eq_true rfl)) dX13_die_30 ⟨(Nat.le_trans (Nat.le_of_ble_eq_true rfl) hRc), (Nat.le_trans (Nat.le_of_ble_eq_true rfl) hRs)⟩) hS (fun q _ h => hFc q h) hFc (fun r_13 M_14 t H_12 locs ht hvm hw hB hz1 hk1 hS => ?_)
      have hp_15 := hw
      obtain ⟨hP1, hK1, hD1⟩ := hB
      rw [ht] at hP1
      obtain ⟨hP, hD⟩ := va_joinQ (X := [(za, .inr (13, [.int 0, .ref z1, .int (nI z2), .int (nI z3), .int z4, .int z5, .ref z6, .ref z7, .ref z8, .ref z9, .int (nI z10), .ref z11, .ref z12, .ref z13, .ref z14, .ref z15, .int (nI z16), .ref z17, .int z18, .ref z19]))]) (cx := [(za, .inr (13, [.int 0, .ref z1, .int (nI z2), .int (nI z3), .int z4, .int z5, .ref z6, .ref z7, .ref z8, .ref z9, .int (nI z10), .ref z11, .ref z12, .ref z13, .ref z14, .ref z15, .int (nI z16), .ref z17, .int z18, .ref z19]))]) (wr := []) (w1 := [(za, .inr (13, [.int 0, .ref z1, .int (nI z2), .int (nI z3), .int 1, .int (-1), .ref z6, .ref z7, .ref z8, .ref z9, .int (nI z10), .ref z11, .ref z12, .ref z13, .ref z14, .ref z15, .int (nI z16), .ref z17, .int z18, .ref z19]))]) (pl := va_pl L M) hP hD [0] [] rfl rfl (by decide) (by decide) hk1 hFc hP1 hD1
      have hP : va_P D vwCl ([(za, .inr (13, [.int 0, .ref z1, .int (nI z2), .int (nI z3), .int 1, .int (-1), .ref z6, .ref z7, .ref z8, .ref z9, .int (nI z10), .ref z11, .ref z12, .ref z13, .ref z14, .ref z15, .int (nI z16), .ref z17, .int z18, .ref z19]))] ++ va_pl L M) H_12 := hP
      have hD : va_D A ([(za, .inr (13, [.int 0, .ref z1, .int (nI z2), .int (nI z3), .int 1, .int (-1), .ref z6, .ref z7, .ref z8, .ref z9, .int (nI z10), .ref z11, .ref z12, .ref z13, .ref z14, .ref z15, .int (nI z16), .ref z17, .int z18, .ref z19]))] ++ va_pl L M) := hD
      have hq := Eq.symm hp_15
      subst hq
      rw [hQ]
      exact W.iret (v := (-1)) hx hb hr (fun t ht hW9 => ⟨⟨(-1), M, rfl, ⟨hW, hF, hG, hGI, trivial⟩, ⟨1, (-1), by rw [ht]; exact hP, hD⟩⟩, hS.F ht⟩) hS.2.2 dX13_die_33
    · have hz := rfl (a := 0)
      refine lv_iload hx hb dX13_die_19 (lv_at hl 4 rfl) ?_
      refine lv_aload_n hx hb dX13_die_21 rfl (lv_at hl 0 rfl) ?_
      refine va_get (D := D) (ci := 13) (v := .int (nI z3)) (C := RX13) (T := TX13) (N := 20) hx hb hg inG13 hown hK hP 0 rfl rfl 3 (by decide) (hg _ wd_831) (fun _ h9 => h9) rfl dX13_die_22 ?_
      refine lv_icmp_lt (tgt := 34) hx hb dX13_die_25 (by decide) (fun c_16 => ?_) (fun c_16 => ?_)
      · have hz := rfl (a := 0)
        have n_17 : ¬ 40 ≤ k4 := ltB (b := 40) (by decide) (by omega) c_16
        refine lv_aload_n hx hb dX13_die_34 rfl (lv_at hl 0 rfl) ?_
        refine va_get (D := D) (ci := 13) (v := .ref z1) (C := RX13) (T := TX13) (N := 20) hx hb hg inG13 hown hK hP 0 rfl rfl 1 (by decide) (hg _ wd_739) (fun _ h9 => h9) rfl dX13_die_35 ?_
        refine lv_iload_n hx hb dX13_die_38 rfl (lv_at hl 1 rfl) ?_
        obtain ⟨f18, hM18, hf18⟩ := hW.open_23 i1
        have hi_19 : vp_in k1 8 := (inbW (a := z2) (by omega) (inb k1 z2 (by omega) c_6 c_7))
        refine pg_aldq hx hb hK hP i1.1 9 hM18 rfl hi_19 dX13_die_39 ?_
        obtain ⟨b20, eb_21, hb_22⟩ := hf18 _ (vp_lt hi_19)
        rw [eb_21]
        have hact : ACT z1 z2 b20 M := ⟨(k1 : Int32).toNatClampNeg, vp_lt (inb k1 z2 (by omega) c_6 c_7), by rw [show RFc (M z1) = f18 from by rw [hM18]; rfl]; exact eb_21⟩
        have hAT := GI.at hGI hact
        have hV : VW K L M M b20 (fx M b20) (ax M b20) := VW.rf b20 hGI.2.2.2
        refine lv_astore (lv' := [(5, .ref b20), (0, .ref za), (1, .int k1), (2, .int k2), (3, .int k3), (4, .int k4)]) hx hb dX13_die_40 hl (by decide) rfl (fun ls hl => ?_)
        refine lv_aload_n hx hb dX13_die_42 rfl (lv_at hl 1 rfl) ?_
        refine lv_aload hx hb dX13_die_43 (lv_at hl 0 rfl) ?_
        refine lv_iload_n hx hb dX13_die_45 rfl (lv_at hl 3 rfl) ?_
        obtain ⟨j_23, hj_24, rfl⟩ := i32nat 6 (by decide) c_8 c_9
        have hPc : va_P D vwCl ([(za, .inr (13, [.int 0, .ref z1, .int (nI z2), .int (nI z3), .int z4, .int z5, .ref z6, .ref z7, .ref z8, .ref z9, .int (nI z10), .ref z11, .ref z12, .ref z13, .ref z14, .ref z15, .int (nI z16), .ref z17, .int z18, .ref z19]))] ++ va_pl L M) H_2 := hP
        have hDc : va_D A ([(za, .inr (13, [.int 0, .ref z1, .int (nI z2), .int (nI z3), .int z4, .int z5, .ref z6, .ref z7, .ref z8, .ref z9, .int (nI z10), .ref z11, .ref z12, .ref z13, .ref z14, .ref z15, .int (nI z16), .ref z17, .int z18, .ref z19]))] ++ va_pl L M) := hD
        have hFc : ∀ q, va_A ([(za, .inr (13, [.int 0, .ref z1, .int (nI z2), .int (nI z3), .int z4, .int z5, .ref z6, .ref z7, .ref z8, .ref z9, .int (nI z10), .ref z11, .ref z12, .ref z13, .ref z14, .ref z15, .int (nI z16), .ref z17, .int z18, .ref z19]))] ++ va_pl L M) H_2.size q → A q := pg_free hDc hS hA
        refine va_calli (va_runV (As := [.ref b20, .int (nI j_23)]) (rest := []) ⟨hx, hb, hml, hown, hg⟩ (r_X13_holder l D cy K L M H_2.size za 0 z1 z2 z3 z4 z5 z6 z7 z8 z9 z10 z11 z12 z13 z14 z15 z16 z17 z18 z19 b20 j_23  hW i1 b2 b3 i6 i7 i8 i9 b10 i11 i12 i13 i14 i15 b16 i17 i19 hb_22 (by omega)) (cwV 2 hg (gV wd_779 wd_780 wd_781 wd_717 wd_782) rfl rfl rfl (by decide +kernel) ⟨(Nat.le_trans (Nat.le_of_ble_eq_true rfl) hRf), (Nat.le_trans (Nat.le_of_ble_eq_true rfl) hRl)⟩) ⟨PG.blind, va_recv hK hP (ci := 13) (q0 := 0) rfl rfl, fun U hU hW => ⟨rfl, PG.at hPc hK hDc hN hU hW⟩⟩ rfl rfl hl.1 rfl (lv_room (Nat.le_of_ble_eq_true rfl)) dX13_die_46 ⟨(Nat.le_trans (Nat.le_of_ble_eq_true rfl) hRc), (Nat.le_trans (Nat.le_of_ble_eq_true rfl) hRs)⟩) hS (fun q _ h => hFc q h) hFc (fun r_26 M_27 t H_25 locs ht hvm hw hB hz1 hk1 hS => ?_)
        have hp_28 := hw
        obtain ⟨hP1, hD1⟩ := hB
        rw [ht] at hP1
        have hP : va_P D vwCl ([(za, .inr (13, [.int 0, .ref z1, .int (nI z2), .int (nI z3), .int z4, .int z5, .ref z6, .ref z7, .ref z8, .ref z9, .int (nI z10), .ref z11, .ref z12, .ref z13, .ref z14, .ref z15, .int (nI z16), .ref z17, .int z18, .ref z19]))] ++ va_pl L M) H_25 := hP1
        have hD : va_D A ([(za, .inr (13, [.int 0, .ref z1, .int (nI z2), .int (nI z3), .int z4, .int z5, .ref z6, .ref z7, .ref z8, .ref z9, .int (nI z10), .ref z11, .ref z12, .ref z13, .ref z14, .ref z15, .int (nI z16), .ref z17, .int z18, .ref z19]))] ++ va_pl L M) := hD1.mono hFc
        rcases hp_28 with rfl | ⟨j_29, rfl, c_30⟩
        · have hz := rfl (a := 0)
          refine lv_istore (lv' := [(6, .int (-1)), (5, .ref b20), (0, .ref za), (1, .int k1), (2, .int (nI j_23)), (3, .int k3), (4, .int k4)]) hx hb dX13_die_49 hl (by decide) rfl (fun ls hl => ?_)
          refine lv_iload hx hb dX13_die_51 (lv_at hl 0 rfl) ?_
          refine lv_iconst (v := (-1)) hx hb dX13_die_53 (by decide) ?_
          refine lv_icmp_ne (tgt := 63) hx hb dX13_die_54 (by decide) (fun c_31 => absurd c_31 (by decide)) (fun _ => ?_)
          refine lv_aload_n hx hb dX13_die_57 rfl (lv_at hl 2 rfl) ?_
          refine lv_iconst (v := 4) hx hb dX13_die_58 (by decide) ?_
          have hPc := hP.sub (ws' := [(za, .inr (13, [.int 0, .ref z1, .int (nI z2), .int (nI z3), .int z4, .int z5, .ref z6, .ref z7, .ref z8, .ref z9, .int (nI z10), .ref z11, .ref z12, .ref z13, .ref z14, .ref z15, .int (nI z16), .ref z17, .int z18, .ref z19]))]) [0] rfl
          have hDc := hD.sub (ws' := [(za, .inr (13, [.int 0, .ref z1, .int (nI z2), .int (nI z3), .int z4, .int z5, .ref z6, .ref z7, .ref z8, .ref z9, .int (nI z10), .ref z11, .ref z12, .ref z13, .ref z14, .ref z15, .int (nI z16), .ref z17, .int z18, .ref z19]))]) [0] (by decide) rfl
          have hKc := hK.sub (tys' := []) [] rfl
          have hFc := va_free (wc := [(za, .inr (13, [.int 0, .ref z1, .int (nI z2), .int (nI z3), .int z4, .int z5, .ref z6, .ref z7, .ref z8, .ref z9, .int (nI z10), .ref z11, .ref z12, .ref z13, .ref z14, .ref z15, .int (nI z16), .ref z17, .int z18, .ref z19]))]) hD hS hA [0] rfl
          refine va_calli (va_runV (As := [.int 4]) (rest := []) ⟨hx, hb, hml, hown, hg⟩ (m_refused l D H_25.size za 0 z1 (nI z2) (nI z3) z4 z5 z6 z7 z8 z9 (nI z10) z11 z12 z13 z14 z15 (nI z16) z17 z18 z19 4) (cwV 1 hg (gV wd_725 wd_726 wd_727 wd_717 wd_728) rfl rfl rfl (by decide +kernel) ⟨(Nat.le_trans (Nat.le_of_ble_eq_true rfl) hRf), (Nat.le_trans (Nat.le_of_ble_eq_true rfl) hRl)⟩) ⟨Pr.blind, va_recv hK hP (ci := 13) (q0 := 0) rfl rfl, fun U hU hW => ⟨rfl, Pr.at hPc hKc hDc hN hU hW⟩⟩ rfl rfl hl.1 rfl (lv_room (Nat.le_of_ble_eq_true rfl)) dX13_die_59 ⟨(Nat.le_trans (Nat.le_of_ble_eq_true rfl) hRc), (Nat.le_trans (Nat.le_of_ble_eq_true rfl) hRs)⟩) hS (fun q _ h => hFc q h) hFc (fun r_33 M_34 t H_32 locs ht hvm hw hB hz1 hk1 hS => ?_)
          have hp_35 := hw
          obtain ⟨hP1, hK1, hD1⟩ := hB
          rw [ht] at hP1
          obtain ⟨hP, hD⟩ := va_joinQ (X := [(za, .inr (13, [.int 0, .ref z1, .int (nI z2), .int (nI z3), .int z4, .int z5, .ref z6, .ref z7, .ref z8, .ref z9, .int (nI z10), .ref z11, .ref z12, .ref z13, .ref z14, .ref z15, .int (nI z16), .ref z17, .int z18, .ref z19]))]) (cx := [(za, .inr (13, [.int 0, .ref z1, .int (nI z2), .int (nI z3), .int z4, .int z5, .ref z6, .ref z7, .ref z8, .ref z9, .int (nI z10), .ref z11, .ref z12, .ref z13, .ref z14, .ref z15, .int (nI z16), .ref z17, .int z18, .ref z19]))]) (wr := []) (w1 := [(za, .inr (13, [.int 0, .ref z1, .int (nI z2), .int (nI z3), .int 4, .int (-1), .ref z6, .ref z7, .ref z8, .ref z9, .int (nI z10), .ref z11, .ref z12, .ref z13, .ref z14, .ref z15, .int (nI z16), .ref z17, .int z18, .ref z19]))]) (pl := va_pl L M) hP hD [0] [] rfl rfl (by decide) (by decide) hk1 hFc hP1 hD1
          have hP : va_P D vwCl ([(za, .inr (13, [.int 0, .ref z1, .int (nI z2), .int (nI z3), .int 4, .int (-1), .ref z6, .ref z7, .ref z8, .ref z9, .int (nI z10), .ref z11, .ref z12, .ref z13, .ref z14, .ref z15, .int (nI z16), .ref z17, .int z18, .ref z19]))] ++ va_pl L M) H_32 := hP
          have hD : va_D A ([(za, .inr (13, [.int 0, .ref z1, .int (nI z2), .int (nI z3), .int 4, .int (-1), .ref z6, .ref z7, .ref z8, .ref z9, .int (nI z10), .ref z11, .ref z12, .ref z13, .ref z14, .ref z15, .int (nI z16), .ref z17, .int z18, .ref z19]))] ++ va_pl L M) := hD
          have hq := Eq.symm hp_35
          subst hq
          rw [hQ]
          exact W.iret (v := (-1)) hx hb hr (fun t ht hW9 => ⟨⟨(-1), M, rfl, ⟨hW, hF, hG, hGI, trivial⟩, ⟨4, (-1), by rw [ht]; exact hP, hD⟩⟩, hS.F ht⟩) hS.2.2 dX13_die_62
        · have hz := rfl (a := 0)
          refine lv_istore (lv' := [(6, .int (nI j_29)), (5, .ref b20), (0, .ref za), (1, .int k1), (2, .int (nI j_23)), (3, .int k3), (4, .int k4)]) hx hb dX13_die_49 hl (by decide) rfl (fun ls hl => ?_)
          refine lv_iload hx hb dX13_die_51 (lv_at hl 0 rfl) ?_
          refine lv_iconst (v := (-1)) hx hb dX13_die_53 (by decide) ?_
          refine lv_icmp_ne (tgt := 63) hx hb dX13_die_54 (by decide) (fun _ => ?_) (fun c_36 => absurd c_36 (nI_ne_m1 (by omega)))
          refine lv_aload_n hx hb dX13_die_63 rfl (lv_at hl 2 rfl) ?_
          refine va_get (D := D) (ci := 13) (v := .ref z6) (C := RX13) (T := TX13) (N := 20) hx hb hg inG13 hown hK hP 0 rfl rfl 6 (by decide) (hg _ wd_719) (fun _ h9 => h9) rfl dX13_die_64 ?_
          refine lv_iload hx hb dX13_die_67 (lv_at hl 6 rfl) ?_
          obtain ⟨f37, hM37, hf37⟩ := hW.open_47 i6
          have hi_38 : vp_in k4 40 := (inb k4 40 (by omega) c_11 n_17)
          refine pg_iald hx hb hK hP i6.1 0 hM37 rfl hi_38 dX13_die_69 ?_
          have hp_39 := hf37 _ (vp_lt hi_38)
          obtain ⟨c_40, hc_41, ec_42⟩ := hp_39
          rw [ec_42]
          refine lv_iconst (v := 4) hx hb dX13_die_70 (by decide) ?_
          refine lv_icmp_eq (tgt := 80) hx hb dX13_die_71 (by decide) (fun c_43 => ?_) (fun c_43 => ?_)
          · have hz := rfl (a := 0)
            have n_44 : c_40 = 4 := (iEQ (a := c_40) (b := 4) (by omega) (by omega)).mp c_43
            refine lv_aload hx hb dX13_die_80 (lv_at hl 1 rfl) ?_
            refine lv_iload_n hx hb dX13_die_82 rfl (lv_at hl 5 rfl) ?_
            obtain ⟨fs45, hM45, hn45, hl45⟩ := hW.open_12 hb_22
            have hPc : va_P D vwCl ([] ++ va_pl L M) H_25 := hP.part (cx := []) [] rfl
            have hDc : va_D A ([] ++ va_pl L M) := hD.part (cx := []) [] (by decide) rfl
            have hFc : ∀ q, va_A ([] ++ va_pl L M) H_25.size q → A q := pg_free hDc hS hA
            refine va_calli (va_runV (As := [.int k3]) (rest := []) ⟨hx, hb, hml, hown, hg⟩ (r_X12_isFree l D cy K L M H_25.size b20 k3  hW hb_22) (cwV 1 hg (gV wd_807 wd_808 wd_809 wd_737 wd_810) rfl rfl rfl (by decide +kernel) ⟨(Nat.le_trans (Nat.le_of_ble_eq_true rfl) hRf), (Nat.le_trans (Nat.le_of_ble_eq_true rfl) hRl)⟩) ⟨PG.blind, pg_recv hK hP hb_22.1 hM45 rfl, fun U hU hW => ⟨rfl, PG.at hPc hK hDc hN hU hW⟩⟩ rfl rfl hl.1 rfl (lv_room (Nat.le_of_ble_eq_true rfl)) dX13_die_83 ⟨(Nat.le_trans (Nat.le_of_ble_eq_true rfl) hRc), (Nat.le_trans (Nat.le_of_ble_eq_true rfl) hRs)⟩) hS (fun q _ h => hFc q h) hFc (fun r_47 M_48 t H_46 locs ht hvm hw hB hz1 hk1 hS => ?_)
            have hp_49 := hw
            obtain ⟨hP1, hD1⟩ := hB
            rw [ht] at hP1
            obtain ⟨hP, hD⟩ := va_joinP (X := [(za, .inr (13, [.int 0, .ref z1, .int (nI z2), .int (nI z3), .int z4, .int z5, .ref z6, .ref z7, .ref z8, .ref z9, .int (nI z10), .ref z11, .ref z12, .ref z13, .ref z14, .ref z15, .int (nI z16), .ref z17, .int z18, .ref z19]))]) (cx := []) (wr := [(za, .inr (13, [.int 0, .ref z1, .int (nI z2), .int (nI z3), .int z4, .int z5, .ref z6, .ref z7, .ref z8, .ref z9, .int (nI z10), .ref z11, .ref z12, .ref z13, .ref z14, .ref z15, .int (nI z16), .ref z17, .int z18, .ref z19]))]) (rx := []) (pl := va_pl L M) (pl1 := va_pl L M) hP hD [] [0] rfl rfl (by decide) (by decide) hk1 hFc hP1 hD1
            have hP : va_P D vwCl ([(za, .inr (13, [.int 0, .ref z1, .int (nI z2), .int (nI z3), .int z4, .int z5, .ref z6, .ref z7, .ref z8, .ref z9, .int (nI z10), .ref z11, .ref z12, .ref z13, .ref z14, .ref z15, .int (nI z16), .ref z17, .int z18, .ref z19]))] ++ va_pl L M) H_46 := hP
            have hD : va_D A ([(za, .inr (13, [.int 0, .ref z1, .int (nI z2), .int (nI z3), .int z4, .int z5, .ref z6, .ref z7, .ref z8, .ref z9, .int (nI z10), .ref z11, .ref z12, .ref z13, .ref z14, .ref z15, .int (nI z16), .ref z17, .int z18, .ref z19]))] ++ va_pl L M) := hD
            rcases hp_49 with ⟨rfl, c_50, c_51⟩ | rfl
            · have hz := rfl (a := 0)
              refine lv_if_eq (tgt := 101) hx hb dX13_die_86 (by decide) (fun c_52 => absurd c_52 (by decide)) (fun _ => ?_)
              refine lv_iload_n hx hb dX13_die_89 rfl (lv_at hl 5 rfl) ?_
              refine lv_aload hx hb dX13_die_90 (lv_at hl 1 rfl) ?_
              obtain ⟨v53, hv53, hc53⟩ : ∃ v : Nat, fs45[21]? = some (.ref v : Value) ∧ isk K L v 75 24 := hl45 21 (by decide)
              refine pg_getN (D := D) (ci := 12) (v := .ref v53) (C := RX12) (T := TX12) (N := 51) hx hb hg inG12 hown hK hP hb_22.1 hM45 rfl 21 (by decide) (hN.use (Cond.fieldLinkNest RX13 112 RX12 "begin" "[I" RX13) 30 rfl rfl) (fun _ h9 => h9) hv53 dX13_die_92 ?_
              refine lv_iload hx hb dX13_die_95 (lv_at hl 0 rfl) ?_
              obtain ⟨f54, hM54⟩ := hW.open_75 hc53
              refine pg_iald hx hb hK hP hc53.1 0 hM54 rfl (inbN j_29 24 (by omega) (by omega)) dX13_die_97 ?_
              refine lv_topi (fun f_55 ef_55 => ?_)
              refine lv_icmp_gt (tgt := 107) hx hb dX13_die_98 (by decide) (fun c_56 => ?_) (fun c_56 => ?_)
              · have hz := rfl (a := 0)
                refine lv_aload hx hb dX13_die_107 (lv_at hl 1 rfl) ?_
                obtain ⟨v57, hv57, hc57⟩ : ∃ v : Nat, fs45[10]? = some (.int (nI v) : Value) ∧ v ≤ 24 := hl45 10 (by decide)
                refine pg_getN (D := D) (ci := 12) (v := .int (nI v57)) (C := RX12) (T := TX12) (N := 51) hx hb hg inG12 hown hK hP hb_22.1 hM45 rfl 10 (by decide) (hN.use (Cond.fieldLinkNest RX13 68 RX12 "tenures" "I" RX13) 19 rfl rfl) (fun _ h9 => h9) hv57 dX13_die_109 ?_
                refine lv_bipush (v := 24) hx hb dX13_die_112 (by decide) ?_
                refine lv_icmp_ne (tgt := 124) hx hb dX13_die_114 (by decide) (fun c_58 => ?_) (fun c_58 => ?_)
                · have hz := rfl (a := 0)
                  have n_59 : ¬ (v57 = 24) := fun q => c_58 ((iEQ (a := v57) (b := 24) (by omega) (by omega)).mpr q)
                  refine lv_aload hx hb dX13_die_124 (lv_at hl 1 rfl) ?_
                  obtain ⟨v60, hv60, hc60⟩ : ∃ v : Nat, fs45[22]? = some (.ref v : Value) ∧ isk K L v 41 24 := hl45 22 (by decide)
                  refine pg_getN (D := D) (ci := 12) (v := .ref v60) (C := RX12) (T := TX12) (N := 51) hx hb hg inG12 hown hK hP hb_22.1 hM45 rfl 22 (by decide) (hN.use (Cond.fieldLinkNest RX13 95 RX12 "ended" "[I" RX13) 31 rfl rfl) (fun _ h9 => h9) hv60 dX13_die_126 ?_
                  refine lv_iload hx hb dX13_die_129 (lv_at hl 0 rfl) ?_
                  refine lv_iload_n hx hb dX13_die_131 rfl (lv_at hl 5 rfl) ?_
                  obtain ⟨f61, hM61⟩ := hW.open_41 hc60
                  refine pg_iast hx hb hK hP hD hS hc60.1 0 hM61 rfl (inbN j_29 24 (by omega) (by omega)) dX13_die_132 (fun H_62 locs hP hD hS => ?_)
                  obtain ⟨M_63, eM_63⟩ : ∃ M1 : Hp, M1 = va_up M v60 (.inl (cy 14, 24, .inl (upd f61 ((nI j_29) : Int32).toNatClampNeg k3))) := ⟨_, rfl⟩
                  have hy22 : (ax M b20 22) = f61 := (congrFun hV.2.2.1 22).symm.trans (ax_of hM45 (by decide) hv60 hM61)
                  have hV : VW K L M M_63 b20 (fx M b20) (va_up (ax M b20) 22 (upd (ax M b20 22) ((nI j_29) : Int32).toNatClampNeg k3)) := by rw [eM_63]; exact hV.ast (j := 22) hW hb_22 hM45 (by decide) hv60 hc60 hM61
                  have hP : va_P D vwCl ([(za, .inr (13, [.int 0, .ref z1, .int (nI z2), .int (nI z3), .int z4, .int z5, .ref z6, .ref z7, .ref z8, .ref z9, .int (nI z10), .ref z11, .ref z12, .ref z13, .ref z14, .ref z15, .int (nI z16), .ref z17, .int z18, .ref z19]))] ++ va_pl L M_63) H_62 := by rw [eM_63]; exact hP
                  have hD : va_D A ([(za, .inr (13, [.int 0, .ref z1, .int (nI z2), .int (nI z3), .int z4, .int z5, .ref z6, .ref z7, .ref z8, .ref z9, .int (nI z10), .ref z11, .ref z12, .ref z13, .ref z14, .ref z15, .int (nI z16), .ref z17, .int z18, .ref z19]))] ++ va_pl L M_63) := by rw [eM_63]; exact hD
                  have hW : WOM cy K L M_63 := by rw [eM_63]; exact hW.up_41 hc60 ⟨_, rfl⟩
                  have hF : fr K L [12, 14, 16, 30, 31, 33, 34, 41, 42, 75, 76] M M_63 := by rw [eM_63]; exact hF.up hc60 (by decide)
                  have hG : fG K L [10] M M_63 := by rw [eM_63]; exact hG.arr hc60 (by decide)
                  have hM_64 : M_63 v60 = .inl (cy 14, 24, .inl (upd f61 ((nI j_29) : Int32).toNatClampNeg k3)) := by rw [eM_63]; exact va_up_self _ _ _
                  have hM_65 : M_63 z1 = .inl (cy 23, 8, .inr (.inr (.inr (.inr (f18))))) := by rw [eM_63, va_up_ne _ _ (i1.neT hc60 (by decide))]; exact hM18
                  have hM_66 : M_63 z6 = .inl (cy 14, 40, .inl (f37)) := by rw [eM_63, va_up_ne _ _ (i6.neT hc60 (by decide))]; exact hM37
                  have hM_67 : M_63 b20 = .inr (12, fs45) := by rw [eM_63, va_up_ne _ _ (hb_22.neT hc60 (by decide))]; exact hM45
                  have hM_68 : M_63 v53 = .inl (cy 14, 24, .inl (f54)) := by rw [eM_63, va_up_ne _ _ (hc53.neT hc60 (by decide))]; exact hM54
                  obtain ⟨f_69, ef_69⟩ : ∃ f : Nat → Int32, f = upd f61 ((nI j_29) : Int32).toNatClampNeg k3 := ⟨_, rfl⟩
                  rw [← ef_69] at hM_64
                  refine lv_aload hx hb dX13_die_133 (lv_at hl 1 rfl) ?_
                  obtain ⟨v70, hv70, hc70⟩ : ∃ v : Nat, fs45[23]? = some (.ref v : Value) ∧ isk K L v 42 24 := hl45 23 (by decide)
                  refine pg_getN (D := D) (ci := 12) (v := .ref v70) (C := RX12) (T := TX12) (N := 51) hx hb hg inG12 hown hK hP hb_22.1 hM_67 rfl 23 (by decide) (hN.use (Cond.fieldLinkNest RX13 115 RX12 "instalments" "[I" RX13) 32 rfl rfl) (fun _ h9 => h9) hv70 dX13_die_135 ?_
                  refine lv_iload hx hb dX13_die_138 (lv_at hl 0 rfl) ?_
                  refine lv_iconst (v := 1) hx hb dX13_die_140 (by decide) ?_
                  obtain ⟨f71, hM71⟩ := hW.open_42 hc70
                  refine pg_iast hx hb hK hP hD hS hc70.1 0 hM71 rfl (inbN j_29 24 (by omega) (by omega)) dX13_die_141 (fun H_72 locs hP hD hS => ?_)
                  obtain ⟨M_73, eM_73⟩ : ∃ M1 : Hp, M1 = va_up M_63 v70 (.inl (cy 14, 24, .inl (upd f71 ((nI j_29) : Int32).toNatClampNeg 1))) := ⟨_, rfl⟩
                  have hy23 : (ax M b20 23) = f71 := (congrFun hV.2.2.1 23).symm.trans (ax_of hM_67 (by decide) hv70 hM71)
                  have hV : VW K L M M_73 b20 (fx M b20) (va_up (va_up (ax M b20) 22 (upd (ax M b20 22) ((nI j_29) : Int32).toNatClampNeg k3)) 23 (upd (ax M b20 23) ((nI j_29) : Int32).toNatClampNeg 1)) := by rw [eM_73]; exact hV.ast (j := 23) hW hb_22 hM_67 (by decide) hv70 hc70 hM71
                  have hP : va_P D vwCl ([(za, .inr (13, [.int 0, .ref z1, .int (nI z2), .int (nI z3), .int z4, .int z5, .ref z6, .ref z7, .ref z8, .ref z9, .int (nI z10), .ref z11, .ref z12, .ref z13, .ref z14, .ref z15, .int (nI z16), .ref z17, .int z18, .ref z19]))] ++ va_pl L M_73) H_72 := by rw [eM_73]; exact hP
                  have hD : va_D A ([(za, .inr (13, [.int 0, .ref z1, .int (nI z2), .int (nI z3), .int z4, .int z5, .ref z6, .ref z7, .ref z8, .ref z9, .int (nI z10), .ref z11, .ref z12, .ref z13, .ref z14, .ref z15, .int (nI z16), .ref z17, .int z18, .ref z19]))] ++ va_pl L M_73) := by rw [eM_73]; exact hD
                  have hW : WOM cy K L M_73 := by rw [eM_73]; exact hW.up_42 hc70 ⟨_, rfl⟩
                  have hF : fr K L [12, 14, 16, 30, 31, 33, 34, 41, 42, 75, 76] M M_73 := by rw [eM_73]; exact hF.up hc70 (by decide)
                  have hG : fG K L [10] M M_73 := by rw [eM_73]; exact hG.arr hc70 (by decide)
                  have hM_74 : M_73 v70 = .inl (cy 14, 24, .inl (upd f71 ((nI j_29) : Int32).toNatClampNeg 1)) := by rw [eM_73]; exact va_up_self _ _ _
                  have hM_75 : M_73 v60 = .inl (cy 14, 24, .inl (f_69)) := by rw [eM_73, va_up_ne _ _ (hc60.neT hc70 (by decide))]; exact hM_64
                  have hM_76 : M_73 z1 = .inl (cy 23, 8, .inr (.inr (.inr (.inr (f18))))) := by rw [eM_73, va_up_ne _ _ (i1.neT hc70 (by decide))]; exact hM_65
                  have hM_77 : M_73 z6 = .inl (cy 14, 40, .inl (f37)) := by rw [eM_73, va_up_ne _ _ (i6.neT hc70 (by decide))]; exact hM_66
                  have hM_78 : M_73 b20 = .inr (12, fs45) := by rw [eM_73, va_up_ne _ _ (hb_22.neT hc70 (by decide))]; exact hM_67
                  have hM_79 : M_73 v53 = .inl (cy 14, 24, .inl (f54)) := by rw [eM_73, va_up_ne _ _ (hc53.neT hc70 (by decide))]; exact hM_68
                  obtain ⟨f_80, ef_80⟩ : ∃ f : Nat → Int32, f = upd f71 ((nI j_29) : Int32).toNatClampNeg 1 := ⟨_, rfl⟩
                  rw [← ef_80] at hM_74
                  refine lv_aload hx hb dX13_die_142 (lv_at hl 1 rfl) ?_
                  obtain ⟨v81, hv81, hc81⟩ : ∃ v : Nat, fs45[24]? = some (.ref v : Value) ∧ isk K L v 76 24 := hl45 24 (by decide)
                  refine pg_getN (D := D) (ci := 12) (v := .ref v81) (C := RX12) (T := TX12) (N := 51) hx hb hg inG12 hown hK hP hb_22.1 hM_78 rfl 24 (by decide) (hN.use (Cond.fieldLinkNest RX13 118 RX12 "bears" "[I" RX13) 33 rfl rfl) (fun _ h9 => h9) hv81 dX13_die_144 ?_
                  refine lv_iload hx hb dX13_die_147 (lv_at hl 0 rfl) ?_
                  refine lv_iconst (v := 0) hx hb dX13_die_149 (by decide) ?_
                  obtain ⟨f82, hM82⟩ := hW.open_76 hc81
                  refine pg_iast hx hb hK hP hD hS hc81.1 0 hM82 rfl (inbN j_29 24 (by omega) (by omega)) dX13_die_150 (fun H_83 locs hP hD hS => ?_)
                  obtain ⟨M_84, eM_84⟩ : ∃ M1 : Hp, M1 = va_up M_73 v81 (.inl (cy 14, 24, .inl (upd f82 ((nI j_29) : Int32).toNatClampNeg 0))) := ⟨_, rfl⟩
                  have hy24 : (ax M b20 24) = f82 := (congrFun hV.2.2.1 24).symm.trans (ax_of hM_78 (by decide) hv81 hM82)
                  have hV : VW K L M M_84 b20 (fx M b20) (va_up (va_up (va_up (ax M b20) 22 (upd (ax M b20 22) ((nI j_29) : Int32).toNatClampNeg k3)) 23 (upd (ax M b20 23) ((nI j_29) : Int32).toNatClampNeg 1)) 24 (upd (ax M b20 24) ((nI j_29) : Int32).toNatClampNeg 0)) := by rw [eM_84]; exact hV.ast (j := 24) hW hb_22 hM_78 (by decide) hv81 hc81 hM82
                  have hP : va_P D vwCl ([(za, .inr (13, [.int 0, .ref z1, .int (nI z2), .int (nI z3), .int z4, .int z5, .ref z6, .ref z7, .ref z8, .ref z9, .int (nI z10), .ref z11, .ref z12, .ref z13, .ref z14, .ref z15, .int (nI z16), .ref z17, .int z18, .ref z19]))] ++ va_pl L M_84) H_83 := by rw [eM_84]; exact hP
                  have hD : va_D A ([(za, .inr (13, [.int 0, .ref z1, .int (nI z2), .int (nI z3), .int z4, .int z5, .ref z6, .ref z7, .ref z8, .ref z9, .int (nI z10), .ref z11, .ref z12, .ref z13, .ref z14, .ref z15, .int (nI z16), .ref z17, .int z18, .ref z19]))] ++ va_pl L M_84) := by rw [eM_84]; exact hD
                  have hW : WOM cy K L M_84 := by rw [eM_84]; exact hW.up_76 hc81 ⟨_, rfl⟩
                  have hF : fr K L [12, 14, 16, 30, 31, 33, 34, 41, 42, 75, 76] M M_84 := by rw [eM_84]; exact hF.up hc81 (by decide)
                  have hG : fG K L [10] M M_84 := by rw [eM_84]; exact hG.arr hc81 (by decide)
                  have hM_85 : M_84 v81 = .inl (cy 14, 24, .inl (upd f82 ((nI j_29) : Int32).toNatClampNeg 0)) := by rw [eM_84]; exact va_up_self _ _ _
                  have hM_86 : M_84 v70 = .inl (cy 14, 24, .inl (f_80)) := by rw [eM_84, va_up_ne _ _ (hc70.neT hc81 (by decide))]; exact hM_74
                  have hM_87 : M_84 v60 = .inl (cy 14, 24, .inl (f_69)) := by rw [eM_84, va_up_ne _ _ (hc60.neT hc81 (by decide))]; exact hM_75
                  have hM_88 : M_84 z1 = .inl (cy 23, 8, .inr (.inr (.inr (.inr (f18))))) := by rw [eM_84, va_up_ne _ _ (i1.neT hc81 (by decide))]; exact hM_76
                  have hM_89 : M_84 z6 = .inl (cy 14, 40, .inl (f37)) := by rw [eM_84, va_up_ne _ _ (i6.neT hc81 (by decide))]; exact hM_77
                  have hM_90 : M_84 b20 = .inr (12, fs45) := by rw [eM_84, va_up_ne _ _ (hb_22.neT hc81 (by decide))]; exact hM_78
                  have hM_91 : M_84 v53 = .inl (cy 14, 24, .inl (f54)) := by rw [eM_84, va_up_ne _ _ (hc53.neT hc81 (by decide))]; exact hM_79
                  obtain ⟨f_92, ef_92⟩ : ∃ f : Nat → Int32, f = upd f82 ((nI j_29) : Int32).toNatClampNeg 0 := ⟨_, rfl⟩
                  rw [← ef_92] at hM_85
                  refine lv_aload hx hb dX13_die_151 (lv_at hl 1 rfl) ?_
                  obtain ⟨v93, hv93, hc93⟩ : ∃ v : Nat, fs45[25]? = some (.ref v : Value) ∧ isk K L v 34 24 := hl45 25 (by decide)
                  refine pg_getN (D := D) (ci := 12) (v := .ref v93) (C := RX12) (T := TX12) (N := 51) hx hb hg inG12 hown hK hP hb_22.1 hM_90 rfl 25 (by decide) (hN.use (Cond.fieldLinkNest RX13 121 RX12 "heir" "[I" RX13) 34 rfl rfl) (fun _ h9 => h9) hv93 dX13_die_153 ?_
                  refine lv_iload hx hb dX13_die_156 (lv_at hl 0 rfl) ?_
                  refine lv_aload_n hx hb dX13_die_158 rfl (lv_at hl 2 rfl) ?_
                  refine lv_aload hx hb dX13_die_159 (lv_at hl 1 rfl) ?_
                  refine lv_iload_n hx hb dX13_die_161 rfl (lv_at hl 4 rfl) ?_
                  refine lv_iload hx hb dX13_die_162 (lv_at hl 6 rfl) ?_
                  refine lv_iload_n hx hb dX13_die_164 rfl (lv_at hl 5 rfl) ?_
                  refine lv_iconst (v := 0) hx hb dX13_die_165 (by decide) ?_
                  obtain ⟨j_94, hj_95, rfl⟩ := i32nat 40 (by decide) c_11 n_17
                  have hPc : va_P D vwCl ([(za, .inr (13, [.int 0, .ref z1, .int (nI z2), .int (nI z3), .int z4, .int z5, .ref z6, .ref z7, .ref z8, .ref z9, .int (nI z10), .ref z11, .ref z12, .ref z13, .ref z14, .ref z15, .int (nI z16), .ref z17, .int z18, .ref z19]))] ++ va_pl L M_84) H_83 := hP
                  have hDc : va_D A ([(za, .inr (13, [.int 0, .ref z1, .int (nI z2), .int (nI z3), .int z4, .int z5, .ref z6, .ref z7, .ref z8, .ref z9, .int (nI z10), .ref z11, .ref z12, .ref z13, .ref z14, .ref z15, .int (nI z16), .ref z17, .int z18, .ref z19]))] ++ va_pl L M_84) := hD
                  have hFc : ∀ q, va_A ([(za, .inr (13, [.int 0, .ref z1, .int (nI z2), .int (nI z3), .int z4, .int z5, .ref z6, .ref z7, .ref z8, .ref z9, .int (nI z10), .ref z11, .ref z12, .ref z13, .ref z14, .ref z15, .int (nI z16), .ref z17, .int z18, .ref z19]))] ++ va_pl L M_84) H_83.size q → A q := pg_free hDc hS hA
                  refine va_calli (va_runV (As := [.ref b20, .int (nI j_23), .int (nI j_94), .int k3, .int 0]) (rest := [.int (nI j_29), .ref v93]) ⟨hx, hb, hml, hown, hg⟩ (r_begins2 l D cy K L M_84 H_83.size za 0 z1 z2 z3 z4 z5 z6 z7 z8 z9 z10 z11 z12 z13 z14 z15 z16 z17 z18 z19 b20 j_23 j_94 k3 0  hW i1 b2 b3 i6 i7 i8 i9 b10 i11 i12 i13 i14 i15 b16 i17 i19 hb_22 (by omega) (by omega) ⟨_, _, hM_90, hv57, by omega⟩ hV.2.2.2) (cwV 5 hg (gV wd_832 wd_833 wd_834 wd_717 wd_835) rfl rfl rfl (by decide +kernel) ⟨(Nat.le_trans (Nat.le_of_ble_eq_true rfl) hRf), (Nat.le_trans (Nat.le_of_ble_eq_true rfl) hRl)⟩) ⟨PG.blind, va_recv hK hP (ci := 13) (q0 := 0) rfl rfl, fun U hU hW => ⟨rfl, PG.at hPc hK hDc hN hU hW⟩⟩ rfl rfl hl.1 rfl (lv_room (Nat.le_of_ble_eq_true rfl)) dX13_die_166 ⟨(Nat.le_trans (Nat.le_of_ble_eq_true rfl) hRc), (Nat.le_trans (Nat.le_of_ble_eq_true rfl) hRs)⟩) hS (fun q _ h => hFc q h) hFc (fun r_97 M_98 t H_96 locs ht hvm hw hB hz1 hk1 hS => ?_)
                  have hWb := hW
                  obtain ⟨hW, hF2, hG2, hVP, hp_99⟩ := hw
                  obtain ⟨hP1, hD1⟩ := hB
                  rw [ht] at hP1
                  have hP : va_P D vwCl ([(za, .inr (13, [.int 0, .ref z1, .int (nI z2), .int (nI z3), .int z4, .int z5, .ref z6, .ref z7, .ref z8, .ref z9, .int (nI z10), .ref z11, .ref z12, .ref z13, .ref z14, .ref z15, .int (nI z16), .ref z17, .int z18, .ref z19]))] ++ va_pl L M_98) H_96 := hP1
                  have hD : va_D A ([(za, .inr (13, [.int 0, .ref z1, .int (nI z2), .int (nI z3), .int z4, .int z5, .ref z6, .ref z7, .ref z8, .ref z9, .int (nI z10), .ref z11, .ref z12, .ref z13, .ref z14, .ref z15, .int (nI z16), .ref z17, .int z18, .ref z19]))] ++ va_pl L M_98) := hD1.mono hFc
                  have hM_100 : M_98 z1 = .inl (cy 23, 8, .inr (.inr (.inr (.inr (f18))))) := (hF2.at i1 (by decide)).trans hM_88
                  have hM_101 : M_98 z6 = .inl (cy 14, 40, .inl (f37)) := (hF2.at i6 (by decide)).trans hM_89
                  obtain ⟨fs102, hM102, hn102, hl102⟩ := hW.open_12 hb_22
                  have hv_103 : fs102[21]? = some (.ref v53 : Value) := (hG2 _ hb_22 _ _ hM_90 hM102 21 (by decide)).trans hv53
                  have hv_104 : fs102[22]? = some (.ref v60 : Value) := (hG2 _ hb_22 _ _ hM_90 hM102 22 (by decide)).trans hv60
                  have hv_105 : fs102[23]? = some (.ref v70 : Value) := (hG2 _ hb_22 _ _ hM_90 hM102 23 (by decide)).trans hv70
                  have hv_106 : fs102[24]? = some (.ref v81 : Value) := (hG2 _ hb_22 _ _ hM_90 hM102 24 (by decide)).trans hv81
                  have hv_107 : fs102[25]? = some (.ref v93 : Value) := (hG2 _ hb_22 _ _ hM_90 hM102 25 (by decide)).trans hv93
                  have hF : fr K L [12, 14, 16, 30, 31, 33, 34, 41, 42, 75, 76] M M_98 := hF.tr hF2 (by decide)
                  have hG : fG K L [10] M M_98 := hG.tr hWb hG2 (by decide)
                  obtain ⟨n_108, hn9, hlt9, hV2⟩ := hVP
                  rw [hV.2.1] at hn9
                  rw [hV.2.1, hV.2.2.1] at hV2
                  have hn9 : (fx M b20 10) = (n_108 : Int) := hn9
                  have hV : VW K L M M_98 b20 (va_up (fx M b20) 10 ((n_108 + 1 : Nat) : Int)) (va_up (va_up (va_up (va_up (va_up (va_up (va_up (va_up (va_up (va_up (va_up (ax M b20) 22 (upd (ax M b20 22) ((nI j_29) : Int32).toNatClampNeg k3)) 23 (upd (ax M b20 23) ((nI j_29) : Int32).toNatClampNeg 1)) 24 (upd (ax M b20 24) ((nI j_29) : Int32).toNatClampNeg 0)) 19 (upd (ax M b20 19) (nI n_108).toNatClampNeg (nI j_94))) 20 (upd (ax M b20 20) (nI n_108).toNatClampNeg (nI j_23))) 21 (upd (ax M b20 21) (nI n_108).toNatClampNeg k3)) 22 (upd (upd (ax M b20 22) ((nI j_29) : Int32).toNatClampNeg k3) (nI n_108).toNatClampNeg (-1))) 23 (upd (upd (ax M b20 23) ((nI j_29) : Int32).toNatClampNeg 1) (nI n_108).toNatClampNeg 0)) 24 (upd (upd (ax M b20 24) ((nI j_29) : Int32).toNatClampNeg 0) (nI n_108).toNatClampNeg 0)) 25 (upd (ax M b20 25) (nI n_108).toNatClampNeg (-1))) 9 (upd (ax M b20 9) (nI j_23).toNatClampNeg (nI (n_108 + 1)))) := hV.tr hV2
                  obtain ⟨j_109, rfl, c_110⟩ := hp_99
                  obtain ⟨f111, hM111, hf111⟩ := hW.open_34 hc93
                  refine pg_iast hx hb hK hP hD hS hc93.1 0 hM111 rfl (inbN j_29 24 (by omega) (by omega)) dX13_die_169 (fun H_112 locs hP hD hS => ?_)
                  obtain ⟨M_113, eM_113⟩ : ∃ M1 : Hp, M1 = va_up M_98 v93 (.inl (cy 14, 24, .inl (upd f111 ((nI j_29) : Int32).toNatClampNeg (nI j_109)))) := ⟨_, rfl⟩
                  have hy25 : (upd (ax M b20 25) (nI n_108).toNatClampNeg (-1)) = f111 := (congrFun hV.2.2.1 25).symm.trans (ax_of hM102 (by decide) hv_107 hM111)
                  have hV : VW K L M M_113 b20 (va_up (fx M b20) 10 ((n_108 + 1 : Nat) : Int)) (va_up (va_up (va_up (va_up (va_up (va_up (va_up (va_up (va_up (va_up (va_up (va_up (ax M b20) 22 (upd (ax M b20 22) ((nI j_29) : Int32).toNatClampNeg k3)) 23 (upd (ax M b20 23) ((nI j_29) : Int32).toNatClampNeg 1)) 24 (upd (ax M b20 24) ((nI j_29) : Int32).toNatClampNeg 0)) 19 (upd (ax M b20 19) (nI n_108).toNatClampNeg (nI j_94))) 20 (upd (ax M b20 20) (nI n_108).toNatClampNeg (nI j_23))) 21 (upd (ax M b20 21) (nI n_108).toNatClampNeg k3)) 22 (upd (upd (ax M b20 22) ((nI j_29) : Int32).toNatClampNeg k3) (nI n_108).toNatClampNeg (-1))) 23 (upd (upd (ax M b20 23) ((nI j_29) : Int32).toNatClampNeg 1) (nI n_108).toNatClampNeg 0)) 24 (upd (upd (ax M b20 24) ((nI j_29) : Int32).toNatClampNeg 0) (nI n_108).toNatClampNeg 0)) 25 (upd (ax M b20 25) (nI n_108).toNatClampNeg (-1))) 9 (upd (ax M b20 9) (nI j_23).toNatClampNeg (nI (n_108 + 1)))) 25 (upd (upd (ax M b20 25) (nI n_108).toNatClampNeg (-1)) ((nI j_29) : Int32).toNatClampNeg (nI j_109))) := by rw [eM_113]; exact hV.ast (j := 25) hW hb_22 hM102 (by decide) hv_107 hc93 hM111
                  have hP : va_P D vwCl ([(za, .inr (13, [.int 0, .ref z1, .int (nI z2), .int (nI z3), .int z4, .int z5, .ref z6, .ref z7, .ref z8, .ref z9, .int (nI z10), .ref z11, .ref z12, .ref z13, .ref z14, .ref z15, .int (nI z16), .ref z17, .int z18, .ref z19]))] ++ va_pl L M_113) H_112 := by rw [eM_113]; exact hP
                  have hD : va_D A ([(za, .inr (13, [.int 0, .ref z1, .int (nI z2), .int (nI z3), .int z4, .int z5, .ref z6, .ref z7, .ref z8, .ref z9, .int (nI z10), .ref z11, .ref z12, .ref z13, .ref z14, .ref z15, .int (nI z16), .ref z17, .int z18, .ref z19]))] ++ va_pl L M_113) := by rw [eM_113]; exact hD
                  have hW : WOM cy K L M_113 := by rw [eM_113]; exact hW.up_34 hc93 ⟨_, rfl, (updP (P := fun z => (z = -1 ∨ ∃ c : Nat, c < 24 ∧ z = nI c)) hf111 (Or.inr ⟨j_109, by omega, rfl⟩))⟩
                  have hF : fr K L [12, 14, 16, 30, 31, 33, 34, 41, 42, 75, 76] M M_113 := by rw [eM_113]; exact hF.up hc93 (by decide)
                  have hG : fG K L [10] M M_113 := by rw [eM_113]; exact hG.arr hc93 (by decide)
                  have hM_114 : M_113 v93 = .inl (cy 14, 24, .inl (upd f111 ((nI j_29) : Int32).toNatClampNeg (nI j_109))) := by rw [eM_113]; exact va_up_self _ _ _
                  have hM_115 : M_113 z1 = .inl (cy 23, 8, .inr (.inr (.inr (.inr (f18))))) := by rw [eM_113, va_up_ne _ _ (i1.neT hc93 (by decide))]; exact hM_100
                  have hM_116 : M_113 z6 = .inl (cy 14, 40, .inl (f37)) := by rw [eM_113, va_up_ne _ _ (i6.neT hc93 (by decide))]; exact hM_101
                  have hM_117 : M_113 b20 = .inr (12, fs102) := by rw [eM_113, va_up_ne _ _ (hb_22.neT hc93 (by decide))]; exact hM102
                  have hf_119 : ∀ j, j < 24 → ((upd f111 ((nI j_29) : Int32).toNatClampNeg (nI j_109)) j = -1 ∨ ∃ c : Nat, c < 24 ∧ (upd f111 ((nI j_29) : Int32).toNatClampNeg (nI j_109)) j = nI c) := (updP (P := fun z => (z = -1 ∨ ∃ c : Nat, c < 24 ∧ z = nI c)) hf111 (Or.inr ⟨j_109, by omega, rfl⟩))
                  obtain ⟨f_118, ef_118⟩ : ∃ f : Nat → Int32, f = upd f111 ((nI j_29) : Int32).toNatClampNeg (nI j_109) := ⟨_, rfl⟩
                  rw [← ef_118] at hM_114 hf_119
                  refine lv_aload_n hx hb dX13_die_170 rfl (lv_at hl 2 rfl) ?_
                  refine lv_aload hx hb dX13_die_171 (lv_at hl 1 rfl) ?_
                  refine pg_getN (D := D) (ci := 12) (v := .ref v93) (C := RX12) (T := TX12) (N := 51) hx hb hg inG12 hown hK hP hb_22.1 hM_117 rfl 25 (by decide) (hN.use (Cond.fieldLinkNest RX13 121 RX12 "heir" "[I" RX13) 34 rfl rfl) (fun _ h9 => h9) hv_107 dX13_die_173 ?_
                  refine lv_iload hx hb dX13_die_176 (lv_at hl 0 rfl) ?_
                  have hi_120 : vp_in (nI j_29) 24 := (inbN j_29 24 (by omega) (by omega))
                  refine pg_iald hx hb hK hP hc93.1 0 hM_114 rfl hi_120 dX13_die_178 ?_
                  have hp_121 := hf_119 _ (vp_lt hi_120)
                  rcases hp_121 with ec_124 | ⟨c_122, hc_123, ec_124⟩
                  · rw [ec_124]
                    have hPc := hP.sub (ws' := [(za, .inr (13, [.int 0, .ref z1, .int (nI z2), .int (nI z3), .int z4, .int z5, .ref z6, .ref z7, .ref z8, .ref z9, .int (nI z10), .ref z11, .ref z12, .ref z13, .ref z14, .ref z15, .int (nI z16), .ref z17, .int z18, .ref z19]))]) [0] rfl
                    have hDc := hD.sub (ws' := [(za, .inr (13, [.int 0, .ref z1, .int (nI z2), .int (nI z3), .int z4, .int z5, .ref z6, .ref z7, .ref z8, .ref z9, .int (nI z10), .ref z11, .ref z12, .ref z13, .ref z14, .ref z15, .int (nI z16), .ref z17, .int z18, .ref z19]))]) [0] (by decide) rfl
                    have hKc := hK.sub (tys' := []) [] rfl
                    have hFc := va_free (wc := [(za, .inr (13, [.int 0, .ref z1, .int (nI z2), .int (nI z3), .int z4, .int z5, .ref z6, .ref z7, .ref z8, .ref z9, .int (nI z10), .ref z11, .ref z12, .ref z13, .ref z14, .ref z15, .int (nI z16), .ref z17, .int z18, .ref z19]))]) hD hS hA [0] rfl
                    refine va_calli (va_runV (As := [.int (-1)]) (rest := []) ⟨hx, hb, hml, hown, hg⟩ (m_done l D H_112.size za 0 z1 (nI z2) (nI z3) z4 z5 z6 z7 z8 z9 (nI z10) z11 z12 z13 z14 z15 (nI z16) z17 z18 z19 (-1)) (cwV 1 hg (gV wd_730 wd_731 wd_732 wd_717 wd_733) rfl rfl rfl (by decide +kernel) ⟨(Nat.le_trans (Nat.le_of_ble_eq_true rfl) hRf), (Nat.le_trans (Nat.le_of_ble_eq_true rfl) hRl)⟩) ⟨Pr.blind, va_recv hK hP (ci := 13) (q0 := 0) rfl rfl, fun U hU hW => ⟨rfl, Pr.at hPc hKc hDc hN hU hW⟩⟩ rfl rfl hl.1 rfl (lv_room (Nat.le_of_ble_eq_true rfl)) dX13_die_179 ⟨(Nat.le_trans (Nat.le_of_ble_eq_true rfl) hRc), (Nat.le_trans (Nat.le_of_ble_eq_true rfl) hRs)⟩) hS (fun q _ h => hFc q h) hFc (fun r_126 M_127 t H_125 locs ht hvm hw hB hz1 hk1 hS => ?_)
                    have hp_128 := hw
                    obtain ⟨hP1, hK1, hD1⟩ := hB
                    rw [ht] at hP1
                    obtain ⟨hP, hD⟩ := va_joinQ (X := [(za, .inr (13, [.int 0, .ref z1, .int (nI z2), .int (nI z3), .int z4, .int z5, .ref z6, .ref z7, .ref z8, .ref z9, .int (nI z10), .ref z11, .ref z12, .ref z13, .ref z14, .ref z15, .int (nI z16), .ref z17, .int z18, .ref z19]))]) (cx := [(za, .inr (13, [.int 0, .ref z1, .int (nI z2), .int (nI z3), .int z4, .int z5, .ref z6, .ref z7, .ref z8, .ref z9, .int (nI z10), .ref z11, .ref z12, .ref z13, .ref z14, .ref z15, .int (nI z16), .ref z17, .int z18, .ref z19]))]) (wr := []) (w1 := [(za, .inr (13, [.int 0, .ref z1, .int (nI z2), .int (nI z3), .int 0, .int (-1), .ref z6, .ref z7, .ref z8, .ref z9, .int (nI z10), .ref z11, .ref z12, .ref z13, .ref z14, .ref z15, .int (nI z16), .ref z17, .int z18, .ref z19]))]) (pl := va_pl L M_113) hP hD [0] [] rfl rfl (by decide) (by decide) hk1 hFc hP1 hD1
                    have hP : va_P D vwCl ([(za, .inr (13, [.int 0, .ref z1, .int (nI z2), .int (nI z3), .int 0, .int (-1), .ref z6, .ref z7, .ref z8, .ref z9, .int (nI z10), .ref z11, .ref z12, .ref z13, .ref z14, .ref z15, .int (nI z16), .ref z17, .int z18, .ref z19]))] ++ va_pl L M_113) H_125 := hP
                    have hD : va_D A ([(za, .inr (13, [.int 0, .ref z1, .int (nI z2), .int (nI z3), .int 0, .int (-1), .ref z6, .ref z7, .ref z8, .ref z9, .int (nI z10), .ref z11, .ref z12, .ref z13, .ref z14, .ref z15, .int (nI z16), .ref z17, .int z18, .ref z19]))] ++ va_pl L M_113) := hD
                    have hq := Eq.symm hp_128
                    subst hq
                    have hA9 : HA (ax M b20 2) (ax M b20 3) := hAT.1
                    have hB9 : HB (fx M b20 16) (fx M b20 14) (ax M b20 3) (ax M b20 43) := hAT.2.1
                    have hC9 : HC ((n_108 + 1 : Nat) : Int) (upd (upd (ax M b20 22) ((nI j_29) : Int32).toNatClampNeg k3) (nI n_108).toNatClampNeg (-1)) (upd (upd (ax M b20 23) ((nI j_29) : Int32).toNatClampNeg 1) (nI n_108).toNatClampNeg 0) := HC.beg (HC.st hAT.2.2.1 (by decide)) hn9 (by omega) (nI_cl (by omega))
                    have hD9 : HD (fx M b20 0) (fx M b20 11) (fx M b20 15) (ax M b20 34) (ax M b20 41) := hAT.2.2.2.1
                    have hE9 : HE (fx M b20 0) (fx M b20 1) (fx M b20 12) (fx M b20 13) (ax M b20 37) := hAT.2.2.2.2
                    have hH9 : HI (va_up (fx M b20) 10 ((n_108 + 1 : Nat) : Int)) (va_up (va_up (va_up (va_up (va_up (va_up (va_up (va_up (va_up (va_up (va_up (va_up (ax M b20) 22 (upd (ax M b20 22) ((nI j_29) : Int32).toNatClampNeg k3)) 23 (upd (ax M b20 23) ((nI j_29) : Int32).toNatClampNeg 1)) 24 (upd (ax M b20 24) ((nI j_29) : Int32).toNatClampNeg 0)) 19 (upd (ax M b20 19) (nI n_108).toNatClampNeg (nI j_94))) 20 (upd (ax M b20 20) (nI n_108).toNatClampNeg (nI j_23))) 21 (upd (ax M b20 21) (nI n_108).toNatClampNeg k3)) 22 (upd (upd (ax M b20 22) ((nI j_29) : Int32).toNatClampNeg k3) (nI n_108).toNatClampNeg (-1))) 23 (upd (upd (ax M b20 23) ((nI j_29) : Int32).toNatClampNeg 1) (nI n_108).toNatClampNeg 0)) 24 (upd (upd (ax M b20 24) ((nI j_29) : Int32).toNatClampNeg 0) (nI n_108).toNatClampNeg 0)) 25 (upd (ax M b20 25) (nI n_108).toNatClampNeg (-1))) 9 (upd (ax M b20 9) (nI j_23).toNatClampNeg (nI (n_108 + 1)))) 25 (upd (upd (ax M b20 25) (nI n_108).toNatClampNeg (-1)) ((nI j_29) : Int32).toNatClampNeg (nI j_109))) := ⟨hA9, hB9, hC9, hD9, hE9⟩
                    have hGI9 : GI K L z1 z2 M_113 := GI.fin hW0 i1 b2 hGI hact hV (hF.at i1 (by decide)) hH9
                    rw [hQ]
                    exact W.iret (v := (-1)) hx hb hr (fun t ht hW9 => ⟨⟨(-1), M_113, rfl, ⟨hW, hF, hG, hGI9, trivial⟩, ⟨0, (-1), by rw [ht]; exact hP, hD⟩⟩, hS.F ht⟩) hS.2.2 dX13_die_182
                  · rw [ec_124]
                    have hPc := hP.sub (ws' := [(za, .inr (13, [.int 0, .ref z1, .int (nI z2), .int (nI z3), .int z4, .int z5, .ref z6, .ref z7, .ref z8, .ref z9, .int (nI z10), .ref z11, .ref z12, .ref z13, .ref z14, .ref z15, .int (nI z16), .ref z17, .int z18, .ref z19]))]) [0] rfl
                    have hDc := hD.sub (ws' := [(za, .inr (13, [.int 0, .ref z1, .int (nI z2), .int (nI z3), .int z4, .int z5, .ref z6, .ref z7, .ref z8, .ref z9, .int (nI z10), .ref z11, .ref z12, .ref z13, .ref z14, .ref z15, .int (nI z16), .ref z17, .int z18, .ref z19]))]) [0] (by decide) rfl
                    have hKc := hK.sub (tys' := []) [] rfl
                    have hFc := va_free (wc := [(za, .inr (13, [.int 0, .ref z1, .int (nI z2), .int (nI z3), .int z4, .int z5, .ref z6, .ref z7, .ref z8, .ref z9, .int (nI z10), .ref z11, .ref z12, .ref z13, .ref z14, .ref z15, .int (nI z16), .ref z17, .int z18, .ref z19]))]) hD hS hA [0] rfl
                    refine va_calli (va_runV (As := [.int (nI c_122)]) (rest := []) ⟨hx, hb, hml, hown, hg⟩ (m_done l D H_112.size za 0 z1 (nI z2) (nI z3) z4 z5 z6 z7 z8 z9 (nI z10) z11 z12 z13 z14 z15 (nI z16) z17 z18 z19 (nI c_122)) (cwV 1 hg (gV wd_730 wd_731 wd_732 wd_717 wd_733) rfl rfl rfl (by decide +kernel) ⟨(Nat.le_trans (Nat.le_of_ble_eq_true rfl) hRf), (Nat.le_trans (Nat.le_of_ble_eq_true rfl) hRl)⟩) ⟨Pr.blind, va_recv hK hP (ci := 13) (q0 := 0) rfl rfl, fun U hU hW => ⟨rfl, Pr.at hPc hKc hDc hN hU hW⟩⟩ rfl rfl hl.1 rfl (lv_room (Nat.le_of_ble_eq_true rfl)) dX13_die_179 ⟨(Nat.le_trans (Nat.le_of_ble_eq_true rfl) hRc), (Nat.le_trans (Nat.le_of_ble_eq_true rfl) hRs)⟩) hS (fun q _ h => hFc q h) hFc (fun r_130 M_131 t H_129 locs ht hvm hw hB hz1 hk1 hS => ?_)
                    have hp_132 := hw
                    obtain ⟨hP1, hK1, hD1⟩ := hB
                    rw [ht] at hP1
                    obtain ⟨hP, hD⟩ := va_joinQ (X := [(za, .inr (13, [.int 0, .ref z1, .int (nI z2), .int (nI z3), .int z4, .int z5, .ref z6, .ref z7, .ref z8, .ref z9, .int (nI z10), .ref z11, .ref z12, .ref z13, .ref z14, .ref z15, .int (nI z16), .ref z17, .int z18, .ref z19]))]) (cx := [(za, .inr (13, [.int 0, .ref z1, .int (nI z2), .int (nI z3), .int z4, .int z5, .ref z6, .ref z7, .ref z8, .ref z9, .int (nI z10), .ref z11, .ref z12, .ref z13, .ref z14, .ref z15, .int (nI z16), .ref z17, .int z18, .ref z19]))]) (wr := []) (w1 := [(za, .inr (13, [.int 0, .ref z1, .int (nI z2), .int (nI z3), .int 0, .int (-1), .ref z6, .ref z7, .ref z8, .ref z9, .int (nI z10), .ref z11, .ref z12, .ref z13, .ref z14, .ref z15, .int (nI z16), .ref z17, .int z18, .ref z19]))]) (pl := va_pl L M_113) hP hD [0] [] rfl rfl (by decide) (by decide) hk1 hFc hP1 hD1
                    have hP : va_P D vwCl ([(za, .inr (13, [.int 0, .ref z1, .int (nI z2), .int (nI z3), .int 0, .int (-1), .ref z6, .ref z7, .ref z8, .ref z9, .int (nI z10), .ref z11, .ref z12, .ref z13, .ref z14, .ref z15, .int (nI z16), .ref z17, .int z18, .ref z19]))] ++ va_pl L M_113) H_129 := hP
                    have hD : va_D A ([(za, .inr (13, [.int 0, .ref z1, .int (nI z2), .int (nI z3), .int 0, .int (-1), .ref z6, .ref z7, .ref z8, .ref z9, .int (nI z10), .ref z11, .ref z12, .ref z13, .ref z14, .ref z15, .int (nI z16), .ref z17, .int z18, .ref z19]))] ++ va_pl L M_113) := hD
                    have hq := Eq.symm hp_132
                    subst hq
                    have hA9 : HA (ax M b20 2) (ax M b20 3) := hAT.1
                    have hB9 : HB (fx M b20 16) (fx M b20 14) (ax M b20 3) (ax M b20 43) := hAT.2.1
                    have hC9 : HC ((n_108 + 1 : Nat) : Int) (upd (upd (ax M b20 22) ((nI j_29) : Int32).toNatClampNeg k3) (nI n_108).toNatClampNeg (-1)) (upd (upd (ax M b20 23) ((nI j_29) : Int32).toNatClampNeg 1) (nI n_108).toNatClampNeg 0) := HC.beg (HC.st hAT.2.2.1 (by decide)) hn9 (by omega) (nI_cl (by omega))
                    have hD9 : HD (fx M b20 0) (fx M b20 11) (fx M b20 15) (ax M b20 34) (ax M b20 41) := hAT.2.2.2.1
                    have hE9 : HE (fx M b20 0) (fx M b20 1) (fx M b20 12) (fx M b20 13) (ax M b20 37) := hAT.2.2.2.2
                    have hH9 : HI (va_up (fx M b20) 10 ((n_108 + 1 : Nat) : Int)) (va_up (va_up (va_up (va_up (va_up (va_up (va_up (va_up (va_up (va_up (va_up (va_up (ax M b20) 22 (upd (ax M b20 22) ((nI j_29) : Int32).toNatClampNeg k3)) 23 (upd (ax M b20 23) ((nI j_29) : Int32).toNatClampNeg 1)) 24 (upd (ax M b20 24) ((nI j_29) : Int32).toNatClampNeg 0)) 19 (upd (ax M b20 19) (nI n_108).toNatClampNeg (nI j_94))) 20 (upd (ax M b20 20) (nI n_108).toNatClampNeg (nI j_23))) 21 (upd (ax M b20 21) (nI n_108).toNatClampNeg k3)) 22 (upd (upd (ax M b20 22) ((nI j_29) : Int32).toNatClampNeg k3) (nI n_108).toNatClampNeg (-1))) 23 (upd (upd (ax M b20 23) ((nI j_29) : Int32).toNatClampNeg 1) (nI n_108).toNatClampNeg 0)) 24 (upd (upd (ax M b20 24) ((nI j_29) : Int32).toNatClampNeg 0) (nI n_108).toNatClampNeg 0)) 25 (upd (ax M b20 25) (nI n_108).toNatClampNeg (-1))) 9 (upd (ax M b20 9) (nI j_23).toNatClampNeg (nI (n_108 + 1)))) 25 (upd (upd (ax M b20 25) (nI n_108).toNatClampNeg (-1)) ((nI j_29) : Int32).toNatClampNeg (nI j_109))) := ⟨hA9, hB9, hC9, hD9, hE9⟩
                    have hGI9 : GI K L z1 z2 M_113 := GI.fin hW0 i1 b2 hGI hact hV (hF.at i1 (by decide)) hH9
                    rw [hQ]
                    exact W.iret (v := (nI c_122)) hx hb hr (fun t ht hW9 => ⟨⟨(nI c_122), M_113, rfl, ⟨hW, hF, hG, hGI9, trivial⟩, ⟨0, (-1), by rw [ht]; exact hP, hD⟩⟩, hS.F ht⟩) hS.2.2 dX13_die_182
                · have hz := rfl (a := 0)
                  have n_133 : v57 = 24 := (iEQ (a := v57) (b := 24) (by omega) (by omega)).mp c_58
                  refine lv_aload_n hx hb dX13_die_117 rfl (lv_at hl 2 rfl) ?_
                  refine lv_bipush (v := 9) hx hb dX13_die_118 (by decide) ?_
                  have hPc := hP.sub (ws' := [(za, .inr (13, [.int 0, .ref z1, .int (nI z2), .int (nI z3), .int z4, .int z5, .ref z6, .ref z7, .ref z8, .ref z9, .int (nI z10), .ref z11, .ref z12, .ref z13, .ref z14, .ref z15, .int (nI z16), .ref z17, .int z18, .ref z19]))]) [0] rfl
                  have hDc := hD.sub (ws' := [(za, .inr (13, [.int 0, .ref z1, .int (nI z2), .int (nI z3), .int z4, .int z5, .ref z6, .ref z7, .ref z8, .ref z9, .int (nI z10), .ref z11, .ref z12, .ref z13, .ref z14, .ref z15, .int (nI z16), .ref z17, .int z18, .ref z19]))]) [0] (by decide) rfl
                  have hKc := hK.sub (tys' := []) [] rfl
                  have hFc := va_free (wc := [(za, .inr (13, [.int 0, .ref z1, .int (nI z2), .int (nI z3), .int z4, .int z5, .ref z6, .ref z7, .ref z8, .ref z9, .int (nI z10), .ref z11, .ref z12, .ref z13, .ref z14, .ref z15, .int (nI z16), .ref z17, .int z18, .ref z19]))]) hD hS hA [0] rfl
                  refine va_calli (va_runV (As := [.int 9]) (rest := []) ⟨hx, hb, hml, hown, hg⟩ (m_refused l D H_46.size za 0 z1 (nI z2) (nI z3) z4 z5 z6 z7 z8 z9 (nI z10) z11 z12 z13 z14 z15 (nI z16) z17 z18 z19 9) (cwV 1 hg (gV wd_725 wd_726 wd_727 wd_717 wd_728) rfl rfl rfl (by decide +kernel) ⟨(Nat.le_trans (Nat.le_of_ble_eq_true rfl) hRf), (Nat.le_trans (Nat.le_of_ble_eq_true rfl) hRl)⟩) ⟨Pr.blind, va_recv hK hP (ci := 13) (q0 := 0) rfl rfl, fun U hU hW => ⟨rfl, Pr.at hPc hKc hDc hN hU hW⟩⟩ rfl rfl hl.1 rfl (lv_room (Nat.le_of_ble_eq_true rfl)) dX13_die_120 ⟨(Nat.le_trans (Nat.le_of_ble_eq_true rfl) hRc), (Nat.le_trans (Nat.le_of_ble_eq_true rfl) hRs)⟩) hS (fun q _ h => hFc q h) hFc (fun r_135 M_136 t H_134 locs ht hvm hw hB hz1 hk1 hS => ?_)
                  have hp_137 := hw
                  obtain ⟨hP1, hK1, hD1⟩ := hB
                  rw [ht] at hP1
                  obtain ⟨hP, hD⟩ := va_joinQ (X := [(za, .inr (13, [.int 0, .ref z1, .int (nI z2), .int (nI z3), .int z4, .int z5, .ref z6, .ref z7, .ref z8, .ref z9, .int (nI z10), .ref z11, .ref z12, .ref z13, .ref z14, .ref z15, .int (nI z16), .ref z17, .int z18, .ref z19]))]) (cx := [(za, .inr (13, [.int 0, .ref z1, .int (nI z2), .int (nI z3), .int z4, .int z5, .ref z6, .ref z7, .ref z8, .ref z9, .int (nI z10), .ref z11, .ref z12, .ref z13, .ref z14, .ref z15, .int (nI z16), .ref z17, .int z18, .ref z19]))]) (wr := []) (w1 := [(za, .inr (13, [.int 0, .ref z1, .int (nI z2), .int (nI z3), .int 9, .int (-1), .ref z6, .ref z7, .ref z8, .ref z9, .int (nI z10), .ref z11, .ref z12, .ref z13, .ref z14, .ref z15, .int (nI z16), .ref z17, .int z18, .ref z19]))]) (pl := va_pl L M) hP hD [0] [] rfl rfl (by decide) (by decide) hk1 hFc hP1 hD1
                  have hP : va_P D vwCl ([(za, .inr (13, [.int 0, .ref z1, .int (nI z2), .int (nI z3), .int 9, .int (-1), .ref z6, .ref z7, .ref z8, .ref z9, .int (nI z10), .ref z11, .ref z12, .ref z13, .ref z14, .ref z15, .int (nI z16), .ref z17, .int z18, .ref z19]))] ++ va_pl L M) H_134 := hP
                  have hD : va_D A ([(za, .inr (13, [.int 0, .ref z1, .int (nI z2), .int (nI z3), .int 9, .int (-1), .ref z6, .ref z7, .ref z8, .ref z9, .int (nI z10), .ref z11, .ref z12, .ref z13, .ref z14, .ref z15, .int (nI z16), .ref z17, .int z18, .ref z19]))] ++ va_pl L M) := hD
                  have hq := Eq.symm hp_137
                  subst hq
                  rw [hQ]
                  exact W.iret (v := (-1)) hx hb hr (fun t ht hW9 => ⟨⟨(-1), M, rfl, ⟨hW, hF, hG, hGI, trivial⟩, ⟨9, (-1), by rw [ht]; exact hP, hD⟩⟩, hS.F ht⟩) hS.2.2 dX13_die_123
              · have hz := rfl (a := 0)
                refine lv_aload_n hx hb dX13_die_101 rfl (lv_at hl 2 rfl) ?_
                refine lv_iconst (v := 3) hx hb dX13_die_102 (by decide) ?_
                have hPc := hP.sub (ws' := [(za, .inr (13, [.int 0, .ref z1, .int (nI z2), .int (nI z3), .int z4, .int z5, .ref z6, .ref z7, .ref z8, .ref z9, .int (nI z10), .ref z11, .ref z12, .ref z13, .ref z14, .ref z15, .int (nI z16), .ref z17, .int z18, .ref z19]))]) [0] rfl
                have hDc := hD.sub (ws' := [(za, .inr (13, [.int 0, .ref z1, .int (nI z2), .int (nI z3), .int z4, .int z5, .ref z6, .ref z7, .ref z8, .ref z9, .int (nI z10), .ref z11, .ref z12, .ref z13, .ref z14, .ref z15, .int (nI z16), .ref z17, .int z18, .ref z19]))]) [0] (by decide) rfl
                have hKc := hK.sub (tys' := []) [] rfl
                have hFc := va_free (wc := [(za, .inr (13, [.int 0, .ref z1, .int (nI z2), .int (nI z3), .int z4, .int z5, .ref z6, .ref z7, .ref z8, .ref z9, .int (nI z10), .ref z11, .ref z12, .ref z13, .ref z14, .ref z15, .int (nI z16), .ref z17, .int z18, .ref z19]))]) hD hS hA [0] rfl
                refine va_calli (va_runV (As := [.int 3]) (rest := []) ⟨hx, hb, hml, hown, hg⟩ (m_refused l D H_46.size za 0 z1 (nI z2) (nI z3) z4 z5 z6 z7 z8 z9 (nI z10) z11 z12 z13 z14 z15 (nI z16) z17 z18 z19 3) (cwV 1 hg (gV wd_725 wd_726 wd_727 wd_717 wd_728) rfl rfl rfl (by decide +kernel) ⟨(Nat.le_trans (Nat.le_of_ble_eq_true rfl) hRf), (Nat.le_trans (Nat.le_of_ble_eq_true rfl) hRl)⟩) ⟨Pr.blind, va_recv hK hP (ci := 13) (q0 := 0) rfl rfl, fun U hU hW => ⟨rfl, Pr.at hPc hKc hDc hN hU hW⟩⟩ rfl rfl hl.1 rfl (lv_room (Nat.le_of_ble_eq_true rfl)) dX13_die_103 ⟨(Nat.le_trans (Nat.le_of_ble_eq_true rfl) hRc), (Nat.le_trans (Nat.le_of_ble_eq_true rfl) hRs)⟩) hS (fun q _ h => hFc q h) hFc (fun r_139 M_140 t H_138 locs ht hvm hw hB hz1 hk1 hS => ?_)
                have hp_141 := hw
                obtain ⟨hP1, hK1, hD1⟩ := hB
                rw [ht] at hP1
                obtain ⟨hP, hD⟩ := va_joinQ (X := [(za, .inr (13, [.int 0, .ref z1, .int (nI z2), .int (nI z3), .int z4, .int z5, .ref z6, .ref z7, .ref z8, .ref z9, .int (nI z10), .ref z11, .ref z12, .ref z13, .ref z14, .ref z15, .int (nI z16), .ref z17, .int z18, .ref z19]))]) (cx := [(za, .inr (13, [.int 0, .ref z1, .int (nI z2), .int (nI z3), .int z4, .int z5, .ref z6, .ref z7, .ref z8, .ref z9, .int (nI z10), .ref z11, .ref z12, .ref z13, .ref z14, .ref z15, .int (nI z16), .ref z17, .int z18, .ref z19]))]) (wr := []) (w1 := [(za, .inr (13, [.int 0, .ref z1, .int (nI z2), .int (nI z3), .int 3, .int (-1), .ref z6, .ref z7, .ref z8, .ref z9, .int (nI z10), .ref z11, .ref z12, .ref z13, .ref z14, .ref z15, .int (nI z16), .ref z17, .int z18, .ref z19]))]) (pl := va_pl L M) hP hD [0] [] rfl rfl (by decide) (by decide) hk1 hFc hP1 hD1
                have hP : va_P D vwCl ([(za, .inr (13, [.int 0, .ref z1, .int (nI z2), .int (nI z3), .int 3, .int (-1), .ref z6, .ref z7, .ref z8, .ref z9, .int (nI z10), .ref z11, .ref z12, .ref z13, .ref z14, .ref z15, .int (nI z16), .ref z17, .int z18, .ref z19]))] ++ va_pl L M) H_138 := hP
                have hD : va_D A ([(za, .inr (13, [.int 0, .ref z1, .int (nI z2), .int (nI z3), .int 3, .int (-1), .ref z6, .ref z7, .ref z8, .ref z9, .int (nI z10), .ref z11, .ref z12, .ref z13, .ref z14, .ref z15, .int (nI z16), .ref z17, .int z18, .ref z19]))] ++ va_pl L M) := hD
                have hq := Eq.symm hp_141
                subst hq
                rw [hQ]
                exact W.iret (v := (-1)) hx hb hr (fun t ht hW9 => ⟨⟨(-1), M, rfl, ⟨hW, hF, hG, hGI, trivial⟩, ⟨3, (-1), by rw [ht]; exact hP, hD⟩⟩, hS.F ht⟩) hS.2.2 dX13_die_106
            · have hz := rfl (a := 0)
              refine lv_if_eq (tgt := 101) hx hb dX13_die_86 (by decide) (fun _ => ?_) (fun c_142 => absurd c_142 (by decide))
              refine lv_aload_n hx hb dX13_die_101 rfl (lv_at hl 2 rfl) ?_
              refine lv_iconst (v := 3) hx hb dX13_die_102 (by decide) ?_
              have hPc := hP.sub (ws' := [(za, .inr (13, [.int 0, .ref z1, .int (nI z2), .int (nI z3), .int z4, .int z5, .ref z6, .ref z7, .ref z8, .ref z9, .int (nI z10), .ref z11, .ref z12, .ref z13, .ref z14, .ref z15, .int (nI z16), .ref z17, .int z18, .ref z19]))]) [0] rfl
              have hDc := hD.sub (ws' := [(za, .inr (13, [.int 0, .ref z1, .int (nI z2), .int (nI z3), .int z4, .int z5, .ref z6, .ref z7, .ref z8, .ref z9, .int (nI z10), .ref z11, .ref z12, .ref z13, .ref z14, .ref z15, .int (nI z16), .ref z17, .int z18, .ref z19]))]) [0] (by decide) rfl
              have hKc := hK.sub (tys' := []) [] rfl
              have hFc := va_free (wc := [(za, .inr (13, [.int 0, .ref z1, .int (nI z2), .int (nI z3), .int z4, .int z5, .ref z6, .ref z7, .ref z8, .ref z9, .int (nI z10), .ref z11, .ref z12, .ref z13, .ref z14, .ref z15, .int (nI z16), .ref z17, .int z18, .ref z19]))]) hD hS hA [0] rfl
              refine va_calli (va_runV (As := [.int 3]) (rest := []) ⟨hx, hb, hml, hown, hg⟩ (m_refused l D H_46.size za 0 z1 (nI z2) (nI z3) z4 z5 z6 z7 z8 z9 (nI z10) z11 z12 z13 z14 z15 (nI z16) z17 z18 z19 3) (cwV 1 hg (gV wd_725 wd_726 wd_727 wd_717 wd_728) rfl rfl rfl (by decide +kernel) ⟨(Nat.le_trans (Nat.le_of_ble_eq_true rfl) hRf), (Nat.le_trans (Nat.le_of_ble_eq_true rfl) hRl)⟩) ⟨Pr.blind, va_recv hK hP (ci := 13) (q0 := 0) rfl rfl, fun U hU hW => ⟨rfl, Pr.at hPc hKc hDc hN hU hW⟩⟩ rfl rfl hl.1 rfl (lv_room (Nat.le_of_ble_eq_true rfl)) dX13_die_103 ⟨(Nat.le_trans (Nat.le_of_ble_eq_true rfl) hRc), (Nat.le_trans (Nat.le_of_ble_eq_true rfl) hRs)⟩) hS (fun q _ h => hFc q h) hFc (fun r_144 M_145 t H_143 locs ht hvm hw hB hz1 hk1 hS => ?_)
              have hp_146 := hw
              obtain ⟨hP1, hK1, hD1⟩ := hB
              rw [ht] at hP1
              obtain ⟨hP, hD⟩ := va_joinQ (X := [(za, .inr (13, [.int 0, .ref z1, .int (nI z2), .int (nI z3), .int z4, .int z5, .ref z6, .ref z7, .ref z8, .ref z9, .int (nI z10), .ref z11, .ref z12, .ref z13, .ref z14, .ref z15, .int (nI z16), .ref z17, .int z18, .ref z19]))]) (cx := [(za, .inr (13, [.int 0, .ref z1, .int (nI z2), .int (nI z3), .int z4, .int z5, .ref z6, .ref z7, .ref z8, .ref z9, .int (nI z10), .ref z11, .ref z12, .ref z13, .ref z14, .ref z15, .int (nI z16), .ref z17, .int z18, .ref z19]))]) (wr := []) (w1 := [(za, .inr (13, [.int 0, .ref z1, .int (nI z2), .int (nI z3), .int 3, .int (-1), .ref z6, .ref z7, .ref z8, .ref z9, .int (nI z10), .ref z11, .ref z12, .ref z13, .ref z14, .ref z15, .int (nI z16), .ref z17, .int z18, .ref z19]))]) (pl := va_pl L M) hP hD [0] [] rfl rfl (by decide) (by decide) hk1 hFc hP1 hD1
              have hP : va_P D vwCl ([(za, .inr (13, [.int 0, .ref z1, .int (nI z2), .int (nI z3), .int 3, .int (-1), .ref z6, .ref z7, .ref z8, .ref z9, .int (nI z10), .ref z11, .ref z12, .ref z13, .ref z14, .ref z15, .int (nI z16), .ref z17, .int z18, .ref z19]))] ++ va_pl L M) H_143 := hP
              have hD : va_D A ([(za, .inr (13, [.int 0, .ref z1, .int (nI z2), .int (nI z3), .int 3, .int (-1), .ref z6, .ref z7, .ref z8, .ref z9, .int (nI z10), .ref z11, .ref z12, .ref z13, .ref z14, .ref z15, .int (nI z16), .ref z17, .int z18, .ref z19]))] ++ va_pl L M) := hD
              have hq := Eq.symm hp_146
              subst hq
              rw [hQ]
              exact W.iret (v := (-1)) hx hb hr (fun t ht hW9 => ⟨⟨(-1), M, rfl, ⟨hW, hF, hG, hGI, trivial⟩, ⟨3, (-1), by rw [ht]; exact hP, hD⟩⟩, hS.F ht⟩) hS.2.2 dX13_die_106
          · have hz := rfl (a := 0)
            have n_147 : ¬ (c_40 = 4) := fun q => c_43 ((iEQ (a := c_40) (b := 4) (by omega) (by omega)).mpr q)
            refine lv_aload_n hx hb dX13_die_74 rfl (lv_at hl 2 rfl) ?_
            refine lv_iconst (v := 2) hx hb dX13_die_75 (by decide) ?_
            have hPc := hP.sub (ws' := [(za, .inr (13, [.int 0, .ref z1, .int (nI z2), .int (nI z3), .int z4, .int z5, .ref z6, .ref z7, .ref z8, .ref z9, .int (nI z10), .ref z11, .ref z12, .ref z13, .ref z14, .ref z15, .int (nI z16), .ref z17, .int z18, .ref z19]))]) [0] rfl
            have hDc := hD.sub (ws' := [(za, .inr (13, [.int 0, .ref z1, .int (nI z2), .int (nI z3), .int z4, .int z5, .ref z6, .ref z7, .ref z8, .ref z9, .int (nI z10), .ref z11, .ref z12, .ref z13, .ref z14, .ref z15, .int (nI z16), .ref z17, .int z18, .ref z19]))]) [0] (by decide) rfl
            have hKc := hK.sub (tys' := []) [] rfl
            have hFc := va_free (wc := [(za, .inr (13, [.int 0, .ref z1, .int (nI z2), .int (nI z3), .int z4, .int z5, .ref z6, .ref z7, .ref z8, .ref z9, .int (nI z10), .ref z11, .ref z12, .ref z13, .ref z14, .ref z15, .int (nI z16), .ref z17, .int z18, .ref z19]))]) hD hS hA [0] rfl
            refine va_calli (va_runV (As := [.int 2]) (rest := []) ⟨hx, hb, hml, hown, hg⟩ (m_refused l D H_25.size za 0 z1 (nI z2) (nI z3) z4 z5 z6 z7 z8 z9 (nI z10) z11 z12 z13 z14 z15 (nI z16) z17 z18 z19 2) (cwV 1 hg (gV wd_725 wd_726 wd_727 wd_717 wd_728) rfl rfl rfl (by decide +kernel) ⟨(Nat.le_trans (Nat.le_of_ble_eq_true rfl) hRf), (Nat.le_trans (Nat.le_of_ble_eq_true rfl) hRl)⟩) ⟨Pr.blind, va_recv hK hP (ci := 13) (q0 := 0) rfl rfl, fun U hU hW => ⟨rfl, Pr.at hPc hKc hDc hN hU hW⟩⟩ rfl rfl hl.1 rfl (lv_room (Nat.le_of_ble_eq_true rfl)) dX13_die_76 ⟨(Nat.le_trans (Nat.le_of_ble_eq_true rfl) hRc), (Nat.le_trans (Nat.le_of_ble_eq_true rfl) hRs)⟩) hS (fun q _ h => hFc q h) hFc (fun r_149 M_150 t H_148 locs ht hvm hw hB hz1 hk1 hS => ?_)
            have hp_151 := hw
            obtain ⟨hP1, hK1, hD1⟩ := hB
            rw [ht] at hP1
            obtain ⟨hP, hD⟩ := va_joinQ (X := [(za, .inr (13, [.int 0, .ref z1, .int (nI z2), .int (nI z3), .int z4, .int z5, .ref z6, .ref z7, .ref z8, .ref z9, .int (nI z10), .ref z11, .ref z12, .ref z13, .ref z14, .ref z15, .int (nI z16), .ref z17, .int z18, .ref z19]))]) (cx := [(za, .inr (13, [.int 0, .ref z1, .int (nI z2), .int (nI z3), .int z4, .int z5, .ref z6, .ref z7, .ref z8, .ref z9, .int (nI z10), .ref z11, .ref z12, .ref z13, .ref z14, .ref z15, .int (nI z16), .ref z17, .int z18, .ref z19]))]) (wr := []) (w1 := [(za, .inr (13, [.int 0, .ref z1, .int (nI z2), .int (nI z3), .int 2, .int (-1), .ref z6, .ref z7, .ref z8, .ref z9, .int (nI z10), .ref z11, .ref z12, .ref z13, .ref z14, .ref z15, .int (nI z16), .ref z17, .int z18, .ref z19]))]) (pl := va_pl L M) hP hD [0] [] rfl rfl (by decide) (by decide) hk1 hFc hP1 hD1
            have hP : va_P D vwCl ([(za, .inr (13, [.int 0, .ref z1, .int (nI z2), .int (nI z3), .int 2, .int (-1), .ref z6, .ref z7, .ref z8, .ref z9, .int (nI z10), .ref z11, .ref z12, .ref z13, .ref z14, .ref z15, .int (nI z16), .ref z17, .int z18, .ref z19]))] ++ va_pl L M) H_148 := hP
            have hD : va_D A ([(za, .inr (13, [.int 0, .ref z1, .int (nI z2), .int (nI z3), .int 2, .int (-1), .ref z6, .ref z7, .ref z8, .ref z9, .int (nI z10), .ref z11, .ref z12, .ref z13, .ref z14, .ref z15, .int (nI z16), .ref z17, .int z18, .ref z19]))] ++ va_pl L M) := hD
            have hq := Eq.symm hp_151
            subst hq
            rw [hQ]
            exact W.iret (v := (-1)) hx hb hr (fun t ht hW9 => ⟨⟨(-1), M, rfl, ⟨hW, hF, hG, hGI, trivial⟩, ⟨2, (-1), by rw [ht]; exact hP, hD⟩⟩, hS.F ht⟩) hS.2.2 dX13_die_79
      · have hz := rfl (a := 0)
        refine lv_aload_n hx hb dX13_die_28 rfl (lv_at hl 0 rfl) ?_
        refine lv_iconst (v := 1) hx hb dX13_die_29 (by decide) ?_
        have hPc := hP.sub (ws' := [(za, .inr (13, [.int 0, .ref z1, .int (nI z2), .int (nI z3), .int z4, .int z5, .ref z6, .ref z7, .ref z8, .ref z9, .int (nI z10), .ref z11, .ref z12, .ref z13, .ref z14, .ref z15, .int (nI z16), .ref z17, .int z18, .ref z19]))]) [0] rfl
        have hDc := hD.sub (ws' := [(za, .inr (13, [.int 0, .ref z1, .int (nI z2), .int (nI z3), .int z4, .int z5, .ref z6, .ref z7, .ref z8, .ref z9, .int (nI z10), .ref z11, .ref z12, .ref z13, .ref z14, .ref z15, .int (nI z16), .ref z17, .int z18, .ref z19]))]) [0] (by decide) rfl
        have hKc := hK.sub (tys' := []) [] rfl
        have hFc := va_free (wc := [(za, .inr (13, [.int 0, .ref z1, .int (nI z2), .int (nI z3), .int z4, .int z5, .ref z6, .ref z7, .ref z8, .ref z9, .int (nI z10), .ref z11, .ref z12, .ref z13, .ref z14, .ref z15, .int (nI z16), .ref z17, .int z18, .ref z19]))]) hD hS hA [0] rfl
        refine va_calli (va_runV (As := [.int 1]) (rest := []) ⟨hx, hb, hml, hown, hg⟩ (m_refused l D H_2.size za 0 z1 (nI z2) (nI z3) z4 z5 z6 z7 z8 z9 (nI z10) z11 z12 z13 z14 z15 (nI z16) z17 z18 z19 1) (cwV 1 hg (gV wd_725 wd_726 wd_727 wd_717 wd_728) rfl rfl rfl (by decide +kernel) ⟨(Nat.le_trans (Nat.le_of_ble_eq_true rfl) hRf), (Nat.le_trans (Nat.le_of_ble_eq_true rfl) hRl)⟩) ⟨Pr.blind, va_recv hK hP (ci := 13) (q0 := 0) rfl rfl, fun U hU hW => ⟨rfl, Pr.at hPc hKc hDc hN hU hW⟩⟩ rfl rfl hl.1 rfl (lv_room (Nat.le_of_ble_eq_true rfl)) dX13_die_30 ⟨(Nat.le_trans (Nat.le_of_ble_eq_true rfl) hRc), (Nat.le_trans (Nat.le_of_ble_eq_true rfl) hRs)⟩) hS (fun q _ h => hFc q h) hFc (fun r_153 M_154 t H_152 locs ht hvm hw hB hz1 hk1 hS => ?_)
        have hp_155 := hw
        obtain ⟨hP1, hK1, hD1⟩ := hB
        rw [ht] at hP1
        obtain ⟨hP, hD⟩ := va_joinQ (X := [(za, .inr (13, [.int 0, .ref z1, .int (nI z2), .int (nI z3), .int z4, .int z5, .ref z6, .ref z7, .ref z8, .ref z9, .int (nI z10), .ref z11, .ref z12, .ref z13, .ref z14, .ref z15, .int (nI z16), .ref z17, .int z18, .ref z19]))]) (cx := [(za, .inr (13, [.int 0, .ref z1, .int (nI z2), .int (nI z3), .int z4, .int z5, .ref z6, .ref z7, .ref z8, .ref z9, .int (nI z10), .ref z11, .ref z12, .ref z13, .ref z14, .ref z15, .int (nI z16), .ref z17, .int z18, .ref z19]))]) (wr := []) (w1 := [(za, .inr (13, [.int 0, .ref z1, .int (nI z2), .int (nI z3), .int 1, .int (-1), .ref z6, .ref z7, .ref z8, .ref z9, .int (nI z10), .ref z11, .ref z12, .ref z13, .ref z14, .ref z15, .int (nI z16), .ref z17, .int z18, .ref z19]))]) (pl := va_pl L M) hP hD [0] [] rfl rfl (by decide) (by decide) hk1 hFc hP1 hD1
        have hP : va_P D vwCl ([(za, .inr (13, [.int 0, .ref z1, .int (nI z2), .int (nI z3), .int 1, .int (-1), .ref z6, .ref z7, .ref z8, .ref z9, .int (nI z10), .ref z11, .ref z12, .ref z13, .ref z14, .ref z15, .int (nI z16), .ref z17, .int z18, .ref z19]))] ++ va_pl L M) H_152 := hP
        have hD : va_D A ([(za, .inr (13, [.int 0, .ref z1, .int (nI z2), .int (nI z3), .int 1, .int (-1), .ref z6, .ref z7, .ref z8, .ref z9, .int (nI z10), .ref z11, .ref z12, .ref z13, .ref z14, .ref z15, .int (nI z16), .ref z17, .int z18, .ref z19]))] ++ va_pl L M) := hD
        have hq := Eq.symm hp_155
        subst hq
        rw [hQ]
        exact W.iret (v := (-1)) hx hb hr (fun t ht hW9 => ⟨⟨(-1), M, rfl, ⟨hW, hF, hG, hGI, trivial⟩, ⟨1, (-1), by rw [ht]; exact hP, hD⟩⟩, hS.F ht⟩) hS.2.2 dX13_die_33
  · have hz := rfl (a := 0)
    refine lv_if_eq (tgt := 28) hx hb dX13_die_11 (by decide) (fun _ => ?_) (fun c_156 => absurd c_156 (by decide))
    refine lv_aload_n hx hb dX13_die_28 rfl (lv_at hl 0 rfl) ?_
    refine lv_iconst (v := 1) hx hb dX13_die_29 (by decide) ?_
    have hPc := hP.sub (ws' := [(za, .inr (13, [.int 0, .ref z1, .int (nI z2), .int (nI z3), .int z4, .int z5, .ref z6, .ref z7, .ref z8, .ref z9, .int (nI z10), .ref z11, .ref z12, .ref z13, .ref z14, .ref z15, .int (nI z16), .ref z17, .int z18, .ref z19]))]) [0] rfl
    have hDc := hD.sub (ws' := [(za, .inr (13, [.int 0, .ref z1, .int (nI z2), .int (nI z3), .int z4, .int z5, .ref z6, .ref z7, .ref z8, .ref z9, .int (nI z10), .ref z11, .ref z12, .ref z13, .ref z14, .ref z15, .int (nI z16), .ref z17, .int z18, .ref z19]))]) [0] (by decide) rfl
    have hKc := hK.sub (tys' := []) [] rfl
    have hFc := va_free (wc := [(za, .inr (13, [.int 0, .ref z1, .int (nI z2), .int (nI z3), .int z4, .int z5, .ref z6, .ref z7, .ref z8, .ref z9, .int (nI z10), .ref z11, .ref z12, .ref z13, .ref z14, .ref z15, .int (nI z16), .ref z17, .int z18, .ref z19]))]) hD hS hA [0] rfl
    refine va_calli (va_runV (As := [.int 1]) (rest := []) ⟨hx, hb, hml, hown, hg⟩ (m_refused l D H_2.size za 0 z1 (nI z2) (nI z3) z4 z5 z6 z7 z8 z9 (nI z10) z11 z12 z13 z14 z15 (nI z16) z17 z18 z19 1) (cwV 1 hg (gV wd_725 wd_726 wd_727 wd_717 wd_728) rfl rfl rfl (by decide +kernel) ⟨(Nat.le_trans (Nat.le_of_ble_eq_true rfl) hRf), (Nat.le_trans (Nat.le_of_ble_eq_true rfl) hRl)⟩) ⟨Pr.blind, va_recv hK hP (ci := 13) (q0 := 0) rfl rfl, fun U hU hW => ⟨rfl, Pr.at hPc hKc hDc hN hU hW⟩⟩ rfl rfl hl.1 rfl (lv_room (Nat.le_of_ble_eq_true rfl)) dX13_die_30 ⟨(Nat.le_trans (Nat.le_of_ble_eq_true rfl) hRc), (Nat.le_trans (Nat.le_of_ble_eq_true rfl) hRs)⟩) hS (fun q _ h => hFc q h) hFc (fun r_158 M_159 t H_157 locs ht hvm hw hB hz1 hk1 hS => ?_)
    have hp_160 := hw
    obtain ⟨hP1, hK1, hD1⟩ := hB
    rw [ht] at hP1
    obtain ⟨hP, hD⟩ := va_joinQ (X := [(za, .inr (13, [.int 0, .ref z1, .int (nI z2), .int (nI z3), .int z4, .int z5, .ref z6, .ref z7, .ref z8, .ref z9, .int (nI z10), .ref z11, .ref z12, .ref z13, .ref z14, .ref z15, .int (nI z16), .ref z17, .int z18, .ref z19]))]) (cx := [(za, .inr (13, [.int 0, .ref z1, .int (nI z2), .int (nI z3), .int z4, .int z5, .ref z6, .ref z7, .ref z8, .ref z9, .int (nI z10), .ref z11, .ref z12, .ref z13, .ref z14, .ref z15, .int (nI z16), .ref z17, .int z18, .ref z19]))]) (wr := []) (w1 := [(za, .inr (13, [.int 0, .ref z1, .int (nI z2), .int (nI z3), .int 1, .int (-1), .ref z6, .ref z7, .ref z8, .ref z9, .int (nI z10), .ref z11, .ref z12, .ref z13, .ref z14, .ref z15, .int (nI z16), .ref z17, .int z18, .ref z19]))]) (pl := va_pl L M) hP hD [0] [] rfl rfl (by decide) (by decide) hk1 hFc hP1 hD1
    have hP : va_P D vwCl ([(za, .inr (13, [.int 0, .ref z1, .int (nI z2), .int (nI z3), .int 1, .int (-1), .ref z6, .ref z7, .ref z8, .ref z9, .int (nI z10), .ref z11, .ref z12, .ref z13, .ref z14, .ref z15, .int (nI z16), .ref z17, .int z18, .ref z19]))] ++ va_pl L M) H_157 := hP
    have hD : va_D A ([(za, .inr (13, [.int 0, .ref z1, .int (nI z2), .int (nI z3), .int 1, .int (-1), .ref z6, .ref z7, .ref z8, .ref z9, .int (nI z10), .ref z11, .ref z12, .ref z13, .ref z14, .ref z15, .int (nI z16), .ref z17, .int z18, .ref z19]))] ++ va_pl L M) := hD
    have hq := Eq.symm hp_160
    subst hq
    rw [hQ]
    exact W.iret (v := (-1)) hx hb hr (fun t ht hW9 => ⟨⟨(-1), M, rfl, ⟨hW, hF, hG, hGI, trivial⟩, ⟨1, (-1), by rw [ht]; exact hP, hD⟩⟩, hS.F ht⟩) hS.2.2 dX13_die_33
set_option maxHeartbeats 4000000 in
set_option maxRecDepth 100000 in
theorem g_X13_rule (l : Launch) (D : va_G) (cy : Nat → ClassId) (K : Kp) (L : List Nat) (M : Hp) (sz : Nat) (za : Nat) (z0 : Int32) (z1 : Nat) (z2 : Nat) (z3 : Nat) (z4 : Int32) (z5 : Int32) (z6 : Nat) (z7 : Nat) (z8 : Nat) (z9 : Nat) (z10 : Nat) (z11 : Nat) (z12 : Nat) (z13 : Nat) (z14 : Nat) (z15 : Nat) (z16 : Nat) (z17 : Nat) (z18 : Int32) (z19 : Nat) (k1 : Int32) (k2 : Int32) (hW : WOM cy K L M) (i1 : isk K L z1 23 8) (b2 : z2 ≤ 8) (b3 : z3 ≤ 40) (i6 : isk K L z6 47 40) (i7 : isk K L z7 48 40) (i8 : isk K L z8 49 8) (i9 : isk K L z9 50 8) (b10 : z10 ≤ 8) (i11 : isk K L z11 32 24) (i12 : isk K L z12 14 24) (i13 : isk K L z13 15 24) (i14 : isk K L z14 15 24) (i15 : isk K L z15 15 24) (b16 : z16 ≤ 24) (i17 : isk K L z17 14 24) (i19 : isk K L z19 15 25) (hGI : GI K L z1 z2 M) : Met l yX13_rule (wsM yX13_rule cX13_rule 7 (some .int)) ({ frames := 1, cells := 0, slots := 0, locals := 21 }) (va_Pc [.ref za, .int k1, .int k2] (PG D cy [(za, .inr (13, [.int z0, .ref z1, .int (nI z2), .int (nI z3), .int z4, .int z5, .ref z6, .ref z7, .ref z8, .ref z9, .int (nI z10), .ref z11, .ref z12, .ref z13, .ref z14, .ref z15, .int (nI z16), .ref z17, .int z18, .ref z19]))] L M sz)) (va_Qi (fun (r : Int32) (M9 : Hp) => WOM cy K L M9 ∧ fr K L [12, 14, 43, 77, 78] M M9 ∧ fG K L [11] M M9 ∧ (GI K L z1 z2 M9) ∧ (True)) (fun M9 t => ∃ (w4 : Int32) (w5 : Int32), PQ D [(za, .inr (13, [.int 0, .ref z1, .int (nI z2), .int (nI z3), .int w4, .int w5, .ref z6, .ref z7, .ref z8, .ref z9, .int (nI z10), .ref z11, .ref z12, .ref z13, .ref z14, .ref z15, .int (nI z16), .ref z17, .int z18, .ref z19]))] L M9 (va_A ([(za, .inr (13, [.int z0, .ref z1, .int (nI z2), .int (nI z3), .int z4, .int z5, .ref z6, .ref z7, .ref z8, .ref z9, .int (nI z10), .ref z11, .ref z12, .ref z13, .ref z14, .ref z15, .int (nI z16), .ref z17, .int z18, .ref z19]))] ++ va_pl L M) sz) t) (va_A ([(za, .inr (13, [.int z0, .ref z1, .int (nI z2), .int (nI z3), .int z4, .int z5, .ref z6, .ref z7, .ref z8, .ref z9, .int (nI z10), .ref z11, .ref z12, .ref z13, .ref z14, .ref z15, .int (nI z16), .ref z17, .int z18, .ref z19]))] ++ va_pl L M) sz)) 0 0 (va_A ([(za, .inr (13, [.int z0, .ref z1, .int (nI z2), .int (nI z3), .int z4, .int z5, .ref z6, .ref z7, .ref z8, .ref z9, .int (nI z10), .ref z11, .ref z12, .ref z13, .ref z14, .ref z15, .int (nI z16), .ref z17, .int z18, .ref z19]))] ++ va_pl L M) sz) := by
  refine Met.ofW (cc := cX13_rule) (maxL := 7) (ret := (some .int)) (by decide) rfl ?_
  intro p e s m args below meth c s₁ B hml hv
  obtain ⟨rfl, hsz, hP, hK, hD0, hN⟩ := hv
  have hx := B.exec
  have hb := B.bytes
  have hr := B.returns
  have hts := atoms_spec (ws := (wsM yX13_rule cX13_rule 7 (some .int))) B.pre
  have hg : ∀ w ∈ lw_good, w.before _ s = true := fun w h => hts w (List.mem_cons_of_mem _ h)
  have hown : s.vm.findClass RX13 = some m.cls := findClass_of_methodNamed B.named
  have hlocks := B.notSynchronized
  subst hsz
  have hD := hD0.self (sz := s.heap.size)
  generalize hAe : va_A ([(za, .inr (13, [.int z0, .ref z1, .int (nI z2), .int (nI z3), .int z4, .int z5, .ref z6, .ref z7, .ref z8, .ref z9, .int (nI z10), .ref z11, .ref z12, .ref z13, .ref z14, .ref z15, .int (nI z16), .ref z17, .int z18, .ref z19]))] ++ va_pl L M) s.heap.size = A at hD ⊢
  have hA : ∀ q : Nat, s.heap.size ≤ q → A q := fun q h => by rw [← hAe]; exact Or.inr h
  have hS : va_S A s.heap s.heap [] := va_S.rf
  have hl := lv_entry ([.ref za, .int k1, .int k2]) (n := 7) (Nat.le_of_ble_eq_true rfl)
  rw [lg_entry_eq]
  generalize (lg_sl ([.ref za, .int k1, .int k2]) ++ List.replicate (7 - (lg_sl ([.ref za, .int k1, .int k2])).length) Slot.unset).toArray = ls at hl ⊢
  refine W.nameQ (fun Q hQ => ?_)
  refine W.nameR (fun R hR => ?_)
  have hRf : 1 ≤ R.frames := by rw [hR]; exact Nat.le_of_ble_eq_true rfl
  have hRl : 21 ≤ R.locals := by rw [hR]; exact Nat.le_of_ble_eq_true rfl
  have hRc : 0 ≤ R.cells := by rw [hR]; exact Nat.le_of_ble_eq_true rfl
  have hRs : 0 ≤ R.slots := by rw [hR]; exact Nat.le_of_ble_eq_true rfl
  have hF : fr K L [12, 14, 43, 77, 78] M M := fr.rf
  have hG : fG K L [11] M M := fG.rf
  have hl : lv_has ls 7 [(0, .ref za), (1, .int k1), (2, .int k2)] := hl
  have hW0 := hW
  refine lv_aload_n hx hb dX13_rule_0 rfl (lv_at hl 0 rfl) ?_
  refine lv_iconst (v := 0) hx hb dX13_rule_1 (by decide) ?_
  refine va_put (D := D) (ci := 13) (v := .int 0) (ty := .int) (C := RX13) (T := TX13) (N := 20) hx hb hg inG13 tyX13 tyX13_ok nmX13 hown hK hP hD hS 0 rfl rfl 0 (by decide) (hg _ wd_720) (fun _ h9 => h9) rfl (by decide +kernel) rfl rfl (Nat.le_of_ble_eq_true rfl) dX13_rule_2 (fun H_1 locs hP hD hS => ?_)
  have hP : va_P D vwCl ([(za, .inr (13, [.int 0, .ref z1, .int (nI z2), .int (nI z3), .int z4, .int z5, .ref z6, .ref z7, .ref z8, .ref z9, .int (nI z10), .ref z11, .ref z12, .ref z13, .ref z14, .ref z15, .int (nI z16), .ref z17, .int z18, .ref z19]))] ++ va_pl L M) H_1 := hP
  have hD : va_D A ([(za, .inr (13, [.int 0, .ref z1, .int (nI z2), .int (nI z3), .int z4, .int z5, .ref z6, .ref z7, .ref z8, .ref z9, .int (nI z10), .ref z11, .ref z12, .ref z13, .ref z14, .ref z15, .int (nI z16), .ref z17, .int z18, .ref z19]))] ++ va_pl L M) := hD
  refine lv_aload_n hx hb dX13_rule_5 rfl (lv_at hl 0 rfl) ?_
  refine lv_iload_n hx hb dX13_rule_6 rfl (lv_at hl 1 rfl) ?_
  have hPc : va_P D vwCl ([(za, .inr (13, [.int 0, .ref z1, .int (nI z2), .int (nI z3), .int z4, .int z5, .ref z6, .ref z7, .ref z8, .ref z9, .int (nI z10), .ref z11, .ref z12, .ref z13, .ref z14, .ref z15, .int (nI z16), .ref z17, .int z18, .ref z19]))] ++ va_pl L M) H_1 := hP
  have hDc : va_D A ([(za, .inr (13, [.int 0, .ref z1, .int (nI z2), .int (nI z3), .int z4, .int z5, .ref z6, .ref z7, .ref z8, .ref z9, .int (nI z10), .ref z11, .ref z12, .ref z13, .ref z14, .ref z15, .int (nI z16), .ref z17, .int z18, .ref z19]))] ++ va_pl L M) := hD
  have hFc : ∀ q, va_A ([(za, .inr (13, [.int 0, .ref z1, .int (nI z2), .int (nI z3), .int z4, .int z5, .ref z6, .ref z7, .ref z8, .ref z9, .int (nI z10), .ref z11, .ref z12, .ref z13, .ref z14, .ref z15, .int (nI z16), .ref z17, .int z18, .ref z19]))] ++ va_pl L M) H_1.size q → A q := pg_free hDc hS hA
  refine va_calli (va_runV (As := [.int k1]) (rest := []) ⟨hx, hb, hml, hown, hg⟩ (r_X13_isHouse l D cy K L M H_1.size za 0 z1 z2 z3 z4 z5 z6 z7 z8 z9 z10 z11 z12 z13 z14 z15 z16 z17 z18 z19 k1  hW i1 b2 b3 i6 i7 i8 i9 b10 i11 i12 i13 i14 i15 b16 i17 i19) (cwV 1 hg (gV wd_714 wd_715 wd_716 wd_717 wd_718) rfl rfl rfl (by decide +kernel) ⟨(Nat.le_trans (Nat.le_of_ble_eq_true rfl) hRf), (Nat.le_trans (Nat.le_of_ble_eq_true rfl) hRl)⟩) ⟨PG.blind, va_recv hK hP (ci := 13) (q0 := 0) rfl rfl, fun U hU hW => ⟨rfl, PG.at hPc hK hDc hN hU hW⟩⟩ rfl rfl hl.1 rfl (lv_room (Nat.le_of_ble_eq_true rfl)) dX13_rule_7 ⟨(Nat.le_trans (Nat.le_of_ble_eq_true rfl) hRc), (Nat.le_trans (Nat.le_of_ble_eq_true rfl) hRs)⟩) hS (fun q _ h => hFc q h) hFc (fun r_3 M_4 t H_2 locs ht hvm hw hB hz1 hk1 hS => ?_)
  have hp_5 := hw
  obtain ⟨hP1, hD1⟩ := hB
  rw [ht] at hP1
  have hP : va_P D vwCl ([(za, .inr (13, [.int 0, .ref z1, .int (nI z2), .int (nI z3), .int z4, .int z5, .ref z6, .ref z7, .ref z8, .ref z9, .int (nI z10), .ref z11, .ref z12, .ref z13, .ref z14, .ref z15, .int (nI z16), .ref z17, .int z18, .ref z19]))] ++ va_pl L M) H_2 := hP1
  have hD : va_D A ([(za, .inr (13, [.int 0, .ref z1, .int (nI z2), .int (nI z3), .int z4, .int z5, .ref z6, .ref z7, .ref z8, .ref z9, .int (nI z10), .ref z11, .ref z12, .ref z13, .ref z14, .ref z15, .int (nI z16), .ref z17, .int z18, .ref z19]))] ++ va_pl L M) := hD1.mono hFc
  rcases hp_5 with ⟨rfl, c_6, c_7⟩ | rfl
  · have hz := rfl (a := 0)
    refine lv_if_ne (tgt := 19) hx hb dX13_rule_10 (by decide) (fun _ => ?_) (fun c_8 => absurd c_8 (by decide))
    refine lv_aload_n hx hb dX13_rule_19 rfl (lv_at hl 0 rfl) ?_
    refine va_get (D := D) (ci := 13) (v := .ref z1) (C := RX13) (T := TX13) (N := 20) hx hb hg inG13 hown hK hP 0 rfl rfl 1 (by decide) (hg _ wd_739) (fun _ h9 => h9) rfl dX13_rule_20 ?_
    refine lv_iload_n hx hb dX13_rule_23 rfl (lv_at hl 1 rfl) ?_
    obtain ⟨f9, hM9, hf9⟩ := hW.open_23 i1
    have hi_10 : vp_in k1 8 := (inbW (a := z2) (by omega) (inb k1 z2 (by omega) c_6 c_7))
    refine pg_aldq hx hb hK hP i1.1 9 hM9 rfl hi_10 dX13_rule_24 ?_
    obtain ⟨b11, eb_12, hb_13⟩ := hf9 _ (vp_lt hi_10)
    rw [eb_12]
    have hact : ACT z1 z2 b11 M := ⟨(k1 : Int32).toNatClampNeg, vp_lt (inb k1 z2 (by omega) c_6 c_7), by rw [show RFc (M z1) = f9 from by rw [hM9]; rfl]; exact eb_12⟩
    have hAT := GI.at hGI hact
    have hV : VW K L M M b11 (fx M b11) (ax M b11) := VW.rf b11 hGI.2.2.2
    refine lv_astore_n (lv' := [(3, .ref b11), (0, .ref za), (1, .int k1), (2, .int k2)]) hx hb dX13_rule_25 rfl hl (by decide) rfl (fun ls hl => ?_)
    refine lv_aload_n hx hb dX13_rule_26 rfl (lv_at hl 0 rfl) ?_
    refine lv_iload_n hx hb dX13_rule_27 rfl (lv_at hl 3 rfl) ?_
    obtain ⟨fs14, hM14, hn14, hl14⟩ := hW.open_12 hb_13
    have hPc : va_P D vwCl ([] ++ va_pl L M) H_2 := hP.part (cx := []) [] rfl
    have hDc : va_D A ([] ++ va_pl L M) := hD.part (cx := []) [] (by decide) rfl
    have hFc : ∀ q, va_A ([] ++ va_pl L M) H_2.size q → A q := pg_free hDc hS hA
    refine va_calli (va_runV (As := [.int k2]) (rest := []) ⟨hx, hb, hml, hown, hg⟩ (r_X12_isFree l D cy K L M H_2.size b11 k2  hW hb_13) (cwV 1 hg (gV wd_807 wd_808 wd_809 wd_737 wd_810) rfl rfl rfl (by decide +kernel) ⟨(Nat.le_trans (Nat.le_of_ble_eq_true rfl) hRf), (Nat.le_trans (Nat.le_of_ble_eq_true rfl) hRl)⟩) ⟨PG.blind, pg_recv hK hP hb_13.1 hM14 rfl, fun U hU hW => ⟨rfl, PG.at hPc hK hDc hN hU hW⟩⟩ rfl rfl hl.1 rfl (lv_room (Nat.le_of_ble_eq_true rfl)) dX13_rule_28 ⟨(Nat.le_trans (Nat.le_of_ble_eq_true rfl) hRc), (Nat.le_trans (Nat.le_of_ble_eq_true rfl) hRs)⟩) hS (fun q _ h => hFc q h) hFc (fun r_16 M_17 t H_15 locs ht hvm hw hB hz1 hk1 hS => ?_)
    have hp_18 := hw
    obtain ⟨hP1, hD1⟩ := hB
    rw [ht] at hP1
    obtain ⟨hP, hD⟩ := va_joinP (X := [(za, .inr (13, [.int 0, .ref z1, .int (nI z2), .int (nI z3), .int z4, .int z5, .ref z6, .ref z7, .ref z8, .ref z9, .int (nI z10), .ref z11, .ref z12, .ref z13, .ref z14, .ref z15, .int (nI z16), .ref z17, .int z18, .ref z19]))]) (cx := []) (wr := [(za, .inr (13, [.int 0, .ref z1, .int (nI z2), .int (nI z3), .int z4, .int z5, .ref z6, .ref z7, .ref z8, .ref z9, .int (nI z10), .ref z11, .ref z12, .ref z13, .ref z14, .ref z15, .int (nI z16), .ref z17, .int z18, .ref z19]))]) (rx := []) (pl := va_pl L M) (pl1 := va_pl L M) hP hD [] [0] rfl rfl (by decide) (by decide) hk1 hFc hP1 hD1
    have hP : va_P D vwCl ([(za, .inr (13, [.int 0, .ref z1, .int (nI z2), .int (nI z3), .int z4, .int z5, .ref z6, .ref z7, .ref z8, .ref z9, .int (nI z10), .ref z11, .ref z12, .ref z13, .ref z14, .ref z15, .int (nI z16), .ref z17, .int z18, .ref z19]))] ++ va_pl L M) H_15 := hP
    have hD : va_D A ([(za, .inr (13, [.int 0, .ref z1, .int (nI z2), .int (nI z3), .int z4, .int z5, .ref z6, .ref z7, .ref z8, .ref z9, .int (nI z10), .ref z11, .ref z12, .ref z13, .ref z14, .ref z15, .int (nI z16), .ref z17, .int z18, .ref z19]))] ++ va_pl L M) := hD
    rcases hp_18 with ⟨rfl, c_19, c_20⟩ | rfl
    · have hz := rfl (a := 0)
      refine lv_if_eq (tgt := 71) hx hb dX13_rule_31 (by decide) (fun c_21 => absurd c_21 (by decide)) (fun _ => ?_)
      obtain ⟨j_22, hj_23, rfl⟩ := i32nat 1000 (by decide) c_19 c_20
      obtain ⟨v24, hv24, hc24⟩ : ∃ v : Nat, fs14[0]? = some (.int (nI v) : Value) ∧ v ≤ 999 := hl14 0 (by decide)
      have hx0 : (fx M b11 0) = ((v24 : Nat) : Int) := (congrFun hV.2.1 0).symm.trans ((fx_of hM14 rfl hv24).trans (nI_toInt (by omega)))
      refine lv_aload_n hx hb dX13_rule_34 rfl (lv_at hl 0 rfl) ?_
      obtain ⟨v25, hv25, hc25⟩ : ∃ v : Nat, fs14[11]? = some (.int (nI v) : Value) ∧ v ≤ 16 := hl14 11 (by decide)
      refine pg_getN (D := D) (ci := 12) (v := .int (nI v25)) (C := RX12) (T := TX12) (N := 51) hx hb hg inG12 hown hK hP hb_13.1 hM14 rfl 11 (by decide) (hN.use (Cond.fieldLinkNest RX13 142 RX12 "rules" "I" RX13) 20 rfl rfl) (fun _ h9 => h9) hv25 dX13_rule_35 ?_
      refine lv_if_ne (tgt := 52) hx hb dX13_rule_38 (by decide) (fun c_26 => ?_) (fun c_26 => ?_)
      · have hz := rfl (a := 0)
        have n_27 : ¬ (v25 = 0) := fun q => c_26 ((iEQ (a := v25) (b := 0) (by omega) (by omega)).mpr q)
        refine lv_iload_n hx hb dX13_rule_52 rfl (lv_at hl 3 rfl) ?_
        refine lv_aload_n hx hb dX13_rule_53 rfl (lv_at hl 0 rfl) ?_
        obtain ⟨v28, hv28, hc28⟩ : ∃ v : Nat, fs14[34]? = some (.ref v : Value) ∧ isk K L v 43 16 := hl14 34 (by decide)
        refine pg_getN (D := D) (ci := 12) (v := .ref v28) (C := RX12) (T := TX12) (N := 51) hx hb hg inG12 hown hK hP hb_13.1 hM14 rfl 34 (by decide) (hN.use (Cond.fieldLinkNest RX13 145 RX12 "ruleDay" "[I" RX13) 43 rfl rfl) (fun _ h9 => h9) hv28 dX13_rule_54 ?_
        refine lv_aload_n hx hb dX13_rule_57 rfl (lv_at hl 0 rfl) ?_
        refine pg_getN (D := D) (ci := 12) (v := .int (nI v25)) (C := RX12) (T := TX12) (N := 51) hx hb hg inG12 hown hK hP hb_13.1 hM14 rfl 11 (by decide) (hN.use (Cond.fieldLinkNest RX13 142 RX12 "rules" "I" RX13) 20 rfl rfl) (fun _ h9 => h9) hv25 dX13_rule_58 ?_
        refine lv_iconst (v := 1) hx hb dX13_rule_61 (by decide) ?_
        refine lv_isub hx hb dX13_rule_62 ?_
        refine lv_topi (fun f_29 ef_29 => ?_)
        obtain rfl : f_29 = (nI (v25 - 1)) := ef_29.trans (nI_prd (by omega))
        obtain ⟨f30, hM30⟩ := hW.open_43 hc28
        refine pg_iald hx hb hK hP hc28.1 0 hM30 rfl (inbN (v25 - 1) 16 (by omega) (by omega)) dX13_rule_63 ?_
        refine lv_topi (fun f_31 ef_31 => ?_)
        refine lv_icmp_le (tgt := 71) hx hb dX13_rule_64 (by decide) (fun c_32 => ?_) (fun c_32 => ?_)
        · have hz := rfl (a := 0)
          refine lv_iconst (v := 0) hx hb dX13_rule_71 (by decide) ?_
          refine lv_istore (lv' := [(4, .int 0), (3, .ref b11), (0, .ref za), (1, .int k1), (2, .int (nI j_22))]) hx hb dX13_rule_72 hl (by decide) rfl (fun ls hl => ?_)
          refine lv_iload hx hb dX13_rule_74 (lv_at hl 0 rfl) ?_
          refine lv_if_ne (tgt := 85) hx hb dX13_rule_76 (by decide) (fun c_33 => absurd c_33 (by decide)) (fun _ => ?_)
          refine lv_aload_n hx hb dX13_rule_79 rfl (lv_at hl 2 rfl) ?_
          refine lv_iconst (v := 3) hx hb dX13_rule_80 (by decide) ?_
          have hPc := hP.sub (ws' := [(za, .inr (13, [.int 0, .ref z1, .int (nI z2), .int (nI z3), .int z4, .int z5, .ref z6, .ref z7, .ref z8, .ref z9, .int (nI z10), .ref z11, .ref z12, .ref z13, .ref z14, .ref z15, .int (nI z16), .ref z17, .int z18, .ref z19]))]) [0] rfl
          have hDc := hD.sub (ws' := [(za, .inr (13, [.int 0, .ref z1, .int (nI z2), .int (nI z3), .int z4, .int z5, .ref z6, .ref z7, .ref z8, .ref z9, .int (nI z10), .ref z11, .ref z12, .ref z13, .ref z14, .ref z15, .int (nI z16), .ref z17, .int z18, .ref z19]))]) [0] (by decide) rfl
          have hKc := hK.sub (tys' := []) [] rfl
          have hFc := va_free (wc := [(za, .inr (13, [.int 0, .ref z1, .int (nI z2), .int (nI z3), .int z4, .int z5, .ref z6, .ref z7, .ref z8, .ref z9, .int (nI z10), .ref z11, .ref z12, .ref z13, .ref z14, .ref z15, .int (nI z16), .ref z17, .int z18, .ref z19]))]) hD hS hA [0] rfl
          refine va_calli (va_runV (As := [.int 3]) (rest := []) ⟨hx, hb, hml, hown, hg⟩ (m_refused l D H_15.size za 0 z1 (nI z2) (nI z3) z4 z5 z6 z7 z8 z9 (nI z10) z11 z12 z13 z14 z15 (nI z16) z17 z18 z19 3) (cwV 1 hg (gV wd_725 wd_726 wd_727 wd_717 wd_728) rfl rfl rfl (by decide +kernel) ⟨(Nat.le_trans (Nat.le_of_ble_eq_true rfl) hRf), (Nat.le_trans (Nat.le_of_ble_eq_true rfl) hRl)⟩) ⟨Pr.blind, va_recv hK hP (ci := 13) (q0 := 0) rfl rfl, fun U hU hW => ⟨rfl, Pr.at hPc hKc hDc hN hU hW⟩⟩ rfl rfl hl.1 rfl (lv_room (Nat.le_of_ble_eq_true rfl)) dX13_rule_81 ⟨(Nat.le_trans (Nat.le_of_ble_eq_true rfl) hRc), (Nat.le_trans (Nat.le_of_ble_eq_true rfl) hRs)⟩) hS (fun q _ h => hFc q h) hFc (fun r_35 M_36 t H_34 locs ht hvm hw hB hz1 hk1 hS => ?_)
          have hp_37 := hw
          obtain ⟨hP1, hK1, hD1⟩ := hB
          rw [ht] at hP1
          obtain ⟨hP, hD⟩ := va_joinQ (X := [(za, .inr (13, [.int 0, .ref z1, .int (nI z2), .int (nI z3), .int z4, .int z5, .ref z6, .ref z7, .ref z8, .ref z9, .int (nI z10), .ref z11, .ref z12, .ref z13, .ref z14, .ref z15, .int (nI z16), .ref z17, .int z18, .ref z19]))]) (cx := [(za, .inr (13, [.int 0, .ref z1, .int (nI z2), .int (nI z3), .int z4, .int z5, .ref z6, .ref z7, .ref z8, .ref z9, .int (nI z10), .ref z11, .ref z12, .ref z13, .ref z14, .ref z15, .int (nI z16), .ref z17, .int z18, .ref z19]))]) (wr := []) (w1 := [(za, .inr (13, [.int 0, .ref z1, .int (nI z2), .int (nI z3), .int 3, .int (-1), .ref z6, .ref z7, .ref z8, .ref z9, .int (nI z10), .ref z11, .ref z12, .ref z13, .ref z14, .ref z15, .int (nI z16), .ref z17, .int z18, .ref z19]))]) (pl := va_pl L M) hP hD [0] [] rfl rfl (by decide) (by decide) hk1 hFc hP1 hD1
          have hP : va_P D vwCl ([(za, .inr (13, [.int 0, .ref z1, .int (nI z2), .int (nI z3), .int 3, .int (-1), .ref z6, .ref z7, .ref z8, .ref z9, .int (nI z10), .ref z11, .ref z12, .ref z13, .ref z14, .ref z15, .int (nI z16), .ref z17, .int z18, .ref z19]))] ++ va_pl L M) H_34 := hP
          have hD : va_D A ([(za, .inr (13, [.int 0, .ref z1, .int (nI z2), .int (nI z3), .int 3, .int (-1), .ref z6, .ref z7, .ref z8, .ref z9, .int (nI z10), .ref z11, .ref z12, .ref z13, .ref z14, .ref z15, .int (nI z16), .ref z17, .int z18, .ref z19]))] ++ va_pl L M) := hD
          have hq := Eq.symm hp_37
          subst hq
          rw [hQ]
          exact W.iret (v := (-1)) hx hb hr (fun t ht hW9 => ⟨⟨(-1), M, rfl, ⟨hW, hF, hG, hGI, trivial⟩, ⟨3, (-1), by rw [ht]; exact hP, hD⟩⟩, hS.F ht⟩) hS.2.2 dX13_rule_84
        · have hz := rfl (a := 0)
          refine lv_iconst (v := 1) hx hb dX13_rule_67 (by decide) ?_
          refine lv_goto (tgt := 72) hx hb dX13_rule_68 (by decide) ?_
          refine lv_istore (lv' := [(4, .int 1), (3, .ref b11), (0, .ref za), (1, .int k1), (2, .int (nI j_22))]) hx hb dX13_rule_72 hl (by decide) rfl (fun ls hl => ?_)
          refine lv_iload hx hb dX13_rule_74 (lv_at hl 0 rfl) ?_
          refine lv_if_ne (tgt := 85) hx hb dX13_rule_76 (by decide) (fun _ => ?_) (fun c_38 => absurd c_38 (by decide))
          refine lv_aload_n hx hb dX13_rule_85 rfl (lv_at hl 1 rfl) ?_
          refine pg_getN (D := D) (ci := 12) (v := .int (nI v25)) (C := RX12) (T := TX12) (N := 51) hx hb hg inG12 hown hK hP hb_13.1 hM14 rfl 11 (by decide) (hN.use (Cond.fieldLinkNest RX13 142 RX12 "rules" "I" RX13) 20 rfl rfl) (fun _ h9 => h9) hv25 dX13_rule_86 ?_
          refine lv_bipush (v := 16) hx hb dX13_rule_89 (by decide) ?_
          refine lv_icmp_ne (tgt := 101) hx hb dX13_rule_91 (by decide) (fun c_39 => ?_) (fun c_39 => ?_)
          · have hz := rfl (a := 0)
            have n_40 : ¬ (v25 = 16) := fun q => c_39 ((iEQ (a := v25) (b := 16) (by omega) (by omega)).mpr q)
            refine lv_bipush (v := 24) hx hb dX13_rule_101 (by decide) ?_
            refine lv_istore (lv' := [(5, .int 24), (4, .int 1), (3, .ref b11), (0, .ref za), (1, .int k1), (2, .int (nI j_22))]) hx hb dX13_rule_103 hl (by decide) rfl (fun ls hl => ?_)
            refine lv_iconst (v := 0) hx hb dX13_rule_105 (by decide) ?_
            refine lv_istore (lv' := [(6, .int 0), (5, .int 24), (4, .int 1), (3, .ref b11), (0, .ref za), (1, .int k1), (2, .int (nI j_22))]) hx hb dX13_rule_106 hl (by decide) rfl (fun ls hl => ?_)
            have key_41 : ∀ (fu_43 : Nat) (v6w44 : Nat) (gw44 : Nat → Int32) (M_48 : Hp) (H_49 : Heap) (locs : List Loc) (ls : Array Slot), 24 - v6w44 < fu_43 → M_48 b11 = .inr (12, fs14) → v6w44 ≤ 24 → (∀ i : Nat, i < 24 * v25 → gw44 i = ax M b11 36 i) → (∀ i : Nat, i < v6w44 → gw44 (24 * v25 + i) = trm (ax M b11 36) v25 i) → WOM cy K L M_48 → fr K L [12, 14, 43, 77, 78] M M_48 → fG K L [11] M M_48 → VW K L M M_48 b11 (fx M b11) (va_up (ax M b11) 36 gw44) → va_P D vwCl ([(za, .inr (13, [.int 0, .ref z1, .int (nI z2), .int (nI z3), .int z4, .int z5, .ref z6, .ref z7, .ref z8, .ref z9, .int (nI z10), .ref z11, .ref z12, .ref z13, .ref z14, .ref z15, .int (nI z16), .ref z17, .int z18, .ref z19]))] ++ va_pl L M_48) H_49 → va_D A ([(za, .inr (13, [.int 0, .ref z1, .int (nI z2), .int (nI z3), .int z4, .int z5, .ref z6, .ref z7, .ref z8, .ref z9, .int (nI z10), .ref z11, .ref z12, .ref z13, .ref z14, .ref z15, .int (nI z16), .ref z17, .int z18, .ref z19]))] ++ va_pl L M_48) → va_S A s.heap H_49 locs → lv_has ls 7 [(6, .int (nI v6w44)), (5, .int 24), (4, .int 1), (3, .ref b11), (0, .ref za), (1, .int k1), (2, .int (nI j_22))] → W p l e R s m ([.ref za, .int k1, .int (nI j_22)] : List Value).toArray below meth c H_49 locs 0 0 Q (F0 m 108 ls []) := by
              intro fu_43
              induction fu_43 with
              | zero => intro v6w44 gw44 M_48 H_49 locs ls h; exact absurd h (Nat.not_lt_zero _)
              | succ fu_43 ih_42 =>
                intro v6w44 gw44 M_48 H_49 locs ls hfu hM_50 hx_45 hx_46 hx_47 hW hF hG hV hP hD hS hl
                refine lv_iload hx hb dX13_rule_108 (lv_at hl 0 rfl) ?_
                refine lv_iload hx hb dX13_rule_110 (lv_at hl 1 rfl) ?_
                refine lv_icmp_ge (tgt := 164) hx hb dX13_rule_112 (by decide) (fun c_51 => ?_) (fun c_51 => ?_)
                · have hz := rfl (a := 0)
                  have n_52 : 24 ≤ v6w44 := (iLE (a := 24) (b := v6w44) (by omega) (by omega)).mp c_51
                  refine lv_aload_n hx hb dX13_rule_164 rfl (lv_at hl 3 rfl) ?_
                  obtain ⟨v53, hv53, hc53⟩ : ∃ v : Nat, fs14[35]? = some (.ref v : Value) ∧ isk K L v 77 16 := hl14 35 (by decide)
                  refine pg_getN (D := D) (ci := 12) (v := .ref v53) (C := RX12) (T := TX12) (N := 51) hx hb hg inG12 hown hK hP hb_13.1 hM_50 rfl 35 (by decide) (hN.use (Cond.fieldLinkNest RX13 151 RX12 "thousandths" "[I" RX13) 44 rfl rfl) (fun _ h9 => h9) hv53 dX13_rule_165 ?_
                  refine lv_aload_n hx hb dX13_rule_168 rfl (lv_at hl 3 rfl) ?_
                  refine pg_getN (D := D) (ci := 12) (v := .int (nI v25)) (C := RX12) (T := TX12) (N := 51) hx hb hg inG12 hown hK hP hb_13.1 hM_50 rfl 11 (by decide) (hN.use (Cond.fieldLinkNest RX13 142 RX12 "rules" "I" RX13) 20 rfl rfl) (fun _ h9 => h9) hv25 dX13_rule_169 ?_
                  refine lv_aload_n hx hb dX13_rule_172 rfl (lv_at hl 3 rfl) ?_
                  refine pg_getN (D := D) (ci := 12) (v := .int (nI v25)) (C := RX12) (T := TX12) (N := 51) hx hb hg inG12 hown hK hP hb_13.1 hM_50 rfl 11 (by decide) (hN.use (Cond.fieldLinkNest RX13 142 RX12 "rules" "I" RX13) 20 rfl rfl) (fun _ h9 => h9) hv25 dX13_rule_173 ?_
                  refine lv_if_ne (tgt := 183) hx hb dX13_rule_176 (by decide) (fun c_54 => ?_) (fun c_54 => absurd c_54 c_26)
                  refine lv_aload_n hx hb dX13_rule_183 rfl (lv_at hl 3 rfl) ?_
                  refine pg_getN (D := D) (ci := 12) (v := .ref v53) (C := RX12) (T := TX12) (N := 51) hx hb hg inG12 hown hK hP hb_13.1 hM_50 rfl 35 (by decide) (hN.use (Cond.fieldLinkNest RX13 151 RX12 "thousandths" "[I" RX13) 44 rfl rfl) (fun _ h9 => h9) hv53 dX13_rule_184 ?_
                  refine lv_aload_n hx hb dX13_rule_187 rfl (lv_at hl 3 rfl) ?_
                  refine pg_getN (D := D) (ci := 12) (v := .int (nI v25)) (C := RX12) (T := TX12) (N := 51) hx hb hg inG12 hown hK hP hb_13.1 hM_50 rfl 11 (by decide) (hN.use (Cond.fieldLinkNest RX13 142 RX12 "rules" "I" RX13) 20 rfl rfl) (fun _ h9 => h9) hv25 dX13_rule_188 ?_
                  refine lv_iconst (v := 1) hx hb dX13_rule_191 (by decide) ?_
                  refine lv_isub hx hb dX13_rule_192 ?_
                  refine lv_topi (fun f_55 ef_55 => ?_)
                  obtain rfl : f_55 = (nI (v25 - 1)) := ef_55.trans (nI_prd (by omega))
                  obtain ⟨f56, hM56⟩ := hW.open_77 hc53
                  refine pg_iald hx hb hK hP hc53.1 0 hM56 rfl (inbN (v25 - 1) 16 (by omega) (by omega)) dX13_rule_193 ?_
                  refine lv_topi (fun f_57 ef_57 => ?_)
                  refine pg_iast hx hb hK hP hD hS hc53.1 0 hM56 rfl (inbN v25 16 (by omega) (by omega)) dX13_rule_194 (fun H_58 locs hP hD hS => ?_)
                  obtain ⟨M_59, eM_59⟩ : ∃ M1 : Hp, M1 = va_up M_48 v53 (.inl (cy 14, 16, .inl (upd f56 ((nI v25) : Int32).toNatClampNeg f_57))) := ⟨_, rfl⟩
                  have hy35 : (ax M b11 35) = f56 := (congrFun hV.2.2.1 35).symm.trans (ax_of hM_50 (by decide) hv53 hM56)
                  have hV : VW K L M M_59 b11 (fx M b11) (va_up (va_up (ax M b11) 36 gw44) 35 (upd (ax M b11 35) ((nI v25) : Int32).toNatClampNeg f_57)) := by rw [eM_59]; exact hV.ast (j := 35) hW hb_13 hM_50 (by decide) hv53 hc53 hM56
                  have hP : va_P D vwCl ([(za, .inr (13, [.int 0, .ref z1, .int (nI z2), .int (nI z3), .int z4, .int z5, .ref z6, .ref z7, .ref z8, .ref z9, .int (nI z10), .ref z11, .ref z12, .ref z13, .ref z14, .ref z15, .int (nI z16), .ref z17, .int z18, .ref z19]))] ++ va_pl L M_59) H_58 := by rw [eM_59]; exact hP
                  have hD : va_D A ([(za, .inr (13, [.int 0, .ref z1, .int (nI z2), .int (nI z3), .int z4, .int z5, .ref z6, .ref z7, .ref z8, .ref z9, .int (nI z10), .ref z11, .ref z12, .ref z13, .ref z14, .ref z15, .int (nI z16), .ref z17, .int z18, .ref z19]))] ++ va_pl L M_59) := by rw [eM_59]; exact hD
                  have hW : WOM cy K L M_59 := by rw [eM_59]; exact hW.up_77 hc53 ⟨_, rfl⟩
                  have hF : fr K L [12, 14, 43, 77, 78] M M_59 := by rw [eM_59]; exact hF.up hc53 (by decide)
                  have hG : fG K L [11] M M_59 := by rw [eM_59]; exact hG.arr hc53 (by decide)
                  have hM_60 : M_59 v53 = .inl (cy 14, 16, .inl (upd f56 ((nI v25) : Int32).toNatClampNeg f_57)) := by rw [eM_59]; exact va_up_self _ _ _
                  have hM_61 : M_59 b11 = .inr (12, fs14) := by rw [eM_59, va_up_ne _ _ (hb_13.neT hc53 (by decide))]; exact hM_50
                  obtain ⟨f_62, ef_62⟩ : ∃ f : Nat → Int32, f = upd f56 ((nI v25) : Int32).toNatClampNeg f_57 := ⟨_, rfl⟩
                  rw [← ef_62] at hM_60
                  refine lv_aload_n hx hb dX13_rule_195 rfl (lv_at hl 3 rfl) ?_
                  refine pg_getN (D := D) (ci := 12) (v := .ref v28) (C := RX12) (T := TX12) (N := 51) hx hb hg inG12 hown hK hP hb_13.1 hM_61 rfl 34 (by decide) (hN.use (Cond.fieldLinkNest RX13 145 RX12 "ruleDay" "[I" RX13) 43 rfl rfl) (fun _ h9 => h9) hv28 dX13_rule_196 ?_
                  refine lv_aload_n hx hb dX13_rule_199 rfl (lv_at hl 3 rfl) ?_
                  refine pg_getN (D := D) (ci := 12) (v := .int (nI v25)) (C := RX12) (T := TX12) (N := 51) hx hb hg inG12 hown hK hP hb_13.1 hM_61 rfl 11 (by decide) (hN.use (Cond.fieldLinkNest RX13 142 RX12 "rules" "I" RX13) 20 rfl rfl) (fun _ h9 => h9) hv25 dX13_rule_200 ?_
                  refine lv_iload_n hx hb dX13_rule_203 rfl (lv_at hl 6 rfl) ?_
                  obtain ⟨f63, hM63⟩ := hW.open_43 hc28
                  refine pg_iast hx hb hK hP hD hS hc28.1 0 hM63 rfl (inbN v25 16 (by omega) (by omega)) dX13_rule_204 (fun H_64 locs hP hD hS => ?_)
                  obtain ⟨M_65, eM_65⟩ : ∃ M1 : Hp, M1 = va_up M_59 v28 (.inl (cy 14, 16, .inl (upd f63 ((nI v25) : Int32).toNatClampNeg (nI j_22)))) := ⟨_, rfl⟩
                  have hy34 : (ax M b11 34) = f63 := (congrFun hV.2.2.1 34).symm.trans (ax_of hM_61 (by decide) hv28 hM63)
                  have hV : VW K L M M_65 b11 (fx M b11) (va_up (va_up (va_up (ax M b11) 36 gw44) 35 (upd (ax M b11 35) ((nI v25) : Int32).toNatClampNeg f_57)) 34 (upd (ax M b11 34) ((nI v25) : Int32).toNatClampNeg (nI j_22))) := by rw [eM_65]; exact hV.ast (j := 34) hW hb_13 hM_61 (by decide) hv28 hc28 hM63
                  have hP : va_P D vwCl ([(za, .inr (13, [.int 0, .ref z1, .int (nI z2), .int (nI z3), .int z4, .int z5, .ref z6, .ref z7, .ref z8, .ref z9, .int (nI z10), .ref z11, .ref z12, .ref z13, .ref z14, .ref z15, .int (nI z16), .ref z17, .int z18, .ref z19]))] ++ va_pl L M_65) H_64 := by rw [eM_65]; exact hP
                  have hD : va_D A ([(za, .inr (13, [.int 0, .ref z1, .int (nI z2), .int (nI z3), .int z4, .int z5, .ref z6, .ref z7, .ref z8, .ref z9, .int (nI z10), .ref z11, .ref z12, .ref z13, .ref z14, .ref z15, .int (nI z16), .ref z17, .int z18, .ref z19]))] ++ va_pl L M_65) := by rw [eM_65]; exact hD
                  have hW : WOM cy K L M_65 := by rw [eM_65]; exact hW.up_43 hc28 ⟨_, rfl⟩
                  have hF : fr K L [12, 14, 43, 77, 78] M M_65 := by rw [eM_65]; exact hF.up hc28 (by decide)
                  have hG : fG K L [11] M M_65 := by rw [eM_65]; exact hG.arr hc28 (by decide)
                  have hM_66 : M_65 v28 = .inl (cy 14, 16, .inl (upd f63 ((nI v25) : Int32).toNatClampNeg (nI j_22))) := by rw [eM_65]; exact va_up_self _ _ _
                  have hM_67 : M_65 v53 = .inl (cy 14, 16, .inl (f_62)) := by rw [eM_65, va_up_ne _ _ (hc53.neT hc28 (by decide))]; exact hM_60
                  have hM_68 : M_65 b11 = .inr (12, fs14) := by rw [eM_65, va_up_ne _ _ (hb_13.neT hc28 (by decide))]; exact hM_61
                  obtain ⟨f_69, ef_69⟩ : ∃ f : Nat → Int32, f = upd f63 ((nI v25) : Int32).toNatClampNeg (nI j_22) := ⟨_, rfl⟩
                  rw [← ef_69] at hM_66
                  refine lv_aload_n hx hb dX13_rule_205 rfl (lv_at hl 3 rfl) ?_
                  refine lv_dup hx hb dX13_rule_206 rfl ?_
                  refine pg_getN (D := D) (ci := 12) (v := .int (nI v25)) (C := RX12) (T := TX12) (N := 51) hx hb hg inG12 hown hK hP hb_13.1 hM_68 rfl 11 (by decide) (hN.use (Cond.fieldLinkNest RX13 142 RX12 "rules" "I" RX13) 20 rfl rfl) (fun _ h9 => h9) hv25 dX13_rule_207 ?_
                  refine lv_iconst (v := 1) hx hb dX13_rule_210 (by decide) ?_
                  refine lv_iadd hx hb dX13_rule_211 ?_
                  refine lv_topi (fun f_70 ef_70 => ?_)
                  obtain rfl : f_70 = (nI (v25 + 1)) := ef_70.trans (nI_add v25 1)
                  refine pg_putN (D := D) (ci := 12) (v := .int (nI (v25 + 1))) (ty := .int) (C := RX12) (T := TX12) (N := 51) hx hb hg inG12 tyX12 tyX12_ok nmX12 hown hK hP hD hS hb_13.1 hM_68 rfl 11 (by decide) (hN.use (Cond.fieldLinkNest RX13 142 RX12 "rules" "I" RX13) 20 rfl rfl) (fun _ h9 => h9) rfl (by decide +kernel) rfl rfl (by rw [hn14]; decide) dX13_rule_212 (fun H_71 locs hP hD hS => ?_)
                  have hs_74 : (fs14.set 11 (.int (nI (v25 + 1))))[11]? = some (.int (nI (v25 + 1))) := List.getElem?_set_self (by rw [hn14]; decide)
                  have hk_73 := fld12_set (k := 11) (w := .int (nI (v25 + 1))) hl14 (show fld12 K L 11 (fs14.set 11 (.int (nI (v25 + 1)))) from ⟨(v25 + 1), hs_74, by omega⟩)
                  have hn_75 : (fs14.set 11 (.int (nI (v25 + 1)))).length = 51 := by rw [List.length_set]; exact hn14
                  have hv_76 : (fs14.set 11 (.int (nI (v25 + 1))))[0]? = some (.int (nI v24)) := by rw [List.getElem?_set_ne (by decide)]; exact hv24
                  have hv_77 : (fs14.set 11 (.int (nI (v25 + 1))))[34]? = some (.ref v28) := by rw [List.getElem?_set_ne (by decide)]; exact hv28
                  have hv_78 : (fs14.set 11 (.int (nI (v25 + 1))))[35]? = some (.ref v53) := by rw [List.getElem?_set_ne (by decide)]; exact hv53
                  have hb_79 : (v25 + 1) ≤ 16 := by omega
                  obtain ⟨M_80, eM_80⟩ : ∃ M1 : Hp, M1 = va_up M_65 b11 (.inr (12, fs14.set 11 (.int (nI (v25 + 1))))) := ⟨_, rfl⟩
                  have hx11 : (fx M b11 11) = ((v25 : Nat) : Int) := (congrFun hV.2.1 11).symm.trans ((fx_of hM_68 rfl hv25).trans (nI_toInt (by omega)))
                  have hV : VW K L M M_80 b11 (va_up (fx M b11) 11 (((v25 + 1) : Nat) : Int)) (va_up (va_up (va_up (ax M b11) 36 gw44) 35 (upd (ax M b11 35) ((nI v25) : Int32).toNatClampNeg f_57)) 34 (upd (ax M b11 34) ((nI v25) : Int32).toNatClampNeg (nI j_22))) := by rw [eM_80]; exact hV.put hW hb_13 hM_68 hn14 rfl (by decide) rfl (nI_toInt (by omega))
                  have hP : va_P D vwCl ([(za, .inr (13, [.int 0, .ref z1, .int (nI z2), .int (nI z3), .int z4, .int z5, .ref z6, .ref z7, .ref z8, .ref z9, .int (nI z10), .ref z11, .ref z12, .ref z13, .ref z14, .ref z15, .int (nI z16), .ref z17, .int z18, .ref z19]))] ++ va_pl L M_80) H_71 := by rw [eM_80]; exact hP
                  have hD : va_D A ([(za, .inr (13, [.int 0, .ref z1, .int (nI z2), .int (nI z3), .int z4, .int z5, .ref z6, .ref z7, .ref z8, .ref z9, .int (nI z10), .ref z11, .ref z12, .ref z13, .ref z14, .ref z15, .int (nI z16), .ref z17, .int z18, .ref z19]))] ++ va_pl L M_80) := by rw [eM_80]; exact hD
                  have hW : WOM cy K L M_80 := by rw [eM_80]; exact hW.up_12 hb_13 ⟨_, rfl, hn_75, hk_73⟩
                  have hF : fr K L [12, 14, 43, 77, 78] M M_80 := by rw [eM_80]; exact hF.up hb_13 (by decide)
                  have hG : fG K L [11] M M_80 := by rw [eM_80]; exact hG.up hM_68 (by decide)
                  have hM_81 : M_80 b11 = .inr (12, fs14.set 11 (.int (nI (v25 + 1)))) := by rw [eM_80]; exact va_up_self _ _ _
                  have hM_82 : M_80 v28 = .inl (cy 14, 16, .inl (f_69)) := by rw [eM_80, va_up_ne _ _ (hc28.neT hb_13 (by decide))]; exact hM_66
                  have hM_83 : M_80 v53 = .inl (cy 14, 16, .inl (f_62)) := by rw [eM_80, va_up_ne _ _ (hc53.neT hb_13 (by decide))]; exact hM_67
                  refine lv_aload_n hx hb dX13_rule_215 rfl (lv_at hl 4 rfl) ?_
                  refine lv_aload_n hx hb dX13_rule_216 rfl (lv_at hl 3 rfl) ?_
                  refine pg_getN (D := D) (ci := 12) (v := .int (nI (v25 + 1))) (C := RX12) (T := TX12) (N := 51) hx hb hg inG12 hown hK hP hb_13.1 hM_81 rfl 11 (by decide) (hN.use (Cond.fieldLinkNest RX13 142 RX12 "rules" "I" RX13) 20 rfl rfl) (fun _ h9 => h9) hs_74 dX13_rule_217 ?_
                  have hPc := hP.sub (ws' := [(za, .inr (13, [.int 0, .ref z1, .int (nI z2), .int (nI z3), .int z4, .int z5, .ref z6, .ref z7, .ref z8, .ref z9, .int (nI z10), .ref z11, .ref z12, .ref z13, .ref z14, .ref z15, .int (nI z16), .ref z17, .int z18, .ref z19]))]) [0] rfl
                  have hDc := hD.sub (ws' := [(za, .inr (13, [.int 0, .ref z1, .int (nI z2), .int (nI z3), .int z4, .int z5, .ref z6, .ref z7, .ref z8, .ref z9, .int (nI z10), .ref z11, .ref z12, .ref z13, .ref z14, .ref z15, .int (nI z16), .ref z17, .int z18, .ref z19]))]) [0] (by decide) rfl
                  have hKc := hK.sub (tys' := []) [] rfl
                  have hFc := va_free (wc := [(za, .inr (13, [.int 0, .ref z1, .int (nI z2), .int (nI z3), .int z4, .int z5, .ref z6, .ref z7, .ref z8, .ref z9, .int (nI z10), .ref z11, .ref z12, .ref z13, .ref z14, .ref z15, .int (nI z16), .ref z17, .int z18, .ref z19]))]) hD hS hA [0] rfl
                  refine va_calli (va_runV (As := [.int (nI (v25 + 1))]) (rest := []) ⟨hx, hb, hml, hown, hg⟩ (m_done l D H_71.size za 0 z1 (nI z2) (nI z3) z4 z5 z6 z7 z8 z9 (nI z10) z11 z12 z13 z14 z15 (nI z16) z17 z18 z19 (nI (v25 + 1))) (cwV 1 hg (gV wd_730 wd_731 wd_732 wd_717 wd_733) rfl rfl rfl (by decide +kernel) ⟨(Nat.le_trans (Nat.le_of_ble_eq_true rfl) hRf), (Nat.le_trans (Nat.le_of_ble_eq_true rfl) hRl)⟩) ⟨Pr.blind, va_recv hK hP (ci := 13) (q0 := 0) rfl rfl, fun U hU hW => ⟨rfl, Pr.at hPc hKc hDc hN hU hW⟩⟩ rfl rfl hl.1 rfl (lv_room (Nat.le_of_ble_eq_true rfl)) dX13_rule_220 ⟨(Nat.le_trans (Nat.le_of_ble_eq_true rfl) hRc), (Nat.le_trans (Nat.le_of_ble_eq_true rfl) hRs)⟩) hS (fun q _ h => hFc q h) hFc (fun r_85 M_86 t H_84 locs ht hvm hw hB hz1 hk1 hS => ?_)
                  have hp_87 := hw
                  obtain ⟨hP1, hK1, hD1⟩ := hB
                  rw [ht] at hP1
                  obtain ⟨hP, hD⟩ := va_joinQ (X := [(za, .inr (13, [.int 0, .ref z1, .int (nI z2), .int (nI z3), .int z4, .int z5, .ref z6, .ref z7, .ref z8, .ref z9, .int (nI z10), .ref z11, .ref z12, .ref z13, .ref z14, .ref z15, .int (nI z16), .ref z17, .int z18, .ref z19]))]) (cx := [(za, .inr (13, [.int 0, .ref z1, .int (nI z2), .int (nI z3), .int z4, .int z5, .ref z6, .ref z7, .ref z8, .ref z9, .int (nI z10), .ref z11, .ref z12, .ref z13, .ref z14, .ref z15, .int (nI z16), .ref z17, .int z18, .ref z19]))]) (wr := []) (w1 := [(za, .inr (13, [.int 0, .ref z1, .int (nI z2), .int (nI z3), .int 0, .int (-1), .ref z6, .ref z7, .ref z8, .ref z9, .int (nI z10), .ref z11, .ref z12, .ref z13, .ref z14, .ref z15, .int (nI z16), .ref z17, .int z18, .ref z19]))]) (pl := va_pl L M_80) hP hD [0] [] rfl rfl (by decide) (by decide) hk1 hFc hP1 hD1
                  have hP : va_P D vwCl ([(za, .inr (13, [.int 0, .ref z1, .int (nI z2), .int (nI z3), .int 0, .int (-1), .ref z6, .ref z7, .ref z8, .ref z9, .int (nI z10), .ref z11, .ref z12, .ref z13, .ref z14, .ref z15, .int (nI z16), .ref z17, .int z18, .ref z19]))] ++ va_pl L M_80) H_84 := hP
                  have hD : va_D A ([(za, .inr (13, [.int 0, .ref z1, .int (nI z2), .int (nI z3), .int 0, .int (-1), .ref z6, .ref z7, .ref z8, .ref z9, .int (nI z10), .ref z11, .ref z12, .ref z13, .ref z14, .ref z15, .int (nI z16), .ref z17, .int z18, .ref z19]))] ++ va_pl L M_80) := hD
                  have hq := Eq.symm hp_87
                  subst hq
                  have hA9 : HA (ax M b11 2) (ax M b11 3) := hAT.1
                  have hB9 : HB (fx M b11 16) (fx M b11 14) (ax M b11 3) (ax M b11 43) := hAT.2.1
                  have hC9 : HC (fx M b11 10) (ax M b11 22) (ax M b11 23) := hAT.2.2.1
                  have hD9 : HD (fx M b11 0) (((v25 + 1) : Nat) : Int) (fx M b11 15) (upd (ax M b11 34) ((nI v25) : Int32).toNatClampNeg (nI j_22)) (ax M b11 41) := HD.rule hAT.2.2.2.1 hx11 (by omega) (nI_cl (by omega)) (fun h0 => by first | (exfalso; omega) | (rw [nI_toInt (by omega), hx0]; omega))
                  have hE9 : HE (fx M b11 0) (fx M b11 1) (fx M b11 12) (fx M b11 13) (ax M b11 37) := hAT.2.2.2.2
                  have hH9 : HI (va_up (fx M b11) 11 (((v25 + 1) : Nat) : Int)) (va_up (va_up (va_up (ax M b11) 36 gw44) 35 (upd (ax M b11 35) ((nI v25) : Int32).toNatClampNeg f_57)) 34 (upd (ax M b11 34) ((nI v25) : Int32).toNatClampNeg (nI j_22))) := ⟨hA9, hB9, hC9, hD9, hE9⟩
                  have hGI9 : GI K L z1 z2 M_80 := GI.fin hW0 i1 b2 hGI hact hV (hF.at i1 (by decide)) hH9
                  rw [hQ]
                  exact W.iret (v := (nI (v25 + 1))) hx hb hr (fun t ht hW9 => ⟨⟨(nI (v25 + 1)), M_80, rfl, ⟨hW, hF, hG, hGI9, trivial⟩, ⟨0, (-1), by rw [ht]; exact hP, hD⟩⟩, hS.F ht⟩) hS.2.2 dX13_rule_223
                · have hz := rfl (a := 0)
                  have n_88 : ¬ (24 ≤ v6w44) := fun q => c_51 ((iLE (a := 24) (b := v6w44) (by omega) (by omega)).mpr q)
                  refine lv_aload_n hx hb dX13_rule_115 rfl (lv_at hl 3 rfl) ?_
                  obtain ⟨v89, hv89, hc89⟩ : ∃ v : Nat, fs14[36]? = some (.ref v : Value) ∧ isk K L v 78 384 := hl14 36 (by decide)
                  refine pg_getN (D := D) (ci := 12) (v := .ref v89) (C := RX12) (T := TX12) (N := 51) hx hb hg inG12 hown hK hP hb_13.1 hM_50 rfl 36 (by decide) (hN.use (Cond.fieldLinkNest RX13 148 RX12 "term" "[I" RX13) 45 rfl rfl) (fun _ h9 => h9) hv89 dX13_rule_116 ?_
                  refine lv_iload hx hb dX13_rule_119 (lv_at hl 1 rfl) ?_
                  refine lv_aload_n hx hb dX13_rule_121 rfl (lv_at hl 3 rfl) ?_
                  refine pg_getN (D := D) (ci := 12) (v := .int (nI v25)) (C := RX12) (T := TX12) (N := 51) hx hb hg inG12 hown hK hP hb_13.1 hM_50 rfl 11 (by decide) (hN.use (Cond.fieldLinkNest RX13 142 RX12 "rules" "I" RX13) 20 rfl rfl) (fun _ h9 => h9) hv25 dX13_rule_122 ?_
                  refine lv_imul hx hb dX13_rule_125 ?_
                  refine lv_topi (fun f_90 ef_90 => ?_)
                  obtain rfl : f_90 = (nI (24 * v25)) := ef_90.trans (nI_mul 24 v25)
                  refine lv_iload hx hb dX13_rule_126 (lv_at hl 0 rfl) ?_
                  refine lv_iadd hx hb dX13_rule_128 ?_
                  refine lv_topi (fun f_91 ef_91 => ?_)
                  obtain rfl : f_91 = (nI ((24 * v25) + v6w44)) := ef_91.trans (nI_add (24 * v25) v6w44)
                  refine lv_aload_n hx hb dX13_rule_129 rfl (lv_at hl 3 rfl) ?_
                  refine pg_getN (D := D) (ci := 12) (v := .int (nI v25)) (C := RX12) (T := TX12) (N := 51) hx hb hg inG12 hown hK hP hb_13.1 hM_50 rfl 11 (by decide) (hN.use (Cond.fieldLinkNest RX13 142 RX12 "rules" "I" RX13) 20 rfl rfl) (fun _ h9 => h9) hv25 dX13_rule_130 ?_
                  refine lv_if_ne (tgt := 140) hx hb dX13_rule_133 (by decide) (fun c_92 => ?_) (fun c_92 => absurd c_92 c_26)
                  refine lv_aload_n hx hb dX13_rule_140 rfl (lv_at hl 3 rfl) ?_
                  refine pg_getN (D := D) (ci := 12) (v := .ref v89) (C := RX12) (T := TX12) (N := 51) hx hb hg inG12 hown hK hP hb_13.1 hM_50 rfl 36 (by decide) (hN.use (Cond.fieldLinkNest RX13 148 RX12 "term" "[I" RX13) 45 rfl rfl) (fun _ h9 => h9) hv89 dX13_rule_141 ?_
                  refine lv_iload hx hb dX13_rule_144 (lv_at hl 1 rfl) ?_
                  refine lv_aload_n hx hb dX13_rule_146 rfl (lv_at hl 3 rfl) ?_
                  refine pg_getN (D := D) (ci := 12) (v := .int (nI v25)) (C := RX12) (T := TX12) (N := 51) hx hb hg inG12 hown hK hP hb_13.1 hM_50 rfl 11 (by decide) (hN.use (Cond.fieldLinkNest RX13 142 RX12 "rules" "I" RX13) 20 rfl rfl) (fun _ h9 => h9) hv25 dX13_rule_147 ?_
                  refine lv_iconst (v := 1) hx hb dX13_rule_150 (by decide) ?_
                  refine lv_isub hx hb dX13_rule_151 ?_
                  refine lv_topi (fun f_93 ef_93 => ?_)
                  obtain rfl : f_93 = (nI (v25 - 1)) := ef_93.trans (nI_prd (by omega))
                  refine lv_imul hx hb dX13_rule_152 ?_
                  refine lv_topi (fun f_94 ef_94 => ?_)
                  obtain rfl : f_94 = (nI (24 * (v25 - 1))) := ef_94.trans (nI_mul 24 (v25 - 1))
                  refine lv_iload hx hb dX13_rule_153 (lv_at hl 0 rfl) ?_
                  refine lv_iadd hx hb dX13_rule_155 ?_
                  refine lv_topi (fun f_95 ef_95 => ?_)
                  obtain rfl : f_95 = (nI ((24 * (v25 - 1)) + v6w44)) := ef_95.trans (nI_add (24 * (v25 - 1)) v6w44)
                  obtain ⟨f96, hM96⟩ := hW.open_78 hc89
                  refine pg_iald hx hb hK hP hc89.1 0 hM96 rfl (inbN ((24 * (v25 - 1)) + v6w44) 384 (by omega) (by omega)) dX13_rule_156 ?_
                  refine lv_topi (fun f_97 ef_97 => ?_)
                  have hy36 : gw44 = f96 := (congrFun hV.2.2.1 36).symm.trans (ax_of hM_50 (by decide) hv89 hM96)
                  have hrv : f_97 = trm (ax M b11 36) v25 v6w44 := by unfold trm; rw [if_neg (by omega), ← hx_46 (24 * (v25 - 1) + v6w44) (by omega), hy36, ef_97, nI_cl (by omega)]
                  refine pg_iast hx hb hK hP hD hS hc89.1 0 hM96 rfl (inbN ((24 * v25) + v6w44) 384 (by omega) (by omega)) dX13_rule_157 (fun H_98 locs hP hD hS => ?_)
                  obtain ⟨M_99, eM_99⟩ : ∃ M1 : Hp, M1 = va_up M_48 v89 (.inl (cy 14, 384, .inl (upd f96 ((nI ((24 * v25) + v6w44)) : Int32).toNatClampNeg f_97))) := ⟨_, rfl⟩
                  have hy36 : gw44 = f96 := (congrFun hV.2.2.1 36).symm.trans (ax_of hM_50 (by decide) hv89 hM96)
                  have hV : VW K L M M_99 b11 (fx M b11) (va_up (va_up (ax M b11) 36 gw44) 36 (upd gw44 ((nI ((24 * v25) + v6w44)) : Int32).toNatClampNeg f_97)) := by rw [eM_99]; exact hV.ast (j := 36) hW hb_13 hM_50 (by decide) hv89 hc89 hM96
                  have hP : va_P D vwCl ([(za, .inr (13, [.int 0, .ref z1, .int (nI z2), .int (nI z3), .int z4, .int z5, .ref z6, .ref z7, .ref z8, .ref z9, .int (nI z10), .ref z11, .ref z12, .ref z13, .ref z14, .ref z15, .int (nI z16), .ref z17, .int z18, .ref z19]))] ++ va_pl L M_99) H_98 := by rw [eM_99]; exact hP
                  have hD : va_D A ([(za, .inr (13, [.int 0, .ref z1, .int (nI z2), .int (nI z3), .int z4, .int z5, .ref z6, .ref z7, .ref z8, .ref z9, .int (nI z10), .ref z11, .ref z12, .ref z13, .ref z14, .ref z15, .int (nI z16), .ref z17, .int z18, .ref z19]))] ++ va_pl L M_99) := by rw [eM_99]; exact hD
                  have hW : WOM cy K L M_99 := by rw [eM_99]; exact hW.up_78 hc89 ⟨_, rfl⟩
                  have hF : fr K L [12, 14, 43, 77, 78] M M_99 := by rw [eM_99]; exact hF.up hc89 (by decide)
                  have hG : fG K L [11] M M_99 := by rw [eM_99]; exact hG.arr hc89 (by decide)
                  have hM_100 : M_99 v89 = .inl (cy 14, 384, .inl (upd f96 ((nI ((24 * v25) + v6w44)) : Int32).toNatClampNeg f_97)) := by rw [eM_99]; exact va_up_self _ _ _
                  have hM_101 : M_99 b11 = .inr (12, fs14) := by rw [eM_99, va_up_ne _ _ (hb_13.neT hc89 (by decide))]; exact hM_50
                  obtain ⟨f_102, ef_102⟩ : ∃ f : Nat → Int32, f = upd f96 ((nI ((24 * v25) + v6w44)) : Int32).toNatClampNeg f_97 := ⟨_, rfl⟩
                  rw [← ef_102] at hM_100
                  refine lv_iinc (v := (nI (v6w44 + 1))) (lv' := [(6, .int (nI (v6w44 + 1))), (5, .int 24), (4, .int 1), (3, .ref b11), (0, .ref za), (1, .int k1), (2, .int (nI j_22))]) hx hb dX13_rule_158 hl (k := 0) rfl (nI_1 v6w44) (by decide) rfl (fun ls hl => ?_)
                  refine lv_goto (tgt := 108) hx hb dX13_rule_161 (by decide) ?_
                  exact ih_42 (v6w44 + 1) (upd gw44 ((nI ((24 * v25) + v6w44)) : Int32).toNatClampNeg f_97) M_99 H_98 _ _ (by omega) hM_101 (by omega) (trm1 hx_46 (nI_cl (by omega))) (trm2 hx_47 (nI_cl (by omega)) hrv) hW hF hG (by have h := hV; simp only [va_up_up] at h; exact h) hP hD hS (lv_sub hl [0, 1, 2, 3, 4, 5, 6] rfl)
            exact key_41 (24 - 0 + 1) 0 (ax M b11 36) M H_15 _ _ (by omega) hM14 (by omega) (fun _ _ => rfl) (fun i h => absurd h (Nat.not_lt_zero _)) hW hF hG (by rw [va_up_id]; exact hV) hP hD hS (lv_sub hl [0, 1, 2, 3, 4, 5, 6] rfl)
          · have hz := rfl (a := 0)
            have n_103 : v25 = 16 := (iEQ (a := v25) (b := 16) (by omega) (by omega)).mp c_39
            refine lv_aload_n hx hb dX13_rule_94 rfl (lv_at hl 2 rfl) ?_
            refine lv_bipush (v := 9) hx hb dX13_rule_95 (by decide) ?_
            have hPc := hP.sub (ws' := [(za, .inr (13, [.int 0, .ref z1, .int (nI z2), .int (nI z3), .int z4, .int z5, .ref z6, .ref z7, .ref z8, .ref z9, .int (nI z10), .ref z11, .ref z12, .ref z13, .ref z14, .ref z15, .int (nI z16), .ref z17, .int z18, .ref z19]))]) [0] rfl
            have hDc := hD.sub (ws' := [(za, .inr (13, [.int 0, .ref z1, .int (nI z2), .int (nI z3), .int z4, .int z5, .ref z6, .ref z7, .ref z8, .ref z9, .int (nI z10), .ref z11, .ref z12, .ref z13, .ref z14, .ref z15, .int (nI z16), .ref z17, .int z18, .ref z19]))]) [0] (by decide) rfl
            have hKc := hK.sub (tys' := []) [] rfl
            have hFc := va_free (wc := [(za, .inr (13, [.int 0, .ref z1, .int (nI z2), .int (nI z3), .int z4, .int z5, .ref z6, .ref z7, .ref z8, .ref z9, .int (nI z10), .ref z11, .ref z12, .ref z13, .ref z14, .ref z15, .int (nI z16), .ref z17, .int z18, .ref z19]))]) hD hS hA [0] rfl
            refine va_calli (va_runV (As := [.int 9]) (rest := []) ⟨hx, hb, hml, hown, hg⟩ (m_refused l D H_15.size za 0 z1 (nI z2) (nI z3) z4 z5 z6 z7 z8 z9 (nI z10) z11 z12 z13 z14 z15 (nI z16) z17 z18 z19 9) (cwV 1 hg (gV wd_725 wd_726 wd_727 wd_717 wd_728) rfl rfl rfl (by decide +kernel) ⟨(Nat.le_trans (Nat.le_of_ble_eq_true rfl) hRf), (Nat.le_trans (Nat.le_of_ble_eq_true rfl) hRl)⟩) ⟨Pr.blind, va_recv hK hP (ci := 13) (q0 := 0) rfl rfl, fun U hU hW => ⟨rfl, Pr.at hPc hKc hDc hN hU hW⟩⟩ rfl rfl hl.1 rfl (lv_room (Nat.le_of_ble_eq_true rfl)) dX13_rule_97 ⟨(Nat.le_trans (Nat.le_of_ble_eq_true rfl) hRc), (Nat.le_trans (Nat.le_of_ble_eq_true rfl) hRs)⟩) hS (fun q _ h => hFc q h) hFc (fun r_105 M_106 t H_104 locs ht hvm hw hB hz1 hk1 hS => ?_)
            have hp_107 := hw
            obtain ⟨hP1, hK1, hD1⟩ := hB
            rw [ht] at hP1
            obtain ⟨hP, hD⟩ := va_joinQ (X := [(za, .inr (13, [.int 0, .ref z1, .int (nI z2), .int (nI z3), .int z4, .int z5, .ref z6, .ref z7, .ref z8, .ref z9, .int (nI z10), .ref z11, .ref z12, .ref z13, .ref z14, .ref z15, .int (nI z16), .ref z17, .int z18, .ref z19]))]) (cx := [(za, .inr (13, [.int 0, .ref z1, .int (nI z2), .int (nI z3), .int z4, .int z5, .ref z6, .ref z7, .ref z8, .ref z9, .int (nI z10), .ref z11, .ref z12, .ref z13, .ref z14, .ref z15, .int (nI z16), .ref z17, .int z18, .ref z19]))]) (wr := []) (w1 := [(za, .inr (13, [.int 0, .ref z1, .int (nI z2), .int (nI z3), .int 9, .int (-1), .ref z6, .ref z7, .ref z8, .ref z9, .int (nI z10), .ref z11, .ref z12, .ref z13, .ref z14, .ref z15, .int (nI z16), .ref z17, .int z18, .ref z19]))]) (pl := va_pl L M) hP hD [0] [] rfl rfl (by decide) (by decide) hk1 hFc hP1 hD1
            have hP : va_P D vwCl ([(za, .inr (13, [.int 0, .ref z1, .int (nI z2), .int (nI z3), .int 9, .int (-1), .ref z6, .ref z7, .ref z8, .ref z9, .int (nI z10), .ref z11, .ref z12, .ref z13, .ref z14, .ref z15, .int (nI z16), .ref z17, .int z18, .ref z19]))] ++ va_pl L M) H_104 := hP
            have hD : va_D A ([(za, .inr (13, [.int 0, .ref z1, .int (nI z2), .int (nI z3), .int 9, .int (-1), .ref z6, .ref z7, .ref z8, .ref z9, .int (nI z10), .ref z11, .ref z12, .ref z13, .ref z14, .ref z15, .int (nI z16), .ref z17, .int z18, .ref z19]))] ++ va_pl L M) := hD
            have hq := Eq.symm hp_107
            subst hq
            rw [hQ]
            exact W.iret (v := (-1)) hx hb hr (fun t ht hW9 => ⟨⟨(-1), M, rfl, ⟨hW, hF, hG, hGI, trivial⟩, ⟨9, (-1), by rw [ht]; exact hP, hD⟩⟩, hS.F ht⟩) hS.2.2 dX13_rule_100
      · have hz := rfl (a := 0)
        have n_108 : v25 = 0 := (iEQ (a := v25) (b := 0) (by omega) (by omega)).mp c_26
        refine lv_iload_n hx hb dX13_rule_41 rfl (lv_at hl 3 rfl) ?_
        refine lv_aload_n hx hb dX13_rule_42 rfl (lv_at hl 0 rfl) ?_
        refine pg_getN (D := D) (ci := 12) (v := .int (nI v24)) (C := RX12) (T := TX12) (N := 51) hx hb hg inG12 hown hK hP hb_13.1 hM14 rfl 0 (by decide) (hN.use (Cond.fieldLinkNest RX13 77 RX12 "first" "I" RX13) 9 rfl rfl) (fun _ h9 => h9) hv24 dX13_rule_43 ?_
        refine lv_icmp_ne (tgt := 71) hx hb dX13_rule_46 (by decide) (fun c_109 => ?_) (fun c_109 => ?_)
        · have hz := rfl (a := 0)
          have n_110 : ¬ (j_22 = v24) := fun q => c_109 ((iEQ (a := j_22) (b := v24) (by omega) (by omega)).mpr q)
          refine lv_iconst (v := 0) hx hb dX13_rule_71 (by decide) ?_
          refine lv_istore (lv' := [(4, .int 0), (3, .ref b11), (0, .ref za), (1, .int k1), (2, .int (nI j_22))]) hx hb dX13_rule_72 hl (by decide) rfl (fun ls hl => ?_)
          refine lv_iload hx hb dX13_rule_74 (lv_at hl 0 rfl) ?_
          refine lv_if_ne (tgt := 85) hx hb dX13_rule_76 (by decide) (fun c_111 => absurd c_111 (by decide)) (fun _ => ?_)
          refine lv_aload_n hx hb dX13_rule_79 rfl (lv_at hl 2 rfl) ?_
          refine lv_iconst (v := 3) hx hb dX13_rule_80 (by decide) ?_
          have hPc := hP.sub (ws' := [(za, .inr (13, [.int 0, .ref z1, .int (nI z2), .int (nI z3), .int z4, .int z5, .ref z6, .ref z7, .ref z8, .ref z9, .int (nI z10), .ref z11, .ref z12, .ref z13, .ref z14, .ref z15, .int (nI z16), .ref z17, .int z18, .ref z19]))]) [0] rfl
          have hDc := hD.sub (ws' := [(za, .inr (13, [.int 0, .ref z1, .int (nI z2), .int (nI z3), .int z4, .int z5, .ref z6, .ref z7, .ref z8, .ref z9, .int (nI z10), .ref z11, .ref z12, .ref z13, .ref z14, .ref z15, .int (nI z16), .ref z17, .int z18, .ref z19]))]) [0] (by decide) rfl
          have hKc := hK.sub (tys' := []) [] rfl
          have hFc := va_free (wc := [(za, .inr (13, [.int 0, .ref z1, .int (nI z2), .int (nI z3), .int z4, .int z5, .ref z6, .ref z7, .ref z8, .ref z9, .int (nI z10), .ref z11, .ref z12, .ref z13, .ref z14, .ref z15, .int (nI z16), .ref z17, .int z18, .ref z19]))]) hD hS hA [0] rfl
          refine va_calli (va_runV (As := [.int 3]) (rest := []) ⟨hx, hb, hml, hown, hg⟩ (m_refused l D H_15.size za 0 z1 (nI z2) (nI z3) z4 z5 z6 z7 z8 z9 (nI z10) z11 z12 z13 z14 z15 (nI z16) z17 z18 z19 3) (cwV 1 hg (gV wd_725 wd_726 wd_727 wd_717 wd_728) rfl rfl rfl (by decide +kernel) ⟨(Nat.le_trans (Nat.le_of_ble_eq_true rfl) hRf), (Nat.le_trans (Nat.le_of_ble_eq_true rfl) hRl)⟩) ⟨Pr.blind, va_recv hK hP (ci := 13) (q0 := 0) rfl rfl, fun U hU hW => ⟨rfl, Pr.at hPc hKc hDc hN hU hW⟩⟩ rfl rfl hl.1 rfl (lv_room (Nat.le_of_ble_eq_true rfl)) dX13_rule_81 ⟨(Nat.le_trans (Nat.le_of_ble_eq_true rfl) hRc), (Nat.le_trans (Nat.le_of_ble_eq_true rfl) hRs)⟩) hS (fun q _ h => hFc q h) hFc (fun r_113 M_114 t H_112 locs ht hvm hw hB hz1 hk1 hS => ?_)
          have hp_115 := hw
          obtain ⟨hP1, hK1, hD1⟩ := hB
          rw [ht] at hP1
          obtain ⟨hP, hD⟩ := va_joinQ (X := [(za, .inr (13, [.int 0, .ref z1, .int (nI z2), .int (nI z3), .int z4, .int z5, .ref z6, .ref z7, .ref z8, .ref z9, .int (nI z10), .ref z11, .ref z12, .ref z13, .ref z14, .ref z15, .int (nI z16), .ref z17, .int z18, .ref z19]))]) (cx := [(za, .inr (13, [.int 0, .ref z1, .int (nI z2), .int (nI z3), .int z4, .int z5, .ref z6, .ref z7, .ref z8, .ref z9, .int (nI z10), .ref z11, .ref z12, .ref z13, .ref z14, .ref z15, .int (nI z16), .ref z17, .int z18, .ref z19]))]) (wr := []) (w1 := [(za, .inr (13, [.int 0, .ref z1, .int (nI z2), .int (nI z3), .int 3, .int (-1), .ref z6, .ref z7, .ref z8, .ref z9, .int (nI z10), .ref z11, .ref z12, .ref z13, .ref z14, .ref z15, .int (nI z16), .ref z17, .int z18, .ref z19]))]) (pl := va_pl L M) hP hD [0] [] rfl rfl (by decide) (by decide) hk1 hFc hP1 hD1
          have hP : va_P D vwCl ([(za, .inr (13, [.int 0, .ref z1, .int (nI z2), .int (nI z3), .int 3, .int (-1), .ref z6, .ref z7, .ref z8, .ref z9, .int (nI z10), .ref z11, .ref z12, .ref z13, .ref z14, .ref z15, .int (nI z16), .ref z17, .int z18, .ref z19]))] ++ va_pl L M) H_112 := hP
          have hD : va_D A ([(za, .inr (13, [.int 0, .ref z1, .int (nI z2), .int (nI z3), .int 3, .int (-1), .ref z6, .ref z7, .ref z8, .ref z9, .int (nI z10), .ref z11, .ref z12, .ref z13, .ref z14, .ref z15, .int (nI z16), .ref z17, .int z18, .ref z19]))] ++ va_pl L M) := hD
          have hq := Eq.symm hp_115
          subst hq
          rw [hQ]
          exact W.iret (v := (-1)) hx hb hr (fun t ht hW9 => ⟨⟨(-1), M, rfl, ⟨hW, hF, hG, hGI, trivial⟩, ⟨3, (-1), by rw [ht]; exact hP, hD⟩⟩, hS.F ht⟩) hS.2.2 dX13_rule_84
        · have hz := rfl (a := 0)
          have n_116 : j_22 = v24 := (iEQ (a := j_22) (b := v24) (by omega) (by omega)).mp c_109
          refine lv_goto (tgt := 67) hx hb dX13_rule_49 (by decide) ?_
          refine lv_iconst (v := 1) hx hb dX13_rule_67 (by decide) ?_
          refine lv_goto (tgt := 72) hx hb dX13_rule_68 (by decide) ?_
          refine lv_istore (lv' := [(4, .int 1), (3, .ref b11), (0, .ref za), (1, .int k1), (2, .int (nI j_22))]) hx hb dX13_rule_72 hl (by decide) rfl (fun ls hl => ?_)
          refine lv_iload hx hb dX13_rule_74 (lv_at hl 0 rfl) ?_
          refine lv_if_ne (tgt := 85) hx hb dX13_rule_76 (by decide) (fun _ => ?_) (fun c_117 => absurd c_117 (by decide))
          refine lv_aload_n hx hb dX13_rule_85 rfl (lv_at hl 1 rfl) ?_
          refine pg_getN (D := D) (ci := 12) (v := .int (nI v25)) (C := RX12) (T := TX12) (N := 51) hx hb hg inG12 hown hK hP hb_13.1 hM14 rfl 11 (by decide) (hN.use (Cond.fieldLinkNest RX13 142 RX12 "rules" "I" RX13) 20 rfl rfl) (fun _ h9 => h9) hv25 dX13_rule_86 ?_
          refine lv_bipush (v := 16) hx hb dX13_rule_89 (by decide) ?_
          refine lv_icmp_ne (tgt := 101) hx hb dX13_rule_91 (by decide) (fun c_118 => ?_) (fun c_118 => absurd c_118 (by rw [c_26]; decide))
          refine lv_bipush (v := 24) hx hb dX13_rule_101 (by decide) ?_
          refine lv_istore (lv' := [(5, .int 24), (4, .int 1), (3, .ref b11), (0, .ref za), (1, .int k1), (2, .int (nI j_22))]) hx hb dX13_rule_103 hl (by decide) rfl (fun ls hl => ?_)
          refine lv_iconst (v := 0) hx hb dX13_rule_105 (by decide) ?_
          refine lv_istore (lv' := [(6, .int 0), (5, .int 24), (4, .int 1), (3, .ref b11), (0, .ref za), (1, .int k1), (2, .int (nI j_22))]) hx hb dX13_rule_106 hl (by decide) rfl (fun ls hl => ?_)
          have key_119 : ∀ (fu_121 : Nat) (v6w122 : Nat) (gw122 : Nat → Int32) (M_126 : Hp) (H_127 : Heap) (locs : List Loc) (ls : Array Slot), 24 - v6w122 < fu_121 → M_126 b11 = .inr (12, fs14) → v6w122 ≤ 24 → (∀ i : Nat, i < 24 * v25 → gw122 i = ax M b11 36 i) → (∀ i : Nat, i < v6w122 → gw122 (24 * v25 + i) = trm (ax M b11 36) v25 i) → WOM cy K L M_126 → fr K L [12, 14, 43, 77, 78] M M_126 → fG K L [11] M M_126 → VW K L M M_126 b11 (fx M b11) (va_up (ax M b11) 36 gw122) → va_P D vwCl ([(za, .inr (13, [.int 0, .ref z1, .int (nI z2), .int (nI z3), .int z4, .int z5, .ref z6, .ref z7, .ref z8, .ref z9, .int (nI z10), .ref z11, .ref z12, .ref z13, .ref z14, .ref z15, .int (nI z16), .ref z17, .int z18, .ref z19]))] ++ va_pl L M_126) H_127 → va_D A ([(za, .inr (13, [.int 0, .ref z1, .int (nI z2), .int (nI z3), .int z4, .int z5, .ref z6, .ref z7, .ref z8, .ref z9, .int (nI z10), .ref z11, .ref z12, .ref z13, .ref z14, .ref z15, .int (nI z16), .ref z17, .int z18, .ref z19]))] ++ va_pl L M_126) → va_S A s.heap H_127 locs → lv_has ls 7 [(6, .int (nI v6w122)), (5, .int 24), (4, .int 1), (3, .ref b11), (0, .ref za), (1, .int k1), (2, .int (nI j_22))] → W p l e R s m ([.ref za, .int k1, .int (nI j_22)] : List Value).toArray below meth c H_127 locs 0 0 Q (F0 m 108 ls []) := by
            intro fu_121
            induction fu_121 with
            | zero => intro v6w122 gw122 M_126 H_127 locs ls h; exact absurd h (Nat.not_lt_zero _)
            | succ fu_121 ih_120 =>
              intro v6w122 gw122 M_126 H_127 locs ls hfu hM_128 hx_123 hx_124 hx_125 hW hF hG hV hP hD hS hl
              refine lv_iload hx hb dX13_rule_108 (lv_at hl 0 rfl) ?_
              refine lv_iload hx hb dX13_rule_110 (lv_at hl 1 rfl) ?_
              refine lv_icmp_ge (tgt := 164) hx hb dX13_rule_112 (by decide) (fun c_129 => ?_) (fun c_129 => ?_)
              · have hz := rfl (a := 0)
                have n_130 : 24 ≤ v6w122 := (iLE (a := 24) (b := v6w122) (by omega) (by omega)).mp c_129
                refine lv_aload_n hx hb dX13_rule_164 rfl (lv_at hl 3 rfl) ?_
                obtain ⟨v131, hv131, hc131⟩ : ∃ v : Nat, fs14[35]? = some (.ref v : Value) ∧ isk K L v 77 16 := hl14 35 (by decide)
                refine pg_getN (D := D) (ci := 12) (v := .ref v131) (C := RX12) (T := TX12) (N := 51) hx hb hg inG12 hown hK hP hb_13.1 hM_128 rfl 35 (by decide) (hN.use (Cond.fieldLinkNest RX13 151 RX12 "thousandths" "[I" RX13) 44 rfl rfl) (fun _ h9 => h9) hv131 dX13_rule_165 ?_
                refine lv_aload_n hx hb dX13_rule_168 rfl (lv_at hl 3 rfl) ?_
                refine pg_getN (D := D) (ci := 12) (v := .int (nI v25)) (C := RX12) (T := TX12) (N := 51) hx hb hg inG12 hown hK hP hb_13.1 hM_128 rfl 11 (by decide) (hN.use (Cond.fieldLinkNest RX13 142 RX12 "rules" "I" RX13) 20 rfl rfl) (fun _ h9 => h9) hv25 dX13_rule_169 ?_
                refine lv_aload_n hx hb dX13_rule_172 rfl (lv_at hl 3 rfl) ?_
                refine pg_getN (D := D) (ci := 12) (v := .int (nI v25)) (C := RX12) (T := TX12) (N := 51) hx hb hg inG12 hown hK hP hb_13.1 hM_128 rfl 11 (by decide) (hN.use (Cond.fieldLinkNest RX13 142 RX12 "rules" "I" RX13) 20 rfl rfl) (fun _ h9 => h9) hv25 dX13_rule_173 ?_
                refine lv_if_ne (tgt := 183) hx hb dX13_rule_176 (by decide) (fun c_132 => absurd c_26 c_132) (fun c_132 => ?_)
                refine lv_iconst (v := 0) hx hb dX13_rule_179 (by decide) ?_
                refine lv_goto (tgt := 194) hx hb dX13_rule_180 (by decide) ?_
                obtain ⟨f133, hM133⟩ := hW.open_77 hc131
                refine pg_iast hx hb hK hP hD hS hc131.1 0 hM133 rfl (inbN v25 16 (by omega) (by omega)) dX13_rule_194 (fun H_134 locs hP hD hS => ?_)
                obtain ⟨M_135, eM_135⟩ : ∃ M1 : Hp, M1 = va_up M_126 v131 (.inl (cy 14, 16, .inl (upd f133 ((nI v25) : Int32).toNatClampNeg 0))) := ⟨_, rfl⟩
                have hy35 : (ax M b11 35) = f133 := (congrFun hV.2.2.1 35).symm.trans (ax_of hM_128 (by decide) hv131 hM133)
                have hV : VW K L M M_135 b11 (fx M b11) (va_up (va_up (ax M b11) 36 gw122) 35 (upd (ax M b11 35) ((nI v25) : Int32).toNatClampNeg 0)) := by rw [eM_135]; exact hV.ast (j := 35) hW hb_13 hM_128 (by decide) hv131 hc131 hM133
                have hP : va_P D vwCl ([(za, .inr (13, [.int 0, .ref z1, .int (nI z2), .int (nI z3), .int z4, .int z5, .ref z6, .ref z7, .ref z8, .ref z9, .int (nI z10), .ref z11, .ref z12, .ref z13, .ref z14, .ref z15, .int (nI z16), .ref z17, .int z18, .ref z19]))] ++ va_pl L M_135) H_134 := by rw [eM_135]; exact hP
                have hD : va_D A ([(za, .inr (13, [.int 0, .ref z1, .int (nI z2), .int (nI z3), .int z4, .int z5, .ref z6, .ref z7, .ref z8, .ref z9, .int (nI z10), .ref z11, .ref z12, .ref z13, .ref z14, .ref z15, .int (nI z16), .ref z17, .int z18, .ref z19]))] ++ va_pl L M_135) := by rw [eM_135]; exact hD
                have hW : WOM cy K L M_135 := by rw [eM_135]; exact hW.up_77 hc131 ⟨_, rfl⟩
                have hF : fr K L [12, 14, 43, 77, 78] M M_135 := by rw [eM_135]; exact hF.up hc131 (by decide)
                have hG : fG K L [11] M M_135 := by rw [eM_135]; exact hG.arr hc131 (by decide)
                have hM_136 : M_135 v131 = .inl (cy 14, 16, .inl (upd f133 ((nI v25) : Int32).toNatClampNeg 0)) := by rw [eM_135]; exact va_up_self _ _ _
                have hM_137 : M_135 b11 = .inr (12, fs14) := by rw [eM_135, va_up_ne _ _ (hb_13.neT hc131 (by decide))]; exact hM_128
                obtain ⟨f_138, ef_138⟩ : ∃ f : Nat → Int32, f = upd f133 ((nI v25) : Int32).toNatClampNeg 0 := ⟨_, rfl⟩
                rw [← ef_138] at hM_136
                refine lv_aload_n hx hb dX13_rule_195 rfl (lv_at hl 3 rfl) ?_
                obtain ⟨v139, hv139, hc139⟩ : ∃ v : Nat, fs14[34]? = some (.ref v : Value) ∧ isk K L v 43 16 := hl14 34 (by decide)
                refine pg_getN (D := D) (ci := 12) (v := .ref v139) (C := RX12) (T := TX12) (N := 51) hx hb hg inG12 hown hK hP hb_13.1 hM_137 rfl 34 (by decide) (hN.use (Cond.fieldLinkNest RX13 145 RX12 "ruleDay" "[I" RX13) 43 rfl rfl) (fun _ h9 => h9) hv139 dX13_rule_196 ?_
                refine lv_aload_n hx hb dX13_rule_199 rfl (lv_at hl 3 rfl) ?_
                refine pg_getN (D := D) (ci := 12) (v := .int (nI v25)) (C := RX12) (T := TX12) (N := 51) hx hb hg inG12 hown hK hP hb_13.1 hM_137 rfl 11 (by decide) (hN.use (Cond.fieldLinkNest RX13 142 RX12 "rules" "I" RX13) 20 rfl rfl) (fun _ h9 => h9) hv25 dX13_rule_200 ?_
                refine lv_iload_n hx hb dX13_rule_203 rfl (lv_at hl 6 rfl) ?_
                obtain ⟨f140, hM140⟩ := hW.open_43 hc139
                refine pg_iast hx hb hK hP hD hS hc139.1 0 hM140 rfl (inbN v25 16 (by omega) (by omega)) dX13_rule_204 (fun H_141 locs hP hD hS => ?_)
                obtain ⟨M_142, eM_142⟩ : ∃ M1 : Hp, M1 = va_up M_135 v139 (.inl (cy 14, 16, .inl (upd f140 ((nI v25) : Int32).toNatClampNeg (nI j_22)))) := ⟨_, rfl⟩
                have hy34 : (ax M b11 34) = f140 := (congrFun hV.2.2.1 34).symm.trans (ax_of hM_137 (by decide) hv139 hM140)
                have hV : VW K L M M_142 b11 (fx M b11) (va_up (va_up (va_up (ax M b11) 36 gw122) 35 (upd (ax M b11 35) ((nI v25) : Int32).toNatClampNeg 0)) 34 (upd (ax M b11 34) ((nI v25) : Int32).toNatClampNeg (nI j_22))) := by rw [eM_142]; exact hV.ast (j := 34) hW hb_13 hM_137 (by decide) hv139 hc139 hM140
                have hP : va_P D vwCl ([(za, .inr (13, [.int 0, .ref z1, .int (nI z2), .int (nI z3), .int z4, .int z5, .ref z6, .ref z7, .ref z8, .ref z9, .int (nI z10), .ref z11, .ref z12, .ref z13, .ref z14, .ref z15, .int (nI z16), .ref z17, .int z18, .ref z19]))] ++ va_pl L M_142) H_141 := by rw [eM_142]; exact hP
                have hD : va_D A ([(za, .inr (13, [.int 0, .ref z1, .int (nI z2), .int (nI z3), .int z4, .int z5, .ref z6, .ref z7, .ref z8, .ref z9, .int (nI z10), .ref z11, .ref z12, .ref z13, .ref z14, .ref z15, .int (nI z16), .ref z17, .int z18, .ref z19]))] ++ va_pl L M_142) := by rw [eM_142]; exact hD
                have hW : WOM cy K L M_142 := by rw [eM_142]; exact hW.up_43 hc139 ⟨_, rfl⟩
                have hF : fr K L [12, 14, 43, 77, 78] M M_142 := by rw [eM_142]; exact hF.up hc139 (by decide)
                have hG : fG K L [11] M M_142 := by rw [eM_142]; exact hG.arr hc139 (by decide)
                have hM_143 : M_142 v139 = .inl (cy 14, 16, .inl (upd f140 ((nI v25) : Int32).toNatClampNeg (nI j_22))) := by rw [eM_142]; exact va_up_self _ _ _
                have hM_144 : M_142 v131 = .inl (cy 14, 16, .inl (f_138)) := by rw [eM_142, va_up_ne _ _ (hc131.neT hc139 (by decide))]; exact hM_136
                have hM_145 : M_142 b11 = .inr (12, fs14) := by rw [eM_142, va_up_ne _ _ (hb_13.neT hc139 (by decide))]; exact hM_137
                obtain ⟨f_146, ef_146⟩ : ∃ f : Nat → Int32, f = upd f140 ((nI v25) : Int32).toNatClampNeg (nI j_22) := ⟨_, rfl⟩
                rw [← ef_146] at hM_143
                refine lv_aload_n hx hb dX13_rule_205 rfl (lv_at hl 3 rfl) ?_
                refine lv_dup hx hb dX13_rule_206 rfl ?_
                refine pg_getN (D := D) (ci := 12) (v := .int (nI v25)) (C := RX12) (T := TX12) (N := 51) hx hb hg inG12 hown hK hP hb_13.1 hM_145 rfl 11 (by decide) (hN.use (Cond.fieldLinkNest RX13 142 RX12 "rules" "I" RX13) 20 rfl rfl) (fun _ h9 => h9) hv25 dX13_rule_207 ?_
                refine lv_iconst (v := 1) hx hb dX13_rule_210 (by decide) ?_
                refine lv_iadd hx hb dX13_rule_211 ?_
                refine lv_topi (fun f_147 ef_147 => ?_)
                obtain rfl : f_147 = (nI (v25 + 1)) := ef_147.trans (nI_add v25 1)
                refine pg_putN (D := D) (ci := 12) (v := .int (nI (v25 + 1))) (ty := .int) (C := RX12) (T := TX12) (N := 51) hx hb hg inG12 tyX12 tyX12_ok nmX12 hown hK hP hD hS hb_13.1 hM_145 rfl 11 (by decide) (hN.use (Cond.fieldLinkNest RX13 142 RX12 "rules" "I" RX13) 20 rfl rfl) (fun _ h9 => h9) rfl (by decide +kernel) rfl rfl (by rw [hn14]; decide) dX13_rule_212 (fun H_148 locs hP hD hS => ?_)
                have hs_151 : (fs14.set 11 (.int (nI (v25 + 1))))[11]? = some (.int (nI (v25 + 1))) := List.getElem?_set_self (by rw [hn14]; decide)
                have hk_150 := fld12_set (k := 11) (w := .int (nI (v25 + 1))) hl14 (show fld12 K L 11 (fs14.set 11 (.int (nI (v25 + 1)))) from ⟨(v25 + 1), hs_151, by omega⟩)
                have hn_152 : (fs14.set 11 (.int (nI (v25 + 1)))).length = 51 := by rw [List.length_set]; exact hn14
                have hv_153 : (fs14.set 11 (.int (nI (v25 + 1))))[0]? = some (.int (nI v24)) := by rw [List.getElem?_set_ne (by decide)]; exact hv24
                have hv_154 : (fs14.set 11 (.int (nI (v25 + 1))))[35]? = some (.ref v131) := by rw [List.getElem?_set_ne (by decide)]; exact hv131
                have hv_155 : (fs14.set 11 (.int (nI (v25 + 1))))[34]? = some (.ref v139) := by rw [List.getElem?_set_ne (by decide)]; exact hv139
                have hb_156 : (v25 + 1) ≤ 16 := by omega
                obtain ⟨M_157, eM_157⟩ : ∃ M1 : Hp, M1 = va_up M_142 b11 (.inr (12, fs14.set 11 (.int (nI (v25 + 1))))) := ⟨_, rfl⟩
                have hx11 : (fx M b11 11) = ((v25 : Nat) : Int) := (congrFun hV.2.1 11).symm.trans ((fx_of hM_145 rfl hv25).trans (nI_toInt (by omega)))
                have hV : VW K L M M_157 b11 (va_up (fx M b11) 11 (((v25 + 1) : Nat) : Int)) (va_up (va_up (va_up (ax M b11) 36 gw122) 35 (upd (ax M b11 35) ((nI v25) : Int32).toNatClampNeg 0)) 34 (upd (ax M b11 34) ((nI v25) : Int32).toNatClampNeg (nI j_22))) := by rw [eM_157]; exact hV.put hW hb_13 hM_145 hn14 rfl (by decide) rfl (nI_toInt (by omega))
                have hP : va_P D vwCl ([(za, .inr (13, [.int 0, .ref z1, .int (nI z2), .int (nI z3), .int z4, .int z5, .ref z6, .ref z7, .ref z8, .ref z9, .int (nI z10), .ref z11, .ref z12, .ref z13, .ref z14, .ref z15, .int (nI z16), .ref z17, .int z18, .ref z19]))] ++ va_pl L M_157) H_148 := by rw [eM_157]; exact hP
                have hD : va_D A ([(za, .inr (13, [.int 0, .ref z1, .int (nI z2), .int (nI z3), .int z4, .int z5, .ref z6, .ref z7, .ref z8, .ref z9, .int (nI z10), .ref z11, .ref z12, .ref z13, .ref z14, .ref z15, .int (nI z16), .ref z17, .int z18, .ref z19]))] ++ va_pl L M_157) := by rw [eM_157]; exact hD
                have hW : WOM cy K L M_157 := by rw [eM_157]; exact hW.up_12 hb_13 ⟨_, rfl, hn_152, hk_150⟩
                have hF : fr K L [12, 14, 43, 77, 78] M M_157 := by rw [eM_157]; exact hF.up hb_13 (by decide)
                have hG : fG K L [11] M M_157 := by rw [eM_157]; exact hG.up hM_145 (by decide)
                have hM_158 : M_157 b11 = .inr (12, fs14.set 11 (.int (nI (v25 + 1)))) := by rw [eM_157]; exact va_up_self _ _ _
                have hM_159 : M_157 v139 = .inl (cy 14, 16, .inl (f_146)) := by rw [eM_157, va_up_ne _ _ (hc139.neT hb_13 (by decide))]; exact hM_143
                have hM_160 : M_157 v131 = .inl (cy 14, 16, .inl (f_138)) := by rw [eM_157, va_up_ne _ _ (hc131.neT hb_13 (by decide))]; exact hM_144
                refine lv_aload_n hx hb dX13_rule_215 rfl (lv_at hl 4 rfl) ?_
                refine lv_aload_n hx hb dX13_rule_216 rfl (lv_at hl 3 rfl) ?_
                refine pg_getN (D := D) (ci := 12) (v := .int (nI (v25 + 1))) (C := RX12) (T := TX12) (N := 51) hx hb hg inG12 hown hK hP hb_13.1 hM_158 rfl 11 (by decide) (hN.use (Cond.fieldLinkNest RX13 142 RX12 "rules" "I" RX13) 20 rfl rfl) (fun _ h9 => h9) hs_151 dX13_rule_217 ?_
                have hPc := hP.sub (ws' := [(za, .inr (13, [.int 0, .ref z1, .int (nI z2), .int (nI z3), .int z4, .int z5, .ref z6, .ref z7, .ref z8, .ref z9, .int (nI z10), .ref z11, .ref z12, .ref z13, .ref z14, .ref z15, .int (nI z16), .ref z17, .int z18, .ref z19]))]) [0] rfl
                have hDc := hD.sub (ws' := [(za, .inr (13, [.int 0, .ref z1, .int (nI z2), .int (nI z3), .int z4, .int z5, .ref z6, .ref z7, .ref z8, .ref z9, .int (nI z10), .ref z11, .ref z12, .ref z13, .ref z14, .ref z15, .int (nI z16), .ref z17, .int z18, .ref z19]))]) [0] (by decide) rfl
                have hKc := hK.sub (tys' := []) [] rfl
                have hFc := va_free (wc := [(za, .inr (13, [.int 0, .ref z1, .int (nI z2), .int (nI z3), .int z4, .int z5, .ref z6, .ref z7, .ref z8, .ref z9, .int (nI z10), .ref z11, .ref z12, .ref z13, .ref z14, .ref z15, .int (nI z16), .ref z17, .int z18, .ref z19]))]) hD hS hA [0] rfl
                refine va_calli (va_runV (As := [.int (nI (v25 + 1))]) (rest := []) ⟨hx, hb, hml, hown, hg⟩ (m_done l D H_148.size za 0 z1 (nI z2) (nI z3) z4 z5 z6 z7 z8 z9 (nI z10) z11 z12 z13 z14 z15 (nI z16) z17 z18 z19 (nI (v25 + 1))) (cwV 1 hg (gV wd_730 wd_731 wd_732 wd_717 wd_733) rfl rfl rfl (by decide +kernel) ⟨(Nat.le_trans (Nat.le_of_ble_eq_true rfl) hRf), (Nat.le_trans (Nat.le_of_ble_eq_true rfl) hRl)⟩) ⟨Pr.blind, va_recv hK hP (ci := 13) (q0 := 0) rfl rfl, fun U hU hW => ⟨rfl, Pr.at hPc hKc hDc hN hU hW⟩⟩ rfl rfl hl.1 rfl (lv_room (Nat.le_of_ble_eq_true rfl)) dX13_rule_220 ⟨(Nat.le_trans (Nat.le_of_ble_eq_true rfl) hRc), (Nat.le_trans (Nat.le_of_ble_eq_true rfl) hRs)⟩) hS (fun q _ h => hFc q h) hFc (fun r_162 M_163 t H_161 locs ht hvm hw hB hz1 hk1 hS => ?_)
                have hp_164 := hw
                obtain ⟨hP1, hK1, hD1⟩ := hB
                rw [ht] at hP1
                obtain ⟨hP, hD⟩ := va_joinQ (X := [(za, .inr (13, [.int 0, .ref z1, .int (nI z2), .int (nI z3), .int z4, .int z5, .ref z6, .ref z7, .ref z8, .ref z9, .int (nI z10), .ref z11, .ref z12, .ref z13, .ref z14, .ref z15, .int (nI z16), .ref z17, .int z18, .ref z19]))]) (cx := [(za, .inr (13, [.int 0, .ref z1, .int (nI z2), .int (nI z3), .int z4, .int z5, .ref z6, .ref z7, .ref z8, .ref z9, .int (nI z10), .ref z11, .ref z12, .ref z13, .ref z14, .ref z15, .int (nI z16), .ref z17, .int z18, .ref z19]))]) (wr := []) (w1 := [(za, .inr (13, [.int 0, .ref z1, .int (nI z2), .int (nI z3), .int 0, .int (-1), .ref z6, .ref z7, .ref z8, .ref z9, .int (nI z10), .ref z11, .ref z12, .ref z13, .ref z14, .ref z15, .int (nI z16), .ref z17, .int z18, .ref z19]))]) (pl := va_pl L M_157) hP hD [0] [] rfl rfl (by decide) (by decide) hk1 hFc hP1 hD1
                have hP : va_P D vwCl ([(za, .inr (13, [.int 0, .ref z1, .int (nI z2), .int (nI z3), .int 0, .int (-1), .ref z6, .ref z7, .ref z8, .ref z9, .int (nI z10), .ref z11, .ref z12, .ref z13, .ref z14, .ref z15, .int (nI z16), .ref z17, .int z18, .ref z19]))] ++ va_pl L M_157) H_161 := hP
                have hD : va_D A ([(za, .inr (13, [.int 0, .ref z1, .int (nI z2), .int (nI z3), .int 0, .int (-1), .ref z6, .ref z7, .ref z8, .ref z9, .int (nI z10), .ref z11, .ref z12, .ref z13, .ref z14, .ref z15, .int (nI z16), .ref z17, .int z18, .ref z19]))] ++ va_pl L M_157) := hD
                have hq := Eq.symm hp_164
                subst hq
                have hA9 : HA (ax M b11 2) (ax M b11 3) := hAT.1
                have hB9 : HB (fx M b11 16) (fx M b11 14) (ax M b11 3) (ax M b11 43) := hAT.2.1
                have hC9 : HC (fx M b11 10) (ax M b11 22) (ax M b11 23) := hAT.2.2.1
                have hD9 : HD (fx M b11 0) (((v25 + 1) : Nat) : Int) (fx M b11 15) (upd (ax M b11 34) ((nI v25) : Int32).toNatClampNeg (nI j_22)) (ax M b11 41) := HD.rule hAT.2.2.2.1 hx11 (by omega) (nI_cl (by omega)) (fun h0 => by first | (exfalso; omega) | (rw [nI_toInt (by omega), hx0]; omega))
                have hE9 : HE (fx M b11 0) (fx M b11 1) (fx M b11 12) (fx M b11 13) (ax M b11 37) := hAT.2.2.2.2
                have hH9 : HI (va_up (fx M b11) 11 (((v25 + 1) : Nat) : Int)) (va_up (va_up (va_up (ax M b11) 36 gw122) 35 (upd (ax M b11 35) ((nI v25) : Int32).toNatClampNeg 0)) 34 (upd (ax M b11 34) ((nI v25) : Int32).toNatClampNeg (nI j_22))) := ⟨hA9, hB9, hC9, hD9, hE9⟩
                have hGI9 : GI K L z1 z2 M_157 := GI.fin hW0 i1 b2 hGI hact hV (hF.at i1 (by decide)) hH9
                rw [hQ]
                exact W.iret (v := (nI (v25 + 1))) hx hb hr (fun t ht hW9 => ⟨⟨(nI (v25 + 1)), M_157, rfl, ⟨hW, hF, hG, hGI9, trivial⟩, ⟨0, (-1), by rw [ht]; exact hP, hD⟩⟩, hS.F ht⟩) hS.2.2 dX13_rule_223
              · have hz := rfl (a := 0)
                have n_165 : ¬ (24 ≤ v6w122) := fun q => c_129 ((iLE (a := 24) (b := v6w122) (by omega) (by omega)).mpr q)
                refine lv_aload_n hx hb dX13_rule_115 rfl (lv_at hl 3 rfl) ?_
                obtain ⟨v166, hv166, hc166⟩ : ∃ v : Nat, fs14[36]? = some (.ref v : Value) ∧ isk K L v 78 384 := hl14 36 (by decide)
                refine pg_getN (D := D) (ci := 12) (v := .ref v166) (C := RX12) (T := TX12) (N := 51) hx hb hg inG12 hown hK hP hb_13.1 hM_128 rfl 36 (by decide) (hN.use (Cond.fieldLinkNest RX13 148 RX12 "term" "[I" RX13) 45 rfl rfl) (fun _ h9 => h9) hv166 dX13_rule_116 ?_
                refine lv_iload hx hb dX13_rule_119 (lv_at hl 1 rfl) ?_
                refine lv_aload_n hx hb dX13_rule_121 rfl (lv_at hl 3 rfl) ?_
                refine pg_getN (D := D) (ci := 12) (v := .int (nI v25)) (C := RX12) (T := TX12) (N := 51) hx hb hg inG12 hown hK hP hb_13.1 hM_128 rfl 11 (by decide) (hN.use (Cond.fieldLinkNest RX13 142 RX12 "rules" "I" RX13) 20 rfl rfl) (fun _ h9 => h9) hv25 dX13_rule_122 ?_
                refine lv_imul hx hb dX13_rule_125 ?_
                refine lv_topi (fun f_167 ef_167 => ?_)
                obtain rfl : f_167 = (nI (24 * v25)) := ef_167.trans (nI_mul 24 v25)
                refine lv_iload hx hb dX13_rule_126 (lv_at hl 0 rfl) ?_
                refine lv_iadd hx hb dX13_rule_128 ?_
                refine lv_topi (fun f_168 ef_168 => ?_)
                obtain rfl : f_168 = (nI ((24 * v25) + v6w122)) := ef_168.trans (nI_add (24 * v25) v6w122)
                refine lv_aload_n hx hb dX13_rule_129 rfl (lv_at hl 3 rfl) ?_
                refine pg_getN (D := D) (ci := 12) (v := .int (nI v25)) (C := RX12) (T := TX12) (N := 51) hx hb hg inG12 hown hK hP hb_13.1 hM_128 rfl 11 (by decide) (hN.use (Cond.fieldLinkNest RX13 142 RX12 "rules" "I" RX13) 20 rfl rfl) (fun _ h9 => h9) hv25 dX13_rule_130 ?_
                refine lv_if_ne (tgt := 140) hx hb dX13_rule_133 (by decide) (fun c_169 => absurd c_26 c_169) (fun c_169 => ?_)
                refine lv_iconst (v := 0) hx hb dX13_rule_136 (by decide) ?_
                refine lv_goto (tgt := 157) hx hb dX13_rule_137 (by decide) ?_
                have hrv : (0 : Int32) = trm (ax M b11 36) v25 v6w122 := by unfold trm; rw [if_pos (by omega)]
                obtain ⟨f170, hM170⟩ := hW.open_78 hc166
                refine pg_iast hx hb hK hP hD hS hc166.1 0 hM170 rfl (inbN ((24 * v25) + v6w122) 384 (by omega) (by omega)) dX13_rule_157 (fun H_171 locs hP hD hS => ?_)
                obtain ⟨M_172, eM_172⟩ : ∃ M1 : Hp, M1 = va_up M_126 v166 (.inl (cy 14, 384, .inl (upd f170 ((nI ((24 * v25) + v6w122)) : Int32).toNatClampNeg 0))) := ⟨_, rfl⟩
                have hy36 : gw122 = f170 := (congrFun hV.2.2.1 36).symm.trans (ax_of hM_128 (by decide) hv166 hM170)
                have hV : VW K L M M_172 b11 (fx M b11) (va_up (va_up (ax M b11) 36 gw122) 36 (upd gw122 ((nI ((24 * v25) + v6w122)) : Int32).toNatClampNeg 0)) := by rw [eM_172]; exact hV.ast (j := 36) hW hb_13 hM_128 (by decide) hv166 hc166 hM170
                have hP : va_P D vwCl ([(za, .inr (13, [.int 0, .ref z1, .int (nI z2), .int (nI z3), .int z4, .int z5, .ref z6, .ref z7, .ref z8, .ref z9, .int (nI z10), .ref z11, .ref z12, .ref z13, .ref z14, .ref z15, .int (nI z16), .ref z17, .int z18, .ref z19]))] ++ va_pl L M_172) H_171 := by rw [eM_172]; exact hP
                have hD : va_D A ([(za, .inr (13, [.int 0, .ref z1, .int (nI z2), .int (nI z3), .int z4, .int z5, .ref z6, .ref z7, .ref z8, .ref z9, .int (nI z10), .ref z11, .ref z12, .ref z13, .ref z14, .ref z15, .int (nI z16), .ref z17, .int z18, .ref z19]))] ++ va_pl L M_172) := by rw [eM_172]; exact hD
                have hW : WOM cy K L M_172 := by rw [eM_172]; exact hW.up_78 hc166 ⟨_, rfl⟩
                have hF : fr K L [12, 14, 43, 77, 78] M M_172 := by rw [eM_172]; exact hF.up hc166 (by decide)
                have hG : fG K L [11] M M_172 := by rw [eM_172]; exact hG.arr hc166 (by decide)
                have hM_173 : M_172 v166 = .inl (cy 14, 384, .inl (upd f170 ((nI ((24 * v25) + v6w122)) : Int32).toNatClampNeg 0)) := by rw [eM_172]; exact va_up_self _ _ _
                have hM_174 : M_172 b11 = .inr (12, fs14) := by rw [eM_172, va_up_ne _ _ (hb_13.neT hc166 (by decide))]; exact hM_128
                obtain ⟨f_175, ef_175⟩ : ∃ f : Nat → Int32, f = upd f170 ((nI ((24 * v25) + v6w122)) : Int32).toNatClampNeg 0 := ⟨_, rfl⟩
                rw [← ef_175] at hM_173
                refine lv_iinc (v := (nI (v6w122 + 1))) (lv' := [(6, .int (nI (v6w122 + 1))), (5, .int 24), (4, .int 1), (3, .ref b11), (0, .ref za), (1, .int k1), (2, .int (nI j_22))]) hx hb dX13_rule_158 hl (k := 0) rfl (nI_1 v6w122) (by decide) rfl (fun ls hl => ?_)
                refine lv_goto (tgt := 108) hx hb dX13_rule_161 (by decide) ?_
                exact ih_120 (v6w122 + 1) (upd gw122 ((nI ((24 * v25) + v6w122)) : Int32).toNatClampNeg 0) M_172 H_171 _ _ (by omega) hM_174 (by omega) (trm1 hx_124 (nI_cl (by omega))) (trm2 hx_125 (nI_cl (by omega)) hrv) hW hF hG (by have h := hV; simp only [va_up_up] at h; exact h) hP hD hS (lv_sub hl [0, 1, 2, 3, 4, 5, 6] rfl)
          exact key_119 (24 - 0 + 1) 0 (ax M b11 36) M H_15 _ _ (by omega) hM14 (by omega) (fun _ _ => rfl) (fun i h => absurd h (Nat.not_lt_zero _)) hW hF hG (by rw [va_up_id]; exact hV) hP hD hS (lv_sub hl [0, 1, 2, 3, 4, 5, 6] rfl)
    · have hz := rfl (a := 0)
      refine lv_if_eq (tgt := 71) hx hb dX13_rule_31 (by decide) (fun _ => ?_) (fun c_176 => absurd c_176 (by decide))
      refine lv_iconst (v := 0) hx hb dX13_rule_71 (by decide) ?_
      refine lv_istore (lv' := [(4, .int 0), (3, .ref b11), (0, .ref za), (1, .int k1), (2, .int k2)]) hx hb dX13_rule_72 hl (by decide) rfl (fun ls hl => ?_)
      refine lv_iload hx hb dX13_rule_74 (lv_at hl 0 rfl) ?_
      refine lv_if_ne (tgt := 85) hx hb dX13_rule_76 (by decide) (fun c_177 => absurd c_177 (by decide)) (fun _ => ?_)
      refine lv_aload_n hx hb dX13_rule_79 rfl (lv_at hl 2 rfl) ?_
      refine lv_iconst (v := 3) hx hb dX13_rule_80 (by decide) ?_
      have hPc := hP.sub (ws' := [(za, .inr (13, [.int 0, .ref z1, .int (nI z2), .int (nI z3), .int z4, .int z5, .ref z6, .ref z7, .ref z8, .ref z9, .int (nI z10), .ref z11, .ref z12, .ref z13, .ref z14, .ref z15, .int (nI z16), .ref z17, .int z18, .ref z19]))]) [0] rfl
      have hDc := hD.sub (ws' := [(za, .inr (13, [.int 0, .ref z1, .int (nI z2), .int (nI z3), .int z4, .int z5, .ref z6, .ref z7, .ref z8, .ref z9, .int (nI z10), .ref z11, .ref z12, .ref z13, .ref z14, .ref z15, .int (nI z16), .ref z17, .int z18, .ref z19]))]) [0] (by decide) rfl
      have hKc := hK.sub (tys' := []) [] rfl
      have hFc := va_free (wc := [(za, .inr (13, [.int 0, .ref z1, .int (nI z2), .int (nI z3), .int z4, .int z5, .ref z6, .ref z7, .ref z8, .ref z9, .int (nI z10), .ref z11, .ref z12, .ref z13, .ref z14, .ref z15, .int (nI z16), .ref z17, .int z18, .ref z19]))]) hD hS hA [0] rfl
      refine va_calli (va_runV (As := [.int 3]) (rest := []) ⟨hx, hb, hml, hown, hg⟩ (m_refused l D H_15.size za 0 z1 (nI z2) (nI z3) z4 z5 z6 z7 z8 z9 (nI z10) z11 z12 z13 z14 z15 (nI z16) z17 z18 z19 3) (cwV 1 hg (gV wd_725 wd_726 wd_727 wd_717 wd_728) rfl rfl rfl (by decide +kernel) ⟨(Nat.le_trans (Nat.le_of_ble_eq_true rfl) hRf), (Nat.le_trans (Nat.le_of_ble_eq_true rfl) hRl)⟩) ⟨Pr.blind, va_recv hK hP (ci := 13) (q0 := 0) rfl rfl, fun U hU hW => ⟨rfl, Pr.at hPc hKc hDc hN hU hW⟩⟩ rfl rfl hl.1 rfl (lv_room (Nat.le_of_ble_eq_true rfl)) dX13_rule_81 ⟨(Nat.le_trans (Nat.le_of_ble_eq_true rfl) hRc), (Nat.le_trans (Nat.le_of_ble_eq_true rfl) hRs)⟩) hS (fun q _ h => hFc q h) hFc (fun r_179 M_180 t H_178 locs ht hvm hw hB hz1 hk1 hS => ?_)
      have hp_181 := hw
      obtain ⟨hP1, hK1, hD1⟩ := hB
      rw [ht] at hP1
      obtain ⟨hP, hD⟩ := va_joinQ (X := [(za, .inr (13, [.int 0, .ref z1, .int (nI z2), .int (nI z3), .int z4, .int z5, .ref z6, .ref z7, .ref z8, .ref z9, .int (nI z10), .ref z11, .ref z12, .ref z13, .ref z14, .ref z15, .int (nI z16), .ref z17, .int z18, .ref z19]))]) (cx := [(za, .inr (13, [.int 0, .ref z1, .int (nI z2), .int (nI z3), .int z4, .int z5, .ref z6, .ref z7, .ref z8, .ref z9, .int (nI z10), .ref z11, .ref z12, .ref z13, .ref z14, .ref z15, .int (nI z16), .ref z17, .int z18, .ref z19]))]) (wr := []) (w1 := [(za, .inr (13, [.int 0, .ref z1, .int (nI z2), .int (nI z3), .int 3, .int (-1), .ref z6, .ref z7, .ref z8, .ref z9, .int (nI z10), .ref z11, .ref z12, .ref z13, .ref z14, .ref z15, .int (nI z16), .ref z17, .int z18, .ref z19]))]) (pl := va_pl L M) hP hD [0] [] rfl rfl (by decide) (by decide) hk1 hFc hP1 hD1
      have hP : va_P D vwCl ([(za, .inr (13, [.int 0, .ref z1, .int (nI z2), .int (nI z3), .int 3, .int (-1), .ref z6, .ref z7, .ref z8, .ref z9, .int (nI z10), .ref z11, .ref z12, .ref z13, .ref z14, .ref z15, .int (nI z16), .ref z17, .int z18, .ref z19]))] ++ va_pl L M) H_178 := hP
      have hD : va_D A ([(za, .inr (13, [.int 0, .ref z1, .int (nI z2), .int (nI z3), .int 3, .int (-1), .ref z6, .ref z7, .ref z8, .ref z9, .int (nI z10), .ref z11, .ref z12, .ref z13, .ref z14, .ref z15, .int (nI z16), .ref z17, .int z18, .ref z19]))] ++ va_pl L M) := hD
      have hq := Eq.symm hp_181
      subst hq
      rw [hQ]
      exact W.iret (v := (-1)) hx hb hr (fun t ht hW9 => ⟨⟨(-1), M, rfl, ⟨hW, hF, hG, hGI, trivial⟩, ⟨3, (-1), by rw [ht]; exact hP, hD⟩⟩, hS.F ht⟩) hS.2.2 dX13_rule_84
  · have hz := rfl (a := 0)
    refine lv_if_ne (tgt := 19) hx hb dX13_rule_10 (by decide) (fun c_182 => absurd c_182 (by decide)) (fun _ => ?_)
    refine lv_aload_n hx hb dX13_rule_13 rfl (lv_at hl 0 rfl) ?_
    refine lv_iconst (v := 1) hx hb dX13_rule_14 (by decide) ?_
    have hPc := hP.sub (ws' := [(za, .inr (13, [.int 0, .ref z1, .int (nI z2), .int (nI z3), .int z4, .int z5, .ref z6, .ref z7, .ref z8, .ref z9, .int (nI z10), .ref z11, .ref z12, .ref z13, .ref z14, .ref z15, .int (nI z16), .ref z17, .int z18, .ref z19]))]) [0] rfl
    have hDc := hD.sub (ws' := [(za, .inr (13, [.int 0, .ref z1, .int (nI z2), .int (nI z3), .int z4, .int z5, .ref z6, .ref z7, .ref z8, .ref z9, .int (nI z10), .ref z11, .ref z12, .ref z13, .ref z14, .ref z15, .int (nI z16), .ref z17, .int z18, .ref z19]))]) [0] (by decide) rfl
    have hKc := hK.sub (tys' := []) [] rfl
    have hFc := va_free (wc := [(za, .inr (13, [.int 0, .ref z1, .int (nI z2), .int (nI z3), .int z4, .int z5, .ref z6, .ref z7, .ref z8, .ref z9, .int (nI z10), .ref z11, .ref z12, .ref z13, .ref z14, .ref z15, .int (nI z16), .ref z17, .int z18, .ref z19]))]) hD hS hA [0] rfl
    refine va_calli (va_runV (As := [.int 1]) (rest := []) ⟨hx, hb, hml, hown, hg⟩ (m_refused l D H_2.size za 0 z1 (nI z2) (nI z3) z4 z5 z6 z7 z8 z9 (nI z10) z11 z12 z13 z14 z15 (nI z16) z17 z18 z19 1) (cwV 1 hg (gV wd_725 wd_726 wd_727 wd_717 wd_728) rfl rfl rfl (by decide +kernel) ⟨(Nat.le_trans (Nat.le_of_ble_eq_true rfl) hRf), (Nat.le_trans (Nat.le_of_ble_eq_true rfl) hRl)⟩) ⟨Pr.blind, va_recv hK hP (ci := 13) (q0 := 0) rfl rfl, fun U hU hW => ⟨rfl, Pr.at hPc hKc hDc hN hU hW⟩⟩ rfl rfl hl.1 rfl (lv_room (Nat.le_of_ble_eq_true rfl)) dX13_rule_15 ⟨(Nat.le_trans (Nat.le_of_ble_eq_true rfl) hRc), (Nat.le_trans (Nat.le_of_ble_eq_true rfl) hRs)⟩) hS (fun q _ h => hFc q h) hFc (fun r_184 M_185 t H_183 locs ht hvm hw hB hz1 hk1 hS => ?_)
    have hp_186 := hw
    obtain ⟨hP1, hK1, hD1⟩ := hB
    rw [ht] at hP1
    obtain ⟨hP, hD⟩ := va_joinQ (X := [(za, .inr (13, [.int 0, .ref z1, .int (nI z2), .int (nI z3), .int z4, .int z5, .ref z6, .ref z7, .ref z8, .ref z9, .int (nI z10), .ref z11, .ref z12, .ref z13, .ref z14, .ref z15, .int (nI z16), .ref z17, .int z18, .ref z19]))]) (cx := [(za, .inr (13, [.int 0, .ref z1, .int (nI z2), .int (nI z3), .int z4, .int z5, .ref z6, .ref z7, .ref z8, .ref z9, .int (nI z10), .ref z11, .ref z12, .ref z13, .ref z14, .ref z15, .int (nI z16), .ref z17, .int z18, .ref z19]))]) (wr := []) (w1 := [(za, .inr (13, [.int 0, .ref z1, .int (nI z2), .int (nI z3), .int 1, .int (-1), .ref z6, .ref z7, .ref z8, .ref z9, .int (nI z10), .ref z11, .ref z12, .ref z13, .ref z14, .ref z15, .int (nI z16), .ref z17, .int z18, .ref z19]))]) (pl := va_pl L M) hP hD [0] [] rfl rfl (by decide) (by decide) hk1 hFc hP1 hD1
    have hP : va_P D vwCl ([(za, .inr (13, [.int 0, .ref z1, .int (nI z2), .int (nI z3), .int 1, .int (-1), .ref z6, .ref z7, .ref z8, .ref z9, .int (nI z10), .ref z11, .ref z12, .ref z13, .ref z14, .ref z15, .int (nI z16), .ref z17, .int z18, .ref z19]))] ++ va_pl L M) H_183 := hP
    have hD : va_D A ([(za, .inr (13, [.int 0, .ref z1, .int (nI z2), .int (nI z3), .int 1, .int (-1), .ref z6, .ref z7, .ref z8, .ref z9, .int (nI z10), .ref z11, .ref z12, .ref z13, .ref z14, .ref z15, .int (nI z16), .ref z17, .int z18, .ref z19]))] ++ va_pl L M) := hD
    have hq := Eq.symm hp_186
    subst hq
    rw [hQ]
    exact W.iret (v := (-1)) hx hb hr (fun t ht hW9 => ⟨⟨(-1), M, rfl, ⟨hW, hF, hG, hGI, trivial⟩, ⟨1, (-1), by rw [ht]; exact hP, hD⟩⟩, hS.F ht⟩) hS.2.2 dX13_rule_18
set_option maxHeartbeats 4000000 in
set_option maxRecDepth 100000 in
theorem g_X13_end (l : Launch) (D : va_G) (cy : Nat → ClassId) (K : Kp) (L : List Nat) (M : Hp) (sz : Nat) (za : Nat) (z0 : Int32) (z1 : Nat) (z2 : Nat) (z3 : Nat) (z4 : Int32) (z5 : Int32) (z6 : Nat) (z7 : Nat) (z8 : Nat) (z9 : Nat) (z10 : Nat) (z11 : Nat) (z12 : Nat) (z13 : Nat) (z14 : Nat) (z15 : Nat) (z16 : Nat) (z17 : Nat) (z18 : Int32) (z19 : Nat) (k1 : Int32) (k2 : Int32) (hW : WOM cy K L M) (i1 : isk K L z1 23 8) (b2 : z2 ≤ 8) (b3 : z3 ≤ 40) (i6 : isk K L z6 47 40) (i7 : isk K L z7 48 40) (i8 : isk K L z8 49 8) (i9 : isk K L z9 50 8) (b10 : z10 ≤ 8) (i11 : isk K L z11 32 24) (i12 : isk K L z12 14 24) (i13 : isk K L z13 15 24) (i14 : isk K L z14 15 24) (i15 : isk K L z15 15 24) (b16 : z16 ≤ 24) (i17 : isk K L z17 14 24) (i19 : isk K L z19 15 25) (hGI : GI K L z1 z2 M) : Met l yX13_end (wsM yX13_end cX13_end 5 (some .int)) ({ frames := 1, cells := 0, slots := 0, locals := 21 }) (va_Pc [.ref za, .int k1, .int k2] (PG D cy [(za, .inr (13, [.int z0, .ref z1, .int (nI z2), .int (nI z3), .int z4, .int z5, .ref z6, .ref z7, .ref z8, .ref z9, .int (nI z10), .ref z11, .ref z12, .ref z13, .ref z14, .ref z15, .int (nI z16), .ref z17, .int z18, .ref z19]))] L M sz)) (va_Qi (fun (r : Int32) (M9 : Hp) => WOM cy K L M9 ∧ fr K L [12, 38] M M9 ∧ fG K L [12] M M9 ∧ (GI K L z1 z2 M9) ∧ (True)) (fun M9 t => ∃ (w4 : Int32) (w5 : Int32), PQ D [(za, .inr (13, [.int 0, .ref z1, .int (nI z2), .int (nI z3), .int w4, .int w5, .ref z6, .ref z7, .ref z8, .ref z9, .int (nI z10), .ref z11, .ref z12, .ref z13, .ref z14, .ref z15, .int (nI z16), .ref z17, .int z18, .ref z19]))] L M9 (va_A ([(za, .inr (13, [.int z0, .ref z1, .int (nI z2), .int (nI z3), .int z4, .int z5, .ref z6, .ref z7, .ref z8, .ref z9, .int (nI z10), .ref z11, .ref z12, .ref z13, .ref z14, .ref z15, .int (nI z16), .ref z17, .int z18, .ref z19]))] ++ va_pl L M) sz) t) (va_A ([(za, .inr (13, [.int z0, .ref z1, .int (nI z2), .int (nI z3), .int z4, .int z5, .ref z6, .ref z7, .ref z8, .ref z9, .int (nI z10), .ref z11, .ref z12, .ref z13, .ref z14, .ref z15, .int (nI z16), .ref z17, .int z18, .ref z19]))] ++ va_pl L M) sz)) 0 0 (va_A ([(za, .inr (13, [.int z0, .ref z1, .int (nI z2), .int (nI z3), .int z4, .int z5, .ref z6, .ref z7, .ref z8, .ref z9, .int (nI z10), .ref z11, .ref z12, .ref z13, .ref z14, .ref z15, .int (nI z16), .ref z17, .int z18, .ref z19]))] ++ va_pl L M) sz) := by
  refine Met.ofW (cc := cX13_end) (maxL := 5) (ret := (some .int)) (by decide) rfl ?_
  intro p e s m args below meth c s₁ B hml hv
  obtain ⟨rfl, hsz, hP, hK, hD0, hN⟩ := hv
  have hx := B.exec
  have hb := B.bytes
  have hr := B.returns
  have hts := atoms_spec (ws := (wsM yX13_end cX13_end 5 (some .int))) B.pre
  have hg : ∀ w ∈ lw_good, w.before _ s = true := fun w h => hts w (List.mem_cons_of_mem _ h)
  have hown : s.vm.findClass RX13 = some m.cls := findClass_of_methodNamed B.named
  have hlocks := B.notSynchronized
  subst hsz
  have hD := hD0.self (sz := s.heap.size)
  generalize hAe : va_A ([(za, .inr (13, [.int z0, .ref z1, .int (nI z2), .int (nI z3), .int z4, .int z5, .ref z6, .ref z7, .ref z8, .ref z9, .int (nI z10), .ref z11, .ref z12, .ref z13, .ref z14, .ref z15, .int (nI z16), .ref z17, .int z18, .ref z19]))] ++ va_pl L M) s.heap.size = A at hD ⊢
  have hA : ∀ q : Nat, s.heap.size ≤ q → A q := fun q h => by rw [← hAe]; exact Or.inr h
  have hS : va_S A s.heap s.heap [] := va_S.rf
  have hl := lv_entry ([.ref za, .int k1, .int k2]) (n := 5) (Nat.le_of_ble_eq_true rfl)
  rw [lg_entry_eq]
  generalize (lg_sl ([.ref za, .int k1, .int k2]) ++ List.replicate (5 - (lg_sl ([.ref za, .int k1, .int k2])).length) Slot.unset).toArray = ls at hl ⊢
  refine W.nameQ (fun Q hQ => ?_)
  refine W.nameR (fun R hR => ?_)
  have hRf : 1 ≤ R.frames := by rw [hR]; exact Nat.le_of_ble_eq_true rfl
  have hRl : 21 ≤ R.locals := by rw [hR]; exact Nat.le_of_ble_eq_true rfl
  have hRc : 0 ≤ R.cells := by rw [hR]; exact Nat.le_of_ble_eq_true rfl
  have hRs : 0 ≤ R.slots := by rw [hR]; exact Nat.le_of_ble_eq_true rfl
  have hF : fr K L [12, 38] M M := fr.rf
  have hG : fG K L [12] M M := fG.rf
  have hl : lv_has ls 5 [(0, .ref za), (1, .int k1), (2, .int k2)] := hl
  have hW0 := hW
  refine lv_aload_n hx hb dX13_end_0 rfl (lv_at hl 0 rfl) ?_
  refine lv_iconst (v := 0) hx hb dX13_end_1 (by decide) ?_
  refine va_put (D := D) (ci := 13) (v := .int 0) (ty := .int) (C := RX13) (T := TX13) (N := 20) hx hb hg inG13 tyX13 tyX13_ok nmX13 hown hK hP hD hS 0 rfl rfl 0 (by decide) (hg _ wd_720) (fun _ h9 => h9) rfl (by decide +kernel) rfl rfl (Nat.le_of_ble_eq_true rfl) dX13_end_2 (fun H_1 locs hP hD hS => ?_)
  have hP : va_P D vwCl ([(za, .inr (13, [.int 0, .ref z1, .int (nI z2), .int (nI z3), .int z4, .int z5, .ref z6, .ref z7, .ref z8, .ref z9, .int (nI z10), .ref z11, .ref z12, .ref z13, .ref z14, .ref z15, .int (nI z16), .ref z17, .int z18, .ref z19]))] ++ va_pl L M) H_1 := hP
  have hD : va_D A ([(za, .inr (13, [.int 0, .ref z1, .int (nI z2), .int (nI z3), .int z4, .int z5, .ref z6, .ref z7, .ref z8, .ref z9, .int (nI z10), .ref z11, .ref z12, .ref z13, .ref z14, .ref z15, .int (nI z16), .ref z17, .int z18, .ref z19]))] ++ va_pl L M) := hD
  refine lv_aload_n hx hb dX13_end_5 rfl (lv_at hl 0 rfl) ?_
  refine lv_iload_n hx hb dX13_end_6 rfl (lv_at hl 1 rfl) ?_
  have hPc : va_P D vwCl ([(za, .inr (13, [.int 0, .ref z1, .int (nI z2), .int (nI z3), .int z4, .int z5, .ref z6, .ref z7, .ref z8, .ref z9, .int (nI z10), .ref z11, .ref z12, .ref z13, .ref z14, .ref z15, .int (nI z16), .ref z17, .int z18, .ref z19]))] ++ va_pl L M) H_1 := hP
  have hDc : va_D A ([(za, .inr (13, [.int 0, .ref z1, .int (nI z2), .int (nI z3), .int z4, .int z5, .ref z6, .ref z7, .ref z8, .ref z9, .int (nI z10), .ref z11, .ref z12, .ref z13, .ref z14, .ref z15, .int (nI z16), .ref z17, .int z18, .ref z19]))] ++ va_pl L M) := hD
  have hFc : ∀ q, va_A ([(za, .inr (13, [.int 0, .ref z1, .int (nI z2), .int (nI z3), .int z4, .int z5, .ref z6, .ref z7, .ref z8, .ref z9, .int (nI z10), .ref z11, .ref z12, .ref z13, .ref z14, .ref z15, .int (nI z16), .ref z17, .int z18, .ref z19]))] ++ va_pl L M) H_1.size q → A q := pg_free hDc hS hA
  refine va_calli (va_runV (As := [.int k1]) (rest := []) ⟨hx, hb, hml, hown, hg⟩ (r_X13_isHouse l D cy K L M H_1.size za 0 z1 z2 z3 z4 z5 z6 z7 z8 z9 z10 z11 z12 z13 z14 z15 z16 z17 z18 z19 k1  hW i1 b2 b3 i6 i7 i8 i9 b10 i11 i12 i13 i14 i15 b16 i17 i19) (cwV 1 hg (gV wd_714 wd_715 wd_716 wd_717 wd_718) rfl rfl rfl (by decide +kernel) ⟨(Nat.le_trans (Nat.le_of_ble_eq_true rfl) hRf), (Nat.le_trans (Nat.le_of_ble_eq_true rfl) hRl)⟩) ⟨PG.blind, va_recv hK hP (ci := 13) (q0 := 0) rfl rfl, fun U hU hW => ⟨rfl, PG.at hPc hK hDc hN hU hW⟩⟩ rfl rfl hl.1 rfl (lv_room (Nat.le_of_ble_eq_true rfl)) dX13_end_7 ⟨(Nat.le_trans (Nat.le_of_ble_eq_true rfl) hRc), (Nat.le_trans (Nat.le_of_ble_eq_true rfl) hRs)⟩) hS (fun q _ h => hFc q h) hFc (fun r_3 M_4 t H_2 locs ht hvm hw hB hz1 hk1 hS => ?_)
  have hp_5 := hw
  obtain ⟨hP1, hD1⟩ := hB
  rw [ht] at hP1
  have hP : va_P D vwCl ([(za, .inr (13, [.int 0, .ref z1, .int (nI z2), .int (nI z3), .int z4, .int z5, .ref z6, .ref z7, .ref z8, .ref z9, .int (nI z10), .ref z11, .ref z12, .ref z13, .ref z14, .ref z15, .int (nI z16), .ref z17, .int z18, .ref z19]))] ++ va_pl L M) H_2 := hP1
  have hD : va_D A ([(za, .inr (13, [.int 0, .ref z1, .int (nI z2), .int (nI z3), .int z4, .int z5, .ref z6, .ref z7, .ref z8, .ref z9, .int (nI z10), .ref z11, .ref z12, .ref z13, .ref z14, .ref z15, .int (nI z16), .ref z17, .int z18, .ref z19]))] ++ va_pl L M) := hD1.mono hFc
  rcases hp_5 with ⟨rfl, c_6, c_7⟩ | rfl
  · have hz := rfl (a := 0)
    refine lv_if_ne (tgt := 19) hx hb dX13_end_10 (by decide) (fun _ => ?_) (fun c_8 => absurd c_8 (by decide))
    refine lv_aload_n hx hb dX13_end_19 rfl (lv_at hl 0 rfl) ?_
    refine va_get (D := D) (ci := 13) (v := .ref z1) (C := RX13) (T := TX13) (N := 20) hx hb hg inG13 hown hK hP 0 rfl rfl 1 (by decide) (hg _ wd_739) (fun _ h9 => h9) rfl dX13_end_20 ?_
    refine lv_iload_n hx hb dX13_end_23 rfl (lv_at hl 1 rfl) ?_
    obtain ⟨f9, hM9, hf9⟩ := hW.open_23 i1
    have hi_10 : vp_in k1 8 := (inbW (a := z2) (by omega) (inb k1 z2 (by omega) c_6 c_7))
    refine pg_aldq hx hb hK hP i1.1 9 hM9 rfl hi_10 dX13_end_24 ?_
    obtain ⟨b11, eb_12, hb_13⟩ := hf9 _ (vp_lt hi_10)
    rw [eb_12]
    have hact : ACT z1 z2 b11 M := ⟨(k1 : Int32).toNatClampNeg, vp_lt (inb k1 z2 (by omega) c_6 c_7), by rw [show RFc (M z1) = f9 from by rw [hM9]; rfl]; exact eb_12⟩
    have hAT := GI.at hGI hact
    have hV : VW K L M M b11 (fx M b11) (ax M b11) := VW.rf b11 hGI.2.2.2
    refine lv_astore_n (lv' := [(3, .ref b11), (0, .ref za), (1, .int k1), (2, .int k2)]) hx hb dX13_end_25 rfl hl (by decide) rfl (fun ls hl => ?_)
    obtain ⟨fs14, hM14, hn14, hl14⟩ := hW.open_12 hb_13
    obtain ⟨v15, hv15, hc15⟩ : ∃ v : Nat, fs14[0]? = some (.int (nI v) : Value) ∧ v ≤ 999 := hl14 0 (by decide)
    have hx0 : (fx M b11 0) = ((v15 : Nat) : Int) := (congrFun hV.2.1 0).symm.trans ((fx_of hM14 rfl hv15).trans (nI_toInt (by omega)))
    obtain ⟨v16, hv16, hc16⟩ : ∃ v : Nat, fs14[12]? = some (.int (nI v) : Value) ∧ v ≤ 12 := hl14 12 (by decide)
    have hx12 : (fx M b11 12) = ((v16 : Nat) : Int) := (congrFun hV.2.1 12).symm.trans ((fx_of hM14 rfl hv16).trans (nI_toInt (by omega)))
    obtain ⟨v17, hv17, hc17⟩ : ∃ v : Nat, fs14[13]? = some (.int (nI v) : Value) ∧ v ≤ 12 := hl14 13 (by decide)
    have hx13 : (fx M b11 13) = ((v17 : Nat) : Int) := (congrFun hV.2.1 13).symm.trans ((fx_of hM14 rfl hv17).trans (nI_toInt (by omega)))
    obtain ⟨v18, hv18, hc18⟩ : ∃ v : Nat, fs14[37]? = some (.ref v : Value) ∧ isk K L v 38 12 := hl14 37 (by decide)
    obtain ⟨f19, hM19, hf19⟩ := hW.open_38 hc18
    have hy37 : (ax M b11 37) = f19 := (congrFun hV.2.2.1 37).symm.trans (ax_of hM14 (by decide) hv18 hM19)
    refine lv_aload_n hx hb dX13_end_26 rfl (lv_at hl 0 rfl) ?_
    refine pg_getN (D := D) (ci := 12) (v := .int (nI v16)) (C := RX12) (T := TX12) (N := 51) hx hb hg inG12 hown hK hP hb_13.1 hM14 rfl 12 (by decide) (hN.use (Cond.fieldLinkNest RX13 233 RX12 "years" "I" RX13) 21 rfl rfl) (fun _ h9 => h9) hv16 dX13_end_27 ?_
    refine lv_if_ne (tgt := 40) hx hb dX13_end_30 (by decide) (fun c_20 => ?_) (fun c_20 => ?_)
    · have hz := rfl (a := 0)
      have n_21 : ¬ (v16 = 0) := fun q => c_20 ((iEQ (a := v16) (b := 0) (by omega) (by omega)).mpr q)
      refine lv_aload_n hx hb dX13_end_40 rfl (lv_at hl 0 rfl) ?_
      refine pg_getN (D := D) (ci := 12) (v := .ref v18) (C := RX12) (T := TX12) (N := 51) hx hb hg inG12 hown hK hP hb_13.1 hM14 rfl 37 (by decide) (hN.use (Cond.fieldLinkNest RX13 236 RX12 "end" "[I" RX13) 46 rfl rfl) (fun _ h9 => h9) hv18 dX13_end_41 ?_
      refine lv_aload_n hx hb dX13_end_44 rfl (lv_at hl 0 rfl) ?_
      refine pg_getN (D := D) (ci := 12) (v := .int (nI v16)) (C := RX12) (T := TX12) (N := 51) hx hb hg inG12 hown hK hP hb_13.1 hM14 rfl 12 (by decide) (hN.use (Cond.fieldLinkNest RX13 233 RX12 "years" "I" RX13) 21 rfl rfl) (fun _ h9 => h9) hv16 dX13_end_45 ?_
      refine lv_iconst (v := 1) hx hb dX13_end_48 (by decide) ?_
      refine lv_isub hx hb dX13_end_49 ?_
      refine lv_topi (fun f_22 ef_22 => ?_)
      obtain rfl : f_22 = (nI (v16 - 1)) := ef_22.trans (nI_prd (by omega))
      have hi_23 : vp_in (nI (v16 - 1)) 12 := (inbN (v16 - 1) 12 (by omega) (by omega))
      refine pg_iald hx hb hK hP hc18.1 0 hM19 rfl hi_23 dX13_end_50 ?_
      have hp_24 := hf19 _ (vp_lt hi_23)
      obtain ⟨c_25, hc_26, ec_27⟩ := hp_24
      rw [ec_27]
      have hpv : pv (fx M b11 0) (ax M b11 37) v16 = ((c_25 : Nat) : Int) := by
        have h := ec_27
        rw [nI_cl (by omega)] at h
        rw [pv_s (by omega), hy37, h, nI_toInt (by omega)]
      refine lv_iconst (v := 1) hx hb dX13_end_51 (by decide) ?_
      refine lv_iadd hx hb dX13_end_52 ?_
      refine lv_topi (fun f_28 ef_28 => ?_)
      obtain rfl : f_28 = (nI (c_25 + 1)) := ef_28.trans (nI_add c_25 1)
      refine lv_istore (lv' := [(4, .int (nI (c_25 + 1))), (3, .ref b11), (0, .ref za), (1, .int k1), (2, .int k2)]) hx hb dX13_end_53 hl (by decide) rfl (fun ls hl => ?_)
      refine lv_iload_n hx hb dX13_end_55 rfl (lv_at hl 4 rfl) ?_
      refine lv_if_lt (tgt := 81) hx hb dX13_end_56 (by decide) (fun c_29 => ?_) (fun c_29 => ?_)
      · have hz := rfl (a := 0)
        refine lv_aload_n hx hb dX13_end_81 rfl (lv_at hl 2 rfl) ?_
        refine lv_iconst (v := 3) hx hb dX13_end_82 (by decide) ?_
        have hPc := hP.sub (ws' := [(za, .inr (13, [.int 0, .ref z1, .int (nI z2), .int (nI z3), .int z4, .int z5, .ref z6, .ref z7, .ref z8, .ref z9, .int (nI z10), .ref z11, .ref z12, .ref z13, .ref z14, .ref z15, .int (nI z16), .ref z17, .int z18, .ref z19]))]) [0] rfl
        have hDc := hD.sub (ws' := [(za, .inr (13, [.int 0, .ref z1, .int (nI z2), .int (nI z3), .int z4, .int z5, .ref z6, .ref z7, .ref z8, .ref z9, .int (nI z10), .ref z11, .ref z12, .ref z13, .ref z14, .ref z15, .int (nI z16), .ref z17, .int z18, .ref z19]))]) [0] (by decide) rfl
        have hKc := hK.sub (tys' := []) [] rfl
        have hFc := va_free (wc := [(za, .inr (13, [.int 0, .ref z1, .int (nI z2), .int (nI z3), .int z4, .int z5, .ref z6, .ref z7, .ref z8, .ref z9, .int (nI z10), .ref z11, .ref z12, .ref z13, .ref z14, .ref z15, .int (nI z16), .ref z17, .int z18, .ref z19]))]) hD hS hA [0] rfl
        refine va_calli (va_runV (As := [.int 3]) (rest := []) ⟨hx, hb, hml, hown, hg⟩ (m_refused l D H_2.size za 0 z1 (nI z2) (nI z3) z4 z5 z6 z7 z8 z9 (nI z10) z11 z12 z13 z14 z15 (nI z16) z17 z18 z19 3) (cwV 1 hg (gV wd_725 wd_726 wd_727 wd_717 wd_728) rfl rfl rfl (by decide +kernel) ⟨(Nat.le_trans (Nat.le_of_ble_eq_true rfl) hRf), (Nat.le_trans (Nat.le_of_ble_eq_true rfl) hRl)⟩) ⟨Pr.blind, va_recv hK hP (ci := 13) (q0 := 0) rfl rfl, fun U hU hW => ⟨rfl, Pr.at hPc hKc hDc hN hU hW⟩⟩ rfl rfl hl.1 rfl (lv_room (Nat.le_of_ble_eq_true rfl)) dX13_end_83 ⟨(Nat.le_trans (Nat.le_of_ble_eq_true rfl) hRc), (Nat.le_trans (Nat.le_of_ble_eq_true rfl) hRs)⟩) hS (fun q _ h => hFc q h) hFc (fun r_31 M_32 t H_30 locs ht hvm hw hB hz1 hk1 hS => ?_)
        have hp_33 := hw
        obtain ⟨hP1, hK1, hD1⟩ := hB
        rw [ht] at hP1
        obtain ⟨hP, hD⟩ := va_joinQ (X := [(za, .inr (13, [.int 0, .ref z1, .int (nI z2), .int (nI z3), .int z4, .int z5, .ref z6, .ref z7, .ref z8, .ref z9, .int (nI z10), .ref z11, .ref z12, .ref z13, .ref z14, .ref z15, .int (nI z16), .ref z17, .int z18, .ref z19]))]) (cx := [(za, .inr (13, [.int 0, .ref z1, .int (nI z2), .int (nI z3), .int z4, .int z5, .ref z6, .ref z7, .ref z8, .ref z9, .int (nI z10), .ref z11, .ref z12, .ref z13, .ref z14, .ref z15, .int (nI z16), .ref z17, .int z18, .ref z19]))]) (wr := []) (w1 := [(za, .inr (13, [.int 0, .ref z1, .int (nI z2), .int (nI z3), .int 3, .int (-1), .ref z6, .ref z7, .ref z8, .ref z9, .int (nI z10), .ref z11, .ref z12, .ref z13, .ref z14, .ref z15, .int (nI z16), .ref z17, .int z18, .ref z19]))]) (pl := va_pl L M) hP hD [0] [] rfl rfl (by decide) (by decide) hk1 hFc hP1 hD1
        have hP : va_P D vwCl ([(za, .inr (13, [.int 0, .ref z1, .int (nI z2), .int (nI z3), .int 3, .int (-1), .ref z6, .ref z7, .ref z8, .ref z9, .int (nI z10), .ref z11, .ref z12, .ref z13, .ref z14, .ref z15, .int (nI z16), .ref z17, .int z18, .ref z19]))] ++ va_pl L M) H_30 := hP
        have hD : va_D A ([(za, .inr (13, [.int 0, .ref z1, .int (nI z2), .int (nI z3), .int 3, .int (-1), .ref z6, .ref z7, .ref z8, .ref z9, .int (nI z10), .ref z11, .ref z12, .ref z13, .ref z14, .ref z15, .int (nI z16), .ref z17, .int z18, .ref z19]))] ++ va_pl L M) := hD
        have hq := Eq.symm hp_33
        subst hq
        rw [hQ]
        exact W.iret (v := (-1)) hx hb hr (fun t ht hW9 => ⟨⟨(-1), M, rfl, ⟨hW, hF, hG, hGI, trivial⟩, ⟨3, (-1), by rw [ht]; exact hP, hD⟩⟩, hS.F ht⟩) hS.2.2 dX13_end_86
      · have hz := rfl (a := 0)
        refine lv_iload_n hx hb dX13_end_59 rfl (lv_at hl 4 rfl) ?_
        refine lv_sipush (v := 1000) hx hb dX13_end_60 (by decide) ?_
        refine lv_icmp_ge (tgt := 81) hx hb dX13_end_63 (by decide) (fun c_34 => ?_) (fun c_34 => ?_)
        · have hz := rfl (a := 0)
          refine lv_aload_n hx hb dX13_end_81 rfl (lv_at hl 2 rfl) ?_
          refine lv_iconst (v := 3) hx hb dX13_end_82 (by decide) ?_
          have hPc := hP.sub (ws' := [(za, .inr (13, [.int 0, .ref z1, .int (nI z2), .int (nI z3), .int z4, .int z5, .ref z6, .ref z7, .ref z8, .ref z9, .int (nI z10), .ref z11, .ref z12, .ref z13, .ref z14, .ref z15, .int (nI z16), .ref z17, .int z18, .ref z19]))]) [0] rfl
          have hDc := hD.sub (ws' := [(za, .inr (13, [.int 0, .ref z1, .int (nI z2), .int (nI z3), .int z4, .int z5, .ref z6, .ref z7, .ref z8, .ref z9, .int (nI z10), .ref z11, .ref z12, .ref z13, .ref z14, .ref z15, .int (nI z16), .ref z17, .int z18, .ref z19]))]) [0] (by decide) rfl
          have hKc := hK.sub (tys' := []) [] rfl
          have hFc := va_free (wc := [(za, .inr (13, [.int 0, .ref z1, .int (nI z2), .int (nI z3), .int z4, .int z5, .ref z6, .ref z7, .ref z8, .ref z9, .int (nI z10), .ref z11, .ref z12, .ref z13, .ref z14, .ref z15, .int (nI z16), .ref z17, .int z18, .ref z19]))]) hD hS hA [0] rfl
          refine va_calli (va_runV (As := [.int 3]) (rest := []) ⟨hx, hb, hml, hown, hg⟩ (m_refused l D H_2.size za 0 z1 (nI z2) (nI z3) z4 z5 z6 z7 z8 z9 (nI z10) z11 z12 z13 z14 z15 (nI z16) z17 z18 z19 3) (cwV 1 hg (gV wd_725 wd_726 wd_727 wd_717 wd_728) rfl rfl rfl (by decide +kernel) ⟨(Nat.le_trans (Nat.le_of_ble_eq_true rfl) hRf), (Nat.le_trans (Nat.le_of_ble_eq_true rfl) hRl)⟩) ⟨Pr.blind, va_recv hK hP (ci := 13) (q0 := 0) rfl rfl, fun U hU hW => ⟨rfl, Pr.at hPc hKc hDc hN hU hW⟩⟩ rfl rfl hl.1 rfl (lv_room (Nat.le_of_ble_eq_true rfl)) dX13_end_83 ⟨(Nat.le_trans (Nat.le_of_ble_eq_true rfl) hRc), (Nat.le_trans (Nat.le_of_ble_eq_true rfl) hRs)⟩) hS (fun q _ h => hFc q h) hFc (fun r_36 M_37 t H_35 locs ht hvm hw hB hz1 hk1 hS => ?_)
          have hp_38 := hw
          obtain ⟨hP1, hK1, hD1⟩ := hB
          rw [ht] at hP1
          obtain ⟨hP, hD⟩ := va_joinQ (X := [(za, .inr (13, [.int 0, .ref z1, .int (nI z2), .int (nI z3), .int z4, .int z5, .ref z6, .ref z7, .ref z8, .ref z9, .int (nI z10), .ref z11, .ref z12, .ref z13, .ref z14, .ref z15, .int (nI z16), .ref z17, .int z18, .ref z19]))]) (cx := [(za, .inr (13, [.int 0, .ref z1, .int (nI z2), .int (nI z3), .int z4, .int z5, .ref z6, .ref z7, .ref z8, .ref z9, .int (nI z10), .ref z11, .ref z12, .ref z13, .ref z14, .ref z15, .int (nI z16), .ref z17, .int z18, .ref z19]))]) (wr := []) (w1 := [(za, .inr (13, [.int 0, .ref z1, .int (nI z2), .int (nI z3), .int 3, .int (-1), .ref z6, .ref z7, .ref z8, .ref z9, .int (nI z10), .ref z11, .ref z12, .ref z13, .ref z14, .ref z15, .int (nI z16), .ref z17, .int z18, .ref z19]))]) (pl := va_pl L M) hP hD [0] [] rfl rfl (by decide) (by decide) hk1 hFc hP1 hD1
          have hP : va_P D vwCl ([(za, .inr (13, [.int 0, .ref z1, .int (nI z2), .int (nI z3), .int 3, .int (-1), .ref z6, .ref z7, .ref z8, .ref z9, .int (nI z10), .ref z11, .ref z12, .ref z13, .ref z14, .ref z15, .int (nI z16), .ref z17, .int z18, .ref z19]))] ++ va_pl L M) H_35 := hP
          have hD : va_D A ([(za, .inr (13, [.int 0, .ref z1, .int (nI z2), .int (nI z3), .int 3, .int (-1), .ref z6, .ref z7, .ref z8, .ref z9, .int (nI z10), .ref z11, .ref z12, .ref z13, .ref z14, .ref z15, .int (nI z16), .ref z17, .int z18, .ref z19]))] ++ va_pl L M) := hD
          have hq := Eq.symm hp_38
          subst hq
          rw [hQ]
          exact W.iret (v := (-1)) hx hb hr (fun t ht hW9 => ⟨⟨(-1), M, rfl, ⟨hW, hF, hG, hGI, trivial⟩, ⟨3, (-1), by rw [ht]; exact hP, hD⟩⟩, hS.F ht⟩) hS.2.2 dX13_end_86
        · have hz := rfl (a := 0)
          refine lv_iload_n hx hb dX13_end_66 rfl (lv_at hl 4 rfl) ?_
          refine lv_iload hx hb dX13_end_67 (lv_at hl 0 rfl) ?_
          refine lv_icmp_lt (tgt := 81) hx hb dX13_end_69 (by decide) (fun c_39 => ?_) (fun c_39 => ?_)
          · have hz := rfl (a := 0)
            refine lv_aload_n hx hb dX13_end_81 rfl (lv_at hl 2 rfl) ?_
            refine lv_iconst (v := 3) hx hb dX13_end_82 (by decide) ?_
            have hPc := hP.sub (ws' := [(za, .inr (13, [.int 0, .ref z1, .int (nI z2), .int (nI z3), .int z4, .int z5, .ref z6, .ref z7, .ref z8, .ref z9, .int (nI z10), .ref z11, .ref z12, .ref z13, .ref z14, .ref z15, .int (nI z16), .ref z17, .int z18, .ref z19]))]) [0] rfl
            have hDc := hD.sub (ws' := [(za, .inr (13, [.int 0, .ref z1, .int (nI z2), .int (nI z3), .int z4, .int z5, .ref z6, .ref z7, .ref z8, .ref z9, .int (nI z10), .ref z11, .ref z12, .ref z13, .ref z14, .ref z15, .int (nI z16), .ref z17, .int z18, .ref z19]))]) [0] (by decide) rfl
            have hKc := hK.sub (tys' := []) [] rfl
            have hFc := va_free (wc := [(za, .inr (13, [.int 0, .ref z1, .int (nI z2), .int (nI z3), .int z4, .int z5, .ref z6, .ref z7, .ref z8, .ref z9, .int (nI z10), .ref z11, .ref z12, .ref z13, .ref z14, .ref z15, .int (nI z16), .ref z17, .int z18, .ref z19]))]) hD hS hA [0] rfl
            refine va_calli (va_runV (As := [.int 3]) (rest := []) ⟨hx, hb, hml, hown, hg⟩ (m_refused l D H_2.size za 0 z1 (nI z2) (nI z3) z4 z5 z6 z7 z8 z9 (nI z10) z11 z12 z13 z14 z15 (nI z16) z17 z18 z19 3) (cwV 1 hg (gV wd_725 wd_726 wd_727 wd_717 wd_728) rfl rfl rfl (by decide +kernel) ⟨(Nat.le_trans (Nat.le_of_ble_eq_true rfl) hRf), (Nat.le_trans (Nat.le_of_ble_eq_true rfl) hRl)⟩) ⟨Pr.blind, va_recv hK hP (ci := 13) (q0 := 0) rfl rfl, fun U hU hW => ⟨rfl, Pr.at hPc hKc hDc hN hU hW⟩⟩ rfl rfl hl.1 rfl (lv_room (Nat.le_of_ble_eq_true rfl)) dX13_end_83 ⟨(Nat.le_trans (Nat.le_of_ble_eq_true rfl) hRc), (Nat.le_trans (Nat.le_of_ble_eq_true rfl) hRs)⟩) hS (fun q _ h => hFc q h) hFc (fun r_41 M_42 t H_40 locs ht hvm hw hB hz1 hk1 hS => ?_)
            have hp_43 := hw
            obtain ⟨hP1, hK1, hD1⟩ := hB
            rw [ht] at hP1
            obtain ⟨hP, hD⟩ := va_joinQ (X := [(za, .inr (13, [.int 0, .ref z1, .int (nI z2), .int (nI z3), .int z4, .int z5, .ref z6, .ref z7, .ref z8, .ref z9, .int (nI z10), .ref z11, .ref z12, .ref z13, .ref z14, .ref z15, .int (nI z16), .ref z17, .int z18, .ref z19]))]) (cx := [(za, .inr (13, [.int 0, .ref z1, .int (nI z2), .int (nI z3), .int z4, .int z5, .ref z6, .ref z7, .ref z8, .ref z9, .int (nI z10), .ref z11, .ref z12, .ref z13, .ref z14, .ref z15, .int (nI z16), .ref z17, .int z18, .ref z19]))]) (wr := []) (w1 := [(za, .inr (13, [.int 0, .ref z1, .int (nI z2), .int (nI z3), .int 3, .int (-1), .ref z6, .ref z7, .ref z8, .ref z9, .int (nI z10), .ref z11, .ref z12, .ref z13, .ref z14, .ref z15, .int (nI z16), .ref z17, .int z18, .ref z19]))]) (pl := va_pl L M) hP hD [0] [] rfl rfl (by decide) (by decide) hk1 hFc hP1 hD1
            have hP : va_P D vwCl ([(za, .inr (13, [.int 0, .ref z1, .int (nI z2), .int (nI z3), .int 3, .int (-1), .ref z6, .ref z7, .ref z8, .ref z9, .int (nI z10), .ref z11, .ref z12, .ref z13, .ref z14, .ref z15, .int (nI z16), .ref z17, .int z18, .ref z19]))] ++ va_pl L M) H_40 := hP
            have hD : va_D A ([(za, .inr (13, [.int 0, .ref z1, .int (nI z2), .int (nI z3), .int 3, .int (-1), .ref z6, .ref z7, .ref z8, .ref z9, .int (nI z10), .ref z11, .ref z12, .ref z13, .ref z14, .ref z15, .int (nI z16), .ref z17, .int z18, .ref z19]))] ++ va_pl L M) := hD
            have hq := Eq.symm hp_43
            subst hq
            rw [hQ]
            exact W.iret (v := (-1)) hx hb hr (fun t ht hW9 => ⟨⟨(-1), M, rfl, ⟨hW, hF, hG, hGI, trivial⟩, ⟨3, (-1), by rw [ht]; exact hP, hD⟩⟩, hS.F ht⟩) hS.2.2 dX13_end_86
          · have hz := rfl (a := 0)
            refine lv_iload_n hx hb dX13_end_72 rfl (lv_at hl 4 rfl) ?_
            refine lv_iload hx hb dX13_end_73 (lv_at hl 0 rfl) ?_
            refine lv_bipush (v := 99) hx hb dX13_end_75 (by decide) ?_
            refine lv_iadd hx hb dX13_end_77 ?_
            refine lv_topi (fun f_44 ef_44 => ?_)
            obtain rfl : f_44 = (nI ((c_25 + 1) + 99)) := ef_44.trans (nI_add (c_25 + 1) 99)
            refine lv_icmp_le (tgt := 87) hx hb dX13_end_78 (by decide) (fun c_45 => ?_) (fun c_45 => ?_)
            · have hz := rfl (a := 0)
              refine lv_aload_n hx hb dX13_end_87 rfl (lv_at hl 1 rfl) ?_
              refine pg_getN (D := D) (ci := 12) (v := .int (nI v16)) (C := RX12) (T := TX12) (N := 51) hx hb hg inG12 hown hK hP hb_13.1 hM14 rfl 12 (by decide) (hN.use (Cond.fieldLinkNest RX13 233 RX12 "years" "I" RX13) 21 rfl rfl) (fun _ h9 => h9) hv16 dX13_end_88 ?_
              refine lv_bipush (v := 12) hx hb dX13_end_91 (by decide) ?_
              refine lv_icmp_ne (tgt := 103) hx hb dX13_end_93 (by decide) (fun c_46 => ?_) (fun c_46 => ?_)
              · have hz := rfl (a := 0)
                have n_47 : ¬ (v16 = 12) := fun q => c_46 ((iEQ (a := v16) (b := 12) (by omega) (by omega)).mpr q)
                refine lv_aload_n hx hb dX13_end_103 rfl (lv_at hl 1 rfl) ?_
                refine pg_getN (D := D) (ci := 12) (v := .ref v18) (C := RX12) (T := TX12) (N := 51) hx hb hg inG12 hown hK hP hb_13.1 hM14 rfl 37 (by decide) (hN.use (Cond.fieldLinkNest RX13 236 RX12 "end" "[I" RX13) 46 rfl rfl) (fun _ h9 => h9) hv18 dX13_end_104 ?_
                refine lv_aload_n hx hb dX13_end_107 rfl (lv_at hl 1 rfl) ?_
                refine pg_getN (D := D) (ci := 12) (v := .int (nI v16)) (C := RX12) (T := TX12) (N := 51) hx hb hg inG12 hown hK hP hb_13.1 hM14 rfl 12 (by decide) (hN.use (Cond.fieldLinkNest RX13 233 RX12 "years" "I" RX13) 21 rfl rfl) (fun _ h9 => h9) hv16 dX13_end_108 ?_
                refine lv_iload_n hx hb dX13_end_111 rfl (lv_at hl 4 rfl) ?_
                obtain ⟨j_48, hj_49, rfl⟩ := i32nat 1000 (by decide) c_29 c_34
                refine pg_iast hx hb hK hP hD hS hc18.1 0 hM19 rfl (inbN v16 12 (by omega) (by omega)) dX13_end_112 (fun H_50 locs hP hD hS => ?_)
                obtain ⟨M_51, eM_51⟩ : ∃ M1 : Hp, M1 = va_up M v18 (.inl (cy 14, 12, .inl (upd f19 ((nI v16) : Int32).toNatClampNeg (nI j_48)))) := ⟨_, rfl⟩
                have hy37 : (ax M b11 37) = f19 := (congrFun hV.2.2.1 37).symm.trans (ax_of hM14 (by decide) hv18 hM19)
                have hV : VW K L M M_51 b11 (fx M b11) (va_up (ax M b11) 37 (upd (ax M b11 37) ((nI v16) : Int32).toNatClampNeg (nI j_48))) := by rw [eM_51]; exact hV.ast (j := 37) hW hb_13 hM14 (by decide) hv18 hc18 hM19
                have hP : va_P D vwCl ([(za, .inr (13, [.int 0, .ref z1, .int (nI z2), .int (nI z3), .int z4, .int z5, .ref z6, .ref z7, .ref z8, .ref z9, .int (nI z10), .ref z11, .ref z12, .ref z13, .ref z14, .ref z15, .int (nI z16), .ref z17, .int z18, .ref z19]))] ++ va_pl L M_51) H_50 := by rw [eM_51]; exact hP
                have hD : va_D A ([(za, .inr (13, [.int 0, .ref z1, .int (nI z2), .int (nI z3), .int z4, .int z5, .ref z6, .ref z7, .ref z8, .ref z9, .int (nI z10), .ref z11, .ref z12, .ref z13, .ref z14, .ref z15, .int (nI z16), .ref z17, .int z18, .ref z19]))] ++ va_pl L M_51) := by rw [eM_51]; exact hD
                have hW : WOM cy K L M_51 := by rw [eM_51]; exact hW.up_38 hc18 ⟨_, rfl, (updP (P := fun z => ∃ c : Nat, c < 1000 ∧ z = nI c) hf19 ⟨j_48, by omega, rfl⟩)⟩
                have hF : fr K L [12, 38] M M_51 := by rw [eM_51]; exact hF.up hc18 (by decide)
                have hG : fG K L [12] M M_51 := by rw [eM_51]; exact hG.arr hc18 (by decide)
                have hM_52 : M_51 v18 = .inl (cy 14, 12, .inl (upd f19 ((nI v16) : Int32).toNatClampNeg (nI j_48))) := by rw [eM_51]; exact va_up_self _ _ _
                have hM_53 : M_51 z1 = .inl (cy 23, 8, .inr (.inr (.inr (.inr (f9))))) := by rw [eM_51, va_up_ne _ _ (i1.neT hc18 (by decide))]; exact hM9
                have hM_54 : M_51 b11 = .inr (12, fs14) := by rw [eM_51, va_up_ne _ _ (hb_13.neT hc18 (by decide))]; exact hM14
                have hf_56 : ∀ j, j < 12 → ∃ c : Nat, c < 1000 ∧ (upd f19 ((nI v16) : Int32).toNatClampNeg (nI j_48)) j = nI c := (updP (P := fun z => ∃ c : Nat, c < 1000 ∧ z = nI c) hf19 ⟨j_48, by omega, rfl⟩)
                obtain ⟨f_55, ef_55⟩ : ∃ f : Nat → Int32, f = upd f19 ((nI v16) : Int32).toNatClampNeg (nI j_48) := ⟨_, rfl⟩
                rw [← ef_55] at hM_52 hf_56
                refine lv_aload_n hx hb dX13_end_113 rfl (lv_at hl 1 rfl) ?_
                refine lv_dup hx hb dX13_end_114 rfl ?_
                refine pg_getN (D := D) (ci := 12) (v := .int (nI v16)) (C := RX12) (T := TX12) (N := 51) hx hb hg inG12 hown hK hP hb_13.1 hM_54 rfl 12 (by decide) (hN.use (Cond.fieldLinkNest RX13 233 RX12 "years" "I" RX13) 21 rfl rfl) (fun _ h9 => h9) hv16 dX13_end_115 ?_
                refine lv_iconst (v := 1) hx hb dX13_end_118 (by decide) ?_
                refine lv_iadd hx hb dX13_end_119 ?_
                refine lv_topi (fun f_57 ef_57 => ?_)
                obtain rfl : f_57 = (nI (v16 + 1)) := ef_57.trans (nI_add v16 1)
                refine pg_putN (D := D) (ci := 12) (v := .int (nI (v16 + 1))) (ty := .int) (C := RX12) (T := TX12) (N := 51) hx hb hg inG12 tyX12 tyX12_ok nmX12 hown hK hP hD hS hb_13.1 hM_54 rfl 12 (by decide) (hN.use (Cond.fieldLinkNest RX13 233 RX12 "years" "I" RX13) 21 rfl rfl) (fun _ h9 => h9) rfl (by decide +kernel) rfl rfl (by rw [hn14]; decide) dX13_end_120 (fun H_58 locs hP hD hS => ?_)
                have hs_61 : (fs14.set 12 (.int (nI (v16 + 1))))[12]? = some (.int (nI (v16 + 1))) := List.getElem?_set_self (by rw [hn14]; decide)
                have hk_60 := fld12_set (k := 12) (w := .int (nI (v16 + 1))) hl14 (show fld12 K L 12 (fs14.set 12 (.int (nI (v16 + 1)))) from ⟨(v16 + 1), hs_61, by omega⟩)
                have hn_62 : (fs14.set 12 (.int (nI (v16 + 1)))).length = 51 := by rw [List.length_set]; exact hn14
                have hv_63 : (fs14.set 12 (.int (nI (v16 + 1))))[0]? = some (.int (nI v15)) := by rw [List.getElem?_set_ne (by decide)]; exact hv15
                have hv_64 : (fs14.set 12 (.int (nI (v16 + 1))))[13]? = some (.int (nI v17)) := by rw [List.getElem?_set_ne (by decide)]; exact hv17
                have hv_65 : (fs14.set 12 (.int (nI (v16 + 1))))[37]? = some (.ref v18) := by rw [List.getElem?_set_ne (by decide)]; exact hv18
                have hb_66 : (v16 + 1) ≤ 12 := by omega
                obtain ⟨M_67, eM_67⟩ : ∃ M1 : Hp, M1 = va_up M_51 b11 (.inr (12, fs14.set 12 (.int (nI (v16 + 1))))) := ⟨_, rfl⟩
                have hx12 : (fx M b11 12) = ((v16 : Nat) : Int) := (congrFun hV.2.1 12).symm.trans ((fx_of hM_54 rfl hv16).trans (nI_toInt (by omega)))
                have hV : VW K L M M_67 b11 (va_up (fx M b11) 12 (((v16 + 1) : Nat) : Int)) (va_up (ax M b11) 37 (upd (ax M b11 37) ((nI v16) : Int32).toNatClampNeg (nI j_48))) := by rw [eM_67]; exact hV.put hW hb_13 hM_54 hn14 rfl (by decide) rfl (nI_toInt (by omega))
                have hP : va_P D vwCl ([(za, .inr (13, [.int 0, .ref z1, .int (nI z2), .int (nI z3), .int z4, .int z5, .ref z6, .ref z7, .ref z8, .ref z9, .int (nI z10), .ref z11, .ref z12, .ref z13, .ref z14, .ref z15, .int (nI z16), .ref z17, .int z18, .ref z19]))] ++ va_pl L M_67) H_58 := by rw [eM_67]; exact hP
                have hD : va_D A ([(za, .inr (13, [.int 0, .ref z1, .int (nI z2), .int (nI z3), .int z4, .int z5, .ref z6, .ref z7, .ref z8, .ref z9, .int (nI z10), .ref z11, .ref z12, .ref z13, .ref z14, .ref z15, .int (nI z16), .ref z17, .int z18, .ref z19]))] ++ va_pl L M_67) := by rw [eM_67]; exact hD
                have hW : WOM cy K L M_67 := by rw [eM_67]; exact hW.up_12 hb_13 ⟨_, rfl, hn_62, hk_60⟩
                have hF : fr K L [12, 38] M M_67 := by rw [eM_67]; exact hF.up hb_13 (by decide)
                have hG : fG K L [12] M M_67 := by rw [eM_67]; exact hG.up hM_54 (by decide)
                have hM_68 : M_67 b11 = .inr (12, fs14.set 12 (.int (nI (v16 + 1)))) := by rw [eM_67]; exact va_up_self _ _ _
                have hM_69 : M_67 v18 = .inl (cy 14, 12, .inl (f_55)) := by rw [eM_67, va_up_ne _ _ (hc18.neT hb_13 (by decide))]; exact hM_52
                have hM_70 : M_67 z1 = .inl (cy 23, 8, .inr (.inr (.inr (.inr (f9))))) := by rw [eM_67, va_up_ne _ _ (i1.neT hb_13 (by decide))]; exact hM_53
                refine lv_aload_n hx hb dX13_end_123 rfl (lv_at hl 2 rfl) ?_
                refine lv_aload_n hx hb dX13_end_124 rfl (lv_at hl 1 rfl) ?_
                refine pg_getN (D := D) (ci := 12) (v := .int (nI (v16 + 1))) (C := RX12) (T := TX12) (N := 51) hx hb hg inG12 hown hK hP hb_13.1 hM_68 rfl 12 (by decide) (hN.use (Cond.fieldLinkNest RX13 233 RX12 "years" "I" RX13) 21 rfl rfl) (fun _ h9 => h9) hs_61 dX13_end_125 ?_
                have hPc := hP.sub (ws' := [(za, .inr (13, [.int 0, .ref z1, .int (nI z2), .int (nI z3), .int z4, .int z5, .ref z6, .ref z7, .ref z8, .ref z9, .int (nI z10), .ref z11, .ref z12, .ref z13, .ref z14, .ref z15, .int (nI z16), .ref z17, .int z18, .ref z19]))]) [0] rfl
                have hDc := hD.sub (ws' := [(za, .inr (13, [.int 0, .ref z1, .int (nI z2), .int (nI z3), .int z4, .int z5, .ref z6, .ref z7, .ref z8, .ref z9, .int (nI z10), .ref z11, .ref z12, .ref z13, .ref z14, .ref z15, .int (nI z16), .ref z17, .int z18, .ref z19]))]) [0] (by decide) rfl
                have hKc := hK.sub (tys' := []) [] rfl
                have hFc := va_free (wc := [(za, .inr (13, [.int 0, .ref z1, .int (nI z2), .int (nI z3), .int z4, .int z5, .ref z6, .ref z7, .ref z8, .ref z9, .int (nI z10), .ref z11, .ref z12, .ref z13, .ref z14, .ref z15, .int (nI z16), .ref z17, .int z18, .ref z19]))]) hD hS hA [0] rfl
                refine va_calli (va_runV (As := [.int (nI (v16 + 1))]) (rest := []) ⟨hx, hb, hml, hown, hg⟩ (m_done l D H_58.size za 0 z1 (nI z2) (nI z3) z4 z5 z6 z7 z8 z9 (nI z10) z11 z12 z13 z14 z15 (nI z16) z17 z18 z19 (nI (v16 + 1))) (cwV 1 hg (gV wd_730 wd_731 wd_732 wd_717 wd_733) rfl rfl rfl (by decide +kernel) ⟨(Nat.le_trans (Nat.le_of_ble_eq_true rfl) hRf), (Nat.le_trans (Nat.le_of_ble_eq_true rfl) hRl)⟩) ⟨Pr.blind, va_recv hK hP (ci := 13) (q0 := 0) rfl rfl, fun U hU hW => ⟨rfl, Pr.at hPc hKc hDc hN hU hW⟩⟩ rfl rfl hl.1 rfl (lv_room (Nat.le_of_ble_eq_true rfl)) dX13_end_128 ⟨(Nat.le_trans (Nat.le_of_ble_eq_true rfl) hRc), (Nat.le_trans (Nat.le_of_ble_eq_true rfl) hRs)⟩) hS (fun q _ h => hFc q h) hFc (fun r_72 M_73 t H_71 locs ht hvm hw hB hz1 hk1 hS => ?_)
                have hp_74 := hw
                obtain ⟨hP1, hK1, hD1⟩ := hB
                rw [ht] at hP1
                obtain ⟨hP, hD⟩ := va_joinQ (X := [(za, .inr (13, [.int 0, .ref z1, .int (nI z2), .int (nI z3), .int z4, .int z5, .ref z6, .ref z7, .ref z8, .ref z9, .int (nI z10), .ref z11, .ref z12, .ref z13, .ref z14, .ref z15, .int (nI z16), .ref z17, .int z18, .ref z19]))]) (cx := [(za, .inr (13, [.int 0, .ref z1, .int (nI z2), .int (nI z3), .int z4, .int z5, .ref z6, .ref z7, .ref z8, .ref z9, .int (nI z10), .ref z11, .ref z12, .ref z13, .ref z14, .ref z15, .int (nI z16), .ref z17, .int z18, .ref z19]))]) (wr := []) (w1 := [(za, .inr (13, [.int 0, .ref z1, .int (nI z2), .int (nI z3), .int 0, .int (-1), .ref z6, .ref z7, .ref z8, .ref z9, .int (nI z10), .ref z11, .ref z12, .ref z13, .ref z14, .ref z15, .int (nI z16), .ref z17, .int z18, .ref z19]))]) (pl := va_pl L M_67) hP hD [0] [] rfl rfl (by decide) (by decide) hk1 hFc hP1 hD1
                have hP : va_P D vwCl ([(za, .inr (13, [.int 0, .ref z1, .int (nI z2), .int (nI z3), .int 0, .int (-1), .ref z6, .ref z7, .ref z8, .ref z9, .int (nI z10), .ref z11, .ref z12, .ref z13, .ref z14, .ref z15, .int (nI z16), .ref z17, .int z18, .ref z19]))] ++ va_pl L M_67) H_71 := hP
                have hD : va_D A ([(za, .inr (13, [.int 0, .ref z1, .int (nI z2), .int (nI z3), .int 0, .int (-1), .ref z6, .ref z7, .ref z8, .ref z9, .int (nI z10), .ref z11, .ref z12, .ref z13, .ref z14, .ref z15, .int (nI z16), .ref z17, .int z18, .ref z19]))] ++ va_pl L M_67) := hD
                have hq := Eq.symm hp_74
                subst hq
                have hA9 : HA (ax M b11 2) (ax M b11 3) := hAT.1
                have hB9 : HB (fx M b11 16) (fx M b11 14) (ax M b11 3) (ax M b11 43) := hAT.2.1
                have hC9 : HC (fx M b11 10) (ax M b11 22) (ax M b11 23) := hAT.2.2.1
                have hD9 : HD (fx M b11 0) (fx M b11 11) (fx M b11 15) (ax M b11 34) (ax M b11 41) := hAT.2.2.2.1
                have hE9 : HE (fx M b11 0) (fx M b11 1) (((v16 + 1) : Nat) : Int) (fx M b11 13) (upd (ax M b11 37) ((nI v16) : Int32).toNatClampNeg (nI j_48)) := HE.fin hAT.2.2.2.2 hx12 (by omega) (nI_cl (by omega)) (by rw [hx13]; omega) (by have h := geI c_39 (by omega); omega) (by have h := leI2 c_45 (by omega); omega)
                have hH9 : HI (va_up (fx M b11) 12 (((v16 + 1) : Nat) : Int)) (va_up (ax M b11) 37 (upd (ax M b11 37) ((nI v16) : Int32).toNatClampNeg (nI j_48))) := ⟨hA9, hB9, hC9, hD9, hE9⟩
                have hGI9 : GI K L z1 z2 M_67 := GI.fin hW0 i1 b2 hGI hact hV (hF.at i1 (by decide)) hH9
                rw [hQ]
                exact W.iret (v := (nI (v16 + 1))) hx hb hr (fun t ht hW9 => ⟨⟨(nI (v16 + 1)), M_67, rfl, ⟨hW, hF, hG, hGI9, trivial⟩, ⟨0, (-1), by rw [ht]; exact hP, hD⟩⟩, hS.F ht⟩) hS.2.2 dX13_end_131
              · have hz := rfl (a := 0)
                have n_75 : v16 = 12 := (iEQ (a := v16) (b := 12) (by omega) (by omega)).mp c_46
                refine lv_aload_n hx hb dX13_end_96 rfl (lv_at hl 2 rfl) ?_
                refine lv_bipush (v := 9) hx hb dX13_end_97 (by decide) ?_
                have hPc := hP.sub (ws' := [(za, .inr (13, [.int 0, .ref z1, .int (nI z2), .int (nI z3), .int z4, .int z5, .ref z6, .ref z7, .ref z8, .ref z9, .int (nI z10), .ref z11, .ref z12, .ref z13, .ref z14, .ref z15, .int (nI z16), .ref z17, .int z18, .ref z19]))]) [0] rfl
                have hDc := hD.sub (ws' := [(za, .inr (13, [.int 0, .ref z1, .int (nI z2), .int (nI z3), .int z4, .int z5, .ref z6, .ref z7, .ref z8, .ref z9, .int (nI z10), .ref z11, .ref z12, .ref z13, .ref z14, .ref z15, .int (nI z16), .ref z17, .int z18, .ref z19]))]) [0] (by decide) rfl
                have hKc := hK.sub (tys' := []) [] rfl
                have hFc := va_free (wc := [(za, .inr (13, [.int 0, .ref z1, .int (nI z2), .int (nI z3), .int z4, .int z5, .ref z6, .ref z7, .ref z8, .ref z9, .int (nI z10), .ref z11, .ref z12, .ref z13, .ref z14, .ref z15, .int (nI z16), .ref z17, .int z18, .ref z19]))]) hD hS hA [0] rfl
                refine va_calli (va_runV (As := [.int 9]) (rest := []) ⟨hx, hb, hml, hown, hg⟩ (m_refused l D H_2.size za 0 z1 (nI z2) (nI z3) z4 z5 z6 z7 z8 z9 (nI z10) z11 z12 z13 z14 z15 (nI z16) z17 z18 z19 9) (cwV 1 hg (gV wd_725 wd_726 wd_727 wd_717 wd_728) rfl rfl rfl (by decide +kernel) ⟨(Nat.le_trans (Nat.le_of_ble_eq_true rfl) hRf), (Nat.le_trans (Nat.le_of_ble_eq_true rfl) hRl)⟩) ⟨Pr.blind, va_recv hK hP (ci := 13) (q0 := 0) rfl rfl, fun U hU hW => ⟨rfl, Pr.at hPc hKc hDc hN hU hW⟩⟩ rfl rfl hl.1 rfl (lv_room (Nat.le_of_ble_eq_true rfl)) dX13_end_99 ⟨(Nat.le_trans (Nat.le_of_ble_eq_true rfl) hRc), (Nat.le_trans (Nat.le_of_ble_eq_true rfl) hRs)⟩) hS (fun q _ h => hFc q h) hFc (fun r_77 M_78 t H_76 locs ht hvm hw hB hz1 hk1 hS => ?_)
                have hp_79 := hw
                obtain ⟨hP1, hK1, hD1⟩ := hB
                rw [ht] at hP1
                obtain ⟨hP, hD⟩ := va_joinQ (X := [(za, .inr (13, [.int 0, .ref z1, .int (nI z2), .int (nI z3), .int z4, .int z5, .ref z6, .ref z7, .ref z8, .ref z9, .int (nI z10), .ref z11, .ref z12, .ref z13, .ref z14, .ref z15, .int (nI z16), .ref z17, .int z18, .ref z19]))]) (cx := [(za, .inr (13, [.int 0, .ref z1, .int (nI z2), .int (nI z3), .int z4, .int z5, .ref z6, .ref z7, .ref z8, .ref z9, .int (nI z10), .ref z11, .ref z12, .ref z13, .ref z14, .ref z15, .int (nI z16), .ref z17, .int z18, .ref z19]))]) (wr := []) (w1 := [(za, .inr (13, [.int 0, .ref z1, .int (nI z2), .int (nI z3), .int 9, .int (-1), .ref z6, .ref z7, .ref z8, .ref z9, .int (nI z10), .ref z11, .ref z12, .ref z13, .ref z14, .ref z15, .int (nI z16), .ref z17, .int z18, .ref z19]))]) (pl := va_pl L M) hP hD [0] [] rfl rfl (by decide) (by decide) hk1 hFc hP1 hD1
                have hP : va_P D vwCl ([(za, .inr (13, [.int 0, .ref z1, .int (nI z2), .int (nI z3), .int 9, .int (-1), .ref z6, .ref z7, .ref z8, .ref z9, .int (nI z10), .ref z11, .ref z12, .ref z13, .ref z14, .ref z15, .int (nI z16), .ref z17, .int z18, .ref z19]))] ++ va_pl L M) H_76 := hP
                have hD : va_D A ([(za, .inr (13, [.int 0, .ref z1, .int (nI z2), .int (nI z3), .int 9, .int (-1), .ref z6, .ref z7, .ref z8, .ref z9, .int (nI z10), .ref z11, .ref z12, .ref z13, .ref z14, .ref z15, .int (nI z16), .ref z17, .int z18, .ref z19]))] ++ va_pl L M) := hD
                have hq := Eq.symm hp_79
                subst hq
                rw [hQ]
                exact W.iret (v := (-1)) hx hb hr (fun t ht hW9 => ⟨⟨(-1), M, rfl, ⟨hW, hF, hG, hGI, trivial⟩, ⟨9, (-1), by rw [ht]; exact hP, hD⟩⟩, hS.F ht⟩) hS.2.2 dX13_end_102
            · have hz := rfl (a := 0)
              have n_80 : ¬ k2 < 0 := gtN (c := ((c_25 + 1) + 99)) (by omega) (Int32.not_le.mp c_45)
              refine lv_aload_n hx hb dX13_end_81 rfl (lv_at hl 2 rfl) ?_
              refine lv_iconst (v := 3) hx hb dX13_end_82 (by decide) ?_
              have hPc := hP.sub (ws' := [(za, .inr (13, [.int 0, .ref z1, .int (nI z2), .int (nI z3), .int z4, .int z5, .ref z6, .ref z7, .ref z8, .ref z9, .int (nI z10), .ref z11, .ref z12, .ref z13, .ref z14, .ref z15, .int (nI z16), .ref z17, .int z18, .ref z19]))]) [0] rfl
              have hDc := hD.sub (ws' := [(za, .inr (13, [.int 0, .ref z1, .int (nI z2), .int (nI z3), .int z4, .int z5, .ref z6, .ref z7, .ref z8, .ref z9, .int (nI z10), .ref z11, .ref z12, .ref z13, .ref z14, .ref z15, .int (nI z16), .ref z17, .int z18, .ref z19]))]) [0] (by decide) rfl
              have hKc := hK.sub (tys' := []) [] rfl
              have hFc := va_free (wc := [(za, .inr (13, [.int 0, .ref z1, .int (nI z2), .int (nI z3), .int z4, .int z5, .ref z6, .ref z7, .ref z8, .ref z9, .int (nI z10), .ref z11, .ref z12, .ref z13, .ref z14, .ref z15, .int (nI z16), .ref z17, .int z18, .ref z19]))]) hD hS hA [0] rfl
              refine va_calli (va_runV (As := [.int 3]) (rest := []) ⟨hx, hb, hml, hown, hg⟩ (m_refused l D H_2.size za 0 z1 (nI z2) (nI z3) z4 z5 z6 z7 z8 z9 (nI z10) z11 z12 z13 z14 z15 (nI z16) z17 z18 z19 3) (cwV 1 hg (gV wd_725 wd_726 wd_727 wd_717 wd_728) rfl rfl rfl (by decide +kernel) ⟨(Nat.le_trans (Nat.le_of_ble_eq_true rfl) hRf), (Nat.le_trans (Nat.le_of_ble_eq_true rfl) hRl)⟩) ⟨Pr.blind, va_recv hK hP (ci := 13) (q0 := 0) rfl rfl, fun U hU hW => ⟨rfl, Pr.at hPc hKc hDc hN hU hW⟩⟩ rfl rfl hl.1 rfl (lv_room (Nat.le_of_ble_eq_true rfl)) dX13_end_83 ⟨(Nat.le_trans (Nat.le_of_ble_eq_true rfl) hRc), (Nat.le_trans (Nat.le_of_ble_eq_true rfl) hRs)⟩) hS (fun q _ h => hFc q h) hFc (fun r_82 M_83 t H_81 locs ht hvm hw hB hz1 hk1 hS => ?_)
              have hp_84 := hw
              obtain ⟨hP1, hK1, hD1⟩ := hB
              rw [ht] at hP1
              obtain ⟨hP, hD⟩ := va_joinQ (X := [(za, .inr (13, [.int 0, .ref z1, .int (nI z2), .int (nI z3), .int z4, .int z5, .ref z6, .ref z7, .ref z8, .ref z9, .int (nI z10), .ref z11, .ref z12, .ref z13, .ref z14, .ref z15, .int (nI z16), .ref z17, .int z18, .ref z19]))]) (cx := [(za, .inr (13, [.int 0, .ref z1, .int (nI z2), .int (nI z3), .int z4, .int z5, .ref z6, .ref z7, .ref z8, .ref z9, .int (nI z10), .ref z11, .ref z12, .ref z13, .ref z14, .ref z15, .int (nI z16), .ref z17, .int z18, .ref z19]))]) (wr := []) (w1 := [(za, .inr (13, [.int 0, .ref z1, .int (nI z2), .int (nI z3), .int 3, .int (-1), .ref z6, .ref z7, .ref z8, .ref z9, .int (nI z10), .ref z11, .ref z12, .ref z13, .ref z14, .ref z15, .int (nI z16), .ref z17, .int z18, .ref z19]))]) (pl := va_pl L M) hP hD [0] [] rfl rfl (by decide) (by decide) hk1 hFc hP1 hD1
              have hP : va_P D vwCl ([(za, .inr (13, [.int 0, .ref z1, .int (nI z2), .int (nI z3), .int 3, .int (-1), .ref z6, .ref z7, .ref z8, .ref z9, .int (nI z10), .ref z11, .ref z12, .ref z13, .ref z14, .ref z15, .int (nI z16), .ref z17, .int z18, .ref z19]))] ++ va_pl L M) H_81 := hP
              have hD : va_D A ([(za, .inr (13, [.int 0, .ref z1, .int (nI z2), .int (nI z3), .int 3, .int (-1), .ref z6, .ref z7, .ref z8, .ref z9, .int (nI z10), .ref z11, .ref z12, .ref z13, .ref z14, .ref z15, .int (nI z16), .ref z17, .int z18, .ref z19]))] ++ va_pl L M) := hD
              have hq := Eq.symm hp_84
              subst hq
              rw [hQ]
              exact W.iret (v := (-1)) hx hb hr (fun t ht hW9 => ⟨⟨(-1), M, rfl, ⟨hW, hF, hG, hGI, trivial⟩, ⟨3, (-1), by rw [ht]; exact hP, hD⟩⟩, hS.F ht⟩) hS.2.2 dX13_end_86
    · have hz := rfl (a := 0)
      have n_85 : v16 = 0 := (iEQ (a := v16) (b := 0) (by omega) (by omega)).mp c_20
      refine lv_aload_n hx hb dX13_end_33 rfl (lv_at hl 0 rfl) ?_
      refine pg_getN (D := D) (ci := 12) (v := .int (nI v15)) (C := RX12) (T := TX12) (N := 51) hx hb hg inG12 hown hK hP hb_13.1 hM14 rfl 0 (by decide) (hN.use (Cond.fieldLinkNest RX13 77 RX12 "first" "I" RX13) 9 rfl rfl) (fun _ h9 => h9) hv15 dX13_end_34 ?_
      have hpv : pv (fx M b11 0) (ax M b11 37) v16 = ((v15 : Nat) : Int) - 1 := by rw [pv_0 (by omega), hx0]
      refine lv_goto (tgt := 53) hx hb dX13_end_37 (by decide) ?_
      refine lv_istore (lv' := [(4, .int (nI v15)), (3, .ref b11), (0, .ref za), (1, .int k1), (2, .int k2)]) hx hb dX13_end_53 hl (by decide) rfl (fun ls hl => ?_)
      refine lv_iload_n hx hb dX13_end_55 rfl (lv_at hl 4 rfl) ?_
      refine lv_if_lt (tgt := 81) hx hb dX13_end_56 (by decide) (fun c_86 => ?_) (fun c_86 => ?_)
      · have hz := rfl (a := 0)
        refine lv_aload_n hx hb dX13_end_81 rfl (lv_at hl 2 rfl) ?_
        refine lv_iconst (v := 3) hx hb dX13_end_82 (by decide) ?_
        have hPc := hP.sub (ws' := [(za, .inr (13, [.int 0, .ref z1, .int (nI z2), .int (nI z3), .int z4, .int z5, .ref z6, .ref z7, .ref z8, .ref z9, .int (nI z10), .ref z11, .ref z12, .ref z13, .ref z14, .ref z15, .int (nI z16), .ref z17, .int z18, .ref z19]))]) [0] rfl
        have hDc := hD.sub (ws' := [(za, .inr (13, [.int 0, .ref z1, .int (nI z2), .int (nI z3), .int z4, .int z5, .ref z6, .ref z7, .ref z8, .ref z9, .int (nI z10), .ref z11, .ref z12, .ref z13, .ref z14, .ref z15, .int (nI z16), .ref z17, .int z18, .ref z19]))]) [0] (by decide) rfl
        have hKc := hK.sub (tys' := []) [] rfl
        have hFc := va_free (wc := [(za, .inr (13, [.int 0, .ref z1, .int (nI z2), .int (nI z3), .int z4, .int z5, .ref z6, .ref z7, .ref z8, .ref z9, .int (nI z10), .ref z11, .ref z12, .ref z13, .ref z14, .ref z15, .int (nI z16), .ref z17, .int z18, .ref z19]))]) hD hS hA [0] rfl
        refine va_calli (va_runV (As := [.int 3]) (rest := []) ⟨hx, hb, hml, hown, hg⟩ (m_refused l D H_2.size za 0 z1 (nI z2) (nI z3) z4 z5 z6 z7 z8 z9 (nI z10) z11 z12 z13 z14 z15 (nI z16) z17 z18 z19 3) (cwV 1 hg (gV wd_725 wd_726 wd_727 wd_717 wd_728) rfl rfl rfl (by decide +kernel) ⟨(Nat.le_trans (Nat.le_of_ble_eq_true rfl) hRf), (Nat.le_trans (Nat.le_of_ble_eq_true rfl) hRl)⟩) ⟨Pr.blind, va_recv hK hP (ci := 13) (q0 := 0) rfl rfl, fun U hU hW => ⟨rfl, Pr.at hPc hKc hDc hN hU hW⟩⟩ rfl rfl hl.1 rfl (lv_room (Nat.le_of_ble_eq_true rfl)) dX13_end_83 ⟨(Nat.le_trans (Nat.le_of_ble_eq_true rfl) hRc), (Nat.le_trans (Nat.le_of_ble_eq_true rfl) hRs)⟩) hS (fun q _ h => hFc q h) hFc (fun r_88 M_89 t H_87 locs ht hvm hw hB hz1 hk1 hS => ?_)
        have hp_90 := hw
        obtain ⟨hP1, hK1, hD1⟩ := hB
        rw [ht] at hP1
        obtain ⟨hP, hD⟩ := va_joinQ (X := [(za, .inr (13, [.int 0, .ref z1, .int (nI z2), .int (nI z3), .int z4, .int z5, .ref z6, .ref z7, .ref z8, .ref z9, .int (nI z10), .ref z11, .ref z12, .ref z13, .ref z14, .ref z15, .int (nI z16), .ref z17, .int z18, .ref z19]))]) (cx := [(za, .inr (13, [.int 0, .ref z1, .int (nI z2), .int (nI z3), .int z4, .int z5, .ref z6, .ref z7, .ref z8, .ref z9, .int (nI z10), .ref z11, .ref z12, .ref z13, .ref z14, .ref z15, .int (nI z16), .ref z17, .int z18, .ref z19]))]) (wr := []) (w1 := [(za, .inr (13, [.int 0, .ref z1, .int (nI z2), .int (nI z3), .int 3, .int (-1), .ref z6, .ref z7, .ref z8, .ref z9, .int (nI z10), .ref z11, .ref z12, .ref z13, .ref z14, .ref z15, .int (nI z16), .ref z17, .int z18, .ref z19]))]) (pl := va_pl L M) hP hD [0] [] rfl rfl (by decide) (by decide) hk1 hFc hP1 hD1
        have hP : va_P D vwCl ([(za, .inr (13, [.int 0, .ref z1, .int (nI z2), .int (nI z3), .int 3, .int (-1), .ref z6, .ref z7, .ref z8, .ref z9, .int (nI z10), .ref z11, .ref z12, .ref z13, .ref z14, .ref z15, .int (nI z16), .ref z17, .int z18, .ref z19]))] ++ va_pl L M) H_87 := hP
        have hD : va_D A ([(za, .inr (13, [.int 0, .ref z1, .int (nI z2), .int (nI z3), .int 3, .int (-1), .ref z6, .ref z7, .ref z8, .ref z9, .int (nI z10), .ref z11, .ref z12, .ref z13, .ref z14, .ref z15, .int (nI z16), .ref z17, .int z18, .ref z19]))] ++ va_pl L M) := hD
        have hq := Eq.symm hp_90
        subst hq
        rw [hQ]
        exact W.iret (v := (-1)) hx hb hr (fun t ht hW9 => ⟨⟨(-1), M, rfl, ⟨hW, hF, hG, hGI, trivial⟩, ⟨3, (-1), by rw [ht]; exact hP, hD⟩⟩, hS.F ht⟩) hS.2.2 dX13_end_86
      · have hz := rfl (a := 0)
        refine lv_iload_n hx hb dX13_end_59 rfl (lv_at hl 4 rfl) ?_
        refine lv_sipush (v := 1000) hx hb dX13_end_60 (by decide) ?_
        refine lv_icmp_ge (tgt := 81) hx hb dX13_end_63 (by decide) (fun c_91 => ?_) (fun c_91 => ?_)
        · have hz := rfl (a := 0)
          refine lv_aload_n hx hb dX13_end_81 rfl (lv_at hl 2 rfl) ?_
          refine lv_iconst (v := 3) hx hb dX13_end_82 (by decide) ?_
          have hPc := hP.sub (ws' := [(za, .inr (13, [.int 0, .ref z1, .int (nI z2), .int (nI z3), .int z4, .int z5, .ref z6, .ref z7, .ref z8, .ref z9, .int (nI z10), .ref z11, .ref z12, .ref z13, .ref z14, .ref z15, .int (nI z16), .ref z17, .int z18, .ref z19]))]) [0] rfl
          have hDc := hD.sub (ws' := [(za, .inr (13, [.int 0, .ref z1, .int (nI z2), .int (nI z3), .int z4, .int z5, .ref z6, .ref z7, .ref z8, .ref z9, .int (nI z10), .ref z11, .ref z12, .ref z13, .ref z14, .ref z15, .int (nI z16), .ref z17, .int z18, .ref z19]))]) [0] (by decide) rfl
          have hKc := hK.sub (tys' := []) [] rfl
          have hFc := va_free (wc := [(za, .inr (13, [.int 0, .ref z1, .int (nI z2), .int (nI z3), .int z4, .int z5, .ref z6, .ref z7, .ref z8, .ref z9, .int (nI z10), .ref z11, .ref z12, .ref z13, .ref z14, .ref z15, .int (nI z16), .ref z17, .int z18, .ref z19]))]) hD hS hA [0] rfl
          refine va_calli (va_runV (As := [.int 3]) (rest := []) ⟨hx, hb, hml, hown, hg⟩ (m_refused l D H_2.size za 0 z1 (nI z2) (nI z3) z4 z5 z6 z7 z8 z9 (nI z10) z11 z12 z13 z14 z15 (nI z16) z17 z18 z19 3) (cwV 1 hg (gV wd_725 wd_726 wd_727 wd_717 wd_728) rfl rfl rfl (by decide +kernel) ⟨(Nat.le_trans (Nat.le_of_ble_eq_true rfl) hRf), (Nat.le_trans (Nat.le_of_ble_eq_true rfl) hRl)⟩) ⟨Pr.blind, va_recv hK hP (ci := 13) (q0 := 0) rfl rfl, fun U hU hW => ⟨rfl, Pr.at hPc hKc hDc hN hU hW⟩⟩ rfl rfl hl.1 rfl (lv_room (Nat.le_of_ble_eq_true rfl)) dX13_end_83 ⟨(Nat.le_trans (Nat.le_of_ble_eq_true rfl) hRc), (Nat.le_trans (Nat.le_of_ble_eq_true rfl) hRs)⟩) hS (fun q _ h => hFc q h) hFc (fun r_93 M_94 t H_92 locs ht hvm hw hB hz1 hk1 hS => ?_)
          have hp_95 := hw
          obtain ⟨hP1, hK1, hD1⟩ := hB
          rw [ht] at hP1
          obtain ⟨hP, hD⟩ := va_joinQ (X := [(za, .inr (13, [.int 0, .ref z1, .int (nI z2), .int (nI z3), .int z4, .int z5, .ref z6, .ref z7, .ref z8, .ref z9, .int (nI z10), .ref z11, .ref z12, .ref z13, .ref z14, .ref z15, .int (nI z16), .ref z17, .int z18, .ref z19]))]) (cx := [(za, .inr (13, [.int 0, .ref z1, .int (nI z2), .int (nI z3), .int z4, .int z5, .ref z6, .ref z7, .ref z8, .ref z9, .int (nI z10), .ref z11, .ref z12, .ref z13, .ref z14, .ref z15, .int (nI z16), .ref z17, .int z18, .ref z19]))]) (wr := []) (w1 := [(za, .inr (13, [.int 0, .ref z1, .int (nI z2), .int (nI z3), .int 3, .int (-1), .ref z6, .ref z7, .ref z8, .ref z9, .int (nI z10), .ref z11, .ref z12, .ref z13, .ref z14, .ref z15, .int (nI z16), .ref z17, .int z18, .ref z19]))]) (pl := va_pl L M) hP hD [0] [] rfl rfl (by decide) (by decide) hk1 hFc hP1 hD1
          have hP : va_P D vwCl ([(za, .inr (13, [.int 0, .ref z1, .int (nI z2), .int (nI z3), .int 3, .int (-1), .ref z6, .ref z7, .ref z8, .ref z9, .int (nI z10), .ref z11, .ref z12, .ref z13, .ref z14, .ref z15, .int (nI z16), .ref z17, .int z18, .ref z19]))] ++ va_pl L M) H_92 := hP
          have hD : va_D A ([(za, .inr (13, [.int 0, .ref z1, .int (nI z2), .int (nI z3), .int 3, .int (-1), .ref z6, .ref z7, .ref z8, .ref z9, .int (nI z10), .ref z11, .ref z12, .ref z13, .ref z14, .ref z15, .int (nI z16), .ref z17, .int z18, .ref z19]))] ++ va_pl L M) := hD
          have hq := Eq.symm hp_95
          subst hq
          rw [hQ]
          exact W.iret (v := (-1)) hx hb hr (fun t ht hW9 => ⟨⟨(-1), M, rfl, ⟨hW, hF, hG, hGI, trivial⟩, ⟨3, (-1), by rw [ht]; exact hP, hD⟩⟩, hS.F ht⟩) hS.2.2 dX13_end_86
        · have hz := rfl (a := 0)
          refine lv_iload_n hx hb dX13_end_66 rfl (lv_at hl 4 rfl) ?_
          refine lv_iload hx hb dX13_end_67 (lv_at hl 0 rfl) ?_
          refine lv_icmp_lt (tgt := 81) hx hb dX13_end_69 (by decide) (fun c_96 => ?_) (fun c_96 => ?_)
          · have hz := rfl (a := 0)
            have n_97 : ¬ 999 ≤ k2 := ltB (b := 999) (by decide) hc15 c_96
            refine lv_aload_n hx hb dX13_end_81 rfl (lv_at hl 2 rfl) ?_
            refine lv_iconst (v := 3) hx hb dX13_end_82 (by decide) ?_
            have hPc := hP.sub (ws' := [(za, .inr (13, [.int 0, .ref z1, .int (nI z2), .int (nI z3), .int z4, .int z5, .ref z6, .ref z7, .ref z8, .ref z9, .int (nI z10), .ref z11, .ref z12, .ref z13, .ref z14, .ref z15, .int (nI z16), .ref z17, .int z18, .ref z19]))]) [0] rfl
            have hDc := hD.sub (ws' := [(za, .inr (13, [.int 0, .ref z1, .int (nI z2), .int (nI z3), .int z4, .int z5, .ref z6, .ref z7, .ref z8, .ref z9, .int (nI z10), .ref z11, .ref z12, .ref z13, .ref z14, .ref z15, .int (nI z16), .ref z17, .int z18, .ref z19]))]) [0] (by decide) rfl
            have hKc := hK.sub (tys' := []) [] rfl
            have hFc := va_free (wc := [(za, .inr (13, [.int 0, .ref z1, .int (nI z2), .int (nI z3), .int z4, .int z5, .ref z6, .ref z7, .ref z8, .ref z9, .int (nI z10), .ref z11, .ref z12, .ref z13, .ref z14, .ref z15, .int (nI z16), .ref z17, .int z18, .ref z19]))]) hD hS hA [0] rfl
            refine va_calli (va_runV (As := [.int 3]) (rest := []) ⟨hx, hb, hml, hown, hg⟩ (m_refused l D H_2.size za 0 z1 (nI z2) (nI z3) z4 z5 z6 z7 z8 z9 (nI z10) z11 z12 z13 z14 z15 (nI z16) z17 z18 z19 3) (cwV 1 hg (gV wd_725 wd_726 wd_727 wd_717 wd_728) rfl rfl rfl (by decide +kernel) ⟨(Nat.le_trans (Nat.le_of_ble_eq_true rfl) hRf), (Nat.le_trans (Nat.le_of_ble_eq_true rfl) hRl)⟩) ⟨Pr.blind, va_recv hK hP (ci := 13) (q0 := 0) rfl rfl, fun U hU hW => ⟨rfl, Pr.at hPc hKc hDc hN hU hW⟩⟩ rfl rfl hl.1 rfl (lv_room (Nat.le_of_ble_eq_true rfl)) dX13_end_83 ⟨(Nat.le_trans (Nat.le_of_ble_eq_true rfl) hRc), (Nat.le_trans (Nat.le_of_ble_eq_true rfl) hRs)⟩) hS (fun q _ h => hFc q h) hFc (fun r_99 M_100 t H_98 locs ht hvm hw hB hz1 hk1 hS => ?_)
            have hp_101 := hw
            obtain ⟨hP1, hK1, hD1⟩ := hB
            rw [ht] at hP1
            obtain ⟨hP, hD⟩ := va_joinQ (X := [(za, .inr (13, [.int 0, .ref z1, .int (nI z2), .int (nI z3), .int z4, .int z5, .ref z6, .ref z7, .ref z8, .ref z9, .int (nI z10), .ref z11, .ref z12, .ref z13, .ref z14, .ref z15, .int (nI z16), .ref z17, .int z18, .ref z19]))]) (cx := [(za, .inr (13, [.int 0, .ref z1, .int (nI z2), .int (nI z3), .int z4, .int z5, .ref z6, .ref z7, .ref z8, .ref z9, .int (nI z10), .ref z11, .ref z12, .ref z13, .ref z14, .ref z15, .int (nI z16), .ref z17, .int z18, .ref z19]))]) (wr := []) (w1 := [(za, .inr (13, [.int 0, .ref z1, .int (nI z2), .int (nI z3), .int 3, .int (-1), .ref z6, .ref z7, .ref z8, .ref z9, .int (nI z10), .ref z11, .ref z12, .ref z13, .ref z14, .ref z15, .int (nI z16), .ref z17, .int z18, .ref z19]))]) (pl := va_pl L M) hP hD [0] [] rfl rfl (by decide) (by decide) hk1 hFc hP1 hD1
            have hP : va_P D vwCl ([(za, .inr (13, [.int 0, .ref z1, .int (nI z2), .int (nI z3), .int 3, .int (-1), .ref z6, .ref z7, .ref z8, .ref z9, .int (nI z10), .ref z11, .ref z12, .ref z13, .ref z14, .ref z15, .int (nI z16), .ref z17, .int z18, .ref z19]))] ++ va_pl L M) H_98 := hP
            have hD : va_D A ([(za, .inr (13, [.int 0, .ref z1, .int (nI z2), .int (nI z3), .int 3, .int (-1), .ref z6, .ref z7, .ref z8, .ref z9, .int (nI z10), .ref z11, .ref z12, .ref z13, .ref z14, .ref z15, .int (nI z16), .ref z17, .int z18, .ref z19]))] ++ va_pl L M) := hD
            have hq := Eq.symm hp_101
            subst hq
            rw [hQ]
            exact W.iret (v := (-1)) hx hb hr (fun t ht hW9 => ⟨⟨(-1), M, rfl, ⟨hW, hF, hG, hGI, trivial⟩, ⟨3, (-1), by rw [ht]; exact hP, hD⟩⟩, hS.F ht⟩) hS.2.2 dX13_end_86
          · have hz := rfl (a := 0)
            refine lv_iload_n hx hb dX13_end_72 rfl (lv_at hl 4 rfl) ?_
            refine lv_iload hx hb dX13_end_73 (lv_at hl 0 rfl) ?_
            refine lv_bipush (v := 99) hx hb dX13_end_75 (by decide) ?_
            refine lv_iadd hx hb dX13_end_77 ?_
            refine lv_topi (fun f_102 ef_102 => ?_)
            obtain rfl : f_102 = (nI (v15 + 99)) := ef_102.trans (nI_add v15 99)
            refine lv_icmp_le (tgt := 87) hx hb dX13_end_78 (by decide) (fun c_103 => ?_) (fun c_103 => ?_)
            · have hz := rfl (a := 0)
              refine lv_aload_n hx hb dX13_end_87 rfl (lv_at hl 1 rfl) ?_
              refine pg_getN (D := D) (ci := 12) (v := .int (nI v16)) (C := RX12) (T := TX12) (N := 51) hx hb hg inG12 hown hK hP hb_13.1 hM14 rfl 12 (by decide) (hN.use (Cond.fieldLinkNest RX13 233 RX12 "years" "I" RX13) 21 rfl rfl) (fun _ h9 => h9) hv16 dX13_end_88 ?_
              refine lv_bipush (v := 12) hx hb dX13_end_91 (by decide) ?_
              refine lv_icmp_ne (tgt := 103) hx hb dX13_end_93 (by decide) (fun c_104 => ?_) (fun c_104 => absurd c_104 (by rw [c_20]; decide))
              refine lv_aload_n hx hb dX13_end_103 rfl (lv_at hl 1 rfl) ?_
              refine pg_getN (D := D) (ci := 12) (v := .ref v18) (C := RX12) (T := TX12) (N := 51) hx hb hg inG12 hown hK hP hb_13.1 hM14 rfl 37 (by decide) (hN.use (Cond.fieldLinkNest RX13 236 RX12 "end" "[I" RX13) 46 rfl rfl) (fun _ h9 => h9) hv18 dX13_end_104 ?_
              refine lv_aload_n hx hb dX13_end_107 rfl (lv_at hl 1 rfl) ?_
              refine pg_getN (D := D) (ci := 12) (v := .int (nI v16)) (C := RX12) (T := TX12) (N := 51) hx hb hg inG12 hown hK hP hb_13.1 hM14 rfl 12 (by decide) (hN.use (Cond.fieldLinkNest RX13 233 RX12 "years" "I" RX13) 21 rfl rfl) (fun _ h9 => h9) hv16 dX13_end_108 ?_
              refine lv_iload_n hx hb dX13_end_111 rfl (lv_at hl 4 rfl) ?_
              obtain ⟨j_105, hj_106, rfl⟩ := i32nat 1000 (by decide) c_86 c_91
              refine pg_iast hx hb hK hP hD hS hc18.1 0 hM19 rfl (inbN v16 12 (by omega) (by omega)) dX13_end_112 (fun H_107 locs hP hD hS => ?_)
              obtain ⟨M_108, eM_108⟩ : ∃ M1 : Hp, M1 = va_up M v18 (.inl (cy 14, 12, .inl (upd f19 ((nI v16) : Int32).toNatClampNeg (nI j_105)))) := ⟨_, rfl⟩
              have hy37 : (ax M b11 37) = f19 := (congrFun hV.2.2.1 37).symm.trans (ax_of hM14 (by decide) hv18 hM19)
              have hV : VW K L M M_108 b11 (fx M b11) (va_up (ax M b11) 37 (upd (ax M b11 37) ((nI v16) : Int32).toNatClampNeg (nI j_105))) := by rw [eM_108]; exact hV.ast (j := 37) hW hb_13 hM14 (by decide) hv18 hc18 hM19
              have hP : va_P D vwCl ([(za, .inr (13, [.int 0, .ref z1, .int (nI z2), .int (nI z3), .int z4, .int z5, .ref z6, .ref z7, .ref z8, .ref z9, .int (nI z10), .ref z11, .ref z12, .ref z13, .ref z14, .ref z15, .int (nI z16), .ref z17, .int z18, .ref z19]))] ++ va_pl L M_108) H_107 := by rw [eM_108]; exact hP
              have hD : va_D A ([(za, .inr (13, [.int 0, .ref z1, .int (nI z2), .int (nI z3), .int z4, .int z5, .ref z6, .ref z7, .ref z8, .ref z9, .int (nI z10), .ref z11, .ref z12, .ref z13, .ref z14, .ref z15, .int (nI z16), .ref z17, .int z18, .ref z19]))] ++ va_pl L M_108) := by rw [eM_108]; exact hD
              have hW : WOM cy K L M_108 := by rw [eM_108]; exact hW.up_38 hc18 ⟨_, rfl, (updP (P := fun z => ∃ c : Nat, c < 1000 ∧ z = nI c) hf19 ⟨j_105, by omega, rfl⟩)⟩
              have hF : fr K L [12, 38] M M_108 := by rw [eM_108]; exact hF.up hc18 (by decide)
              have hG : fG K L [12] M M_108 := by rw [eM_108]; exact hG.arr hc18 (by decide)
              have hM_109 : M_108 v18 = .inl (cy 14, 12, .inl (upd f19 ((nI v16) : Int32).toNatClampNeg (nI j_105))) := by rw [eM_108]; exact va_up_self _ _ _
              have hM_110 : M_108 z1 = .inl (cy 23, 8, .inr (.inr (.inr (.inr (f9))))) := by rw [eM_108, va_up_ne _ _ (i1.neT hc18 (by decide))]; exact hM9
              have hM_111 : M_108 b11 = .inr (12, fs14) := by rw [eM_108, va_up_ne _ _ (hb_13.neT hc18 (by decide))]; exact hM14
              have hf_113 : ∀ j, j < 12 → ∃ c : Nat, c < 1000 ∧ (upd f19 ((nI v16) : Int32).toNatClampNeg (nI j_105)) j = nI c := (updP (P := fun z => ∃ c : Nat, c < 1000 ∧ z = nI c) hf19 ⟨j_105, by omega, rfl⟩)
              obtain ⟨f_112, ef_112⟩ : ∃ f : Nat → Int32, f = upd f19 ((nI v16) : Int32).toNatClampNeg (nI j_105) := ⟨_, rfl⟩
              rw [← ef_112] at hM_109 hf_113
              refine lv_aload_n hx hb dX13_end_113 rfl (lv_at hl 1 rfl) ?_
              refine lv_dup hx hb dX13_end_114 rfl ?_
              refine pg_getN (D := D) (ci := 12) (v := .int (nI v16)) (C := RX12) (T := TX12) (N := 51) hx hb hg inG12 hown hK hP hb_13.1 hM_111 rfl 12 (by decide) (hN.use (Cond.fieldLinkNest RX13 233 RX12 "years" "I" RX13) 21 rfl rfl) (fun _ h9 => h9) hv16 dX13_end_115 ?_
              refine lv_iconst (v := 1) hx hb dX13_end_118 (by decide) ?_
              refine lv_iadd hx hb dX13_end_119 ?_
              refine lv_topi (fun f_114 ef_114 => ?_)
              obtain rfl : f_114 = (nI (v16 + 1)) := ef_114.trans (nI_add v16 1)
              refine pg_putN (D := D) (ci := 12) (v := .int (nI (v16 + 1))) (ty := .int) (C := RX12) (T := TX12) (N := 51) hx hb hg inG12 tyX12 tyX12_ok nmX12 hown hK hP hD hS hb_13.1 hM_111 rfl 12 (by decide) (hN.use (Cond.fieldLinkNest RX13 233 RX12 "years" "I" RX13) 21 rfl rfl) (fun _ h9 => h9) rfl (by decide +kernel) rfl rfl (by rw [hn14]; decide) dX13_end_120 (fun H_115 locs hP hD hS => ?_)
              have hs_118 : (fs14.set 12 (.int (nI (v16 + 1))))[12]? = some (.int (nI (v16 + 1))) := List.getElem?_set_self (by rw [hn14]; decide)
              have hk_117 := fld12_set (k := 12) (w := .int (nI (v16 + 1))) hl14 (show fld12 K L 12 (fs14.set 12 (.int (nI (v16 + 1)))) from ⟨(v16 + 1), hs_118, by omega⟩)
              have hn_119 : (fs14.set 12 (.int (nI (v16 + 1)))).length = 51 := by rw [List.length_set]; exact hn14
              have hv_120 : (fs14.set 12 (.int (nI (v16 + 1))))[0]? = some (.int (nI v15)) := by rw [List.getElem?_set_ne (by decide)]; exact hv15
              have hv_121 : (fs14.set 12 (.int (nI (v16 + 1))))[13]? = some (.int (nI v17)) := by rw [List.getElem?_set_ne (by decide)]; exact hv17
              have hv_122 : (fs14.set 12 (.int (nI (v16 + 1))))[37]? = some (.ref v18) := by rw [List.getElem?_set_ne (by decide)]; exact hv18
              have hb_123 : (v16 + 1) ≤ 12 := by omega
              obtain ⟨M_124, eM_124⟩ : ∃ M1 : Hp, M1 = va_up M_108 b11 (.inr (12, fs14.set 12 (.int (nI (v16 + 1))))) := ⟨_, rfl⟩
              have hx12 : (fx M b11 12) = ((v16 : Nat) : Int) := (congrFun hV.2.1 12).symm.trans ((fx_of hM_111 rfl hv16).trans (nI_toInt (by omega)))
              have hV : VW K L M M_124 b11 (va_up (fx M b11) 12 (((v16 + 1) : Nat) : Int)) (va_up (ax M b11) 37 (upd (ax M b11 37) ((nI v16) : Int32).toNatClampNeg (nI j_105))) := by rw [eM_124]; exact hV.put hW hb_13 hM_111 hn14 rfl (by decide) rfl (nI_toInt (by omega))
              have hP : va_P D vwCl ([(za, .inr (13, [.int 0, .ref z1, .int (nI z2), .int (nI z3), .int z4, .int z5, .ref z6, .ref z7, .ref z8, .ref z9, .int (nI z10), .ref z11, .ref z12, .ref z13, .ref z14, .ref z15, .int (nI z16), .ref z17, .int z18, .ref z19]))] ++ va_pl L M_124) H_115 := by rw [eM_124]; exact hP
              have hD : va_D A ([(za, .inr (13, [.int 0, .ref z1, .int (nI z2), .int (nI z3), .int z4, .int z5, .ref z6, .ref z7, .ref z8, .ref z9, .int (nI z10), .ref z11, .ref z12, .ref z13, .ref z14, .ref z15, .int (nI z16), .ref z17, .int z18, .ref z19]))] ++ va_pl L M_124) := by rw [eM_124]; exact hD
              have hW : WOM cy K L M_124 := by rw [eM_124]; exact hW.up_12 hb_13 ⟨_, rfl, hn_119, hk_117⟩
              have hF : fr K L [12, 38] M M_124 := by rw [eM_124]; exact hF.up hb_13 (by decide)
              have hG : fG K L [12] M M_124 := by rw [eM_124]; exact hG.up hM_111 (by decide)
              have hM_125 : M_124 b11 = .inr (12, fs14.set 12 (.int (nI (v16 + 1)))) := by rw [eM_124]; exact va_up_self _ _ _
              have hM_126 : M_124 v18 = .inl (cy 14, 12, .inl (f_112)) := by rw [eM_124, va_up_ne _ _ (hc18.neT hb_13 (by decide))]; exact hM_109
              have hM_127 : M_124 z1 = .inl (cy 23, 8, .inr (.inr (.inr (.inr (f9))))) := by rw [eM_124, va_up_ne _ _ (i1.neT hb_13 (by decide))]; exact hM_110
              refine lv_aload_n hx hb dX13_end_123 rfl (lv_at hl 2 rfl) ?_
              refine lv_aload_n hx hb dX13_end_124 rfl (lv_at hl 1 rfl) ?_
              refine pg_getN (D := D) (ci := 12) (v := .int (nI (v16 + 1))) (C := RX12) (T := TX12) (N := 51) hx hb hg inG12 hown hK hP hb_13.1 hM_125 rfl 12 (by decide) (hN.use (Cond.fieldLinkNest RX13 233 RX12 "years" "I" RX13) 21 rfl rfl) (fun _ h9 => h9) hs_118 dX13_end_125 ?_
              have hPc := hP.sub (ws' := [(za, .inr (13, [.int 0, .ref z1, .int (nI z2), .int (nI z3), .int z4, .int z5, .ref z6, .ref z7, .ref z8, .ref z9, .int (nI z10), .ref z11, .ref z12, .ref z13, .ref z14, .ref z15, .int (nI z16), .ref z17, .int z18, .ref z19]))]) [0] rfl
              have hDc := hD.sub (ws' := [(za, .inr (13, [.int 0, .ref z1, .int (nI z2), .int (nI z3), .int z4, .int z5, .ref z6, .ref z7, .ref z8, .ref z9, .int (nI z10), .ref z11, .ref z12, .ref z13, .ref z14, .ref z15, .int (nI z16), .ref z17, .int z18, .ref z19]))]) [0] (by decide) rfl
              have hKc := hK.sub (tys' := []) [] rfl
              have hFc := va_free (wc := [(za, .inr (13, [.int 0, .ref z1, .int (nI z2), .int (nI z3), .int z4, .int z5, .ref z6, .ref z7, .ref z8, .ref z9, .int (nI z10), .ref z11, .ref z12, .ref z13, .ref z14, .ref z15, .int (nI z16), .ref z17, .int z18, .ref z19]))]) hD hS hA [0] rfl
              refine va_calli (va_runV (As := [.int (nI (v16 + 1))]) (rest := []) ⟨hx, hb, hml, hown, hg⟩ (m_done l D H_115.size za 0 z1 (nI z2) (nI z3) z4 z5 z6 z7 z8 z9 (nI z10) z11 z12 z13 z14 z15 (nI z16) z17 z18 z19 (nI (v16 + 1))) (cwV 1 hg (gV wd_730 wd_731 wd_732 wd_717 wd_733) rfl rfl rfl (by decide +kernel) ⟨(Nat.le_trans (Nat.le_of_ble_eq_true rfl) hRf), (Nat.le_trans (Nat.le_of_ble_eq_true rfl) hRl)⟩) ⟨Pr.blind, va_recv hK hP (ci := 13) (q0 := 0) rfl rfl, fun U hU hW => ⟨rfl, Pr.at hPc hKc hDc hN hU hW⟩⟩ rfl rfl hl.1 rfl (lv_room (Nat.le_of_ble_eq_true rfl)) dX13_end_128 ⟨(Nat.le_trans (Nat.le_of_ble_eq_true rfl) hRc), (Nat.le_trans (Nat.le_of_ble_eq_true rfl) hRs)⟩) hS (fun q _ h => hFc q h) hFc (fun r_129 M_130 t H_128 locs ht hvm hw hB hz1 hk1 hS => ?_)
              have hp_131 := hw
              obtain ⟨hP1, hK1, hD1⟩ := hB
              rw [ht] at hP1
              obtain ⟨hP, hD⟩ := va_joinQ (X := [(za, .inr (13, [.int 0, .ref z1, .int (nI z2), .int (nI z3), .int z4, .int z5, .ref z6, .ref z7, .ref z8, .ref z9, .int (nI z10), .ref z11, .ref z12, .ref z13, .ref z14, .ref z15, .int (nI z16), .ref z17, .int z18, .ref z19]))]) (cx := [(za, .inr (13, [.int 0, .ref z1, .int (nI z2), .int (nI z3), .int z4, .int z5, .ref z6, .ref z7, .ref z8, .ref z9, .int (nI z10), .ref z11, .ref z12, .ref z13, .ref z14, .ref z15, .int (nI z16), .ref z17, .int z18, .ref z19]))]) (wr := []) (w1 := [(za, .inr (13, [.int 0, .ref z1, .int (nI z2), .int (nI z3), .int 0, .int (-1), .ref z6, .ref z7, .ref z8, .ref z9, .int (nI z10), .ref z11, .ref z12, .ref z13, .ref z14, .ref z15, .int (nI z16), .ref z17, .int z18, .ref z19]))]) (pl := va_pl L M_124) hP hD [0] [] rfl rfl (by decide) (by decide) hk1 hFc hP1 hD1
              have hP : va_P D vwCl ([(za, .inr (13, [.int 0, .ref z1, .int (nI z2), .int (nI z3), .int 0, .int (-1), .ref z6, .ref z7, .ref z8, .ref z9, .int (nI z10), .ref z11, .ref z12, .ref z13, .ref z14, .ref z15, .int (nI z16), .ref z17, .int z18, .ref z19]))] ++ va_pl L M_124) H_128 := hP
              have hD : va_D A ([(za, .inr (13, [.int 0, .ref z1, .int (nI z2), .int (nI z3), .int 0, .int (-1), .ref z6, .ref z7, .ref z8, .ref z9, .int (nI z10), .ref z11, .ref z12, .ref z13, .ref z14, .ref z15, .int (nI z16), .ref z17, .int z18, .ref z19]))] ++ va_pl L M_124) := hD
              have hq := Eq.symm hp_131
              subst hq
              have hA9 : HA (ax M b11 2) (ax M b11 3) := hAT.1
              have hB9 : HB (fx M b11 16) (fx M b11 14) (ax M b11 3) (ax M b11 43) := hAT.2.1
              have hC9 : HC (fx M b11 10) (ax M b11 22) (ax M b11 23) := hAT.2.2.1
              have hD9 : HD (fx M b11 0) (fx M b11 11) (fx M b11 15) (ax M b11 34) (ax M b11 41) := hAT.2.2.2.1
              have hE9 : HE (fx M b11 0) (fx M b11 1) (((v16 + 1) : Nat) : Int) (fx M b11 13) (upd (ax M b11 37) ((nI v16) : Int32).toNatClampNeg (nI j_105)) := HE.fin hAT.2.2.2.2 hx12 (by omega) (nI_cl (by omega)) (by rw [hx13]; omega) (by have h := geI c_96 (by omega); omega) (by have h := leI2 c_103 (by omega); omega)
              have hH9 : HI (va_up (fx M b11) 12 (((v16 + 1) : Nat) : Int)) (va_up (ax M b11) 37 (upd (ax M b11 37) ((nI v16) : Int32).toNatClampNeg (nI j_105))) := ⟨hA9, hB9, hC9, hD9, hE9⟩
              have hGI9 : GI K L z1 z2 M_124 := GI.fin hW0 i1 b2 hGI hact hV (hF.at i1 (by decide)) hH9
              rw [hQ]
              exact W.iret (v := (nI (v16 + 1))) hx hb hr (fun t ht hW9 => ⟨⟨(nI (v16 + 1)), M_124, rfl, ⟨hW, hF, hG, hGI9, trivial⟩, ⟨0, (-1), by rw [ht]; exact hP, hD⟩⟩, hS.F ht⟩) hS.2.2 dX13_end_131
            · have hz := rfl (a := 0)
              have n_132 : ¬ k2 < 0 := gtN (c := (v15 + 99)) (by omega) (Int32.not_le.mp c_103)
              refine lv_aload_n hx hb dX13_end_81 rfl (lv_at hl 2 rfl) ?_
              refine lv_iconst (v := 3) hx hb dX13_end_82 (by decide) ?_
              have hPc := hP.sub (ws' := [(za, .inr (13, [.int 0, .ref z1, .int (nI z2), .int (nI z3), .int z4, .int z5, .ref z6, .ref z7, .ref z8, .ref z9, .int (nI z10), .ref z11, .ref z12, .ref z13, .ref z14, .ref z15, .int (nI z16), .ref z17, .int z18, .ref z19]))]) [0] rfl
              have hDc := hD.sub (ws' := [(za, .inr (13, [.int 0, .ref z1, .int (nI z2), .int (nI z3), .int z4, .int z5, .ref z6, .ref z7, .ref z8, .ref z9, .int (nI z10), .ref z11, .ref z12, .ref z13, .ref z14, .ref z15, .int (nI z16), .ref z17, .int z18, .ref z19]))]) [0] (by decide) rfl
              have hKc := hK.sub (tys' := []) [] rfl
              have hFc := va_free (wc := [(za, .inr (13, [.int 0, .ref z1, .int (nI z2), .int (nI z3), .int z4, .int z5, .ref z6, .ref z7, .ref z8, .ref z9, .int (nI z10), .ref z11, .ref z12, .ref z13, .ref z14, .ref z15, .int (nI z16), .ref z17, .int z18, .ref z19]))]) hD hS hA [0] rfl
              refine va_calli (va_runV (As := [.int 3]) (rest := []) ⟨hx, hb, hml, hown, hg⟩ (m_refused l D H_2.size za 0 z1 (nI z2) (nI z3) z4 z5 z6 z7 z8 z9 (nI z10) z11 z12 z13 z14 z15 (nI z16) z17 z18 z19 3) (cwV 1 hg (gV wd_725 wd_726 wd_727 wd_717 wd_728) rfl rfl rfl (by decide +kernel) ⟨(Nat.le_trans (Nat.le_of_ble_eq_true rfl) hRf), (Nat.le_trans (Nat.le_of_ble_eq_true rfl) hRl)⟩) ⟨Pr.blind, va_recv hK hP (ci := 13) (q0 := 0) rfl rfl, fun U hU hW => ⟨rfl, Pr.at hPc hKc hDc hN hU hW⟩⟩ rfl rfl hl.1 rfl (lv_room (Nat.le_of_ble_eq_true rfl)) dX13_end_83 ⟨(Nat.le_trans (Nat.le_of_ble_eq_true rfl) hRc), (Nat.le_trans (Nat.le_of_ble_eq_true rfl) hRs)⟩) hS (fun q _ h => hFc q h) hFc (fun r_134 M_135 t H_133 locs ht hvm hw hB hz1 hk1 hS => ?_)
              have hp_136 := hw
              obtain ⟨hP1, hK1, hD1⟩ := hB
              rw [ht] at hP1
              obtain ⟨hP, hD⟩ := va_joinQ (X := [(za, .inr (13, [.int 0, .ref z1, .int (nI z2), .int (nI z3), .int z4, .int z5, .ref z6, .ref z7, .ref z8, .ref z9, .int (nI z10), .ref z11, .ref z12, .ref z13, .ref z14, .ref z15, .int (nI z16), .ref z17, .int z18, .ref z19]))]) (cx := [(za, .inr (13, [.int 0, .ref z1, .int (nI z2), .int (nI z3), .int z4, .int z5, .ref z6, .ref z7, .ref z8, .ref z9, .int (nI z10), .ref z11, .ref z12, .ref z13, .ref z14, .ref z15, .int (nI z16), .ref z17, .int z18, .ref z19]))]) (wr := []) (w1 := [(za, .inr (13, [.int 0, .ref z1, .int (nI z2), .int (nI z3), .int 3, .int (-1), .ref z6, .ref z7, .ref z8, .ref z9, .int (nI z10), .ref z11, .ref z12, .ref z13, .ref z14, .ref z15, .int (nI z16), .ref z17, .int z18, .ref z19]))]) (pl := va_pl L M) hP hD [0] [] rfl rfl (by decide) (by decide) hk1 hFc hP1 hD1
              have hP : va_P D vwCl ([(za, .inr (13, [.int 0, .ref z1, .int (nI z2), .int (nI z3), .int 3, .int (-1), .ref z6, .ref z7, .ref z8, .ref z9, .int (nI z10), .ref z11, .ref z12, .ref z13, .ref z14, .ref z15, .int (nI z16), .ref z17, .int z18, .ref z19]))] ++ va_pl L M) H_133 := hP
              have hD : va_D A ([(za, .inr (13, [.int 0, .ref z1, .int (nI z2), .int (nI z3), .int 3, .int (-1), .ref z6, .ref z7, .ref z8, .ref z9, .int (nI z10), .ref z11, .ref z12, .ref z13, .ref z14, .ref z15, .int (nI z16), .ref z17, .int z18, .ref z19]))] ++ va_pl L M) := hD
              have hq := Eq.symm hp_136
              subst hq
              rw [hQ]
              exact W.iret (v := (-1)) hx hb hr (fun t ht hW9 => ⟨⟨(-1), M, rfl, ⟨hW, hF, hG, hGI, trivial⟩, ⟨3, (-1), by rw [ht]; exact hP, hD⟩⟩, hS.F ht⟩) hS.2.2 dX13_end_86
  · have hz := rfl (a := 0)
    refine lv_if_ne (tgt := 19) hx hb dX13_end_10 (by decide) (fun c_137 => absurd c_137 (by decide)) (fun _ => ?_)
    refine lv_aload_n hx hb dX13_end_13 rfl (lv_at hl 0 rfl) ?_
    refine lv_iconst (v := 1) hx hb dX13_end_14 (by decide) ?_
    have hPc := hP.sub (ws' := [(za, .inr (13, [.int 0, .ref z1, .int (nI z2), .int (nI z3), .int z4, .int z5, .ref z6, .ref z7, .ref z8, .ref z9, .int (nI z10), .ref z11, .ref z12, .ref z13, .ref z14, .ref z15, .int (nI z16), .ref z17, .int z18, .ref z19]))]) [0] rfl
    have hDc := hD.sub (ws' := [(za, .inr (13, [.int 0, .ref z1, .int (nI z2), .int (nI z3), .int z4, .int z5, .ref z6, .ref z7, .ref z8, .ref z9, .int (nI z10), .ref z11, .ref z12, .ref z13, .ref z14, .ref z15, .int (nI z16), .ref z17, .int z18, .ref z19]))]) [0] (by decide) rfl
    have hKc := hK.sub (tys' := []) [] rfl
    have hFc := va_free (wc := [(za, .inr (13, [.int 0, .ref z1, .int (nI z2), .int (nI z3), .int z4, .int z5, .ref z6, .ref z7, .ref z8, .ref z9, .int (nI z10), .ref z11, .ref z12, .ref z13, .ref z14, .ref z15, .int (nI z16), .ref z17, .int z18, .ref z19]))]) hD hS hA [0] rfl
    refine va_calli (va_runV (As := [.int 1]) (rest := []) ⟨hx, hb, hml, hown, hg⟩ (m_refused l D H_2.size za 0 z1 (nI z2) (nI z3) z4 z5 z6 z7 z8 z9 (nI z10) z11 z12 z13 z14 z15 (nI z16) z17 z18 z19 1) (cwV 1 hg (gV wd_725 wd_726 wd_727 wd_717 wd_728) rfl rfl rfl (by decide +kernel) ⟨(Nat.le_trans (Nat.le_of_ble_eq_true rfl) hRf), (Nat.le_trans (Nat.le_of_ble_eq_true rfl) hRl)⟩) ⟨Pr.blind, va_recv hK hP (ci := 13) (q0 := 0) rfl rfl, fun U hU hW => ⟨rfl, Pr.at hPc hKc hDc hN hU hW⟩⟩ rfl rfl hl.1 rfl (lv_room (Nat.le_of_ble_eq_true rfl)) dX13_end_15 ⟨(Nat.le_trans (Nat.le_of_ble_eq_true rfl) hRc), (Nat.le_trans (Nat.le_of_ble_eq_true rfl) hRs)⟩) hS (fun q _ h => hFc q h) hFc (fun r_139 M_140 t H_138 locs ht hvm hw hB hz1 hk1 hS => ?_)
    have hp_141 := hw
    obtain ⟨hP1, hK1, hD1⟩ := hB
    rw [ht] at hP1
    obtain ⟨hP, hD⟩ := va_joinQ (X := [(za, .inr (13, [.int 0, .ref z1, .int (nI z2), .int (nI z3), .int z4, .int z5, .ref z6, .ref z7, .ref z8, .ref z9, .int (nI z10), .ref z11, .ref z12, .ref z13, .ref z14, .ref z15, .int (nI z16), .ref z17, .int z18, .ref z19]))]) (cx := [(za, .inr (13, [.int 0, .ref z1, .int (nI z2), .int (nI z3), .int z4, .int z5, .ref z6, .ref z7, .ref z8, .ref z9, .int (nI z10), .ref z11, .ref z12, .ref z13, .ref z14, .ref z15, .int (nI z16), .ref z17, .int z18, .ref z19]))]) (wr := []) (w1 := [(za, .inr (13, [.int 0, .ref z1, .int (nI z2), .int (nI z3), .int 1, .int (-1), .ref z6, .ref z7, .ref z8, .ref z9, .int (nI z10), .ref z11, .ref z12, .ref z13, .ref z14, .ref z15, .int (nI z16), .ref z17, .int z18, .ref z19]))]) (pl := va_pl L M) hP hD [0] [] rfl rfl (by decide) (by decide) hk1 hFc hP1 hD1
    have hP : va_P D vwCl ([(za, .inr (13, [.int 0, .ref z1, .int (nI z2), .int (nI z3), .int 1, .int (-1), .ref z6, .ref z7, .ref z8, .ref z9, .int (nI z10), .ref z11, .ref z12, .ref z13, .ref z14, .ref z15, .int (nI z16), .ref z17, .int z18, .ref z19]))] ++ va_pl L M) H_138 := hP
    have hD : va_D A ([(za, .inr (13, [.int 0, .ref z1, .int (nI z2), .int (nI z3), .int 1, .int (-1), .ref z6, .ref z7, .ref z8, .ref z9, .int (nI z10), .ref z11, .ref z12, .ref z13, .ref z14, .ref z15, .int (nI z16), .ref z17, .int z18, .ref z19]))] ++ va_pl L M) := hD
    have hq := Eq.symm hp_141
    subst hq
    rw [hQ]
    exact W.iret (v := (-1)) hx hb hr (fun t ht hW9 => ⟨⟨(-1), M, rfl, ⟨hW, hF, hG, hGI, trivial⟩, ⟨1, (-1), by rw [ht]; exact hP, hD⟩⟩, hS.F ht⟩) hS.2.2 dX13_end_18
set_option maxHeartbeats 4000000 in
set_option maxRecDepth 100000 in
theorem g_X13_mend (l : Launch) (D : va_G) (cy : Nat → ClassId) (K : Kp) (L : List Nat) (M : Hp) (sz : Nat) (za : Nat) (z0 : Int32) (z1 : Nat) (z2 : Nat) (z3 : Nat) (z4 : Int32) (z5 : Int32) (z6 : Nat) (z7 : Nat) (z8 : Nat) (z9 : Nat) (z10 : Nat) (z11 : Nat) (z12 : Nat) (z13 : Nat) (z14 : Nat) (z15 : Nat) (z16 : Nat) (z17 : Nat) (z18 : Int32) (z19 : Nat) (k1 : Int32) (k2 : Int32) (k3 : Int32) (hW : WOM cy K L M) (i1 : isk K L z1 23 8) (b2 : z2 ≤ 8) (b3 : z3 ≤ 40) (i6 : isk K L z6 47 40) (i7 : isk K L z7 48 40) (i8 : isk K L z8 49 8) (i9 : isk K L z9 50 8) (b10 : z10 ≤ 8) (i11 : isk K L z11 32 24) (i12 : isk K L z12 14 24) (i13 : isk K L z13 15 24) (i14 : isk K L z14 15 24) (i15 : isk K L z15 15 24) (b16 : z16 ≤ 24) (i17 : isk K L z17 14 24) (i19 : isk K L z19 15 25) (hGI : GI K L z1 z2 M) : Met l yX13_mend (wsM yX13_mend cX13_mend 5 (some .int)) ({ frames := 1, cells := 0, slots := 0, locals := 21 }) (va_Pc [.ref za, .int k1, .int k2, .int k3] (PG D cy [(za, .inr (13, [.int z0, .ref z1, .int (nI z2), .int (nI z3), .int z4, .int z5, .ref z6, .ref z7, .ref z8, .ref z9, .int (nI z10), .ref z11, .ref z12, .ref z13, .ref z14, .ref z15, .int (nI z16), .ref z17, .int z18, .ref z19]))] L M sz)) (va_Qi (fun (r : Int32) (M9 : Hp) => WOM cy K L M9 ∧ fr K L [12, 14, 44, 82] M M9 ∧ fG K L [15] M M9 ∧ (GI K L z1 z2 M9) ∧ (True)) (fun M9 t => ∃ (w4 : Int32) (w5 : Int32), PQ D [(za, .inr (13, [.int 0, .ref z1, .int (nI z2), .int (nI z3), .int w4, .int w5, .ref z6, .ref z7, .ref z8, .ref z9, .int (nI z10), .ref z11, .ref z12, .ref z13, .ref z14, .ref z15, .int (nI z16), .ref z17, .int z18, .ref z19]))] L M9 (va_A ([(za, .inr (13, [.int z0, .ref z1, .int (nI z2), .int (nI z3), .int z4, .int z5, .ref z6, .ref z7, .ref z8, .ref z9, .int (nI z10), .ref z11, .ref z12, .ref z13, .ref z14, .ref z15, .int (nI z16), .ref z17, .int z18, .ref z19]))] ++ va_pl L M) sz) t) (va_A ([(za, .inr (13, [.int z0, .ref z1, .int (nI z2), .int (nI z3), .int z4, .int z5, .ref z6, .ref z7, .ref z8, .ref z9, .int (nI z10), .ref z11, .ref z12, .ref z13, .ref z14, .ref z15, .int (nI z16), .ref z17, .int z18, .ref z19]))] ++ va_pl L M) sz)) 0 0 (va_A ([(za, .inr (13, [.int z0, .ref z1, .int (nI z2), .int (nI z3), .int z4, .int z5, .ref z6, .ref z7, .ref z8, .ref z9, .int (nI z10), .ref z11, .ref z12, .ref z13, .ref z14, .ref z15, .int (nI z16), .ref z17, .int z18, .ref z19]))] ++ va_pl L M) sz) := by
  refine Met.ofW (cc := cX13_mend) (maxL := 5) (ret := (some .int)) (by decide) rfl ?_
  intro p e s m args below meth c s₁ B hml hv
  obtain ⟨rfl, hsz, hP, hK, hD0, hN⟩ := hv
  have hx := B.exec
  have hb := B.bytes
  have hr := B.returns
  have hts := atoms_spec (ws := (wsM yX13_mend cX13_mend 5 (some .int))) B.pre
  have hg : ∀ w ∈ lw_good, w.before _ s = true := fun w h => hts w (List.mem_cons_of_mem _ h)
  have hown : s.vm.findClass RX13 = some m.cls := findClass_of_methodNamed B.named
  have hlocks := B.notSynchronized
  subst hsz
  have hD := hD0.self (sz := s.heap.size)
  generalize hAe : va_A ([(za, .inr (13, [.int z0, .ref z1, .int (nI z2), .int (nI z3), .int z4, .int z5, .ref z6, .ref z7, .ref z8, .ref z9, .int (nI z10), .ref z11, .ref z12, .ref z13, .ref z14, .ref z15, .int (nI z16), .ref z17, .int z18, .ref z19]))] ++ va_pl L M) s.heap.size = A at hD ⊢
  have hA : ∀ q : Nat, s.heap.size ≤ q → A q := fun q h => by rw [← hAe]; exact Or.inr h
  have hS : va_S A s.heap s.heap [] := va_S.rf
  have hl := lv_entry ([.ref za, .int k1, .int k2, .int k3]) (n := 5) (Nat.le_of_ble_eq_true rfl)
  rw [lg_entry_eq]
  generalize (lg_sl ([.ref za, .int k1, .int k2, .int k3]) ++ List.replicate (5 - (lg_sl ([.ref za, .int k1, .int k2, .int k3])).length) Slot.unset).toArray = ls at hl ⊢
  refine W.nameQ (fun Q hQ => ?_)
  refine W.nameR (fun R hR => ?_)
  have hRf : 1 ≤ R.frames := by rw [hR]; exact Nat.le_of_ble_eq_true rfl
  have hRl : 21 ≤ R.locals := by rw [hR]; exact Nat.le_of_ble_eq_true rfl
  have hRc : 0 ≤ R.cells := by rw [hR]; exact Nat.le_of_ble_eq_true rfl
  have hRs : 0 ≤ R.slots := by rw [hR]; exact Nat.le_of_ble_eq_true rfl
  have hF : fr K L [12, 14, 44, 82] M M := fr.rf
  have hG : fG K L [15] M M := fG.rf
  have hl : lv_has ls 5 [(0, .ref za), (1, .int k1), (2, .int k2), (3, .int k3)] := hl
  have hW0 := hW
  refine lv_aload_n hx hb dX13_mend_0 rfl (lv_at hl 0 rfl) ?_
  refine lv_iconst (v := 0) hx hb dX13_mend_1 (by decide) ?_
  refine va_put (D := D) (ci := 13) (v := .int 0) (ty := .int) (C := RX13) (T := TX13) (N := 20) hx hb hg inG13 tyX13 tyX13_ok nmX13 hown hK hP hD hS 0 rfl rfl 0 (by decide) (hg _ wd_720) (fun _ h9 => h9) rfl (by decide +kernel) rfl rfl (Nat.le_of_ble_eq_true rfl) dX13_mend_2 (fun H_1 locs hP hD hS => ?_)
  have hP : va_P D vwCl ([(za, .inr (13, [.int 0, .ref z1, .int (nI z2), .int (nI z3), .int z4, .int z5, .ref z6, .ref z7, .ref z8, .ref z9, .int (nI z10), .ref z11, .ref z12, .ref z13, .ref z14, .ref z15, .int (nI z16), .ref z17, .int z18, .ref z19]))] ++ va_pl L M) H_1 := hP
  have hD : va_D A ([(za, .inr (13, [.int 0, .ref z1, .int (nI z2), .int (nI z3), .int z4, .int z5, .ref z6, .ref z7, .ref z8, .ref z9, .int (nI z10), .ref z11, .ref z12, .ref z13, .ref z14, .ref z15, .int (nI z16), .ref z17, .int z18, .ref z19]))] ++ va_pl L M) := hD
  refine lv_aload_n hx hb dX13_mend_5 rfl (lv_at hl 0 rfl) ?_
  refine lv_iload_n hx hb dX13_mend_6 rfl (lv_at hl 1 rfl) ?_
  have hPc : va_P D vwCl ([(za, .inr (13, [.int 0, .ref z1, .int (nI z2), .int (nI z3), .int z4, .int z5, .ref z6, .ref z7, .ref z8, .ref z9, .int (nI z10), .ref z11, .ref z12, .ref z13, .ref z14, .ref z15, .int (nI z16), .ref z17, .int z18, .ref z19]))] ++ va_pl L M) H_1 := hP
  have hDc : va_D A ([(za, .inr (13, [.int 0, .ref z1, .int (nI z2), .int (nI z3), .int z4, .int z5, .ref z6, .ref z7, .ref z8, .ref z9, .int (nI z10), .ref z11, .ref z12, .ref z13, .ref z14, .ref z15, .int (nI z16), .ref z17, .int z18, .ref z19]))] ++ va_pl L M) := hD
  have hFc : ∀ q, va_A ([(za, .inr (13, [.int 0, .ref z1, .int (nI z2), .int (nI z3), .int z4, .int z5, .ref z6, .ref z7, .ref z8, .ref z9, .int (nI z10), .ref z11, .ref z12, .ref z13, .ref z14, .ref z15, .int (nI z16), .ref z17, .int z18, .ref z19]))] ++ va_pl L M) H_1.size q → A q := pg_free hDc hS hA
  refine va_calli (va_runV (As := [.int k1]) (rest := []) ⟨hx, hb, hml, hown, hg⟩ (r_X13_isHouse l D cy K L M H_1.size za 0 z1 z2 z3 z4 z5 z6 z7 z8 z9 z10 z11 z12 z13 z14 z15 z16 z17 z18 z19 k1  hW i1 b2 b3 i6 i7 i8 i9 b10 i11 i12 i13 i14 i15 b16 i17 i19) (cwV 1 hg (gV wd_714 wd_715 wd_716 wd_717 wd_718) rfl rfl rfl (by decide +kernel) ⟨(Nat.le_trans (Nat.le_of_ble_eq_true rfl) hRf), (Nat.le_trans (Nat.le_of_ble_eq_true rfl) hRl)⟩) ⟨PG.blind, va_recv hK hP (ci := 13) (q0 := 0) rfl rfl, fun U hU hW => ⟨rfl, PG.at hPc hK hDc hN hU hW⟩⟩ rfl rfl hl.1 rfl (lv_room (Nat.le_of_ble_eq_true rfl)) dX13_mend_7 ⟨(Nat.le_trans (Nat.le_of_ble_eq_true rfl) hRc), (Nat.le_trans (Nat.le_of_ble_eq_true rfl) hRs)⟩) hS (fun q _ h => hFc q h) hFc (fun r_3 M_4 t H_2 locs ht hvm hw hB hz1 hk1 hS => ?_)
  have hp_5 := hw
  obtain ⟨hP1, hD1⟩ := hB
  rw [ht] at hP1
  have hP : va_P D vwCl ([(za, .inr (13, [.int 0, .ref z1, .int (nI z2), .int (nI z3), .int z4, .int z5, .ref z6, .ref z7, .ref z8, .ref z9, .int (nI z10), .ref z11, .ref z12, .ref z13, .ref z14, .ref z15, .int (nI z16), .ref z17, .int z18, .ref z19]))] ++ va_pl L M) H_2 := hP1
  have hD : va_D A ([(za, .inr (13, [.int 0, .ref z1, .int (nI z2), .int (nI z3), .int z4, .int z5, .ref z6, .ref z7, .ref z8, .ref z9, .int (nI z10), .ref z11, .ref z12, .ref z13, .ref z14, .ref z15, .int (nI z16), .ref z17, .int z18, .ref z19]))] ++ va_pl L M) := hD1.mono hFc
  rcases hp_5 with ⟨rfl, c_6, c_7⟩ | rfl
  · have hz := rfl (a := 0)
    refine lv_if_ne (tgt := 19) hx hb dX13_mend_10 (by decide) (fun _ => ?_) (fun c_8 => absurd c_8 (by decide))
    refine lv_iload_n hx hb dX13_mend_19 rfl (lv_at hl 3 rfl) ?_
    refine lv_if_eq (tgt := 35) hx hb dX13_mend_20 (by decide) (fun c_9 => ?_) (fun c_9 => ?_)
    · have hz := rfl (a := 0)
      refine lv_aload_n hx hb dX13_mend_35 rfl (lv_at hl 0 rfl) ?_
      refine lv_iconst (v := 2) hx hb dX13_mend_36 (by decide) ?_
      have hPc := hP.sub (ws' := [(za, .inr (13, [.int 0, .ref z1, .int (nI z2), .int (nI z3), .int z4, .int z5, .ref z6, .ref z7, .ref z8, .ref z9, .int (nI z10), .ref z11, .ref z12, .ref z13, .ref z14, .ref z15, .int (nI z16), .ref z17, .int z18, .ref z19]))]) [0] rfl
      have hDc := hD.sub (ws' := [(za, .inr (13, [.int 0, .ref z1, .int (nI z2), .int (nI z3), .int z4, .int z5, .ref z6, .ref z7, .ref z8, .ref z9, .int (nI z10), .ref z11, .ref z12, .ref z13, .ref z14, .ref z15, .int (nI z16), .ref z17, .int z18, .ref z19]))]) [0] (by decide) rfl
      have hKc := hK.sub (tys' := []) [] rfl
      have hFc := va_free (wc := [(za, .inr (13, [.int 0, .ref z1, .int (nI z2), .int (nI z3), .int z4, .int z5, .ref z6, .ref z7, .ref z8, .ref z9, .int (nI z10), .ref z11, .ref z12, .ref z13, .ref z14, .ref z15, .int (nI z16), .ref z17, .int z18, .ref z19]))]) hD hS hA [0] rfl
      refine va_calli (va_runV (As := [.int 2]) (rest := []) ⟨hx, hb, hml, hown, hg⟩ (m_refused l D H_2.size za 0 z1 (nI z2) (nI z3) z4 z5 z6 z7 z8 z9 (nI z10) z11 z12 z13 z14 z15 (nI z16) z17 z18 z19 2) (cwV 1 hg (gV wd_725 wd_726 wd_727 wd_717 wd_728) rfl rfl rfl (by decide +kernel) ⟨(Nat.le_trans (Nat.le_of_ble_eq_true rfl) hRf), (Nat.le_trans (Nat.le_of_ble_eq_true rfl) hRl)⟩) ⟨Pr.blind, va_recv hK hP (ci := 13) (q0 := 0) rfl rfl, fun U hU hW => ⟨rfl, Pr.at hPc hKc hDc hN hU hW⟩⟩ rfl rfl hl.1 rfl (lv_room (Nat.le_of_ble_eq_true rfl)) dX13_mend_37 ⟨(Nat.le_trans (Nat.le_of_ble_eq_true rfl) hRc), (Nat.le_trans (Nat.le_of_ble_eq_true rfl) hRs)⟩) hS (fun q _ h => hFc q h) hFc (fun r_11 M_12 t H_10 locs ht hvm hw hB hz1 hk1 hS => ?_)
      have hp_13 := hw
      obtain ⟨hP1, hK1, hD1⟩ := hB
      rw [ht] at hP1
      obtain ⟨hP, hD⟩ := va_joinQ (X := [(za, .inr (13, [.int 0, .ref z1, .int (nI z2), .int (nI z3), .int z4, .int z5, .ref z6, .ref z7, .ref z8, .ref z9, .int (nI z10), .ref z11, .ref z12, .ref z13, .ref z14, .ref z15, .int (nI z16), .ref z17, .int z18, .ref z19]))]) (cx := [(za, .inr (13, [.int 0, .ref z1, .int (nI z2), .int (nI z3), .int z4, .int z5, .ref z6, .ref z7, .ref z8, .ref z9, .int (nI z10), .ref z11, .ref z12, .ref z13, .ref z14, .ref z15, .int (nI z16), .ref z17, .int z18, .ref z19]))]) (wr := []) (w1 := [(za, .inr (13, [.int 0, .ref z1, .int (nI z2), .int (nI z3), .int 2, .int (-1), .ref z6, .ref z7, .ref z8, .ref z9, .int (nI z10), .ref z11, .ref z12, .ref z13, .ref z14, .ref z15, .int (nI z16), .ref z17, .int z18, .ref z19]))]) (pl := va_pl L M) hP hD [0] [] rfl rfl (by decide) (by decide) hk1 hFc hP1 hD1
      have hP : va_P D vwCl ([(za, .inr (13, [.int 0, .ref z1, .int (nI z2), .int (nI z3), .int 2, .int (-1), .ref z6, .ref z7, .ref z8, .ref z9, .int (nI z10), .ref z11, .ref z12, .ref z13, .ref z14, .ref z15, .int (nI z16), .ref z17, .int z18, .ref z19]))] ++ va_pl L M) H_10 := hP
      have hD : va_D A ([(za, .inr (13, [.int 0, .ref z1, .int (nI z2), .int (nI z3), .int 2, .int (-1), .ref z6, .ref z7, .ref z8, .ref z9, .int (nI z10), .ref z11, .ref z12, .ref z13, .ref z14, .ref z15, .int (nI z16), .ref z17, .int z18, .ref z19]))] ++ va_pl L M) := hD
      have hq := Eq.symm hp_13
      subst hq
      rw [hQ]
      exact W.iret (v := (-1)) hx hb hr (fun t ht hW9 => ⟨⟨(-1), M, rfl, ⟨hW, hF, hG, hGI, trivial⟩, ⟨2, (-1), by rw [ht]; exact hP, hD⟩⟩, hS.F ht⟩) hS.2.2 dX13_mend_40
    · have hz := rfl (a := 0)
      refine lv_iload_n hx hb dX13_mend_23 rfl (lv_at hl 3 rfl) ?_
      refine lv_ldc (v := 1000000000) hx hb hown (hg _ wd_712) dX13_mend_24 ?_
      refine lv_icmp_gt (tgt := 35) hx hb dX13_mend_26 (by decide) (fun c_14 => ?_) (fun c_14 => ?_)
      · have hz := rfl (a := 0)
        have n_15 : ¬ k3 < 0 := gtN (c := 1000000000) (by omega) c_14
        refine lv_aload_n hx hb dX13_mend_35 rfl (lv_at hl 0 rfl) ?_
        refine lv_iconst (v := 2) hx hb dX13_mend_36 (by decide) ?_
        have hPc := hP.sub (ws' := [(za, .inr (13, [.int 0, .ref z1, .int (nI z2), .int (nI z3), .int z4, .int z5, .ref z6, .ref z7, .ref z8, .ref z9, .int (nI z10), .ref z11, .ref z12, .ref z13, .ref z14, .ref z15, .int (nI z16), .ref z17, .int z18, .ref z19]))]) [0] rfl
        have hDc := hD.sub (ws' := [(za, .inr (13, [.int 0, .ref z1, .int (nI z2), .int (nI z3), .int z4, .int z5, .ref z6, .ref z7, .ref z8, .ref z9, .int (nI z10), .ref z11, .ref z12, .ref z13, .ref z14, .ref z15, .int (nI z16), .ref z17, .int z18, .ref z19]))]) [0] (by decide) rfl
        have hKc := hK.sub (tys' := []) [] rfl
        have hFc := va_free (wc := [(za, .inr (13, [.int 0, .ref z1, .int (nI z2), .int (nI z3), .int z4, .int z5, .ref z6, .ref z7, .ref z8, .ref z9, .int (nI z10), .ref z11, .ref z12, .ref z13, .ref z14, .ref z15, .int (nI z16), .ref z17, .int z18, .ref z19]))]) hD hS hA [0] rfl
        refine va_calli (va_runV (As := [.int 2]) (rest := []) ⟨hx, hb, hml, hown, hg⟩ (m_refused l D H_2.size za 0 z1 (nI z2) (nI z3) z4 z5 z6 z7 z8 z9 (nI z10) z11 z12 z13 z14 z15 (nI z16) z17 z18 z19 2) (cwV 1 hg (gV wd_725 wd_726 wd_727 wd_717 wd_728) rfl rfl rfl (by decide +kernel) ⟨(Nat.le_trans (Nat.le_of_ble_eq_true rfl) hRf), (Nat.le_trans (Nat.le_of_ble_eq_true rfl) hRl)⟩) ⟨Pr.blind, va_recv hK hP (ci := 13) (q0 := 0) rfl rfl, fun U hU hW => ⟨rfl, Pr.at hPc hKc hDc hN hU hW⟩⟩ rfl rfl hl.1 rfl (lv_room (Nat.le_of_ble_eq_true rfl)) dX13_mend_37 ⟨(Nat.le_trans (Nat.le_of_ble_eq_true rfl) hRc), (Nat.le_trans (Nat.le_of_ble_eq_true rfl) hRs)⟩) hS (fun q _ h => hFc q h) hFc (fun r_17 M_18 t H_16 locs ht hvm hw hB hz1 hk1 hS => ?_)
        have hp_19 := hw
        obtain ⟨hP1, hK1, hD1⟩ := hB
        rw [ht] at hP1
        obtain ⟨hP, hD⟩ := va_joinQ (X := [(za, .inr (13, [.int 0, .ref z1, .int (nI z2), .int (nI z3), .int z4, .int z5, .ref z6, .ref z7, .ref z8, .ref z9, .int (nI z10), .ref z11, .ref z12, .ref z13, .ref z14, .ref z15, .int (nI z16), .ref z17, .int z18, .ref z19]))]) (cx := [(za, .inr (13, [.int 0, .ref z1, .int (nI z2), .int (nI z3), .int z4, .int z5, .ref z6, .ref z7, .ref z8, .ref z9, .int (nI z10), .ref z11, .ref z12, .ref z13, .ref z14, .ref z15, .int (nI z16), .ref z17, .int z18, .ref z19]))]) (wr := []) (w1 := [(za, .inr (13, [.int 0, .ref z1, .int (nI z2), .int (nI z3), .int 2, .int (-1), .ref z6, .ref z7, .ref z8, .ref z9, .int (nI z10), .ref z11, .ref z12, .ref z13, .ref z14, .ref z15, .int (nI z16), .ref z17, .int z18, .ref z19]))]) (pl := va_pl L M) hP hD [0] [] rfl rfl (by decide) (by decide) hk1 hFc hP1 hD1
        have hP : va_P D vwCl ([(za, .inr (13, [.int 0, .ref z1, .int (nI z2), .int (nI z3), .int 2, .int (-1), .ref z6, .ref z7, .ref z8, .ref z9, .int (nI z10), .ref z11, .ref z12, .ref z13, .ref z14, .ref z15, .int (nI z16), .ref z17, .int z18, .ref z19]))] ++ va_pl L M) H_16 := hP
        have hD : va_D A ([(za, .inr (13, [.int 0, .ref z1, .int (nI z2), .int (nI z3), .int 2, .int (-1), .ref z6, .ref z7, .ref z8, .ref z9, .int (nI z10), .ref z11, .ref z12, .ref z13, .ref z14, .ref z15, .int (nI z16), .ref z17, .int z18, .ref z19]))] ++ va_pl L M) := hD
        have hq := Eq.symm hp_19
        subst hq
        rw [hQ]
        exact W.iret (v := (-1)) hx hb hr (fun t ht hW9 => ⟨⟨(-1), M, rfl, ⟨hW, hF, hG, hGI, trivial⟩, ⟨2, (-1), by rw [ht]; exact hP, hD⟩⟩, hS.F ht⟩) hS.2.2 dX13_mend_40
      · have hz := rfl (a := 0)
        refine lv_iload_n hx hb dX13_mend_29 rfl (lv_at hl 3 rfl) ?_
        refine lv_ldc (v := (-1000000000)) hx hb hown (hg _ wd_822) dX13_mend_30 ?_
        refine lv_icmp_ge (tgt := 41) hx hb dX13_mend_32 (by decide) (fun c_20 => ?_) (fun c_20 => ?_)
        · have hz := rfl (a := 0)
          refine lv_aload_n hx hb dX13_mend_41 rfl (lv_at hl 0 rfl) ?_
          refine va_get (D := D) (ci := 13) (v := .ref z1) (C := RX13) (T := TX13) (N := 20) hx hb hg inG13 hown hK hP 0 rfl rfl 1 (by decide) (hg _ wd_739) (fun _ h9 => h9) rfl dX13_mend_42 ?_
          refine lv_iload_n hx hb dX13_mend_45 rfl (lv_at hl 1 rfl) ?_
          obtain ⟨f21, hM21, hf21⟩ := hW.open_23 i1
          have hi_22 : vp_in k1 8 := (inbW (a := z2) (by omega) (inb k1 z2 (by omega) c_6 c_7))
          refine pg_aldq hx hb hK hP i1.1 9 hM21 rfl hi_22 dX13_mend_46 ?_
          obtain ⟨b23, eb_24, hb_25⟩ := hf21 _ (vp_lt hi_22)
          rw [eb_24]
          have hact : ACT z1 z2 b23 M := ⟨(k1 : Int32).toNatClampNeg, vp_lt (inb k1 z2 (by omega) c_6 c_7), by rw [show RFc (M z1) = f21 from by rw [hM21]; rfl]; exact eb_24⟩
          have hAT := GI.at hGI hact
          have hV : VW K L M M b23 (fx M b23) (ax M b23) := VW.rf b23 hGI.2.2.2
          refine lv_astore (lv' := [(4, .ref b23), (0, .ref za), (1, .int k1), (2, .int k2), (3, .int k3)]) hx hb dX13_mend_47 hl (by decide) rfl (fun ls hl => ?_)
          obtain ⟨fs26, hM26, hn26, hl26⟩ := hW.open_12 hb_25
          obtain ⟨v27, hv27, hc27⟩ : ∃ v : Nat, fs26[0]? = some (.int (nI v) : Value) ∧ v ≤ 999 := hl26 0 (by decide)
          have hx0 : (fx M b23 0) = ((v27 : Nat) : Int) := (congrFun hV.2.1 0).symm.trans ((fx_of hM26 rfl hv27).trans (nI_toInt (by omega)))
          obtain ⟨v28, hv28, hc28⟩ : ∃ v : Nat, fs26[15]? = some (.int (nI v) : Value) ∧ v ≤ 20 := hl26 15 (by decide)
          have hx15 : (fx M b23 15) = ((v28 : Nat) : Int) := (congrFun hV.2.1 15).symm.trans ((fx_of hM26 rfl hv28).trans (nI_toInt (by omega)))
          refine lv_iload_n hx hb dX13_mend_49 rfl (lv_at hl 3 rfl) ?_
          refine lv_aload hx hb dX13_mend_50 (lv_at hl 0 rfl) ?_
          refine pg_getN (D := D) (ci := 12) (v := .int (nI v27)) (C := RX12) (T := TX12) (N := 51) hx hb hg inG12 hown hK hP hb_25.1 hM26 rfl 0 (by decide) (hN.use (Cond.fieldLinkNest RX13 77 RX12 "first" "I" RX13) 9 rfl rfl) (fun _ h9 => h9) hv27 dX13_mend_52 ?_
          refine lv_icmp_lt (tgt := 67) hx hb dX13_mend_55 (by decide) (fun c_29 => ?_) (fun c_29 => ?_)
          · have hz := rfl (a := 0)
            have n_30 : ¬ 999 ≤ k2 := ltB (b := 999) (by decide) hc27 c_29
            refine lv_aload_n hx hb dX13_mend_67 rfl (lv_at hl 1 rfl) ?_
            refine lv_iconst (v := 3) hx hb dX13_mend_68 (by decide) ?_
            have hPc := hP.sub (ws' := [(za, .inr (13, [.int 0, .ref z1, .int (nI z2), .int (nI z3), .int z4, .int z5, .ref z6, .ref z7, .ref z8, .ref z9, .int (nI z10), .ref z11, .ref z12, .ref z13, .ref z14, .ref z15, .int (nI z16), .ref z17, .int z18, .ref z19]))]) [0] rfl
            have hDc := hD.sub (ws' := [(za, .inr (13, [.int 0, .ref z1, .int (nI z2), .int (nI z3), .int z4, .int z5, .ref z6, .ref z7, .ref z8, .ref z9, .int (nI z10), .ref z11, .ref z12, .ref z13, .ref z14, .ref z15, .int (nI z16), .ref z17, .int z18, .ref z19]))]) [0] (by decide) rfl
            have hKc := hK.sub (tys' := []) [] rfl
            have hFc := va_free (wc := [(za, .inr (13, [.int 0, .ref z1, .int (nI z2), .int (nI z3), .int z4, .int z5, .ref z6, .ref z7, .ref z8, .ref z9, .int (nI z10), .ref z11, .ref z12, .ref z13, .ref z14, .ref z15, .int (nI z16), .ref z17, .int z18, .ref z19]))]) hD hS hA [0] rfl
            refine va_calli (va_runV (As := [.int 3]) (rest := []) ⟨hx, hb, hml, hown, hg⟩ (m_refused l D H_2.size za 0 z1 (nI z2) (nI z3) z4 z5 z6 z7 z8 z9 (nI z10) z11 z12 z13 z14 z15 (nI z16) z17 z18 z19 3) (cwV 1 hg (gV wd_725 wd_726 wd_727 wd_717 wd_728) rfl rfl rfl (by decide +kernel) ⟨(Nat.le_trans (Nat.le_of_ble_eq_true rfl) hRf), (Nat.le_trans (Nat.le_of_ble_eq_true rfl) hRl)⟩) ⟨Pr.blind, va_recv hK hP (ci := 13) (q0 := 0) rfl rfl, fun U hU hW => ⟨rfl, Pr.at hPc hKc hDc hN hU hW⟩⟩ rfl rfl hl.1 rfl (lv_room (Nat.le_of_ble_eq_true rfl)) dX13_mend_69 ⟨(Nat.le_trans (Nat.le_of_ble_eq_true rfl) hRc), (Nat.le_trans (Nat.le_of_ble_eq_true rfl) hRs)⟩) hS (fun q _ h => hFc q h) hFc (fun r_32 M_33 t H_31 locs ht hvm hw hB hz1 hk1 hS => ?_)
            have hp_34 := hw
            obtain ⟨hP1, hK1, hD1⟩ := hB
            rw [ht] at hP1
            obtain ⟨hP, hD⟩ := va_joinQ (X := [(za, .inr (13, [.int 0, .ref z1, .int (nI z2), .int (nI z3), .int z4, .int z5, .ref z6, .ref z7, .ref z8, .ref z9, .int (nI z10), .ref z11, .ref z12, .ref z13, .ref z14, .ref z15, .int (nI z16), .ref z17, .int z18, .ref z19]))]) (cx := [(za, .inr (13, [.int 0, .ref z1, .int (nI z2), .int (nI z3), .int z4, .int z5, .ref z6, .ref z7, .ref z8, .ref z9, .int (nI z10), .ref z11, .ref z12, .ref z13, .ref z14, .ref z15, .int (nI z16), .ref z17, .int z18, .ref z19]))]) (wr := []) (w1 := [(za, .inr (13, [.int 0, .ref z1, .int (nI z2), .int (nI z3), .int 3, .int (-1), .ref z6, .ref z7, .ref z8, .ref z9, .int (nI z10), .ref z11, .ref z12, .ref z13, .ref z14, .ref z15, .int (nI z16), .ref z17, .int z18, .ref z19]))]) (pl := va_pl L M) hP hD [0] [] rfl rfl (by decide) (by decide) hk1 hFc hP1 hD1
            have hP : va_P D vwCl ([(za, .inr (13, [.int 0, .ref z1, .int (nI z2), .int (nI z3), .int 3, .int (-1), .ref z6, .ref z7, .ref z8, .ref z9, .int (nI z10), .ref z11, .ref z12, .ref z13, .ref z14, .ref z15, .int (nI z16), .ref z17, .int z18, .ref z19]))] ++ va_pl L M) H_31 := hP
            have hD : va_D A ([(za, .inr (13, [.int 0, .ref z1, .int (nI z2), .int (nI z3), .int 3, .int (-1), .ref z6, .ref z7, .ref z8, .ref z9, .int (nI z10), .ref z11, .ref z12, .ref z13, .ref z14, .ref z15, .int (nI z16), .ref z17, .int z18, .ref z19]))] ++ va_pl L M) := hD
            have hq := Eq.symm hp_34
            subst hq
            rw [hQ]
            exact W.iret (v := (-1)) hx hb hr (fun t ht hW9 => ⟨⟨(-1), M, rfl, ⟨hW, hF, hG, hGI, trivial⟩, ⟨3, (-1), by rw [ht]; exact hP, hD⟩⟩, hS.F ht⟩) hS.2.2 dX13_mend_72
          · have hz := rfl (a := 0)
            refine lv_iload_n hx hb dX13_mend_58 rfl (lv_at hl 3 rfl) ?_
            refine lv_aload hx hb dX13_mend_59 (lv_at hl 0 rfl) ?_
            obtain ⟨v35, hv35, hc35⟩ : ∃ v : Int32, fs26[1]? = some (.int v : Value) ∧ (v = (-1) ∨ ∃ c : Nat, c < 1000 ∧ v = nI c) := hl26 1 (by decide)
            refine pg_getN (D := D) (ci := 12) (v := .int v35) (C := RX12) (T := TX12) (N := 51) hx hb hg inG12 hown hK hP hb_25.1 hM26 rfl 1 (by decide) (hN.use (Cond.fieldLinkNest RX13 80 RX12 "to" "I" RX13) 10 rfl rfl) (fun _ h9 => h9) hv35 dX13_mend_61 ?_
            rcases hc35 with rfl | ⟨c_36, hc_37, rfl⟩
            · have hz := rfl (a := 0)
              refine lv_icmp_le (tgt := 73) hx hb dX13_mend_64 (by decide) (fun c_38 => ?_) (fun c_38 => ?_)
              · have hz := rfl (a := 0)
                refine lv_aload hx hb dX13_mend_73 (lv_at hl 0 rfl) ?_
                refine pg_getN (D := D) (ci := 12) (v := .int (nI v28)) (C := RX12) (T := TX12) (N := 51) hx hb hg inG12 hown hK hP hb_25.1 hM26 rfl 15 (by decide) (hN.use (Cond.fieldLinkNest RX13 279 RX12 "mends" "I" RX13) 24 rfl rfl) (fun _ h9 => h9) hv28 dX13_mend_75 ?_
                refine lv_bipush (v := 20) hx hb dX13_mend_78 (by decide) ?_
                refine lv_icmp_ne (tgt := 90) hx hb dX13_mend_80 (by decide) (fun c_39 => ?_) (fun c_39 => ?_)
                · have hz := rfl (a := 0)
                  have n_40 : ¬ (v28 = 20) := fun q => c_39 ((iEQ (a := v28) (b := 20) (by omega) (by omega)).mpr q)
                  refine lv_aload hx hb dX13_mend_90 (lv_at hl 0 rfl) ?_
                  obtain ⟨v41, hv41, hc41⟩ : ∃ v : Nat, fs26[41]? = some (.ref v : Value) ∧ isk K L v 44 20 := hl26 41 (by decide)
                  refine pg_getN (D := D) (ci := 12) (v := .ref v41) (C := RX12) (T := TX12) (N := 51) hx hb hg inG12 hown hK hP hb_25.1 hM26 rfl 41 (by decide) (hN.use (Cond.fieldLinkNest RX13 358 RX12 "mendDay" "[I" RX13) 50 rfl rfl) (fun _ h9 => h9) hv41 dX13_mend_92 ?_
                  refine lv_aload hx hb dX13_mend_95 (lv_at hl 0 rfl) ?_
                  refine pg_getN (D := D) (ci := 12) (v := .int (nI v28)) (C := RX12) (T := TX12) (N := 51) hx hb hg inG12 hown hK hP hb_25.1 hM26 rfl 15 (by decide) (hN.use (Cond.fieldLinkNest RX13 279 RX12 "mends" "I" RX13) 24 rfl rfl) (fun _ h9 => h9) hv28 dX13_mend_97 ?_
                  refine lv_iload_n hx hb dX13_mend_100 rfl (lv_at hl 3 rfl) ?_
                  obtain ⟨j_42, hj_43, rfl⟩ := i32nat 0 (by decide) (geN (n := v27) (by omega) (Int32.not_lt.mp c_29)) (m1B c_38)
                  obtain ⟨f44, hM44, hf44⟩ := hW.open_44 hc41
                  refine pg_iast hx hb hK hP hD hS hc41.1 0 hM44 rfl (inbN v28 20 (by omega) (by omega)) dX13_mend_101 (fun H_45 locs hP hD hS => ?_)
                  obtain ⟨M_46, eM_46⟩ : ∃ M1 : Hp, M1 = va_up M v41 (.inl (cy 14, 20, .inl (upd f44 ((nI v28) : Int32).toNatClampNeg (nI j_42)))) := ⟨_, rfl⟩
                  have hy41 : (ax M b23 41) = f44 := (congrFun hV.2.2.1 41).symm.trans (ax_of hM26 (by decide) hv41 hM44)
                  have hV : VW K L M M_46 b23 (fx M b23) (va_up (ax M b23) 41 (upd (ax M b23 41) ((nI v28) : Int32).toNatClampNeg (nI j_42))) := by rw [eM_46]; exact hV.ast (j := 41) hW hb_25 hM26 (by decide) hv41 hc41 hM44
                  have hP : va_P D vwCl ([(za, .inr (13, [.int 0, .ref z1, .int (nI z2), .int (nI z3), .int z4, .int z5, .ref z6, .ref z7, .ref z8, .ref z9, .int (nI z10), .ref z11, .ref z12, .ref z13, .ref z14, .ref z15, .int (nI z16), .ref z17, .int z18, .ref z19]))] ++ va_pl L M_46) H_45 := by rw [eM_46]; exact hP
                  have hD : va_D A ([(za, .inr (13, [.int 0, .ref z1, .int (nI z2), .int (nI z3), .int z4, .int z5, .ref z6, .ref z7, .ref z8, .ref z9, .int (nI z10), .ref z11, .ref z12, .ref z13, .ref z14, .ref z15, .int (nI z16), .ref z17, .int z18, .ref z19]))] ++ va_pl L M_46) := by rw [eM_46]; exact hD
                  have hW : WOM cy K L M_46 := by rw [eM_46]; exact hW.up_44 hc41 ⟨_, rfl, (updP (P := fun z => ∃ c : Nat, c < 1000 ∧ z = nI c) hf44 ⟨j_42, by omega, rfl⟩)⟩
                  have hF : fr K L [12, 14, 44, 82] M M_46 := by rw [eM_46]; exact hF.up hc41 (by decide)
                  have hG : fG K L [15] M M_46 := by rw [eM_46]; exact hG.arr hc41 (by decide)
                  have hM_47 : M_46 v41 = .inl (cy 14, 20, .inl (upd f44 ((nI v28) : Int32).toNatClampNeg (nI j_42))) := by rw [eM_46]; exact va_up_self _ _ _
                  have hM_48 : M_46 z1 = .inl (cy 23, 8, .inr (.inr (.inr (.inr (f21))))) := by rw [eM_46, va_up_ne _ _ (i1.neT hc41 (by decide))]; exact hM21
                  have hM_49 : M_46 b23 = .inr (12, fs26) := by rw [eM_46, va_up_ne _ _ (hb_25.neT hc41 (by decide))]; exact hM26
                  have hf_51 : ∀ j, j < 20 → ∃ c : Nat, c < 1000 ∧ (upd f44 ((nI v28) : Int32).toNatClampNeg (nI j_42)) j = nI c := (updP (P := fun z => ∃ c : Nat, c < 1000 ∧ z = nI c) hf44 ⟨j_42, by omega, rfl⟩)
                  obtain ⟨f_50, ef_50⟩ : ∃ f : Nat → Int32, f = upd f44 ((nI v28) : Int32).toNatClampNeg (nI j_42) := ⟨_, rfl⟩
                  rw [← ef_50] at hM_47 hf_51
                  refine lv_aload hx hb dX13_mend_102 (lv_at hl 0 rfl) ?_
                  obtain ⟨v52, hv52, hc52⟩ : ∃ v : Nat, fs26[42]? = some (.ref v : Value) ∧ isk K L v 82 20 := hl26 42 (by decide)
                  refine pg_getN (D := D) (ci := 12) (v := .ref v52) (C := RX12) (T := TX12) (N := 51) hx hb hg inG12 hown hK hP hb_25.1 hM_49 rfl 42 (by decide) (hN.use (Cond.fieldLinkNest RX13 361 RX12 "mendSum" "[I" RX13) 51 rfl rfl) (fun _ h9 => h9) hv52 dX13_mend_104 ?_
                  refine lv_aload hx hb dX13_mend_107 (lv_at hl 0 rfl) ?_
                  refine pg_getN (D := D) (ci := 12) (v := .int (nI v28)) (C := RX12) (T := TX12) (N := 51) hx hb hg inG12 hown hK hP hb_25.1 hM_49 rfl 15 (by decide) (hN.use (Cond.fieldLinkNest RX13 279 RX12 "mends" "I" RX13) 24 rfl rfl) (fun _ h9 => h9) hv28 dX13_mend_109 ?_
                  refine lv_iload_n hx hb dX13_mend_112 rfl (lv_at hl 4 rfl) ?_
                  obtain ⟨f53, hM53⟩ := hW.open_82 hc52
                  refine pg_iast hx hb hK hP hD hS hc52.1 0 hM53 rfl (inbN v28 20 (by omega) (by omega)) dX13_mend_113 (fun H_54 locs hP hD hS => ?_)
                  obtain ⟨M_55, eM_55⟩ : ∃ M1 : Hp, M1 = va_up M_46 v52 (.inl (cy 14, 20, .inl (upd f53 ((nI v28) : Int32).toNatClampNeg k3))) := ⟨_, rfl⟩
                  have hy42 : (ax M b23 42) = f53 := (congrFun hV.2.2.1 42).symm.trans (ax_of hM_49 (by decide) hv52 hM53)
                  have hV : VW K L M M_55 b23 (fx M b23) (va_up (va_up (ax M b23) 41 (upd (ax M b23 41) ((nI v28) : Int32).toNatClampNeg (nI j_42))) 42 (upd (ax M b23 42) ((nI v28) : Int32).toNatClampNeg k3)) := by rw [eM_55]; exact hV.ast (j := 42) hW hb_25 hM_49 (by decide) hv52 hc52 hM53
                  have hP : va_P D vwCl ([(za, .inr (13, [.int 0, .ref z1, .int (nI z2), .int (nI z3), .int z4, .int z5, .ref z6, .ref z7, .ref z8, .ref z9, .int (nI z10), .ref z11, .ref z12, .ref z13, .ref z14, .ref z15, .int (nI z16), .ref z17, .int z18, .ref z19]))] ++ va_pl L M_55) H_54 := by rw [eM_55]; exact hP
                  have hD : va_D A ([(za, .inr (13, [.int 0, .ref z1, .int (nI z2), .int (nI z3), .int z4, .int z5, .ref z6, .ref z7, .ref z8, .ref z9, .int (nI z10), .ref z11, .ref z12, .ref z13, .ref z14, .ref z15, .int (nI z16), .ref z17, .int z18, .ref z19]))] ++ va_pl L M_55) := by rw [eM_55]; exact hD
                  have hW : WOM cy K L M_55 := by rw [eM_55]; exact hW.up_82 hc52 ⟨_, rfl⟩
                  have hF : fr K L [12, 14, 44, 82] M M_55 := by rw [eM_55]; exact hF.up hc52 (by decide)
                  have hG : fG K L [15] M M_55 := by rw [eM_55]; exact hG.arr hc52 (by decide)
                  have hM_56 : M_55 v52 = .inl (cy 14, 20, .inl (upd f53 ((nI v28) : Int32).toNatClampNeg k3)) := by rw [eM_55]; exact va_up_self _ _ _
                  have hM_57 : M_55 v41 = .inl (cy 14, 20, .inl (f_50)) := by rw [eM_55, va_up_ne _ _ (hc41.neT hc52 (by decide))]; exact hM_47
                  have hM_58 : M_55 z1 = .inl (cy 23, 8, .inr (.inr (.inr (.inr (f21))))) := by rw [eM_55, va_up_ne _ _ (i1.neT hc52 (by decide))]; exact hM_48
                  have hM_59 : M_55 b23 = .inr (12, fs26) := by rw [eM_55, va_up_ne _ _ (hb_25.neT hc52 (by decide))]; exact hM_49
                  obtain ⟨f_60, ef_60⟩ : ∃ f : Nat → Int32, f = upd f53 ((nI v28) : Int32).toNatClampNeg k3 := ⟨_, rfl⟩
                  rw [← ef_60] at hM_56
                  refine lv_aload hx hb dX13_mend_114 (lv_at hl 0 rfl) ?_
                  refine lv_dup hx hb dX13_mend_116 rfl ?_
                  refine pg_getN (D := D) (ci := 12) (v := .int (nI v28)) (C := RX12) (T := TX12) (N := 51) hx hb hg inG12 hown hK hP hb_25.1 hM_59 rfl 15 (by decide) (hN.use (Cond.fieldLinkNest RX13 279 RX12 "mends" "I" RX13) 24 rfl rfl) (fun _ h9 => h9) hv28 dX13_mend_117 ?_
                  refine lv_iconst (v := 1) hx hb dX13_mend_120 (by decide) ?_
                  refine lv_iadd hx hb dX13_mend_121 ?_
                  refine lv_topi (fun f_61 ef_61 => ?_)
                  obtain rfl : f_61 = (nI (v28 + 1)) := ef_61.trans (nI_add v28 1)
                  refine pg_putN (D := D) (ci := 12) (v := .int (nI (v28 + 1))) (ty := .int) (C := RX12) (T := TX12) (N := 51) hx hb hg inG12 tyX12 tyX12_ok nmX12 hown hK hP hD hS hb_25.1 hM_59 rfl 15 (by decide) (hN.use (Cond.fieldLinkNest RX13 279 RX12 "mends" "I" RX13) 24 rfl rfl) (fun _ h9 => h9) rfl (by decide +kernel) rfl rfl (by rw [hn26]; decide) dX13_mend_122 (fun H_62 locs hP hD hS => ?_)
                  have hs_65 : (fs26.set 15 (.int (nI (v28 + 1))))[15]? = some (.int (nI (v28 + 1))) := List.getElem?_set_self (by rw [hn26]; decide)
                  have hk_64 := fld12_set (k := 15) (w := .int (nI (v28 + 1))) hl26 (show fld12 K L 15 (fs26.set 15 (.int (nI (v28 + 1)))) from ⟨(v28 + 1), hs_65, by omega⟩)
                  have hn_66 : (fs26.set 15 (.int (nI (v28 + 1)))).length = 51 := by rw [List.length_set]; exact hn26
                  have hv_67 : (fs26.set 15 (.int (nI (v28 + 1))))[0]? = some (.int (nI v27)) := by rw [List.getElem?_set_ne (by decide)]; exact hv27
                  have hv_68 : (fs26.set 15 (.int (nI (v28 + 1))))[1]? = some (.int (-1)) := by rw [List.getElem?_set_ne (by decide)]; exact hv35
                  have hv_69 : (fs26.set 15 (.int (nI (v28 + 1))))[41]? = some (.ref v41) := by rw [List.getElem?_set_ne (by decide)]; exact hv41
                  have hv_70 : (fs26.set 15 (.int (nI (v28 + 1))))[42]? = some (.ref v52) := by rw [List.getElem?_set_ne (by decide)]; exact hv52
                  have hb_71 : (v28 + 1) ≤ 20 := by omega
                  obtain ⟨M_72, eM_72⟩ : ∃ M1 : Hp, M1 = va_up M_55 b23 (.inr (12, fs26.set 15 (.int (nI (v28 + 1))))) := ⟨_, rfl⟩
                  have hx15 : (fx M b23 15) = ((v28 : Nat) : Int) := (congrFun hV.2.1 15).symm.trans ((fx_of hM_59 rfl hv28).trans (nI_toInt (by omega)))
                  have hV : VW K L M M_72 b23 (va_up (fx M b23) 15 (((v28 + 1) : Nat) : Int)) (va_up (va_up (ax M b23) 41 (upd (ax M b23 41) ((nI v28) : Int32).toNatClampNeg (nI j_42))) 42 (upd (ax M b23 42) ((nI v28) : Int32).toNatClampNeg k3)) := by rw [eM_72]; exact hV.put hW hb_25 hM_59 hn26 rfl (by decide) rfl (nI_toInt (by omega))
                  have hP : va_P D vwCl ([(za, .inr (13, [.int 0, .ref z1, .int (nI z2), .int (nI z3), .int z4, .int z5, .ref z6, .ref z7, .ref z8, .ref z9, .int (nI z10), .ref z11, .ref z12, .ref z13, .ref z14, .ref z15, .int (nI z16), .ref z17, .int z18, .ref z19]))] ++ va_pl L M_72) H_62 := by rw [eM_72]; exact hP
                  have hD : va_D A ([(za, .inr (13, [.int 0, .ref z1, .int (nI z2), .int (nI z3), .int z4, .int z5, .ref z6, .ref z7, .ref z8, .ref z9, .int (nI z10), .ref z11, .ref z12, .ref z13, .ref z14, .ref z15, .int (nI z16), .ref z17, .int z18, .ref z19]))] ++ va_pl L M_72) := by rw [eM_72]; exact hD
                  have hW : WOM cy K L M_72 := by rw [eM_72]; exact hW.up_12 hb_25 ⟨_, rfl, hn_66, hk_64⟩
                  have hF : fr K L [12, 14, 44, 82] M M_72 := by rw [eM_72]; exact hF.up hb_25 (by decide)
                  have hG : fG K L [15] M M_72 := by rw [eM_72]; exact hG.up hM_59 (by decide)
                  have hM_73 : M_72 b23 = .inr (12, fs26.set 15 (.int (nI (v28 + 1)))) := by rw [eM_72]; exact va_up_self _ _ _
                  have hM_74 : M_72 v52 = .inl (cy 14, 20, .inl (f_60)) := by rw [eM_72, va_up_ne _ _ (hc52.neT hb_25 (by decide))]; exact hM_56
                  have hM_75 : M_72 v41 = .inl (cy 14, 20, .inl (f_50)) := by rw [eM_72, va_up_ne _ _ (hc41.neT hb_25 (by decide))]; exact hM_57
                  have hM_76 : M_72 z1 = .inl (cy 23, 8, .inr (.inr (.inr (.inr (f21))))) := by rw [eM_72, va_up_ne _ _ (i1.neT hb_25 (by decide))]; exact hM_58
                  refine lv_aload_n hx hb dX13_mend_125 rfl (lv_at hl 1 rfl) ?_
                  refine lv_aload hx hb dX13_mend_126 (lv_at hl 0 rfl) ?_
                  refine pg_getN (D := D) (ci := 12) (v := .int (nI (v28 + 1))) (C := RX12) (T := TX12) (N := 51) hx hb hg inG12 hown hK hP hb_25.1 hM_73 rfl 15 (by decide) (hN.use (Cond.fieldLinkNest RX13 279 RX12 "mends" "I" RX13) 24 rfl rfl) (fun _ h9 => h9) hs_65 dX13_mend_128 ?_
                  have hPc := hP.sub (ws' := [(za, .inr (13, [.int 0, .ref z1, .int (nI z2), .int (nI z3), .int z4, .int z5, .ref z6, .ref z7, .ref z8, .ref z9, .int (nI z10), .ref z11, .ref z12, .ref z13, .ref z14, .ref z15, .int (nI z16), .ref z17, .int z18, .ref z19]))]) [0] rfl
                  have hDc := hD.sub (ws' := [(za, .inr (13, [.int 0, .ref z1, .int (nI z2), .int (nI z3), .int z4, .int z5, .ref z6, .ref z7, .ref z8, .ref z9, .int (nI z10), .ref z11, .ref z12, .ref z13, .ref z14, .ref z15, .int (nI z16), .ref z17, .int z18, .ref z19]))]) [0] (by decide) rfl
                  have hKc := hK.sub (tys' := []) [] rfl
                  have hFc := va_free (wc := [(za, .inr (13, [.int 0, .ref z1, .int (nI z2), .int (nI z3), .int z4, .int z5, .ref z6, .ref z7, .ref z8, .ref z9, .int (nI z10), .ref z11, .ref z12, .ref z13, .ref z14, .ref z15, .int (nI z16), .ref z17, .int z18, .ref z19]))]) hD hS hA [0] rfl
                  refine va_calli (va_runV (As := [.int (nI (v28 + 1))]) (rest := []) ⟨hx, hb, hml, hown, hg⟩ (m_done l D H_62.size za 0 z1 (nI z2) (nI z3) z4 z5 z6 z7 z8 z9 (nI z10) z11 z12 z13 z14 z15 (nI z16) z17 z18 z19 (nI (v28 + 1))) (cwV 1 hg (gV wd_730 wd_731 wd_732 wd_717 wd_733) rfl rfl rfl (by decide +kernel) ⟨(Nat.le_trans (Nat.le_of_ble_eq_true rfl) hRf), (Nat.le_trans (Nat.le_of_ble_eq_true rfl) hRl)⟩) ⟨Pr.blind, va_recv hK hP (ci := 13) (q0 := 0) rfl rfl, fun U hU hW => ⟨rfl, Pr.at hPc hKc hDc hN hU hW⟩⟩ rfl rfl hl.1 rfl (lv_room (Nat.le_of_ble_eq_true rfl)) dX13_mend_131 ⟨(Nat.le_trans (Nat.le_of_ble_eq_true rfl) hRc), (Nat.le_trans (Nat.le_of_ble_eq_true rfl) hRs)⟩) hS (fun q _ h => hFc q h) hFc (fun r_78 M_79 t H_77 locs ht hvm hw hB hz1 hk1 hS => ?_)
                  have hp_80 := hw
                  obtain ⟨hP1, hK1, hD1⟩ := hB
                  rw [ht] at hP1
                  obtain ⟨hP, hD⟩ := va_joinQ (X := [(za, .inr (13, [.int 0, .ref z1, .int (nI z2), .int (nI z3), .int z4, .int z5, .ref z6, .ref z7, .ref z8, .ref z9, .int (nI z10), .ref z11, .ref z12, .ref z13, .ref z14, .ref z15, .int (nI z16), .ref z17, .int z18, .ref z19]))]) (cx := [(za, .inr (13, [.int 0, .ref z1, .int (nI z2), .int (nI z3), .int z4, .int z5, .ref z6, .ref z7, .ref z8, .ref z9, .int (nI z10), .ref z11, .ref z12, .ref z13, .ref z14, .ref z15, .int (nI z16), .ref z17, .int z18, .ref z19]))]) (wr := []) (w1 := [(za, .inr (13, [.int 0, .ref z1, .int (nI z2), .int (nI z3), .int 0, .int (-1), .ref z6, .ref z7, .ref z8, .ref z9, .int (nI z10), .ref z11, .ref z12, .ref z13, .ref z14, .ref z15, .int (nI z16), .ref z17, .int z18, .ref z19]))]) (pl := va_pl L M_72) hP hD [0] [] rfl rfl (by decide) (by decide) hk1 hFc hP1 hD1
                  have hP : va_P D vwCl ([(za, .inr (13, [.int 0, .ref z1, .int (nI z2), .int (nI z3), .int 0, .int (-1), .ref z6, .ref z7, .ref z8, .ref z9, .int (nI z10), .ref z11, .ref z12, .ref z13, .ref z14, .ref z15, .int (nI z16), .ref z17, .int z18, .ref z19]))] ++ va_pl L M_72) H_77 := hP
                  have hD : va_D A ([(za, .inr (13, [.int 0, .ref z1, .int (nI z2), .int (nI z3), .int 0, .int (-1), .ref z6, .ref z7, .ref z8, .ref z9, .int (nI z10), .ref z11, .ref z12, .ref z13, .ref z14, .ref z15, .int (nI z16), .ref z17, .int z18, .ref z19]))] ++ va_pl L M_72) := hD
                  have hq := Eq.symm hp_80
                  subst hq
                  have hA9 : HA (ax M b23 2) (ax M b23 3) := hAT.1
                  have hB9 : HB (fx M b23 16) (fx M b23 14) (ax M b23 3) (ax M b23 43) := hAT.2.1
                  have hC9 : HC (fx M b23 10) (ax M b23 22) (ax M b23 23) := hAT.2.2.1
                  have hD9 : HD (fx M b23 0) (fx M b23 11) (((v28 + 1) : Nat) : Int) (ax M b23 34) (upd (ax M b23 41) ((nI v28) : Int32).toNatClampNeg (nI j_42)) := HD.mend hAT.2.2.2.1 hx15 (by omega) (nI_cl (by omega)) (by rw [hx0]; exact geI c_29 (by omega))
                  have hE9 : HE (fx M b23 0) (fx M b23 1) (fx M b23 12) (fx M b23 13) (ax M b23 37) := hAT.2.2.2.2
                  have hH9 : HI (va_up (fx M b23) 15 (((v28 + 1) : Nat) : Int)) (va_up (va_up (ax M b23) 41 (upd (ax M b23 41) ((nI v28) : Int32).toNatClampNeg (nI j_42))) 42 (upd (ax M b23 42) ((nI v28) : Int32).toNatClampNeg k3)) := ⟨hA9, hB9, hC9, hD9, hE9⟩
                  have hGI9 : GI K L z1 z2 M_72 := GI.fin hW0 i1 b2 hGI hact hV (hF.at i1 (by decide)) hH9
                  rw [hQ]
                  exact W.iret (v := (nI (v28 + 1))) hx hb hr (fun t ht hW9 => ⟨⟨(nI (v28 + 1)), M_72, rfl, ⟨hW, hF, hG, hGI9, trivial⟩, ⟨0, (-1), by rw [ht]; exact hP, hD⟩⟩, hS.F ht⟩) hS.2.2 dX13_mend_134
                · have hz := rfl (a := 0)
                  have n_81 : v28 = 20 := (iEQ (a := v28) (b := 20) (by omega) (by omega)).mp c_39
                  refine lv_aload_n hx hb dX13_mend_83 rfl (lv_at hl 1 rfl) ?_
                  refine lv_bipush (v := 9) hx hb dX13_mend_84 (by decide) ?_
                  have hPc := hP.sub (ws' := [(za, .inr (13, [.int 0, .ref z1, .int (nI z2), .int (nI z3), .int z4, .int z5, .ref z6, .ref z7, .ref z8, .ref z9, .int (nI z10), .ref z11, .ref z12, .ref z13, .ref z14, .ref z15, .int (nI z16), .ref z17, .int z18, .ref z19]))]) [0] rfl
                  have hDc := hD.sub (ws' := [(za, .inr (13, [.int 0, .ref z1, .int (nI z2), .int (nI z3), .int z4, .int z5, .ref z6, .ref z7, .ref z8, .ref z9, .int (nI z10), .ref z11, .ref z12, .ref z13, .ref z14, .ref z15, .int (nI z16), .ref z17, .int z18, .ref z19]))]) [0] (by decide) rfl
                  have hKc := hK.sub (tys' := []) [] rfl
                  have hFc := va_free (wc := [(za, .inr (13, [.int 0, .ref z1, .int (nI z2), .int (nI z3), .int z4, .int z5, .ref z6, .ref z7, .ref z8, .ref z9, .int (nI z10), .ref z11, .ref z12, .ref z13, .ref z14, .ref z15, .int (nI z16), .ref z17, .int z18, .ref z19]))]) hD hS hA [0] rfl
                  refine va_calli (va_runV (As := [.int 9]) (rest := []) ⟨hx, hb, hml, hown, hg⟩ (m_refused l D H_2.size za 0 z1 (nI z2) (nI z3) z4 z5 z6 z7 z8 z9 (nI z10) z11 z12 z13 z14 z15 (nI z16) z17 z18 z19 9) (cwV 1 hg (gV wd_725 wd_726 wd_727 wd_717 wd_728) rfl rfl rfl (by decide +kernel) ⟨(Nat.le_trans (Nat.le_of_ble_eq_true rfl) hRf), (Nat.le_trans (Nat.le_of_ble_eq_true rfl) hRl)⟩) ⟨Pr.blind, va_recv hK hP (ci := 13) (q0 := 0) rfl rfl, fun U hU hW => ⟨rfl, Pr.at hPc hKc hDc hN hU hW⟩⟩ rfl rfl hl.1 rfl (lv_room (Nat.le_of_ble_eq_true rfl)) dX13_mend_86 ⟨(Nat.le_trans (Nat.le_of_ble_eq_true rfl) hRc), (Nat.le_trans (Nat.le_of_ble_eq_true rfl) hRs)⟩) hS (fun q _ h => hFc q h) hFc (fun r_83 M_84 t H_82 locs ht hvm hw hB hz1 hk1 hS => ?_)
                  have hp_85 := hw
                  obtain ⟨hP1, hK1, hD1⟩ := hB
                  rw [ht] at hP1
                  obtain ⟨hP, hD⟩ := va_joinQ (X := [(za, .inr (13, [.int 0, .ref z1, .int (nI z2), .int (nI z3), .int z4, .int z5, .ref z6, .ref z7, .ref z8, .ref z9, .int (nI z10), .ref z11, .ref z12, .ref z13, .ref z14, .ref z15, .int (nI z16), .ref z17, .int z18, .ref z19]))]) (cx := [(za, .inr (13, [.int 0, .ref z1, .int (nI z2), .int (nI z3), .int z4, .int z5, .ref z6, .ref z7, .ref z8, .ref z9, .int (nI z10), .ref z11, .ref z12, .ref z13, .ref z14, .ref z15, .int (nI z16), .ref z17, .int z18, .ref z19]))]) (wr := []) (w1 := [(za, .inr (13, [.int 0, .ref z1, .int (nI z2), .int (nI z3), .int 9, .int (-1), .ref z6, .ref z7, .ref z8, .ref z9, .int (nI z10), .ref z11, .ref z12, .ref z13, .ref z14, .ref z15, .int (nI z16), .ref z17, .int z18, .ref z19]))]) (pl := va_pl L M) hP hD [0] [] rfl rfl (by decide) (by decide) hk1 hFc hP1 hD1
                  have hP : va_P D vwCl ([(za, .inr (13, [.int 0, .ref z1, .int (nI z2), .int (nI z3), .int 9, .int (-1), .ref z6, .ref z7, .ref z8, .ref z9, .int (nI z10), .ref z11, .ref z12, .ref z13, .ref z14, .ref z15, .int (nI z16), .ref z17, .int z18, .ref z19]))] ++ va_pl L M) H_82 := hP
                  have hD : va_D A ([(za, .inr (13, [.int 0, .ref z1, .int (nI z2), .int (nI z3), .int 9, .int (-1), .ref z6, .ref z7, .ref z8, .ref z9, .int (nI z10), .ref z11, .ref z12, .ref z13, .ref z14, .ref z15, .int (nI z16), .ref z17, .int z18, .ref z19]))] ++ va_pl L M) := hD
                  have hq := Eq.symm hp_85
                  subst hq
                  rw [hQ]
                  exact W.iret (v := (-1)) hx hb hr (fun t ht hW9 => ⟨⟨(-1), M, rfl, ⟨hW, hF, hG, hGI, trivial⟩, ⟨9, (-1), by rw [ht]; exact hP, hD⟩⟩, hS.F ht⟩) hS.2.2 dX13_mend_89
              · have hz := rfl (a := 0)
                have n_86 : ¬ k2 < 0 := gtM (Int32.not_le.mp c_38)
                refine lv_aload_n hx hb dX13_mend_67 rfl (lv_at hl 1 rfl) ?_
                refine lv_iconst (v := 3) hx hb dX13_mend_68 (by decide) ?_
                have hPc := hP.sub (ws' := [(za, .inr (13, [.int 0, .ref z1, .int (nI z2), .int (nI z3), .int z4, .int z5, .ref z6, .ref z7, .ref z8, .ref z9, .int (nI z10), .ref z11, .ref z12, .ref z13, .ref z14, .ref z15, .int (nI z16), .ref z17, .int z18, .ref z19]))]) [0] rfl
                have hDc := hD.sub (ws' := [(za, .inr (13, [.int 0, .ref z1, .int (nI z2), .int (nI z3), .int z4, .int z5, .ref z6, .ref z7, .ref z8, .ref z9, .int (nI z10), .ref z11, .ref z12, .ref z13, .ref z14, .ref z15, .int (nI z16), .ref z17, .int z18, .ref z19]))]) [0] (by decide) rfl
                have hKc := hK.sub (tys' := []) [] rfl
                have hFc := va_free (wc := [(za, .inr (13, [.int 0, .ref z1, .int (nI z2), .int (nI z3), .int z4, .int z5, .ref z6, .ref z7, .ref z8, .ref z9, .int (nI z10), .ref z11, .ref z12, .ref z13, .ref z14, .ref z15, .int (nI z16), .ref z17, .int z18, .ref z19]))]) hD hS hA [0] rfl
                refine va_calli (va_runV (As := [.int 3]) (rest := []) ⟨hx, hb, hml, hown, hg⟩ (m_refused l D H_2.size za 0 z1 (nI z2) (nI z3) z4 z5 z6 z7 z8 z9 (nI z10) z11 z12 z13 z14 z15 (nI z16) z17 z18 z19 3) (cwV 1 hg (gV wd_725 wd_726 wd_727 wd_717 wd_728) rfl rfl rfl (by decide +kernel) ⟨(Nat.le_trans (Nat.le_of_ble_eq_true rfl) hRf), (Nat.le_trans (Nat.le_of_ble_eq_true rfl) hRl)⟩) ⟨Pr.blind, va_recv hK hP (ci := 13) (q0 := 0) rfl rfl, fun U hU hW => ⟨rfl, Pr.at hPc hKc hDc hN hU hW⟩⟩ rfl rfl hl.1 rfl (lv_room (Nat.le_of_ble_eq_true rfl)) dX13_mend_69 ⟨(Nat.le_trans (Nat.le_of_ble_eq_true rfl) hRc), (Nat.le_trans (Nat.le_of_ble_eq_true rfl) hRs)⟩) hS (fun q _ h => hFc q h) hFc (fun r_88 M_89 t H_87 locs ht hvm hw hB hz1 hk1 hS => ?_)
                have hp_90 := hw
                obtain ⟨hP1, hK1, hD1⟩ := hB
                rw [ht] at hP1
                obtain ⟨hP, hD⟩ := va_joinQ (X := [(za, .inr (13, [.int 0, .ref z1, .int (nI z2), .int (nI z3), .int z4, .int z5, .ref z6, .ref z7, .ref z8, .ref z9, .int (nI z10), .ref z11, .ref z12, .ref z13, .ref z14, .ref z15, .int (nI z16), .ref z17, .int z18, .ref z19]))]) (cx := [(za, .inr (13, [.int 0, .ref z1, .int (nI z2), .int (nI z3), .int z4, .int z5, .ref z6, .ref z7, .ref z8, .ref z9, .int (nI z10), .ref z11, .ref z12, .ref z13, .ref z14, .ref z15, .int (nI z16), .ref z17, .int z18, .ref z19]))]) (wr := []) (w1 := [(za, .inr (13, [.int 0, .ref z1, .int (nI z2), .int (nI z3), .int 3, .int (-1), .ref z6, .ref z7, .ref z8, .ref z9, .int (nI z10), .ref z11, .ref z12, .ref z13, .ref z14, .ref z15, .int (nI z16), .ref z17, .int z18, .ref z19]))]) (pl := va_pl L M) hP hD [0] [] rfl rfl (by decide) (by decide) hk1 hFc hP1 hD1
                have hP : va_P D vwCl ([(za, .inr (13, [.int 0, .ref z1, .int (nI z2), .int (nI z3), .int 3, .int (-1), .ref z6, .ref z7, .ref z8, .ref z9, .int (nI z10), .ref z11, .ref z12, .ref z13, .ref z14, .ref z15, .int (nI z16), .ref z17, .int z18, .ref z19]))] ++ va_pl L M) H_87 := hP
                have hD : va_D A ([(za, .inr (13, [.int 0, .ref z1, .int (nI z2), .int (nI z3), .int 3, .int (-1), .ref z6, .ref z7, .ref z8, .ref z9, .int (nI z10), .ref z11, .ref z12, .ref z13, .ref z14, .ref z15, .int (nI z16), .ref z17, .int z18, .ref z19]))] ++ va_pl L M) := hD
                have hq := Eq.symm hp_90
                subst hq
                rw [hQ]
                exact W.iret (v := (-1)) hx hb hr (fun t ht hW9 => ⟨⟨(-1), M, rfl, ⟨hW, hF, hG, hGI, trivial⟩, ⟨3, (-1), by rw [ht]; exact hP, hD⟩⟩, hS.F ht⟩) hS.2.2 dX13_mend_72
            · have hz := rfl (a := 0)
              refine lv_icmp_le (tgt := 73) hx hb dX13_mend_64 (by decide) (fun c_91 => ?_) (fun c_91 => ?_)
              · have hz := rfl (a := 0)
                refine lv_aload hx hb dX13_mend_73 (lv_at hl 0 rfl) ?_
                refine pg_getN (D := D) (ci := 12) (v := .int (nI v28)) (C := RX12) (T := TX12) (N := 51) hx hb hg inG12 hown hK hP hb_25.1 hM26 rfl 15 (by decide) (hN.use (Cond.fieldLinkNest RX13 279 RX12 "mends" "I" RX13) 24 rfl rfl) (fun _ h9 => h9) hv28 dX13_mend_75 ?_
                refine lv_bipush (v := 20) hx hb dX13_mend_78 (by decide) ?_
                refine lv_icmp_ne (tgt := 90) hx hb dX13_mend_80 (by decide) (fun c_92 => ?_) (fun c_92 => ?_)
                · have hz := rfl (a := 0)
                  have n_93 : ¬ (v28 = 20) := fun q => c_92 ((iEQ (a := v28) (b := 20) (by omega) (by omega)).mpr q)
                  refine lv_aload hx hb dX13_mend_90 (lv_at hl 0 rfl) ?_
                  obtain ⟨v94, hv94, hc94⟩ : ∃ v : Nat, fs26[41]? = some (.ref v : Value) ∧ isk K L v 44 20 := hl26 41 (by decide)
                  refine pg_getN (D := D) (ci := 12) (v := .ref v94) (C := RX12) (T := TX12) (N := 51) hx hb hg inG12 hown hK hP hb_25.1 hM26 rfl 41 (by decide) (hN.use (Cond.fieldLinkNest RX13 358 RX12 "mendDay" "[I" RX13) 50 rfl rfl) (fun _ h9 => h9) hv94 dX13_mend_92 ?_
                  refine lv_aload hx hb dX13_mend_95 (lv_at hl 0 rfl) ?_
                  refine pg_getN (D := D) (ci := 12) (v := .int (nI v28)) (C := RX12) (T := TX12) (N := 51) hx hb hg inG12 hown hK hP hb_25.1 hM26 rfl 15 (by decide) (hN.use (Cond.fieldLinkNest RX13 279 RX12 "mends" "I" RX13) 24 rfl rfl) (fun _ h9 => h9) hv28 dX13_mend_97 ?_
                  refine lv_iload_n hx hb dX13_mend_100 rfl (lv_at hl 3 rfl) ?_
                  obtain ⟨j_95, hj_96, rfl⟩ := i32nat 1000 (by decide) (geN (n := v27) (by omega) (Int32.not_lt.mp c_29)) (leB (b := 1000) (c := c_36) (by omega) (by decide) c_91)
                  obtain ⟨f97, hM97, hf97⟩ := hW.open_44 hc94
                  refine pg_iast hx hb hK hP hD hS hc94.1 0 hM97 rfl (inbN v28 20 (by omega) (by omega)) dX13_mend_101 (fun H_98 locs hP hD hS => ?_)
                  obtain ⟨M_99, eM_99⟩ : ∃ M1 : Hp, M1 = va_up M v94 (.inl (cy 14, 20, .inl (upd f97 ((nI v28) : Int32).toNatClampNeg (nI j_95)))) := ⟨_, rfl⟩
                  have hy41 : (ax M b23 41) = f97 := (congrFun hV.2.2.1 41).symm.trans (ax_of hM26 (by decide) hv94 hM97)
                  have hV : VW K L M M_99 b23 (fx M b23) (va_up (ax M b23) 41 (upd (ax M b23 41) ((nI v28) : Int32).toNatClampNeg (nI j_95))) := by rw [eM_99]; exact hV.ast (j := 41) hW hb_25 hM26 (by decide) hv94 hc94 hM97
                  have hP : va_P D vwCl ([(za, .inr (13, [.int 0, .ref z1, .int (nI z2), .int (nI z3), .int z4, .int z5, .ref z6, .ref z7, .ref z8, .ref z9, .int (nI z10), .ref z11, .ref z12, .ref z13, .ref z14, .ref z15, .int (nI z16), .ref z17, .int z18, .ref z19]))] ++ va_pl L M_99) H_98 := by rw [eM_99]; exact hP
                  have hD : va_D A ([(za, .inr (13, [.int 0, .ref z1, .int (nI z2), .int (nI z3), .int z4, .int z5, .ref z6, .ref z7, .ref z8, .ref z9, .int (nI z10), .ref z11, .ref z12, .ref z13, .ref z14, .ref z15, .int (nI z16), .ref z17, .int z18, .ref z19]))] ++ va_pl L M_99) := by rw [eM_99]; exact hD
                  have hW : WOM cy K L M_99 := by rw [eM_99]; exact hW.up_44 hc94 ⟨_, rfl, (updP (P := fun z => ∃ c : Nat, c < 1000 ∧ z = nI c) hf97 ⟨j_95, by omega, rfl⟩)⟩
                  have hF : fr K L [12, 14, 44, 82] M M_99 := by rw [eM_99]; exact hF.up hc94 (by decide)
                  have hG : fG K L [15] M M_99 := by rw [eM_99]; exact hG.arr hc94 (by decide)
                  have hM_100 : M_99 v94 = .inl (cy 14, 20, .inl (upd f97 ((nI v28) : Int32).toNatClampNeg (nI j_95))) := by rw [eM_99]; exact va_up_self _ _ _
                  have hM_101 : M_99 z1 = .inl (cy 23, 8, .inr (.inr (.inr (.inr (f21))))) := by rw [eM_99, va_up_ne _ _ (i1.neT hc94 (by decide))]; exact hM21
                  have hM_102 : M_99 b23 = .inr (12, fs26) := by rw [eM_99, va_up_ne _ _ (hb_25.neT hc94 (by decide))]; exact hM26
                  have hf_104 : ∀ j, j < 20 → ∃ c : Nat, c < 1000 ∧ (upd f97 ((nI v28) : Int32).toNatClampNeg (nI j_95)) j = nI c := (updP (P := fun z => ∃ c : Nat, c < 1000 ∧ z = nI c) hf97 ⟨j_95, by omega, rfl⟩)
                  obtain ⟨f_103, ef_103⟩ : ∃ f : Nat → Int32, f = upd f97 ((nI v28) : Int32).toNatClampNeg (nI j_95) := ⟨_, rfl⟩
                  rw [← ef_103] at hM_100 hf_104
                  refine lv_aload hx hb dX13_mend_102 (lv_at hl 0 rfl) ?_
                  obtain ⟨v105, hv105, hc105⟩ : ∃ v : Nat, fs26[42]? = some (.ref v : Value) ∧ isk K L v 82 20 := hl26 42 (by decide)
                  refine pg_getN (D := D) (ci := 12) (v := .ref v105) (C := RX12) (T := TX12) (N := 51) hx hb hg inG12 hown hK hP hb_25.1 hM_102 rfl 42 (by decide) (hN.use (Cond.fieldLinkNest RX13 361 RX12 "mendSum" "[I" RX13) 51 rfl rfl) (fun _ h9 => h9) hv105 dX13_mend_104 ?_
                  refine lv_aload hx hb dX13_mend_107 (lv_at hl 0 rfl) ?_
                  refine pg_getN (D := D) (ci := 12) (v := .int (nI v28)) (C := RX12) (T := TX12) (N := 51) hx hb hg inG12 hown hK hP hb_25.1 hM_102 rfl 15 (by decide) (hN.use (Cond.fieldLinkNest RX13 279 RX12 "mends" "I" RX13) 24 rfl rfl) (fun _ h9 => h9) hv28 dX13_mend_109 ?_
                  refine lv_iload_n hx hb dX13_mend_112 rfl (lv_at hl 4 rfl) ?_
                  obtain ⟨f106, hM106⟩ := hW.open_82 hc105
                  refine pg_iast hx hb hK hP hD hS hc105.1 0 hM106 rfl (inbN v28 20 (by omega) (by omega)) dX13_mend_113 (fun H_107 locs hP hD hS => ?_)
                  obtain ⟨M_108, eM_108⟩ : ∃ M1 : Hp, M1 = va_up M_99 v105 (.inl (cy 14, 20, .inl (upd f106 ((nI v28) : Int32).toNatClampNeg k3))) := ⟨_, rfl⟩
                  have hy42 : (ax M b23 42) = f106 := (congrFun hV.2.2.1 42).symm.trans (ax_of hM_102 (by decide) hv105 hM106)
                  have hV : VW K L M M_108 b23 (fx M b23) (va_up (va_up (ax M b23) 41 (upd (ax M b23 41) ((nI v28) : Int32).toNatClampNeg (nI j_95))) 42 (upd (ax M b23 42) ((nI v28) : Int32).toNatClampNeg k3)) := by rw [eM_108]; exact hV.ast (j := 42) hW hb_25 hM_102 (by decide) hv105 hc105 hM106
                  have hP : va_P D vwCl ([(za, .inr (13, [.int 0, .ref z1, .int (nI z2), .int (nI z3), .int z4, .int z5, .ref z6, .ref z7, .ref z8, .ref z9, .int (nI z10), .ref z11, .ref z12, .ref z13, .ref z14, .ref z15, .int (nI z16), .ref z17, .int z18, .ref z19]))] ++ va_pl L M_108) H_107 := by rw [eM_108]; exact hP
                  have hD : va_D A ([(za, .inr (13, [.int 0, .ref z1, .int (nI z2), .int (nI z3), .int z4, .int z5, .ref z6, .ref z7, .ref z8, .ref z9, .int (nI z10), .ref z11, .ref z12, .ref z13, .ref z14, .ref z15, .int (nI z16), .ref z17, .int z18, .ref z19]))] ++ va_pl L M_108) := by rw [eM_108]; exact hD
                  have hW : WOM cy K L M_108 := by rw [eM_108]; exact hW.up_82 hc105 ⟨_, rfl⟩
                  have hF : fr K L [12, 14, 44, 82] M M_108 := by rw [eM_108]; exact hF.up hc105 (by decide)
                  have hG : fG K L [15] M M_108 := by rw [eM_108]; exact hG.arr hc105 (by decide)
                  have hM_109 : M_108 v105 = .inl (cy 14, 20, .inl (upd f106 ((nI v28) : Int32).toNatClampNeg k3)) := by rw [eM_108]; exact va_up_self _ _ _
                  have hM_110 : M_108 v94 = .inl (cy 14, 20, .inl (f_103)) := by rw [eM_108, va_up_ne _ _ (hc94.neT hc105 (by decide))]; exact hM_100
                  have hM_111 : M_108 z1 = .inl (cy 23, 8, .inr (.inr (.inr (.inr (f21))))) := by rw [eM_108, va_up_ne _ _ (i1.neT hc105 (by decide))]; exact hM_101
                  have hM_112 : M_108 b23 = .inr (12, fs26) := by rw [eM_108, va_up_ne _ _ (hb_25.neT hc105 (by decide))]; exact hM_102
                  obtain ⟨f_113, ef_113⟩ : ∃ f : Nat → Int32, f = upd f106 ((nI v28) : Int32).toNatClampNeg k3 := ⟨_, rfl⟩
                  rw [← ef_113] at hM_109
                  refine lv_aload hx hb dX13_mend_114 (lv_at hl 0 rfl) ?_
                  refine lv_dup hx hb dX13_mend_116 rfl ?_
                  refine pg_getN (D := D) (ci := 12) (v := .int (nI v28)) (C := RX12) (T := TX12) (N := 51) hx hb hg inG12 hown hK hP hb_25.1 hM_112 rfl 15 (by decide) (hN.use (Cond.fieldLinkNest RX13 279 RX12 "mends" "I" RX13) 24 rfl rfl) (fun _ h9 => h9) hv28 dX13_mend_117 ?_
                  refine lv_iconst (v := 1) hx hb dX13_mend_120 (by decide) ?_
                  refine lv_iadd hx hb dX13_mend_121 ?_
                  refine lv_topi (fun f_114 ef_114 => ?_)
                  obtain rfl : f_114 = (nI (v28 + 1)) := ef_114.trans (nI_add v28 1)
                  refine pg_putN (D := D) (ci := 12) (v := .int (nI (v28 + 1))) (ty := .int) (C := RX12) (T := TX12) (N := 51) hx hb hg inG12 tyX12 tyX12_ok nmX12 hown hK hP hD hS hb_25.1 hM_112 rfl 15 (by decide) (hN.use (Cond.fieldLinkNest RX13 279 RX12 "mends" "I" RX13) 24 rfl rfl) (fun _ h9 => h9) rfl (by decide +kernel) rfl rfl (by rw [hn26]; decide) dX13_mend_122 (fun H_115 locs hP hD hS => ?_)
                  have hs_118 : (fs26.set 15 (.int (nI (v28 + 1))))[15]? = some (.int (nI (v28 + 1))) := List.getElem?_set_self (by rw [hn26]; decide)
                  have hk_117 := fld12_set (k := 15) (w := .int (nI (v28 + 1))) hl26 (show fld12 K L 15 (fs26.set 15 (.int (nI (v28 + 1)))) from ⟨(v28 + 1), hs_118, by omega⟩)
                  have hn_119 : (fs26.set 15 (.int (nI (v28 + 1)))).length = 51 := by rw [List.length_set]; exact hn26
                  have hv_120 : (fs26.set 15 (.int (nI (v28 + 1))))[0]? = some (.int (nI v27)) := by rw [List.getElem?_set_ne (by decide)]; exact hv27
                  have hv_121 : (fs26.set 15 (.int (nI (v28 + 1))))[1]? = some (.int (nI c_36)) := by rw [List.getElem?_set_ne (by decide)]; exact hv35
                  have hv_122 : (fs26.set 15 (.int (nI (v28 + 1))))[41]? = some (.ref v94) := by rw [List.getElem?_set_ne (by decide)]; exact hv94
                  have hv_123 : (fs26.set 15 (.int (nI (v28 + 1))))[42]? = some (.ref v105) := by rw [List.getElem?_set_ne (by decide)]; exact hv105
                  have hb_124 : (v28 + 1) ≤ 20 := by omega
                  obtain ⟨M_125, eM_125⟩ : ∃ M1 : Hp, M1 = va_up M_108 b23 (.inr (12, fs26.set 15 (.int (nI (v28 + 1))))) := ⟨_, rfl⟩
                  have hx15 : (fx M b23 15) = ((v28 : Nat) : Int) := (congrFun hV.2.1 15).symm.trans ((fx_of hM_112 rfl hv28).trans (nI_toInt (by omega)))
                  have hV : VW K L M M_125 b23 (va_up (fx M b23) 15 (((v28 + 1) : Nat) : Int)) (va_up (va_up (ax M b23) 41 (upd (ax M b23 41) ((nI v28) : Int32).toNatClampNeg (nI j_95))) 42 (upd (ax M b23 42) ((nI v28) : Int32).toNatClampNeg k3)) := by rw [eM_125]; exact hV.put hW hb_25 hM_112 hn26 rfl (by decide) rfl (nI_toInt (by omega))
                  have hP : va_P D vwCl ([(za, .inr (13, [.int 0, .ref z1, .int (nI z2), .int (nI z3), .int z4, .int z5, .ref z6, .ref z7, .ref z8, .ref z9, .int (nI z10), .ref z11, .ref z12, .ref z13, .ref z14, .ref z15, .int (nI z16), .ref z17, .int z18, .ref z19]))] ++ va_pl L M_125) H_115 := by rw [eM_125]; exact hP
                  have hD : va_D A ([(za, .inr (13, [.int 0, .ref z1, .int (nI z2), .int (nI z3), .int z4, .int z5, .ref z6, .ref z7, .ref z8, .ref z9, .int (nI z10), .ref z11, .ref z12, .ref z13, .ref z14, .ref z15, .int (nI z16), .ref z17, .int z18, .ref z19]))] ++ va_pl L M_125) := by rw [eM_125]; exact hD
                  have hW : WOM cy K L M_125 := by rw [eM_125]; exact hW.up_12 hb_25 ⟨_, rfl, hn_119, hk_117⟩
                  have hF : fr K L [12, 14, 44, 82] M M_125 := by rw [eM_125]; exact hF.up hb_25 (by decide)
                  have hG : fG K L [15] M M_125 := by rw [eM_125]; exact hG.up hM_112 (by decide)
                  have hM_126 : M_125 b23 = .inr (12, fs26.set 15 (.int (nI (v28 + 1)))) := by rw [eM_125]; exact va_up_self _ _ _
                  have hM_127 : M_125 v105 = .inl (cy 14, 20, .inl (f_113)) := by rw [eM_125, va_up_ne _ _ (hc105.neT hb_25 (by decide))]; exact hM_109
                  have hM_128 : M_125 v94 = .inl (cy 14, 20, .inl (f_103)) := by rw [eM_125, va_up_ne _ _ (hc94.neT hb_25 (by decide))]; exact hM_110
                  have hM_129 : M_125 z1 = .inl (cy 23, 8, .inr (.inr (.inr (.inr (f21))))) := by rw [eM_125, va_up_ne _ _ (i1.neT hb_25 (by decide))]; exact hM_111
                  refine lv_aload_n hx hb dX13_mend_125 rfl (lv_at hl 1 rfl) ?_
                  refine lv_aload hx hb dX13_mend_126 (lv_at hl 0 rfl) ?_
                  refine pg_getN (D := D) (ci := 12) (v := .int (nI (v28 + 1))) (C := RX12) (T := TX12) (N := 51) hx hb hg inG12 hown hK hP hb_25.1 hM_126 rfl 15 (by decide) (hN.use (Cond.fieldLinkNest RX13 279 RX12 "mends" "I" RX13) 24 rfl rfl) (fun _ h9 => h9) hs_118 dX13_mend_128 ?_
                  have hPc := hP.sub (ws' := [(za, .inr (13, [.int 0, .ref z1, .int (nI z2), .int (nI z3), .int z4, .int z5, .ref z6, .ref z7, .ref z8, .ref z9, .int (nI z10), .ref z11, .ref z12, .ref z13, .ref z14, .ref z15, .int (nI z16), .ref z17, .int z18, .ref z19]))]) [0] rfl
                  have hDc := hD.sub (ws' := [(za, .inr (13, [.int 0, .ref z1, .int (nI z2), .int (nI z3), .int z4, .int z5, .ref z6, .ref z7, .ref z8, .ref z9, .int (nI z10), .ref z11, .ref z12, .ref z13, .ref z14, .ref z15, .int (nI z16), .ref z17, .int z18, .ref z19]))]) [0] (by decide) rfl
                  have hKc := hK.sub (tys' := []) [] rfl
                  have hFc := va_free (wc := [(za, .inr (13, [.int 0, .ref z1, .int (nI z2), .int (nI z3), .int z4, .int z5, .ref z6, .ref z7, .ref z8, .ref z9, .int (nI z10), .ref z11, .ref z12, .ref z13, .ref z14, .ref z15, .int (nI z16), .ref z17, .int z18, .ref z19]))]) hD hS hA [0] rfl
                  refine va_calli (va_runV (As := [.int (nI (v28 + 1))]) (rest := []) ⟨hx, hb, hml, hown, hg⟩ (m_done l D H_115.size za 0 z1 (nI z2) (nI z3) z4 z5 z6 z7 z8 z9 (nI z10) z11 z12 z13 z14 z15 (nI z16) z17 z18 z19 (nI (v28 + 1))) (cwV 1 hg (gV wd_730 wd_731 wd_732 wd_717 wd_733) rfl rfl rfl (by decide +kernel) ⟨(Nat.le_trans (Nat.le_of_ble_eq_true rfl) hRf), (Nat.le_trans (Nat.le_of_ble_eq_true rfl) hRl)⟩) ⟨Pr.blind, va_recv hK hP (ci := 13) (q0 := 0) rfl rfl, fun U hU hW => ⟨rfl, Pr.at hPc hKc hDc hN hU hW⟩⟩ rfl rfl hl.1 rfl (lv_room (Nat.le_of_ble_eq_true rfl)) dX13_mend_131 ⟨(Nat.le_trans (Nat.le_of_ble_eq_true rfl) hRc), (Nat.le_trans (Nat.le_of_ble_eq_true rfl) hRs)⟩) hS (fun q _ h => hFc q h) hFc (fun r_131 M_132 t H_130 locs ht hvm hw hB hz1 hk1 hS => ?_)
                  have hp_133 := hw
                  obtain ⟨hP1, hK1, hD1⟩ := hB
                  rw [ht] at hP1
                  obtain ⟨hP, hD⟩ := va_joinQ (X := [(za, .inr (13, [.int 0, .ref z1, .int (nI z2), .int (nI z3), .int z4, .int z5, .ref z6, .ref z7, .ref z8, .ref z9, .int (nI z10), .ref z11, .ref z12, .ref z13, .ref z14, .ref z15, .int (nI z16), .ref z17, .int z18, .ref z19]))]) (cx := [(za, .inr (13, [.int 0, .ref z1, .int (nI z2), .int (nI z3), .int z4, .int z5, .ref z6, .ref z7, .ref z8, .ref z9, .int (nI z10), .ref z11, .ref z12, .ref z13, .ref z14, .ref z15, .int (nI z16), .ref z17, .int z18, .ref z19]))]) (wr := []) (w1 := [(za, .inr (13, [.int 0, .ref z1, .int (nI z2), .int (nI z3), .int 0, .int (-1), .ref z6, .ref z7, .ref z8, .ref z9, .int (nI z10), .ref z11, .ref z12, .ref z13, .ref z14, .ref z15, .int (nI z16), .ref z17, .int z18, .ref z19]))]) (pl := va_pl L M_125) hP hD [0] [] rfl rfl (by decide) (by decide) hk1 hFc hP1 hD1
                  have hP : va_P D vwCl ([(za, .inr (13, [.int 0, .ref z1, .int (nI z2), .int (nI z3), .int 0, .int (-1), .ref z6, .ref z7, .ref z8, .ref z9, .int (nI z10), .ref z11, .ref z12, .ref z13, .ref z14, .ref z15, .int (nI z16), .ref z17, .int z18, .ref z19]))] ++ va_pl L M_125) H_130 := hP
                  have hD : va_D A ([(za, .inr (13, [.int 0, .ref z1, .int (nI z2), .int (nI z3), .int 0, .int (-1), .ref z6, .ref z7, .ref z8, .ref z9, .int (nI z10), .ref z11, .ref z12, .ref z13, .ref z14, .ref z15, .int (nI z16), .ref z17, .int z18, .ref z19]))] ++ va_pl L M_125) := hD
                  have hq := Eq.symm hp_133
                  subst hq
                  have hA9 : HA (ax M b23 2) (ax M b23 3) := hAT.1
                  have hB9 : HB (fx M b23 16) (fx M b23 14) (ax M b23 3) (ax M b23 43) := hAT.2.1
                  have hC9 : HC (fx M b23 10) (ax M b23 22) (ax M b23 23) := hAT.2.2.1
                  have hD9 : HD (fx M b23 0) (fx M b23 11) (((v28 + 1) : Nat) : Int) (ax M b23 34) (upd (ax M b23 41) ((nI v28) : Int32).toNatClampNeg (nI j_95)) := HD.mend hAT.2.2.2.1 hx15 (by omega) (nI_cl (by omega)) (by rw [hx0]; exact geI c_29 (by omega))
                  have hE9 : HE (fx M b23 0) (fx M b23 1) (fx M b23 12) (fx M b23 13) (ax M b23 37) := hAT.2.2.2.2
                  have hH9 : HI (va_up (fx M b23) 15 (((v28 + 1) : Nat) : Int)) (va_up (va_up (ax M b23) 41 (upd (ax M b23 41) ((nI v28) : Int32).toNatClampNeg (nI j_95))) 42 (upd (ax M b23 42) ((nI v28) : Int32).toNatClampNeg k3)) := ⟨hA9, hB9, hC9, hD9, hE9⟩
                  have hGI9 : GI K L z1 z2 M_125 := GI.fin hW0 i1 b2 hGI hact hV (hF.at i1 (by decide)) hH9
                  rw [hQ]
                  exact W.iret (v := (nI (v28 + 1))) hx hb hr (fun t ht hW9 => ⟨⟨(nI (v28 + 1)), M_125, rfl, ⟨hW, hF, hG, hGI9, trivial⟩, ⟨0, (-1), by rw [ht]; exact hP, hD⟩⟩, hS.F ht⟩) hS.2.2 dX13_mend_134
                · have hz := rfl (a := 0)
                  have n_134 : v28 = 20 := (iEQ (a := v28) (b := 20) (by omega) (by omega)).mp c_92
                  refine lv_aload_n hx hb dX13_mend_83 rfl (lv_at hl 1 rfl) ?_
                  refine lv_bipush (v := 9) hx hb dX13_mend_84 (by decide) ?_
                  have hPc := hP.sub (ws' := [(za, .inr (13, [.int 0, .ref z1, .int (nI z2), .int (nI z3), .int z4, .int z5, .ref z6, .ref z7, .ref z8, .ref z9, .int (nI z10), .ref z11, .ref z12, .ref z13, .ref z14, .ref z15, .int (nI z16), .ref z17, .int z18, .ref z19]))]) [0] rfl
                  have hDc := hD.sub (ws' := [(za, .inr (13, [.int 0, .ref z1, .int (nI z2), .int (nI z3), .int z4, .int z5, .ref z6, .ref z7, .ref z8, .ref z9, .int (nI z10), .ref z11, .ref z12, .ref z13, .ref z14, .ref z15, .int (nI z16), .ref z17, .int z18, .ref z19]))]) [0] (by decide) rfl
                  have hKc := hK.sub (tys' := []) [] rfl
                  have hFc := va_free (wc := [(za, .inr (13, [.int 0, .ref z1, .int (nI z2), .int (nI z3), .int z4, .int z5, .ref z6, .ref z7, .ref z8, .ref z9, .int (nI z10), .ref z11, .ref z12, .ref z13, .ref z14, .ref z15, .int (nI z16), .ref z17, .int z18, .ref z19]))]) hD hS hA [0] rfl
                  refine va_calli (va_runV (As := [.int 9]) (rest := []) ⟨hx, hb, hml, hown, hg⟩ (m_refused l D H_2.size za 0 z1 (nI z2) (nI z3) z4 z5 z6 z7 z8 z9 (nI z10) z11 z12 z13 z14 z15 (nI z16) z17 z18 z19 9) (cwV 1 hg (gV wd_725 wd_726 wd_727 wd_717 wd_728) rfl rfl rfl (by decide +kernel) ⟨(Nat.le_trans (Nat.le_of_ble_eq_true rfl) hRf), (Nat.le_trans (Nat.le_of_ble_eq_true rfl) hRl)⟩) ⟨Pr.blind, va_recv hK hP (ci := 13) (q0 := 0) rfl rfl, fun U hU hW => ⟨rfl, Pr.at hPc hKc hDc hN hU hW⟩⟩ rfl rfl hl.1 rfl (lv_room (Nat.le_of_ble_eq_true rfl)) dX13_mend_86 ⟨(Nat.le_trans (Nat.le_of_ble_eq_true rfl) hRc), (Nat.le_trans (Nat.le_of_ble_eq_true rfl) hRs)⟩) hS (fun q _ h => hFc q h) hFc (fun r_136 M_137 t H_135 locs ht hvm hw hB hz1 hk1 hS => ?_)
                  have hp_138 := hw
                  obtain ⟨hP1, hK1, hD1⟩ := hB
                  rw [ht] at hP1
                  obtain ⟨hP, hD⟩ := va_joinQ (X := [(za, .inr (13, [.int 0, .ref z1, .int (nI z2), .int (nI z3), .int z4, .int z5, .ref z6, .ref z7, .ref z8, .ref z9, .int (nI z10), .ref z11, .ref z12, .ref z13, .ref z14, .ref z15, .int (nI z16), .ref z17, .int z18, .ref z19]))]) (cx := [(za, .inr (13, [.int 0, .ref z1, .int (nI z2), .int (nI z3), .int z4, .int z5, .ref z6, .ref z7, .ref z8, .ref z9, .int (nI z10), .ref z11, .ref z12, .ref z13, .ref z14, .ref z15, .int (nI z16), .ref z17, .int z18, .ref z19]))]) (wr := []) (w1 := [(za, .inr (13, [.int 0, .ref z1, .int (nI z2), .int (nI z3), .int 9, .int (-1), .ref z6, .ref z7, .ref z8, .ref z9, .int (nI z10), .ref z11, .ref z12, .ref z13, .ref z14, .ref z15, .int (nI z16), .ref z17, .int z18, .ref z19]))]) (pl := va_pl L M) hP hD [0] [] rfl rfl (by decide) (by decide) hk1 hFc hP1 hD1
                  have hP : va_P D vwCl ([(za, .inr (13, [.int 0, .ref z1, .int (nI z2), .int (nI z3), .int 9, .int (-1), .ref z6, .ref z7, .ref z8, .ref z9, .int (nI z10), .ref z11, .ref z12, .ref z13, .ref z14, .ref z15, .int (nI z16), .ref z17, .int z18, .ref z19]))] ++ va_pl L M) H_135 := hP
                  have hD : va_D A ([(za, .inr (13, [.int 0, .ref z1, .int (nI z2), .int (nI z3), .int 9, .int (-1), .ref z6, .ref z7, .ref z8, .ref z9, .int (nI z10), .ref z11, .ref z12, .ref z13, .ref z14, .ref z15, .int (nI z16), .ref z17, .int z18, .ref z19]))] ++ va_pl L M) := hD
                  have hq := Eq.symm hp_138
                  subst hq
                  rw [hQ]
                  exact W.iret (v := (-1)) hx hb hr (fun t ht hW9 => ⟨⟨(-1), M, rfl, ⟨hW, hF, hG, hGI, trivial⟩, ⟨9, (-1), by rw [ht]; exact hP, hD⟩⟩, hS.F ht⟩) hS.2.2 dX13_mend_89
              · have hz := rfl (a := 0)
                have n_139 : ¬ k2 < 0 := gtN (c := c_36) (by omega) (Int32.not_le.mp c_91)
                refine lv_aload_n hx hb dX13_mend_67 rfl (lv_at hl 1 rfl) ?_
                refine lv_iconst (v := 3) hx hb dX13_mend_68 (by decide) ?_
                have hPc := hP.sub (ws' := [(za, .inr (13, [.int 0, .ref z1, .int (nI z2), .int (nI z3), .int z4, .int z5, .ref z6, .ref z7, .ref z8, .ref z9, .int (nI z10), .ref z11, .ref z12, .ref z13, .ref z14, .ref z15, .int (nI z16), .ref z17, .int z18, .ref z19]))]) [0] rfl
                have hDc := hD.sub (ws' := [(za, .inr (13, [.int 0, .ref z1, .int (nI z2), .int (nI z3), .int z4, .int z5, .ref z6, .ref z7, .ref z8, .ref z9, .int (nI z10), .ref z11, .ref z12, .ref z13, .ref z14, .ref z15, .int (nI z16), .ref z17, .int z18, .ref z19]))]) [0] (by decide) rfl
                have hKc := hK.sub (tys' := []) [] rfl
                have hFc := va_free (wc := [(za, .inr (13, [.int 0, .ref z1, .int (nI z2), .int (nI z3), .int z4, .int z5, .ref z6, .ref z7, .ref z8, .ref z9, .int (nI z10), .ref z11, .ref z12, .ref z13, .ref z14, .ref z15, .int (nI z16), .ref z17, .int z18, .ref z19]))]) hD hS hA [0] rfl
                refine va_calli (va_runV (As := [.int 3]) (rest := []) ⟨hx, hb, hml, hown, hg⟩ (m_refused l D H_2.size za 0 z1 (nI z2) (nI z3) z4 z5 z6 z7 z8 z9 (nI z10) z11 z12 z13 z14 z15 (nI z16) z17 z18 z19 3) (cwV 1 hg (gV wd_725 wd_726 wd_727 wd_717 wd_728) rfl rfl rfl (by decide +kernel) ⟨(Nat.le_trans (Nat.le_of_ble_eq_true rfl) hRf), (Nat.le_trans (Nat.le_of_ble_eq_true rfl) hRl)⟩) ⟨Pr.blind, va_recv hK hP (ci := 13) (q0 := 0) rfl rfl, fun U hU hW => ⟨rfl, Pr.at hPc hKc hDc hN hU hW⟩⟩ rfl rfl hl.1 rfl (lv_room (Nat.le_of_ble_eq_true rfl)) dX13_mend_69 ⟨(Nat.le_trans (Nat.le_of_ble_eq_true rfl) hRc), (Nat.le_trans (Nat.le_of_ble_eq_true rfl) hRs)⟩) hS (fun q _ h => hFc q h) hFc (fun r_141 M_142 t H_140 locs ht hvm hw hB hz1 hk1 hS => ?_)
                have hp_143 := hw
                obtain ⟨hP1, hK1, hD1⟩ := hB
                rw [ht] at hP1
                obtain ⟨hP, hD⟩ := va_joinQ (X := [(za, .inr (13, [.int 0, .ref z1, .int (nI z2), .int (nI z3), .int z4, .int z5, .ref z6, .ref z7, .ref z8, .ref z9, .int (nI z10), .ref z11, .ref z12, .ref z13, .ref z14, .ref z15, .int (nI z16), .ref z17, .int z18, .ref z19]))]) (cx := [(za, .inr (13, [.int 0, .ref z1, .int (nI z2), .int (nI z3), .int z4, .int z5, .ref z6, .ref z7, .ref z8, .ref z9, .int (nI z10), .ref z11, .ref z12, .ref z13, .ref z14, .ref z15, .int (nI z16), .ref z17, .int z18, .ref z19]))]) (wr := []) (w1 := [(za, .inr (13, [.int 0, .ref z1, .int (nI z2), .int (nI z3), .int 3, .int (-1), .ref z6, .ref z7, .ref z8, .ref z9, .int (nI z10), .ref z11, .ref z12, .ref z13, .ref z14, .ref z15, .int (nI z16), .ref z17, .int z18, .ref z19]))]) (pl := va_pl L M) hP hD [0] [] rfl rfl (by decide) (by decide) hk1 hFc hP1 hD1
                have hP : va_P D vwCl ([(za, .inr (13, [.int 0, .ref z1, .int (nI z2), .int (nI z3), .int 3, .int (-1), .ref z6, .ref z7, .ref z8, .ref z9, .int (nI z10), .ref z11, .ref z12, .ref z13, .ref z14, .ref z15, .int (nI z16), .ref z17, .int z18, .ref z19]))] ++ va_pl L M) H_140 := hP
                have hD : va_D A ([(za, .inr (13, [.int 0, .ref z1, .int (nI z2), .int (nI z3), .int 3, .int (-1), .ref z6, .ref z7, .ref z8, .ref z9, .int (nI z10), .ref z11, .ref z12, .ref z13, .ref z14, .ref z15, .int (nI z16), .ref z17, .int z18, .ref z19]))] ++ va_pl L M) := hD
                have hq := Eq.symm hp_143
                subst hq
                rw [hQ]
                exact W.iret (v := (-1)) hx hb hr (fun t ht hW9 => ⟨⟨(-1), M, rfl, ⟨hW, hF, hG, hGI, trivial⟩, ⟨3, (-1), by rw [ht]; exact hP, hD⟩⟩, hS.F ht⟩) hS.2.2 dX13_mend_72
        · have hz := rfl (a := 0)
          refine lv_aload_n hx hb dX13_mend_35 rfl (lv_at hl 0 rfl) ?_
          refine lv_iconst (v := 2) hx hb dX13_mend_36 (by decide) ?_
          have hPc := hP.sub (ws' := [(za, .inr (13, [.int 0, .ref z1, .int (nI z2), .int (nI z3), .int z4, .int z5, .ref z6, .ref z7, .ref z8, .ref z9, .int (nI z10), .ref z11, .ref z12, .ref z13, .ref z14, .ref z15, .int (nI z16), .ref z17, .int z18, .ref z19]))]) [0] rfl
          have hDc := hD.sub (ws' := [(za, .inr (13, [.int 0, .ref z1, .int (nI z2), .int (nI z3), .int z4, .int z5, .ref z6, .ref z7, .ref z8, .ref z9, .int (nI z10), .ref z11, .ref z12, .ref z13, .ref z14, .ref z15, .int (nI z16), .ref z17, .int z18, .ref z19]))]) [0] (by decide) rfl
          have hKc := hK.sub (tys' := []) [] rfl
          have hFc := va_free (wc := [(za, .inr (13, [.int 0, .ref z1, .int (nI z2), .int (nI z3), .int z4, .int z5, .ref z6, .ref z7, .ref z8, .ref z9, .int (nI z10), .ref z11, .ref z12, .ref z13, .ref z14, .ref z15, .int (nI z16), .ref z17, .int z18, .ref z19]))]) hD hS hA [0] rfl
          refine va_calli (va_runV (As := [.int 2]) (rest := []) ⟨hx, hb, hml, hown, hg⟩ (m_refused l D H_2.size za 0 z1 (nI z2) (nI z3) z4 z5 z6 z7 z8 z9 (nI z10) z11 z12 z13 z14 z15 (nI z16) z17 z18 z19 2) (cwV 1 hg (gV wd_725 wd_726 wd_727 wd_717 wd_728) rfl rfl rfl (by decide +kernel) ⟨(Nat.le_trans (Nat.le_of_ble_eq_true rfl) hRf), (Nat.le_trans (Nat.le_of_ble_eq_true rfl) hRl)⟩) ⟨Pr.blind, va_recv hK hP (ci := 13) (q0 := 0) rfl rfl, fun U hU hW => ⟨rfl, Pr.at hPc hKc hDc hN hU hW⟩⟩ rfl rfl hl.1 rfl (lv_room (Nat.le_of_ble_eq_true rfl)) dX13_mend_37 ⟨(Nat.le_trans (Nat.le_of_ble_eq_true rfl) hRc), (Nat.le_trans (Nat.le_of_ble_eq_true rfl) hRs)⟩) hS (fun q _ h => hFc q h) hFc (fun r_145 M_146 t H_144 locs ht hvm hw hB hz1 hk1 hS => ?_)
          have hp_147 := hw
          obtain ⟨hP1, hK1, hD1⟩ := hB
          rw [ht] at hP1
          obtain ⟨hP, hD⟩ := va_joinQ (X := [(za, .inr (13, [.int 0, .ref z1, .int (nI z2), .int (nI z3), .int z4, .int z5, .ref z6, .ref z7, .ref z8, .ref z9, .int (nI z10), .ref z11, .ref z12, .ref z13, .ref z14, .ref z15, .int (nI z16), .ref z17, .int z18, .ref z19]))]) (cx := [(za, .inr (13, [.int 0, .ref z1, .int (nI z2), .int (nI z3), .int z4, .int z5, .ref z6, .ref z7, .ref z8, .ref z9, .int (nI z10), .ref z11, .ref z12, .ref z13, .ref z14, .ref z15, .int (nI z16), .ref z17, .int z18, .ref z19]))]) (wr := []) (w1 := [(za, .inr (13, [.int 0, .ref z1, .int (nI z2), .int (nI z3), .int 2, .int (-1), .ref z6, .ref z7, .ref z8, .ref z9, .int (nI z10), .ref z11, .ref z12, .ref z13, .ref z14, .ref z15, .int (nI z16), .ref z17, .int z18, .ref z19]))]) (pl := va_pl L M) hP hD [0] [] rfl rfl (by decide) (by decide) hk1 hFc hP1 hD1
          have hP : va_P D vwCl ([(za, .inr (13, [.int 0, .ref z1, .int (nI z2), .int (nI z3), .int 2, .int (-1), .ref z6, .ref z7, .ref z8, .ref z9, .int (nI z10), .ref z11, .ref z12, .ref z13, .ref z14, .ref z15, .int (nI z16), .ref z17, .int z18, .ref z19]))] ++ va_pl L M) H_144 := hP
          have hD : va_D A ([(za, .inr (13, [.int 0, .ref z1, .int (nI z2), .int (nI z3), .int 2, .int (-1), .ref z6, .ref z7, .ref z8, .ref z9, .int (nI z10), .ref z11, .ref z12, .ref z13, .ref z14, .ref z15, .int (nI z16), .ref z17, .int z18, .ref z19]))] ++ va_pl L M) := hD
          have hq := Eq.symm hp_147
          subst hq
          rw [hQ]
          exact W.iret (v := (-1)) hx hb hr (fun t ht hW9 => ⟨⟨(-1), M, rfl, ⟨hW, hF, hG, hGI, trivial⟩, ⟨2, (-1), by rw [ht]; exact hP, hD⟩⟩, hS.F ht⟩) hS.2.2 dX13_mend_40
  · have hz := rfl (a := 0)
    refine lv_if_ne (tgt := 19) hx hb dX13_mend_10 (by decide) (fun c_148 => absurd c_148 (by decide)) (fun _ => ?_)
    refine lv_aload_n hx hb dX13_mend_13 rfl (lv_at hl 0 rfl) ?_
    refine lv_iconst (v := 1) hx hb dX13_mend_14 (by decide) ?_
    have hPc := hP.sub (ws' := [(za, .inr (13, [.int 0, .ref z1, .int (nI z2), .int (nI z3), .int z4, .int z5, .ref z6, .ref z7, .ref z8, .ref z9, .int (nI z10), .ref z11, .ref z12, .ref z13, .ref z14, .ref z15, .int (nI z16), .ref z17, .int z18, .ref z19]))]) [0] rfl
    have hDc := hD.sub (ws' := [(za, .inr (13, [.int 0, .ref z1, .int (nI z2), .int (nI z3), .int z4, .int z5, .ref z6, .ref z7, .ref z8, .ref z9, .int (nI z10), .ref z11, .ref z12, .ref z13, .ref z14, .ref z15, .int (nI z16), .ref z17, .int z18, .ref z19]))]) [0] (by decide) rfl
    have hKc := hK.sub (tys' := []) [] rfl
    have hFc := va_free (wc := [(za, .inr (13, [.int 0, .ref z1, .int (nI z2), .int (nI z3), .int z4, .int z5, .ref z6, .ref z7, .ref z8, .ref z9, .int (nI z10), .ref z11, .ref z12, .ref z13, .ref z14, .ref z15, .int (nI z16), .ref z17, .int z18, .ref z19]))]) hD hS hA [0] rfl
    refine va_calli (va_runV (As := [.int 1]) (rest := []) ⟨hx, hb, hml, hown, hg⟩ (m_refused l D H_2.size za 0 z1 (nI z2) (nI z3) z4 z5 z6 z7 z8 z9 (nI z10) z11 z12 z13 z14 z15 (nI z16) z17 z18 z19 1) (cwV 1 hg (gV wd_725 wd_726 wd_727 wd_717 wd_728) rfl rfl rfl (by decide +kernel) ⟨(Nat.le_trans (Nat.le_of_ble_eq_true rfl) hRf), (Nat.le_trans (Nat.le_of_ble_eq_true rfl) hRl)⟩) ⟨Pr.blind, va_recv hK hP (ci := 13) (q0 := 0) rfl rfl, fun U hU hW => ⟨rfl, Pr.at hPc hKc hDc hN hU hW⟩⟩ rfl rfl hl.1 rfl (lv_room (Nat.le_of_ble_eq_true rfl)) dX13_mend_15 ⟨(Nat.le_trans (Nat.le_of_ble_eq_true rfl) hRc), (Nat.le_trans (Nat.le_of_ble_eq_true rfl) hRs)⟩) hS (fun q _ h => hFc q h) hFc (fun r_150 M_151 t H_149 locs ht hvm hw hB hz1 hk1 hS => ?_)
    have hp_152 := hw
    obtain ⟨hP1, hK1, hD1⟩ := hB
    rw [ht] at hP1
    obtain ⟨hP, hD⟩ := va_joinQ (X := [(za, .inr (13, [.int 0, .ref z1, .int (nI z2), .int (nI z3), .int z4, .int z5, .ref z6, .ref z7, .ref z8, .ref z9, .int (nI z10), .ref z11, .ref z12, .ref z13, .ref z14, .ref z15, .int (nI z16), .ref z17, .int z18, .ref z19]))]) (cx := [(za, .inr (13, [.int 0, .ref z1, .int (nI z2), .int (nI z3), .int z4, .int z5, .ref z6, .ref z7, .ref z8, .ref z9, .int (nI z10), .ref z11, .ref z12, .ref z13, .ref z14, .ref z15, .int (nI z16), .ref z17, .int z18, .ref z19]))]) (wr := []) (w1 := [(za, .inr (13, [.int 0, .ref z1, .int (nI z2), .int (nI z3), .int 1, .int (-1), .ref z6, .ref z7, .ref z8, .ref z9, .int (nI z10), .ref z11, .ref z12, .ref z13, .ref z14, .ref z15, .int (nI z16), .ref z17, .int z18, .ref z19]))]) (pl := va_pl L M) hP hD [0] [] rfl rfl (by decide) (by decide) hk1 hFc hP1 hD1
    have hP : va_P D vwCl ([(za, .inr (13, [.int 0, .ref z1, .int (nI z2), .int (nI z3), .int 1, .int (-1), .ref z6, .ref z7, .ref z8, .ref z9, .int (nI z10), .ref z11, .ref z12, .ref z13, .ref z14, .ref z15, .int (nI z16), .ref z17, .int z18, .ref z19]))] ++ va_pl L M) H_149 := hP
    have hD : va_D A ([(za, .inr (13, [.int 0, .ref z1, .int (nI z2), .int (nI z3), .int 1, .int (-1), .ref z6, .ref z7, .ref z8, .ref z9, .int (nI z10), .ref z11, .ref z12, .ref z13, .ref z14, .ref z15, .int (nI z16), .ref z17, .int z18, .ref z19]))] ++ va_pl L M) := hD
    have hq := Eq.symm hp_152
    subst hq
    rw [hQ]
    exact W.iret (v := (-1)) hx hb hr (fun t ht hW9 => ⟨⟨(-1), M, rfl, ⟨hW, hF, hG, hGI, trivial⟩, ⟨1, (-1), by rw [ht]; exact hP, hD⟩⟩, hS.F ht⟩) hS.2.2 dX13_mend_18
set_option maxHeartbeats 4000000 in
set_option maxRecDepth 100000 in
theorem r_partner5 (l : Launch) (D : va_G) (cy : Nat → ClassId) (K : Kp) (L : List Nat) (M : Hp) (sz : Nat) (za : Nat) (z0 : Int32) (z1 : Nat) (z2 : Nat) (z3 : Nat) (z4 : Int32) (z5 : Int32) (z6 : Nat) (z7 : Nat) (z8 : Nat) (z9 : Nat) (z10 : Nat) (z11 : Nat) (z12 : Nat) (z13 : Nat) (z14 : Nat) (z15 : Nat) (z16 : Nat) (z17 : Nat) (z18 : Int32) (z19 : Nat) (k1 : Int32) (k2 : Int32) (hW : WOM cy K L M) (i1 : isk K L z1 23 8) (b2 : z2 ≤ 8) (b3 : z3 ≤ 40) (i6 : isk K L z6 47 40) (i7 : isk K L z7 48 40) (i8 : isk K L z8 49 8) (i9 : isk K L z9 50 8) (b10 : z10 ≤ 8) (i11 : isk K L z11 32 24) (i12 : isk K L z12 14 24) (i13 : isk K L z13 15 24) (i14 : isk K L z14 15 24) (i15 : isk K L z15 15 24) (b16 : z16 ≤ 24) (i17 : isk K L z17 14 24) (i19 : isk K L z19 15 25) (hR5 : R5 z6 z7 M) : Met l yX13_partner (wsM yX13_partner cX13_partner 4 (some .int)) ({ frames := 1, cells := 0, slots := 0, locals := 21 }) (va_Pc [.ref za, .int k1, .int k2] (PG D cy [(za, .inr (13, [.int z0, .ref z1, .int (nI z2), .int (nI z3), .int z4, .int z5, .ref z6, .ref z7, .ref z8, .ref z9, .int (nI z10), .ref z11, .ref z12, .ref z13, .ref z14, .ref z15, .int (nI z16), .ref z17, .int z18, .ref z19]))] L M sz)) (va_Qi (fun (r : Int32) (M9 : Hp) => WOM cy K L M9 ∧ fr K L [47, 48] M M9 ∧ (R5 z6 z7 M9) ∧ (True)) (fun M9 t => ∃ (w3 : Nat) (w4 : Int32) (w5 : Int32), w3 ≤ 40 ∧ PQ D [(za, .inr (13, [.int 0, .ref z1, .int (nI z2), .int (nI w3), .int w4, .int w5, .ref z6, .ref z7, .ref z8, .ref z9, .int (nI z10), .ref z11, .ref z12, .ref z13, .ref z14, .ref z15, .int (nI z16), .ref z17, .int z18, .ref z19]))] L M9 (va_A ([(za, .inr (13, [.int z0, .ref z1, .int (nI z2), .int (nI z3), .int z4, .int z5, .ref z6, .ref z7, .ref z8, .ref z9, .int (nI z10), .ref z11, .ref z12, .ref z13, .ref z14, .ref z15, .int (nI z16), .ref z17, .int z18, .ref z19]))] ++ va_pl L M) sz) t) (va_A ([(za, .inr (13, [.int z0, .ref z1, .int (nI z2), .int (nI z3), .int z4, .int z5, .ref z6, .ref z7, .ref z8, .ref z9, .int (nI z10), .ref z11, .ref z12, .ref z13, .ref z14, .ref z15, .int (nI z16), .ref z17, .int z18, .ref z19]))] ++ va_pl L M) sz)) 0 0 (va_A ([(za, .inr (13, [.int z0, .ref z1, .int (nI z2), .int (nI z3), .int z4, .int z5, .ref z6, .ref z7, .ref z8, .ref z9, .int (nI z10), .ref z11, .ref z12, .ref z13, .ref z14, .ref z15, .int (nI z16), .ref z17, .int z18, .ref z19]))] ++ va_pl L M) sz) := by
  refine Met.ofW (cc := cX13_partner) (maxL := 4) (ret := (some .int)) (by decide) rfl ?_
  intro p e s m args below meth c s₁ B hml hv
  obtain ⟨rfl, hsz, hP, hK, hD0, hN⟩ := hv
  have hx := B.exec
  have hb := B.bytes
  have hr := B.returns
  have hts := atoms_spec (ws := (wsM yX13_partner cX13_partner 4 (some .int))) B.pre
  have hg : ∀ w ∈ lw_good, w.before _ s = true := fun w h => hts w (List.mem_cons_of_mem _ h)
  have hown : s.vm.findClass RX13 = some m.cls := findClass_of_methodNamed B.named
  have hlocks := B.notSynchronized
  subst hsz
  have hD := hD0.self (sz := s.heap.size)
  generalize hAe : va_A ([(za, .inr (13, [.int z0, .ref z1, .int (nI z2), .int (nI z3), .int z4, .int z5, .ref z6, .ref z7, .ref z8, .ref z9, .int (nI z10), .ref z11, .ref z12, .ref z13, .ref z14, .ref z15, .int (nI z16), .ref z17, .int z18, .ref z19]))] ++ va_pl L M) s.heap.size = A at hD ⊢
  have hA : ∀ q : Nat, s.heap.size ≤ q → A q := fun q h => by rw [← hAe]; exact Or.inr h
  have hS : va_S A s.heap s.heap [] := va_S.rf
  have hl := lv_entry ([.ref za, .int k1, .int k2]) (n := 4) (Nat.le_of_ble_eq_true rfl)
  rw [lg_entry_eq]
  generalize (lg_sl ([.ref za, .int k1, .int k2]) ++ List.replicate (4 - (lg_sl ([.ref za, .int k1, .int k2])).length) Slot.unset).toArray = ls at hl ⊢
  refine W.nameQ (fun Q hQ => ?_)
  refine W.nameR (fun R hR => ?_)
  have hRf : 1 ≤ R.frames := by rw [hR]; exact Nat.le_of_ble_eq_true rfl
  have hRl : 21 ≤ R.locals := by rw [hR]; exact Nat.le_of_ble_eq_true rfl
  have hRc : 0 ≤ R.cells := by rw [hR]; exact Nat.le_of_ble_eq_true rfl
  have hRs : 0 ≤ R.slots := by rw [hR]; exact Nat.le_of_ble_eq_true rfl
  have hF : fr K L [47, 48] M M := fr.rf
  have hl : lv_has ls 4 [(0, .ref za), (1, .int k1), (2, .int k2)] := hl
  have hW0 := hW
  refine lv_aload_n hx hb dX13_partner_0 rfl (lv_at hl 0 rfl) ?_
  refine lv_iconst (v := 0) hx hb dX13_partner_1 (by decide) ?_
  refine va_put (D := D) (ci := 13) (v := .int 0) (ty := .int) (C := RX13) (T := TX13) (N := 20) hx hb hg inG13 tyX13 tyX13_ok nmX13 hown hK hP hD hS 0 rfl rfl 0 (by decide) (hg _ wd_720) (fun _ h9 => h9) rfl (by decide +kernel) rfl rfl (Nat.le_of_ble_eq_true rfl) dX13_partner_2 (fun H_1 locs hP hD hS => ?_)
  have hP : va_P D vwCl ([(za, .inr (13, [.int 0, .ref z1, .int (nI z2), .int (nI z3), .int z4, .int z5, .ref z6, .ref z7, .ref z8, .ref z9, .int (nI z10), .ref z11, .ref z12, .ref z13, .ref z14, .ref z15, .int (nI z16), .ref z17, .int z18, .ref z19]))] ++ va_pl L M) H_1 := hP
  have hD : va_D A ([(za, .inr (13, [.int 0, .ref z1, .int (nI z2), .int (nI z3), .int z4, .int z5, .ref z6, .ref z7, .ref z8, .ref z9, .int (nI z10), .ref z11, .ref z12, .ref z13, .ref z14, .ref z15, .int (nI z16), .ref z17, .int z18, .ref z19]))] ++ va_pl L M) := hD
  refine lv_iload_n hx hb dX13_partner_5 rfl (lv_at hl 1 rfl) ?_
  refine lv_iconst (v := 1) hx hb dX13_partner_6 (by decide) ?_
  refine lv_icmp_eq (tgt := 20) hx hb dX13_partner_7 (by decide) (fun c_2 => ?_) (fun c_2 => ?_)
  · have hz := rfl (a := 0)
    refine lv_iconst (v := 1) hx hb dX13_partner_20 (by decide) ?_
    refine lv_goto (tgt := 25) hx hb dX13_partner_21 (by decide) ?_
    refine lv_istore_n (lv' := [(3, .int 1), (0, .ref za), (1, .int k1), (2, .int k2)]) hx hb dX13_partner_25 rfl hl (by decide) rfl (fun ls hl => ?_)
    refine lv_iload_n hx hb dX13_partner_26 rfl (lv_at hl 2 rfl) ?_
    refine lv_if_lt (tgt := 49) hx hb dX13_partner_27 (by decide) (fun c_3 => absurd c_3 (by rw [c_2]; decide)) (fun c_3 => ?_)
    refine lv_iload_n hx hb dX13_partner_30 rfl (lv_at hl 2 rfl) ?_
    refine lv_iconst (v := 5) hx hb dX13_partner_31 (by decide) ?_
    refine lv_icmp_gt (tgt := 49) hx hb dX13_partner_32 (by decide) (fun c_4 => absurd c_4 (by rw [c_2]; decide)) (fun c_4 => ?_)
    refine lv_iload_n hx hb dX13_partner_35 rfl (lv_at hl 0 rfl) ?_
    refine lv_if_eq (tgt := 55) hx hb dX13_partner_36 (by decide) (fun c_5 => absurd c_5 (by decide)) (fun _ => ?_)
    refine lv_iload_n hx hb dX13_partner_39 rfl (lv_at hl 3 rfl) ?_
    refine lv_if_lt (tgt := 49) hx hb dX13_partner_40 (by decide) (fun c_6 => ?_) (fun c_6 => ?_)
    · have hz := rfl (a := 0)
      refine lv_aload_n hx hb dX13_partner_49 rfl (lv_at hl 1 rfl) ?_
      refine lv_iconst (v := 2) hx hb dX13_partner_50 (by decide) ?_
      have hPc := hP.sub (ws' := [(za, .inr (13, [.int 0, .ref z1, .int (nI z2), .int (nI z3), .int z4, .int z5, .ref z6, .ref z7, .ref z8, .ref z9, .int (nI z10), .ref z11, .ref z12, .ref z13, .ref z14, .ref z15, .int (nI z16), .ref z17, .int z18, .ref z19]))]) [0] rfl
      have hDc := hD.sub (ws' := [(za, .inr (13, [.int 0, .ref z1, .int (nI z2), .int (nI z3), .int z4, .int z5, .ref z6, .ref z7, .ref z8, .ref z9, .int (nI z10), .ref z11, .ref z12, .ref z13, .ref z14, .ref z15, .int (nI z16), .ref z17, .int z18, .ref z19]))]) [0] (by decide) rfl
      have hKc := hK.sub (tys' := []) [] rfl
      have hFc := va_free (wc := [(za, .inr (13, [.int 0, .ref z1, .int (nI z2), .int (nI z3), .int z4, .int z5, .ref z6, .ref z7, .ref z8, .ref z9, .int (nI z10), .ref z11, .ref z12, .ref z13, .ref z14, .ref z15, .int (nI z16), .ref z17, .int z18, .ref z19]))]) hD hS hA [0] rfl
      refine va_calli (va_runV (As := [.int 2]) (rest := []) ⟨hx, hb, hml, hown, hg⟩ (m_refused l D H_1.size za 0 z1 (nI z2) (nI z3) z4 z5 z6 z7 z8 z9 (nI z10) z11 z12 z13 z14 z15 (nI z16) z17 z18 z19 2) (cwV 1 hg (gV wd_725 wd_726 wd_727 wd_717 wd_728) rfl rfl rfl (by decide +kernel) ⟨(Nat.le_trans (Nat.le_of_ble_eq_true rfl) hRf), (Nat.le_trans (Nat.le_of_ble_eq_true rfl) hRl)⟩) ⟨Pr.blind, va_recv hK hP (ci := 13) (q0 := 0) rfl rfl, fun U hU hW => ⟨rfl, Pr.at hPc hKc hDc hN hU hW⟩⟩ rfl rfl hl.1 rfl (lv_room (Nat.le_of_ble_eq_true rfl)) dX13_partner_51 ⟨(Nat.le_trans (Nat.le_of_ble_eq_true rfl) hRc), (Nat.le_trans (Nat.le_of_ble_eq_true rfl) hRs)⟩) hS (fun q _ h => hFc q h) hFc (fun r_8 M_9 t H_7 locs ht hvm hw hB hz1 hk1 hS => ?_)
      have hp_10 := hw
      obtain ⟨hP1, hK1, hD1⟩ := hB
      rw [ht] at hP1
      obtain ⟨hP, hD⟩ := va_joinQ (X := [(za, .inr (13, [.int 0, .ref z1, .int (nI z2), .int (nI z3), .int z4, .int z5, .ref z6, .ref z7, .ref z8, .ref z9, .int (nI z10), .ref z11, .ref z12, .ref z13, .ref z14, .ref z15, .int (nI z16), .ref z17, .int z18, .ref z19]))]) (cx := [(za, .inr (13, [.int 0, .ref z1, .int (nI z2), .int (nI z3), .int z4, .int z5, .ref z6, .ref z7, .ref z8, .ref z9, .int (nI z10), .ref z11, .ref z12, .ref z13, .ref z14, .ref z15, .int (nI z16), .ref z17, .int z18, .ref z19]))]) (wr := []) (w1 := [(za, .inr (13, [.int 0, .ref z1, .int (nI z2), .int (nI z3), .int 2, .int (-1), .ref z6, .ref z7, .ref z8, .ref z9, .int (nI z10), .ref z11, .ref z12, .ref z13, .ref z14, .ref z15, .int (nI z16), .ref z17, .int z18, .ref z19]))]) (pl := va_pl L M) hP hD [0] [] rfl rfl (by decide) (by decide) hk1 hFc hP1 hD1
      have hP : va_P D vwCl ([(za, .inr (13, [.int 0, .ref z1, .int (nI z2), .int (nI z3), .int 2, .int (-1), .ref z6, .ref z7, .ref z8, .ref z9, .int (nI z10), .ref z11, .ref z12, .ref z13, .ref z14, .ref z15, .int (nI z16), .ref z17, .int z18, .ref z19]))] ++ va_pl L M) H_7 := hP
      have hD : va_D A ([(za, .inr (13, [.int 0, .ref z1, .int (nI z2), .int (nI z3), .int 2, .int (-1), .ref z6, .ref z7, .ref z8, .ref z9, .int (nI z10), .ref z11, .ref z12, .ref z13, .ref z14, .ref z15, .int (nI z16), .ref z17, .int z18, .ref z19]))] ++ va_pl L M) := hD
      have hq := Eq.symm hp_10
      subst hq
      rw [hQ]
      exact W.iret (v := (-1)) hx hb hr (fun t ht hW9 => ⟨⟨(-1), M, rfl, ⟨hW, hF, hR5, trivial⟩, ⟨z3, 2, (-1), (by omega), by rw [ht]; exact hP, hD⟩⟩, hS.F ht⟩) hS.2.2 dX13_partner_54
    · have hz := rfl (a := 0)
      refine lv_iload_n hx hb dX13_partner_43 rfl (lv_at hl 3 rfl) ?_
      refine lv_ldc (v := 1000000000) hx hb hown (hg _ wd_712) dX13_partner_44 ?_
      refine lv_icmp_le (tgt := 55) hx hb dX13_partner_46 (by decide) (fun c_11 => ?_) (fun c_11 => ?_)
      · have hz := rfl (a := 0)
        refine lv_iload_n hx hb dX13_partner_55 rfl (lv_at hl 2 rfl) ?_
        refine lv_iconst (v := 5) hx hb dX13_partner_56 (by decide) ?_
        refine lv_icmp_ne (tgt := 74) hx hb dX13_partner_57 (by decide) (fun c_12 => ?_) (fun c_12 => absurd c_12 (by rw [c_2]; decide))
        refine lv_aload_n hx hb dX13_partner_74 rfl (lv_at hl 1 rfl) ?_
        refine va_get (D := D) (ci := 13) (v := .int (nI z3)) (C := RX13) (T := TX13) (N := 20) hx hb hg inG13 hown hK hP 0 rfl rfl 3 (by decide) (hg _ wd_831) (fun _ h9 => h9) rfl dX13_partner_75 ?_
        refine lv_bipush (v := 40) hx hb dX13_partner_78 (by decide) ?_
        refine lv_icmp_ne (tgt := 90) hx hb dX13_partner_80 (by decide) (fun c_13 => ?_) (fun c_13 => ?_)
        · have hz := rfl (a := 0)
          have n_14 : ¬ (z3 = 40) := fun q => c_13 ((iEQ (a := z3) (b := 40) (by omega) (by omega)).mpr q)
          obtain ⟨f15, hM15, hf15⟩ := hW.open_47 i6
          obtain ⟨f16, hM16⟩ := hW.open_48 i7
          have he6 := hM15
          have he7 := hM16
          refine lv_aload_n hx hb dX13_partner_90 rfl (lv_at hl 1 rfl) ?_
          refine va_get (D := D) (ci := 13) (v := .ref z6) (C := RX13) (T := TX13) (N := 20) hx hb hg inG13 hown hK hP 0 rfl rfl 6 (by decide) (hg _ wd_719) (fun _ h9 => h9) rfl dX13_partner_91 ?_
          refine lv_aload_n hx hb dX13_partner_94 rfl (lv_at hl 1 rfl) ?_
          refine va_get (D := D) (ci := 13) (v := .int (nI z3)) (C := RX13) (T := TX13) (N := 20) hx hb hg inG13 hown hK hP 0 rfl rfl 3 (by decide) (hg _ wd_831) (fun _ h9 => h9) rfl dX13_partner_95 ?_
          refine lv_iload_n hx hb dX13_partner_98 rfl (lv_at hl 2 rfl) ?_
          obtain ⟨j_17, hj_18, rfl⟩ := i32nat 6 (by decide) c_3 (leB (b := 6) (c := 5) (by decide) (by decide) (Int32.not_lt.mp c_4))
          refine pg_iast hx hb hK hP hD hS i6.1 0 hM15 rfl (inbN z3 40 (by omega) (by omega)) dX13_partner_99 (fun H_19 locs hP hD hS => ?_)
          obtain ⟨M_20, eM_20⟩ : ∃ M1 : Hp, M1 = va_up M z6 (.inl (cy 14, 40, .inl (upd f15 ((nI z3) : Int32).toNatClampNeg (nI j_17)))) := ⟨_, rfl⟩
          have hP : va_P D vwCl ([(za, .inr (13, [.int 0, .ref z1, .int (nI z2), .int (nI z3), .int z4, .int z5, .ref z6, .ref z7, .ref z8, .ref z9, .int (nI z10), .ref z11, .ref z12, .ref z13, .ref z14, .ref z15, .int (nI z16), .ref z17, .int z18, .ref z19]))] ++ va_pl L M_20) H_19 := by rw [eM_20]; exact hP
          have hD : va_D A ([(za, .inr (13, [.int 0, .ref z1, .int (nI z2), .int (nI z3), .int z4, .int z5, .ref z6, .ref z7, .ref z8, .ref z9, .int (nI z10), .ref z11, .ref z12, .ref z13, .ref z14, .ref z15, .int (nI z16), .ref z17, .int z18, .ref z19]))] ++ va_pl L M_20) := by rw [eM_20]; exact hD
          have hW : WOM cy K L M_20 := by rw [eM_20]; exact hW.up_47 i6 ⟨_, rfl, (updP (P := fun z => ∃ c : Nat, c < 6 ∧ z = nI c) hf15 ⟨j_17, by omega, rfl⟩)⟩
          have hF : fr K L [47, 48] M M_20 := by rw [eM_20]; exact hF.up i6 (by decide)
          have hM_21 : M_20 z6 = .inl (cy 14, 40, .inl (upd f15 ((nI z3) : Int32).toNatClampNeg (nI j_17))) := by rw [eM_20]; exact va_up_self _ _ _
          have hM_22 : M_20 z7 = .inl (cy 14, 40, .inl (f16)) := by rw [eM_20, va_up_ne _ _ (i7.neT i6 (by decide))]; exact hM16
          have hf_24 : ∀ j, j < 40 → ∃ c : Nat, c < 6 ∧ (upd f15 ((nI z3) : Int32).toNatClampNeg (nI j_17)) j = nI c := (updP (P := fun z => ∃ c : Nat, c < 6 ∧ z = nI c) hf15 ⟨j_17, by omega, rfl⟩)
          obtain ⟨f_23, ef_23⟩ : ∃ f : Nat → Int32, f = upd f15 ((nI z3) : Int32).toNatClampNeg (nI j_17) := ⟨_, rfl⟩
          rw [← ef_23] at hM_21 hf_24
          refine lv_aload_n hx hb dX13_partner_100 rfl (lv_at hl 1 rfl) ?_
          refine va_get (D := D) (ci := 13) (v := .ref z7) (C := RX13) (T := TX13) (N := 20) hx hb hg inG13 hown hK hP 0 rfl rfl 7 (by decide) (hg _ wd_760) (fun _ h9 => h9) rfl dX13_partner_101 ?_
          refine lv_aload_n hx hb dX13_partner_104 rfl (lv_at hl 1 rfl) ?_
          refine va_get (D := D) (ci := 13) (v := .int (nI z3)) (C := RX13) (T := TX13) (N := 20) hx hb hg inG13 hown hK hP 0 rfl rfl 3 (by decide) (hg _ wd_831) (fun _ h9 => h9) rfl dX13_partner_105 ?_
          refine lv_iload_n hx hb dX13_partner_108 rfl (lv_at hl 3 rfl) ?_
          refine pg_iast hx hb hK hP hD hS i7.1 0 hM_22 rfl (inbN z3 40 (by omega) (by omega)) dX13_partner_109 (fun H_25 locs hP hD hS => ?_)
          obtain ⟨M_26, eM_26⟩ : ∃ M1 : Hp, M1 = va_up M_20 z7 (.inl (cy 14, 40, .inl (upd f16 ((nI z3) : Int32).toNatClampNeg k2))) := ⟨_, rfl⟩
          have hP : va_P D vwCl ([(za, .inr (13, [.int 0, .ref z1, .int (nI z2), .int (nI z3), .int z4, .int z5, .ref z6, .ref z7, .ref z8, .ref z9, .int (nI z10), .ref z11, .ref z12, .ref z13, .ref z14, .ref z15, .int (nI z16), .ref z17, .int z18, .ref z19]))] ++ va_pl L M_26) H_25 := by rw [eM_26]; exact hP
          have hD : va_D A ([(za, .inr (13, [.int 0, .ref z1, .int (nI z2), .int (nI z3), .int z4, .int z5, .ref z6, .ref z7, .ref z8, .ref z9, .int (nI z10), .ref z11, .ref z12, .ref z13, .ref z14, .ref z15, .int (nI z16), .ref z17, .int z18, .ref z19]))] ++ va_pl L M_26) := by rw [eM_26]; exact hD
          have hW : WOM cy K L M_26 := by rw [eM_26]; exact hW.up_48 i7 ⟨_, rfl⟩
          have hF : fr K L [47, 48] M M_26 := by rw [eM_26]; exact hF.up i7 (by decide)
          have hM_27 : M_26 z7 = .inl (cy 14, 40, .inl (upd f16 ((nI z3) : Int32).toNatClampNeg k2)) := by rw [eM_26]; exact va_up_self _ _ _
          have hM_28 : M_26 z6 = .inl (cy 14, 40, .inl (f_23)) := by rw [eM_26, va_up_ne _ _ (i6.neT i7 (by decide))]; exact hM_21
          obtain ⟨f_29, ef_29⟩ : ∃ f : Nat → Int32, f = upd f16 ((nI z3) : Int32).toNatClampNeg k2 := ⟨_, rfl⟩
          rw [← ef_29] at hM_27
          refine lv_aload_n hx hb dX13_partner_110 rfl (lv_at hl 1 rfl) ?_
          refine lv_dup hx hb dX13_partner_111 rfl ?_
          refine va_get (D := D) (ci := 13) (v := .int (nI z3)) (C := RX13) (T := TX13) (N := 20) hx hb hg inG13 hown hK hP 0 rfl rfl 3 (by decide) (hg _ wd_831) (fun _ h9 => h9) rfl dX13_partner_112 ?_
          refine lv_iconst (v := 1) hx hb dX13_partner_115 (by decide) ?_
          refine lv_iadd hx hb dX13_partner_116 ?_
          refine lv_topi (fun f_30 ef_30 => ?_)
          obtain rfl : f_30 = (nI (z3 + 1)) := ef_30.trans (nI_add z3 1)
          refine va_put (D := D) (ci := 13) (v := .int (nI (z3 + 1))) (ty := .int) (C := RX13) (T := TX13) (N := 20) hx hb hg inG13 tyX13 tyX13_ok nmX13 hown hK hP hD hS 0 rfl rfl 3 (by decide) (hg _ wd_831) (fun _ h9 => h9) rfl (by decide +kernel) rfl rfl (Nat.le_of_ble_eq_true rfl) dX13_partner_117 (fun H_31 locs hP hD hS => ?_)
          have hP : va_P D vwCl ([(za, .inr (13, [.int 0, .ref z1, .int (nI z2), .int (nI (z3 + 1)), .int z4, .int z5, .ref z6, .ref z7, .ref z8, .ref z9, .int (nI z10), .ref z11, .ref z12, .ref z13, .ref z14, .ref z15, .int (nI z16), .ref z17, .int z18, .ref z19]))] ++ va_pl L M_26) H_31 := hP
          have hD : va_D A ([(za, .inr (13, [.int 0, .ref z1, .int (nI z2), .int (nI (z3 + 1)), .int z4, .int z5, .ref z6, .ref z7, .ref z8, .ref z9, .int (nI z10), .ref z11, .ref z12, .ref z13, .ref z14, .ref z15, .int (nI z16), .ref z17, .int z18, .ref z19]))] ++ va_pl L M_26) := hD
          refine lv_aload_n hx hb dX13_partner_120 rfl (lv_at hl 1 rfl) ?_
          refine lv_aload_n hx hb dX13_partner_121 rfl (lv_at hl 1 rfl) ?_
          refine va_get (D := D) (ci := 13) (v := .int (nI (z3 + 1))) (C := RX13) (T := TX13) (N := 20) hx hb hg inG13 hown hK hP 0 rfl rfl 3 (by decide) (hg _ wd_831) (fun _ h9 => h9) rfl dX13_partner_122 ?_
          refine lv_iconst (v := 1) hx hb dX13_partner_125 (by decide) ?_
          refine lv_isub hx hb dX13_partner_126 ?_
          refine lv_topi (fun f_32 ef_32 => ?_)
          obtain rfl : f_32 = (nI ((z3 + 1) - 1)) := ef_32.trans (nI_prd (by omega))
          have hPc := hP.sub (ws' := [(za, .inr (13, [.int 0, .ref z1, .int (nI z2), .int (nI (z3 + 1)), .int z4, .int z5, .ref z6, .ref z7, .ref z8, .ref z9, .int (nI z10), .ref z11, .ref z12, .ref z13, .ref z14, .ref z15, .int (nI z16), .ref z17, .int z18, .ref z19]))]) [0] rfl
          have hDc := hD.sub (ws' := [(za, .inr (13, [.int 0, .ref z1, .int (nI z2), .int (nI (z3 + 1)), .int z4, .int z5, .ref z6, .ref z7, .ref z8, .ref z9, .int (nI z10), .ref z11, .ref z12, .ref z13, .ref z14, .ref z15, .int (nI z16), .ref z17, .int z18, .ref z19]))]) [0] (by decide) rfl
          have hKc := hK.sub (tys' := []) [] rfl
          have hFc := va_free (wc := [(za, .inr (13, [.int 0, .ref z1, .int (nI z2), .int (nI (z3 + 1)), .int z4, .int z5, .ref z6, .ref z7, .ref z8, .ref z9, .int (nI z10), .ref z11, .ref z12, .ref z13, .ref z14, .ref z15, .int (nI z16), .ref z17, .int z18, .ref z19]))]) hD hS hA [0] rfl
          refine va_calli (va_runV (As := [.int (nI ((z3 + 1) - 1))]) (rest := []) ⟨hx, hb, hml, hown, hg⟩ (m_done l D H_31.size za 0 z1 (nI z2) (nI (z3 + 1)) z4 z5 z6 z7 z8 z9 (nI z10) z11 z12 z13 z14 z15 (nI z16) z17 z18 z19 (nI ((z3 + 1) - 1))) (cwV 1 hg (gV wd_730 wd_731 wd_732 wd_717 wd_733) rfl rfl rfl (by decide +kernel) ⟨(Nat.le_trans (Nat.le_of_ble_eq_true rfl) hRf), (Nat.le_trans (Nat.le_of_ble_eq_true rfl) hRl)⟩) ⟨Pr.blind, va_recv hK hP (ci := 13) (q0 := 0) rfl rfl, fun U hU hW => ⟨rfl, Pr.at hPc hKc hDc hN hU hW⟩⟩ rfl rfl hl.1 rfl (lv_room (Nat.le_of_ble_eq_true rfl)) dX13_partner_127 ⟨(Nat.le_trans (Nat.le_of_ble_eq_true rfl) hRc), (Nat.le_trans (Nat.le_of_ble_eq_true rfl) hRs)⟩) hS (fun q _ h => hFc q h) hFc (fun r_34 M_35 t H_33 locs ht hvm hw hB hz1 hk1 hS => ?_)
          have hp_36 := hw
          obtain ⟨hP1, hK1, hD1⟩ := hB
          rw [ht] at hP1
          obtain ⟨hP, hD⟩ := va_joinQ (X := [(za, .inr (13, [.int 0, .ref z1, .int (nI z2), .int (nI (z3 + 1)), .int z4, .int z5, .ref z6, .ref z7, .ref z8, .ref z9, .int (nI z10), .ref z11, .ref z12, .ref z13, .ref z14, .ref z15, .int (nI z16), .ref z17, .int z18, .ref z19]))]) (cx := [(za, .inr (13, [.int 0, .ref z1, .int (nI z2), .int (nI (z3 + 1)), .int z4, .int z5, .ref z6, .ref z7, .ref z8, .ref z9, .int (nI z10), .ref z11, .ref z12, .ref z13, .ref z14, .ref z15, .int (nI z16), .ref z17, .int z18, .ref z19]))]) (wr := []) (w1 := [(za, .inr (13, [.int 0, .ref z1, .int (nI z2), .int (nI (z3 + 1)), .int 0, .int (-1), .ref z6, .ref z7, .ref z8, .ref z9, .int (nI z10), .ref z11, .ref z12, .ref z13, .ref z14, .ref z15, .int (nI z16), .ref z17, .int z18, .ref z19]))]) (pl := va_pl L M_26) hP hD [0] [] rfl rfl (by decide) (by decide) hk1 hFc hP1 hD1
          have hP : va_P D vwCl ([(za, .inr (13, [.int 0, .ref z1, .int (nI z2), .int (nI (z3 + 1)), .int 0, .int (-1), .ref z6, .ref z7, .ref z8, .ref z9, .int (nI z10), .ref z11, .ref z12, .ref z13, .ref z14, .ref z15, .int (nI z16), .ref z17, .int z18, .ref z19]))] ++ va_pl L M_26) H_33 := hP
          have hD : va_D A ([(za, .inr (13, [.int 0, .ref z1, .int (nI z2), .int (nI (z3 + 1)), .int 0, .int (-1), .ref z6, .ref z7, .ref z8, .ref z9, .int (nI z10), .ref z11, .ref z12, .ref z13, .ref z14, .ref z15, .int (nI z16), .ref z17, .int z18, .ref z19]))] ++ va_pl L M_26) := hD
          have hq := Eq.symm hp_36
          subst hq
          have hR9 : R5 z6 z7 M_26 := R5.put hR5 he6 he7 (by rw [hM_28, ef_23]) (by rw [hM_27, ef_29]) (fun q => absurd q c_12)
          rw [hQ]
          exact W.iret (v := (nI ((z3 + 1) - 1))) hx hb hr (fun t ht hW9 => ⟨⟨(nI ((z3 + 1) - 1)), M_26, rfl, ⟨hW, hF, hR9, trivial⟩, ⟨(z3 + 1), 0, (-1), (by omega), by rw [ht]; exact hP, hD⟩⟩, hS.F ht⟩) hS.2.2 dX13_partner_130
        · have hz := rfl (a := 0)
          have n_37 : z3 = 40 := (iEQ (a := z3) (b := 40) (by omega) (by omega)).mp c_13
          refine lv_aload_n hx hb dX13_partner_83 rfl (lv_at hl 1 rfl) ?_
          refine lv_bipush (v := 9) hx hb dX13_partner_84 (by decide) ?_
          have hPc := hP.sub (ws' := [(za, .inr (13, [.int 0, .ref z1, .int (nI z2), .int (nI z3), .int z4, .int z5, .ref z6, .ref z7, .ref z8, .ref z9, .int (nI z10), .ref z11, .ref z12, .ref z13, .ref z14, .ref z15, .int (nI z16), .ref z17, .int z18, .ref z19]))]) [0] rfl
          have hDc := hD.sub (ws' := [(za, .inr (13, [.int 0, .ref z1, .int (nI z2), .int (nI z3), .int z4, .int z5, .ref z6, .ref z7, .ref z8, .ref z9, .int (nI z10), .ref z11, .ref z12, .ref z13, .ref z14, .ref z15, .int (nI z16), .ref z17, .int z18, .ref z19]))]) [0] (by decide) rfl
          have hKc := hK.sub (tys' := []) [] rfl
          have hFc := va_free (wc := [(za, .inr (13, [.int 0, .ref z1, .int (nI z2), .int (nI z3), .int z4, .int z5, .ref z6, .ref z7, .ref z8, .ref z9, .int (nI z10), .ref z11, .ref z12, .ref z13, .ref z14, .ref z15, .int (nI z16), .ref z17, .int z18, .ref z19]))]) hD hS hA [0] rfl
          refine va_calli (va_runV (As := [.int 9]) (rest := []) ⟨hx, hb, hml, hown, hg⟩ (m_refused l D H_1.size za 0 z1 (nI z2) (nI z3) z4 z5 z6 z7 z8 z9 (nI z10) z11 z12 z13 z14 z15 (nI z16) z17 z18 z19 9) (cwV 1 hg (gV wd_725 wd_726 wd_727 wd_717 wd_728) rfl rfl rfl (by decide +kernel) ⟨(Nat.le_trans (Nat.le_of_ble_eq_true rfl) hRf), (Nat.le_trans (Nat.le_of_ble_eq_true rfl) hRl)⟩) ⟨Pr.blind, va_recv hK hP (ci := 13) (q0 := 0) rfl rfl, fun U hU hW => ⟨rfl, Pr.at hPc hKc hDc hN hU hW⟩⟩ rfl rfl hl.1 rfl (lv_room (Nat.le_of_ble_eq_true rfl)) dX13_partner_86 ⟨(Nat.le_trans (Nat.le_of_ble_eq_true rfl) hRc), (Nat.le_trans (Nat.le_of_ble_eq_true rfl) hRs)⟩) hS (fun q _ h => hFc q h) hFc (fun r_39 M_40 t H_38 locs ht hvm hw hB hz1 hk1 hS => ?_)
          have hp_41 := hw
          obtain ⟨hP1, hK1, hD1⟩ := hB
          rw [ht] at hP1
          obtain ⟨hP, hD⟩ := va_joinQ (X := [(za, .inr (13, [.int 0, .ref z1, .int (nI z2), .int (nI z3), .int z4, .int z5, .ref z6, .ref z7, .ref z8, .ref z9, .int (nI z10), .ref z11, .ref z12, .ref z13, .ref z14, .ref z15, .int (nI z16), .ref z17, .int z18, .ref z19]))]) (cx := [(za, .inr (13, [.int 0, .ref z1, .int (nI z2), .int (nI z3), .int z4, .int z5, .ref z6, .ref z7, .ref z8, .ref z9, .int (nI z10), .ref z11, .ref z12, .ref z13, .ref z14, .ref z15, .int (nI z16), .ref z17, .int z18, .ref z19]))]) (wr := []) (w1 := [(za, .inr (13, [.int 0, .ref z1, .int (nI z2), .int (nI z3), .int 9, .int (-1), .ref z6, .ref z7, .ref z8, .ref z9, .int (nI z10), .ref z11, .ref z12, .ref z13, .ref z14, .ref z15, .int (nI z16), .ref z17, .int z18, .ref z19]))]) (pl := va_pl L M) hP hD [0] [] rfl rfl (by decide) (by decide) hk1 hFc hP1 hD1
          have hP : va_P D vwCl ([(za, .inr (13, [.int 0, .ref z1, .int (nI z2), .int (nI z3), .int 9, .int (-1), .ref z6, .ref z7, .ref z8, .ref z9, .int (nI z10), .ref z11, .ref z12, .ref z13, .ref z14, .ref z15, .int (nI z16), .ref z17, .int z18, .ref z19]))] ++ va_pl L M) H_38 := hP
          have hD : va_D A ([(za, .inr (13, [.int 0, .ref z1, .int (nI z2), .int (nI z3), .int 9, .int (-1), .ref z6, .ref z7, .ref z8, .ref z9, .int (nI z10), .ref z11, .ref z12, .ref z13, .ref z14, .ref z15, .int (nI z16), .ref z17, .int z18, .ref z19]))] ++ va_pl L M) := hD
          have hq := Eq.symm hp_41
          subst hq
          rw [hQ]
          exact W.iret (v := (-1)) hx hb hr (fun t ht hW9 => ⟨⟨(-1), M, rfl, ⟨hW, hF, hR5, trivial⟩, ⟨z3, 9, (-1), (by omega), by rw [ht]; exact hP, hD⟩⟩, hS.F ht⟩) hS.2.2 dX13_partner_89
      · have hz := rfl (a := 0)
        have n_42 : ¬ k2 < 0 := gtN (c := 1000000000) (by omega) (Int32.not_le.mp c_11)
        refine lv_aload_n hx hb dX13_partner_49 rfl (lv_at hl 1 rfl) ?_
        refine lv_iconst (v := 2) hx hb dX13_partner_50 (by decide) ?_
        have hPc := hP.sub (ws' := [(za, .inr (13, [.int 0, .ref z1, .int (nI z2), .int (nI z3), .int z4, .int z5, .ref z6, .ref z7, .ref z8, .ref z9, .int (nI z10), .ref z11, .ref z12, .ref z13, .ref z14, .ref z15, .int (nI z16), .ref z17, .int z18, .ref z19]))]) [0] rfl
        have hDc := hD.sub (ws' := [(za, .inr (13, [.int 0, .ref z1, .int (nI z2), .int (nI z3), .int z4, .int z5, .ref z6, .ref z7, .ref z8, .ref z9, .int (nI z10), .ref z11, .ref z12, .ref z13, .ref z14, .ref z15, .int (nI z16), .ref z17, .int z18, .ref z19]))]) [0] (by decide) rfl
        have hKc := hK.sub (tys' := []) [] rfl
        have hFc := va_free (wc := [(za, .inr (13, [.int 0, .ref z1, .int (nI z2), .int (nI z3), .int z4, .int z5, .ref z6, .ref z7, .ref z8, .ref z9, .int (nI z10), .ref z11, .ref z12, .ref z13, .ref z14, .ref z15, .int (nI z16), .ref z17, .int z18, .ref z19]))]) hD hS hA [0] rfl
        refine va_calli (va_runV (As := [.int 2]) (rest := []) ⟨hx, hb, hml, hown, hg⟩ (m_refused l D H_1.size za 0 z1 (nI z2) (nI z3) z4 z5 z6 z7 z8 z9 (nI z10) z11 z12 z13 z14 z15 (nI z16) z17 z18 z19 2) (cwV 1 hg (gV wd_725 wd_726 wd_727 wd_717 wd_728) rfl rfl rfl (by decide +kernel) ⟨(Nat.le_trans (Nat.le_of_ble_eq_true rfl) hRf), (Nat.le_trans (Nat.le_of_ble_eq_true rfl) hRl)⟩) ⟨Pr.blind, va_recv hK hP (ci := 13) (q0 := 0) rfl rfl, fun U hU hW => ⟨rfl, Pr.at hPc hKc hDc hN hU hW⟩⟩ rfl rfl hl.1 rfl (lv_room (Nat.le_of_ble_eq_true rfl)) dX13_partner_51 ⟨(Nat.le_trans (Nat.le_of_ble_eq_true rfl) hRc), (Nat.le_trans (Nat.le_of_ble_eq_true rfl) hRs)⟩) hS (fun q _ h => hFc q h) hFc (fun r_44 M_45 t H_43 locs ht hvm hw hB hz1 hk1 hS => ?_)
        have hp_46 := hw
        obtain ⟨hP1, hK1, hD1⟩ := hB
        rw [ht] at hP1
        obtain ⟨hP, hD⟩ := va_joinQ (X := [(za, .inr (13, [.int 0, .ref z1, .int (nI z2), .int (nI z3), .int z4, .int z5, .ref z6, .ref z7, .ref z8, .ref z9, .int (nI z10), .ref z11, .ref z12, .ref z13, .ref z14, .ref z15, .int (nI z16), .ref z17, .int z18, .ref z19]))]) (cx := [(za, .inr (13, [.int 0, .ref z1, .int (nI z2), .int (nI z3), .int z4, .int z5, .ref z6, .ref z7, .ref z8, .ref z9, .int (nI z10), .ref z11, .ref z12, .ref z13, .ref z14, .ref z15, .int (nI z16), .ref z17, .int z18, .ref z19]))]) (wr := []) (w1 := [(za, .inr (13, [.int 0, .ref z1, .int (nI z2), .int (nI z3), .int 2, .int (-1), .ref z6, .ref z7, .ref z8, .ref z9, .int (nI z10), .ref z11, .ref z12, .ref z13, .ref z14, .ref z15, .int (nI z16), .ref z17, .int z18, .ref z19]))]) (pl := va_pl L M) hP hD [0] [] rfl rfl (by decide) (by decide) hk1 hFc hP1 hD1
        have hP : va_P D vwCl ([(za, .inr (13, [.int 0, .ref z1, .int (nI z2), .int (nI z3), .int 2, .int (-1), .ref z6, .ref z7, .ref z8, .ref z9, .int (nI z10), .ref z11, .ref z12, .ref z13, .ref z14, .ref z15, .int (nI z16), .ref z17, .int z18, .ref z19]))] ++ va_pl L M) H_43 := hP
        have hD : va_D A ([(za, .inr (13, [.int 0, .ref z1, .int (nI z2), .int (nI z3), .int 2, .int (-1), .ref z6, .ref z7, .ref z8, .ref z9, .int (nI z10), .ref z11, .ref z12, .ref z13, .ref z14, .ref z15, .int (nI z16), .ref z17, .int z18, .ref z19]))] ++ va_pl L M) := hD
        have hq := Eq.symm hp_46
        subst hq
        rw [hQ]
        exact W.iret (v := (-1)) hx hb hr (fun t ht hW9 => ⟨⟨(-1), M, rfl, ⟨hW, hF, hR5, trivial⟩, ⟨z3, 2, (-1), (by omega), by rw [ht]; exact hP, hD⟩⟩, hS.F ht⟩) hS.2.2 dX13_partner_54
  · have hz := rfl (a := 0)
    refine lv_iload_n hx hb dX13_partner_10 rfl (lv_at hl 1 rfl) ?_
    refine lv_iconst (v := 2) hx hb dX13_partner_11 (by decide) ?_
    refine lv_icmp_eq (tgt := 20) hx hb dX13_partner_12 (by decide) (fun c_47 => ?_) (fun c_47 => ?_)
    · have hz := rfl (a := 0)
      refine lv_iconst (v := 1) hx hb dX13_partner_20 (by decide) ?_
      refine lv_goto (tgt := 25) hx hb dX13_partner_21 (by decide) ?_
      refine lv_istore_n (lv' := [(3, .int 1), (0, .ref za), (1, .int k1), (2, .int k2)]) hx hb dX13_partner_25 rfl hl (by decide) rfl (fun ls hl => ?_)
      refine lv_iload_n hx hb dX13_partner_26 rfl (lv_at hl 2 rfl) ?_
      refine lv_if_lt (tgt := 49) hx hb dX13_partner_27 (by decide) (fun c_48 => absurd c_48 (by rw [c_47]; decide)) (fun c_48 => ?_)
      refine lv_iload_n hx hb dX13_partner_30 rfl (lv_at hl 2 rfl) ?_
      refine lv_iconst (v := 5) hx hb dX13_partner_31 (by decide) ?_
      refine lv_icmp_gt (tgt := 49) hx hb dX13_partner_32 (by decide) (fun c_49 => absurd c_49 (by rw [c_47]; decide)) (fun c_49 => ?_)
      refine lv_iload_n hx hb dX13_partner_35 rfl (lv_at hl 0 rfl) ?_
      refine lv_if_eq (tgt := 55) hx hb dX13_partner_36 (by decide) (fun c_50 => absurd c_50 (by decide)) (fun _ => ?_)
      refine lv_iload_n hx hb dX13_partner_39 rfl (lv_at hl 3 rfl) ?_
      refine lv_if_lt (tgt := 49) hx hb dX13_partner_40 (by decide) (fun c_51 => ?_) (fun c_51 => ?_)
      · have hz := rfl (a := 0)
        refine lv_aload_n hx hb dX13_partner_49 rfl (lv_at hl 1 rfl) ?_
        refine lv_iconst (v := 2) hx hb dX13_partner_50 (by decide) ?_
        have hPc := hP.sub (ws' := [(za, .inr (13, [.int 0, .ref z1, .int (nI z2), .int (nI z3), .int z4, .int z5, .ref z6, .ref z7, .ref z8, .ref z9, .int (nI z10), .ref z11, .ref z12, .ref z13, .ref z14, .ref z15, .int (nI z16), .ref z17, .int z18, .ref z19]))]) [0] rfl
        have hDc := hD.sub (ws' := [(za, .inr (13, [.int 0, .ref z1, .int (nI z2), .int (nI z3), .int z4, .int z5, .ref z6, .ref z7, .ref z8, .ref z9, .int (nI z10), .ref z11, .ref z12, .ref z13, .ref z14, .ref z15, .int (nI z16), .ref z17, .int z18, .ref z19]))]) [0] (by decide) rfl
        have hKc := hK.sub (tys' := []) [] rfl
        have hFc := va_free (wc := [(za, .inr (13, [.int 0, .ref z1, .int (nI z2), .int (nI z3), .int z4, .int z5, .ref z6, .ref z7, .ref z8, .ref z9, .int (nI z10), .ref z11, .ref z12, .ref z13, .ref z14, .ref z15, .int (nI z16), .ref z17, .int z18, .ref z19]))]) hD hS hA [0] rfl
        refine va_calli (va_runV (As := [.int 2]) (rest := []) ⟨hx, hb, hml, hown, hg⟩ (m_refused l D H_1.size za 0 z1 (nI z2) (nI z3) z4 z5 z6 z7 z8 z9 (nI z10) z11 z12 z13 z14 z15 (nI z16) z17 z18 z19 2) (cwV 1 hg (gV wd_725 wd_726 wd_727 wd_717 wd_728) rfl rfl rfl (by decide +kernel) ⟨(Nat.le_trans (Nat.le_of_ble_eq_true rfl) hRf), (Nat.le_trans (Nat.le_of_ble_eq_true rfl) hRl)⟩) ⟨Pr.blind, va_recv hK hP (ci := 13) (q0 := 0) rfl rfl, fun U hU hW => ⟨rfl, Pr.at hPc hKc hDc hN hU hW⟩⟩ rfl rfl hl.1 rfl (lv_room (Nat.le_of_ble_eq_true rfl)) dX13_partner_51 ⟨(Nat.le_trans (Nat.le_of_ble_eq_true rfl) hRc), (Nat.le_trans (Nat.le_of_ble_eq_true rfl) hRs)⟩) hS (fun q _ h => hFc q h) hFc (fun r_53 M_54 t H_52 locs ht hvm hw hB hz1 hk1 hS => ?_)
        have hp_55 := hw
        obtain ⟨hP1, hK1, hD1⟩ := hB
        rw [ht] at hP1
        obtain ⟨hP, hD⟩ := va_joinQ (X := [(za, .inr (13, [.int 0, .ref z1, .int (nI z2), .int (nI z3), .int z4, .int z5, .ref z6, .ref z7, .ref z8, .ref z9, .int (nI z10), .ref z11, .ref z12, .ref z13, .ref z14, .ref z15, .int (nI z16), .ref z17, .int z18, .ref z19]))]) (cx := [(za, .inr (13, [.int 0, .ref z1, .int (nI z2), .int (nI z3), .int z4, .int z5, .ref z6, .ref z7, .ref z8, .ref z9, .int (nI z10), .ref z11, .ref z12, .ref z13, .ref z14, .ref z15, .int (nI z16), .ref z17, .int z18, .ref z19]))]) (wr := []) (w1 := [(za, .inr (13, [.int 0, .ref z1, .int (nI z2), .int (nI z3), .int 2, .int (-1), .ref z6, .ref z7, .ref z8, .ref z9, .int (nI z10), .ref z11, .ref z12, .ref z13, .ref z14, .ref z15, .int (nI z16), .ref z17, .int z18, .ref z19]))]) (pl := va_pl L M) hP hD [0] [] rfl rfl (by decide) (by decide) hk1 hFc hP1 hD1
        have hP : va_P D vwCl ([(za, .inr (13, [.int 0, .ref z1, .int (nI z2), .int (nI z3), .int 2, .int (-1), .ref z6, .ref z7, .ref z8, .ref z9, .int (nI z10), .ref z11, .ref z12, .ref z13, .ref z14, .ref z15, .int (nI z16), .ref z17, .int z18, .ref z19]))] ++ va_pl L M) H_52 := hP
        have hD : va_D A ([(za, .inr (13, [.int 0, .ref z1, .int (nI z2), .int (nI z3), .int 2, .int (-1), .ref z6, .ref z7, .ref z8, .ref z9, .int (nI z10), .ref z11, .ref z12, .ref z13, .ref z14, .ref z15, .int (nI z16), .ref z17, .int z18, .ref z19]))] ++ va_pl L M) := hD
        have hq := Eq.symm hp_55
        subst hq
        rw [hQ]
        exact W.iret (v := (-1)) hx hb hr (fun t ht hW9 => ⟨⟨(-1), M, rfl, ⟨hW, hF, hR5, trivial⟩, ⟨z3, 2, (-1), (by omega), by rw [ht]; exact hP, hD⟩⟩, hS.F ht⟩) hS.2.2 dX13_partner_54
      · have hz := rfl (a := 0)
        refine lv_iload_n hx hb dX13_partner_43 rfl (lv_at hl 3 rfl) ?_
        refine lv_ldc (v := 1000000000) hx hb hown (hg _ wd_712) dX13_partner_44 ?_
        refine lv_icmp_le (tgt := 55) hx hb dX13_partner_46 (by decide) (fun c_56 => ?_) (fun c_56 => ?_)
        · have hz := rfl (a := 0)
          refine lv_iload_n hx hb dX13_partner_55 rfl (lv_at hl 2 rfl) ?_
          refine lv_iconst (v := 5) hx hb dX13_partner_56 (by decide) ?_
          refine lv_icmp_ne (tgt := 74) hx hb dX13_partner_57 (by decide) (fun c_57 => ?_) (fun c_57 => absurd c_57 (by rw [c_47]; decide))
          refine lv_aload_n hx hb dX13_partner_74 rfl (lv_at hl 1 rfl) ?_
          refine va_get (D := D) (ci := 13) (v := .int (nI z3)) (C := RX13) (T := TX13) (N := 20) hx hb hg inG13 hown hK hP 0 rfl rfl 3 (by decide) (hg _ wd_831) (fun _ h9 => h9) rfl dX13_partner_75 ?_
          refine lv_bipush (v := 40) hx hb dX13_partner_78 (by decide) ?_
          refine lv_icmp_ne (tgt := 90) hx hb dX13_partner_80 (by decide) (fun c_58 => ?_) (fun c_58 => ?_)
          · have hz := rfl (a := 0)
            have n_59 : ¬ (z3 = 40) := fun q => c_58 ((iEQ (a := z3) (b := 40) (by omega) (by omega)).mpr q)
            obtain ⟨f60, hM60, hf60⟩ := hW.open_47 i6
            obtain ⟨f61, hM61⟩ := hW.open_48 i7
            have he6 := hM60
            have he7 := hM61
            refine lv_aload_n hx hb dX13_partner_90 rfl (lv_at hl 1 rfl) ?_
            refine va_get (D := D) (ci := 13) (v := .ref z6) (C := RX13) (T := TX13) (N := 20) hx hb hg inG13 hown hK hP 0 rfl rfl 6 (by decide) (hg _ wd_719) (fun _ h9 => h9) rfl dX13_partner_91 ?_
            refine lv_aload_n hx hb dX13_partner_94 rfl (lv_at hl 1 rfl) ?_
            refine va_get (D := D) (ci := 13) (v := .int (nI z3)) (C := RX13) (T := TX13) (N := 20) hx hb hg inG13 hown hK hP 0 rfl rfl 3 (by decide) (hg _ wd_831) (fun _ h9 => h9) rfl dX13_partner_95 ?_
            refine lv_iload_n hx hb dX13_partner_98 rfl (lv_at hl 2 rfl) ?_
            obtain ⟨j_62, hj_63, rfl⟩ := i32nat 6 (by decide) c_48 (leB (b := 6) (c := 5) (by decide) (by decide) (Int32.not_lt.mp c_49))
            refine pg_iast hx hb hK hP hD hS i6.1 0 hM60 rfl (inbN z3 40 (by omega) (by omega)) dX13_partner_99 (fun H_64 locs hP hD hS => ?_)
            obtain ⟨M_65, eM_65⟩ : ∃ M1 : Hp, M1 = va_up M z6 (.inl (cy 14, 40, .inl (upd f60 ((nI z3) : Int32).toNatClampNeg (nI j_62)))) := ⟨_, rfl⟩
            have hP : va_P D vwCl ([(za, .inr (13, [.int 0, .ref z1, .int (nI z2), .int (nI z3), .int z4, .int z5, .ref z6, .ref z7, .ref z8, .ref z9, .int (nI z10), .ref z11, .ref z12, .ref z13, .ref z14, .ref z15, .int (nI z16), .ref z17, .int z18, .ref z19]))] ++ va_pl L M_65) H_64 := by rw [eM_65]; exact hP
            have hD : va_D A ([(za, .inr (13, [.int 0, .ref z1, .int (nI z2), .int (nI z3), .int z4, .int z5, .ref z6, .ref z7, .ref z8, .ref z9, .int (nI z10), .ref z11, .ref z12, .ref z13, .ref z14, .ref z15, .int (nI z16), .ref z17, .int z18, .ref z19]))] ++ va_pl L M_65) := by rw [eM_65]; exact hD
            have hW : WOM cy K L M_65 := by rw [eM_65]; exact hW.up_47 i6 ⟨_, rfl, (updP (P := fun z => ∃ c : Nat, c < 6 ∧ z = nI c) hf60 ⟨j_62, by omega, rfl⟩)⟩
            have hF : fr K L [47, 48] M M_65 := by rw [eM_65]; exact hF.up i6 (by decide)
            have hM_66 : M_65 z6 = .inl (cy 14, 40, .inl (upd f60 ((nI z3) : Int32).toNatClampNeg (nI j_62))) := by rw [eM_65]; exact va_up_self _ _ _
            have hM_67 : M_65 z7 = .inl (cy 14, 40, .inl (f61)) := by rw [eM_65, va_up_ne _ _ (i7.neT i6 (by decide))]; exact hM61
            have hf_69 : ∀ j, j < 40 → ∃ c : Nat, c < 6 ∧ (upd f60 ((nI z3) : Int32).toNatClampNeg (nI j_62)) j = nI c := (updP (P := fun z => ∃ c : Nat, c < 6 ∧ z = nI c) hf60 ⟨j_62, by omega, rfl⟩)
            obtain ⟨f_68, ef_68⟩ : ∃ f : Nat → Int32, f = upd f60 ((nI z3) : Int32).toNatClampNeg (nI j_62) := ⟨_, rfl⟩
            rw [← ef_68] at hM_66 hf_69
            refine lv_aload_n hx hb dX13_partner_100 rfl (lv_at hl 1 rfl) ?_
            refine va_get (D := D) (ci := 13) (v := .ref z7) (C := RX13) (T := TX13) (N := 20) hx hb hg inG13 hown hK hP 0 rfl rfl 7 (by decide) (hg _ wd_760) (fun _ h9 => h9) rfl dX13_partner_101 ?_
            refine lv_aload_n hx hb dX13_partner_104 rfl (lv_at hl 1 rfl) ?_
            refine va_get (D := D) (ci := 13) (v := .int (nI z3)) (C := RX13) (T := TX13) (N := 20) hx hb hg inG13 hown hK hP 0 rfl rfl 3 (by decide) (hg _ wd_831) (fun _ h9 => h9) rfl dX13_partner_105 ?_
            refine lv_iload_n hx hb dX13_partner_108 rfl (lv_at hl 3 rfl) ?_
            refine pg_iast hx hb hK hP hD hS i7.1 0 hM_67 rfl (inbN z3 40 (by omega) (by omega)) dX13_partner_109 (fun H_70 locs hP hD hS => ?_)
            obtain ⟨M_71, eM_71⟩ : ∃ M1 : Hp, M1 = va_up M_65 z7 (.inl (cy 14, 40, .inl (upd f61 ((nI z3) : Int32).toNatClampNeg k2))) := ⟨_, rfl⟩
            have hP : va_P D vwCl ([(za, .inr (13, [.int 0, .ref z1, .int (nI z2), .int (nI z3), .int z4, .int z5, .ref z6, .ref z7, .ref z8, .ref z9, .int (nI z10), .ref z11, .ref z12, .ref z13, .ref z14, .ref z15, .int (nI z16), .ref z17, .int z18, .ref z19]))] ++ va_pl L M_71) H_70 := by rw [eM_71]; exact hP
            have hD : va_D A ([(za, .inr (13, [.int 0, .ref z1, .int (nI z2), .int (nI z3), .int z4, .int z5, .ref z6, .ref z7, .ref z8, .ref z9, .int (nI z10), .ref z11, .ref z12, .ref z13, .ref z14, .ref z15, .int (nI z16), .ref z17, .int z18, .ref z19]))] ++ va_pl L M_71) := by rw [eM_71]; exact hD
            have hW : WOM cy K L M_71 := by rw [eM_71]; exact hW.up_48 i7 ⟨_, rfl⟩
            have hF : fr K L [47, 48] M M_71 := by rw [eM_71]; exact hF.up i7 (by decide)
            have hM_72 : M_71 z7 = .inl (cy 14, 40, .inl (upd f61 ((nI z3) : Int32).toNatClampNeg k2)) := by rw [eM_71]; exact va_up_self _ _ _
            have hM_73 : M_71 z6 = .inl (cy 14, 40, .inl (f_68)) := by rw [eM_71, va_up_ne _ _ (i6.neT i7 (by decide))]; exact hM_66
            obtain ⟨f_74, ef_74⟩ : ∃ f : Nat → Int32, f = upd f61 ((nI z3) : Int32).toNatClampNeg k2 := ⟨_, rfl⟩
            rw [← ef_74] at hM_72
            refine lv_aload_n hx hb dX13_partner_110 rfl (lv_at hl 1 rfl) ?_
            refine lv_dup hx hb dX13_partner_111 rfl ?_
            refine va_get (D := D) (ci := 13) (v := .int (nI z3)) (C := RX13) (T := TX13) (N := 20) hx hb hg inG13 hown hK hP 0 rfl rfl 3 (by decide) (hg _ wd_831) (fun _ h9 => h9) rfl dX13_partner_112 ?_
            refine lv_iconst (v := 1) hx hb dX13_partner_115 (by decide) ?_
            refine lv_iadd hx hb dX13_partner_116 ?_
            refine lv_topi (fun f_75 ef_75 => ?_)
            obtain rfl : f_75 = (nI (z3 + 1)) := ef_75.trans (nI_add z3 1)
            refine va_put (D := D) (ci := 13) (v := .int (nI (z3 + 1))) (ty := .int) (C := RX13) (T := TX13) (N := 20) hx hb hg inG13 tyX13 tyX13_ok nmX13 hown hK hP hD hS 0 rfl rfl 3 (by decide) (hg _ wd_831) (fun _ h9 => h9) rfl (by decide +kernel) rfl rfl (Nat.le_of_ble_eq_true rfl) dX13_partner_117 (fun H_76 locs hP hD hS => ?_)
            have hP : va_P D vwCl ([(za, .inr (13, [.int 0, .ref z1, .int (nI z2), .int (nI (z3 + 1)), .int z4, .int z5, .ref z6, .ref z7, .ref z8, .ref z9, .int (nI z10), .ref z11, .ref z12, .ref z13, .ref z14, .ref z15, .int (nI z16), .ref z17, .int z18, .ref z19]))] ++ va_pl L M_71) H_76 := hP
            have hD : va_D A ([(za, .inr (13, [.int 0, .ref z1, .int (nI z2), .int (nI (z3 + 1)), .int z4, .int z5, .ref z6, .ref z7, .ref z8, .ref z9, .int (nI z10), .ref z11, .ref z12, .ref z13, .ref z14, .ref z15, .int (nI z16), .ref z17, .int z18, .ref z19]))] ++ va_pl L M_71) := hD
            refine lv_aload_n hx hb dX13_partner_120 rfl (lv_at hl 1 rfl) ?_
            refine lv_aload_n hx hb dX13_partner_121 rfl (lv_at hl 1 rfl) ?_
            refine va_get (D := D) (ci := 13) (v := .int (nI (z3 + 1))) (C := RX13) (T := TX13) (N := 20) hx hb hg inG13 hown hK hP 0 rfl rfl 3 (by decide) (hg _ wd_831) (fun _ h9 => h9) rfl dX13_partner_122 ?_
            refine lv_iconst (v := 1) hx hb dX13_partner_125 (by decide) ?_
            refine lv_isub hx hb dX13_partner_126 ?_
            refine lv_topi (fun f_77 ef_77 => ?_)
            obtain rfl : f_77 = (nI ((z3 + 1) - 1)) := ef_77.trans (nI_prd (by omega))
            have hPc := hP.sub (ws' := [(za, .inr (13, [.int 0, .ref z1, .int (nI z2), .int (nI (z3 + 1)), .int z4, .int z5, .ref z6, .ref z7, .ref z8, .ref z9, .int (nI z10), .ref z11, .ref z12, .ref z13, .ref z14, .ref z15, .int (nI z16), .ref z17, .int z18, .ref z19]))]) [0] rfl
            have hDc := hD.sub (ws' := [(za, .inr (13, [.int 0, .ref z1, .int (nI z2), .int (nI (z3 + 1)), .int z4, .int z5, .ref z6, .ref z7, .ref z8, .ref z9, .int (nI z10), .ref z11, .ref z12, .ref z13, .ref z14, .ref z15, .int (nI z16), .ref z17, .int z18, .ref z19]))]) [0] (by decide) rfl
            have hKc := hK.sub (tys' := []) [] rfl
            have hFc := va_free (wc := [(za, .inr (13, [.int 0, .ref z1, .int (nI z2), .int (nI (z3 + 1)), .int z4, .int z5, .ref z6, .ref z7, .ref z8, .ref z9, .int (nI z10), .ref z11, .ref z12, .ref z13, .ref z14, .ref z15, .int (nI z16), .ref z17, .int z18, .ref z19]))]) hD hS hA [0] rfl
            refine va_calli (va_runV (As := [.int (nI ((z3 + 1) - 1))]) (rest := []) ⟨hx, hb, hml, hown, hg⟩ (m_done l D H_76.size za 0 z1 (nI z2) (nI (z3 + 1)) z4 z5 z6 z7 z8 z9 (nI z10) z11 z12 z13 z14 z15 (nI z16) z17 z18 z19 (nI ((z3 + 1) - 1))) (cwV 1 hg (gV wd_730 wd_731 wd_732 wd_717 wd_733) rfl rfl rfl (by decide +kernel) ⟨(Nat.le_trans (Nat.le_of_ble_eq_true rfl) hRf), (Nat.le_trans (Nat.le_of_ble_eq_true rfl) hRl)⟩) ⟨Pr.blind, va_recv hK hP (ci := 13) (q0 := 0) rfl rfl, fun U hU hW => ⟨rfl, Pr.at hPc hKc hDc hN hU hW⟩⟩ rfl rfl hl.1 rfl (lv_room (Nat.le_of_ble_eq_true rfl)) dX13_partner_127 ⟨(Nat.le_trans (Nat.le_of_ble_eq_true rfl) hRc), (Nat.le_trans (Nat.le_of_ble_eq_true rfl) hRs)⟩) hS (fun q _ h => hFc q h) hFc (fun r_79 M_80 t H_78 locs ht hvm hw hB hz1 hk1 hS => ?_)
            have hp_81 := hw
            obtain ⟨hP1, hK1, hD1⟩ := hB
            rw [ht] at hP1
            obtain ⟨hP, hD⟩ := va_joinQ (X := [(za, .inr (13, [.int 0, .ref z1, .int (nI z2), .int (nI (z3 + 1)), .int z4, .int z5, .ref z6, .ref z7, .ref z8, .ref z9, .int (nI z10), .ref z11, .ref z12, .ref z13, .ref z14, .ref z15, .int (nI z16), .ref z17, .int z18, .ref z19]))]) (cx := [(za, .inr (13, [.int 0, .ref z1, .int (nI z2), .int (nI (z3 + 1)), .int z4, .int z5, .ref z6, .ref z7, .ref z8, .ref z9, .int (nI z10), .ref z11, .ref z12, .ref z13, .ref z14, .ref z15, .int (nI z16), .ref z17, .int z18, .ref z19]))]) (wr := []) (w1 := [(za, .inr (13, [.int 0, .ref z1, .int (nI z2), .int (nI (z3 + 1)), .int 0, .int (-1), .ref z6, .ref z7, .ref z8, .ref z9, .int (nI z10), .ref z11, .ref z12, .ref z13, .ref z14, .ref z15, .int (nI z16), .ref z17, .int z18, .ref z19]))]) (pl := va_pl L M_71) hP hD [0] [] rfl rfl (by decide) (by decide) hk1 hFc hP1 hD1
            have hP : va_P D vwCl ([(za, .inr (13, [.int 0, .ref z1, .int (nI z2), .int (nI (z3 + 1)), .int 0, .int (-1), .ref z6, .ref z7, .ref z8, .ref z9, .int (nI z10), .ref z11, .ref z12, .ref z13, .ref z14, .ref z15, .int (nI z16), .ref z17, .int z18, .ref z19]))] ++ va_pl L M_71) H_78 := hP
            have hD : va_D A ([(za, .inr (13, [.int 0, .ref z1, .int (nI z2), .int (nI (z3 + 1)), .int 0, .int (-1), .ref z6, .ref z7, .ref z8, .ref z9, .int (nI z10), .ref z11, .ref z12, .ref z13, .ref z14, .ref z15, .int (nI z16), .ref z17, .int z18, .ref z19]))] ++ va_pl L M_71) := hD
            have hq := Eq.symm hp_81
            subst hq
            have hR9 : R5 z6 z7 M_71 := R5.put hR5 he6 he7 (by rw [hM_73, ef_68]) (by rw [hM_72, ef_74]) (fun q => absurd q c_57)
            rw [hQ]
            exact W.iret (v := (nI ((z3 + 1) - 1))) hx hb hr (fun t ht hW9 => ⟨⟨(nI ((z3 + 1) - 1)), M_71, rfl, ⟨hW, hF, hR9, trivial⟩, ⟨(z3 + 1), 0, (-1), (by omega), by rw [ht]; exact hP, hD⟩⟩, hS.F ht⟩) hS.2.2 dX13_partner_130
          · have hz := rfl (a := 0)
            have n_82 : z3 = 40 := (iEQ (a := z3) (b := 40) (by omega) (by omega)).mp c_58
            refine lv_aload_n hx hb dX13_partner_83 rfl (lv_at hl 1 rfl) ?_
            refine lv_bipush (v := 9) hx hb dX13_partner_84 (by decide) ?_
            have hPc := hP.sub (ws' := [(za, .inr (13, [.int 0, .ref z1, .int (nI z2), .int (nI z3), .int z4, .int z5, .ref z6, .ref z7, .ref z8, .ref z9, .int (nI z10), .ref z11, .ref z12, .ref z13, .ref z14, .ref z15, .int (nI z16), .ref z17, .int z18, .ref z19]))]) [0] rfl
            have hDc := hD.sub (ws' := [(za, .inr (13, [.int 0, .ref z1, .int (nI z2), .int (nI z3), .int z4, .int z5, .ref z6, .ref z7, .ref z8, .ref z9, .int (nI z10), .ref z11, .ref z12, .ref z13, .ref z14, .ref z15, .int (nI z16), .ref z17, .int z18, .ref z19]))]) [0] (by decide) rfl
            have hKc := hK.sub (tys' := []) [] rfl
            have hFc := va_free (wc := [(za, .inr (13, [.int 0, .ref z1, .int (nI z2), .int (nI z3), .int z4, .int z5, .ref z6, .ref z7, .ref z8, .ref z9, .int (nI z10), .ref z11, .ref z12, .ref z13, .ref z14, .ref z15, .int (nI z16), .ref z17, .int z18, .ref z19]))]) hD hS hA [0] rfl
            refine va_calli (va_runV (As := [.int 9]) (rest := []) ⟨hx, hb, hml, hown, hg⟩ (m_refused l D H_1.size za 0 z1 (nI z2) (nI z3) z4 z5 z6 z7 z8 z9 (nI z10) z11 z12 z13 z14 z15 (nI z16) z17 z18 z19 9) (cwV 1 hg (gV wd_725 wd_726 wd_727 wd_717 wd_728) rfl rfl rfl (by decide +kernel) ⟨(Nat.le_trans (Nat.le_of_ble_eq_true rfl) hRf), (Nat.le_trans (Nat.le_of_ble_eq_true rfl) hRl)⟩) ⟨Pr.blind, va_recv hK hP (ci := 13) (q0 := 0) rfl rfl, fun U hU hW => ⟨rfl, Pr.at hPc hKc hDc hN hU hW⟩⟩ rfl rfl hl.1 rfl (lv_room (Nat.le_of_ble_eq_true rfl)) dX13_partner_86 ⟨(Nat.le_trans (Nat.le_of_ble_eq_true rfl) hRc), (Nat.le_trans (Nat.le_of_ble_eq_true rfl) hRs)⟩) hS (fun q _ h => hFc q h) hFc (fun r_84 M_85 t H_83 locs ht hvm hw hB hz1 hk1 hS => ?_)
            have hp_86 := hw
            obtain ⟨hP1, hK1, hD1⟩ := hB
            rw [ht] at hP1
            obtain ⟨hP, hD⟩ := va_joinQ (X := [(za, .inr (13, [.int 0, .ref z1, .int (nI z2), .int (nI z3), .int z4, .int z5, .ref z6, .ref z7, .ref z8, .ref z9, .int (nI z10), .ref z11, .ref z12, .ref z13, .ref z14, .ref z15, .int (nI z16), .ref z17, .int z18, .ref z19]))]) (cx := [(za, .inr (13, [.int 0, .ref z1, .int (nI z2), .int (nI z3), .int z4, .int z5, .ref z6, .ref z7, .ref z8, .ref z9, .int (nI z10), .ref z11, .ref z12, .ref z13, .ref z14, .ref z15, .int (nI z16), .ref z17, .int z18, .ref z19]))]) (wr := []) (w1 := [(za, .inr (13, [.int 0, .ref z1, .int (nI z2), .int (nI z3), .int 9, .int (-1), .ref z6, .ref z7, .ref z8, .ref z9, .int (nI z10), .ref z11, .ref z12, .ref z13, .ref z14, .ref z15, .int (nI z16), .ref z17, .int z18, .ref z19]))]) (pl := va_pl L M) hP hD [0] [] rfl rfl (by decide) (by decide) hk1 hFc hP1 hD1
            have hP : va_P D vwCl ([(za, .inr (13, [.int 0, .ref z1, .int (nI z2), .int (nI z3), .int 9, .int (-1), .ref z6, .ref z7, .ref z8, .ref z9, .int (nI z10), .ref z11, .ref z12, .ref z13, .ref z14, .ref z15, .int (nI z16), .ref z17, .int z18, .ref z19]))] ++ va_pl L M) H_83 := hP
            have hD : va_D A ([(za, .inr (13, [.int 0, .ref z1, .int (nI z2), .int (nI z3), .int 9, .int (-1), .ref z6, .ref z7, .ref z8, .ref z9, .int (nI z10), .ref z11, .ref z12, .ref z13, .ref z14, .ref z15, .int (nI z16), .ref z17, .int z18, .ref z19]))] ++ va_pl L M) := hD
            have hq := Eq.symm hp_86
            subst hq
            rw [hQ]
            exact W.iret (v := (-1)) hx hb hr (fun t ht hW9 => ⟨⟨(-1), M, rfl, ⟨hW, hF, hR5, trivial⟩, ⟨z3, 9, (-1), (by omega), by rw [ht]; exact hP, hD⟩⟩, hS.F ht⟩) hS.2.2 dX13_partner_89
        · have hz := rfl (a := 0)
          have n_87 : ¬ k2 < 0 := gtN (c := 1000000000) (by omega) (Int32.not_le.mp c_56)
          refine lv_aload_n hx hb dX13_partner_49 rfl (lv_at hl 1 rfl) ?_
          refine lv_iconst (v := 2) hx hb dX13_partner_50 (by decide) ?_
          have hPc := hP.sub (ws' := [(za, .inr (13, [.int 0, .ref z1, .int (nI z2), .int (nI z3), .int z4, .int z5, .ref z6, .ref z7, .ref z8, .ref z9, .int (nI z10), .ref z11, .ref z12, .ref z13, .ref z14, .ref z15, .int (nI z16), .ref z17, .int z18, .ref z19]))]) [0] rfl
          have hDc := hD.sub (ws' := [(za, .inr (13, [.int 0, .ref z1, .int (nI z2), .int (nI z3), .int z4, .int z5, .ref z6, .ref z7, .ref z8, .ref z9, .int (nI z10), .ref z11, .ref z12, .ref z13, .ref z14, .ref z15, .int (nI z16), .ref z17, .int z18, .ref z19]))]) [0] (by decide) rfl
          have hKc := hK.sub (tys' := []) [] rfl
          have hFc := va_free (wc := [(za, .inr (13, [.int 0, .ref z1, .int (nI z2), .int (nI z3), .int z4, .int z5, .ref z6, .ref z7, .ref z8, .ref z9, .int (nI z10), .ref z11, .ref z12, .ref z13, .ref z14, .ref z15, .int (nI z16), .ref z17, .int z18, .ref z19]))]) hD hS hA [0] rfl
          refine va_calli (va_runV (As := [.int 2]) (rest := []) ⟨hx, hb, hml, hown, hg⟩ (m_refused l D H_1.size za 0 z1 (nI z2) (nI z3) z4 z5 z6 z7 z8 z9 (nI z10) z11 z12 z13 z14 z15 (nI z16) z17 z18 z19 2) (cwV 1 hg (gV wd_725 wd_726 wd_727 wd_717 wd_728) rfl rfl rfl (by decide +kernel) ⟨(Nat.le_trans (Nat.le_of_ble_eq_true rfl) hRf), (Nat.le_trans (Nat.le_of_ble_eq_true rfl) hRl)⟩) ⟨Pr.blind, va_recv hK hP (ci := 13) (q0 := 0) rfl rfl, fun U hU hW => ⟨rfl, Pr.at hPc hKc hDc hN hU hW⟩⟩ rfl rfl hl.1 rfl (lv_room (Nat.le_of_ble_eq_true rfl)) dX13_partner_51 ⟨(Nat.le_trans (Nat.le_of_ble_eq_true rfl) hRc), (Nat.le_trans (Nat.le_of_ble_eq_true rfl) hRs)⟩) hS (fun q _ h => hFc q h) hFc (fun r_89 M_90 t H_88 locs ht hvm hw hB hz1 hk1 hS => ?_)
          have hp_91 := hw
          obtain ⟨hP1, hK1, hD1⟩ := hB
          rw [ht] at hP1
          obtain ⟨hP, hD⟩ := va_joinQ (X := [(za, .inr (13, [.int 0, .ref z1, .int (nI z2), .int (nI z3), .int z4, .int z5, .ref z6, .ref z7, .ref z8, .ref z9, .int (nI z10), .ref z11, .ref z12, .ref z13, .ref z14, .ref z15, .int (nI z16), .ref z17, .int z18, .ref z19]))]) (cx := [(za, .inr (13, [.int 0, .ref z1, .int (nI z2), .int (nI z3), .int z4, .int z5, .ref z6, .ref z7, .ref z8, .ref z9, .int (nI z10), .ref z11, .ref z12, .ref z13, .ref z14, .ref z15, .int (nI z16), .ref z17, .int z18, .ref z19]))]) (wr := []) (w1 := [(za, .inr (13, [.int 0, .ref z1, .int (nI z2), .int (nI z3), .int 2, .int (-1), .ref z6, .ref z7, .ref z8, .ref z9, .int (nI z10), .ref z11, .ref z12, .ref z13, .ref z14, .ref z15, .int (nI z16), .ref z17, .int z18, .ref z19]))]) (pl := va_pl L M) hP hD [0] [] rfl rfl (by decide) (by decide) hk1 hFc hP1 hD1
          have hP : va_P D vwCl ([(za, .inr (13, [.int 0, .ref z1, .int (nI z2), .int (nI z3), .int 2, .int (-1), .ref z6, .ref z7, .ref z8, .ref z9, .int (nI z10), .ref z11, .ref z12, .ref z13, .ref z14, .ref z15, .int (nI z16), .ref z17, .int z18, .ref z19]))] ++ va_pl L M) H_88 := hP
          have hD : va_D A ([(za, .inr (13, [.int 0, .ref z1, .int (nI z2), .int (nI z3), .int 2, .int (-1), .ref z6, .ref z7, .ref z8, .ref z9, .int (nI z10), .ref z11, .ref z12, .ref z13, .ref z14, .ref z15, .int (nI z16), .ref z17, .int z18, .ref z19]))] ++ va_pl L M) := hD
          have hq := Eq.symm hp_91
          subst hq
          rw [hQ]
          exact W.iret (v := (-1)) hx hb hr (fun t ht hW9 => ⟨⟨(-1), M, rfl, ⟨hW, hF, hR5, trivial⟩, ⟨z3, 2, (-1), (by omega), by rw [ht]; exact hP, hD⟩⟩, hS.F ht⟩) hS.2.2 dX13_partner_54
    · have hz := rfl (a := 0)
      refine lv_iload_n hx hb dX13_partner_15 rfl (lv_at hl 1 rfl) ?_
      refine lv_iconst (v := 4) hx hb dX13_partner_16 (by decide) ?_
      refine lv_icmp_ne (tgt := 24) hx hb dX13_partner_17 (by decide) (fun c_92 => ?_) (fun c_92 => ?_)
      · have hz := rfl (a := 0)
        refine lv_iconst (v := 0) hx hb dX13_partner_24 (by decide) ?_
        refine lv_istore_n (lv' := [(3, .int 0), (0, .ref za), (1, .int k1), (2, .int k2)]) hx hb dX13_partner_25 rfl hl (by decide) rfl (fun ls hl => ?_)
        refine lv_iload_n hx hb dX13_partner_26 rfl (lv_at hl 2 rfl) ?_
        refine lv_if_lt (tgt := 49) hx hb dX13_partner_27 (by decide) (fun c_93 => ?_) (fun c_93 => ?_)
        · have hz := rfl (a := 0)
          refine lv_aload_n hx hb dX13_partner_49 rfl (lv_at hl 1 rfl) ?_
          refine lv_iconst (v := 2) hx hb dX13_partner_50 (by decide) ?_
          have hPc := hP.sub (ws' := [(za, .inr (13, [.int 0, .ref z1, .int (nI z2), .int (nI z3), .int z4, .int z5, .ref z6, .ref z7, .ref z8, .ref z9, .int (nI z10), .ref z11, .ref z12, .ref z13, .ref z14, .ref z15, .int (nI z16), .ref z17, .int z18, .ref z19]))]) [0] rfl
          have hDc := hD.sub (ws' := [(za, .inr (13, [.int 0, .ref z1, .int (nI z2), .int (nI z3), .int z4, .int z5, .ref z6, .ref z7, .ref z8, .ref z9, .int (nI z10), .ref z11, .ref z12, .ref z13, .ref z14, .ref z15, .int (nI z16), .ref z17, .int z18, .ref z19]))]) [0] (by decide) rfl
          have hKc := hK.sub (tys' := []) [] rfl
          have hFc := va_free (wc := [(za, .inr (13, [.int 0, .ref z1, .int (nI z2), .int (nI z3), .int z4, .int z5, .ref z6, .ref z7, .ref z8, .ref z9, .int (nI z10), .ref z11, .ref z12, .ref z13, .ref z14, .ref z15, .int (nI z16), .ref z17, .int z18, .ref z19]))]) hD hS hA [0] rfl
          refine va_calli (va_runV (As := [.int 2]) (rest := []) ⟨hx, hb, hml, hown, hg⟩ (m_refused l D H_1.size za 0 z1 (nI z2) (nI z3) z4 z5 z6 z7 z8 z9 (nI z10) z11 z12 z13 z14 z15 (nI z16) z17 z18 z19 2) (cwV 1 hg (gV wd_725 wd_726 wd_727 wd_717 wd_728) rfl rfl rfl (by decide +kernel) ⟨(Nat.le_trans (Nat.le_of_ble_eq_true rfl) hRf), (Nat.le_trans (Nat.le_of_ble_eq_true rfl) hRl)⟩) ⟨Pr.blind, va_recv hK hP (ci := 13) (q0 := 0) rfl rfl, fun U hU hW => ⟨rfl, Pr.at hPc hKc hDc hN hU hW⟩⟩ rfl rfl hl.1 rfl (lv_room (Nat.le_of_ble_eq_true rfl)) dX13_partner_51 ⟨(Nat.le_trans (Nat.le_of_ble_eq_true rfl) hRc), (Nat.le_trans (Nat.le_of_ble_eq_true rfl) hRs)⟩) hS (fun q _ h => hFc q h) hFc (fun r_95 M_96 t H_94 locs ht hvm hw hB hz1 hk1 hS => ?_)
          have hp_97 := hw
          obtain ⟨hP1, hK1, hD1⟩ := hB
          rw [ht] at hP1
          obtain ⟨hP, hD⟩ := va_joinQ (X := [(za, .inr (13, [.int 0, .ref z1, .int (nI z2), .int (nI z3), .int z4, .int z5, .ref z6, .ref z7, .ref z8, .ref z9, .int (nI z10), .ref z11, .ref z12, .ref z13, .ref z14, .ref z15, .int (nI z16), .ref z17, .int z18, .ref z19]))]) (cx := [(za, .inr (13, [.int 0, .ref z1, .int (nI z2), .int (nI z3), .int z4, .int z5, .ref z6, .ref z7, .ref z8, .ref z9, .int (nI z10), .ref z11, .ref z12, .ref z13, .ref z14, .ref z15, .int (nI z16), .ref z17, .int z18, .ref z19]))]) (wr := []) (w1 := [(za, .inr (13, [.int 0, .ref z1, .int (nI z2), .int (nI z3), .int 2, .int (-1), .ref z6, .ref z7, .ref z8, .ref z9, .int (nI z10), .ref z11, .ref z12, .ref z13, .ref z14, .ref z15, .int (nI z16), .ref z17, .int z18, .ref z19]))]) (pl := va_pl L M) hP hD [0] [] rfl rfl (by decide) (by decide) hk1 hFc hP1 hD1
          have hP : va_P D vwCl ([(za, .inr (13, [.int 0, .ref z1, .int (nI z2), .int (nI z3), .int 2, .int (-1), .ref z6, .ref z7, .ref z8, .ref z9, .int (nI z10), .ref z11, .ref z12, .ref z13, .ref z14, .ref z15, .int (nI z16), .ref z17, .int z18, .ref z19]))] ++ va_pl L M) H_94 := hP
          have hD : va_D A ([(za, .inr (13, [.int 0, .ref z1, .int (nI z2), .int (nI z3), .int 2, .int (-1), .ref z6, .ref z7, .ref z8, .ref z9, .int (nI z10), .ref z11, .ref z12, .ref z13, .ref z14, .ref z15, .int (nI z16), .ref z17, .int z18, .ref z19]))] ++ va_pl L M) := hD
          have hq := Eq.symm hp_97
          subst hq
          rw [hQ]
          exact W.iret (v := (-1)) hx hb hr (fun t ht hW9 => ⟨⟨(-1), M, rfl, ⟨hW, hF, hR5, trivial⟩, ⟨z3, 2, (-1), (by omega), by rw [ht]; exact hP, hD⟩⟩, hS.F ht⟩) hS.2.2 dX13_partner_54
        · have hz := rfl (a := 0)
          refine lv_iload_n hx hb dX13_partner_30 rfl (lv_at hl 2 rfl) ?_
          refine lv_iconst (v := 5) hx hb dX13_partner_31 (by decide) ?_
          refine lv_icmp_gt (tgt := 49) hx hb dX13_partner_32 (by decide) (fun c_98 => ?_) (fun c_98 => ?_)
          · have hz := rfl (a := 0)
            have n_99 : ¬ k1 < 0 := gtN (c := 5) (by omega) c_98
            refine lv_aload_n hx hb dX13_partner_49 rfl (lv_at hl 1 rfl) ?_
            refine lv_iconst (v := 2) hx hb dX13_partner_50 (by decide) ?_
            have hPc := hP.sub (ws' := [(za, .inr (13, [.int 0, .ref z1, .int (nI z2), .int (nI z3), .int z4, .int z5, .ref z6, .ref z7, .ref z8, .ref z9, .int (nI z10), .ref z11, .ref z12, .ref z13, .ref z14, .ref z15, .int (nI z16), .ref z17, .int z18, .ref z19]))]) [0] rfl
            have hDc := hD.sub (ws' := [(za, .inr (13, [.int 0, .ref z1, .int (nI z2), .int (nI z3), .int z4, .int z5, .ref z6, .ref z7, .ref z8, .ref z9, .int (nI z10), .ref z11, .ref z12, .ref z13, .ref z14, .ref z15, .int (nI z16), .ref z17, .int z18, .ref z19]))]) [0] (by decide) rfl
            have hKc := hK.sub (tys' := []) [] rfl
            have hFc := va_free (wc := [(za, .inr (13, [.int 0, .ref z1, .int (nI z2), .int (nI z3), .int z4, .int z5, .ref z6, .ref z7, .ref z8, .ref z9, .int (nI z10), .ref z11, .ref z12, .ref z13, .ref z14, .ref z15, .int (nI z16), .ref z17, .int z18, .ref z19]))]) hD hS hA [0] rfl
            refine va_calli (va_runV (As := [.int 2]) (rest := []) ⟨hx, hb, hml, hown, hg⟩ (m_refused l D H_1.size za 0 z1 (nI z2) (nI z3) z4 z5 z6 z7 z8 z9 (nI z10) z11 z12 z13 z14 z15 (nI z16) z17 z18 z19 2) (cwV 1 hg (gV wd_725 wd_726 wd_727 wd_717 wd_728) rfl rfl rfl (by decide +kernel) ⟨(Nat.le_trans (Nat.le_of_ble_eq_true rfl) hRf), (Nat.le_trans (Nat.le_of_ble_eq_true rfl) hRl)⟩) ⟨Pr.blind, va_recv hK hP (ci := 13) (q0 := 0) rfl rfl, fun U hU hW => ⟨rfl, Pr.at hPc hKc hDc hN hU hW⟩⟩ rfl rfl hl.1 rfl (lv_room (Nat.le_of_ble_eq_true rfl)) dX13_partner_51 ⟨(Nat.le_trans (Nat.le_of_ble_eq_true rfl) hRc), (Nat.le_trans (Nat.le_of_ble_eq_true rfl) hRs)⟩) hS (fun q _ h => hFc q h) hFc (fun r_101 M_102 t H_100 locs ht hvm hw hB hz1 hk1 hS => ?_)
            have hp_103 := hw
            obtain ⟨hP1, hK1, hD1⟩ := hB
            rw [ht] at hP1
            obtain ⟨hP, hD⟩ := va_joinQ (X := [(za, .inr (13, [.int 0, .ref z1, .int (nI z2), .int (nI z3), .int z4, .int z5, .ref z6, .ref z7, .ref z8, .ref z9, .int (nI z10), .ref z11, .ref z12, .ref z13, .ref z14, .ref z15, .int (nI z16), .ref z17, .int z18, .ref z19]))]) (cx := [(za, .inr (13, [.int 0, .ref z1, .int (nI z2), .int (nI z3), .int z4, .int z5, .ref z6, .ref z7, .ref z8, .ref z9, .int (nI z10), .ref z11, .ref z12, .ref z13, .ref z14, .ref z15, .int (nI z16), .ref z17, .int z18, .ref z19]))]) (wr := []) (w1 := [(za, .inr (13, [.int 0, .ref z1, .int (nI z2), .int (nI z3), .int 2, .int (-1), .ref z6, .ref z7, .ref z8, .ref z9, .int (nI z10), .ref z11, .ref z12, .ref z13, .ref z14, .ref z15, .int (nI z16), .ref z17, .int z18, .ref z19]))]) (pl := va_pl L M) hP hD [0] [] rfl rfl (by decide) (by decide) hk1 hFc hP1 hD1
            have hP : va_P D vwCl ([(za, .inr (13, [.int 0, .ref z1, .int (nI z2), .int (nI z3), .int 2, .int (-1), .ref z6, .ref z7, .ref z8, .ref z9, .int (nI z10), .ref z11, .ref z12, .ref z13, .ref z14, .ref z15, .int (nI z16), .ref z17, .int z18, .ref z19]))] ++ va_pl L M) H_100 := hP
            have hD : va_D A ([(za, .inr (13, [.int 0, .ref z1, .int (nI z2), .int (nI z3), .int 2, .int (-1), .ref z6, .ref z7, .ref z8, .ref z9, .int (nI z10), .ref z11, .ref z12, .ref z13, .ref z14, .ref z15, .int (nI z16), .ref z17, .int z18, .ref z19]))] ++ va_pl L M) := hD
            have hq := Eq.symm hp_103
            subst hq
            rw [hQ]
            exact W.iret (v := (-1)) hx hb hr (fun t ht hW9 => ⟨⟨(-1), M, rfl, ⟨hW, hF, hR5, trivial⟩, ⟨z3, 2, (-1), (by omega), by rw [ht]; exact hP, hD⟩⟩, hS.F ht⟩) hS.2.2 dX13_partner_54
          · have hz := rfl (a := 0)
            refine lv_iload_n hx hb dX13_partner_35 rfl (lv_at hl 0 rfl) ?_
            refine lv_if_eq (tgt := 55) hx hb dX13_partner_36 (by decide) (fun _ => ?_) (fun c_104 => absurd c_104 (by decide))
            refine lv_iload_n hx hb dX13_partner_55 rfl (lv_at hl 2 rfl) ?_
            refine lv_iconst (v := 5) hx hb dX13_partner_56 (by decide) ?_
            refine lv_icmp_ne (tgt := 74) hx hb dX13_partner_57 (by decide) (fun c_105 => ?_) (fun c_105 => ?_)
            · have hz := rfl (a := 0)
              refine lv_aload_n hx hb dX13_partner_74 rfl (lv_at hl 1 rfl) ?_
              refine va_get (D := D) (ci := 13) (v := .int (nI z3)) (C := RX13) (T := TX13) (N := 20) hx hb hg inG13 hown hK hP 0 rfl rfl 3 (by decide) (hg _ wd_831) (fun _ h9 => h9) rfl dX13_partner_75 ?_
              refine lv_bipush (v := 40) hx hb dX13_partner_78 (by decide) ?_
              refine lv_icmp_ne (tgt := 90) hx hb dX13_partner_80 (by decide) (fun c_106 => ?_) (fun c_106 => ?_)
              · have hz := rfl (a := 0)
                have n_107 : ¬ (z3 = 40) := fun q => c_106 ((iEQ (a := z3) (b := 40) (by omega) (by omega)).mpr q)
                obtain ⟨f108, hM108, hf108⟩ := hW.open_47 i6
                obtain ⟨f109, hM109⟩ := hW.open_48 i7
                have he6 := hM108
                have he7 := hM109
                refine lv_aload_n hx hb dX13_partner_90 rfl (lv_at hl 1 rfl) ?_
                refine va_get (D := D) (ci := 13) (v := .ref z6) (C := RX13) (T := TX13) (N := 20) hx hb hg inG13 hown hK hP 0 rfl rfl 6 (by decide) (hg _ wd_719) (fun _ h9 => h9) rfl dX13_partner_91 ?_
                refine lv_aload_n hx hb dX13_partner_94 rfl (lv_at hl 1 rfl) ?_
                refine va_get (D := D) (ci := 13) (v := .int (nI z3)) (C := RX13) (T := TX13) (N := 20) hx hb hg inG13 hown hK hP 0 rfl rfl 3 (by decide) (hg _ wd_831) (fun _ h9 => h9) rfl dX13_partner_95 ?_
                refine lv_iload_n hx hb dX13_partner_98 rfl (lv_at hl 2 rfl) ?_
                obtain ⟨j_110, hj_111, rfl⟩ := i32nat 6 (by decide) c_93 (leB (b := 6) (c := 5) (by decide) (by decide) (Int32.not_lt.mp c_98))
                refine pg_iast hx hb hK hP hD hS i6.1 0 hM108 rfl (inbN z3 40 (by omega) (by omega)) dX13_partner_99 (fun H_112 locs hP hD hS => ?_)
                obtain ⟨M_113, eM_113⟩ : ∃ M1 : Hp, M1 = va_up M z6 (.inl (cy 14, 40, .inl (upd f108 ((nI z3) : Int32).toNatClampNeg (nI j_110)))) := ⟨_, rfl⟩
                have hP : va_P D vwCl ([(za, .inr (13, [.int 0, .ref z1, .int (nI z2), .int (nI z3), .int z4, .int z5, .ref z6, .ref z7, .ref z8, .ref z9, .int (nI z10), .ref z11, .ref z12, .ref z13, .ref z14, .ref z15, .int (nI z16), .ref z17, .int z18, .ref z19]))] ++ va_pl L M_113) H_112 := by rw [eM_113]; exact hP
                have hD : va_D A ([(za, .inr (13, [.int 0, .ref z1, .int (nI z2), .int (nI z3), .int z4, .int z5, .ref z6, .ref z7, .ref z8, .ref z9, .int (nI z10), .ref z11, .ref z12, .ref z13, .ref z14, .ref z15, .int (nI z16), .ref z17, .int z18, .ref z19]))] ++ va_pl L M_113) := by rw [eM_113]; exact hD
                have hW : WOM cy K L M_113 := by rw [eM_113]; exact hW.up_47 i6 ⟨_, rfl, (updP (P := fun z => ∃ c : Nat, c < 6 ∧ z = nI c) hf108 ⟨j_110, by omega, rfl⟩)⟩
                have hF : fr K L [47, 48] M M_113 := by rw [eM_113]; exact hF.up i6 (by decide)
                have hM_114 : M_113 z6 = .inl (cy 14, 40, .inl (upd f108 ((nI z3) : Int32).toNatClampNeg (nI j_110))) := by rw [eM_113]; exact va_up_self _ _ _
                have hM_115 : M_113 z7 = .inl (cy 14, 40, .inl (f109)) := by rw [eM_113, va_up_ne _ _ (i7.neT i6 (by decide))]; exact hM109
                have hf_117 : ∀ j, j < 40 → ∃ c : Nat, c < 6 ∧ (upd f108 ((nI z3) : Int32).toNatClampNeg (nI j_110)) j = nI c := (updP (P := fun z => ∃ c : Nat, c < 6 ∧ z = nI c) hf108 ⟨j_110, by omega, rfl⟩)
                obtain ⟨f_116, ef_116⟩ : ∃ f : Nat → Int32, f = upd f108 ((nI z3) : Int32).toNatClampNeg (nI j_110) := ⟨_, rfl⟩
                rw [← ef_116] at hM_114 hf_117
                refine lv_aload_n hx hb dX13_partner_100 rfl (lv_at hl 1 rfl) ?_
                refine va_get (D := D) (ci := 13) (v := .ref z7) (C := RX13) (T := TX13) (N := 20) hx hb hg inG13 hown hK hP 0 rfl rfl 7 (by decide) (hg _ wd_760) (fun _ h9 => h9) rfl dX13_partner_101 ?_
                refine lv_aload_n hx hb dX13_partner_104 rfl (lv_at hl 1 rfl) ?_
                refine va_get (D := D) (ci := 13) (v := .int (nI z3)) (C := RX13) (T := TX13) (N := 20) hx hb hg inG13 hown hK hP 0 rfl rfl 3 (by decide) (hg _ wd_831) (fun _ h9 => h9) rfl dX13_partner_105 ?_
                refine lv_iload_n hx hb dX13_partner_108 rfl (lv_at hl 3 rfl) ?_
                refine pg_iast hx hb hK hP hD hS i7.1 0 hM_115 rfl (inbN z3 40 (by omega) (by omega)) dX13_partner_109 (fun H_118 locs hP hD hS => ?_)
                obtain ⟨M_119, eM_119⟩ : ∃ M1 : Hp, M1 = va_up M_113 z7 (.inl (cy 14, 40, .inl (upd f109 ((nI z3) : Int32).toNatClampNeg k2))) := ⟨_, rfl⟩
                have hP : va_P D vwCl ([(za, .inr (13, [.int 0, .ref z1, .int (nI z2), .int (nI z3), .int z4, .int z5, .ref z6, .ref z7, .ref z8, .ref z9, .int (nI z10), .ref z11, .ref z12, .ref z13, .ref z14, .ref z15, .int (nI z16), .ref z17, .int z18, .ref z19]))] ++ va_pl L M_119) H_118 := by rw [eM_119]; exact hP
                have hD : va_D A ([(za, .inr (13, [.int 0, .ref z1, .int (nI z2), .int (nI z3), .int z4, .int z5, .ref z6, .ref z7, .ref z8, .ref z9, .int (nI z10), .ref z11, .ref z12, .ref z13, .ref z14, .ref z15, .int (nI z16), .ref z17, .int z18, .ref z19]))] ++ va_pl L M_119) := by rw [eM_119]; exact hD
                have hW : WOM cy K L M_119 := by rw [eM_119]; exact hW.up_48 i7 ⟨_, rfl⟩
                have hF : fr K L [47, 48] M M_119 := by rw [eM_119]; exact hF.up i7 (by decide)
                have hM_120 : M_119 z7 = .inl (cy 14, 40, .inl (upd f109 ((nI z3) : Int32).toNatClampNeg k2)) := by rw [eM_119]; exact va_up_self _ _ _
                have hM_121 : M_119 z6 = .inl (cy 14, 40, .inl (f_116)) := by rw [eM_119, va_up_ne _ _ (i6.neT i7 (by decide))]; exact hM_114
                obtain ⟨f_122, ef_122⟩ : ∃ f : Nat → Int32, f = upd f109 ((nI z3) : Int32).toNatClampNeg k2 := ⟨_, rfl⟩
                rw [← ef_122] at hM_120
                refine lv_aload_n hx hb dX13_partner_110 rfl (lv_at hl 1 rfl) ?_
                refine lv_dup hx hb dX13_partner_111 rfl ?_
                refine va_get (D := D) (ci := 13) (v := .int (nI z3)) (C := RX13) (T := TX13) (N := 20) hx hb hg inG13 hown hK hP 0 rfl rfl 3 (by decide) (hg _ wd_831) (fun _ h9 => h9) rfl dX13_partner_112 ?_
                refine lv_iconst (v := 1) hx hb dX13_partner_115 (by decide) ?_
                refine lv_iadd hx hb dX13_partner_116 ?_
                refine lv_topi (fun f_123 ef_123 => ?_)
                obtain rfl : f_123 = (nI (z3 + 1)) := ef_123.trans (nI_add z3 1)
                refine va_put (D := D) (ci := 13) (v := .int (nI (z3 + 1))) (ty := .int) (C := RX13) (T := TX13) (N := 20) hx hb hg inG13 tyX13 tyX13_ok nmX13 hown hK hP hD hS 0 rfl rfl 3 (by decide) (hg _ wd_831) (fun _ h9 => h9) rfl (by decide +kernel) rfl rfl (Nat.le_of_ble_eq_true rfl) dX13_partner_117 (fun H_124 locs hP hD hS => ?_)
                have hP : va_P D vwCl ([(za, .inr (13, [.int 0, .ref z1, .int (nI z2), .int (nI (z3 + 1)), .int z4, .int z5, .ref z6, .ref z7, .ref z8, .ref z9, .int (nI z10), .ref z11, .ref z12, .ref z13, .ref z14, .ref z15, .int (nI z16), .ref z17, .int z18, .ref z19]))] ++ va_pl L M_119) H_124 := hP
                have hD : va_D A ([(za, .inr (13, [.int 0, .ref z1, .int (nI z2), .int (nI (z3 + 1)), .int z4, .int z5, .ref z6, .ref z7, .ref z8, .ref z9, .int (nI z10), .ref z11, .ref z12, .ref z13, .ref z14, .ref z15, .int (nI z16), .ref z17, .int z18, .ref z19]))] ++ va_pl L M_119) := hD
                refine lv_aload_n hx hb dX13_partner_120 rfl (lv_at hl 1 rfl) ?_
                refine lv_aload_n hx hb dX13_partner_121 rfl (lv_at hl 1 rfl) ?_
                refine va_get (D := D) (ci := 13) (v := .int (nI (z3 + 1))) (C := RX13) (T := TX13) (N := 20) hx hb hg inG13 hown hK hP 0 rfl rfl 3 (by decide) (hg _ wd_831) (fun _ h9 => h9) rfl dX13_partner_122 ?_
                refine lv_iconst (v := 1) hx hb dX13_partner_125 (by decide) ?_
                refine lv_isub hx hb dX13_partner_126 ?_
                refine lv_topi (fun f_125 ef_125 => ?_)
                obtain rfl : f_125 = (nI ((z3 + 1) - 1)) := ef_125.trans (nI_prd (by omega))
                have hPc := hP.sub (ws' := [(za, .inr (13, [.int 0, .ref z1, .int (nI z2), .int (nI (z3 + 1)), .int z4, .int z5, .ref z6, .ref z7, .ref z8, .ref z9, .int (nI z10), .ref z11, .ref z12, .ref z13, .ref z14, .ref z15, .int (nI z16), .ref z17, .int z18, .ref z19]))]) [0] rfl
                have hDc := hD.sub (ws' := [(za, .inr (13, [.int 0, .ref z1, .int (nI z2), .int (nI (z3 + 1)), .int z4, .int z5, .ref z6, .ref z7, .ref z8, .ref z9, .int (nI z10), .ref z11, .ref z12, .ref z13, .ref z14, .ref z15, .int (nI z16), .ref z17, .int z18, .ref z19]))]) [0] (by decide) rfl
                have hKc := hK.sub (tys' := []) [] rfl
                have hFc := va_free (wc := [(za, .inr (13, [.int 0, .ref z1, .int (nI z2), .int (nI (z3 + 1)), .int z4, .int z5, .ref z6, .ref z7, .ref z8, .ref z9, .int (nI z10), .ref z11, .ref z12, .ref z13, .ref z14, .ref z15, .int (nI z16), .ref z17, .int z18, .ref z19]))]) hD hS hA [0] rfl
                refine va_calli (va_runV (As := [.int (nI ((z3 + 1) - 1))]) (rest := []) ⟨hx, hb, hml, hown, hg⟩ (m_done l D H_124.size za 0 z1 (nI z2) (nI (z3 + 1)) z4 z5 z6 z7 z8 z9 (nI z10) z11 z12 z13 z14 z15 (nI z16) z17 z18 z19 (nI ((z3 + 1) - 1))) (cwV 1 hg (gV wd_730 wd_731 wd_732 wd_717 wd_733) rfl rfl rfl (by decide +kernel) ⟨(Nat.le_trans (Nat.le_of_ble_eq_true rfl) hRf), (Nat.le_trans (Nat.le_of_ble_eq_true rfl) hRl)⟩) ⟨Pr.blind, va_recv hK hP (ci := 13) (q0 := 0) rfl rfl, fun U hU hW => ⟨rfl, Pr.at hPc hKc hDc hN hU hW⟩⟩ rfl rfl hl.1 rfl (lv_room (Nat.le_of_ble_eq_true rfl)) dX13_partner_127 ⟨(Nat.le_trans (Nat.le_of_ble_eq_true rfl) hRc), (Nat.le_trans (Nat.le_of_ble_eq_true rfl) hRs)⟩) hS (fun q _ h => hFc q h) hFc (fun r_127 M_128 t H_126 locs ht hvm hw hB hz1 hk1 hS => ?_)
                have hp_129 := hw
                obtain ⟨hP1, hK1, hD1⟩ := hB
                rw [ht] at hP1
                obtain ⟨hP, hD⟩ := va_joinQ (X := [(za, .inr (13, [.int 0, .ref z1, .int (nI z2), .int (nI (z3 + 1)), .int z4, .int z5, .ref z6, .ref z7, .ref z8, .ref z9, .int (nI z10), .ref z11, .ref z12, .ref z13, .ref z14, .ref z15, .int (nI z16), .ref z17, .int z18, .ref z19]))]) (cx := [(za, .inr (13, [.int 0, .ref z1, .int (nI z2), .int (nI (z3 + 1)), .int z4, .int z5, .ref z6, .ref z7, .ref z8, .ref z9, .int (nI z10), .ref z11, .ref z12, .ref z13, .ref z14, .ref z15, .int (nI z16), .ref z17, .int z18, .ref z19]))]) (wr := []) (w1 := [(za, .inr (13, [.int 0, .ref z1, .int (nI z2), .int (nI (z3 + 1)), .int 0, .int (-1), .ref z6, .ref z7, .ref z8, .ref z9, .int (nI z10), .ref z11, .ref z12, .ref z13, .ref z14, .ref z15, .int (nI z16), .ref z17, .int z18, .ref z19]))]) (pl := va_pl L M_119) hP hD [0] [] rfl rfl (by decide) (by decide) hk1 hFc hP1 hD1
                have hP : va_P D vwCl ([(za, .inr (13, [.int 0, .ref z1, .int (nI z2), .int (nI (z3 + 1)), .int 0, .int (-1), .ref z6, .ref z7, .ref z8, .ref z9, .int (nI z10), .ref z11, .ref z12, .ref z13, .ref z14, .ref z15, .int (nI z16), .ref z17, .int z18, .ref z19]))] ++ va_pl L M_119) H_126 := hP
                have hD : va_D A ([(za, .inr (13, [.int 0, .ref z1, .int (nI z2), .int (nI (z3 + 1)), .int 0, .int (-1), .ref z6, .ref z7, .ref z8, .ref z9, .int (nI z10), .ref z11, .ref z12, .ref z13, .ref z14, .ref z15, .int (nI z16), .ref z17, .int z18, .ref z19]))] ++ va_pl L M_119) := hD
                have hq := Eq.symm hp_129
                subst hq
                have hR9 : R5 z6 z7 M_119 := R5.put hR5 he6 he7 (by rw [hM_121, ef_116]) (by rw [hM_120, ef_122]) (fun q => absurd q c_105)
                rw [hQ]
                exact W.iret (v := (nI ((z3 + 1) - 1))) hx hb hr (fun t ht hW9 => ⟨⟨(nI ((z3 + 1) - 1)), M_119, rfl, ⟨hW, hF, hR9, trivial⟩, ⟨(z3 + 1), 0, (-1), (by omega), by rw [ht]; exact hP, hD⟩⟩, hS.F ht⟩) hS.2.2 dX13_partner_130
              · have hz := rfl (a := 0)
                have n_130 : z3 = 40 := (iEQ (a := z3) (b := 40) (by omega) (by omega)).mp c_106
                refine lv_aload_n hx hb dX13_partner_83 rfl (lv_at hl 1 rfl) ?_
                refine lv_bipush (v := 9) hx hb dX13_partner_84 (by decide) ?_
                have hPc := hP.sub (ws' := [(za, .inr (13, [.int 0, .ref z1, .int (nI z2), .int (nI z3), .int z4, .int z5, .ref z6, .ref z7, .ref z8, .ref z9, .int (nI z10), .ref z11, .ref z12, .ref z13, .ref z14, .ref z15, .int (nI z16), .ref z17, .int z18, .ref z19]))]) [0] rfl
                have hDc := hD.sub (ws' := [(za, .inr (13, [.int 0, .ref z1, .int (nI z2), .int (nI z3), .int z4, .int z5, .ref z6, .ref z7, .ref z8, .ref z9, .int (nI z10), .ref z11, .ref z12, .ref z13, .ref z14, .ref z15, .int (nI z16), .ref z17, .int z18, .ref z19]))]) [0] (by decide) rfl
                have hKc := hK.sub (tys' := []) [] rfl
                have hFc := va_free (wc := [(za, .inr (13, [.int 0, .ref z1, .int (nI z2), .int (nI z3), .int z4, .int z5, .ref z6, .ref z7, .ref z8, .ref z9, .int (nI z10), .ref z11, .ref z12, .ref z13, .ref z14, .ref z15, .int (nI z16), .ref z17, .int z18, .ref z19]))]) hD hS hA [0] rfl
                refine va_calli (va_runV (As := [.int 9]) (rest := []) ⟨hx, hb, hml, hown, hg⟩ (m_refused l D H_1.size za 0 z1 (nI z2) (nI z3) z4 z5 z6 z7 z8 z9 (nI z10) z11 z12 z13 z14 z15 (nI z16) z17 z18 z19 9) (cwV 1 hg (gV wd_725 wd_726 wd_727 wd_717 wd_728) rfl rfl rfl (by decide +kernel) ⟨(Nat.le_trans (Nat.le_of_ble_eq_true rfl) hRf), (Nat.le_trans (Nat.le_of_ble_eq_true rfl) hRl)⟩) ⟨Pr.blind, va_recv hK hP (ci := 13) (q0 := 0) rfl rfl, fun U hU hW => ⟨rfl, Pr.at hPc hKc hDc hN hU hW⟩⟩ rfl rfl hl.1 rfl (lv_room (Nat.le_of_ble_eq_true rfl)) dX13_partner_86 ⟨(Nat.le_trans (Nat.le_of_ble_eq_true rfl) hRc), (Nat.le_trans (Nat.le_of_ble_eq_true rfl) hRs)⟩) hS (fun q _ h => hFc q h) hFc (fun r_132 M_133 t H_131 locs ht hvm hw hB hz1 hk1 hS => ?_)
                have hp_134 := hw
                obtain ⟨hP1, hK1, hD1⟩ := hB
                rw [ht] at hP1
                obtain ⟨hP, hD⟩ := va_joinQ (X := [(za, .inr (13, [.int 0, .ref z1, .int (nI z2), .int (nI z3), .int z4, .int z5, .ref z6, .ref z7, .ref z8, .ref z9, .int (nI z10), .ref z11, .ref z12, .ref z13, .ref z14, .ref z15, .int (nI z16), .ref z17, .int z18, .ref z19]))]) (cx := [(za, .inr (13, [.int 0, .ref z1, .int (nI z2), .int (nI z3), .int z4, .int z5, .ref z6, .ref z7, .ref z8, .ref z9, .int (nI z10), .ref z11, .ref z12, .ref z13, .ref z14, .ref z15, .int (nI z16), .ref z17, .int z18, .ref z19]))]) (wr := []) (w1 := [(za, .inr (13, [.int 0, .ref z1, .int (nI z2), .int (nI z3), .int 9, .int (-1), .ref z6, .ref z7, .ref z8, .ref z9, .int (nI z10), .ref z11, .ref z12, .ref z13, .ref z14, .ref z15, .int (nI z16), .ref z17, .int z18, .ref z19]))]) (pl := va_pl L M) hP hD [0] [] rfl rfl (by decide) (by decide) hk1 hFc hP1 hD1
                have hP : va_P D vwCl ([(za, .inr (13, [.int 0, .ref z1, .int (nI z2), .int (nI z3), .int 9, .int (-1), .ref z6, .ref z7, .ref z8, .ref z9, .int (nI z10), .ref z11, .ref z12, .ref z13, .ref z14, .ref z15, .int (nI z16), .ref z17, .int z18, .ref z19]))] ++ va_pl L M) H_131 := hP
                have hD : va_D A ([(za, .inr (13, [.int 0, .ref z1, .int (nI z2), .int (nI z3), .int 9, .int (-1), .ref z6, .ref z7, .ref z8, .ref z9, .int (nI z10), .ref z11, .ref z12, .ref z13, .ref z14, .ref z15, .int (nI z16), .ref z17, .int z18, .ref z19]))] ++ va_pl L M) := hD
                have hq := Eq.symm hp_134
                subst hq
                rw [hQ]
                exact W.iret (v := (-1)) hx hb hr (fun t ht hW9 => ⟨⟨(-1), M, rfl, ⟨hW, hF, hR5, trivial⟩, ⟨z3, 9, (-1), (by omega), by rw [ht]; exact hP, hD⟩⟩, hS.F ht⟩) hS.2.2 dX13_partner_89
            · have hz := rfl (a := 0)
              refine lv_aload_n hx hb dX13_partner_60 rfl (lv_at hl 1 rfl) ?_
              refine lv_iload_n hx hb dX13_partner_61 rfl (lv_at hl 3 rfl) ?_
              have hPc : va_P D vwCl ([(za, .inr (13, [.int 0, .ref z1, .int (nI z2), .int (nI z3), .int z4, .int z5, .ref z6, .ref z7, .ref z8, .ref z9, .int (nI z10), .ref z11, .ref z12, .ref z13, .ref z14, .ref z15, .int (nI z16), .ref z17, .int z18, .ref z19]))] ++ va_pl L M) H_1 := hP
              have hDc : va_D A ([(za, .inr (13, [.int 0, .ref z1, .int (nI z2), .int (nI z3), .int z4, .int z5, .ref z6, .ref z7, .ref z8, .ref z9, .int (nI z10), .ref z11, .ref z12, .ref z13, .ref z14, .ref z15, .int (nI z16), .ref z17, .int z18, .ref z19]))] ++ va_pl L M) := hD
              have hFc : ∀ q, va_A ([(za, .inr (13, [.int 0, .ref z1, .int (nI z2), .int (nI z3), .int z4, .int z5, .ref z6, .ref z7, .ref z8, .ref z9, .int (nI z10), .ref z11, .ref z12, .ref z13, .ref z14, .ref z15, .int (nI z16), .ref z17, .int z18, .ref z19]))] ++ va_pl L M) H_1.size q → A q := pg_free hDc hS hA
              refine va_calli (va_runV (As := [.int k2]) (rest := []) ⟨hx, hb, hml, hown, hg⟩ (r_X13_isHouse l D cy K L M H_1.size za 0 z1 z2 z3 z4 z5 z6 z7 z8 z9 z10 z11 z12 z13 z14 z15 z16 z17 z18 z19 k2  hW i1 b2 b3 i6 i7 i8 i9 b10 i11 i12 i13 i14 i15 b16 i17 i19) (cwV 1 hg (gV wd_714 wd_715 wd_716 wd_717 wd_718) rfl rfl rfl (by decide +kernel) ⟨(Nat.le_trans (Nat.le_of_ble_eq_true rfl) hRf), (Nat.le_trans (Nat.le_of_ble_eq_true rfl) hRl)⟩) ⟨PG.blind, va_recv hK hP (ci := 13) (q0 := 0) rfl rfl, fun U hU hW => ⟨rfl, PG.at hPc hK hDc hN hU hW⟩⟩ rfl rfl hl.1 rfl (lv_room (Nat.le_of_ble_eq_true rfl)) dX13_partner_62 ⟨(Nat.le_trans (Nat.le_of_ble_eq_true rfl) hRc), (Nat.le_trans (Nat.le_of_ble_eq_true rfl) hRs)⟩) hS (fun q _ h => hFc q h) hFc (fun r_136 M_137 t H_135 locs ht hvm hw hB hz1 hk1 hS => ?_)
              have hp_138 := hw
              obtain ⟨hP1, hD1⟩ := hB
              rw [ht] at hP1
              have hP : va_P D vwCl ([(za, .inr (13, [.int 0, .ref z1, .int (nI z2), .int (nI z3), .int z4, .int z5, .ref z6, .ref z7, .ref z8, .ref z9, .int (nI z10), .ref z11, .ref z12, .ref z13, .ref z14, .ref z15, .int (nI z16), .ref z17, .int z18, .ref z19]))] ++ va_pl L M) H_135 := hP1
              have hD : va_D A ([(za, .inr (13, [.int 0, .ref z1, .int (nI z2), .int (nI z3), .int z4, .int z5, .ref z6, .ref z7, .ref z8, .ref z9, .int (nI z10), .ref z11, .ref z12, .ref z13, .ref z14, .ref z15, .int (nI z16), .ref z17, .int z18, .ref z19]))] ++ va_pl L M) := hD1.mono hFc
              rcases hp_138 with ⟨rfl, c_139, c_140⟩ | rfl
              · have hz := rfl (a := 0)
                refine lv_if_ne (tgt := 74) hx hb dX13_partner_65 (by decide) (fun _ => ?_) (fun c_141 => absurd c_141 (by decide))
                refine lv_aload_n hx hb dX13_partner_74 rfl (lv_at hl 1 rfl) ?_
                refine va_get (D := D) (ci := 13) (v := .int (nI z3)) (C := RX13) (T := TX13) (N := 20) hx hb hg inG13 hown hK hP 0 rfl rfl 3 (by decide) (hg _ wd_831) (fun _ h9 => h9) rfl dX13_partner_75 ?_
                refine lv_bipush (v := 40) hx hb dX13_partner_78 (by decide) ?_
                refine lv_icmp_ne (tgt := 90) hx hb dX13_partner_80 (by decide) (fun c_142 => ?_) (fun c_142 => ?_)
                · have hz := rfl (a := 0)
                  have n_143 : ¬ (z3 = 40) := fun q => c_142 ((iEQ (a := z3) (b := 40) (by omega) (by omega)).mpr q)
                  obtain ⟨f144, hM144, hf144⟩ := hW.open_47 i6
                  obtain ⟨f145, hM145⟩ := hW.open_48 i7
                  have he6 := hM144
                  have he7 := hM145
                  refine lv_aload_n hx hb dX13_partner_90 rfl (lv_at hl 1 rfl) ?_
                  refine va_get (D := D) (ci := 13) (v := .ref z6) (C := RX13) (T := TX13) (N := 20) hx hb hg inG13 hown hK hP 0 rfl rfl 6 (by decide) (hg _ wd_719) (fun _ h9 => h9) rfl dX13_partner_91 ?_
                  refine lv_aload_n hx hb dX13_partner_94 rfl (lv_at hl 1 rfl) ?_
                  refine va_get (D := D) (ci := 13) (v := .int (nI z3)) (C := RX13) (T := TX13) (N := 20) hx hb hg inG13 hown hK hP 0 rfl rfl 3 (by decide) (hg _ wd_831) (fun _ h9 => h9) rfl dX13_partner_95 ?_
                  refine lv_iload_n hx hb dX13_partner_98 rfl (lv_at hl 2 rfl) ?_
                  obtain ⟨j_146, hj_147, rfl⟩ := i32nat 6 (by decide) c_93 (leB (b := 6) (c := 5) (by decide) (by decide) (Int32.not_lt.mp c_98))
                  refine pg_iast hx hb hK hP hD hS i6.1 0 hM144 rfl (inbN z3 40 (by omega) (by omega)) dX13_partner_99 (fun H_148 locs hP hD hS => ?_)
                  obtain ⟨M_149, eM_149⟩ : ∃ M1 : Hp, M1 = va_up M z6 (.inl (cy 14, 40, .inl (upd f144 ((nI z3) : Int32).toNatClampNeg (nI j_146)))) := ⟨_, rfl⟩
                  have hP : va_P D vwCl ([(za, .inr (13, [.int 0, .ref z1, .int (nI z2), .int (nI z3), .int z4, .int z5, .ref z6, .ref z7, .ref z8, .ref z9, .int (nI z10), .ref z11, .ref z12, .ref z13, .ref z14, .ref z15, .int (nI z16), .ref z17, .int z18, .ref z19]))] ++ va_pl L M_149) H_148 := by rw [eM_149]; exact hP
                  have hD : va_D A ([(za, .inr (13, [.int 0, .ref z1, .int (nI z2), .int (nI z3), .int z4, .int z5, .ref z6, .ref z7, .ref z8, .ref z9, .int (nI z10), .ref z11, .ref z12, .ref z13, .ref z14, .ref z15, .int (nI z16), .ref z17, .int z18, .ref z19]))] ++ va_pl L M_149) := by rw [eM_149]; exact hD
                  have hW : WOM cy K L M_149 := by rw [eM_149]; exact hW.up_47 i6 ⟨_, rfl, (updP (P := fun z => ∃ c : Nat, c < 6 ∧ z = nI c) hf144 ⟨j_146, by omega, rfl⟩)⟩
                  have hF : fr K L [47, 48] M M_149 := by rw [eM_149]; exact hF.up i6 (by decide)
                  have hM_150 : M_149 z6 = .inl (cy 14, 40, .inl (upd f144 ((nI z3) : Int32).toNatClampNeg (nI j_146))) := by rw [eM_149]; exact va_up_self _ _ _
                  have hM_151 : M_149 z7 = .inl (cy 14, 40, .inl (f145)) := by rw [eM_149, va_up_ne _ _ (i7.neT i6 (by decide))]; exact hM145
                  have hf_153 : ∀ j, j < 40 → ∃ c : Nat, c < 6 ∧ (upd f144 ((nI z3) : Int32).toNatClampNeg (nI j_146)) j = nI c := (updP (P := fun z => ∃ c : Nat, c < 6 ∧ z = nI c) hf144 ⟨j_146, by omega, rfl⟩)
                  obtain ⟨f_152, ef_152⟩ : ∃ f : Nat → Int32, f = upd f144 ((nI z3) : Int32).toNatClampNeg (nI j_146) := ⟨_, rfl⟩
                  rw [← ef_152] at hM_150 hf_153
                  refine lv_aload_n hx hb dX13_partner_100 rfl (lv_at hl 1 rfl) ?_
                  refine va_get (D := D) (ci := 13) (v := .ref z7) (C := RX13) (T := TX13) (N := 20) hx hb hg inG13 hown hK hP 0 rfl rfl 7 (by decide) (hg _ wd_760) (fun _ h9 => h9) rfl dX13_partner_101 ?_
                  refine lv_aload_n hx hb dX13_partner_104 rfl (lv_at hl 1 rfl) ?_
                  refine va_get (D := D) (ci := 13) (v := .int (nI z3)) (C := RX13) (T := TX13) (N := 20) hx hb hg inG13 hown hK hP 0 rfl rfl 3 (by decide) (hg _ wd_831) (fun _ h9 => h9) rfl dX13_partner_105 ?_
                  refine lv_iload_n hx hb dX13_partner_108 rfl (lv_at hl 3 rfl) ?_
                  refine pg_iast hx hb hK hP hD hS i7.1 0 hM_151 rfl (inbN z3 40 (by omega) (by omega)) dX13_partner_109 (fun H_154 locs hP hD hS => ?_)
                  obtain ⟨M_155, eM_155⟩ : ∃ M1 : Hp, M1 = va_up M_149 z7 (.inl (cy 14, 40, .inl (upd f145 ((nI z3) : Int32).toNatClampNeg k2))) := ⟨_, rfl⟩
                  have hP : va_P D vwCl ([(za, .inr (13, [.int 0, .ref z1, .int (nI z2), .int (nI z3), .int z4, .int z5, .ref z6, .ref z7, .ref z8, .ref z9, .int (nI z10), .ref z11, .ref z12, .ref z13, .ref z14, .ref z15, .int (nI z16), .ref z17, .int z18, .ref z19]))] ++ va_pl L M_155) H_154 := by rw [eM_155]; exact hP
                  have hD : va_D A ([(za, .inr (13, [.int 0, .ref z1, .int (nI z2), .int (nI z3), .int z4, .int z5, .ref z6, .ref z7, .ref z8, .ref z9, .int (nI z10), .ref z11, .ref z12, .ref z13, .ref z14, .ref z15, .int (nI z16), .ref z17, .int z18, .ref z19]))] ++ va_pl L M_155) := by rw [eM_155]; exact hD
                  have hW : WOM cy K L M_155 := by rw [eM_155]; exact hW.up_48 i7 ⟨_, rfl⟩
                  have hF : fr K L [47, 48] M M_155 := by rw [eM_155]; exact hF.up i7 (by decide)
                  have hM_156 : M_155 z7 = .inl (cy 14, 40, .inl (upd f145 ((nI z3) : Int32).toNatClampNeg k2)) := by rw [eM_155]; exact va_up_self _ _ _
                  have hM_157 : M_155 z6 = .inl (cy 14, 40, .inl (f_152)) := by rw [eM_155, va_up_ne _ _ (i6.neT i7 (by decide))]; exact hM_150
                  obtain ⟨f_158, ef_158⟩ : ∃ f : Nat → Int32, f = upd f145 ((nI z3) : Int32).toNatClampNeg k2 := ⟨_, rfl⟩
                  rw [← ef_158] at hM_156
                  refine lv_aload_n hx hb dX13_partner_110 rfl (lv_at hl 1 rfl) ?_
                  refine lv_dup hx hb dX13_partner_111 rfl ?_
                  refine va_get (D := D) (ci := 13) (v := .int (nI z3)) (C := RX13) (T := TX13) (N := 20) hx hb hg inG13 hown hK hP 0 rfl rfl 3 (by decide) (hg _ wd_831) (fun _ h9 => h9) rfl dX13_partner_112 ?_
                  refine lv_iconst (v := 1) hx hb dX13_partner_115 (by decide) ?_
                  refine lv_iadd hx hb dX13_partner_116 ?_
                  refine lv_topi (fun f_159 ef_159 => ?_)
                  obtain rfl : f_159 = (nI (z3 + 1)) := ef_159.trans (nI_add z3 1)
                  refine va_put (D := D) (ci := 13) (v := .int (nI (z3 + 1))) (ty := .int) (C := RX13) (T := TX13) (N := 20) hx hb hg inG13 tyX13 tyX13_ok nmX13 hown hK hP hD hS 0 rfl rfl 3 (by decide) (hg _ wd_831) (fun _ h9 => h9) rfl (by decide +kernel) rfl rfl (Nat.le_of_ble_eq_true rfl) dX13_partner_117 (fun H_160 locs hP hD hS => ?_)
                  have hP : va_P D vwCl ([(za, .inr (13, [.int 0, .ref z1, .int (nI z2), .int (nI (z3 + 1)), .int z4, .int z5, .ref z6, .ref z7, .ref z8, .ref z9, .int (nI z10), .ref z11, .ref z12, .ref z13, .ref z14, .ref z15, .int (nI z16), .ref z17, .int z18, .ref z19]))] ++ va_pl L M_155) H_160 := hP
                  have hD : va_D A ([(za, .inr (13, [.int 0, .ref z1, .int (nI z2), .int (nI (z3 + 1)), .int z4, .int z5, .ref z6, .ref z7, .ref z8, .ref z9, .int (nI z10), .ref z11, .ref z12, .ref z13, .ref z14, .ref z15, .int (nI z16), .ref z17, .int z18, .ref z19]))] ++ va_pl L M_155) := hD
                  refine lv_aload_n hx hb dX13_partner_120 rfl (lv_at hl 1 rfl) ?_
                  refine lv_aload_n hx hb dX13_partner_121 rfl (lv_at hl 1 rfl) ?_
                  refine va_get (D := D) (ci := 13) (v := .int (nI (z3 + 1))) (C := RX13) (T := TX13) (N := 20) hx hb hg inG13 hown hK hP 0 rfl rfl 3 (by decide) (hg _ wd_831) (fun _ h9 => h9) rfl dX13_partner_122 ?_
                  refine lv_iconst (v := 1) hx hb dX13_partner_125 (by decide) ?_
                  refine lv_isub hx hb dX13_partner_126 ?_
                  refine lv_topi (fun f_161 ef_161 => ?_)
                  obtain rfl : f_161 = (nI ((z3 + 1) - 1)) := ef_161.trans (nI_prd (by omega))
                  have hPc := hP.sub (ws' := [(za, .inr (13, [.int 0, .ref z1, .int (nI z2), .int (nI (z3 + 1)), .int z4, .int z5, .ref z6, .ref z7, .ref z8, .ref z9, .int (nI z10), .ref z11, .ref z12, .ref z13, .ref z14, .ref z15, .int (nI z16), .ref z17, .int z18, .ref z19]))]) [0] rfl
                  have hDc := hD.sub (ws' := [(za, .inr (13, [.int 0, .ref z1, .int (nI z2), .int (nI (z3 + 1)), .int z4, .int z5, .ref z6, .ref z7, .ref z8, .ref z9, .int (nI z10), .ref z11, .ref z12, .ref z13, .ref z14, .ref z15, .int (nI z16), .ref z17, .int z18, .ref z19]))]) [0] (by decide) rfl
                  have hKc := hK.sub (tys' := []) [] rfl
                  have hFc := va_free (wc := [(za, .inr (13, [.int 0, .ref z1, .int (nI z2), .int (nI (z3 + 1)), .int z4, .int z5, .ref z6, .ref z7, .ref z8, .ref z9, .int (nI z10), .ref z11, .ref z12, .ref z13, .ref z14, .ref z15, .int (nI z16), .ref z17, .int z18, .ref z19]))]) hD hS hA [0] rfl
                  refine va_calli (va_runV (As := [.int (nI ((z3 + 1) - 1))]) (rest := []) ⟨hx, hb, hml, hown, hg⟩ (m_done l D H_160.size za 0 z1 (nI z2) (nI (z3 + 1)) z4 z5 z6 z7 z8 z9 (nI z10) z11 z12 z13 z14 z15 (nI z16) z17 z18 z19 (nI ((z3 + 1) - 1))) (cwV 1 hg (gV wd_730 wd_731 wd_732 wd_717 wd_733) rfl rfl rfl (by decide +kernel) ⟨(Nat.le_trans (Nat.le_of_ble_eq_true rfl) hRf), (Nat.le_trans (Nat.le_of_ble_eq_true rfl) hRl)⟩) ⟨Pr.blind, va_recv hK hP (ci := 13) (q0 := 0) rfl rfl, fun U hU hW => ⟨rfl, Pr.at hPc hKc hDc hN hU hW⟩⟩ rfl rfl hl.1 rfl (lv_room (Nat.le_of_ble_eq_true rfl)) dX13_partner_127 ⟨(Nat.le_trans (Nat.le_of_ble_eq_true rfl) hRc), (Nat.le_trans (Nat.le_of_ble_eq_true rfl) hRs)⟩) hS (fun q _ h => hFc q h) hFc (fun r_163 M_164 t H_162 locs ht hvm hw hB hz1 hk1 hS => ?_)
                  have hp_165 := hw
                  obtain ⟨hP1, hK1, hD1⟩ := hB
                  rw [ht] at hP1
                  obtain ⟨hP, hD⟩ := va_joinQ (X := [(za, .inr (13, [.int 0, .ref z1, .int (nI z2), .int (nI (z3 + 1)), .int z4, .int z5, .ref z6, .ref z7, .ref z8, .ref z9, .int (nI z10), .ref z11, .ref z12, .ref z13, .ref z14, .ref z15, .int (nI z16), .ref z17, .int z18, .ref z19]))]) (cx := [(za, .inr (13, [.int 0, .ref z1, .int (nI z2), .int (nI (z3 + 1)), .int z4, .int z5, .ref z6, .ref z7, .ref z8, .ref z9, .int (nI z10), .ref z11, .ref z12, .ref z13, .ref z14, .ref z15, .int (nI z16), .ref z17, .int z18, .ref z19]))]) (wr := []) (w1 := [(za, .inr (13, [.int 0, .ref z1, .int (nI z2), .int (nI (z3 + 1)), .int 0, .int (-1), .ref z6, .ref z7, .ref z8, .ref z9, .int (nI z10), .ref z11, .ref z12, .ref z13, .ref z14, .ref z15, .int (nI z16), .ref z17, .int z18, .ref z19]))]) (pl := va_pl L M_155) hP hD [0] [] rfl rfl (by decide) (by decide) hk1 hFc hP1 hD1
                  have hP : va_P D vwCl ([(za, .inr (13, [.int 0, .ref z1, .int (nI z2), .int (nI (z3 + 1)), .int 0, .int (-1), .ref z6, .ref z7, .ref z8, .ref z9, .int (nI z10), .ref z11, .ref z12, .ref z13, .ref z14, .ref z15, .int (nI z16), .ref z17, .int z18, .ref z19]))] ++ va_pl L M_155) H_162 := hP
                  have hD : va_D A ([(za, .inr (13, [.int 0, .ref z1, .int (nI z2), .int (nI (z3 + 1)), .int 0, .int (-1), .ref z6, .ref z7, .ref z8, .ref z9, .int (nI z10), .ref z11, .ref z12, .ref z13, .ref z14, .ref z15, .int (nI z16), .ref z17, .int z18, .ref z19]))] ++ va_pl L M_155) := hD
                  have hq := Eq.symm hp_165
                  subst hq
                  have hR9 : R5 z6 z7 M_155 := R5.put hR5 he6 he7 (by rw [hM_157, ef_152]) (by rw [hM_156, ef_158]) (fun _ => i8n b2 c_139 c_140)
                  rw [hQ]
                  exact W.iret (v := (nI ((z3 + 1) - 1))) hx hb hr (fun t ht hW9 => ⟨⟨(nI ((z3 + 1) - 1)), M_155, rfl, ⟨hW, hF, hR9, trivial⟩, ⟨(z3 + 1), 0, (-1), (by omega), by rw [ht]; exact hP, hD⟩⟩, hS.F ht⟩) hS.2.2 dX13_partner_130
                · have hz := rfl (a := 0)
                  have n_166 : z3 = 40 := (iEQ (a := z3) (b := 40) (by omega) (by omega)).mp c_142
                  refine lv_aload_n hx hb dX13_partner_83 rfl (lv_at hl 1 rfl) ?_
                  refine lv_bipush (v := 9) hx hb dX13_partner_84 (by decide) ?_
                  have hPc := hP.sub (ws' := [(za, .inr (13, [.int 0, .ref z1, .int (nI z2), .int (nI z3), .int z4, .int z5, .ref z6, .ref z7, .ref z8, .ref z9, .int (nI z10), .ref z11, .ref z12, .ref z13, .ref z14, .ref z15, .int (nI z16), .ref z17, .int z18, .ref z19]))]) [0] rfl
                  have hDc := hD.sub (ws' := [(za, .inr (13, [.int 0, .ref z1, .int (nI z2), .int (nI z3), .int z4, .int z5, .ref z6, .ref z7, .ref z8, .ref z9, .int (nI z10), .ref z11, .ref z12, .ref z13, .ref z14, .ref z15, .int (nI z16), .ref z17, .int z18, .ref z19]))]) [0] (by decide) rfl
                  have hKc := hK.sub (tys' := []) [] rfl
                  have hFc := va_free (wc := [(za, .inr (13, [.int 0, .ref z1, .int (nI z2), .int (nI z3), .int z4, .int z5, .ref z6, .ref z7, .ref z8, .ref z9, .int (nI z10), .ref z11, .ref z12, .ref z13, .ref z14, .ref z15, .int (nI z16), .ref z17, .int z18, .ref z19]))]) hD hS hA [0] rfl
                  refine va_calli (va_runV (As := [.int 9]) (rest := []) ⟨hx, hb, hml, hown, hg⟩ (m_refused l D H_135.size za 0 z1 (nI z2) (nI z3) z4 z5 z6 z7 z8 z9 (nI z10) z11 z12 z13 z14 z15 (nI z16) z17 z18 z19 9) (cwV 1 hg (gV wd_725 wd_726 wd_727 wd_717 wd_728) rfl rfl rfl (by decide +kernel) ⟨(Nat.le_trans (Nat.le_of_ble_eq_true rfl) hRf), (Nat.le_trans (Nat.le_of_ble_eq_true rfl) hRl)⟩) ⟨Pr.blind, va_recv hK hP (ci := 13) (q0 := 0) rfl rfl, fun U hU hW => ⟨rfl, Pr.at hPc hKc hDc hN hU hW⟩⟩ rfl rfl hl.1 rfl (lv_room (Nat.le_of_ble_eq_true rfl)) dX13_partner_86 ⟨(Nat.le_trans (Nat.le_of_ble_eq_true rfl) hRc), (Nat.le_trans (Nat.le_of_ble_eq_true rfl) hRs)⟩) hS (fun q _ h => hFc q h) hFc (fun r_168 M_169 t H_167 locs ht hvm hw hB hz1 hk1 hS => ?_)
                  have hp_170 := hw
                  obtain ⟨hP1, hK1, hD1⟩ := hB
                  rw [ht] at hP1
                  obtain ⟨hP, hD⟩ := va_joinQ (X := [(za, .inr (13, [.int 0, .ref z1, .int (nI z2), .int (nI z3), .int z4, .int z5, .ref z6, .ref z7, .ref z8, .ref z9, .int (nI z10), .ref z11, .ref z12, .ref z13, .ref z14, .ref z15, .int (nI z16), .ref z17, .int z18, .ref z19]))]) (cx := [(za, .inr (13, [.int 0, .ref z1, .int (nI z2), .int (nI z3), .int z4, .int z5, .ref z6, .ref z7, .ref z8, .ref z9, .int (nI z10), .ref z11, .ref z12, .ref z13, .ref z14, .ref z15, .int (nI z16), .ref z17, .int z18, .ref z19]))]) (wr := []) (w1 := [(za, .inr (13, [.int 0, .ref z1, .int (nI z2), .int (nI z3), .int 9, .int (-1), .ref z6, .ref z7, .ref z8, .ref z9, .int (nI z10), .ref z11, .ref z12, .ref z13, .ref z14, .ref z15, .int (nI z16), .ref z17, .int z18, .ref z19]))]) (pl := va_pl L M) hP hD [0] [] rfl rfl (by decide) (by decide) hk1 hFc hP1 hD1
                  have hP : va_P D vwCl ([(za, .inr (13, [.int 0, .ref z1, .int (nI z2), .int (nI z3), .int 9, .int (-1), .ref z6, .ref z7, .ref z8, .ref z9, .int (nI z10), .ref z11, .ref z12, .ref z13, .ref z14, .ref z15, .int (nI z16), .ref z17, .int z18, .ref z19]))] ++ va_pl L M) H_167 := hP
                  have hD : va_D A ([(za, .inr (13, [.int 0, .ref z1, .int (nI z2), .int (nI z3), .int 9, .int (-1), .ref z6, .ref z7, .ref z8, .ref z9, .int (nI z10), .ref z11, .ref z12, .ref z13, .ref z14, .ref z15, .int (nI z16), .ref z17, .int z18, .ref z19]))] ++ va_pl L M) := hD
                  have hq := Eq.symm hp_170
                  subst hq
                  rw [hQ]
                  exact W.iret (v := (-1)) hx hb hr (fun t ht hW9 => ⟨⟨(-1), M, rfl, ⟨hW, hF, hR5, trivial⟩, ⟨z3, 9, (-1), (by omega), by rw [ht]; exact hP, hD⟩⟩, hS.F ht⟩) hS.2.2 dX13_partner_89
              · have hz := rfl (a := 0)
                refine lv_if_ne (tgt := 74) hx hb dX13_partner_65 (by decide) (fun c_171 => absurd c_171 (by decide)) (fun _ => ?_)
                refine lv_aload_n hx hb dX13_partner_68 rfl (lv_at hl 1 rfl) ?_
                refine lv_iconst (v := 1) hx hb dX13_partner_69 (by decide) ?_
                have hPc := hP.sub (ws' := [(za, .inr (13, [.int 0, .ref z1, .int (nI z2), .int (nI z3), .int z4, .int z5, .ref z6, .ref z7, .ref z8, .ref z9, .int (nI z10), .ref z11, .ref z12, .ref z13, .ref z14, .ref z15, .int (nI z16), .ref z17, .int z18, .ref z19]))]) [0] rfl
                have hDc := hD.sub (ws' := [(za, .inr (13, [.int 0, .ref z1, .int (nI z2), .int (nI z3), .int z4, .int z5, .ref z6, .ref z7, .ref z8, .ref z9, .int (nI z10), .ref z11, .ref z12, .ref z13, .ref z14, .ref z15, .int (nI z16), .ref z17, .int z18, .ref z19]))]) [0] (by decide) rfl
                have hKc := hK.sub (tys' := []) [] rfl
                have hFc := va_free (wc := [(za, .inr (13, [.int 0, .ref z1, .int (nI z2), .int (nI z3), .int z4, .int z5, .ref z6, .ref z7, .ref z8, .ref z9, .int (nI z10), .ref z11, .ref z12, .ref z13, .ref z14, .ref z15, .int (nI z16), .ref z17, .int z18, .ref z19]))]) hD hS hA [0] rfl
                refine va_calli (va_runV (As := [.int 1]) (rest := []) ⟨hx, hb, hml, hown, hg⟩ (m_refused l D H_135.size za 0 z1 (nI z2) (nI z3) z4 z5 z6 z7 z8 z9 (nI z10) z11 z12 z13 z14 z15 (nI z16) z17 z18 z19 1) (cwV 1 hg (gV wd_725 wd_726 wd_727 wd_717 wd_728) rfl rfl rfl (by decide +kernel) ⟨(Nat.le_trans (Nat.le_of_ble_eq_true rfl) hRf), (Nat.le_trans (Nat.le_of_ble_eq_true rfl) hRl)⟩) ⟨Pr.blind, va_recv hK hP (ci := 13) (q0 := 0) rfl rfl, fun U hU hW => ⟨rfl, Pr.at hPc hKc hDc hN hU hW⟩⟩ rfl rfl hl.1 rfl (lv_room (Nat.le_of_ble_eq_true rfl)) dX13_partner_70 ⟨(Nat.le_trans (Nat.le_of_ble_eq_true rfl) hRc), (Nat.le_trans (Nat.le_of_ble_eq_true rfl) hRs)⟩) hS (fun q _ h => hFc q h) hFc (fun r_173 M_174 t H_172 locs ht hvm hw hB hz1 hk1 hS => ?_)
                have hp_175 := hw
                obtain ⟨hP1, hK1, hD1⟩ := hB
                rw [ht] at hP1
                obtain ⟨hP, hD⟩ := va_joinQ (X := [(za, .inr (13, [.int 0, .ref z1, .int (nI z2), .int (nI z3), .int z4, .int z5, .ref z6, .ref z7, .ref z8, .ref z9, .int (nI z10), .ref z11, .ref z12, .ref z13, .ref z14, .ref z15, .int (nI z16), .ref z17, .int z18, .ref z19]))]) (cx := [(za, .inr (13, [.int 0, .ref z1, .int (nI z2), .int (nI z3), .int z4, .int z5, .ref z6, .ref z7, .ref z8, .ref z9, .int (nI z10), .ref z11, .ref z12, .ref z13, .ref z14, .ref z15, .int (nI z16), .ref z17, .int z18, .ref z19]))]) (wr := []) (w1 := [(za, .inr (13, [.int 0, .ref z1, .int (nI z2), .int (nI z3), .int 1, .int (-1), .ref z6, .ref z7, .ref z8, .ref z9, .int (nI z10), .ref z11, .ref z12, .ref z13, .ref z14, .ref z15, .int (nI z16), .ref z17, .int z18, .ref z19]))]) (pl := va_pl L M) hP hD [0] [] rfl rfl (by decide) (by decide) hk1 hFc hP1 hD1
                have hP : va_P D vwCl ([(za, .inr (13, [.int 0, .ref z1, .int (nI z2), .int (nI z3), .int 1, .int (-1), .ref z6, .ref z7, .ref z8, .ref z9, .int (nI z10), .ref z11, .ref z12, .ref z13, .ref z14, .ref z15, .int (nI z16), .ref z17, .int z18, .ref z19]))] ++ va_pl L M) H_172 := hP
                have hD : va_D A ([(za, .inr (13, [.int 0, .ref z1, .int (nI z2), .int (nI z3), .int 1, .int (-1), .ref z6, .ref z7, .ref z8, .ref z9, .int (nI z10), .ref z11, .ref z12, .ref z13, .ref z14, .ref z15, .int (nI z16), .ref z17, .int z18, .ref z19]))] ++ va_pl L M) := hD
                have hq := Eq.symm hp_175
                subst hq
                rw [hQ]
                exact W.iret (v := (-1)) hx hb hr (fun t ht hW9 => ⟨⟨(-1), M, rfl, ⟨hW, hF, hR5, trivial⟩, ⟨z3, 1, (-1), (by omega), by rw [ht]; exact hP, hD⟩⟩, hS.F ht⟩) hS.2.2 dX13_partner_73
      · have hz := rfl (a := 0)
        refine lv_iconst (v := 1) hx hb dX13_partner_20 (by decide) ?_
        refine lv_goto (tgt := 25) hx hb dX13_partner_21 (by decide) ?_
        refine lv_istore_n (lv' := [(3, .int 1), (0, .ref za), (1, .int k1), (2, .int k2)]) hx hb dX13_partner_25 rfl hl (by decide) rfl (fun ls hl => ?_)
        refine lv_iload_n hx hb dX13_partner_26 rfl (lv_at hl 2 rfl) ?_
        refine lv_if_lt (tgt := 49) hx hb dX13_partner_27 (by decide) (fun c_176 => absurd c_176 (by rw [c_92]; decide)) (fun c_176 => ?_)
        refine lv_iload_n hx hb dX13_partner_30 rfl (lv_at hl 2 rfl) ?_
        refine lv_iconst (v := 5) hx hb dX13_partner_31 (by decide) ?_
        refine lv_icmp_gt (tgt := 49) hx hb dX13_partner_32 (by decide) (fun c_177 => absurd c_177 (by rw [c_92]; decide)) (fun c_177 => ?_)
        refine lv_iload_n hx hb dX13_partner_35 rfl (lv_at hl 0 rfl) ?_
        refine lv_if_eq (tgt := 55) hx hb dX13_partner_36 (by decide) (fun c_178 => absurd c_178 (by decide)) (fun _ => ?_)
        refine lv_iload_n hx hb dX13_partner_39 rfl (lv_at hl 3 rfl) ?_
        refine lv_if_lt (tgt := 49) hx hb dX13_partner_40 (by decide) (fun c_179 => ?_) (fun c_179 => ?_)
        · have hz := rfl (a := 0)
          refine lv_aload_n hx hb dX13_partner_49 rfl (lv_at hl 1 rfl) ?_
          refine lv_iconst (v := 2) hx hb dX13_partner_50 (by decide) ?_
          have hPc := hP.sub (ws' := [(za, .inr (13, [.int 0, .ref z1, .int (nI z2), .int (nI z3), .int z4, .int z5, .ref z6, .ref z7, .ref z8, .ref z9, .int (nI z10), .ref z11, .ref z12, .ref z13, .ref z14, .ref z15, .int (nI z16), .ref z17, .int z18, .ref z19]))]) [0] rfl
          have hDc := hD.sub (ws' := [(za, .inr (13, [.int 0, .ref z1, .int (nI z2), .int (nI z3), .int z4, .int z5, .ref z6, .ref z7, .ref z8, .ref z9, .int (nI z10), .ref z11, .ref z12, .ref z13, .ref z14, .ref z15, .int (nI z16), .ref z17, .int z18, .ref z19]))]) [0] (by decide) rfl
          have hKc := hK.sub (tys' := []) [] rfl
          have hFc := va_free (wc := [(za, .inr (13, [.int 0, .ref z1, .int (nI z2), .int (nI z3), .int z4, .int z5, .ref z6, .ref z7, .ref z8, .ref z9, .int (nI z10), .ref z11, .ref z12, .ref z13, .ref z14, .ref z15, .int (nI z16), .ref z17, .int z18, .ref z19]))]) hD hS hA [0] rfl
          refine va_calli (va_runV (As := [.int 2]) (rest := []) ⟨hx, hb, hml, hown, hg⟩ (m_refused l D H_1.size za 0 z1 (nI z2) (nI z3) z4 z5 z6 z7 z8 z9 (nI z10) z11 z12 z13 z14 z15 (nI z16) z17 z18 z19 2) (cwV 1 hg (gV wd_725 wd_726 wd_727 wd_717 wd_728) rfl rfl rfl (by decide +kernel) ⟨(Nat.le_trans (Nat.le_of_ble_eq_true rfl) hRf), (Nat.le_trans (Nat.le_of_ble_eq_true rfl) hRl)⟩) ⟨Pr.blind, va_recv hK hP (ci := 13) (q0 := 0) rfl rfl, fun U hU hW => ⟨rfl, Pr.at hPc hKc hDc hN hU hW⟩⟩ rfl rfl hl.1 rfl (lv_room (Nat.le_of_ble_eq_true rfl)) dX13_partner_51 ⟨(Nat.le_trans (Nat.le_of_ble_eq_true rfl) hRc), (Nat.le_trans (Nat.le_of_ble_eq_true rfl) hRs)⟩) hS (fun q _ h => hFc q h) hFc (fun r_181 M_182 t H_180 locs ht hvm hw hB hz1 hk1 hS => ?_)
          have hp_183 := hw
          obtain ⟨hP1, hK1, hD1⟩ := hB
          rw [ht] at hP1
          obtain ⟨hP, hD⟩ := va_joinQ (X := [(za, .inr (13, [.int 0, .ref z1, .int (nI z2), .int (nI z3), .int z4, .int z5, .ref z6, .ref z7, .ref z8, .ref z9, .int (nI z10), .ref z11, .ref z12, .ref z13, .ref z14, .ref z15, .int (nI z16), .ref z17, .int z18, .ref z19]))]) (cx := [(za, .inr (13, [.int 0, .ref z1, .int (nI z2), .int (nI z3), .int z4, .int z5, .ref z6, .ref z7, .ref z8, .ref z9, .int (nI z10), .ref z11, .ref z12, .ref z13, .ref z14, .ref z15, .int (nI z16), .ref z17, .int z18, .ref z19]))]) (wr := []) (w1 := [(za, .inr (13, [.int 0, .ref z1, .int (nI z2), .int (nI z3), .int 2, .int (-1), .ref z6, .ref z7, .ref z8, .ref z9, .int (nI z10), .ref z11, .ref z12, .ref z13, .ref z14, .ref z15, .int (nI z16), .ref z17, .int z18, .ref z19]))]) (pl := va_pl L M) hP hD [0] [] rfl rfl (by decide) (by decide) hk1 hFc hP1 hD1
          have hP : va_P D vwCl ([(za, .inr (13, [.int 0, .ref z1, .int (nI z2), .int (nI z3), .int 2, .int (-1), .ref z6, .ref z7, .ref z8, .ref z9, .int (nI z10), .ref z11, .ref z12, .ref z13, .ref z14, .ref z15, .int (nI z16), .ref z17, .int z18, .ref z19]))] ++ va_pl L M) H_180 := hP
          have hD : va_D A ([(za, .inr (13, [.int 0, .ref z1, .int (nI z2), .int (nI z3), .int 2, .int (-1), .ref z6, .ref z7, .ref z8, .ref z9, .int (nI z10), .ref z11, .ref z12, .ref z13, .ref z14, .ref z15, .int (nI z16), .ref z17, .int z18, .ref z19]))] ++ va_pl L M) := hD
          have hq := Eq.symm hp_183
          subst hq
          rw [hQ]
          exact W.iret (v := (-1)) hx hb hr (fun t ht hW9 => ⟨⟨(-1), M, rfl, ⟨hW, hF, hR5, trivial⟩, ⟨z3, 2, (-1), (by omega), by rw [ht]; exact hP, hD⟩⟩, hS.F ht⟩) hS.2.2 dX13_partner_54
        · have hz := rfl (a := 0)
          refine lv_iload_n hx hb dX13_partner_43 rfl (lv_at hl 3 rfl) ?_
          refine lv_ldc (v := 1000000000) hx hb hown (hg _ wd_712) dX13_partner_44 ?_
          refine lv_icmp_le (tgt := 55) hx hb dX13_partner_46 (by decide) (fun c_184 => ?_) (fun c_184 => ?_)
          · have hz := rfl (a := 0)
            refine lv_iload_n hx hb dX13_partner_55 rfl (lv_at hl 2 rfl) ?_
            refine lv_iconst (v := 5) hx hb dX13_partner_56 (by decide) ?_
            refine lv_icmp_ne (tgt := 74) hx hb dX13_partner_57 (by decide) (fun c_185 => ?_) (fun c_185 => absurd c_185 (by rw [c_92]; decide))
            refine lv_aload_n hx hb dX13_partner_74 rfl (lv_at hl 1 rfl) ?_
            refine va_get (D := D) (ci := 13) (v := .int (nI z3)) (C := RX13) (T := TX13) (N := 20) hx hb hg inG13 hown hK hP 0 rfl rfl 3 (by decide) (hg _ wd_831) (fun _ h9 => h9) rfl dX13_partner_75 ?_
            refine lv_bipush (v := 40) hx hb dX13_partner_78 (by decide) ?_
            refine lv_icmp_ne (tgt := 90) hx hb dX13_partner_80 (by decide) (fun c_186 => ?_) (fun c_186 => ?_)
            · have hz := rfl (a := 0)
              have n_187 : ¬ (z3 = 40) := fun q => c_186 ((iEQ (a := z3) (b := 40) (by omega) (by omega)).mpr q)
              obtain ⟨f188, hM188, hf188⟩ := hW.open_47 i6
              obtain ⟨f189, hM189⟩ := hW.open_48 i7
              have he6 := hM188
              have he7 := hM189
              refine lv_aload_n hx hb dX13_partner_90 rfl (lv_at hl 1 rfl) ?_
              refine va_get (D := D) (ci := 13) (v := .ref z6) (C := RX13) (T := TX13) (N := 20) hx hb hg inG13 hown hK hP 0 rfl rfl 6 (by decide) (hg _ wd_719) (fun _ h9 => h9) rfl dX13_partner_91 ?_
              refine lv_aload_n hx hb dX13_partner_94 rfl (lv_at hl 1 rfl) ?_
              refine va_get (D := D) (ci := 13) (v := .int (nI z3)) (C := RX13) (T := TX13) (N := 20) hx hb hg inG13 hown hK hP 0 rfl rfl 3 (by decide) (hg _ wd_831) (fun _ h9 => h9) rfl dX13_partner_95 ?_
              refine lv_iload_n hx hb dX13_partner_98 rfl (lv_at hl 2 rfl) ?_
              obtain ⟨j_190, hj_191, rfl⟩ := i32nat 6 (by decide) c_176 (leB (b := 6) (c := 5) (by decide) (by decide) (Int32.not_lt.mp c_177))
              refine pg_iast hx hb hK hP hD hS i6.1 0 hM188 rfl (inbN z3 40 (by omega) (by omega)) dX13_partner_99 (fun H_192 locs hP hD hS => ?_)
              obtain ⟨M_193, eM_193⟩ : ∃ M1 : Hp, M1 = va_up M z6 (.inl (cy 14, 40, .inl (upd f188 ((nI z3) : Int32).toNatClampNeg (nI j_190)))) := ⟨_, rfl⟩
              have hP : va_P D vwCl ([(za, .inr (13, [.int 0, .ref z1, .int (nI z2), .int (nI z3), .int z4, .int z5, .ref z6, .ref z7, .ref z8, .ref z9, .int (nI z10), .ref z11, .ref z12, .ref z13, .ref z14, .ref z15, .int (nI z16), .ref z17, .int z18, .ref z19]))] ++ va_pl L M_193) H_192 := by rw [eM_193]; exact hP
              have hD : va_D A ([(za, .inr (13, [.int 0, .ref z1, .int (nI z2), .int (nI z3), .int z4, .int z5, .ref z6, .ref z7, .ref z8, .ref z9, .int (nI z10), .ref z11, .ref z12, .ref z13, .ref z14, .ref z15, .int (nI z16), .ref z17, .int z18, .ref z19]))] ++ va_pl L M_193) := by rw [eM_193]; exact hD
              have hW : WOM cy K L M_193 := by rw [eM_193]; exact hW.up_47 i6 ⟨_, rfl, (updP (P := fun z => ∃ c : Nat, c < 6 ∧ z = nI c) hf188 ⟨j_190, by omega, rfl⟩)⟩
              have hF : fr K L [47, 48] M M_193 := by rw [eM_193]; exact hF.up i6 (by decide)
              have hM_194 : M_193 z6 = .inl (cy 14, 40, .inl (upd f188 ((nI z3) : Int32).toNatClampNeg (nI j_190))) := by rw [eM_193]; exact va_up_self _ _ _
              have hM_195 : M_193 z7 = .inl (cy 14, 40, .inl (f189)) := by rw [eM_193, va_up_ne _ _ (i7.neT i6 (by decide))]; exact hM189
              have hf_197 : ∀ j, j < 40 → ∃ c : Nat, c < 6 ∧ (upd f188 ((nI z3) : Int32).toNatClampNeg (nI j_190)) j = nI c := (updP (P := fun z => ∃ c : Nat, c < 6 ∧ z = nI c) hf188 ⟨j_190, by omega, rfl⟩)
              obtain ⟨f_196, ef_196⟩ : ∃ f : Nat → Int32, f = upd f188 ((nI z3) : Int32).toNatClampNeg (nI j_190) := ⟨_, rfl⟩
              rw [← ef_196] at hM_194 hf_197
              refine lv_aload_n hx hb dX13_partner_100 rfl (lv_at hl 1 rfl) ?_
              refine va_get (D := D) (ci := 13) (v := .ref z7) (C := RX13) (T := TX13) (N := 20) hx hb hg inG13 hown hK hP 0 rfl rfl 7 (by decide) (hg _ wd_760) (fun _ h9 => h9) rfl dX13_partner_101 ?_
              refine lv_aload_n hx hb dX13_partner_104 rfl (lv_at hl 1 rfl) ?_
              refine va_get (D := D) (ci := 13) (v := .int (nI z3)) (C := RX13) (T := TX13) (N := 20) hx hb hg inG13 hown hK hP 0 rfl rfl 3 (by decide) (hg _ wd_831) (fun _ h9 => h9) rfl dX13_partner_105 ?_
              refine lv_iload_n hx hb dX13_partner_108 rfl (lv_at hl 3 rfl) ?_
              refine pg_iast hx hb hK hP hD hS i7.1 0 hM_195 rfl (inbN z3 40 (by omega) (by omega)) dX13_partner_109 (fun H_198 locs hP hD hS => ?_)
              obtain ⟨M_199, eM_199⟩ : ∃ M1 : Hp, M1 = va_up M_193 z7 (.inl (cy 14, 40, .inl (upd f189 ((nI z3) : Int32).toNatClampNeg k2))) := ⟨_, rfl⟩
              have hP : va_P D vwCl ([(za, .inr (13, [.int 0, .ref z1, .int (nI z2), .int (nI z3), .int z4, .int z5, .ref z6, .ref z7, .ref z8, .ref z9, .int (nI z10), .ref z11, .ref z12, .ref z13, .ref z14, .ref z15, .int (nI z16), .ref z17, .int z18, .ref z19]))] ++ va_pl L M_199) H_198 := by rw [eM_199]; exact hP
              have hD : va_D A ([(za, .inr (13, [.int 0, .ref z1, .int (nI z2), .int (nI z3), .int z4, .int z5, .ref z6, .ref z7, .ref z8, .ref z9, .int (nI z10), .ref z11, .ref z12, .ref z13, .ref z14, .ref z15, .int (nI z16), .ref z17, .int z18, .ref z19]))] ++ va_pl L M_199) := by rw [eM_199]; exact hD
              have hW : WOM cy K L M_199 := by rw [eM_199]; exact hW.up_48 i7 ⟨_, rfl⟩
              have hF : fr K L [47, 48] M M_199 := by rw [eM_199]; exact hF.up i7 (by decide)
              have hM_200 : M_199 z7 = .inl (cy 14, 40, .inl (upd f189 ((nI z3) : Int32).toNatClampNeg k2)) := by rw [eM_199]; exact va_up_self _ _ _
              have hM_201 : M_199 z6 = .inl (cy 14, 40, .inl (f_196)) := by rw [eM_199, va_up_ne _ _ (i6.neT i7 (by decide))]; exact hM_194
              obtain ⟨f_202, ef_202⟩ : ∃ f : Nat → Int32, f = upd f189 ((nI z3) : Int32).toNatClampNeg k2 := ⟨_, rfl⟩
              rw [← ef_202] at hM_200
              refine lv_aload_n hx hb dX13_partner_110 rfl (lv_at hl 1 rfl) ?_
              refine lv_dup hx hb dX13_partner_111 rfl ?_
              refine va_get (D := D) (ci := 13) (v := .int (nI z3)) (C := RX13) (T := TX13) (N := 20) hx hb hg inG13 hown hK hP 0 rfl rfl 3 (by decide) (hg _ wd_831) (fun _ h9 => h9) rfl dX13_partner_112 ?_
              refine lv_iconst (v := 1) hx hb dX13_partner_115 (by decide) ?_
              refine lv_iadd hx hb dX13_partner_116 ?_
              refine lv_topi (fun f_203 ef_203 => ?_)
              obtain rfl : f_203 = (nI (z3 + 1)) := ef_203.trans (nI_add z3 1)
              refine va_put (D := D) (ci := 13) (v := .int (nI (z3 + 1))) (ty := .int) (C := RX13) (T := TX13) (N := 20) hx hb hg inG13 tyX13 tyX13_ok nmX13 hown hK hP hD hS 0 rfl rfl 3 (by decide) (hg _ wd_831) (fun _ h9 => h9) rfl (by decide +kernel) rfl rfl (Nat.le_of_ble_eq_true rfl) dX13_partner_117 (fun H_204 locs hP hD hS => ?_)
              have hP : va_P D vwCl ([(za, .inr (13, [.int 0, .ref z1, .int (nI z2), .int (nI (z3 + 1)), .int z4, .int z5, .ref z6, .ref z7, .ref z8, .ref z9, .int (nI z10), .ref z11, .ref z12, .ref z13, .ref z14, .ref z15, .int (nI z16), .ref z17, .int z18, .ref z19]))] ++ va_pl L M_199) H_204 := hP
              have hD : va_D A ([(za, .inr (13, [.int 0, .ref z1, .int (nI z2), .int (nI (z3 + 1)), .int z4, .int z5, .ref z6, .ref z7, .ref z8, .ref z9, .int (nI z10), .ref z11, .ref z12, .ref z13, .ref z14, .ref z15, .int (nI z16), .ref z17, .int z18, .ref z19]))] ++ va_pl L M_199) := hD
              refine lv_aload_n hx hb dX13_partner_120 rfl (lv_at hl 1 rfl) ?_
              refine lv_aload_n hx hb dX13_partner_121 rfl (lv_at hl 1 rfl) ?_
              refine va_get (D := D) (ci := 13) (v := .int (nI (z3 + 1))) (C := RX13) (T := TX13) (N := 20) hx hb hg inG13 hown hK hP 0 rfl rfl 3 (by decide) (hg _ wd_831) (fun _ h9 => h9) rfl dX13_partner_122 ?_
              refine lv_iconst (v := 1) hx hb dX13_partner_125 (by decide) ?_
              refine lv_isub hx hb dX13_partner_126 ?_
              refine lv_topi (fun f_205 ef_205 => ?_)
              obtain rfl : f_205 = (nI ((z3 + 1) - 1)) := ef_205.trans (nI_prd (by omega))
              have hPc := hP.sub (ws' := [(za, .inr (13, [.int 0, .ref z1, .int (nI z2), .int (nI (z3 + 1)), .int z4, .int z5, .ref z6, .ref z7, .ref z8, .ref z9, .int (nI z10), .ref z11, .ref z12, .ref z13, .ref z14, .ref z15, .int (nI z16), .ref z17, .int z18, .ref z19]))]) [0] rfl
              have hDc := hD.sub (ws' := [(za, .inr (13, [.int 0, .ref z1, .int (nI z2), .int (nI (z3 + 1)), .int z4, .int z5, .ref z6, .ref z7, .ref z8, .ref z9, .int (nI z10), .ref z11, .ref z12, .ref z13, .ref z14, .ref z15, .int (nI z16), .ref z17, .int z18, .ref z19]))]) [0] (by decide) rfl
              have hKc := hK.sub (tys' := []) [] rfl
              have hFc := va_free (wc := [(za, .inr (13, [.int 0, .ref z1, .int (nI z2), .int (nI (z3 + 1)), .int z4, .int z5, .ref z6, .ref z7, .ref z8, .ref z9, .int (nI z10), .ref z11, .ref z12, .ref z13, .ref z14, .ref z15, .int (nI z16), .ref z17, .int z18, .ref z19]))]) hD hS hA [0] rfl
              refine va_calli (va_runV (As := [.int (nI ((z3 + 1) - 1))]) (rest := []) ⟨hx, hb, hml, hown, hg⟩ (m_done l D H_204.size za 0 z1 (nI z2) (nI (z3 + 1)) z4 z5 z6 z7 z8 z9 (nI z10) z11 z12 z13 z14 z15 (nI z16) z17 z18 z19 (nI ((z3 + 1) - 1))) (cwV 1 hg (gV wd_730 wd_731 wd_732 wd_717 wd_733) rfl rfl rfl (by decide +kernel) ⟨(Nat.le_trans (Nat.le_of_ble_eq_true rfl) hRf), (Nat.le_trans (Nat.le_of_ble_eq_true rfl) hRl)⟩) ⟨Pr.blind, va_recv hK hP (ci := 13) (q0 := 0) rfl rfl, fun U hU hW => ⟨rfl, Pr.at hPc hKc hDc hN hU hW⟩⟩ rfl rfl hl.1 rfl (lv_room (Nat.le_of_ble_eq_true rfl)) dX13_partner_127 ⟨(Nat.le_trans (Nat.le_of_ble_eq_true rfl) hRc), (Nat.le_trans (Nat.le_of_ble_eq_true rfl) hRs)⟩) hS (fun q _ h => hFc q h) hFc (fun r_207 M_208 t H_206 locs ht hvm hw hB hz1 hk1 hS => ?_)
              have hp_209 := hw
              obtain ⟨hP1, hK1, hD1⟩ := hB
              rw [ht] at hP1
              obtain ⟨hP, hD⟩ := va_joinQ (X := [(za, .inr (13, [.int 0, .ref z1, .int (nI z2), .int (nI (z3 + 1)), .int z4, .int z5, .ref z6, .ref z7, .ref z8, .ref z9, .int (nI z10), .ref z11, .ref z12, .ref z13, .ref z14, .ref z15, .int (nI z16), .ref z17, .int z18, .ref z19]))]) (cx := [(za, .inr (13, [.int 0, .ref z1, .int (nI z2), .int (nI (z3 + 1)), .int z4, .int z5, .ref z6, .ref z7, .ref z8, .ref z9, .int (nI z10), .ref z11, .ref z12, .ref z13, .ref z14, .ref z15, .int (nI z16), .ref z17, .int z18, .ref z19]))]) (wr := []) (w1 := [(za, .inr (13, [.int 0, .ref z1, .int (nI z2), .int (nI (z3 + 1)), .int 0, .int (-1), .ref z6, .ref z7, .ref z8, .ref z9, .int (nI z10), .ref z11, .ref z12, .ref z13, .ref z14, .ref z15, .int (nI z16), .ref z17, .int z18, .ref z19]))]) (pl := va_pl L M_199) hP hD [0] [] rfl rfl (by decide) (by decide) hk1 hFc hP1 hD1
              have hP : va_P D vwCl ([(za, .inr (13, [.int 0, .ref z1, .int (nI z2), .int (nI (z3 + 1)), .int 0, .int (-1), .ref z6, .ref z7, .ref z8, .ref z9, .int (nI z10), .ref z11, .ref z12, .ref z13, .ref z14, .ref z15, .int (nI z16), .ref z17, .int z18, .ref z19]))] ++ va_pl L M_199) H_206 := hP
              have hD : va_D A ([(za, .inr (13, [.int 0, .ref z1, .int (nI z2), .int (nI (z3 + 1)), .int 0, .int (-1), .ref z6, .ref z7, .ref z8, .ref z9, .int (nI z10), .ref z11, .ref z12, .ref z13, .ref z14, .ref z15, .int (nI z16), .ref z17, .int z18, .ref z19]))] ++ va_pl L M_199) := hD
              have hq := Eq.symm hp_209
              subst hq
              have hR9 : R5 z6 z7 M_199 := R5.put hR5 he6 he7 (by rw [hM_201, ef_196]) (by rw [hM_200, ef_202]) (fun q => absurd q c_185)
              rw [hQ]
              exact W.iret (v := (nI ((z3 + 1) - 1))) hx hb hr (fun t ht hW9 => ⟨⟨(nI ((z3 + 1) - 1)), M_199, rfl, ⟨hW, hF, hR9, trivial⟩, ⟨(z3 + 1), 0, (-1), (by omega), by rw [ht]; exact hP, hD⟩⟩, hS.F ht⟩) hS.2.2 dX13_partner_130
            · have hz := rfl (a := 0)
              have n_210 : z3 = 40 := (iEQ (a := z3) (b := 40) (by omega) (by omega)).mp c_186
              refine lv_aload_n hx hb dX13_partner_83 rfl (lv_at hl 1 rfl) ?_
              refine lv_bipush (v := 9) hx hb dX13_partner_84 (by decide) ?_
              have hPc := hP.sub (ws' := [(za, .inr (13, [.int 0, .ref z1, .int (nI z2), .int (nI z3), .int z4, .int z5, .ref z6, .ref z7, .ref z8, .ref z9, .int (nI z10), .ref z11, .ref z12, .ref z13, .ref z14, .ref z15, .int (nI z16), .ref z17, .int z18, .ref z19]))]) [0] rfl
              have hDc := hD.sub (ws' := [(za, .inr (13, [.int 0, .ref z1, .int (nI z2), .int (nI z3), .int z4, .int z5, .ref z6, .ref z7, .ref z8, .ref z9, .int (nI z10), .ref z11, .ref z12, .ref z13, .ref z14, .ref z15, .int (nI z16), .ref z17, .int z18, .ref z19]))]) [0] (by decide) rfl
              have hKc := hK.sub (tys' := []) [] rfl
              have hFc := va_free (wc := [(za, .inr (13, [.int 0, .ref z1, .int (nI z2), .int (nI z3), .int z4, .int z5, .ref z6, .ref z7, .ref z8, .ref z9, .int (nI z10), .ref z11, .ref z12, .ref z13, .ref z14, .ref z15, .int (nI z16), .ref z17, .int z18, .ref z19]))]) hD hS hA [0] rfl
              refine va_calli (va_runV (As := [.int 9]) (rest := []) ⟨hx, hb, hml, hown, hg⟩ (m_refused l D H_1.size za 0 z1 (nI z2) (nI z3) z4 z5 z6 z7 z8 z9 (nI z10) z11 z12 z13 z14 z15 (nI z16) z17 z18 z19 9) (cwV 1 hg (gV wd_725 wd_726 wd_727 wd_717 wd_728) rfl rfl rfl (by decide +kernel) ⟨(Nat.le_trans (Nat.le_of_ble_eq_true rfl) hRf), (Nat.le_trans (Nat.le_of_ble_eq_true rfl) hRl)⟩) ⟨Pr.blind, va_recv hK hP (ci := 13) (q0 := 0) rfl rfl, fun U hU hW => ⟨rfl, Pr.at hPc hKc hDc hN hU hW⟩⟩ rfl rfl hl.1 rfl (lv_room (Nat.le_of_ble_eq_true rfl)) dX13_partner_86 ⟨(Nat.le_trans (Nat.le_of_ble_eq_true rfl) hRc), (Nat.le_trans (Nat.le_of_ble_eq_true rfl) hRs)⟩) hS (fun q _ h => hFc q h) hFc (fun r_212 M_213 t H_211 locs ht hvm hw hB hz1 hk1 hS => ?_)
              have hp_214 := hw
              obtain ⟨hP1, hK1, hD1⟩ := hB
              rw [ht] at hP1
              obtain ⟨hP, hD⟩ := va_joinQ (X := [(za, .inr (13, [.int 0, .ref z1, .int (nI z2), .int (nI z3), .int z4, .int z5, .ref z6, .ref z7, .ref z8, .ref z9, .int (nI z10), .ref z11, .ref z12, .ref z13, .ref z14, .ref z15, .int (nI z16), .ref z17, .int z18, .ref z19]))]) (cx := [(za, .inr (13, [.int 0, .ref z1, .int (nI z2), .int (nI z3), .int z4, .int z5, .ref z6, .ref z7, .ref z8, .ref z9, .int (nI z10), .ref z11, .ref z12, .ref z13, .ref z14, .ref z15, .int (nI z16), .ref z17, .int z18, .ref z19]))]) (wr := []) (w1 := [(za, .inr (13, [.int 0, .ref z1, .int (nI z2), .int (nI z3), .int 9, .int (-1), .ref z6, .ref z7, .ref z8, .ref z9, .int (nI z10), .ref z11, .ref z12, .ref z13, .ref z14, .ref z15, .int (nI z16), .ref z17, .int z18, .ref z19]))]) (pl := va_pl L M) hP hD [0] [] rfl rfl (by decide) (by decide) hk1 hFc hP1 hD1
              have hP : va_P D vwCl ([(za, .inr (13, [.int 0, .ref z1, .int (nI z2), .int (nI z3), .int 9, .int (-1), .ref z6, .ref z7, .ref z8, .ref z9, .int (nI z10), .ref z11, .ref z12, .ref z13, .ref z14, .ref z15, .int (nI z16), .ref z17, .int z18, .ref z19]))] ++ va_pl L M) H_211 := hP
              have hD : va_D A ([(za, .inr (13, [.int 0, .ref z1, .int (nI z2), .int (nI z3), .int 9, .int (-1), .ref z6, .ref z7, .ref z8, .ref z9, .int (nI z10), .ref z11, .ref z12, .ref z13, .ref z14, .ref z15, .int (nI z16), .ref z17, .int z18, .ref z19]))] ++ va_pl L M) := hD
              have hq := Eq.symm hp_214
              subst hq
              rw [hQ]
              exact W.iret (v := (-1)) hx hb hr (fun t ht hW9 => ⟨⟨(-1), M, rfl, ⟨hW, hF, hR5, trivial⟩, ⟨z3, 9, (-1), (by omega), by rw [ht]; exact hP, hD⟩⟩, hS.F ht⟩) hS.2.2 dX13_partner_89
          · have hz := rfl (a := 0)
            have n_215 : ¬ k2 < 0 := gtN (c := 1000000000) (by omega) (Int32.not_le.mp c_184)
            refine lv_aload_n hx hb dX13_partner_49 rfl (lv_at hl 1 rfl) ?_
            refine lv_iconst (v := 2) hx hb dX13_partner_50 (by decide) ?_
            have hPc := hP.sub (ws' := [(za, .inr (13, [.int 0, .ref z1, .int (nI z2), .int (nI z3), .int z4, .int z5, .ref z6, .ref z7, .ref z8, .ref z9, .int (nI z10), .ref z11, .ref z12, .ref z13, .ref z14, .ref z15, .int (nI z16), .ref z17, .int z18, .ref z19]))]) [0] rfl
            have hDc := hD.sub (ws' := [(za, .inr (13, [.int 0, .ref z1, .int (nI z2), .int (nI z3), .int z4, .int z5, .ref z6, .ref z7, .ref z8, .ref z9, .int (nI z10), .ref z11, .ref z12, .ref z13, .ref z14, .ref z15, .int (nI z16), .ref z17, .int z18, .ref z19]))]) [0] (by decide) rfl
            have hKc := hK.sub (tys' := []) [] rfl
            have hFc := va_free (wc := [(za, .inr (13, [.int 0, .ref z1, .int (nI z2), .int (nI z3), .int z4, .int z5, .ref z6, .ref z7, .ref z8, .ref z9, .int (nI z10), .ref z11, .ref z12, .ref z13, .ref z14, .ref z15, .int (nI z16), .ref z17, .int z18, .ref z19]))]) hD hS hA [0] rfl
            refine va_calli (va_runV (As := [.int 2]) (rest := []) ⟨hx, hb, hml, hown, hg⟩ (m_refused l D H_1.size za 0 z1 (nI z2) (nI z3) z4 z5 z6 z7 z8 z9 (nI z10) z11 z12 z13 z14 z15 (nI z16) z17 z18 z19 2) (cwV 1 hg (gV wd_725 wd_726 wd_727 wd_717 wd_728) rfl rfl rfl (by decide +kernel) ⟨(Nat.le_trans (Nat.le_of_ble_eq_true rfl) hRf), (Nat.le_trans (Nat.le_of_ble_eq_true rfl) hRl)⟩) ⟨Pr.blind, va_recv hK hP (ci := 13) (q0 := 0) rfl rfl, fun U hU hW => ⟨rfl, Pr.at hPc hKc hDc hN hU hW⟩⟩ rfl rfl hl.1 rfl (lv_room (Nat.le_of_ble_eq_true rfl)) dX13_partner_51 ⟨(Nat.le_trans (Nat.le_of_ble_eq_true rfl) hRc), (Nat.le_trans (Nat.le_of_ble_eq_true rfl) hRs)⟩) hS (fun q _ h => hFc q h) hFc (fun r_217 M_218 t H_216 locs ht hvm hw hB hz1 hk1 hS => ?_)
            have hp_219 := hw
            obtain ⟨hP1, hK1, hD1⟩ := hB
            rw [ht] at hP1
            obtain ⟨hP, hD⟩ := va_joinQ (X := [(za, .inr (13, [.int 0, .ref z1, .int (nI z2), .int (nI z3), .int z4, .int z5, .ref z6, .ref z7, .ref z8, .ref z9, .int (nI z10), .ref z11, .ref z12, .ref z13, .ref z14, .ref z15, .int (nI z16), .ref z17, .int z18, .ref z19]))]) (cx := [(za, .inr (13, [.int 0, .ref z1, .int (nI z2), .int (nI z3), .int z4, .int z5, .ref z6, .ref z7, .ref z8, .ref z9, .int (nI z10), .ref z11, .ref z12, .ref z13, .ref z14, .ref z15, .int (nI z16), .ref z17, .int z18, .ref z19]))]) (wr := []) (w1 := [(za, .inr (13, [.int 0, .ref z1, .int (nI z2), .int (nI z3), .int 2, .int (-1), .ref z6, .ref z7, .ref z8, .ref z9, .int (nI z10), .ref z11, .ref z12, .ref z13, .ref z14, .ref z15, .int (nI z16), .ref z17, .int z18, .ref z19]))]) (pl := va_pl L M) hP hD [0] [] rfl rfl (by decide) (by decide) hk1 hFc hP1 hD1
            have hP : va_P D vwCl ([(za, .inr (13, [.int 0, .ref z1, .int (nI z2), .int (nI z3), .int 2, .int (-1), .ref z6, .ref z7, .ref z8, .ref z9, .int (nI z10), .ref z11, .ref z12, .ref z13, .ref z14, .ref z15, .int (nI z16), .ref z17, .int z18, .ref z19]))] ++ va_pl L M) H_216 := hP
            have hD : va_D A ([(za, .inr (13, [.int 0, .ref z1, .int (nI z2), .int (nI z3), .int 2, .int (-1), .ref z6, .ref z7, .ref z8, .ref z9, .int (nI z10), .ref z11, .ref z12, .ref z13, .ref z14, .ref z15, .int (nI z16), .ref z17, .int z18, .ref z19]))] ++ va_pl L M) := hD
            have hq := Eq.symm hp_219
            subst hq
            rw [hQ]
            exact W.iret (v := (-1)) hx hb hr (fun t ht hW9 => ⟨⟨(-1), M, rfl, ⟨hW, hF, hR5, trivial⟩, ⟨z3, 2, (-1), (by omega), by rw [ht]; exact hP, hD⟩⟩, hS.F ht⟩) hS.2.2 dX13_partner_54
set_option maxHeartbeats 4000000 in
set_option maxRecDepth 100000 in
theorem r_X13_house (l : Launch) (D : va_G) (cy : Nat → ClassId) (K : Kp) (L : List Nat) (M : Hp) (sz : Nat) (za : Nat) (z0 : Int32) (z1 : Nat) (z2 : Nat) (z3 : Nat) (z4 : Int32) (z5 : Int32) (z6 : Nat) (z7 : Nat) (z8 : Nat) (z9 : Nat) (z10 : Nat) (z11 : Nat) (z12 : Nat) (z13 : Nat) (z14 : Nat) (z15 : Nat) (z16 : Nat) (z17 : Nat) (z18 : Int32) (z19 : Nat) (k1 : Int32) (hW : WOM cy K L M) (i1 : isk K L z1 23 8) (b2 : z2 ≤ 8) (b3 : z3 ≤ 40) (i6 : isk K L z6 47 40) (i7 : isk K L z7 48 40) (i8 : isk K L z8 49 8) (i9 : isk K L z9 50 8) (b10 : z10 ≤ 8) (i11 : isk K L z11 32 24) (i12 : isk K L z12 14 24) (i13 : isk K L z13 15 24) (i14 : isk K L z14 15 24) (i15 : isk K L z15 15 24) (b16 : z16 ≤ 24) (i17 : isk K L z17 14 24) (i19 : isk K L z19 15 25) (hGI : GI K L z1 z2 M) : Met l yX13_house (wsM yX13_house cX13_house 4 (some .int)) ({ frames := 1, cells := 0, slots := 0, locals := 21 }) (va_Pc [.ref za, .int k1] (PG D cy [(za, .inr (13, [.int z0, .ref z1, .int (nI z2), .int (nI z3), .int z4, .int z5, .ref z6, .ref z7, .ref z8, .ref z9, .int (nI z10), .ref z11, .ref z12, .ref z13, .ref z14, .ref z15, .int (nI z16), .ref z17, .int z18, .ref z19]))] L M sz)) (va_Qi (fun (r : Int32) (M9 : Hp) => WOM cy K L M9 ∧ fr K L [12, 37] M M9 ∧ fG K L [0, 1] M M9 ∧ (GI K L z1 (cntH k1 z2) M9) ∧ ((r = ansH k1 z2))) (fun M9 t => ∃ (w4 : Int32) (w5 : Int32), PQ D [(za, .inr (13, [.int 0, .ref z1, .int (nI (cntH k1 z2)), .int (nI z3), .int w4, .int w5, .ref z6, .ref z7, .ref z8, .ref z9, .int (nI z10), .ref z11, .ref z12, .ref z13, .ref z14, .ref z15, .int (nI z16), .ref z17, .int z18, .ref z19]))] L M9 (va_A ([(za, .inr (13, [.int z0, .ref z1, .int (nI z2), .int (nI z3), .int z4, .int z5, .ref z6, .ref z7, .ref z8, .ref z9, .int (nI z10), .ref z11, .ref z12, .ref z13, .ref z14, .ref z15, .int (nI z16), .ref z17, .int z18, .ref z19]))] ++ va_pl L M) sz) t) (va_A ([(za, .inr (13, [.int z0, .ref z1, .int (nI z2), .int (nI z3), .int z4, .int z5, .ref z6, .ref z7, .ref z8, .ref z9, .int (nI z10), .ref z11, .ref z12, .ref z13, .ref z14, .ref z15, .int (nI z16), .ref z17, .int z18, .ref z19]))] ++ va_pl L M) sz)) 0 0 (va_A ([(za, .inr (13, [.int z0, .ref z1, .int (nI z2), .int (nI z3), .int z4, .int z5, .ref z6, .ref z7, .ref z8, .ref z9, .int (nI z10), .ref z11, .ref z12, .ref z13, .ref z14, .ref z15, .int (nI z16), .ref z17, .int z18, .ref z19]))] ++ va_pl L M) sz) := by
  refine Met.ofW (cc := cX13_house) (maxL := 4) (ret := (some .int)) (by decide) rfl ?_
  intro p e s m args below meth c s₁ B hml hv
  obtain ⟨rfl, hsz, hP, hK, hD0, hN⟩ := hv
  have hx := B.exec
  have hb := B.bytes
  have hr := B.returns
  have hts := atoms_spec (ws := (wsM yX13_house cX13_house 4 (some .int))) B.pre
  have hg : ∀ w ∈ lw_good, w.before _ s = true := fun w h => hts w (List.mem_cons_of_mem _ h)
  have hown : s.vm.findClass RX13 = some m.cls := findClass_of_methodNamed B.named
  have hlocks := B.notSynchronized
  subst hsz
  have hD := hD0.self (sz := s.heap.size)
  generalize hAe : va_A ([(za, .inr (13, [.int z0, .ref z1, .int (nI z2), .int (nI z3), .int z4, .int z5, .ref z6, .ref z7, .ref z8, .ref z9, .int (nI z10), .ref z11, .ref z12, .ref z13, .ref z14, .ref z15, .int (nI z16), .ref z17, .int z18, .ref z19]))] ++ va_pl L M) s.heap.size = A at hD ⊢
  have hA : ∀ q : Nat, s.heap.size ≤ q → A q := fun q h => by rw [← hAe]; exact Or.inr h
  have hS : va_S A s.heap s.heap [] := va_S.rf
  have hl := lv_entry ([.ref za, .int k1]) (n := 4) (Nat.le_of_ble_eq_true rfl)
  rw [lg_entry_eq]
  generalize (lg_sl ([.ref za, .int k1]) ++ List.replicate (4 - (lg_sl ([.ref za, .int k1])).length) Slot.unset).toArray = ls at hl ⊢
  refine W.nameQ (fun Q hQ => ?_)
  refine W.nameR (fun R hR => ?_)
  have hRf : 1 ≤ R.frames := by rw [hR]; exact Nat.le_of_ble_eq_true rfl
  have hRl : 21 ≤ R.locals := by rw [hR]; exact Nat.le_of_ble_eq_true rfl
  have hRc : 0 ≤ R.cells := by rw [hR]; exact Nat.le_of_ble_eq_true rfl
  have hRs : 0 ≤ R.slots := by rw [hR]; exact Nat.le_of_ble_eq_true rfl
  have hF : fr K L [12, 37] M M := fr.rf
  have hG : fG K L [0, 1] M M := fG.rf
  have hl : lv_has ls 4 [(0, .ref za), (1, .int k1)] := hl
  have hW0 := hW
  refine lv_aload_n hx hb dX13_house_0 rfl (lv_at hl 0 rfl) ?_
  refine lv_iconst (v := 0) hx hb dX13_house_1 (by decide) ?_
  refine va_put (D := D) (ci := 13) (v := .int 0) (ty := .int) (C := RX13) (T := TX13) (N := 20) hx hb hg inG13 tyX13 tyX13_ok nmX13 hown hK hP hD hS 0 rfl rfl 0 (by decide) (hg _ wd_720) (fun _ h9 => h9) rfl (by decide +kernel) rfl rfl (Nat.le_of_ble_eq_true rfl) dX13_house_2 (fun H_1 locs hP hD hS => ?_)
  have hP : va_P D vwCl ([(za, .inr (13, [.int 0, .ref z1, .int (nI z2), .int (nI z3), .int z4, .int z5, .ref z6, .ref z7, .ref z8, .ref z9, .int (nI z10), .ref z11, .ref z12, .ref z13, .ref z14, .ref z15, .int (nI z16), .ref z17, .int z18, .ref z19]))] ++ va_pl L M) H_1 := hP
  have hD : va_D A ([(za, .inr (13, [.int 0, .ref z1, .int (nI z2), .int (nI z3), .int z4, .int z5, .ref z6, .ref z7, .ref z8, .ref z9, .int (nI z10), .ref z11, .ref z12, .ref z13, .ref z14, .ref z15, .int (nI z16), .ref z17, .int z18, .ref z19]))] ++ va_pl L M) := hD
  refine lv_iload_n hx hb dX13_house_5 rfl (lv_at hl 1 rfl) ?_
  refine lv_if_lt (tgt := 16) hx hb dX13_house_6 (by decide) (fun c_2 => ?_) (fun c_2 => ?_)
  · have hz := rfl (a := 0)
    refine lv_aload_n hx hb dX13_house_16 rfl (lv_at hl 0 rfl) ?_
    refine lv_iconst (v := 2) hx hb dX13_house_17 (by decide) ?_
    have hPc := hP.sub (ws' := [(za, .inr (13, [.int 0, .ref z1, .int (nI z2), .int (nI z3), .int z4, .int z5, .ref z6, .ref z7, .ref z8, .ref z9, .int (nI z10), .ref z11, .ref z12, .ref z13, .ref z14, .ref z15, .int (nI z16), .ref z17, .int z18, .ref z19]))]) [0] rfl
    have hDc := hD.sub (ws' := [(za, .inr (13, [.int 0, .ref z1, .int (nI z2), .int (nI z3), .int z4, .int z5, .ref z6, .ref z7, .ref z8, .ref z9, .int (nI z10), .ref z11, .ref z12, .ref z13, .ref z14, .ref z15, .int (nI z16), .ref z17, .int z18, .ref z19]))]) [0] (by decide) rfl
    have hKc := hK.sub (tys' := []) [] rfl
    have hFc := va_free (wc := [(za, .inr (13, [.int 0, .ref z1, .int (nI z2), .int (nI z3), .int z4, .int z5, .ref z6, .ref z7, .ref z8, .ref z9, .int (nI z10), .ref z11, .ref z12, .ref z13, .ref z14, .ref z15, .int (nI z16), .ref z17, .int z18, .ref z19]))]) hD hS hA [0] rfl
    refine va_calli (va_runV (As := [.int 2]) (rest := []) ⟨hx, hb, hml, hown, hg⟩ (m_refused l D H_1.size za 0 z1 (nI z2) (nI z3) z4 z5 z6 z7 z8 z9 (nI z10) z11 z12 z13 z14 z15 (nI z16) z17 z18 z19 2) (cwV 1 hg (gV wd_725 wd_726 wd_727 wd_717 wd_728) rfl rfl rfl (by decide +kernel) ⟨(Nat.le_trans (Nat.le_of_ble_eq_true rfl) hRf), (Nat.le_trans (Nat.le_of_ble_eq_true rfl) hRl)⟩) ⟨Pr.blind, va_recv hK hP (ci := 13) (q0 := 0) rfl rfl, fun U hU hW => ⟨rfl, Pr.at hPc hKc hDc hN hU hW⟩⟩ rfl rfl hl.1 rfl (lv_room (Nat.le_of_ble_eq_true rfl)) dX13_house_18 ⟨(Nat.le_trans (Nat.le_of_ble_eq_true rfl) hRc), (Nat.le_trans (Nat.le_of_ble_eq_true rfl) hRs)⟩) hS (fun q _ h => hFc q h) hFc (fun r_4 M_5 t H_3 locs ht hvm hw hB hz1 hk1 hS => ?_)
    have hp_6 := hw
    obtain ⟨hP1, hK1, hD1⟩ := hB
    rw [ht] at hP1
    obtain ⟨hP, hD⟩ := va_joinQ (X := [(za, .inr (13, [.int 0, .ref z1, .int (nI z2), .int (nI z3), .int z4, .int z5, .ref z6, .ref z7, .ref z8, .ref z9, .int (nI z10), .ref z11, .ref z12, .ref z13, .ref z14, .ref z15, .int (nI z16), .ref z17, .int z18, .ref z19]))]) (cx := [(za, .inr (13, [.int 0, .ref z1, .int (nI z2), .int (nI z3), .int z4, .int z5, .ref z6, .ref z7, .ref z8, .ref z9, .int (nI z10), .ref z11, .ref z12, .ref z13, .ref z14, .ref z15, .int (nI z16), .ref z17, .int z18, .ref z19]))]) (wr := []) (w1 := [(za, .inr (13, [.int 0, .ref z1, .int (nI z2), .int (nI z3), .int 2, .int (-1), .ref z6, .ref z7, .ref z8, .ref z9, .int (nI z10), .ref z11, .ref z12, .ref z13, .ref z14, .ref z15, .int (nI z16), .ref z17, .int z18, .ref z19]))]) (pl := va_pl L M) hP hD [0] [] rfl rfl (by decide) (by decide) hk1 hFc hP1 hD1
    have hP : va_P D vwCl ([(za, .inr (13, [.int 0, .ref z1, .int (nI z2), .int (nI z3), .int 2, .int (-1), .ref z6, .ref z7, .ref z8, .ref z9, .int (nI z10), .ref z11, .ref z12, .ref z13, .ref z14, .ref z15, .int (nI z16), .ref z17, .int z18, .ref z19]))] ++ va_pl L M) H_3 := hP
    have hD : va_D A ([(za, .inr (13, [.int 0, .ref z1, .int (nI z2), .int (nI z3), .int 2, .int (-1), .ref z6, .ref z7, .ref z8, .ref z9, .int (nI z10), .ref z11, .ref z12, .ref z13, .ref z14, .ref z15, .int (nI z16), .ref z17, .int z18, .ref z19]))] ++ va_pl L M) := hD
    have hq := Eq.symm hp_6
    subst hq
    have hE : cntH k1 z2 = z2 := by unfold cntH; rw [if_pos c_2]
    have hP : va_P D vwCl ([(za, .inr (13, [.int 0, .ref z1, .int (nI (cntH k1 z2)), .int (nI z3), .int 2, .int (-1), .ref z6, .ref z7, .ref z8, .ref z9, .int (nI z10), .ref z11, .ref z12, .ref z13, .ref z14, .ref z15, .int (nI z16), .ref z17, .int z18, .ref z19]))] ++ va_pl L M) H_3 := by rw [hE]; exact hP
    have hD : va_D A ([(za, .inr (13, [.int 0, .ref z1, .int (nI (cntH k1 z2)), .int (nI z3), .int 2, .int (-1), .ref z6, .ref z7, .ref z8, .ref z9, .int (nI z10), .ref z11, .ref z12, .ref z13, .ref z14, .ref z15, .int (nI z16), .ref z17, .int z18, .ref z19]))] ++ va_pl L M) := by rw [hE]; exact hD
    have hGI9 : GI K L z1 (cntH k1 z2) M := by rw [show cntH k1 z2 = z2 from by unfold cntH; rw [if_pos c_2]]; exact hGI
    rw [hQ]
    exact W.iret (v := (-1)) hx hb hr (fun t ht hW9 => ⟨⟨(-1), M, rfl, ⟨hW, hF, hG, hGI9, (by unfold ansH; rw [if_pos c_2]; first | done | rfl)⟩, ⟨2, (-1), by rw [ht]; exact hP, hD⟩⟩, hS.F ht⟩) hS.2.2 dX13_house_21
  · have hz := rfl (a := 0)
    refine lv_iload_n hx hb dX13_house_9 rfl (lv_at hl 1 rfl) ?_
    refine lv_sipush (v := 900) hx hb dX13_house_10 (by decide) ?_
    refine lv_icmp_le (tgt := 22) hx hb dX13_house_13 (by decide) (fun c_7 => ?_) (fun c_7 => ?_)
    · have hz := rfl (a := 0)
      refine lv_aload_n hx hb dX13_house_22 rfl (lv_at hl 0 rfl) ?_
      refine va_get (D := D) (ci := 13) (v := .int (nI z2)) (C := RX13) (T := TX13) (N := 20) hx hb hg inG13 hown hK hP 0 rfl rfl 2 (by decide) (hg _ wd_713) (fun _ h9 => h9) rfl dX13_house_23 ?_
      refine lv_bipush (v := 8) hx hb dX13_house_26 (by decide) ?_
      refine lv_icmp_ne (tgt := 38) hx hb dX13_house_28 (by decide) (fun c_8 => ?_) (fun c_8 => ?_)
      · have hz := rfl (a := 0)
        have n_9 : ¬ (z2 = 8) := fun q => c_8 ((iEQ (a := z2) (b := 8) (by omega) (by omega)).mpr q)
        refine lv_aload_n hx hb dX13_house_38 rfl (lv_at hl 0 rfl) ?_
        refine va_get (D := D) (ci := 13) (v := .ref z1) (C := RX13) (T := TX13) (N := 20) hx hb hg inG13 hown hK hP 0 rfl rfl 1 (by decide) (hg _ wd_739) (fun _ h9 => h9) rfl dX13_house_39 ?_
        refine lv_aload_n hx hb dX13_house_42 rfl (lv_at hl 0 rfl) ?_
        refine va_get (D := D) (ci := 13) (v := .int (nI z2)) (C := RX13) (T := TX13) (N := 20) hx hb hg inG13 hown hK hP 0 rfl rfl 2 (by decide) (hg _ wd_713) (fun _ h9 => h9) rfl dX13_house_43 ?_
        obtain ⟨f10, hM10, hf10⟩ := hW.open_23 i1
        have hi_11 : vp_in (nI z2) 8 := (inbN z2 8 (by omega) (by omega))
        refine pg_aldq hx hb hK hP i1.1 9 hM10 rfl hi_11 dX13_house_46 ?_
        obtain ⟨b12, eb_13, hb_14⟩ := hf10 _ (vp_lt hi_11)
        rw [eb_13]
        have hact : RFc (M z1) z2 = some b12 := by
          rw [show RFc (M z1) = f10 from by rw [hM10]; rfl]
          have h := eb_13
          rw [nI_cl (by omega)] at h
          exact h
        have hFR := hGI.2.2.1 z2 b12 (Nat.le_refl _) (by omega) hact
        have hV : VW K L M M b12 (fx M b12) (ax M b12) := VW.rf b12 hGI.2.2.2
        refine lv_astore_n (lv' := [(2, .ref b12), (0, .ref za), (1, .int k1)]) hx hb dX13_house_47 rfl hl (by decide) rfl (fun ls hl => ?_)
        obtain ⟨j_15, hj_16, rfl⟩ := i32nat 901 (by decide) c_2 (leB (b := 901) (c := 900) (by decide) (by decide) c_7)
        obtain ⟨fs17, hM17, hn17, hl17⟩ := hW.open_12 hb_14
        obtain ⟨v18, hv18, hc18⟩ : ∃ v : Nat, fs17[3]? = some (.ref v : Value) ∧ isk K L v 35 1000 := hl17 3 (by decide)
        obtain ⟨f19, hM19, hf19⟩ := hW.open_35 hc18
        have hy3 : (ax M b12 3) = f19 := (congrFun hV.2.2.1 3).symm.trans (ax_of hM17 (by decide) hv18 hM19)
        have h3nn : ∀ d, d < 1000 → 0 ≤ (ax M b12 3 d).toInt := fun d hd => by
          obtain ⟨c, hc, e⟩ := hf19 d hd
          rw [hy3, e, nI_toInt (by omega)]
          omega
        refine lv_aload_n hx hb dX13_house_48 rfl (lv_at hl 0 rfl) ?_
        refine lv_iload_n hx hb dX13_house_49 rfl (lv_at hl 2 rfl) ?_
        refine pg_putN (D := D) (ci := 12) (v := .int (nI j_15)) (ty := .int) (C := RX12) (T := TX12) (N := 51) hx hb hg inG12 tyX12 tyX12_ok nmX12 hown hK hP hD hS hb_14.1 hM17 rfl 0 (by decide) (hN.use (Cond.fieldLinkNest RX13 77 RX12 "first" "I" RX13) 9 rfl rfl) (fun _ h9 => h9) rfl (by decide +kernel) rfl rfl (by rw [hn17]; decide) dX13_house_50 (fun H_20 locs hP hD hS => ?_)
        have hs_23 : (fs17.set 0 (.int (nI j_15)))[0]? = some (.int (nI j_15)) := List.getElem?_set_self (by rw [hn17]; decide)
        have hk_22 := fld12_set (k := 0) (w := .int (nI j_15)) hl17 (show fld12 K L 0 (fs17.set 0 (.int (nI j_15))) from ⟨j_15, hs_23, by omega⟩)
        have hn_24 : (fs17.set 0 (.int (nI j_15))).length = 51 := by rw [List.length_set]; exact hn17
        have hv_25 : (fs17.set 0 (.int (nI j_15)))[3]? = some (.ref v18) := by rw [List.getElem?_set_ne (by decide)]; exact hv18
        have hb_26 : j_15 ≤ 999 := by omega
        obtain ⟨M_27, eM_27⟩ : ∃ M1 : Hp, M1 = va_up M b12 (.inr (12, fs17.set 0 (.int (nI j_15)))) := ⟨_, rfl⟩
        have hV : VW K L M M_27 b12 (va_up (fx M b12) 0 ((j_15 : Nat) : Int)) (ax M b12) := by rw [eM_27]; exact hV.put hW hb_14 hM17 hn17 rfl (by decide) rfl (nI_toInt (by omega))
        have hP : va_P D vwCl ([(za, .inr (13, [.int 0, .ref z1, .int (nI z2), .int (nI z3), .int z4, .int z5, .ref z6, .ref z7, .ref z8, .ref z9, .int (nI z10), .ref z11, .ref z12, .ref z13, .ref z14, .ref z15, .int (nI z16), .ref z17, .int z18, .ref z19]))] ++ va_pl L M_27) H_20 := by rw [eM_27]; exact hP
        have hD : va_D A ([(za, .inr (13, [.int 0, .ref z1, .int (nI z2), .int (nI z3), .int z4, .int z5, .ref z6, .ref z7, .ref z8, .ref z9, .int (nI z10), .ref z11, .ref z12, .ref z13, .ref z14, .ref z15, .int (nI z16), .ref z17, .int z18, .ref z19]))] ++ va_pl L M_27) := by rw [eM_27]; exact hD
        have hW : WOM cy K L M_27 := by rw [eM_27]; exact hW.up_12 hb_14 ⟨_, rfl, hn_24, hk_22⟩
        have hF : fr K L [12, 37] M M_27 := by rw [eM_27]; exact hF.up hb_14 (by decide)
        have hG : fG K L [0, 1] M M_27 := by rw [eM_27]; exact hG.up hM17 (by decide)
        have hM_28 : M_27 b12 = .inr (12, fs17.set 0 (.int (nI j_15))) := by rw [eM_27]; exact va_up_self _ _ _
        have hM_29 : M_27 z1 = .inl (cy 23, 8, .inr (.inr (.inr (.inr (f10))))) := by rw [eM_27, va_up_ne _ _ (i1.neT hb_14 (by decide))]; exact hM10
        have hM_30 : M_27 v18 = .inl (cy 14, 1000, .inl (f19)) := by rw [eM_27, va_up_ne _ _ (hc18.neT hb_14 (by decide))]; exact hM19
        refine lv_aload_n hx hb dX13_house_53 rfl (lv_at hl 0 rfl) ?_
        refine lv_iload_n hx hb dX13_house_54 rfl (lv_at hl 2 rfl) ?_
        refine lv_iconst (v := 1) hx hb dX13_house_55 (by decide) ?_
        refine lv_isub hx hb dX13_house_56 ?_
        refine lv_topi (fun f_31 ef_31 => ?_)
        rcases Nat.eq_zero_or_pos j_15 with hz0 | hz1
        · obtain rfl : f_31 = (-1) := by rw [ef_31, hz0]; decide
          refine pg_putN (D := D) (ci := 12) (v := .int (-1)) (ty := .int) (C := RX12) (T := TX12) (N := 51) hx hb hg inG12 tyX12 tyX12_ok nmX12 hown hK hP hD hS hb_14.1 hM_28 rfl 1 (by decide) (hN.use (Cond.fieldLinkNest RX13 80 RX12 "to" "I" RX13) 10 rfl rfl) (fun _ h9 => h9) rfl (by decide +kernel) rfl rfl (by rw [hn_24]; decide) dX13_house_57 (fun H_32 locs hP hD hS => ?_)
          have hs_35 : ((fs17.set 0 (.int (nI j_15))).set 1 (.int (-1)))[1]? = some (.int (-1)) := List.getElem?_set_self (by rw [hn_24]; decide)
          have hk_34 := fld12_set (k := 1) (w := .int (-1)) hk_22 (show fld12 K L 1 ((fs17.set 0 (.int (nI j_15))).set 1 (.int (-1))) from ⟨(-1), hs_35, Or.inl rfl⟩)
          have hn_36 : ((fs17.set 0 (.int (nI j_15))).set 1 (.int (-1))).length = 51 := by rw [List.length_set]; exact hn_24
          have hv_37 : ((fs17.set 0 (.int (nI j_15))).set 1 (.int (-1)))[3]? = some (.ref v18) := by rw [List.getElem?_set_ne (by decide)]; exact hv_25
          have hv_38 : ((fs17.set 0 (.int (nI j_15))).set 1 (.int (-1)))[0]? = some (.int (nI j_15)) := by rw [List.getElem?_set_ne (by decide)]; exact hs_23
          obtain ⟨M_39, eM_39⟩ : ∃ M1 : Hp, M1 = va_up M_27 b12 (.inr (12, (fs17.set 0 (.int (nI j_15))).set 1 (.int (-1)))) := ⟨_, rfl⟩
          have hV : VW K L M M_39 b12 (va_up (va_up (fx M b12) 0 ((j_15 : Nat) : Int)) 1 ((-1) : Int)) (ax M b12) := by rw [eM_39]; exact hV.put hW hb_14 hM_28 hn_24 rfl (by decide) rfl (by decide)
          have hP : va_P D vwCl ([(za, .inr (13, [.int 0, .ref z1, .int (nI z2), .int (nI z3), .int z4, .int z5, .ref z6, .ref z7, .ref z8, .ref z9, .int (nI z10), .ref z11, .ref z12, .ref z13, .ref z14, .ref z15, .int (nI z16), .ref z17, .int z18, .ref z19]))] ++ va_pl L M_39) H_32 := by rw [eM_39]; exact hP
          have hD : va_D A ([(za, .inr (13, [.int 0, .ref z1, .int (nI z2), .int (nI z3), .int z4, .int z5, .ref z6, .ref z7, .ref z8, .ref z9, .int (nI z10), .ref z11, .ref z12, .ref z13, .ref z14, .ref z15, .int (nI z16), .ref z17, .int z18, .ref z19]))] ++ va_pl L M_39) := by rw [eM_39]; exact hD
          have hW : WOM cy K L M_39 := by rw [eM_39]; exact hW.up_12 hb_14 ⟨_, rfl, hn_36, hk_34⟩
          have hF : fr K L [12, 37] M M_39 := by rw [eM_39]; exact hF.up hb_14 (by decide)
          have hG : fG K L [0, 1] M M_39 := by rw [eM_39]; exact hG.up hM_28 (by decide)
          have hM_40 : M_39 b12 = .inr (12, (fs17.set 0 (.int (nI j_15))).set 1 (.int (-1))) := by rw [eM_39]; exact va_up_self _ _ _
          have hM_41 : M_39 z1 = .inl (cy 23, 8, .inr (.inr (.inr (.inr (f10))))) := by rw [eM_39, va_up_ne _ _ (i1.neT hb_14 (by decide))]; exact hM_29
          have hM_42 : M_39 v18 = .inl (cy 14, 1000, .inl (f19)) := by rw [eM_39, va_up_ne _ _ (hc18.neT hb_14 (by decide))]; exact hM_30
          refine lv_iconst (v := 0) hx hb dX13_house_60 (by decide) ?_
          refine lv_istore_n (lv' := [(3, .int 0), (2, .ref b12), (0, .ref za), (1, .int (nI j_15))]) hx hb dX13_house_61 rfl hl (by decide) rfl (fun ls hl => ?_)
          have key_43 : ∀ (fu_45 : Nat) (v3w46 : Nat) (gw46 : Nat → Int32) (M_49 : Hp) (H_50 : Heap) (locs : List Loc) (ls : Array Slot), 1000 - v3w46 < fu_45 → M_49 b12 = .inr (12, (fs17.set 0 (.int (nI j_15))).set 1 (.int (-1))) → v3w46 ≤ 1000 → (∀ i : Nat, i < v3w46 → gw46 i = -1) → WOM cy K L M_49 → fr K L [12, 37] M M_49 → fG K L [0, 1] M M_49 → VW K L M M_49 b12 (va_up (va_up (fx M b12) 0 ((j_15 : Nat) : Int)) 1 ((-1) : Int)) (va_up (ax M b12) 2 gw46) → va_P D vwCl ([(za, .inr (13, [.int 0, .ref z1, .int (nI z2), .int (nI z3), .int z4, .int z5, .ref z6, .ref z7, .ref z8, .ref z9, .int (nI z10), .ref z11, .ref z12, .ref z13, .ref z14, .ref z15, .int (nI z16), .ref z17, .int z18, .ref z19]))] ++ va_pl L M_49) H_50 → va_D A ([(za, .inr (13, [.int 0, .ref z1, .int (nI z2), .int (nI z3), .int z4, .int z5, .ref z6, .ref z7, .ref z8, .ref z9, .int (nI z10), .ref z11, .ref z12, .ref z13, .ref z14, .ref z15, .int (nI z16), .ref z17, .int z18, .ref z19]))] ++ va_pl L M_49) → va_S A s.heap H_50 locs → lv_has ls 4 [(3, .int (nI v3w46)), (2, .ref b12), (0, .ref za), (1, .int (nI j_15))] → W p l e R s m ([.ref za, .int (nI j_15)] : List Value).toArray below meth c H_50 locs 0 0 Q (F0 m 62 ls []) := by
            intro fu_45
            induction fu_45 with
            | zero => intro v3w46 gw46 M_49 H_50 locs ls h; exact absurd h (Nat.not_lt_zero _)
            | succ fu_45 ih_44 =>
              intro v3w46 gw46 M_49 H_50 locs ls hfu hM_51 hx_47 hx_48 hW hF hG hV hP hD hS hl
              refine lv_iload_n hx hb dX13_house_62 rfl (lv_at hl 0 rfl) ?_
              refine lv_sipush (v := 1000) hx hb dX13_house_63 (by decide) ?_
              refine lv_icmp_ge (tgt := 82) hx hb dX13_house_66 (by decide) (fun c_52 => ?_) (fun c_52 => ?_)
              · have hz := rfl (a := 0)
                have n_53 : 1000 ≤ v3w46 := (iLE (a := 1000) (b := v3w46) (by omega) (by omega)).mp c_52
                refine lv_aload_n hx hb dX13_house_82 rfl (lv_at hl 2 rfl) ?_
                refine lv_dup hx hb dX13_house_83 rfl ?_
                refine va_get (D := D) (ci := 13) (v := .int (nI z2)) (C := RX13) (T := TX13) (N := 20) hx hb hg inG13 hown hK hP 0 rfl rfl 2 (by decide) (hg _ wd_713) (fun _ h9 => h9) rfl dX13_house_84 ?_
                refine lv_iconst (v := 1) hx hb dX13_house_87 (by decide) ?_
                refine lv_iadd hx hb dX13_house_88 ?_
                refine lv_topi (fun f_54 ef_54 => ?_)
                obtain rfl : f_54 = (nI (z2 + 1)) := ef_54.trans (nI_add z2 1)
                refine va_put (D := D) (ci := 13) (v := .int (nI (z2 + 1))) (ty := .int) (C := RX13) (T := TX13) (N := 20) hx hb hg inG13 tyX13 tyX13_ok nmX13 hown hK hP hD hS 0 rfl rfl 2 (by decide) (hg _ wd_713) (fun _ h9 => h9) rfl (by decide +kernel) rfl rfl (Nat.le_of_ble_eq_true rfl) dX13_house_89 (fun H_55 locs hP hD hS => ?_)
                have hP : va_P D vwCl ([(za, .inr (13, [.int 0, .ref z1, .int (nI (z2 + 1)), .int (nI z3), .int z4, .int z5, .ref z6, .ref z7, .ref z8, .ref z9, .int (nI z10), .ref z11, .ref z12, .ref z13, .ref z14, .ref z15, .int (nI z16), .ref z17, .int z18, .ref z19]))] ++ va_pl L M_49) H_55 := hP
                have hD : va_D A ([(za, .inr (13, [.int 0, .ref z1, .int (nI (z2 + 1)), .int (nI z3), .int z4, .int z5, .ref z6, .ref z7, .ref z8, .ref z9, .int (nI z10), .ref z11, .ref z12, .ref z13, .ref z14, .ref z15, .int (nI z16), .ref z17, .int z18, .ref z19]))] ++ va_pl L M_49) := hD
                refine lv_aload_n hx hb dX13_house_92 rfl (lv_at hl 2 rfl) ?_
                refine lv_aload_n hx hb dX13_house_93 rfl (lv_at hl 2 rfl) ?_
                refine va_get (D := D) (ci := 13) (v := .int (nI (z2 + 1))) (C := RX13) (T := TX13) (N := 20) hx hb hg inG13 hown hK hP 0 rfl rfl 2 (by decide) (hg _ wd_713) (fun _ h9 => h9) rfl dX13_house_94 ?_
                refine lv_iconst (v := 1) hx hb dX13_house_97 (by decide) ?_
                refine lv_isub hx hb dX13_house_98 ?_
                refine lv_topi (fun f_56 ef_56 => ?_)
                obtain rfl : f_56 = (nI ((z2 + 1) - 1)) := ef_56.trans (nI_prd (by omega))
                have hPc := hP.sub (ws' := [(za, .inr (13, [.int 0, .ref z1, .int (nI (z2 + 1)), .int (nI z3), .int z4, .int z5, .ref z6, .ref z7, .ref z8, .ref z9, .int (nI z10), .ref z11, .ref z12, .ref z13, .ref z14, .ref z15, .int (nI z16), .ref z17, .int z18, .ref z19]))]) [0] rfl
                have hDc := hD.sub (ws' := [(za, .inr (13, [.int 0, .ref z1, .int (nI (z2 + 1)), .int (nI z3), .int z4, .int z5, .ref z6, .ref z7, .ref z8, .ref z9, .int (nI z10), .ref z11, .ref z12, .ref z13, .ref z14, .ref z15, .int (nI z16), .ref z17, .int z18, .ref z19]))]) [0] (by decide) rfl
                have hKc := hK.sub (tys' := []) [] rfl
                have hFc := va_free (wc := [(za, .inr (13, [.int 0, .ref z1, .int (nI (z2 + 1)), .int (nI z3), .int z4, .int z5, .ref z6, .ref z7, .ref z8, .ref z9, .int (nI z10), .ref z11, .ref z12, .ref z13, .ref z14, .ref z15, .int (nI z16), .ref z17, .int z18, .ref z19]))]) hD hS hA [0] rfl
                refine va_calli (va_runV (As := [.int (nI ((z2 + 1) - 1))]) (rest := []) ⟨hx, hb, hml, hown, hg⟩ (m_done l D H_55.size za 0 z1 (nI (z2 + 1)) (nI z3) z4 z5 z6 z7 z8 z9 (nI z10) z11 z12 z13 z14 z15 (nI z16) z17 z18 z19 (nI ((z2 + 1) - 1))) (cwV 1 hg (gV wd_730 wd_731 wd_732 wd_717 wd_733) rfl rfl rfl (by decide +kernel) ⟨(Nat.le_trans (Nat.le_of_ble_eq_true rfl) hRf), (Nat.le_trans (Nat.le_of_ble_eq_true rfl) hRl)⟩) ⟨Pr.blind, va_recv hK hP (ci := 13) (q0 := 0) rfl rfl, fun U hU hW => ⟨rfl, Pr.at hPc hKc hDc hN hU hW⟩⟩ rfl rfl hl.1 rfl (lv_room (Nat.le_of_ble_eq_true rfl)) dX13_house_99 ⟨(Nat.le_trans (Nat.le_of_ble_eq_true rfl) hRc), (Nat.le_trans (Nat.le_of_ble_eq_true rfl) hRs)⟩) hS (fun q _ h => hFc q h) hFc (fun r_58 M_59 t H_57 locs ht hvm hw hB hz1 hk1 hS => ?_)
                have hp_60 := hw
                obtain ⟨hP1, hK1, hD1⟩ := hB
                rw [ht] at hP1
                obtain ⟨hP, hD⟩ := va_joinQ (X := [(za, .inr (13, [.int 0, .ref z1, .int (nI (z2 + 1)), .int (nI z3), .int z4, .int z5, .ref z6, .ref z7, .ref z8, .ref z9, .int (nI z10), .ref z11, .ref z12, .ref z13, .ref z14, .ref z15, .int (nI z16), .ref z17, .int z18, .ref z19]))]) (cx := [(za, .inr (13, [.int 0, .ref z1, .int (nI (z2 + 1)), .int (nI z3), .int z4, .int z5, .ref z6, .ref z7, .ref z8, .ref z9, .int (nI z10), .ref z11, .ref z12, .ref z13, .ref z14, .ref z15, .int (nI z16), .ref z17, .int z18, .ref z19]))]) (wr := []) (w1 := [(za, .inr (13, [.int 0, .ref z1, .int (nI (z2 + 1)), .int (nI z3), .int 0, .int (-1), .ref z6, .ref z7, .ref z8, .ref z9, .int (nI z10), .ref z11, .ref z12, .ref z13, .ref z14, .ref z15, .int (nI z16), .ref z17, .int z18, .ref z19]))]) (pl := va_pl L M_49) hP hD [0] [] rfl rfl (by decide) (by decide) hk1 hFc hP1 hD1
                have hP : va_P D vwCl ([(za, .inr (13, [.int 0, .ref z1, .int (nI (z2 + 1)), .int (nI z3), .int 0, .int (-1), .ref z6, .ref z7, .ref z8, .ref z9, .int (nI z10), .ref z11, .ref z12, .ref z13, .ref z14, .ref z15, .int (nI z16), .ref z17, .int z18, .ref z19]))] ++ va_pl L M_49) H_57 := hP
                have hD : va_D A ([(za, .inr (13, [.int 0, .ref z1, .int (nI (z2 + 1)), .int (nI z3), .int 0, .int (-1), .ref z6, .ref z7, .ref z8, .ref z9, .int (nI z10), .ref z11, .ref z12, .ref z13, .ref z14, .ref z15, .int (nI z16), .ref z17, .int z18, .ref z19]))] ++ va_pl L M_49) := hD
                have hq := Eq.symm hp_60
                subst hq
                have hE : cntH (nI j_15) z2 = (z2 + 1) := by unfold cntH; rw [if_neg c_2, if_pos c_7, if_neg (by omega)]
                have hP : va_P D vwCl ([(za, .inr (13, [.int 0, .ref z1, .int (nI (cntH (nI j_15) z2)), .int (nI z3), .int 0, .int (-1), .ref z6, .ref z7, .ref z8, .ref z9, .int (nI z10), .ref z11, .ref z12, .ref z13, .ref z14, .ref z15, .int (nI z16), .ref z17, .int z18, .ref z19]))] ++ va_pl L M_49) H_57 := by rw [hE]; exact hP
                have hD : va_D A ([(za, .inr (13, [.int 0, .ref z1, .int (nI (cntH (nI j_15) z2)), .int (nI z3), .int 0, .int (-1), .ref z6, .ref z7, .ref z8, .ref z9, .int (nI z10), .ref z11, .ref z12, .ref z13, .ref z14, .ref z15, .int (nI z16), .ref z17, .int z18, .ref z19]))] ++ va_pl L M_49) := by rw [hE]; exact hD
                have hH9 : HI (va_up (va_up (fx M b12) 0 ((j_15 : Nat) : Int)) 1 ((-1) : Int)) (va_up (ax M b12) 2 gw46) := HI.house hFR (fun j hj => by rcases hj with rfl | rfl | rfl | rfl | rfl | rfl | rfl <;> rfl) (show ((-1) : Int) = ((j_15 : Nat) : Int) - 1 by omega) (fun d hd => hx_48 d (by omega)) (fun d hd => h3nn d hd)
                have hGI9 : GI K L z1 (cntH (nI j_15) z2) M_49 := by rw [show cntH (nI j_15) z2 = z2 + 1 from by unfold cntH; rw [if_neg c_2, if_pos c_7, if_neg (by omega)]]; exact GI.house hW0 i1 (by omega) hGI hact hV (hF.at i1 (by decide)) hH9
                rw [hQ]
                exact W.iret (v := (nI ((z2 + 1) - 1))) hx hb hr (fun t ht hW9 => ⟨⟨(nI ((z2 + 1) - 1)), M_49, rfl, ⟨hW, hF, hG, hGI9, (by unfold ansH; rw [if_neg c_2, if_pos c_7, if_neg (by omega)]; first | done | rfl)⟩, ⟨0, (-1), by rw [ht]; exact hP, hD⟩⟩, hS.F ht⟩) hS.2.2 dX13_house_102
              · have hz := rfl (a := 0)
                have n_61 : ¬ (1000 ≤ v3w46) := fun q => c_52 ((iLE (a := 1000) (b := v3w46) (by omega) (by omega)).mpr q)
                refine lv_aload_n hx hb dX13_house_69 rfl (lv_at hl 1 rfl) ?_
                obtain ⟨v62, hv62, hc62⟩ : ∃ v : Nat, ((fs17.set 0 (.int (nI j_15))).set 1 (.int (-1)))[2]? = some (.ref v : Value) ∧ isk K L v 37 1000 := hk_34 2 (by decide)
                refine pg_getN (D := D) (ci := 12) (v := .ref v62) (C := RX12) (T := TX12) (N := 51) hx hb hg inG12 hown hK hP hb_14.1 hM_51 rfl 2 (by decide) (hN.use (Cond.fieldLinkNest RX13 83 RX12 "places" "[I" RX13) 11 rfl rfl) (fun _ h9 => h9) hv62 dX13_house_70 ?_
                refine lv_iload_n hx hb dX13_house_73 rfl (lv_at hl 0 rfl) ?_
                refine lv_iconst (v := (-1)) hx hb dX13_house_74 (by decide) ?_
                obtain ⟨f63, hM63, hf63⟩ := hW.open_37 hc62
                refine pg_iast hx hb hK hP hD hS hc62.1 0 hM63 rfl (inbN v3w46 1000 (by omega) (by omega)) dX13_house_75 (fun H_64 locs hP hD hS => ?_)
                obtain ⟨M_65, eM_65⟩ : ∃ M1 : Hp, M1 = va_up M_49 v62 (.inl (cy 14, 1000, .inl (upd f63 ((nI v3w46) : Int32).toNatClampNeg (-1)))) := ⟨_, rfl⟩
                have hy2 : gw46 = f63 := (congrFun hV.2.2.1 2).symm.trans (ax_of hM_51 (by decide) hv62 hM63)
                have hV : VW K L M M_65 b12 (va_up (va_up (fx M b12) 0 ((j_15 : Nat) : Int)) 1 ((-1) : Int)) (va_up (va_up (ax M b12) 2 gw46) 2 (upd gw46 ((nI v3w46) : Int32).toNatClampNeg (-1))) := by rw [eM_65]; exact hV.ast (j := 2) hW hb_14 hM_51 (by decide) hv62 hc62 hM63
                have hP : va_P D vwCl ([(za, .inr (13, [.int 0, .ref z1, .int (nI z2), .int (nI z3), .int z4, .int z5, .ref z6, .ref z7, .ref z8, .ref z9, .int (nI z10), .ref z11, .ref z12, .ref z13, .ref z14, .ref z15, .int (nI z16), .ref z17, .int z18, .ref z19]))] ++ va_pl L M_65) H_64 := by rw [eM_65]; exact hP
                have hD : va_D A ([(za, .inr (13, [.int 0, .ref z1, .int (nI z2), .int (nI z3), .int z4, .int z5, .ref z6, .ref z7, .ref z8, .ref z9, .int (nI z10), .ref z11, .ref z12, .ref z13, .ref z14, .ref z15, .int (nI z16), .ref z17, .int z18, .ref z19]))] ++ va_pl L M_65) := by rw [eM_65]; exact hD
                have hW : WOM cy K L M_65 := by rw [eM_65]; exact hW.up_37 hc62 ⟨_, rfl, (updP (P := fun z => (z = -1 ∨ ∃ c : Nat, c < 7 ∧ z = nI c)) hf63 (Or.inl rfl))⟩
                have hF : fr K L [12, 37] M M_65 := by rw [eM_65]; exact hF.up hc62 (by decide)
                have hG : fG K L [0, 1] M M_65 := by rw [eM_65]; exact hG.arr hc62 (by decide)
                have hM_66 : M_65 v62 = .inl (cy 14, 1000, .inl (upd f63 ((nI v3w46) : Int32).toNatClampNeg (-1))) := by rw [eM_65]; exact va_up_self _ _ _
                have hM_67 : M_65 b12 = .inr (12, (fs17.set 0 (.int (nI j_15))).set 1 (.int (-1))) := by rw [eM_65, va_up_ne _ _ (hb_14.neT hc62 (by decide))]; exact hM_51
                have hf_69 : ∀ j, j < 1000 → ((upd f63 ((nI v3w46) : Int32).toNatClampNeg (-1)) j = -1 ∨ ∃ c : Nat, c < 7 ∧ (upd f63 ((nI v3w46) : Int32).toNatClampNeg (-1)) j = nI c) := (updP (P := fun z => (z = -1 ∨ ∃ c : Nat, c < 7 ∧ z = nI c)) hf63 (Or.inl rfl))
                obtain ⟨f_68, ef_68⟩ : ∃ f : Nat → Int32, f = upd f63 ((nI v3w46) : Int32).toNatClampNeg (-1) := ⟨_, rfl⟩
                rw [← ef_68] at hM_66 hf_69
                refine lv_iinc (v := (nI (v3w46 + 1))) (lv' := [(3, .int (nI (v3w46 + 1))), (2, .ref b12), (0, .ref za), (1, .int (nI j_15))]) hx hb dX13_house_76 hl (k := 0) rfl (nI_1 v3w46) (by decide) rfl (fun ls hl => ?_)
                refine lv_goto (tgt := 62) hx hb dX13_house_79 (by decide) ?_
                exact ih_44 (v3w46 + 1) (upd gw46 ((nI v3w46) : Int32).toNatClampNeg (-1)) M_65 H_64 _ _ (by omega) hM_67 (by omega) (fill1 hx_48 (nI_cl (by omega))) hW hF hG (by have h := hV; simp only [va_up_up] at h; exact h) hP hD hS (lv_sub hl [0, 1, 2, 3] rfl)
          exact key_43 (1000 - 0 + 1) 0 (ax M b12 2) M_39 H_32 _ _ (by omega) hM_40 (by omega) (fun i h => absurd h (by omega)) hW hF hG (by rw [va_up_id]; exact hV) hP hD hS (lv_sub hl [0, 1, 2, 3] rfl)
        · obtain rfl : f_31 = (nI (j_15 - 1)) := ef_31.trans (nI_prd hz1)
          refine pg_putN (D := D) (ci := 12) (v := .int (nI (j_15 - 1))) (ty := .int) (C := RX12) (T := TX12) (N := 51) hx hb hg inG12 tyX12 tyX12_ok nmX12 hown hK hP hD hS hb_14.1 hM_28 rfl 1 (by decide) (hN.use (Cond.fieldLinkNest RX13 80 RX12 "to" "I" RX13) 10 rfl rfl) (fun _ h9 => h9) rfl (by decide +kernel) rfl rfl (by rw [hn_24]; decide) dX13_house_57 (fun H_70 locs hP hD hS => ?_)
          have hs_73 : ((fs17.set 0 (.int (nI j_15))).set 1 (.int (nI (j_15 - 1))))[1]? = some (.int (nI (j_15 - 1))) := List.getElem?_set_self (by rw [hn_24]; decide)
          have hk_72 := fld12_set (k := 1) (w := .int (nI (j_15 - 1))) hk_22 (show fld12 K L 1 ((fs17.set 0 (.int (nI j_15))).set 1 (.int (nI (j_15 - 1)))) from ⟨(nI (j_15 - 1)), hs_73, Or.inr ⟨(j_15 - 1), by omega, rfl⟩⟩)
          have hn_74 : ((fs17.set 0 (.int (nI j_15))).set 1 (.int (nI (j_15 - 1)))).length = 51 := by rw [List.length_set]; exact hn_24
          have hv_75 : ((fs17.set 0 (.int (nI j_15))).set 1 (.int (nI (j_15 - 1))))[3]? = some (.ref v18) := by rw [List.getElem?_set_ne (by decide)]; exact hv_25
          have hv_76 : ((fs17.set 0 (.int (nI j_15))).set 1 (.int (nI (j_15 - 1))))[0]? = some (.int (nI j_15)) := by rw [List.getElem?_set_ne (by decide)]; exact hs_23
          obtain ⟨M_77, eM_77⟩ : ∃ M1 : Hp, M1 = va_up M_27 b12 (.inr (12, (fs17.set 0 (.int (nI j_15))).set 1 (.int (nI (j_15 - 1))))) := ⟨_, rfl⟩
          have hV : VW K L M M_77 b12 (va_up (va_up (fx M b12) 0 ((j_15 : Nat) : Int)) 1 (((j_15 - 1) : Nat) : Int)) (ax M b12) := by rw [eM_77]; exact hV.put hW hb_14 hM_28 hn_24 rfl (by decide) rfl (nI_toInt (by omega))
          have hP : va_P D vwCl ([(za, .inr (13, [.int 0, .ref z1, .int (nI z2), .int (nI z3), .int z4, .int z5, .ref z6, .ref z7, .ref z8, .ref z9, .int (nI z10), .ref z11, .ref z12, .ref z13, .ref z14, .ref z15, .int (nI z16), .ref z17, .int z18, .ref z19]))] ++ va_pl L M_77) H_70 := by rw [eM_77]; exact hP
          have hD : va_D A ([(za, .inr (13, [.int 0, .ref z1, .int (nI z2), .int (nI z3), .int z4, .int z5, .ref z6, .ref z7, .ref z8, .ref z9, .int (nI z10), .ref z11, .ref z12, .ref z13, .ref z14, .ref z15, .int (nI z16), .ref z17, .int z18, .ref z19]))] ++ va_pl L M_77) := by rw [eM_77]; exact hD
          have hW : WOM cy K L M_77 := by rw [eM_77]; exact hW.up_12 hb_14 ⟨_, rfl, hn_74, hk_72⟩
          have hF : fr K L [12, 37] M M_77 := by rw [eM_77]; exact hF.up hb_14 (by decide)
          have hG : fG K L [0, 1] M M_77 := by rw [eM_77]; exact hG.up hM_28 (by decide)
          have hM_78 : M_77 b12 = .inr (12, (fs17.set 0 (.int (nI j_15))).set 1 (.int (nI (j_15 - 1)))) := by rw [eM_77]; exact va_up_self _ _ _
          have hM_79 : M_77 z1 = .inl (cy 23, 8, .inr (.inr (.inr (.inr (f10))))) := by rw [eM_77, va_up_ne _ _ (i1.neT hb_14 (by decide))]; exact hM_29
          have hM_80 : M_77 v18 = .inl (cy 14, 1000, .inl (f19)) := by rw [eM_77, va_up_ne _ _ (hc18.neT hb_14 (by decide))]; exact hM_30
          refine lv_iconst (v := 0) hx hb dX13_house_60 (by decide) ?_
          refine lv_istore_n (lv' := [(3, .int 0), (2, .ref b12), (0, .ref za), (1, .int (nI j_15))]) hx hb dX13_house_61 rfl hl (by decide) rfl (fun ls hl => ?_)
          have key_81 : ∀ (fu_83 : Nat) (v3w84 : Nat) (gw84 : Nat → Int32) (M_87 : Hp) (H_88 : Heap) (locs : List Loc) (ls : Array Slot), 1000 - v3w84 < fu_83 → M_87 b12 = .inr (12, (fs17.set 0 (.int (nI j_15))).set 1 (.int (nI (j_15 - 1)))) → v3w84 ≤ 1000 → (∀ i : Nat, i < v3w84 → gw84 i = -1) → WOM cy K L M_87 → fr K L [12, 37] M M_87 → fG K L [0, 1] M M_87 → VW K L M M_87 b12 (va_up (va_up (fx M b12) 0 ((j_15 : Nat) : Int)) 1 (((j_15 - 1) : Nat) : Int)) (va_up (ax M b12) 2 gw84) → va_P D vwCl ([(za, .inr (13, [.int 0, .ref z1, .int (nI z2), .int (nI z3), .int z4, .int z5, .ref z6, .ref z7, .ref z8, .ref z9, .int (nI z10), .ref z11, .ref z12, .ref z13, .ref z14, .ref z15, .int (nI z16), .ref z17, .int z18, .ref z19]))] ++ va_pl L M_87) H_88 → va_D A ([(za, .inr (13, [.int 0, .ref z1, .int (nI z2), .int (nI z3), .int z4, .int z5, .ref z6, .ref z7, .ref z8, .ref z9, .int (nI z10), .ref z11, .ref z12, .ref z13, .ref z14, .ref z15, .int (nI z16), .ref z17, .int z18, .ref z19]))] ++ va_pl L M_87) → va_S A s.heap H_88 locs → lv_has ls 4 [(3, .int (nI v3w84)), (2, .ref b12), (0, .ref za), (1, .int (nI j_15))] → W p l e R s m ([.ref za, .int (nI j_15)] : List Value).toArray below meth c H_88 locs 0 0 Q (F0 m 62 ls []) := by
            intro fu_83
            induction fu_83 with
            | zero => intro v3w84 gw84 M_87 H_88 locs ls h; exact absurd h (Nat.not_lt_zero _)
            | succ fu_83 ih_82 =>
              intro v3w84 gw84 M_87 H_88 locs ls hfu hM_89 hx_85 hx_86 hW hF hG hV hP hD hS hl
              refine lv_iload_n hx hb dX13_house_62 rfl (lv_at hl 0 rfl) ?_
              refine lv_sipush (v := 1000) hx hb dX13_house_63 (by decide) ?_
              refine lv_icmp_ge (tgt := 82) hx hb dX13_house_66 (by decide) (fun c_90 => ?_) (fun c_90 => ?_)
              · have hz := rfl (a := 0)
                have n_91 : 1000 ≤ v3w84 := (iLE (a := 1000) (b := v3w84) (by omega) (by omega)).mp c_90
                refine lv_aload_n hx hb dX13_house_82 rfl (lv_at hl 2 rfl) ?_
                refine lv_dup hx hb dX13_house_83 rfl ?_
                refine va_get (D := D) (ci := 13) (v := .int (nI z2)) (C := RX13) (T := TX13) (N := 20) hx hb hg inG13 hown hK hP 0 rfl rfl 2 (by decide) (hg _ wd_713) (fun _ h9 => h9) rfl dX13_house_84 ?_
                refine lv_iconst (v := 1) hx hb dX13_house_87 (by decide) ?_
                refine lv_iadd hx hb dX13_house_88 ?_
                refine lv_topi (fun f_92 ef_92 => ?_)
                obtain rfl : f_92 = (nI (z2 + 1)) := ef_92.trans (nI_add z2 1)
                refine va_put (D := D) (ci := 13) (v := .int (nI (z2 + 1))) (ty := .int) (C := RX13) (T := TX13) (N := 20) hx hb hg inG13 tyX13 tyX13_ok nmX13 hown hK hP hD hS 0 rfl rfl 2 (by decide) (hg _ wd_713) (fun _ h9 => h9) rfl (by decide +kernel) rfl rfl (Nat.le_of_ble_eq_true rfl) dX13_house_89 (fun H_93 locs hP hD hS => ?_)
                have hP : va_P D vwCl ([(za, .inr (13, [.int 0, .ref z1, .int (nI (z2 + 1)), .int (nI z3), .int z4, .int z5, .ref z6, .ref z7, .ref z8, .ref z9, .int (nI z10), .ref z11, .ref z12, .ref z13, .ref z14, .ref z15, .int (nI z16), .ref z17, .int z18, .ref z19]))] ++ va_pl L M_87) H_93 := hP
                have hD : va_D A ([(za, .inr (13, [.int 0, .ref z1, .int (nI (z2 + 1)), .int (nI z3), .int z4, .int z5, .ref z6, .ref z7, .ref z8, .ref z9, .int (nI z10), .ref z11, .ref z12, .ref z13, .ref z14, .ref z15, .int (nI z16), .ref z17, .int z18, .ref z19]))] ++ va_pl L M_87) := hD
                refine lv_aload_n hx hb dX13_house_92 rfl (lv_at hl 2 rfl) ?_
                refine lv_aload_n hx hb dX13_house_93 rfl (lv_at hl 2 rfl) ?_
                refine va_get (D := D) (ci := 13) (v := .int (nI (z2 + 1))) (C := RX13) (T := TX13) (N := 20) hx hb hg inG13 hown hK hP 0 rfl rfl 2 (by decide) (hg _ wd_713) (fun _ h9 => h9) rfl dX13_house_94 ?_
                refine lv_iconst (v := 1) hx hb dX13_house_97 (by decide) ?_
                refine lv_isub hx hb dX13_house_98 ?_
                refine lv_topi (fun f_94 ef_94 => ?_)
                obtain rfl : f_94 = (nI ((z2 + 1) - 1)) := ef_94.trans (nI_prd (by omega))
                have hPc := hP.sub (ws' := [(za, .inr (13, [.int 0, .ref z1, .int (nI (z2 + 1)), .int (nI z3), .int z4, .int z5, .ref z6, .ref z7, .ref z8, .ref z9, .int (nI z10), .ref z11, .ref z12, .ref z13, .ref z14, .ref z15, .int (nI z16), .ref z17, .int z18, .ref z19]))]) [0] rfl
                have hDc := hD.sub (ws' := [(za, .inr (13, [.int 0, .ref z1, .int (nI (z2 + 1)), .int (nI z3), .int z4, .int z5, .ref z6, .ref z7, .ref z8, .ref z9, .int (nI z10), .ref z11, .ref z12, .ref z13, .ref z14, .ref z15, .int (nI z16), .ref z17, .int z18, .ref z19]))]) [0] (by decide) rfl
                have hKc := hK.sub (tys' := []) [] rfl
                have hFc := va_free (wc := [(za, .inr (13, [.int 0, .ref z1, .int (nI (z2 + 1)), .int (nI z3), .int z4, .int z5, .ref z6, .ref z7, .ref z8, .ref z9, .int (nI z10), .ref z11, .ref z12, .ref z13, .ref z14, .ref z15, .int (nI z16), .ref z17, .int z18, .ref z19]))]) hD hS hA [0] rfl
                refine va_calli (va_runV (As := [.int (nI ((z2 + 1) - 1))]) (rest := []) ⟨hx, hb, hml, hown, hg⟩ (m_done l D H_93.size za 0 z1 (nI (z2 + 1)) (nI z3) z4 z5 z6 z7 z8 z9 (nI z10) z11 z12 z13 z14 z15 (nI z16) z17 z18 z19 (nI ((z2 + 1) - 1))) (cwV 1 hg (gV wd_730 wd_731 wd_732 wd_717 wd_733) rfl rfl rfl (by decide +kernel) ⟨(Nat.le_trans (Nat.le_of_ble_eq_true rfl) hRf), (Nat.le_trans (Nat.le_of_ble_eq_true rfl) hRl)⟩) ⟨Pr.blind, va_recv hK hP (ci := 13) (q0 := 0) rfl rfl, fun U hU hW => ⟨rfl, Pr.at hPc hKc hDc hN hU hW⟩⟩ rfl rfl hl.1 rfl (lv_room (Nat.le_of_ble_eq_true rfl)) dX13_house_99 ⟨(Nat.le_trans (Nat.le_of_ble_eq_true rfl) hRc), (Nat.le_trans (Nat.le_of_ble_eq_true rfl) hRs)⟩) hS (fun q _ h => hFc q h) hFc (fun r_96 M_97 t H_95 locs ht hvm hw hB hz1 hk1 hS => ?_)
                have hp_98 := hw
                obtain ⟨hP1, hK1, hD1⟩ := hB
                rw [ht] at hP1
                obtain ⟨hP, hD⟩ := va_joinQ (X := [(za, .inr (13, [.int 0, .ref z1, .int (nI (z2 + 1)), .int (nI z3), .int z4, .int z5, .ref z6, .ref z7, .ref z8, .ref z9, .int (nI z10), .ref z11, .ref z12, .ref z13, .ref z14, .ref z15, .int (nI z16), .ref z17, .int z18, .ref z19]))]) (cx := [(za, .inr (13, [.int 0, .ref z1, .int (nI (z2 + 1)), .int (nI z3), .int z4, .int z5, .ref z6, .ref z7, .ref z8, .ref z9, .int (nI z10), .ref z11, .ref z12, .ref z13, .ref z14, .ref z15, .int (nI z16), .ref z17, .int z18, .ref z19]))]) (wr := []) (w1 := [(za, .inr (13, [.int 0, .ref z1, .int (nI (z2 + 1)), .int (nI z3), .int 0, .int (-1), .ref z6, .ref z7, .ref z8, .ref z9, .int (nI z10), .ref z11, .ref z12, .ref z13, .ref z14, .ref z15, .int (nI z16), .ref z17, .int z18, .ref z19]))]) (pl := va_pl L M_87) hP hD [0] [] rfl rfl (by decide) (by decide) hk1 hFc hP1 hD1
                have hP : va_P D vwCl ([(za, .inr (13, [.int 0, .ref z1, .int (nI (z2 + 1)), .int (nI z3), .int 0, .int (-1), .ref z6, .ref z7, .ref z8, .ref z9, .int (nI z10), .ref z11, .ref z12, .ref z13, .ref z14, .ref z15, .int (nI z16), .ref z17, .int z18, .ref z19]))] ++ va_pl L M_87) H_95 := hP
                have hD : va_D A ([(za, .inr (13, [.int 0, .ref z1, .int (nI (z2 + 1)), .int (nI z3), .int 0, .int (-1), .ref z6, .ref z7, .ref z8, .ref z9, .int (nI z10), .ref z11, .ref z12, .ref z13, .ref z14, .ref z15, .int (nI z16), .ref z17, .int z18, .ref z19]))] ++ va_pl L M_87) := hD
                have hq := Eq.symm hp_98
                subst hq
                have hE : cntH (nI j_15) z2 = (z2 + 1) := by unfold cntH; rw [if_neg c_2, if_pos c_7, if_neg (by omega)]
                have hP : va_P D vwCl ([(za, .inr (13, [.int 0, .ref z1, .int (nI (cntH (nI j_15) z2)), .int (nI z3), .int 0, .int (-1), .ref z6, .ref z7, .ref z8, .ref z9, .int (nI z10), .ref z11, .ref z12, .ref z13, .ref z14, .ref z15, .int (nI z16), .ref z17, .int z18, .ref z19]))] ++ va_pl L M_87) H_95 := by rw [hE]; exact hP
                have hD : va_D A ([(za, .inr (13, [.int 0, .ref z1, .int (nI (cntH (nI j_15) z2)), .int (nI z3), .int 0, .int (-1), .ref z6, .ref z7, .ref z8, .ref z9, .int (nI z10), .ref z11, .ref z12, .ref z13, .ref z14, .ref z15, .int (nI z16), .ref z17, .int z18, .ref z19]))] ++ va_pl L M_87) := by rw [hE]; exact hD
                have hH9 : HI (va_up (va_up (fx M b12) 0 ((j_15 : Nat) : Int)) 1 (((j_15 - 1) : Nat) : Int)) (va_up (ax M b12) 2 gw84) := HI.house hFR (fun j hj => by rcases hj with rfl | rfl | rfl | rfl | rfl | rfl | rfl <;> rfl) (show (((j_15 - 1) : Nat) : Int) = ((j_15 : Nat) : Int) - 1 by omega) (fun d hd => hx_86 d (by omega)) (fun d hd => h3nn d hd)
                have hGI9 : GI K L z1 (cntH (nI j_15) z2) M_87 := by rw [show cntH (nI j_15) z2 = z2 + 1 from by unfold cntH; rw [if_neg c_2, if_pos c_7, if_neg (by omega)]]; exact GI.house hW0 i1 (by omega) hGI hact hV (hF.at i1 (by decide)) hH9
                rw [hQ]
                exact W.iret (v := (nI ((z2 + 1) - 1))) hx hb hr (fun t ht hW9 => ⟨⟨(nI ((z2 + 1) - 1)), M_87, rfl, ⟨hW, hF, hG, hGI9, (by unfold ansH; rw [if_neg c_2, if_pos c_7, if_neg (by omega)]; first | done | rfl)⟩, ⟨0, (-1), by rw [ht]; exact hP, hD⟩⟩, hS.F ht⟩) hS.2.2 dX13_house_102
              · have hz := rfl (a := 0)
                have n_99 : ¬ (1000 ≤ v3w84) := fun q => c_90 ((iLE (a := 1000) (b := v3w84) (by omega) (by omega)).mpr q)
                refine lv_aload_n hx hb dX13_house_69 rfl (lv_at hl 1 rfl) ?_
                obtain ⟨v100, hv100, hc100⟩ : ∃ v : Nat, ((fs17.set 0 (.int (nI j_15))).set 1 (.int (nI (j_15 - 1))))[2]? = some (.ref v : Value) ∧ isk K L v 37 1000 := hk_72 2 (by decide)
                refine pg_getN (D := D) (ci := 12) (v := .ref v100) (C := RX12) (T := TX12) (N := 51) hx hb hg inG12 hown hK hP hb_14.1 hM_89 rfl 2 (by decide) (hN.use (Cond.fieldLinkNest RX13 83 RX12 "places" "[I" RX13) 11 rfl rfl) (fun _ h9 => h9) hv100 dX13_house_70 ?_
                refine lv_iload_n hx hb dX13_house_73 rfl (lv_at hl 0 rfl) ?_
                refine lv_iconst (v := (-1)) hx hb dX13_house_74 (by decide) ?_
                obtain ⟨f101, hM101, hf101⟩ := hW.open_37 hc100
                refine pg_iast hx hb hK hP hD hS hc100.1 0 hM101 rfl (inbN v3w84 1000 (by omega) (by omega)) dX13_house_75 (fun H_102 locs hP hD hS => ?_)
                obtain ⟨M_103, eM_103⟩ : ∃ M1 : Hp, M1 = va_up M_87 v100 (.inl (cy 14, 1000, .inl (upd f101 ((nI v3w84) : Int32).toNatClampNeg (-1)))) := ⟨_, rfl⟩
                have hy2 : gw84 = f101 := (congrFun hV.2.2.1 2).symm.trans (ax_of hM_89 (by decide) hv100 hM101)
                have hV : VW K L M M_103 b12 (va_up (va_up (fx M b12) 0 ((j_15 : Nat) : Int)) 1 (((j_15 - 1) : Nat) : Int)) (va_up (va_up (ax M b12) 2 gw84) 2 (upd gw84 ((nI v3w84) : Int32).toNatClampNeg (-1))) := by rw [eM_103]; exact hV.ast (j := 2) hW hb_14 hM_89 (by decide) hv100 hc100 hM101
                have hP : va_P D vwCl ([(za, .inr (13, [.int 0, .ref z1, .int (nI z2), .int (nI z3), .int z4, .int z5, .ref z6, .ref z7, .ref z8, .ref z9, .int (nI z10), .ref z11, .ref z12, .ref z13, .ref z14, .ref z15, .int (nI z16), .ref z17, .int z18, .ref z19]))] ++ va_pl L M_103) H_102 := by rw [eM_103]; exact hP
                have hD : va_D A ([(za, .inr (13, [.int 0, .ref z1, .int (nI z2), .int (nI z3), .int z4, .int z5, .ref z6, .ref z7, .ref z8, .ref z9, .int (nI z10), .ref z11, .ref z12, .ref z13, .ref z14, .ref z15, .int (nI z16), .ref z17, .int z18, .ref z19]))] ++ va_pl L M_103) := by rw [eM_103]; exact hD
                have hW : WOM cy K L M_103 := by rw [eM_103]; exact hW.up_37 hc100 ⟨_, rfl, (updP (P := fun z => (z = -1 ∨ ∃ c : Nat, c < 7 ∧ z = nI c)) hf101 (Or.inl rfl))⟩
                have hF : fr K L [12, 37] M M_103 := by rw [eM_103]; exact hF.up hc100 (by decide)
                have hG : fG K L [0, 1] M M_103 := by rw [eM_103]; exact hG.arr hc100 (by decide)
                have hM_104 : M_103 v100 = .inl (cy 14, 1000, .inl (upd f101 ((nI v3w84) : Int32).toNatClampNeg (-1))) := by rw [eM_103]; exact va_up_self _ _ _
                have hM_105 : M_103 b12 = .inr (12, (fs17.set 0 (.int (nI j_15))).set 1 (.int (nI (j_15 - 1)))) := by rw [eM_103, va_up_ne _ _ (hb_14.neT hc100 (by decide))]; exact hM_89
                have hf_107 : ∀ j, j < 1000 → ((upd f101 ((nI v3w84) : Int32).toNatClampNeg (-1)) j = -1 ∨ ∃ c : Nat, c < 7 ∧ (upd f101 ((nI v3w84) : Int32).toNatClampNeg (-1)) j = nI c) := (updP (P := fun z => (z = -1 ∨ ∃ c : Nat, c < 7 ∧ z = nI c)) hf101 (Or.inl rfl))
                obtain ⟨f_106, ef_106⟩ : ∃ f : Nat → Int32, f = upd f101 ((nI v3w84) : Int32).toNatClampNeg (-1) := ⟨_, rfl⟩
                rw [← ef_106] at hM_104 hf_107
                refine lv_iinc (v := (nI (v3w84 + 1))) (lv' := [(3, .int (nI (v3w84 + 1))), (2, .ref b12), (0, .ref za), (1, .int (nI j_15))]) hx hb dX13_house_76 hl (k := 0) rfl (nI_1 v3w84) (by decide) rfl (fun ls hl => ?_)
                refine lv_goto (tgt := 62) hx hb dX13_house_79 (by decide) ?_
                exact ih_82 (v3w84 + 1) (upd gw84 ((nI v3w84) : Int32).toNatClampNeg (-1)) M_103 H_102 _ _ (by omega) hM_105 (by omega) (fill1 hx_86 (nI_cl (by omega))) hW hF hG (by have h := hV; simp only [va_up_up] at h; exact h) hP hD hS (lv_sub hl [0, 1, 2, 3] rfl)
          exact key_81 (1000 - 0 + 1) 0 (ax M b12 2) M_77 H_70 _ _ (by omega) hM_78 (by omega) (fun i h => absurd h (by omega)) hW hF hG (by rw [va_up_id]; exact hV) hP hD hS (lv_sub hl [0, 1, 2, 3] rfl)
      · have hz := rfl (a := 0)
        have n_108 : z2 = 8 := (iEQ (a := z2) (b := 8) (by omega) (by omega)).mp c_8
        refine lv_aload_n hx hb dX13_house_31 rfl (lv_at hl 0 rfl) ?_
        refine lv_bipush (v := 9) hx hb dX13_house_32 (by decide) ?_
        have hPc := hP.sub (ws' := [(za, .inr (13, [.int 0, .ref z1, .int (nI z2), .int (nI z3), .int z4, .int z5, .ref z6, .ref z7, .ref z8, .ref z9, .int (nI z10), .ref z11, .ref z12, .ref z13, .ref z14, .ref z15, .int (nI z16), .ref z17, .int z18, .ref z19]))]) [0] rfl
        have hDc := hD.sub (ws' := [(za, .inr (13, [.int 0, .ref z1, .int (nI z2), .int (nI z3), .int z4, .int z5, .ref z6, .ref z7, .ref z8, .ref z9, .int (nI z10), .ref z11, .ref z12, .ref z13, .ref z14, .ref z15, .int (nI z16), .ref z17, .int z18, .ref z19]))]) [0] (by decide) rfl
        have hKc := hK.sub (tys' := []) [] rfl
        have hFc := va_free (wc := [(za, .inr (13, [.int 0, .ref z1, .int (nI z2), .int (nI z3), .int z4, .int z5, .ref z6, .ref z7, .ref z8, .ref z9, .int (nI z10), .ref z11, .ref z12, .ref z13, .ref z14, .ref z15, .int (nI z16), .ref z17, .int z18, .ref z19]))]) hD hS hA [0] rfl
        refine va_calli (va_runV (As := [.int 9]) (rest := []) ⟨hx, hb, hml, hown, hg⟩ (m_refused l D H_1.size za 0 z1 (nI z2) (nI z3) z4 z5 z6 z7 z8 z9 (nI z10) z11 z12 z13 z14 z15 (nI z16) z17 z18 z19 9) (cwV 1 hg (gV wd_725 wd_726 wd_727 wd_717 wd_728) rfl rfl rfl (by decide +kernel) ⟨(Nat.le_trans (Nat.le_of_ble_eq_true rfl) hRf), (Nat.le_trans (Nat.le_of_ble_eq_true rfl) hRl)⟩) ⟨Pr.blind, va_recv hK hP (ci := 13) (q0 := 0) rfl rfl, fun U hU hW => ⟨rfl, Pr.at hPc hKc hDc hN hU hW⟩⟩ rfl rfl hl.1 rfl (lv_room (Nat.le_of_ble_eq_true rfl)) dX13_house_34 ⟨(Nat.le_trans (Nat.le_of_ble_eq_true rfl) hRc), (Nat.le_trans (Nat.le_of_ble_eq_true rfl) hRs)⟩) hS (fun q _ h => hFc q h) hFc (fun r_110 M_111 t H_109 locs ht hvm hw hB hz1 hk1 hS => ?_)
        have hp_112 := hw
        obtain ⟨hP1, hK1, hD1⟩ := hB
        rw [ht] at hP1
        obtain ⟨hP, hD⟩ := va_joinQ (X := [(za, .inr (13, [.int 0, .ref z1, .int (nI z2), .int (nI z3), .int z4, .int z5, .ref z6, .ref z7, .ref z8, .ref z9, .int (nI z10), .ref z11, .ref z12, .ref z13, .ref z14, .ref z15, .int (nI z16), .ref z17, .int z18, .ref z19]))]) (cx := [(za, .inr (13, [.int 0, .ref z1, .int (nI z2), .int (nI z3), .int z4, .int z5, .ref z6, .ref z7, .ref z8, .ref z9, .int (nI z10), .ref z11, .ref z12, .ref z13, .ref z14, .ref z15, .int (nI z16), .ref z17, .int z18, .ref z19]))]) (wr := []) (w1 := [(za, .inr (13, [.int 0, .ref z1, .int (nI z2), .int (nI z3), .int 9, .int (-1), .ref z6, .ref z7, .ref z8, .ref z9, .int (nI z10), .ref z11, .ref z12, .ref z13, .ref z14, .ref z15, .int (nI z16), .ref z17, .int z18, .ref z19]))]) (pl := va_pl L M) hP hD [0] [] rfl rfl (by decide) (by decide) hk1 hFc hP1 hD1
        have hP : va_P D vwCl ([(za, .inr (13, [.int 0, .ref z1, .int (nI z2), .int (nI z3), .int 9, .int (-1), .ref z6, .ref z7, .ref z8, .ref z9, .int (nI z10), .ref z11, .ref z12, .ref z13, .ref z14, .ref z15, .int (nI z16), .ref z17, .int z18, .ref z19]))] ++ va_pl L M) H_109 := hP
        have hD : va_D A ([(za, .inr (13, [.int 0, .ref z1, .int (nI z2), .int (nI z3), .int 9, .int (-1), .ref z6, .ref z7, .ref z8, .ref z9, .int (nI z10), .ref z11, .ref z12, .ref z13, .ref z14, .ref z15, .int (nI z16), .ref z17, .int z18, .ref z19]))] ++ va_pl L M) := hD
        have hq := Eq.symm hp_112
        subst hq
        have hE : cntH k1 z2 = z2 := by unfold cntH; rw [if_neg c_2, if_pos c_7, if_pos (by omega)]
        have hP : va_P D vwCl ([(za, .inr (13, [.int 0, .ref z1, .int (nI (cntH k1 z2)), .int (nI z3), .int 9, .int (-1), .ref z6, .ref z7, .ref z8, .ref z9, .int (nI z10), .ref z11, .ref z12, .ref z13, .ref z14, .ref z15, .int (nI z16), .ref z17, .int z18, .ref z19]))] ++ va_pl L M) H_109 := by rw [hE]; exact hP
        have hD : va_D A ([(za, .inr (13, [.int 0, .ref z1, .int (nI (cntH k1 z2)), .int (nI z3), .int 9, .int (-1), .ref z6, .ref z7, .ref z8, .ref z9, .int (nI z10), .ref z11, .ref z12, .ref z13, .ref z14, .ref z15, .int (nI z16), .ref z17, .int z18, .ref z19]))] ++ va_pl L M) := by rw [hE]; exact hD
        have hGI9 : GI K L z1 (cntH k1 z2) M := by rw [show cntH k1 z2 = z2 from by unfold cntH; rw [if_neg c_2, if_pos c_7, if_pos (by omega)]]; exact hGI
        rw [hQ]
        exact W.iret (v := (-1)) hx hb hr (fun t ht hW9 => ⟨⟨(-1), M, rfl, ⟨hW, hF, hG, hGI9, (by unfold ansH; rw [if_neg c_2, if_pos c_7, if_pos (by omega)]; first | done | rfl)⟩, ⟨9, (-1), by rw [ht]; exact hP, hD⟩⟩, hS.F ht⟩) hS.2.2 dX13_house_37
    · have hz := rfl (a := 0)
      have n_113 : ¬ k1 < 0 := gtN (c := 900) (by omega) (Int32.not_le.mp c_7)
      refine lv_aload_n hx hb dX13_house_16 rfl (lv_at hl 0 rfl) ?_
      refine lv_iconst (v := 2) hx hb dX13_house_17 (by decide) ?_
      have hPc := hP.sub (ws' := [(za, .inr (13, [.int 0, .ref z1, .int (nI z2), .int (nI z3), .int z4, .int z5, .ref z6, .ref z7, .ref z8, .ref z9, .int (nI z10), .ref z11, .ref z12, .ref z13, .ref z14, .ref z15, .int (nI z16), .ref z17, .int z18, .ref z19]))]) [0] rfl
      have hDc := hD.sub (ws' := [(za, .inr (13, [.int 0, .ref z1, .int (nI z2), .int (nI z3), .int z4, .int z5, .ref z6, .ref z7, .ref z8, .ref z9, .int (nI z10), .ref z11, .ref z12, .ref z13, .ref z14, .ref z15, .int (nI z16), .ref z17, .int z18, .ref z19]))]) [0] (by decide) rfl
      have hKc := hK.sub (tys' := []) [] rfl
      have hFc := va_free (wc := [(za, .inr (13, [.int 0, .ref z1, .int (nI z2), .int (nI z3), .int z4, .int z5, .ref z6, .ref z7, .ref z8, .ref z9, .int (nI z10), .ref z11, .ref z12, .ref z13, .ref z14, .ref z15, .int (nI z16), .ref z17, .int z18, .ref z19]))]) hD hS hA [0] rfl
      refine va_calli (va_runV (As := [.int 2]) (rest := []) ⟨hx, hb, hml, hown, hg⟩ (m_refused l D H_1.size za 0 z1 (nI z2) (nI z3) z4 z5 z6 z7 z8 z9 (nI z10) z11 z12 z13 z14 z15 (nI z16) z17 z18 z19 2) (cwV 1 hg (gV wd_725 wd_726 wd_727 wd_717 wd_728) rfl rfl rfl (by decide +kernel) ⟨(Nat.le_trans (Nat.le_of_ble_eq_true rfl) hRf), (Nat.le_trans (Nat.le_of_ble_eq_true rfl) hRl)⟩) ⟨Pr.blind, va_recv hK hP (ci := 13) (q0 := 0) rfl rfl, fun U hU hW => ⟨rfl, Pr.at hPc hKc hDc hN hU hW⟩⟩ rfl rfl hl.1 rfl (lv_room (Nat.le_of_ble_eq_true rfl)) dX13_house_18 ⟨(Nat.le_trans (Nat.le_of_ble_eq_true rfl) hRc), (Nat.le_trans (Nat.le_of_ble_eq_true rfl) hRs)⟩) hS (fun q _ h => hFc q h) hFc (fun r_115 M_116 t H_114 locs ht hvm hw hB hz1 hk1 hS => ?_)
      have hp_117 := hw
      obtain ⟨hP1, hK1, hD1⟩ := hB
      rw [ht] at hP1
      obtain ⟨hP, hD⟩ := va_joinQ (X := [(za, .inr (13, [.int 0, .ref z1, .int (nI z2), .int (nI z3), .int z4, .int z5, .ref z6, .ref z7, .ref z8, .ref z9, .int (nI z10), .ref z11, .ref z12, .ref z13, .ref z14, .ref z15, .int (nI z16), .ref z17, .int z18, .ref z19]))]) (cx := [(za, .inr (13, [.int 0, .ref z1, .int (nI z2), .int (nI z3), .int z4, .int z5, .ref z6, .ref z7, .ref z8, .ref z9, .int (nI z10), .ref z11, .ref z12, .ref z13, .ref z14, .ref z15, .int (nI z16), .ref z17, .int z18, .ref z19]))]) (wr := []) (w1 := [(za, .inr (13, [.int 0, .ref z1, .int (nI z2), .int (nI z3), .int 2, .int (-1), .ref z6, .ref z7, .ref z8, .ref z9, .int (nI z10), .ref z11, .ref z12, .ref z13, .ref z14, .ref z15, .int (nI z16), .ref z17, .int z18, .ref z19]))]) (pl := va_pl L M) hP hD [0] [] rfl rfl (by decide) (by decide) hk1 hFc hP1 hD1
      have hP : va_P D vwCl ([(za, .inr (13, [.int 0, .ref z1, .int (nI z2), .int (nI z3), .int 2, .int (-1), .ref z6, .ref z7, .ref z8, .ref z9, .int (nI z10), .ref z11, .ref z12, .ref z13, .ref z14, .ref z15, .int (nI z16), .ref z17, .int z18, .ref z19]))] ++ va_pl L M) H_114 := hP
      have hD : va_D A ([(za, .inr (13, [.int 0, .ref z1, .int (nI z2), .int (nI z3), .int 2, .int (-1), .ref z6, .ref z7, .ref z8, .ref z9, .int (nI z10), .ref z11, .ref z12, .ref z13, .ref z14, .ref z15, .int (nI z16), .ref z17, .int z18, .ref z19]))] ++ va_pl L M) := hD
      have hq := Eq.symm hp_117
      subst hq
      have hE : cntH k1 z2 = z2 := by unfold cntH; rw [if_neg n_113, if_neg c_7]
      have hP : va_P D vwCl ([(za, .inr (13, [.int 0, .ref z1, .int (nI (cntH k1 z2)), .int (nI z3), .int 2, .int (-1), .ref z6, .ref z7, .ref z8, .ref z9, .int (nI z10), .ref z11, .ref z12, .ref z13, .ref z14, .ref z15, .int (nI z16), .ref z17, .int z18, .ref z19]))] ++ va_pl L M) H_114 := by rw [hE]; exact hP
      have hD : va_D A ([(za, .inr (13, [.int 0, .ref z1, .int (nI (cntH k1 z2)), .int (nI z3), .int 2, .int (-1), .ref z6, .ref z7, .ref z8, .ref z9, .int (nI z10), .ref z11, .ref z12, .ref z13, .ref z14, .ref z15, .int (nI z16), .ref z17, .int z18, .ref z19]))] ++ va_pl L M) := by rw [hE]; exact hD
      have hGI9 : GI K L z1 (cntH k1 z2) M := by rw [show cntH k1 z2 = z2 from by unfold cntH; rw [if_neg n_113, if_neg c_7]]; exact hGI
      rw [hQ]
      exact W.iret (v := (-1)) hx hb hr (fun t ht hW9 => ⟨⟨(-1), M, rfl, ⟨hW, hF, hG, hGI9, (by unfold ansH; rw [if_neg n_113, if_neg c_7]; first | done | rfl)⟩, ⟨2, (-1), by rw [ht]; exact hP, hD⟩⟩, hS.F ht⟩) hS.2.2 dX13_house_21
