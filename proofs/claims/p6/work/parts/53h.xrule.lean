/-- what a new rule's row holds -/
def trS (X : Nat → Int) (Y : Nat → Nat → Int32) (m : Nat) : Int32 := if X 11 = 0 then 0 else Y 36 (24 * (X 11 - 1).toNat + m)
def thS (X : Nat → Int) (Y : Nat → Nat → Int32) : Int32 := if X 11 = 0 then 0 else Y 35 (X 11 - 1).toNat
def okRu (n : Nat) (SX : Nat → Nat → Int) (SY : Nat → Nat → Nat → Int32) (h d : Int32) : Prop := okH n h ∧ SX h.toNatClampNeg 1 < d.toInt ∧ d.toInt < 1000 ∧ ((SX h.toNatClampNeg 11 = 0 ∧ d.toInt = SX h.toNatClampNeg 0) ∨ (1 ≤ SX h.toNatClampNeg 11 ∧ (SY h.toNatClampNeg 34 (SX h.toNatClampNeg 11 - 1).toNat).toInt < d.toInt)) ∧ SX h.toNatClampNeg 11 < 16
noncomputable def anRu (n : Nat) (SX : Nat → Nat → Int) (SY : Nat → Nat → Nat → Int32) (h d : Int32) : Int32 := (@ite _ (okRu n SX SY h d) (Classical.propDecidable _) (nI (SX h.toNatClampNeg 11 + 1).toNat) (-1))
noncomputable def sxRu (n : Nat) (SX : Nat → Nat → Int) (SY : Nat → Nat → Nat → Int32) (h d : Int32) : Nat → Nat → Int := (@ite _ (okRu n SX SY h d) (Classical.propDecidable _) (va_up SX h.toNatClampNeg (va_up (SX h.toNatClampNeg) 11 (SX h.toNatClampNeg 11 + 1))) (SX))
noncomputable def syRu (n : Nat) (SX : Nat → Nat → Int) (SY : Nat → Nat → Nat → Int32) (h d : Int32) (g9 : Nat → Int32) : Nat → Nat → Nat → Int32 := (@ite _ (okRu n SX SY h d) (Classical.propDecidable _) (va_up SY h.toNatClampNeg (va_up (va_up (va_up (SY h.toNatClampNeg) 34 (upd (SY h.toNatClampNeg 34) (SX h.toNatClampNeg 11).toNat d)) 35 (upd (SY h.toNatClampNeg 35) (SX h.toNatClampNeg 11).toNat (thS (SX h.toNatClampNeg) (SY h.toNatClampNeg)))) 36 g9)) (SY))
/-- the rows of terms behind a new rule -/
def RUG (X : Nat → Int) (Y : Nat → Nat → Int32) (g9 : Nat → Int32) : Prop := (∀ z : Nat, z < 24 * (X 11).toNat → g9 z = Y 36 z) ∧ ∀ m : Nat, m < 24 → g9 (24 * (X 11).toNat + m) = trS X Y m
theorem SIM.rule {k : Nat} {T : Int} {np : Nat} {PK PT : Nat → Int32} {x : Nat → Int} {y : Nat → Nat → Int32} {X : Nat → Int} {Y : Nat → Nat → Int32} {d th th' : Int32} {tr g9 : Nat → Int32} {i : Nat} (h : SIM k T np PK PT x y X Y) (hi : (i : Int) = X 11) (et : th = th') (eg : ∀ z : Nat, z < 24 * i → g9 z = Y 36 z) (er : ∀ m : Nat, m < 24 → tr m = g9 (24 * i + m)) : SIM k T np PK PT (va_up x 11 (x 11 + 1)) (va_up (va_up (va_up (va_up y 33 (upd (y 33) i 1)) 34 (upd (y 34) i d)) 35 (upd (y 35) i th)) 36 (fun z => if z / 24 = i then tr (z % 24) else y 36 z)) (va_up X 11 (X 11 + 1)) (va_up (va_up (va_up Y 34 (upd (Y 34) i d)) 35 (upd (Y 35) i th')) 36 g9) := by
  have e := h.x11
  refine ⟨h.x0, h.x1, h.x10, ?_, h.x12, h.x13, h.x14, h.x15, h.x16, h.x20, h.pl, h.te, h.tn, h.se, fun j hj => ?_, h.en, h.mo, h.me, h.un, h.ow, h.ob, h.wh, h.ex⟩
  · show x 11 + 1 = X 11 + 1
    omega
  · have hj' : (j : Int) < X 11 + 1 := hj
    show upd (y 33) i 1 j = 1 ∧ upd (y 34) i d j = upd (Y 34) i d j ∧ upd (y 35) i th j = upd (Y 35) i th' j ∧ ∀ m : Nat, m < 24 → (if (24 * j + m) / 24 = i then tr ((24 * j + m) % 24) else y 36 (24 * j + m)) = g9 (24 * j + m)
    by_cases q : j = i
    · subst q
      rw [upd_self, upd_self, upd_self, upd_self, upd_self]
      refine ⟨rfl, rfl, et, fun m hm => ?_⟩
      rw [if_pos (by omega), show (24 * j + m) % 24 = m by omega]
      exact er m hm
    · have g := h.ru j (by omega)
      rw [upd_ne _ _ q, upd_ne _ _ q, upd_ne _ _ q, upd_ne _ _ q, upd_ne _ _ q]
      refine ⟨g.1, g.2.1, g.2.2.1, fun m hm => ?_⟩
      rw [if_neg (by omega), eg _ (by omega)]
      exact g.2.2.2 m hm
set_option maxHeartbeats 4000000 in
set_option maxRecDepth 100000 in
theorem e_Rule_s (l : Launch) (D : va_G) (cy : Nat → ClassId) (K : Kp) (L : List Nat) (M : Hp) (sz : Nat) (oa : Nat) (k1 : Int32) (k2 : Nat) (y0 : Int32) (y1 : Int32) (y2 : Nat) (hW : WOK cy K L M) (ik2 : isk K L k2 6 0) (hMy : M k2 = (b6_13 y0 y1 y2)) (hy2 : isk K L y2 54 24) : Met l yX6_init (wsM yX6_init cX6_init 3 none) ({ frames := 1, cells := 1, slots := 24, locals := 40 }) (va_Pc [.ref oa, .int k1, .ref k2] (PG D cy [(oa, .inr (6, [.int 0, .int 0, .null]))] L M sz)) (va_Qv (fun (_ : Unit) => True) (fun _ t => ∃ (e0 : Nat) (g9 : Nat → Int32), (∀ m, m < 24 → g9 m = IFc (M y2) m) ∧ PQ D [(oa, (b6_13 k1 y1 e0)), (e0, .inl ((cy 14), 24, .inl (g9)))] L M (va_A ([(oa, .inr (6, [.int 0, .int 0, .null]))] ++ va_pl L M) sz) t) (va_A ([(oa, .inr (6, [.int 0, .int 0, .null]))] ++ va_pl L M) sz)) 1 24 (va_A ([(oa, .inr (6, [.int 0, .int 0, .null]))] ++ va_pl L M) sz) := by
  refine Met.ofW (cc := cX6_init) (maxL := 3) (ret := none) (by decide) rfl ?_
  intro p e s m args below meth c s₁ B hml hv
  obtain ⟨rfl, hsz, hP, hK, hD0, hN⟩ := hv
  have hx := B.exec
  have hb := B.bytes
  have hr := B.returns
  have hts := atoms_spec (ws := (wsM yX6_init cX6_init 3 none)) B.pre
  have hg : ∀ w ∈ lw_good, w.before _ s = true := fun w h => hts w (List.mem_cons_of_mem _ h)
  have hown : s.vm.findClass RX6 = some m.cls := findClass_of_methodNamed B.named
  have hlocks := B.notSynchronized
  subst hsz
  have hD := hD0.self (sz := s.heap.size)
  generalize hAe : va_A ([(oa, .inr (6, [.int 0, .int 0, .null]))] ++ va_pl L M) s.heap.size = A at hD ⊢
  have hA : ∀ q : Nat, s.heap.size ≤ q → A q := fun q h => by rw [← hAe]; exact Or.inr h
  have hS : va_S A s.heap s.heap [] := va_S.rf
  have hl := lv_entry ([.ref oa, .int k1, .ref k2]) (n := 3) (Nat.le_of_ble_eq_true rfl)
  rw [lg_entry_eq]
  generalize (lg_sl ([.ref oa, .int k1, .ref k2]) ++ List.replicate (3 - (lg_sl ([.ref oa, .int k1, .ref k2])).length) Slot.unset).toArray = ls at hl ⊢
  refine W.nameQ (fun Q hQ => ?_)
  refine W.nameR (fun R hR => ?_)
  have hRf : 1 ≤ R.frames := by rw [hR]; exact Nat.le_of_ble_eq_true rfl
  have hRl : 40 ≤ R.locals := by rw [hR]; exact Nat.le_of_ble_eq_true rfl
  have hRc : 1 ≤ R.cells := by rw [hR]; exact Nat.le_of_ble_eq_true rfl
  have hRs : 24 ≤ R.slots := by rw [hR]; exact Nat.le_of_ble_eq_true rfl
  have hin : meth.name = "<init>" := (name_of_methodNamed B.named B.method).1
  have hl : lv_has ls 3 [(0, .ref oa), (1, .int k1), (2, .ref k2)] := hl
  refine lv_aload_n hx hb dX6_init_0 rfl (lv_at hl 0 rfl) ?_
  refine W.objInit hx hb hown (hg _ wd_573) (hg _ wd_525) (hg _ wd_obj) rfl (by rw [hml]; exact hl.1) rfl dX6_init_1 (Nat.le_trans (Nat.le_of_ble_eq_true rfl) hRf) (Nat.le_trans (Nat.le_of_ble_eq_true rfl) hRl) ?_
  refine W.eq (g2 := F0 m 4 ls []) rfl ?_
  refine lv_aload_n hx hb dX6_init_4 rfl (lv_at hl 0 rfl) ?_
  refine lv_iload_n hx hb dX6_init_5 rfl (lv_at hl 1 rfl) ?_
  refine va_putF (D := D) (ci := 6) (v := .int k1) (ty := .int) (C := RX6) (T := TX6) (N := 3) hx hb hg inG6 tyX6 tyX6_ok nmX6 hown hK hP hD hS 0 rfl rfl 0 (by decide) (hg _ wd_574) (fun _ h9 => h9) rfl hin rfl (by decide +kernel) rfl rfl (Nat.le_of_ble_eq_true rfl) dX6_init_6 (fun H_1 locs hP hD hS => ?_)
  have hP : va_P D vwCl ([(oa, .inr (6, [.int k1, .int 0, .null]))] ++ va_pl L M) H_1 := hP
  have hD : va_D A ([(oa, .inr (6, [.int k1, .int 0, .null]))] ++ va_pl L M) := hD
  refine lv_aload_n hx hb dX6_init_9 rfl (lv_at hl 0 rfl) ?_
  refine lv_bipush (v := 24) hx hb dX6_init_10 (by decide) ?_
  refine va_newa (atype := .int) (ty := .int) (a0 := (24, .inl (fun _ => 0))) hx hb (hg _ wd_531) rfl hK hP hD hS hA (fun cA => rfl) (by decide) (by decide) (Nat.le_of_ble_eq_true rfl) (Nat.le_trans (Nat.le_of_ble_eq_true rfl) hRc) (Nat.le_trans (Nat.le_of_ble_eq_true rfl) hRs) dX6_init_12 (fun q_2 cA_4 H_3 hK2 hP hD hS => ?_)
  obtain rfl : cA_4 = cy 14 := cls_eq hK2 10 0 rfl rfl
  have hP : va_P D vwCl ([(oa, .inr (6, [.int k1, .int 0, .null])), (zrI cy 14 q_2 24)] ++ va_pl L M) H_3 := hP.swap
  have hD : va_D A ([(oa, .inr (6, [.int k1, .int 0, .null])), (zrI cy 14 q_2 24)] ++ va_pl L M) := hD.swap
  refine W.widen (k := 1) (n := 24) (Nat.le_of_ble_eq_true rfl) (Nat.le_of_ble_eq_true rfl) ?_
  refine va_putF (D := D) (ci := 6) (v := .ref q_2) (ty := .array .int) (C := RX6) (T := TX6) (N := 3) hx hb hg inG6 tyX6 tyX6_ok nmX6 hown hK hP hD hS 0 rfl rfl 2 (by decide) (hg _ wd_93) (fun _ h9 => h9) rfl hin rfl (by decide +kernel) rfl rfl (Nat.le_of_ble_eq_true rfl) dX6_init_14 (fun H_5 locs hP hD hS => ?_)
  have hP : va_P D vwCl ([(oa, (b6_13 k1 0 q_2)), (zrI cy 14 q_2 24)] ++ va_pl L M) H_5 := hP
  have hD : va_D A ([(oa, (b6_13 k1 0 q_2)), (zrI cy 14 q_2 24)] ++ va_pl L M) := hD
  refine lv_aload_n hx hb dX6_init_17 rfl (lv_at hl 2 rfl) ?_
  refine lv_ifnull hx hb dX6_init_18 ?_
  refine lv_aload_n hx hb dX6_init_21 rfl (lv_at hl 0 rfl) ?_
  refine lv_aload_n hx hb dX6_init_22 rfl (lv_at hl 2 rfl) ?_
  refine pg_get (D := D) (ci := 6) (v := .int y1) (C := RX6) (T := TX6) (N := 3) hx hb hg inG6 hown hK hP ik2.1 hMy rfl 1 (by decide) (hg _ wd_92) (fun _ h9 => h9) rfl dX6_init_23 ?_
  refine va_put (D := D) (ci := 6) (v := .int y1) (ty := .int) (C := RX6) (T := TX6) (N := 3) hx hb hg inG6 tyX6 tyX6_ok nmX6 hown hK hP hD hS 0 rfl rfl 1 (by decide) (hg _ wd_92) (fun _ h9 => h9) rfl (by decide +kernel) rfl rfl (Nat.le_of_ble_eq_true rfl) dX6_init_26 (fun H_6 locs hP hD hS => ?_)
  have hP : va_P D vwCl ([(oa, (b6_13 k1 y1 q_2)), (zrI cy 14 q_2 24)] ++ va_pl L M) H_6 := hP
  have hD : va_D A ([(oa, (b6_13 k1 y1 q_2)), (zrI cy 14 q_2 24)] ++ va_pl L M) := hD
  refine lv_aload_n hx hb dX6_init_29 rfl (lv_at hl 2 rfl) ?_
  refine pg_get (D := D) (ci := 6) (v := .ref y2) (C := RX6) (T := TX6) (N := 3) hx hb hg inG6 hown hK hP ik2.1 hMy rfl 2 (by decide) (hg _ wd_93) (fun _ h9 => h9) rfl dX6_init_30 ?_
  refine lv_iconst (v := 0) hx hb dX6_init_33 (by decide) ?_
  refine lv_aload_n hx hb dX6_init_34 rfl (lv_at hl 0 rfl) ?_
  refine va_get (D := D) (ci := 6) (v := .ref q_2) (C := RX6) (T := TX6) (N := 3) hx hb hg inG6 hown hK hP 0 rfl rfl 2 (by decide) (hg _ wd_93) (fun _ h9 => h9) rfl dX6_init_35 ?_
  refine lv_iconst (v := 0) hx hb dX6_init_38 (by decide) ?_
  refine lv_aload_n hx hb dX6_init_39 rfl (lv_at hl 0 rfl) ?_
  refine va_get (D := D) (ci := 6) (v := .ref q_2) (C := RX6) (T := TX6) (N := 3) hx hb hg inG6 hown hK hP 0 rfl rfl 2 (by decide) (hg _ wd_93) (fun _ h9 => h9) rfl dX6_init_40 ?_
  refine va_alen (v := 24) hx hb hK hP 1 0 rfl rfl (by rfl) dX6_init_43 ?_
  obtain ⟨f7, hM7⟩ := hW.open_54 hy2
  refine pg_copyi hx hb (by rw [hml]; exact hl.1.symm) hown (hg _ wd_575) (hg _ wd_576) (hg _ wd_577) (hg _ wd_578) hK hP hD hS hy2.1 1 0 hM7 rfl rfl (by decide) (by decide) (by decide) (by decide) (by decide) (Nat.le_trans (Nat.le_of_ble_eq_true rfl) hRf) (Nat.le_trans (Nat.le_of_ble_eq_true rfl) hRl) dX6_init_44 (fun H_8 locs hP hD hS => ?_)
  obtain ⟨f_9, ef_9⟩ : ∃ f : Nat → Int32, f = va_cpy f7 (fun _ => 0) (0 : Int32).toNatClampNeg (0 : Int32).toNatClampNeg (24 : Int32).toNatClampNeg := ⟨_, rfl⟩
  have hP : va_P D vwCl ([(oa, (b6_13 k1 y1 q_2)), (q_2, .inl ((cy 14), 24, .inl (f_9)))] ++ va_pl L M) H_8 := by rw [ef_9]; exact hP
  have hD : va_D A ([(oa, (b6_13 k1 y1 q_2)), (q_2, .inl ((cy 14), 24, .inl (f_9)))] ++ va_pl L M) := by rw [ef_9]; exact hD
  rw [hQ]
  exact W.vret hx hb hr (fun t ht hW9 => ⟨⟨(), rfl, trivial, ⟨q_2, f_9, (fun m hm => by rw [ef_9, IFc_of hM7]; show (if 0 ≤ m ∧ m < 0 + 24 then f7 (0 + (m - 0)) else _) = _; rw [if_pos ⟨by omega, by omega⟩]; congr 1; omega), by rw [ht]; exact hP, hD⟩⟩, hS.F ht⟩) hS.2.2 dX6_init_47
set_option maxHeartbeats 4000000 in
set_option maxRecDepth 100000 in
theorem x_rule (l : Launch) (D : va_G) (cy : Nat → ClassId) (K0 : Kp) (L0 : List Nat) (M0 : Hp) (sz : Nat) (xa : Nat) (x0 : Nat) (x1 : Nat) (x2 : Nat) (x3 : Nat) (x4 : Nat) (x5 : Nat) (x6 : Nat) (x7 : Int32) (x8 : Nat) (x9 : Int32) (x10 : Int32) (k1 : Int32) (k2 : Int32) (Bo : Nat → Nat × Nat) (T : Int) (PK : Nat → Int32) (PT : Nat → Int32) (SX : Nat → Nat → Int) (SY : Nat → Nat → Nat → Int32) (hW : WOK cy K0 L0 M0) (i0 : isk K0 L0 x0 17 8) (b1 : x1 ≤ 8) (i2 : isk K0 L0 x2 19 40) (b3 : x3 ≤ 40) (i4 : isk K0 L0 x4 7 0) (i5 : isk K0 L0 x5 5 0) (i6 : isk K0 L0 x6 60 24) (i8 : isk K0 L0 x8 73 25) (hC : CX Bo K0 L0 x0 x1 T x3 PK PT SX SY M0) (hSV : ∀ k, k < x1 → SV (SX k) (SY k)) (hHI : ∀ k, k < x1 → HI (SX k) (SY k)) (hT : (0 ≤ T ∧ T ≤ 900000)) : Met l yX11_rule (wsM yX11_rule cX11_rule 6 (some .int)) ({ frames := 2, cells := 2, slots := 27, locals := 62 }) (va_Pc [.ref xa, .int k1, .int k2] (PG D cy [(xa, (b11_1 x0 (nI x1) x2 (nI x3) x4 x5 x6 x7 x8 x9 x10))] L0 M0 sz)) (va_Qi (fun (r : Int32) (u : Kp × List Nat × Hp) => ext K0 L0 u.1 u.2.1 ∧ WOK cy u.1 u.2.1 u.2.2 ∧ fr K0 L0 [2, 20] M0 u.2.2 ∧ fT 2 K0 L0 [11] M0 u.2.2 ∧ ((r = anRu x1 SX SY k1 k2))) (fun u t => ∃ (w9 : Int32), (∀ g9 : Nat → Int32, (okRu x1 SX SY k1 k2 → RUG (SX k1.toNatClampNeg) (SY k1.toNatClampNeg) g9) → ∃ B9, CX B9 u.1 u.2.1 x0 x1 (T + 1) x3 PK PT (sxRu x1 SX SY k1 k2) (syRu x1 SX SY k1 k2 g9) u.2.2) ∧ PQ D [(xa, (b11_1 x0 (nI x1) x2 (nI x3) x4 x5 x6 x7 x8 w9 (-1)))] u.2.1 u.2.2 (va_A ([(xa, (b11_1 x0 (nI x1) x2 (nI x3) x4 x5 x6 x7 x8 x9 x10))] ++ va_pl L0 M0) sz) t) (va_A ([(xa, (b11_1 x0 (nI x1) x2 (nI x3) x4 x5 x6 x7 x8 x9 x10))] ++ va_pl L0 M0) sz)) 2 27 (va_A ([(xa, (b11_1 x0 (nI x1) x2 (nI x3) x4 x5 x6 x7 x8 x9 x10))] ++ va_pl L0 M0) sz) := by
  refine Met.ofW (cc := cX11_rule) (maxL := 6) (ret := (some .int)) (by decide) rfl ?_
  intro p e s m args below meth c s₁ B hml hv
  obtain ⟨rfl, hsz, hP, hK, hD0, hN⟩ := hv
  have hx := B.exec
  have hb := B.bytes
  have hr := B.returns
  have hts := atoms_spec (ws := (wsM yX11_rule cX11_rule 6 (some .int))) B.pre
  have hg : ∀ w ∈ lw_good, w.before _ s = true := fun w h => hts w (List.mem_cons_of_mem _ h)
  have hown : s.vm.findClass RX11 = some m.cls := findClass_of_methodNamed B.named
  have hlocks := B.notSynchronized
  subst hsz
  have hD := hD0.self (sz := s.heap.size)
  generalize hAe : va_A ([(xa, (b11_1 x0 (nI x1) x2 (nI x3) x4 x5 x6 x7 x8 x9 x10))] ++ va_pl L0 M0) s.heap.size = A at hD ⊢
  have hA : ∀ q : Nat, s.heap.size ≤ q → A q := fun q h => by rw [← hAe]; exact Or.inr h
  have hS : va_S A s.heap s.heap [] := va_S.rf
  have hl := lv_entry ([.ref xa, .int k1, .int k2]) (n := 6) (Nat.le_of_ble_eq_true rfl)
  rw [lg_entry_eq]
  generalize (lg_sl ([.ref xa, .int k1, .int k2]) ++ List.replicate (6 - (lg_sl ([.ref xa, .int k1, .int k2])).length) Slot.unset).toArray = ls at hl ⊢
  refine W.nameQ (fun Q hQ => ?_)
  refine W.nameR (fun R hR => ?_)
  have hRf : 2 ≤ R.frames := by rw [hR]; exact Nat.le_of_ble_eq_true rfl
  have hRl : 62 ≤ R.locals := by rw [hR]; exact Nat.le_of_ble_eq_true rfl
  have hRc : 2 ≤ R.cells := by rw [hR]; exact Nat.le_of_ble_eq_true rfl
  have hRs : 27 ≤ R.slots := by rw [hR]; exact Nat.le_of_ble_eq_true rfl
  have hW00 := hW
  have i000 := i0
  have i200 := i2
  have i400 := i4
  have i500 := i5
  have i600 := i6
  have i800 := i8
  have hC00 := hC
  obtain ⟨K, L, M, hX0, hF, hT2, hW, hP, hD, i0, i2, i4, i5, i6, i8, hC, hMe, hKe, hLe⟩ : ∃ (K : Kp) (L : List Nat) (M : Hp), ext K0 L0 K L ∧ fr K0 L0 [2, 20] M0 M ∧ fT 2 K0 L0 [11] M0 M ∧ WOK cy K L M ∧ va_P D vwCl ([(xa, (b11_1 x0 (nI x1) x2 (nI x3) x4 x5 x6 x7 x8 x9 x10))] ++ va_pl L M) s.heap ∧ va_D A ([(xa, (b11_1 x0 (nI x1) x2 (nI x3) x4 x5 x6 x7 x8 x9 x10))] ++ va_pl L M) ∧ isk K L x0 17 8 ∧ isk K L x2 19 40 ∧ isk K L x4 7 0 ∧ isk K L x5 5 0 ∧ isk K L x6 60 24 ∧ isk K L x8 73 25 ∧ CX Bo K L x0 x1 T x3 PK PT SX SY M ∧ M = M0 ∧ K = K0 ∧ L = L0 := ⟨K0, L0, M0, ext.rf, fr.rf, fT.rf, hW, hP, hD, i0, i2, i4, i5, i6, i8, hC, rfl, rfl, rfl⟩
  have hl : lv_has ls 6 [(0, .ref xa), (1, .int k1), (2, .int k2)] := hl
  have hp4 : ∀ q, isk K L q 4 0 → isk K0 L0 q 4 0 := by rw [hKe, hLe]; exact fun q iq => iq
  refine lv_aload_n hx hb dX11_rule_0 rfl (lv_at hl 0 rfl) ?_
  refine lv_iload_n hx hb dX11_rule_1 rfl (lv_at hl 1 rfl) ?_
  have hPc : va_P D vwCl ([(xa, (b11_1 x0 (nI x1) x2 (nI x3) x4 x5 x6 x7 x8 x9 x10))] ++ va_pl L M) s.heap := hP
  have hDc : va_D A ([(xa, (b11_1 x0 (nI x1) x2 (nI x3) x4 x5 x6 x7 x8 x9 x10))] ++ va_pl L M) := hD
  have hFc : ∀ q, va_A ([(xa, (b11_1 x0 (nI x1) x2 (nI x3) x4 x5 x6 x7 x8 x9 x10))] ++ va_pl L M) s.heap.size q → A q := pg_free hDc hS hA
  refine va_callq (va_runV (As := [.int k1]) (rest := []) ⟨hx, hb, hml, hown, hg⟩ (e_houseAt l D cy K L M s.heap.size xa x0 x1 x2 x3 x4 x5 x6 x7 x8 x9 x10 k1 Bo T PK PT SX SY  hW i0 b1 i2 b3 i4 i5 i6 i8 hC) (cwV 1 hg (gV wd_340 wd_341 wd_342 wd_3 wd_343) rfl rfl rfl (by decide +kernel) ⟨(Nat.le_trans (Nat.le_of_ble_eq_true rfl) hRf), (Nat.le_trans (Nat.le_of_ble_eq_true rfl) hRl)⟩) ⟨PG.blind, va_recv hK hP (ci := 11) (q0 := 0) rfl rfl, fun U hU hW => ⟨rfl, PG.at hPc hK hDc hN hU hW⟩⟩ rfl rfl hl.1 rfl (lv_room (Nat.le_of_ble_eq_true rfl)) dX11_rule_2 ⟨(Nat.le_trans (Nat.le_of_ble_eq_true rfl) hRc), (Nat.le_trans (Nat.le_of_ble_eq_true rfl) hRs)⟩) hS (fun q _ h => hFc q h) hFc (fun r_2 M_3 t H_1 locs ht hvm hw hB hz1 hk1 hS => ?_)
  have hp_4 := hw
  obtain ⟨hP1, hD1⟩ := hB
  rw [ht] at hP1
  have hP : va_P D vwCl ([(xa, (b11_1 x0 (nI x1) x2 (nI x3) x4 x5 x6 x7 x8 x9 x10))] ++ va_pl L M) H_1 := hP1
  have hD : va_D A ([(xa, (b11_1 x0 (nI x1) x2 (nI x3) x4 x5 x6 x7 x8 x9 x10))] ++ va_pl L M) := hD1.mono hFc
  obtain ⟨hp_4, hqx⟩ := hp_4
  rcases r_2 with _ | b_5
  · have hz := rfl (a := 0)
    refine lv_astore_nN (lv' := [(3, .null), (0, .ref xa), (1, .int k1), (2, .int k2)]) hx hb dX11_rule_5 rfl hl (by decide) rfl (fun ls hl => ?_)
    refine lv_aload_nN hx hb dX11_rule_6 rfl (lv_at hl 0 rfl) ?_
    refine lv_ifnonnullN hx hb dX11_rule_7 ?_
    refine lv_aload_n hx hb dX11_rule_10 rfl (lv_at hl 1 rfl) ?_
    refine lv_iconst (v := 1) hx hb dX11_rule_11 (by decide) ?_
    have hPc := hP.sub (ws' := [(xa, (b11_1 x0 (nI x1) x2 (nI x3) x4 x5 x6 x7 x8 x9 x10))]) [0] rfl
    have hDc := hD.sub (ws' := [(xa, (b11_1 x0 (nI x1) x2 (nI x3) x4 x5 x6 x7 x8 x9 x10))]) [0] (by decide) rfl
    have hKc := hK.sub (tys' := []) [] rfl
    have hFc := va_free (wc := [(xa, (b11_1 x0 (nI x1) x2 (nI x3) x4 x5 x6 x7 x8 x9 x10))]) hD hS hA [0] rfl
    refine va_calli (va_runV (As := [.int 1]) (rest := []) ⟨hx, hb, hml, hown, hg⟩ (k_refuse l D H_1.size xa x0 (nI x1) x2 (nI x3) x4 x5 x6 x7 x8 x9 x10 1) (cwV 1 hg (gV wd_344 wd_345 wd_346 wd_3 wd_347) rfl rfl rfl (by decide +kernel) ⟨(Nat.le_trans (Nat.le_of_ble_eq_true rfl) hRf), (Nat.le_trans (Nat.le_of_ble_eq_true rfl) hRl)⟩) ⟨Pr.blind, va_recv hK hP (ci := 11) (q0 := 0) rfl rfl, fun U hU hW => ⟨rfl, Pr.at hPc hKc hDc hN hU hW⟩⟩ rfl rfl hl.1 rfl (lv_room (Nat.le_of_ble_eq_true rfl)) dX11_rule_12 ⟨(Nat.le_trans (Nat.le_of_ble_eq_true rfl) hRc), (Nat.le_trans (Nat.le_of_ble_eq_true rfl) hRs)⟩) hS (fun q _ h => hFc q h) hFc (fun r_7 M_8 t H_6 locs ht hvm hw hB hz1 hk1 hS => ?_)
    have hp_9 := hw
    obtain ⟨hP1, hK1, hD1⟩ := hB
    rw [ht] at hP1
    obtain ⟨hP, hD⟩ := va_joinQ (X := [(xa, (b11_1 x0 (nI x1) x2 (nI x3) x4 x5 x6 x7 x8 x9 x10))]) (cx := [(xa, (b11_1 x0 (nI x1) x2 (nI x3) x4 x5 x6 x7 x8 x9 x10))]) (wr := []) (w1 := [(xa, (b11_1 x0 (nI x1) x2 (nI x3) x4 x5 x6 x7 x8 1 (-1)))]) (pl := va_pl L M) hP hD [0] [] rfl rfl (by decide) (by decide) hk1 hFc hP1 hD1
    have hP : va_P D vwCl ([(xa, (b11_1 x0 (nI x1) x2 (nI x3) x4 x5 x6 x7 x8 1 (-1)))] ++ va_pl L M) H_6 := hP
    have hD : va_D A ([(xa, (b11_1 x0 (nI x1) x2 (nI x3) x4 x5 x6 x7 x8 1 (-1)))] ++ va_pl L M) := hD
    have hq := Eq.symm hp_9
    subst hq
    refine W.widen (k := 2) (n := 27) (Nat.le_of_ble_eq_true rfl) (Nat.le_of_ble_eq_true rfl) ?_
    have hnh := hqx.2 rfl
    have hno : ¬ okRu x1 SX SY k1 k2 := fun q9 => by unfold okRu okH at q9; first | omega | (obtain ⟨⟨_, _⟩, _, _, _, _⟩ := q9; first | omega | contradiction)
    rw [hQ]
    exact W.iret (v := (-1)) hx hb hr (fun t ht hW9 => ⟨⟨(-1), (K, L, M), rfl, ⟨hX0, hW, hF, hT2, (by unfold anRu; rw [if_neg hno])⟩, ⟨1, (fun g9 hG9 => ⟨_, by unfold sxRu syRu; rw [if_neg hno, if_neg hno]; exact hC.mono⟩), by rw [ht]; exact hP, hD⟩⟩, hS.F ht⟩) hS.2.2 dX11_rule_15
  · have hb_10 := hp_4 b_5 rfl
    refine lv_astore_n (lv' := [(3, .ref b_5), (0, .ref xa), (1, .int k1), (2, .int k2)]) hx hb dX11_rule_5 rfl hl (by decide) rfl (fun ls hl => ?_)
    obtain ⟨hr9, hb9⟩ := hqx.1 b_5 rfl
    have hck : ((k1 : Int32).toNatClampNeg : Int) = (k1 : Int32).toInt := clT (by omega)
    have hkn : (k1 : Int32).toNatClampNeg < x1 := by omega
    have hSM := hC.at hkn hb9
    have hSVk := hSV (k1 : Int32).toNatClampNeg hkn
    have hHIk := hHI (k1 : Int32).toNatClampNeg hkn
    have hV : VC Bo K L M0 M b_5 (cfx M b_5) (cax M b_5) := by rw [← hMe]; exact VC.rf b_5 hC.oc
    have hb90 : RFc (M0 x0) (k1 : Int32).toNatClampNeg = some b_5 := by rw [← hMe]; exact hb9
    obtain ⟨v11_0, v11_1, v11_2, v11_3, v11_4, v11_5, v11_6, v11_7, v11_8, v11_9, v11_10, v11_11, v11_12, v11_13, v11_14, v11_15, v11_16, v11_17, v11_18, v11_19, hM11, h11_3, h11_4, h11_5, h11_6, h11_7, h11_8, h11_9, h11_10, h11_11, h11_12, h11_13, h11_16, h11_17, h11_18, h11_19⟩ := hW.open_2 hb_10
    have hA_12 : (cV 2 M b_5 0).toInt = (v11_0 : Int32).toInt := by rw [cV_of hM11 rfl]
    have hA_13 : (cV 2 M b_5 1).toInt = (v11_1 : Int32).toInt := by rw [cV_of hM11 rfl]
    have hA_14 : (cV 2 M b_5 2).toInt = (v11_2 : Int32).toInt := by rw [cV_of hM11 rfl]
    have hA_15 : (cV 2 M b_5 4).toInt = ((v11_4 : Nat) : Int) := by rw [cV_of hM11 rfl]; exact nI_toInt (by omega)
    have hA_16 : (cV 2 M b_5 5).toInt = ((v11_5 : Nat) : Int) := by rw [cV_of hM11 rfl]; exact nI_toInt (by omega)
    have hA_17 : (cV 2 M b_5 9).toInt = ((v11_9 : Nat) : Int) := by rw [cV_of hM11 rfl]; exact nI_toInt (by omega)
    have hA_18 : (cV 2 M b_5 11).toInt = ((v11_11 : Nat) : Int) := by rw [cV_of hM11 rfl]; exact nI_toInt (by omega)
    have hA_19 : (cV 2 M b_5 15).toInt = (v11_15 : Int32).toInt := by rw [cV_of hM11 rfl]
    have hq0 : (cV 2 M b_5 1).toInt = SX (k1 : Int32).toNatClampNeg 0 := hSM.x0
    have hq1 : (cV 2 M b_5 2).toInt = SX (k1 : Int32).toNatClampNeg 1 := hSM.x1
    have hq10 : (cV 2 M b_5 9).toInt = SX (k1 : Int32).toNatClampNeg 10 := hSM.x10
    have hq11 : (cV 2 M b_5 11).toInt = SX (k1 : Int32).toNatClampNeg 11 := hSM.x11
    have hq12 : (cV 2 M b_5 4).toInt = SX (k1 : Int32).toNatClampNeg 12 := hSM.x12
    have hq13 : (cV 2 M b_5 5).toInt = SX (k1 : Int32).toNatClampNeg 13 := hSM.x13
    have hq14 : (cV 1 M v11_16 3).toInt = SX (k1 : Int32).toNatClampNeg 14 := by have h9 := hSM.x14; rw [← h9]; show _ = (cV 1 M (rA 2 M b_5 16) 3).toInt; rw [rA_of (j := 16) hM11 rfl]
    have hq15 : (cV 1 M v11_17 3).toInt = SX (k1 : Int32).toNatClampNeg 15 := by have h9 := hSM.x15; rw [← h9]; show _ = (cV 1 M (rA 2 M b_5 17) 3).toInt; rw [rA_of (j := 17) hM11 rfl]
    have hq16 : (cV 10 M v11_18 2).toInt = SX (k1 : Int32).toNatClampNeg 16 := by have h9 := hSM.x16; rw [← h9]; show _ = (cV 10 M (rA 2 M b_5 18) 2).toInt; rw [rA_of (j := 18) hM11 rfl]
    have hq19 : (cV 10 M v11_18 1).toInt = cfx M b_5 19 := by show _ = (cV 10 M (rA 2 M b_5 18) 1).toInt; rw [rA_of (j := 18) hM11 rfl]
    have hun := hSM.un
    have hl16 : (ALc (M (rA 1 M v11_16 1)) : Int) = 120 := by have h9 := hC.oc.l16 hW hb_10; rw [rA_of (j := 16) hM11 rfl] at h9; omega
    have hl17 : (ALc (M (rA 1 M v11_17 1)) : Int) = 20 := by have h9 := hC.oc.l17 hW hb_10; rw [rA_of (j := 17) hM11 rfl] at h9; omega
    have hbd0 := hSVk.b0
    have hbd1 := hSVk.b1
    have hbd10 := hSVk.b10
    have hbd11 := hSVk.b11
    have hbd12 := hSVk.b12
    have hbd13 := hSVk.b13
    have hbd14 := hSVk.b14
    have hbd15 := hSVk.b15
    have hbd16 := hSVk.b16
    have hqx14 : cfx M b_5 14 = SX (k1 : Int32).toNatClampNeg 14 := hSM.x14
    have hqx15 : cfx M b_5 15 = SX (k1 : Int32).toNatClampNeg 15 := hSM.x15
    have hqx16 : cfx M b_5 16 = SX (k1 : Int32).toNatClampNeg 16 := hSM.x16
    refine lv_aload_n hx hb dX11_rule_6 rfl (lv_at hl 0 rfl) ?_
    refine lv_ifnonnull (tgt := 16) hx hb dX11_rule_7 (by decide) ?_
    refine lv_aload_n hx hb dX11_rule_16 rfl (lv_at hl 0 rfl) ?_
    have hPc : va_P D vwCl ([] ++ va_pl L M) H_1 := hP.part (cx := []) [] rfl
    have hDc : va_D A ([] ++ va_pl L M) := hD.part (cx := []) [] (by decide) rfl
    have hFc : ∀ q, va_A ([] ++ va_pl L M) H_1.size q → A q := pg_free hDc hS hA
    refine va_callq (va_runV (As := []) (rest := []) ⟨hx, hb, hml, hown, hg⟩ (e_latest l D cy K L M H_1.size b_5  hW hb_10) (cwV 0 hg (gV wd_461 wd_462 wd_463 wd_57 wd_464) rfl rfl rfl (by decide +kernel) ⟨(Nat.le_trans (Nat.le_of_ble_eq_true rfl) hRf), (Nat.le_trans (Nat.le_of_ble_eq_true rfl) hRl)⟩) ⟨PG.blind, pg_recv hK hP hb_10.1 hM11 rfl, fun U hU hW => ⟨rfl, PG.at hPc hK hDc hN hU hW⟩⟩ rfl rfl hl.1 rfl (lv_room (Nat.le_of_ble_eq_true rfl)) dX11_rule_17 ⟨(Nat.le_trans (Nat.le_of_ble_eq_true rfl) hRc), (Nat.le_trans (Nat.le_of_ble_eq_true rfl) hRs)⟩) hS (fun q _ h => hFc q h) hFc (fun r_21 M_22 t H_20 locs ht hvm hw hB hz1 hk1 hS => ?_)
    have hp_23 := hw
    obtain ⟨hP1, hD1⟩ := hB
    rw [ht] at hP1
    obtain ⟨hP, hD⟩ := va_joinP (X := [(xa, (b11_1 x0 (nI x1) x2 (nI x3) x4 x5 x6 x7 x8 x9 x10))]) (cx := []) (wr := [(xa, (b11_1 x0 (nI x1) x2 (nI x3) x4 x5 x6 x7 x8 x9 x10))]) (rx := []) (pl := va_pl L M) (pl1 := va_pl L M) hP hD [] [0] rfl rfl (by decide) (by decide) hk1 hFc hP1 hD1
    have hP : va_P D vwCl ([(xa, (b11_1 x0 (nI x1) x2 (nI x3) x4 x5 x6 x7 x8 x9 x10))] ++ va_pl L M) H_20 := hP
    have hD : va_D A ([(xa, (b11_1 x0 (nI x1) x2 (nI x3) x4 x5 x6 x7 x8 x9 x10))] ++ va_pl L M) := hD
    obtain ⟨hp_23, hqx⟩ := hp_23
    rcases r_21 with _ | b_24
    · have hz := rfl (a := 0)
      have h11 : SX (k1 : Int32).toNatClampNeg 11 = 0 := by
        rcases hqx.2 rfl with q9 | ⟨q8, q9⟩
        · omega
        · have h9 := (hSM.ru (SX (k1 : Int32).toNatClampNeg 11 - 1).toNat (by omega)).1
          rw [hq11] at q9
          rw [rn0 q9 (by omega)] at h9
          exact absurd h9 (by decide)
      refine lv_astoreN (lv' := [(4, .null), (3, .ref b_5), (0, .ref xa), (1, .int k1), (2, .int k2)]) hx hb dX11_rule_20 hl (by decide) rfl (fun ls hl => ?_)
      refine lv_aloadN hx hb dX11_rule_22 (lv_at hl 0 rfl) ?_
      refine lv_ifnonnullN hx hb dX11_rule_24 ?_
      refine lv_iload_n hx hb dX11_rule_27 rfl (lv_at hl 4 rfl) ?_
      refine lv_aload_n hx hb dX11_rule_28 rfl (lv_at hl 1 rfl) ?_
      refine pg_get (D := D) (ci := 2) (v := .int v11_1) (C := RX2) (T := TX2) (N := 20) hx hb hg inG2 hown hK hP hb_10.1 hM11 rfl 1 (by decide) (hg _ wd_439) (fun _ h9 => h9) rfl dX11_rule_29 ?_
      refine lv_icmp_ne (tgt := 39) hx hb dX11_rule_32 (by decide) (fun c_25 => ?_) (fun c_25 => ?_)
      · have hz := rfl (a := 0)
        refine lv_iconst (v := 0) hx hb dX11_rule_39 (by decide) ?_
        refine lv_goto (tgt := 57) hx hb dX11_rule_40 (by decide) ?_
        refine lv_istore (lv' := [(5, .int 0), (4, .null), (3, .ref b_5), (0, .ref xa), (1, .int k1), (2, .int k2)]) hx hb dX11_rule_57 hl (by decide) rfl (fun ls hl => ?_)
        refine lv_aload_n hx hb dX11_rule_59 rfl (lv_at hl 2 rfl) ?_
        refine lv_iload_n hx hb dX11_rule_60 rfl (lv_at hl 5 rfl) ?_
        have hPc : va_P D vwCl ([] ++ va_pl L M) H_20 := hP.part (cx := []) [] rfl
        have hDc : va_D A ([] ++ va_pl L M) := hD.part (cx := []) [] (by decide) rfl
        have hFc : ∀ q, va_A ([] ++ va_pl L M) H_20.size q → A q := pg_free hDc hS hA
        refine va_calli (va_runV (As := [.int k2]) (rest := []) ⟨hx, hb, hml, hown, hg⟩ (e_X2_isFree l D cy K L M H_20.size b_5 k2  hW hb_10) (cwV 1 hg (gV wd_361 wd_362 wd_363 wd_57 wd_364) rfl rfl rfl (by decide +kernel) ⟨(Nat.le_trans (Nat.le_of_ble_eq_true rfl) hRf), (Nat.le_trans (Nat.le_of_ble_eq_true rfl) hRl)⟩) ⟨PG.blind, pg_recv hK hP hb_10.1 hM11 rfl, fun U hU hW => ⟨rfl, PG.at hPc hK hDc hN hU hW⟩⟩ rfl rfl hl.1 rfl (lv_room (Nat.le_of_ble_eq_true rfl)) dX11_rule_61 ⟨(Nat.le_trans (Nat.le_of_ble_eq_true rfl) hRc), (Nat.le_trans (Nat.le_of_ble_eq_true rfl) hRs)⟩) hS (fun q _ h => hFc q h) hFc (fun r_27 M_28 t H_26 locs ht hvm hw hB hz1 hk1 hS => ?_)
        have hp_29 := hw
        obtain ⟨hP1, hD1⟩ := hB
        rw [ht] at hP1
        obtain ⟨hP, hD⟩ := va_joinP (X := [(xa, (b11_1 x0 (nI x1) x2 (nI x3) x4 x5 x6 x7 x8 x9 x10))]) (cx := []) (wr := [(xa, (b11_1 x0 (nI x1) x2 (nI x3) x4 x5 x6 x7 x8 x9 x10))]) (rx := []) (pl := va_pl L M) (pl1 := va_pl L M) hP hD [] [0] rfl rfl (by decide) (by decide) hk1 hFc hP1 hD1
        have hP : va_P D vwCl ([(xa, (b11_1 x0 (nI x1) x2 (nI x3) x4 x5 x6 x7 x8 x9 x10))] ++ va_pl L M) H_26 := hP
        have hD : va_D A ([(xa, (b11_1 x0 (nI x1) x2 (nI x3) x4 x5 x6 x7 x8 x9 x10))] ++ va_pl L M) := hD
        rcases hp_29 with ⟨rfl, c_30, c_31, c_32⟩ | ⟨rfl, c_33⟩
        · have hz := rfl (a := 0)
          refine lv_if_eq (tgt := 72) hx hb dX11_rule_64 (by decide) (fun c_34 => absurd c_34 (by decide)) (fun _ => ?_)
          refine lv_iload hx hb dX11_rule_67 (lv_at hl 0 rfl) ?_
          refine lv_if_ne (tgt := 78) hx hb dX11_rule_69 (by decide) (fun c_35 => absurd c_35 (by decide)) (fun _ => ?_)
          refine lv_aload_n hx hb dX11_rule_72 rfl (lv_at hl 3 rfl) ?_
          refine lv_iconst (v := 3) hx hb dX11_rule_73 (by decide) ?_
          have hPc := hP.sub (ws' := [(xa, (b11_1 x0 (nI x1) x2 (nI x3) x4 x5 x6 x7 x8 x9 x10))]) [0] rfl
          have hDc := hD.sub (ws' := [(xa, (b11_1 x0 (nI x1) x2 (nI x3) x4 x5 x6 x7 x8 x9 x10))]) [0] (by decide) rfl
          have hKc := hK.sub (tys' := []) [] rfl
          have hFc := va_free (wc := [(xa, (b11_1 x0 (nI x1) x2 (nI x3) x4 x5 x6 x7 x8 x9 x10))]) hD hS hA [0] rfl
          refine va_calli (va_runV (As := [.int 3]) (rest := []) ⟨hx, hb, hml, hown, hg⟩ (k_refuse l D H_26.size xa x0 (nI x1) x2 (nI x3) x4 x5 x6 x7 x8 x9 x10 3) (cwV 1 hg (gV wd_344 wd_345 wd_346 wd_3 wd_347) rfl rfl rfl (by decide +kernel) ⟨(Nat.le_trans (Nat.le_of_ble_eq_true rfl) hRf), (Nat.le_trans (Nat.le_of_ble_eq_true rfl) hRl)⟩) ⟨Pr.blind, va_recv hK hP (ci := 11) (q0 := 0) rfl rfl, fun U hU hW => ⟨rfl, Pr.at hPc hKc hDc hN hU hW⟩⟩ rfl rfl hl.1 rfl (lv_room (Nat.le_of_ble_eq_true rfl)) dX11_rule_74 ⟨(Nat.le_trans (Nat.le_of_ble_eq_true rfl) hRc), (Nat.le_trans (Nat.le_of_ble_eq_true rfl) hRs)⟩) hS (fun q _ h => hFc q h) hFc (fun r_37 M_38 t H_36 locs ht hvm hw hB hz1 hk1 hS => ?_)
          have hp_39 := hw
          obtain ⟨hP1, hK1, hD1⟩ := hB
          rw [ht] at hP1
          obtain ⟨hP, hD⟩ := va_joinQ (X := [(xa, (b11_1 x0 (nI x1) x2 (nI x3) x4 x5 x6 x7 x8 x9 x10))]) (cx := [(xa, (b11_1 x0 (nI x1) x2 (nI x3) x4 x5 x6 x7 x8 x9 x10))]) (wr := []) (w1 := [(xa, (b11_1 x0 (nI x1) x2 (nI x3) x4 x5 x6 x7 x8 3 (-1)))]) (pl := va_pl L M) hP hD [0] [] rfl rfl (by decide) (by decide) hk1 hFc hP1 hD1
          have hP : va_P D vwCl ([(xa, (b11_1 x0 (nI x1) x2 (nI x3) x4 x5 x6 x7 x8 3 (-1)))] ++ va_pl L M) H_36 := hP
          have hD : va_D A ([(xa, (b11_1 x0 (nI x1) x2 (nI x3) x4 x5 x6 x7 x8 3 (-1)))] ++ va_pl L M) := hD
          have hq := Eq.symm hp_39
          subst hq
          refine W.widen (k := 2) (n := 27) (Nat.le_of_ble_eq_true rfl) (Nat.le_of_ble_eq_true rfl) ?_
          have hI_40 : (k2 : Int32).toInt ≠ (v11_1 : Int32).toInt := ineI rfl rfl c_25
          have hI_41 : (0 : Int) ≤ (k2 : Int32).toInt := inltI rfl rfl c_31
          have hI_42 : (k2 : Int32).toInt ≤ (999 : Int) := inltI rfl rfl c_32
          have hno : ¬ okRu x1 SX SY k1 k2 := fun q9 => by unfold okRu okH at q9; first | omega | (obtain ⟨⟨_, _⟩, _, _, _, _⟩ := q9; first | omega | contradiction)
          rw [hQ]
          exact W.iret (v := (-1)) hx hb hr (fun t ht hW9 => ⟨⟨(-1), (K, L, M), rfl, ⟨hX0, hW, hF, hT2, (by unfold anRu; rw [if_neg hno])⟩, ⟨3, (fun g9 hG9 => ⟨_, by unfold sxRu syRu; rw [if_neg hno, if_neg hno]; exact hC.mono⟩), by rw [ht]; exact hP, hD⟩⟩, hS.F ht⟩) hS.2.2 dX11_rule_77
        · have hz := rfl (a := 0)
          refine lv_if_eq (tgt := 72) hx hb dX11_rule_64 (by decide) (fun _ => ?_) (fun c_43 => absurd c_43 (by decide))
          refine lv_aload_n hx hb dX11_rule_72 rfl (lv_at hl 3 rfl) ?_
          refine lv_iconst (v := 3) hx hb dX11_rule_73 (by decide) ?_
          have hPc := hP.sub (ws' := [(xa, (b11_1 x0 (nI x1) x2 (nI x3) x4 x5 x6 x7 x8 x9 x10))]) [0] rfl
          have hDc := hD.sub (ws' := [(xa, (b11_1 x0 (nI x1) x2 (nI x3) x4 x5 x6 x7 x8 x9 x10))]) [0] (by decide) rfl
          have hKc := hK.sub (tys' := []) [] rfl
          have hFc := va_free (wc := [(xa, (b11_1 x0 (nI x1) x2 (nI x3) x4 x5 x6 x7 x8 x9 x10))]) hD hS hA [0] rfl
          refine va_calli (va_runV (As := [.int 3]) (rest := []) ⟨hx, hb, hml, hown, hg⟩ (k_refuse l D H_26.size xa x0 (nI x1) x2 (nI x3) x4 x5 x6 x7 x8 x9 x10 3) (cwV 1 hg (gV wd_344 wd_345 wd_346 wd_3 wd_347) rfl rfl rfl (by decide +kernel) ⟨(Nat.le_trans (Nat.le_of_ble_eq_true rfl) hRf), (Nat.le_trans (Nat.le_of_ble_eq_true rfl) hRl)⟩) ⟨Pr.blind, va_recv hK hP (ci := 11) (q0 := 0) rfl rfl, fun U hU hW => ⟨rfl, Pr.at hPc hKc hDc hN hU hW⟩⟩ rfl rfl hl.1 rfl (lv_room (Nat.le_of_ble_eq_true rfl)) dX11_rule_74 ⟨(Nat.le_trans (Nat.le_of_ble_eq_true rfl) hRc), (Nat.le_trans (Nat.le_of_ble_eq_true rfl) hRs)⟩) hS (fun q _ h => hFc q h) hFc (fun r_45 M_46 t H_44 locs ht hvm hw hB hz1 hk1 hS => ?_)
          have hp_47 := hw
          obtain ⟨hP1, hK1, hD1⟩ := hB
          rw [ht] at hP1
          obtain ⟨hP, hD⟩ := va_joinQ (X := [(xa, (b11_1 x0 (nI x1) x2 (nI x3) x4 x5 x6 x7 x8 x9 x10))]) (cx := [(xa, (b11_1 x0 (nI x1) x2 (nI x3) x4 x5 x6 x7 x8 x9 x10))]) (wr := []) (w1 := [(xa, (b11_1 x0 (nI x1) x2 (nI x3) x4 x5 x6 x7 x8 3 (-1)))]) (pl := va_pl L M) hP hD [0] [] rfl rfl (by decide) (by decide) hk1 hFc hP1 hD1
          have hP : va_P D vwCl ([(xa, (b11_1 x0 (nI x1) x2 (nI x3) x4 x5 x6 x7 x8 3 (-1)))] ++ va_pl L M) H_44 := hP
          have hD : va_D A ([(xa, (b11_1 x0 (nI x1) x2 (nI x3) x4 x5 x6 x7 x8 3 (-1)))] ++ va_pl L M) := hD
          have hq := Eq.symm hp_47
          subst hq
          refine W.widen (k := 2) (n := 27) (Nat.le_of_ble_eq_true rfl) (Nat.le_of_ble_eq_true rfl) ?_
          have hI_48 : (k2 : Int32).toInt ≠ (v11_1 : Int32).toInt := ineI rfl rfl c_25
          have hno : ¬ okRu x1 SX SY k1 k2 := fun q9 => by unfold okRu okH at q9; first | omega | (obtain ⟨⟨_, _⟩, _, _, _, _⟩ := q9; first | omega | contradiction)
          rw [hQ]
          exact W.iret (v := (-1)) hx hb hr (fun t ht hW9 => ⟨⟨(-1), (K, L, M), rfl, ⟨hX0, hW, hF, hT2, (by unfold anRu; rw [if_neg hno])⟩, ⟨3, (fun g9 hG9 => ⟨_, by unfold sxRu syRu; rw [if_neg hno, if_neg hno]; exact hC.mono⟩), by rw [ht]; exact hP, hD⟩⟩, hS.F ht⟩) hS.2.2 dX11_rule_77
      · have hz := rfl (a := 0)
        refine lv_iconst (v := 1) hx hb dX11_rule_35 (by decide) ?_
        refine lv_goto (tgt := 57) hx hb dX11_rule_36 (by decide) ?_
        refine lv_istore (lv' := [(5, .int 1), (4, .null), (3, .ref b_5), (0, .ref xa), (1, .int k1), (2, .int k2)]) hx hb dX11_rule_57 hl (by decide) rfl (fun ls hl => ?_)
        refine lv_aload_n hx hb dX11_rule_59 rfl (lv_at hl 2 rfl) ?_
        refine lv_iload_n hx hb dX11_rule_60 rfl (lv_at hl 5 rfl) ?_
        have hPc : va_P D vwCl ([] ++ va_pl L M) H_20 := hP.part (cx := []) [] rfl
        have hDc : va_D A ([] ++ va_pl L M) := hD.part (cx := []) [] (by decide) rfl
        have hFc : ∀ q, va_A ([] ++ va_pl L M) H_20.size q → A q := pg_free hDc hS hA
        refine va_calli (va_runV (As := [.int k2]) (rest := []) ⟨hx, hb, hml, hown, hg⟩ (e_X2_isFree l D cy K L M H_20.size b_5 k2  hW hb_10) (cwV 1 hg (gV wd_361 wd_362 wd_363 wd_57 wd_364) rfl rfl rfl (by decide +kernel) ⟨(Nat.le_trans (Nat.le_of_ble_eq_true rfl) hRf), (Nat.le_trans (Nat.le_of_ble_eq_true rfl) hRl)⟩) ⟨PG.blind, pg_recv hK hP hb_10.1 hM11 rfl, fun U hU hW => ⟨rfl, PG.at hPc hK hDc hN hU hW⟩⟩ rfl rfl hl.1 rfl (lv_room (Nat.le_of_ble_eq_true rfl)) dX11_rule_61 ⟨(Nat.le_trans (Nat.le_of_ble_eq_true rfl) hRc), (Nat.le_trans (Nat.le_of_ble_eq_true rfl) hRs)⟩) hS (fun q _ h => hFc q h) hFc (fun r_50 M_51 t H_49 locs ht hvm hw hB hz1 hk1 hS => ?_)
        have hp_52 := hw
        obtain ⟨hP1, hD1⟩ := hB
        rw [ht] at hP1
        obtain ⟨hP, hD⟩ := va_joinP (X := [(xa, (b11_1 x0 (nI x1) x2 (nI x3) x4 x5 x6 x7 x8 x9 x10))]) (cx := []) (wr := [(xa, (b11_1 x0 (nI x1) x2 (nI x3) x4 x5 x6 x7 x8 x9 x10))]) (rx := []) (pl := va_pl L M) (pl1 := va_pl L M) hP hD [] [0] rfl rfl (by decide) (by decide) hk1 hFc hP1 hD1
        have hP : va_P D vwCl ([(xa, (b11_1 x0 (nI x1) x2 (nI x3) x4 x5 x6 x7 x8 x9 x10))] ++ va_pl L M) H_49 := hP
        have hD : va_D A ([(xa, (b11_1 x0 (nI x1) x2 (nI x3) x4 x5 x6 x7 x8 x9 x10))] ++ va_pl L M) := hD
        rcases hp_52 with ⟨rfl, c_53, c_54, c_55⟩ | ⟨rfl, c_56⟩
        · have hz := rfl (a := 0)
          refine lv_if_eq (tgt := 72) hx hb dX11_rule_64 (by decide) (fun c_57 => absurd c_57 (by decide)) (fun _ => ?_)
          refine lv_iload hx hb dX11_rule_67 (lv_at hl 0 rfl) ?_
          refine lv_if_ne (tgt := 78) hx hb dX11_rule_69 (by decide) (fun _ => ?_) (fun c_58 => absurd c_58 (by decide))
          refine lv_aload_n hx hb dX11_rule_78 rfl (lv_at hl 2 rfl) ?_
          refine pg_get (D := D) (ci := 2) (v := .int (nI v11_11)) (C := RX2) (T := TX2) (N := 20) hx hb hg inG2 hown hK hP hb_10.1 hM11 rfl 11 (by decide) (hg _ wd_442) (fun _ h9 => h9) rfl dX11_rule_79 ?_
          refine lv_bipush (v := 16) hx hb dX11_rule_82 (by decide) ?_
          refine lv_icmp_lt (tgt := 94) hx hb dX11_rule_84 (by decide) (fun c_59 => ?_) (fun c_59 => ?_)
          · have hz := rfl (a := 0)
            have n_60 : v11_11 < 16 := (iLT (a := v11_11) (b := 16) (by omega) (by omega)).mp c_59
            refine lv_aload_n hx hb dX11_rule_94 rfl (lv_at hl 2 rfl) ?_
            refine pg_get (D := D) (ci := 2) (v := .ref v11_10) (C := RX2) (T := TX2) (N := 20) hx hb hg inG2 hown hK hP hb_10.1 hM11 rfl 10 (by decide) (hg _ wd_579) (fun _ h9 => h9) rfl dX11_rule_95 ?_
            refine lv_aload_n hx hb dX11_rule_98 rfl (lv_at hl 2 rfl) ?_
            refine pg_get (D := D) (ci := 2) (v := .int (nI v11_11)) (C := RX2) (T := TX2) (N := 20) hx hb hg inG2 hown hK hP hb_10.1 hM11 rfl 11 (by decide) (hg _ wd_442) (fun _ h9 => h9) rfl dX11_rule_99 ?_
            refine va_new (ci := 6) (fs := [.int 0, .int 0, .null]) (C := RX6) (T := TX6) (N := 3) hx hb hg inG6 tyX6 tyX6_ok hown (hg _ wd_580) (hg _ wd_581) (hg _ wd_97) hK hP hD hS hA rfl dfX6 (Nat.le_trans (Nat.le_of_ble_eq_true rfl) hRc) (Nat.le_trans (Nat.le_of_ble_eq_true rfl) hRs) dX11_rule_102 (fun q_61 H_62 hP hD hS => ?_)
            have hP : va_P D vwCl ([(xa, (b11_1 x0 (nI x1) x2 (nI x3) x4 x5 x6 x7 x8 x9 x10)), (q_61, .inr (6, [.int 0, .int 0, .null]))] ++ va_pl L M) H_62 := hP.swap
            have hD : va_D A ([(xa, (b11_1 x0 (nI x1) x2 (nI x3) x4 x5 x6 x7 x8 x9 x10)), (q_61, .inr (6, [.int 0, .int 0, .null]))] ++ va_pl L M) := hD.swap
            refine W.widen (k := 1) (n := 3) (Nat.le_of_ble_eq_true rfl) (Nat.le_of_ble_eq_true rfl) ?_
            refine lv_dup hx hb dX11_rule_105 rfl ?_
            refine lv_iload_n hx hb dX11_rule_106 rfl (lv_at hl 5 rfl) ?_
            refine lv_aloadN hx hb dX11_rule_107 (lv_at hl 1 rfl) ?_
            have hPc := hP.sub (ws' := [(q_61, .inr (6, [.int 0, .int 0, .null]))]) [1] rfl
            have hDc := hD.sub (ws' := [(q_61, .inr (6, [.int 0, .int 0, .null]))]) [1] (by decide) rfl
            have hKc := hK.sub (tys' := []) [] rfl
            have hFc := va_free (wc := [(q_61, .inr (6, [.int 0, .int 0, .null]))]) hD hS hA [1] rfl
            refine va_callv (va_runI (As := [.int k2, .null]) (rest := [.ref q_61, .int (nI v11_11), .ref v11_10]) ⟨hx, hb, hml, hown, hg⟩ (k_Rule_n l D H_62.size q_61 k2) (cwI 2 hg (gB wd_582) rfl rfl rfl (hg _ wd_97) (hg _ wd_583) (hg _ wd_584) rfl (by decide +kernel) ⟨(Nat.le_trans (Nat.le_of_ble_eq_true rfl) hRf), (Nat.le_trans (Nat.le_of_ble_eq_true rfl) hRl)⟩) ⟨Pr.blind, fun U hU hW => ⟨rfl, Pr.at hPc hKc hDc hN hU hW⟩⟩ rfl rfl hl.1 rfl (lv_room (Nat.le_of_ble_eq_true rfl)) dX11_rule_109 ⟨(Nat.le_trans (Nat.le_of_ble_eq_true rfl) hRc), (Nat.le_trans (Nat.le_of_ble_eq_true rfl) hRs)⟩) hS (fun q _ h => hFc q h) hFc (fun M_65 t H_63 locs ht hvm hw hB hz1 hk1 hS => ?_)
            have hp_66 := hw
            obtain ⟨e0_67, c0_68, hP1, hK1, hD1⟩ := hB
            rw [ht] at hP1
            have hK1 := va_K.moved hvm.symm hK1
            obtain ⟨hP, hD⟩ := va_joinQ (X := [(xa, (b11_1 x0 (nI x1) x2 (nI x3) x4 x5 x6 x7 x8 x9 x10)), (q_61, .inr (6, [.int 0, .int 0, .null]))]) (cx := [(q_61, .inr (6, [.int 0, .int 0, .null]))]) (wr := [(xa, (b11_1 x0 (nI x1) x2 (nI x3) x4 x5 x6 x7 x8 x9 x10))]) (w1 := [(q_61, (b6_13 k2 0 e0_67)), (e0_67, .inl (c0_68, 24, .inl (fun _ => 0)))]) (pl := va_pl L M) hP hD [1] [0] rfl rfl (by decide) (by decide) hk1 hFc hP1 hD1
            have hP : va_P D vwCl ([(xa, (b11_1 x0 (nI x1) x2 (nI x3) x4 x5 x6 x7 x8 x9 x10)), (q_61, (b6_13 k2 0 e0_67)), (e0_67, .inl (c0_68, 24, .inl (fun _ => 0)))] ++ va_pl L M) H_63 := hP
            have hD : va_D A ([(xa, (b11_1 x0 (nI x1) x2 (nI x3) x4 x5 x6 x7 x8 x9 x10)), (q_61, (b6_13 k2 0 e0_67)), (e0_67, .inl (c0_68, 24, .inl (fun _ => 0)))] ++ va_pl L M) := hD
            have hK2 := hK.app hK1
            obtain rfl : c0_68 = cy 14 := cls_eq hK2 10 0 rfl rfl
            refine W.widen (k := 2) (n := 27) (Nat.le_of_ble_eq_true rfl) (Nat.le_of_ble_eq_true rfl) ?_
            have hP : va_P D vwCl (([(xa, (b11_1 x0 (nI x1) x2 (nI x3) x4 x5 x6 x7 x8 x9 x10)), (q_61, (b6_13 k2 0 e0_67))] ++ [(zrI cy 14 e0_67 24)]) ++ va_pl L M) H_63 := hP.part (cx := [(xa, (b11_1 x0 (nI x1) x2 (nI x3) x4 x5 x6 x7 x8 x9 x10)), (q_61, (b6_13 k2 0 e0_67))] ++ [(zrI cy 14 e0_67 24)]) [0, 1, 2] rfl
            have hD : va_D A (([(xa, (b11_1 x0 (nI x1) x2 (nI x3) x4 x5 x6 x7 x8 x9 x10)), (q_61, (b6_13 k2 0 e0_67))] ++ [(zrI cy 14 e0_67 24)]) ++ va_pl L M) := hD.part (cx := [(xa, (b11_1 x0 (nI x1) x2 (nI x3) x4 x5 x6 x7 x8 x9 x10)), (q_61, (b6_13 k2 0 e0_67))] ++ [(zrI cy 14 e0_67 24)]) [0, 1, 2] (by decide) rfl
            have hWa := hW
            obtain ⟨K9, L9, M_69, hx9, i_70, hW, hP, hD, hM_71, hfr9, hq9, hm9⟩ := adoptE2 54 24 hP hD hW (fun K' L' x i => (⟨_, rfl⟩ : gd_54 cy K' L' 24 _))
            have hn9 : ∀ b, isk K9 L9 b 2 0 → isk K L b 2 0 := fun b hb => (hm9 b hb.1).elim (fun z => absurd (hb.un (show isk K9 L9 b 54 24 by rw [z]; exact i_70)) (by decide)) (fun z => ⟨z, ((hx9 b z).2).symm.trans hb.2⟩)
            have ho9 : ∀ b, isk K9 L9 b 4 0 → isk K L b 4 0 := fun b hb => (hm9 b hb.1).elim (fun z => absurd (hb.un (show isk K9 L9 b 54 24 by rw [z]; exact i_70)) (by decide)) (fun z => ⟨z, ((hx9 b z).2).symm.trans hb.2⟩)
            have hV : VC (va_up Bo e0_67 (b_5, ((nI v11_11) : Int32).toNatClampNeg)) K9 L9 M0 M_69 b_5 (cfx M b_5) (cax M b_5) := hV.ad (b_5, ((nI v11_11) : Int32).toNatClampNeg) hWa hb_10 hx9 hfr9 hq9 hn9
            have hp4 : ∀ q, isk K9 L9 q 4 0 → isk K0 L0 q 4 0 := fun q iq => hp4 q (ho9 q iq)
            have hq0e0_67 : e0_67 ∉ L0 := fun z => hq9 (hX0 _ z).1
            have hM_73 : M_69 b_5 = (b2_2 v11_0 v11_1 v11_2 v11_3 (nI v11_4) (nI v11_5) v11_6 v11_7 v11_8 (nI v11_9) v11_10 (nI v11_11) v11_12 v11_13 v11_14 v11_15 v11_16 v11_17 v11_18 v11_19) := (hfr9 _ hb_10.1).trans hM11
            have hF : fr K0 L0 [2, 20] M0 M_69 := hF.adX hX0 hfr9
            have hT2 : fT 2 K0 L0 [11] M0 M_69 := hT2.adX hX0 hfr9
            have hX0 := hX0.tr hx9
            have i_74 := i0.ext hx9
            have i_75 := i2.ext hx9
            have i_76 := i4.ext hx9
            have i_77 := i5.ext hx9
            have i_78 := i6.ext hx9
            have i_79 := i8.ext hx9
            have i_80 := hb_10.ext hx9
            have i_81 := h11_3.ext hx9
            have i_82 := h11_6.ext hx9
            have i_83 := h11_7.ext hx9
            have i_84 := h11_8.ext hx9
            have i_85 := h11_10.ext hx9
            have i_86 := h11_12.ext hx9
            have i_87 := h11_13.ext hx9
            have i_88 := h11_16.ext hx9
            have i_89 := h11_17.ext hx9
            have i_90 := h11_18.ext hx9
            have i_91 := h11_19.ext hx9
            obtain ⟨K, L, hK9, hL9⟩ : ∃ (K : Kp) (L : List Nat), K = K9 ∧ L = L9 := ⟨_, _, rfl, rfl⟩
            subst hK9
            subst hL9
            have hP : va_P D vwCl ([(xa, (b11_1 x0 (nI x1) x2 (nI x3) x4 x5 x6 x7 x8 x9 x10)), (q_61, (b6_13 k2 0 e0_67))] ++ va_pl L M_69) H_63 := hP
            have hD : va_D A ([(xa, (b11_1 x0 (nI x1) x2 (nI x3) x4 x5 x6 x7 x8 x9 x10)), (q_61, (b6_13 k2 0 e0_67))] ++ va_pl L M_69) := hD
            have hP : va_P D vwCl (([(xa, (b11_1 x0 (nI x1) x2 (nI x3) x4 x5 x6 x7 x8 x9 x10))] ++ [(q_61, (b6_13 k2 0 e0_67))]) ++ va_pl L M_69) H_63 := hP.part (cx := [(xa, (b11_1 x0 (nI x1) x2 (nI x3) x4 x5 x6 x7 x8 x9 x10))] ++ [(q_61, (b6_13 k2 0 e0_67))]) [0, 1] rfl
            have hD : va_D A (([(xa, (b11_1 x0 (nI x1) x2 (nI x3) x4 x5 x6 x7 x8 x9 x10))] ++ [(q_61, (b6_13 k2 0 e0_67))]) ++ va_pl L M_69) := hD.part (cx := [(xa, (b11_1 x0 (nI x1) x2 (nI x3) x4 x5 x6 x7 x8 x9 x10))] ++ [(q_61, (b6_13 k2 0 e0_67))]) [0, 1] (by decide) rfl
            have hWa := hW
            obtain ⟨K9, L9, M_92, hx9, i_93, hW, hP, hD, hM_94, hfr9, hq9, hm9⟩ := adoptE2 6 0 hP hD hW (fun K' L' x i => (⟨k2, 0, e0_67, rfl, i_70.ext x⟩ : gd_6 K' L' _))
            have hn9 : ∀ b, isk K9 L9 b 2 0 → isk K L b 2 0 := fun b hb => (hm9 b hb.1).elim (fun z => absurd (hb.un (show isk K9 L9 b 6 0 by rw [z]; exact i_93)) (by decide)) (fun z => ⟨z, ((hx9 b z).2).symm.trans hb.2⟩)
            have ho9 : ∀ b, isk K9 L9 b 4 0 → isk K L b 4 0 := fun b hb => (hm9 b hb.1).elim (fun z => absurd (hb.un (show isk K9 L9 b 6 0 by rw [z]; exact i_93)) (by decide)) (fun z => ⟨z, ((hx9 b z).2).symm.trans hb.2⟩)
            have hV : VC (va_up (va_up Bo e0_67 (b_5, ((nI v11_11) : Int32).toNatClampNeg)) q_61 (b_5, ((nI v11_11) : Int32).toNatClampNeg)) K9 L9 M0 M_92 b_5 (cfx M b_5) (cax M b_5) := hV.ad (b_5, ((nI v11_11) : Int32).toNatClampNeg) hWa i_80 hx9 hfr9 hq9 hn9
            have hp4 : ∀ q, isk K9 L9 q 4 0 → isk K0 L0 q 4 0 := fun q iq => hp4 q (ho9 q iq)
            have hq0q_61 : q_61 ∉ L0 := fun z => hq9 (hX0 _ z).1
            have hM_95 : M_92 b_5 = (b2_2 v11_0 v11_1 v11_2 v11_3 (nI v11_4) (nI v11_5) v11_6 v11_7 v11_8 (nI v11_9) v11_10 (nI v11_11) v11_12 v11_13 v11_14 v11_15 v11_16 v11_17 v11_18 v11_19) := (hfr9 _ i_80.1).trans hM_73
            have hM_96 : M_92 e0_67 = .inl (cy 14, 24, .inl (fun _ => 0)) := (hfr9 _ i_70.1).trans hM_71
            have hF : fr K0 L0 [2, 20] M0 M_92 := hF.adX hX0 hfr9
            have hT2 : fT 2 K0 L0 [11] M0 M_92 := hT2.adX hX0 hfr9
            have hX0 := hX0.tr hx9
            have i_97 := i_74.ext hx9
            have i_98 := i_75.ext hx9
            have i_99 := i_76.ext hx9
            have i_100 := i_77.ext hx9
            have i_101 := i_78.ext hx9
            have i_102 := i_79.ext hx9
            have i_103 := i_80.ext hx9
            have i_104 := i_81.ext hx9
            have i_105 := i_82.ext hx9
            have i_106 := i_83.ext hx9
            have i_107 := i_84.ext hx9
            have i_108 := i_85.ext hx9
            have i_109 := i_86.ext hx9
            have i_110 := i_87.ext hx9
            have i_111 := i_88.ext hx9
            have i_112 := i_89.ext hx9
            have i_113 := i_90.ext hx9
            have i_114 := i_91.ext hx9
            have i_115 := i_70.ext hx9
            obtain ⟨K, L, hK9, hL9⟩ : ∃ (K : Kp) (L : List Nat), K = K9 ∧ L = L9 := ⟨_, _, rfl, rfl⟩
            subst hK9
            subst hL9
            have hP : va_P D vwCl ([(xa, (b11_1 x0 (nI x1) x2 (nI x3) x4 x5 x6 x7 x8 x9 x10))] ++ va_pl L M_92) H_63 := hP
            have hD : va_D A ([(xa, (b11_1 x0 (nI x1) x2 (nI x3) x4 x5 x6 x7 x8 x9 x10))] ++ va_pl L M_92) := hD
            obtain ⟨f116, hM116, hf116⟩ := hW.open_20 i_108
            refine pg_astq (r := (RX6, TX6, 3)) hx hb hK hP hD hS i_108.1 6 6 hM116 rfl i_93.1 hM_94 rfl (inbN v11_11 16 (by omega) (by omega)) dX11_rule_112 (fun H_117 locs hP hD hS => ?_)
            obtain ⟨M_118, eM_118⟩ : ∃ M1 : Hp, M1 = va_up M_92 v11_10 (.inl (cy 20, 16, .inr (.inr (.inr (.inr (va_up f116 ((nI v11_11) : Int32).toNatClampNeg (some q_61))))))) := ⟨_, rfl⟩
            have sM_118 : M_118 = sR M_92 v11_10 ((nI v11_11) : Int32).toNatClampNeg (some q_61) := eM_118.trans (sR_of hM116)
            have hV : VC (va_up (va_up Bo e0_67 (b_5, ((nI v11_11) : Int32).toNatClampNeg)) q_61 (b_5, ((nI v11_11) : Int32).toNatClampNeg)) K L M0 M_118 b_5 (cfx M b_5) (va_up (va_up (va_up (va_up (cax M b_5) 33 (upd ((cax M b_5) 33) ((nI v11_11) : Int32).toNatClampNeg (rnN (some q_61)))) 34 (upd ((cax M b_5) 34) ((nI v11_11) : Int32).toNatClampNeg (ruN 0 M_92 (some q_61)))) 35 (upd ((cax M b_5) 35) ((nI v11_11) : Int32).toNatClampNeg (ruN 1 M_92 (some q_61)))) 36 (fun y => if y / 24 = ((nI v11_11) : Int32).toNatClampNeg then tmN M_92 (some q_61) (y % 24) else ((cax M b_5) 36) y)) := by rw [sM_118]; exact VC.r_ru hV hW i_103 (vp_lt (inbN v11_11 16 (by omega) (by omega))) (rA_of (j := 10) hM_95 rfl) hM116 (fun q9 z9 => by cases z9; exact ⟨va_up_self _ _ _, by rw [rA_of (j := 2) hM_94 rfl, va_up_ne _ _ (i_115.neT i_93 (by decide))]; exact va_up_self _ _ _⟩)
            have hP : va_P D vwCl ([(xa, (b11_1 x0 (nI x1) x2 (nI x3) x4 x5 x6 x7 x8 x9 x10))] ++ va_pl L M_118) H_117 := by rw [eM_118]; exact hP
            have hD : va_D A ([(xa, (b11_1 x0 (nI x1) x2 (nI x3) x4 x5 x6 x7 x8 x9 x10))] ++ va_pl L M_118) := by rw [eM_118]; exact hD
            have hW : WOK cy K L M_118 := by rw [eM_118]; exact hW.up_20 i_108 ⟨_, rfl, (upN hf116 i_93)⟩
            have hF : fr K0 L0 [2, 20] M0 M_118 := by rw [eM_118]; exact hF.upX hX0 i_108 (by decide)
            have hT2 : fT 2 K0 L0 [11] M0 M_118 := by rw [eM_118]; exact hT2.neX hX0 i_108 (by decide)
            have hM_119 : M_118 v11_10 = .inl (cy 20, 16, .inr (.inr (.inr (.inr (va_up f116 ((nI v11_11) : Int32).toNatClampNeg (some q_61)))))) := by rw [eM_118]; exact va_up_self _ _ _
            have hM_120 : M_118 b_5 = (b2_2 v11_0 v11_1 v11_2 v11_3 (nI v11_4) (nI v11_5) v11_6 v11_7 v11_8 (nI v11_9) v11_10 (nI v11_11) v11_12 v11_13 v11_14 v11_15 v11_16 v11_17 v11_18 v11_19) := by rw [eM_118, va_up_ne _ _ (i_103.neT i_108 (by decide))]; exact hM_95
            have hM_121 : M_118 e0_67 = .inl (cy 14, 24, .inl (fun _ => 0)) := by rw [eM_118, va_up_ne _ _ (i_115.neT i_108 (by decide))]; exact hM_96
            have hM_122 : M_118 q_61 = (b6_13 k2 0 e0_67) := by rw [eM_118, va_up_ne _ _ (i_93.neT i_108 (by decide))]; exact hM_94
            have hf_124 : ∀ j, j < 16 → iskN K L ((va_up f116 ((nI v11_11) : Int32).toNatClampNeg (some q_61)) j) 6 0 := (upN hf116 i_93)
            obtain ⟨f_123, ef_123⟩ : ∃ f : Nat → Option Nat, f = va_up f116 ((nI v11_11) : Int32).toNatClampNeg (some q_61) := ⟨_, rfl⟩
            rw [← ef_123] at hM_119 hf_124
            have hk_125 : f_123 ((nI v11_11) : Int32).toNatClampNeg = some q_61 := by rw [ef_123]; exact va_up_self _ _ _
            clear ef_123
            refine lv_aload_n hx hb dX11_rule_113 rfl (lv_at hl 2 rfl) ?_
            refine lv_dup hx hb dX11_rule_114 rfl ?_
            refine pg_get (D := D) (ci := 2) (v := .int (nI v11_11)) (C := RX2) (T := TX2) (N := 20) hx hb hg inG2 hown hK hP i_103.1 hM_120 rfl 11 (by decide) (hg _ wd_442) (fun _ h9 => h9) rfl dX11_rule_115 ?_
            refine lv_iconst (v := 1) hx hb dX11_rule_118 (by decide) ?_
            refine lv_iadd hx hb dX11_rule_119 ?_
            refine lv_topi (fun f_126 ef_126 => ?_)
            obtain rfl : f_126 = (nI (v11_11 + 1)) := ef_126.trans (nI_add v11_11 1)
            refine pg_put (D := D) (ci := 2) (v := .int (nI (v11_11 + 1))) (ty := .int) (C := RX2) (T := TX2) (N := 20) hx hb hg inG2 tyX2 tyX2_ok nmX2 hown hK hP hD hS i_103.1 hM_120 rfl 11 (by decide) (hg _ wd_442) (fun _ h9 => h9) rfl (by decide +kernel) rfl rfl (Nat.le_of_ble_eq_true rfl) dX11_rule_120 (fun H_127 locs hP hD hS => ?_)
            obtain ⟨M_128, eM_128⟩ : ∃ M1 : Hp, M1 = va_up M_118 b_5 ((b2_2 v11_0 v11_1 v11_2 v11_3 (nI v11_4) (nI v11_5) v11_6 v11_7 v11_8 (nI v11_9) v11_10 (nI (v11_11 + 1)) v11_12 v11_13 v11_14 v11_15 v11_16 v11_17 v11_18 v11_19)) := ⟨_, rfl⟩
            have sM_128 : M_128 = sF M_118 b_5 11 (.int (nI (v11_11 + 1))) := eM_128.trans (sF_of (j := 11) (v := .int (nI (v11_11 + 1))) hM_120 rfl)
            have hV : VC (va_up (va_up Bo e0_67 (b_5, ((nI v11_11) : Int32).toNatClampNeg)) q_61 (b_5, ((nI v11_11) : Int32).toNatClampNeg)) K L M0 M_128 b_5 (va_up (cfx M b_5) 11 (((v11_11 + 1) : Nat) : Int)) (va_up (va_up (va_up (va_up (cax M b_5) 33 (upd ((cax M b_5) 33) ((nI v11_11) : Int32).toNatClampNeg (rnN (some q_61)))) 34 (upd ((cax M b_5) 34) ((nI v11_11) : Int32).toNatClampNeg (ruN 0 M_92 (some q_61)))) 35 (upd ((cax M b_5) 35) ((nI v11_11) : Int32).toNatClampNeg (ruN 1 M_92 (some q_61)))) 36 (fun y => if y / 24 = ((nI v11_11) : Int32).toNatClampNeg then tmN M_92 (some q_61) (y % 24) else ((cax M b_5) 36) y)) := by rw [sM_128]; have h9 := VC.f11 (v := (nI (v11_11 + 1))) hV hW i_103 hM_120 (Nat.le_of_ble_eq_true rfl); rw [show ((nI (v11_11 + 1)) : Int32).toInt = (((v11_11 + 1) : Nat) : Int) from (nI_toInt (by omega))] at h9; exact h9
            have hP : va_P D vwCl ([(xa, (b11_1 x0 (nI x1) x2 (nI x3) x4 x5 x6 x7 x8 x9 x10))] ++ va_pl L M_128) H_127 := by rw [eM_128]; exact hP
            have hD : va_D A ([(xa, (b11_1 x0 (nI x1) x2 (nI x3) x4 x5 x6 x7 x8 x9 x10))] ++ va_pl L M_128) := by rw [eM_128]; exact hD
            have hW : WOK cy K L M_128 := by rw [eM_128]; exact hW.up_2 i_103 ⟨v11_0, v11_1, v11_2, v11_3, v11_4, v11_5, v11_6, v11_7, v11_8, v11_9, v11_10, (v11_11 + 1), v11_12, v11_13, v11_14, v11_15, v11_16, v11_17, v11_18, v11_19, rfl, i_104, h11_4, h11_5, i_105, i_106, i_107, h11_9, i_108, (by omega), i_109, i_110, i_111, i_112, i_113, i_114⟩
            have hF : fr K0 L0 [2, 20] M0 M_128 := by rw [eM_128]; exact hF.upX hX0 i_103 (by decide)
            have hT2 : fT 2 K0 L0 [11] M0 M_128 := by rw [eM_128]; exact hT2.up (i := 11) hM_120 rfl (by decide)
            have hM_129 : M_128 b_5 = (b2_2 v11_0 v11_1 v11_2 v11_3 (nI v11_4) (nI v11_5) v11_6 v11_7 v11_8 (nI v11_9) v11_10 (nI (v11_11 + 1)) v11_12 v11_13 v11_14 v11_15 v11_16 v11_17 v11_18 v11_19) := by rw [eM_128]; exact va_up_self _ _ _
            have hM_130 : M_128 v11_10 = .inl (cy 20, 16, .inr (.inr (.inr (.inr (f_123))))) := by rw [eM_128, va_up_ne _ _ (i_108.neT i_103 (by decide))]; exact hM_119
            have hM_131 : M_128 e0_67 = .inl (cy 14, 24, .inl (fun _ => 0)) := by rw [eM_128, va_up_ne _ _ (i_115.neT i_103 (by decide))]; exact hM_121
            have hM_132 : M_128 q_61 = (b6_13 k2 0 e0_67) := by rw [eM_128, va_up_ne _ _ (i_93.neT i_103 (by decide))]; exact hM_122
            have hb_133 : (v11_11 + 1) ≤ 16 := by omega
            refine lv_aload_n hx hb dX11_rule_123 rfl (lv_at hl 3 rfl) ?_
            refine lv_aload_n hx hb dX11_rule_124 rfl (lv_at hl 2 rfl) ?_
            refine pg_get (D := D) (ci := 2) (v := .int (nI (v11_11 + 1))) (C := RX2) (T := TX2) (N := 20) hx hb hg inG2 hown hK hP i_103.1 hM_129 rfl 11 (by decide) (hg _ wd_442) (fun _ h9 => h9) rfl dX11_rule_125 ?_
            have hPc := hP.sub (ws' := [(xa, (b11_1 x0 (nI x1) x2 (nI x3) x4 x5 x6 x7 x8 x9 x10))]) [0] rfl
            have hDc := hD.sub (ws' := [(xa, (b11_1 x0 (nI x1) x2 (nI x3) x4 x5 x6 x7 x8 x9 x10))]) [0] (by decide) rfl
            have hKc := hK.sub (tys' := []) [] rfl
            have hFc := va_free (wc := [(xa, (b11_1 x0 (nI x1) x2 (nI x3) x4 x5 x6 x7 x8 x9 x10))]) hD hS hA [0] rfl
            refine va_calli (va_runV (As := [.int (nI (v11_11 + 1))]) (rest := []) ⟨hx, hb, hml, hown, hg⟩ (k_accept l D H_127.size xa x0 (nI x1) x2 (nI x3) x4 x5 x6 x7 x8 x9 x10 (nI (v11_11 + 1))) (cwV 1 hg (gV wd_356 wd_357 wd_358 wd_3 wd_359) rfl rfl rfl (by decide +kernel) ⟨(Nat.le_trans (Nat.le_of_ble_eq_true rfl) hRf), (Nat.le_trans (Nat.le_of_ble_eq_true rfl) hRl)⟩) ⟨Pr.blind, va_recv hK hP (ci := 11) (q0 := 0) rfl rfl, fun U hU hW => ⟨rfl, Pr.at hPc hKc hDc hN hU hW⟩⟩ rfl rfl hl.1 rfl (lv_room (Nat.le_of_ble_eq_true rfl)) dX11_rule_128 ⟨(Nat.le_trans (Nat.le_of_ble_eq_true rfl) hRc), (Nat.le_trans (Nat.le_of_ble_eq_true rfl) hRs)⟩) hS (fun q _ h => hFc q h) hFc (fun r_135 M_136 t H_134 locs ht hvm hw hB hz1 hk1 hS => ?_)
            have hp_137 := hw
            obtain ⟨hP1, hK1, hD1⟩ := hB
            rw [ht] at hP1
            obtain ⟨hP, hD⟩ := va_joinQ (X := [(xa, (b11_1 x0 (nI x1) x2 (nI x3) x4 x5 x6 x7 x8 x9 x10))]) (cx := [(xa, (b11_1 x0 (nI x1) x2 (nI x3) x4 x5 x6 x7 x8 x9 x10))]) (wr := []) (w1 := [(xa, (b11_1 x0 (nI x1) x2 (nI x3) x4 x5 x6 x7 x8 0 (-1)))]) (pl := va_pl L M_128) hP hD [0] [] rfl rfl (by decide) (by decide) hk1 hFc hP1 hD1
            have hP : va_P D vwCl ([(xa, (b11_1 x0 (nI x1) x2 (nI x3) x4 x5 x6 x7 x8 0 (-1)))] ++ va_pl L M_128) H_134 := hP
            have hD : va_D A ([(xa, (b11_1 x0 (nI x1) x2 (nI x3) x4 x5 x6 x7 x8 0 (-1)))] ++ va_pl L M_128) := hD
            have hq := Eq.symm hp_137
            subst hq
            have hI_138 : (k2 : Int32).toInt = (v11_1 : Int32).toInt := ieqI rfl rfl c_25
            have hI_139 : (0 : Int) ≤ (k2 : Int32).toInt := inltI rfl rfl c_54
            have hI_140 : (k2 : Int32).toInt ≤ (999 : Int) := inltI rfl rfl c_55
            have hI_141 : ((v11_11 : Nat) : Int) < (16 : Int) := iltI (nI_toInt (by omega)) rfl c_59
            have hyes : okRu x1 SX SY k1 k2 := by unfold okRu okH; refine ⟨⟨?_, ?_⟩, ?_, ?_, ?_, ?_⟩ <;> first | omega | assumption | decide
            have hr0 : ruN 0 M_92 (some q_61) = k2 := cV_of (j := 0) hM_94 rfl
            have hr1 : ruN 1 M_92 (some q_61) = 0 := cV_of (j := 1) hM_94 rfl
            have hr2 : tmN M_92 (some q_61) = fun _ => 0 := by show IFc (M_92 (rA 6 M_92 q_61 2)) = _; rw [rA_of (j := 2) hM_94 rfl, IFc_of hM_96]
            have hix : ((nI v11_11) : Int32).toNatClampNeg = (SX k1.toNatClampNeg 11).toNat := by rw [nI_cl (by omega)]; omega
            rw [hr0, hr1, hr2, hix] at hV
            have hV := hV.cg (X' := va_up (cfx M b_5) 11 (cfx M b_5 11 + 1)) (by rw [show ((v11_11 + 1 : Nat) : Int) = cfx M b_5 11 + 1 by have h9 := hSM.x11; omega]) rfl
            have het : 0 = thS (SX k1.toNatClampNeg) (SY k1.toNatClampNeg) := by unfold thS; rw [if_pos h11]
            have her : ∀ m, m < 24 → (fun _ => 0 : Nat → Int32) m = trS (SX k1.toNatClampNeg) (SY k1.toNatClampNeg) m := fun m hm => by unfold trS; rw [if_pos h11]
            rw [hQ]
            exact W.iret (v := (nI (v11_11 + 1))) hx hb hr (fun t ht hW9 => ⟨⟨(nI (v11_11 + 1)), (K, L, M_128), rfl, ⟨hX0, hW, hF, hT2, (by unfold anRu; rw [if_pos hyes]; exact congrArg nI (by omega))⟩, ⟨0, (fun g9 hG9 => ⟨_, by unfold sxRu syRu; rw [if_pos hyes, if_pos hyes]; have hZ := hC00.fin hW00 i000 b1 hkn hb90 hV hX0 (by rw [hF.at i000 (by decide)]) (fun q iq => ⟨hp4 q iq, cR_c (fr.cv hF (by decide) q (hp4 q iq) 3 rfl)⟩) (((hSM.rule (d := k2) (i := (SX k1.toNatClampNeg 11).toNat) (by omega) het (hG9 hyes).1 (fun m hm => (her m hm).trans ((hG9 hyes).2 m hm).symm)).up1)); exact hZ⟩), by rw [ht]; exact hP, hD⟩⟩, hS.F ht⟩) hS.2.2 dX11_rule_131
          · have hz := rfl (a := 0)
            have n_142 : ¬ (v11_11 < 16) := fun q => c_59 ((iLT (a := v11_11) (b := 16) (by omega) (by omega)).mpr q)
            refine lv_aload_n hx hb dX11_rule_87 rfl (lv_at hl 3 rfl) ?_
            refine lv_bipush (v := 9) hx hb dX11_rule_88 (by decide) ?_
            have hPc := hP.sub (ws' := [(xa, (b11_1 x0 (nI x1) x2 (nI x3) x4 x5 x6 x7 x8 x9 x10))]) [0] rfl
            have hDc := hD.sub (ws' := [(xa, (b11_1 x0 (nI x1) x2 (nI x3) x4 x5 x6 x7 x8 x9 x10))]) [0] (by decide) rfl
            have hKc := hK.sub (tys' := []) [] rfl
            have hFc := va_free (wc := [(xa, (b11_1 x0 (nI x1) x2 (nI x3) x4 x5 x6 x7 x8 x9 x10))]) hD hS hA [0] rfl
            refine va_calli (va_runV (As := [.int 9]) (rest := []) ⟨hx, hb, hml, hown, hg⟩ (k_refuse l D H_49.size xa x0 (nI x1) x2 (nI x3) x4 x5 x6 x7 x8 x9 x10 9) (cwV 1 hg (gV wd_344 wd_345 wd_346 wd_3 wd_347) rfl rfl rfl (by decide +kernel) ⟨(Nat.le_trans (Nat.le_of_ble_eq_true rfl) hRf), (Nat.le_trans (Nat.le_of_ble_eq_true rfl) hRl)⟩) ⟨Pr.blind, va_recv hK hP (ci := 11) (q0 := 0) rfl rfl, fun U hU hW => ⟨rfl, Pr.at hPc hKc hDc hN hU hW⟩⟩ rfl rfl hl.1 rfl (lv_room (Nat.le_of_ble_eq_true rfl)) dX11_rule_90 ⟨(Nat.le_trans (Nat.le_of_ble_eq_true rfl) hRc), (Nat.le_trans (Nat.le_of_ble_eq_true rfl) hRs)⟩) hS (fun q _ h => hFc q h) hFc (fun r_144 M_145 t H_143 locs ht hvm hw hB hz1 hk1 hS => ?_)
            have hp_146 := hw
            obtain ⟨hP1, hK1, hD1⟩ := hB
            rw [ht] at hP1
            obtain ⟨hP, hD⟩ := va_joinQ (X := [(xa, (b11_1 x0 (nI x1) x2 (nI x3) x4 x5 x6 x7 x8 x9 x10))]) (cx := [(xa, (b11_1 x0 (nI x1) x2 (nI x3) x4 x5 x6 x7 x8 x9 x10))]) (wr := []) (w1 := [(xa, (b11_1 x0 (nI x1) x2 (nI x3) x4 x5 x6 x7 x8 9 (-1)))]) (pl := va_pl L M) hP hD [0] [] rfl rfl (by decide) (by decide) hk1 hFc hP1 hD1
            have hP : va_P D vwCl ([(xa, (b11_1 x0 (nI x1) x2 (nI x3) x4 x5 x6 x7 x8 9 (-1)))] ++ va_pl L M) H_143 := hP
            have hD : va_D A ([(xa, (b11_1 x0 (nI x1) x2 (nI x3) x4 x5 x6 x7 x8 9 (-1)))] ++ va_pl L M) := hD
            have hq := Eq.symm hp_146
            subst hq
            refine W.widen (k := 2) (n := 27) (Nat.le_of_ble_eq_true rfl) (Nat.le_of_ble_eq_true rfl) ?_
            have hI_147 : (k2 : Int32).toInt = (v11_1 : Int32).toInt := ieqI rfl rfl c_25
            have hI_148 : (0 : Int) ≤ (k2 : Int32).toInt := inltI rfl rfl c_54
            have hI_149 : (k2 : Int32).toInt ≤ (999 : Int) := inltI rfl rfl c_55
            have hI_150 : (16 : Int) ≤ ((v11_11 : Nat) : Int) := inltI (nI_toInt (by omega)) rfl c_59
            have hno : ¬ okRu x1 SX SY k1 k2 := fun q9 => by unfold okRu okH at q9; first | omega | (obtain ⟨⟨_, _⟩, _, _, _, _⟩ := q9; first | omega | contradiction)
            rw [hQ]
            exact W.iret (v := (-1)) hx hb hr (fun t ht hW9 => ⟨⟨(-1), (K, L, M), rfl, ⟨hX0, hW, hF, hT2, (by unfold anRu; rw [if_neg hno])⟩, ⟨9, (fun g9 hG9 => ⟨_, by unfold sxRu syRu; rw [if_neg hno, if_neg hno]; exact hC.mono⟩), by rw [ht]; exact hP, hD⟩⟩, hS.F ht⟩) hS.2.2 dX11_rule_93
        · have hz := rfl (a := 0)
          refine lv_if_eq (tgt := 72) hx hb dX11_rule_64 (by decide) (fun _ => ?_) (fun c_151 => absurd c_151 (by decide))
          refine lv_aload_n hx hb dX11_rule_72 rfl (lv_at hl 3 rfl) ?_
          refine lv_iconst (v := 3) hx hb dX11_rule_73 (by decide) ?_
          have hPc := hP.sub (ws' := [(xa, (b11_1 x0 (nI x1) x2 (nI x3) x4 x5 x6 x7 x8 x9 x10))]) [0] rfl
          have hDc := hD.sub (ws' := [(xa, (b11_1 x0 (nI x1) x2 (nI x3) x4 x5 x6 x7 x8 x9 x10))]) [0] (by decide) rfl
          have hKc := hK.sub (tys' := []) [] rfl
          have hFc := va_free (wc := [(xa, (b11_1 x0 (nI x1) x2 (nI x3) x4 x5 x6 x7 x8 x9 x10))]) hD hS hA [0] rfl
          refine va_calli (va_runV (As := [.int 3]) (rest := []) ⟨hx, hb, hml, hown, hg⟩ (k_refuse l D H_49.size xa x0 (nI x1) x2 (nI x3) x4 x5 x6 x7 x8 x9 x10 3) (cwV 1 hg (gV wd_344 wd_345 wd_346 wd_3 wd_347) rfl rfl rfl (by decide +kernel) ⟨(Nat.le_trans (Nat.le_of_ble_eq_true rfl) hRf), (Nat.le_trans (Nat.le_of_ble_eq_true rfl) hRl)⟩) ⟨Pr.blind, va_recv hK hP (ci := 11) (q0 := 0) rfl rfl, fun U hU hW => ⟨rfl, Pr.at hPc hKc hDc hN hU hW⟩⟩ rfl rfl hl.1 rfl (lv_room (Nat.le_of_ble_eq_true rfl)) dX11_rule_74 ⟨(Nat.le_trans (Nat.le_of_ble_eq_true rfl) hRc), (Nat.le_trans (Nat.le_of_ble_eq_true rfl) hRs)⟩) hS (fun q _ h => hFc q h) hFc (fun r_153 M_154 t H_152 locs ht hvm hw hB hz1 hk1 hS => ?_)
          have hp_155 := hw
          obtain ⟨hP1, hK1, hD1⟩ := hB
          rw [ht] at hP1
          obtain ⟨hP, hD⟩ := va_joinQ (X := [(xa, (b11_1 x0 (nI x1) x2 (nI x3) x4 x5 x6 x7 x8 x9 x10))]) (cx := [(xa, (b11_1 x0 (nI x1) x2 (nI x3) x4 x5 x6 x7 x8 x9 x10))]) (wr := []) (w1 := [(xa, (b11_1 x0 (nI x1) x2 (nI x3) x4 x5 x6 x7 x8 3 (-1)))]) (pl := va_pl L M) hP hD [0] [] rfl rfl (by decide) (by decide) hk1 hFc hP1 hD1
          have hP : va_P D vwCl ([(xa, (b11_1 x0 (nI x1) x2 (nI x3) x4 x5 x6 x7 x8 3 (-1)))] ++ va_pl L M) H_152 := hP
          have hD : va_D A ([(xa, (b11_1 x0 (nI x1) x2 (nI x3) x4 x5 x6 x7 x8 3 (-1)))] ++ va_pl L M) := hD
          have hq := Eq.symm hp_155
          subst hq
          refine W.widen (k := 2) (n := 27) (Nat.le_of_ble_eq_true rfl) (Nat.le_of_ble_eq_true rfl) ?_
          have hI_156 : (k2 : Int32).toInt = (v11_1 : Int32).toInt := ieqI rfl rfl c_25
          have hno : ¬ okRu x1 SX SY k1 k2 := fun q9 => by unfold okRu okH at q9; first | omega | (obtain ⟨⟨_, _⟩, _, _, _, _⟩ := q9; first | omega | contradiction)
          rw [hQ]
          exact W.iret (v := (-1)) hx hb hr (fun t ht hW9 => ⟨⟨(-1), (K, L, M), rfl, ⟨hX0, hW, hF, hT2, (by unfold anRu; rw [if_neg hno])⟩, ⟨3, (fun g9 hG9 => ⟨_, by unfold sxRu syRu; rw [if_neg hno, if_neg hno]; exact hC.mono⟩), by rw [ht]; exact hP, hD⟩⟩, hS.F ht⟩) hS.2.2 dX11_rule_77
    · have hb_157 := hp_23 b_24 rfl
      obtain ⟨hrc, hsr0⟩ := hqx.1 _ rfl
      have hri : (SX (k1 : Int32).toNatClampNeg 11 - 1).toNat < 16 := by omega
      have hsr : RFc (M (rA 2 M b_5 10)) (SX (k1 : Int32).toNatClampNeg 11 - 1).toNat = some b_24 := by rw [← hq11]; exact hsr0
      have hlr := lk_ru hsr hri
      have hru := hSM.ru (SX (k1 : Int32).toNatClampNeg 11 - 1).toNat (by omega)
      have h34 : (SY (k1 : Int32).toNatClampNeg 34 (SX (k1 : Int32).toNatClampNeg 11 - 1).toNat).toInt = (cV 6 M b_24 0).toInt := by rw [← hru.2.1, hlr.1]
      obtain ⟨v158_0, v158_1, v158_2, hM158, h158_2⟩ := hW.open_6 hb_157
      have hA_159 : (cV 6 M b_24 0).toInt = (v158_0 : Int32).toInt := by rw [cV_of hM158 rfl]
      have hA_160 : (cV 6 M b_24 1).toInt = (v158_1 : Int32).toInt := by rw [cV_of hM158 rfl]
      refine lv_astore (lv' := [(4, .ref b_24), (3, .ref b_5), (0, .ref xa), (1, .int k1), (2, .int k2)]) hx hb dX11_rule_20 hl (by decide) rfl (fun ls hl => ?_)
      refine lv_aload hx hb dX11_rule_22 (lv_at hl 0 rfl) ?_
      refine lv_ifnonnull (tgt := 43) hx hb dX11_rule_24 (by decide) ?_
      refine lv_iload_n hx hb dX11_rule_43 rfl (lv_at hl 4 rfl) ?_
      refine lv_aload hx hb dX11_rule_44 (lv_at hl 0 rfl) ?_
      refine pg_get (D := D) (ci := 6) (v := .int v158_0) (C := RX6) (T := TX6) (N := 3) hx hb hg inG6 hown hK hP hb_157.1 hM158 rfl 0 (by decide) (hg _ wd_585) (fun _ h9 => h9) rfl dX11_rule_46 ?_
      refine lv_icmp_le (tgt := 56) hx hb dX11_rule_49 (by decide) (fun c_161 => ?_) (fun c_161 => ?_)
      · have hz := rfl (a := 0)
        refine lv_iconst (v := 0) hx hb dX11_rule_56 (by decide) ?_
        refine lv_istore (lv' := [(5, .int 0), (4, .ref b_24), (3, .ref b_5), (0, .ref xa), (1, .int k1), (2, .int k2)]) hx hb dX11_rule_57 hl (by decide) rfl (fun ls hl => ?_)
        refine lv_aload_n hx hb dX11_rule_59 rfl (lv_at hl 2 rfl) ?_
        refine lv_iload_n hx hb dX11_rule_60 rfl (lv_at hl 5 rfl) ?_
        have hPc : va_P D vwCl ([] ++ va_pl L M) H_20 := hP.part (cx := []) [] rfl
        have hDc : va_D A ([] ++ va_pl L M) := hD.part (cx := []) [] (by decide) rfl
        have hFc : ∀ q, va_A ([] ++ va_pl L M) H_20.size q → A q := pg_free hDc hS hA
        refine va_calli (va_runV (As := [.int k2]) (rest := []) ⟨hx, hb, hml, hown, hg⟩ (e_X2_isFree l D cy K L M H_20.size b_5 k2  hW hb_10) (cwV 1 hg (gV wd_361 wd_362 wd_363 wd_57 wd_364) rfl rfl rfl (by decide +kernel) ⟨(Nat.le_trans (Nat.le_of_ble_eq_true rfl) hRf), (Nat.le_trans (Nat.le_of_ble_eq_true rfl) hRl)⟩) ⟨PG.blind, pg_recv hK hP hb_10.1 hM11 rfl, fun U hU hW => ⟨rfl, PG.at hPc hK hDc hN hU hW⟩⟩ rfl rfl hl.1 rfl (lv_room (Nat.le_of_ble_eq_true rfl)) dX11_rule_61 ⟨(Nat.le_trans (Nat.le_of_ble_eq_true rfl) hRc), (Nat.le_trans (Nat.le_of_ble_eq_true rfl) hRs)⟩) hS (fun q _ h => hFc q h) hFc (fun r_163 M_164 t H_162 locs ht hvm hw hB hz1 hk1 hS => ?_)
        have hp_165 := hw
        obtain ⟨hP1, hD1⟩ := hB
        rw [ht] at hP1
        obtain ⟨hP, hD⟩ := va_joinP (X := [(xa, (b11_1 x0 (nI x1) x2 (nI x3) x4 x5 x6 x7 x8 x9 x10))]) (cx := []) (wr := [(xa, (b11_1 x0 (nI x1) x2 (nI x3) x4 x5 x6 x7 x8 x9 x10))]) (rx := []) (pl := va_pl L M) (pl1 := va_pl L M) hP hD [] [0] rfl rfl (by decide) (by decide) hk1 hFc hP1 hD1
        have hP : va_P D vwCl ([(xa, (b11_1 x0 (nI x1) x2 (nI x3) x4 x5 x6 x7 x8 x9 x10))] ++ va_pl L M) H_162 := hP
        have hD : va_D A ([(xa, (b11_1 x0 (nI x1) x2 (nI x3) x4 x5 x6 x7 x8 x9 x10))] ++ va_pl L M) := hD
        rcases hp_165 with ⟨rfl, c_166, c_167, c_168⟩ | ⟨rfl, c_169⟩
        · have hz := rfl (a := 0)
          refine lv_if_eq (tgt := 72) hx hb dX11_rule_64 (by decide) (fun c_170 => absurd c_170 (by decide)) (fun _ => ?_)
          refine lv_iload hx hb dX11_rule_67 (lv_at hl 0 rfl) ?_
          refine lv_if_ne (tgt := 78) hx hb dX11_rule_69 (by decide) (fun c_171 => absurd c_171 (by decide)) (fun _ => ?_)
          refine lv_aload_n hx hb dX11_rule_72 rfl (lv_at hl 3 rfl) ?_
          refine lv_iconst (v := 3) hx hb dX11_rule_73 (by decide) ?_
          have hPc := hP.sub (ws' := [(xa, (b11_1 x0 (nI x1) x2 (nI x3) x4 x5 x6 x7 x8 x9 x10))]) [0] rfl
          have hDc := hD.sub (ws' := [(xa, (b11_1 x0 (nI x1) x2 (nI x3) x4 x5 x6 x7 x8 x9 x10))]) [0] (by decide) rfl
          have hKc := hK.sub (tys' := []) [] rfl
          have hFc := va_free (wc := [(xa, (b11_1 x0 (nI x1) x2 (nI x3) x4 x5 x6 x7 x8 x9 x10))]) hD hS hA [0] rfl
          refine va_calli (va_runV (As := [.int 3]) (rest := []) ⟨hx, hb, hml, hown, hg⟩ (k_refuse l D H_162.size xa x0 (nI x1) x2 (nI x3) x4 x5 x6 x7 x8 x9 x10 3) (cwV 1 hg (gV wd_344 wd_345 wd_346 wd_3 wd_347) rfl rfl rfl (by decide +kernel) ⟨(Nat.le_trans (Nat.le_of_ble_eq_true rfl) hRf), (Nat.le_trans (Nat.le_of_ble_eq_true rfl) hRl)⟩) ⟨Pr.blind, va_recv hK hP (ci := 11) (q0 := 0) rfl rfl, fun U hU hW => ⟨rfl, Pr.at hPc hKc hDc hN hU hW⟩⟩ rfl rfl hl.1 rfl (lv_room (Nat.le_of_ble_eq_true rfl)) dX11_rule_74 ⟨(Nat.le_trans (Nat.le_of_ble_eq_true rfl) hRc), (Nat.le_trans (Nat.le_of_ble_eq_true rfl) hRs)⟩) hS (fun q _ h => hFc q h) hFc (fun r_173 M_174 t H_172 locs ht hvm hw hB hz1 hk1 hS => ?_)
          have hp_175 := hw
          obtain ⟨hP1, hK1, hD1⟩ := hB
          rw [ht] at hP1
          obtain ⟨hP, hD⟩ := va_joinQ (X := [(xa, (b11_1 x0 (nI x1) x2 (nI x3) x4 x5 x6 x7 x8 x9 x10))]) (cx := [(xa, (b11_1 x0 (nI x1) x2 (nI x3) x4 x5 x6 x7 x8 x9 x10))]) (wr := []) (w1 := [(xa, (b11_1 x0 (nI x1) x2 (nI x3) x4 x5 x6 x7 x8 3 (-1)))]) (pl := va_pl L M) hP hD [0] [] rfl rfl (by decide) (by decide) hk1 hFc hP1 hD1
          have hP : va_P D vwCl ([(xa, (b11_1 x0 (nI x1) x2 (nI x3) x4 x5 x6 x7 x8 3 (-1)))] ++ va_pl L M) H_172 := hP
          have hD : va_D A ([(xa, (b11_1 x0 (nI x1) x2 (nI x3) x4 x5 x6 x7 x8 3 (-1)))] ++ va_pl L M) := hD
          have hq := Eq.symm hp_175
          subst hq
          refine W.widen (k := 2) (n := 27) (Nat.le_of_ble_eq_true rfl) (Nat.le_of_ble_eq_true rfl) ?_
          have hI_176 : (k2 : Int32).toInt ≤ (v158_0 : Int32).toInt := ileI rfl rfl c_161
          have hI_177 : (0 : Int) ≤ (k2 : Int32).toInt := inltI rfl rfl c_167
          have hI_178 : (k2 : Int32).toInt ≤ (999 : Int) := inltI rfl rfl c_168
          have hno : ¬ okRu x1 SX SY k1 k2 := fun q9 => by unfold okRu okH at q9; first | omega | (obtain ⟨⟨_, _⟩, _, _, _, _⟩ := q9; first | omega | contradiction)
          rw [hQ]
          exact W.iret (v := (-1)) hx hb hr (fun t ht hW9 => ⟨⟨(-1), (K, L, M), rfl, ⟨hX0, hW, hF, hT2, (by unfold anRu; rw [if_neg hno])⟩, ⟨3, (fun g9 hG9 => ⟨_, by unfold sxRu syRu; rw [if_neg hno, if_neg hno]; exact hC.mono⟩), by rw [ht]; exact hP, hD⟩⟩, hS.F ht⟩) hS.2.2 dX11_rule_77
        · have hz := rfl (a := 0)
          refine lv_if_eq (tgt := 72) hx hb dX11_rule_64 (by decide) (fun _ => ?_) (fun c_179 => absurd c_179 (by decide))
          refine lv_aload_n hx hb dX11_rule_72 rfl (lv_at hl 3 rfl) ?_
          refine lv_iconst (v := 3) hx hb dX11_rule_73 (by decide) ?_
          have hPc := hP.sub (ws' := [(xa, (b11_1 x0 (nI x1) x2 (nI x3) x4 x5 x6 x7 x8 x9 x10))]) [0] rfl
          have hDc := hD.sub (ws' := [(xa, (b11_1 x0 (nI x1) x2 (nI x3) x4 x5 x6 x7 x8 x9 x10))]) [0] (by decide) rfl
          have hKc := hK.sub (tys' := []) [] rfl
          have hFc := va_free (wc := [(xa, (b11_1 x0 (nI x1) x2 (nI x3) x4 x5 x6 x7 x8 x9 x10))]) hD hS hA [0] rfl
          refine va_calli (va_runV (As := [.int 3]) (rest := []) ⟨hx, hb, hml, hown, hg⟩ (k_refuse l D H_162.size xa x0 (nI x1) x2 (nI x3) x4 x5 x6 x7 x8 x9 x10 3) (cwV 1 hg (gV wd_344 wd_345 wd_346 wd_3 wd_347) rfl rfl rfl (by decide +kernel) ⟨(Nat.le_trans (Nat.le_of_ble_eq_true rfl) hRf), (Nat.le_trans (Nat.le_of_ble_eq_true rfl) hRl)⟩) ⟨Pr.blind, va_recv hK hP (ci := 11) (q0 := 0) rfl rfl, fun U hU hW => ⟨rfl, Pr.at hPc hKc hDc hN hU hW⟩⟩ rfl rfl hl.1 rfl (lv_room (Nat.le_of_ble_eq_true rfl)) dX11_rule_74 ⟨(Nat.le_trans (Nat.le_of_ble_eq_true rfl) hRc), (Nat.le_trans (Nat.le_of_ble_eq_true rfl) hRs)⟩) hS (fun q _ h => hFc q h) hFc (fun r_181 M_182 t H_180 locs ht hvm hw hB hz1 hk1 hS => ?_)
          have hp_183 := hw
          obtain ⟨hP1, hK1, hD1⟩ := hB
          rw [ht] at hP1
          obtain ⟨hP, hD⟩ := va_joinQ (X := [(xa, (b11_1 x0 (nI x1) x2 (nI x3) x4 x5 x6 x7 x8 x9 x10))]) (cx := [(xa, (b11_1 x0 (nI x1) x2 (nI x3) x4 x5 x6 x7 x8 x9 x10))]) (wr := []) (w1 := [(xa, (b11_1 x0 (nI x1) x2 (nI x3) x4 x5 x6 x7 x8 3 (-1)))]) (pl := va_pl L M) hP hD [0] [] rfl rfl (by decide) (by decide) hk1 hFc hP1 hD1
          have hP : va_P D vwCl ([(xa, (b11_1 x0 (nI x1) x2 (nI x3) x4 x5 x6 x7 x8 3 (-1)))] ++ va_pl L M) H_180 := hP
          have hD : va_D A ([(xa, (b11_1 x0 (nI x1) x2 (nI x3) x4 x5 x6 x7 x8 3 (-1)))] ++ va_pl L M) := hD
          have hq := Eq.symm hp_183
          subst hq
          refine W.widen (k := 2) (n := 27) (Nat.le_of_ble_eq_true rfl) (Nat.le_of_ble_eq_true rfl) ?_
          have hI_184 : (k2 : Int32).toInt ≤ (v158_0 : Int32).toInt := ileI rfl rfl c_161
          have hno : ¬ okRu x1 SX SY k1 k2 := fun q9 => by unfold okRu okH at q9; first | omega | (obtain ⟨⟨_, _⟩, _, _, _, _⟩ := q9; first | omega | contradiction)
          rw [hQ]
          exact W.iret (v := (-1)) hx hb hr (fun t ht hW9 => ⟨⟨(-1), (K, L, M), rfl, ⟨hX0, hW, hF, hT2, (by unfold anRu; rw [if_neg hno])⟩, ⟨3, (fun g9 hG9 => ⟨_, by unfold sxRu syRu; rw [if_neg hno, if_neg hno]; exact hC.mono⟩), by rw [ht]; exact hP, hD⟩⟩, hS.F ht⟩) hS.2.2 dX11_rule_77
      · have hz := rfl (a := 0)
        refine lv_iconst (v := 1) hx hb dX11_rule_52 (by decide) ?_
        refine lv_goto (tgt := 57) hx hb dX11_rule_53 (by decide) ?_
        refine lv_istore (lv' := [(5, .int 1), (4, .ref b_24), (3, .ref b_5), (0, .ref xa), (1, .int k1), (2, .int k2)]) hx hb dX11_rule_57 hl (by decide) rfl (fun ls hl => ?_)
        refine lv_aload_n hx hb dX11_rule_59 rfl (lv_at hl 2 rfl) ?_
        refine lv_iload_n hx hb dX11_rule_60 rfl (lv_at hl 5 rfl) ?_
        have hPc : va_P D vwCl ([] ++ va_pl L M) H_20 := hP.part (cx := []) [] rfl
        have hDc : va_D A ([] ++ va_pl L M) := hD.part (cx := []) [] (by decide) rfl
        have hFc : ∀ q, va_A ([] ++ va_pl L M) H_20.size q → A q := pg_free hDc hS hA
        refine va_calli (va_runV (As := [.int k2]) (rest := []) ⟨hx, hb, hml, hown, hg⟩ (e_X2_isFree l D cy K L M H_20.size b_5 k2  hW hb_10) (cwV 1 hg (gV wd_361 wd_362 wd_363 wd_57 wd_364) rfl rfl rfl (by decide +kernel) ⟨(Nat.le_trans (Nat.le_of_ble_eq_true rfl) hRf), (Nat.le_trans (Nat.le_of_ble_eq_true rfl) hRl)⟩) ⟨PG.blind, pg_recv hK hP hb_10.1 hM11 rfl, fun U hU hW => ⟨rfl, PG.at hPc hK hDc hN hU hW⟩⟩ rfl rfl hl.1 rfl (lv_room (Nat.le_of_ble_eq_true rfl)) dX11_rule_61 ⟨(Nat.le_trans (Nat.le_of_ble_eq_true rfl) hRc), (Nat.le_trans (Nat.le_of_ble_eq_true rfl) hRs)⟩) hS (fun q _ h => hFc q h) hFc (fun r_186 M_187 t H_185 locs ht hvm hw hB hz1 hk1 hS => ?_)
        have hp_188 := hw
        obtain ⟨hP1, hD1⟩ := hB
        rw [ht] at hP1
        obtain ⟨hP, hD⟩ := va_joinP (X := [(xa, (b11_1 x0 (nI x1) x2 (nI x3) x4 x5 x6 x7 x8 x9 x10))]) (cx := []) (wr := [(xa, (b11_1 x0 (nI x1) x2 (nI x3) x4 x5 x6 x7 x8 x9 x10))]) (rx := []) (pl := va_pl L M) (pl1 := va_pl L M) hP hD [] [0] rfl rfl (by decide) (by decide) hk1 hFc hP1 hD1
        have hP : va_P D vwCl ([(xa, (b11_1 x0 (nI x1) x2 (nI x3) x4 x5 x6 x7 x8 x9 x10))] ++ va_pl L M) H_185 := hP
        have hD : va_D A ([(xa, (b11_1 x0 (nI x1) x2 (nI x3) x4 x5 x6 x7 x8 x9 x10))] ++ va_pl L M) := hD
        rcases hp_188 with ⟨rfl, c_189, c_190, c_191⟩ | ⟨rfl, c_192⟩
        · have hz := rfl (a := 0)
          refine lv_if_eq (tgt := 72) hx hb dX11_rule_64 (by decide) (fun c_193 => absurd c_193 (by decide)) (fun _ => ?_)
          refine lv_iload hx hb dX11_rule_67 (lv_at hl 0 rfl) ?_
          refine lv_if_ne (tgt := 78) hx hb dX11_rule_69 (by decide) (fun _ => ?_) (fun c_194 => absurd c_194 (by decide))
          refine lv_aload_n hx hb dX11_rule_78 rfl (lv_at hl 2 rfl) ?_
          refine pg_get (D := D) (ci := 2) (v := .int (nI v11_11)) (C := RX2) (T := TX2) (N := 20) hx hb hg inG2 hown hK hP hb_10.1 hM11 rfl 11 (by decide) (hg _ wd_442) (fun _ h9 => h9) rfl dX11_rule_79 ?_
          refine lv_bipush (v := 16) hx hb dX11_rule_82 (by decide) ?_
          refine lv_icmp_lt (tgt := 94) hx hb dX11_rule_84 (by decide) (fun c_195 => ?_) (fun c_195 => ?_)
          · have hz := rfl (a := 0)
            have n_196 : v11_11 < 16 := (iLT (a := v11_11) (b := 16) (by omega) (by omega)).mp c_195
            refine lv_aload_n hx hb dX11_rule_94 rfl (lv_at hl 2 rfl) ?_
            refine pg_get (D := D) (ci := 2) (v := .ref v11_10) (C := RX2) (T := TX2) (N := 20) hx hb hg inG2 hown hK hP hb_10.1 hM11 rfl 10 (by decide) (hg _ wd_579) (fun _ h9 => h9) rfl dX11_rule_95 ?_
            refine lv_aload_n hx hb dX11_rule_98 rfl (lv_at hl 2 rfl) ?_
            refine pg_get (D := D) (ci := 2) (v := .int (nI v11_11)) (C := RX2) (T := TX2) (N := 20) hx hb hg inG2 hown hK hP hb_10.1 hM11 rfl 11 (by decide) (hg _ wd_442) (fun _ h9 => h9) rfl dX11_rule_99 ?_
            refine va_new (ci := 6) (fs := [.int 0, .int 0, .null]) (C := RX6) (T := TX6) (N := 3) hx hb hg inG6 tyX6 tyX6_ok hown (hg _ wd_580) (hg _ wd_581) (hg _ wd_97) hK hP hD hS hA rfl dfX6 (Nat.le_trans (Nat.le_of_ble_eq_true rfl) hRc) (Nat.le_trans (Nat.le_of_ble_eq_true rfl) hRs) dX11_rule_102 (fun q_197 H_198 hP hD hS => ?_)
            have hP : va_P D vwCl ([(xa, (b11_1 x0 (nI x1) x2 (nI x3) x4 x5 x6 x7 x8 x9 x10)), (q_197, .inr (6, [.int 0, .int 0, .null]))] ++ va_pl L M) H_198 := hP.swap
            have hD : va_D A ([(xa, (b11_1 x0 (nI x1) x2 (nI x3) x4 x5 x6 x7 x8 x9 x10)), (q_197, .inr (6, [.int 0, .int 0, .null]))] ++ va_pl L M) := hD.swap
            refine W.widen (k := 1) (n := 3) (Nat.le_of_ble_eq_true rfl) (Nat.le_of_ble_eq_true rfl) ?_
            refine lv_dup hx hb dX11_rule_105 rfl ?_
            refine lv_iload_n hx hb dX11_rule_106 rfl (lv_at hl 5 rfl) ?_
            refine lv_aload hx hb dX11_rule_107 (lv_at hl 1 rfl) ?_
            have hPc : va_P D vwCl ([(q_197, .inr (6, [.int 0, .int 0, .null]))] ++ va_pl L M) H_198 := hP.part (cx := [(q_197, .inr (6, [.int 0, .int 0, .null]))]) [1] rfl
            have hDc : va_D A ([(q_197, .inr (6, [.int 0, .int 0, .null]))] ++ va_pl L M) := hD.part (cx := [(q_197, .inr (6, [.int 0, .int 0, .null]))]) [1] (by decide) rfl
            have hFc : ∀ q, va_A ([(q_197, .inr (6, [.int 0, .int 0, .null]))] ++ va_pl L M) H_198.size q → A q := pg_free hDc hS hA
            refine va_callv (va_runI (As := [.int k2, .ref b_24]) (rest := [.ref q_197, .int (nI v11_11), .ref v11_10]) ⟨hx, hb, hml, hown, hg⟩ (e_Rule_s l D cy K L M H_198.size q_197 k2 b_24 v158_0 v158_1 v158_2 hW hb_157 hM158 h158_2) (cwI 2 hg (gB wd_582) rfl rfl rfl (hg _ wd_97) (hg _ wd_583) (hg _ wd_584) rfl (by decide +kernel) ⟨(Nat.le_trans (Nat.le_of_ble_eq_true rfl) hRf), (Nat.le_trans (Nat.le_of_ble_eq_true rfl) hRl)⟩) ⟨PG.blind, fun U hU hW => ⟨rfl, PG.at hPc hK hDc hN hU hW⟩⟩ rfl rfl hl.1 rfl (lv_room (Nat.le_of_ble_eq_true rfl)) dX11_rule_109 ⟨(Nat.le_trans (Nat.le_of_ble_eq_true rfl) hRc), (Nat.le_trans (Nat.le_of_ble_eq_true rfl) hRs)⟩) hS (fun q _ h => hFc q h) hFc (fun M_201 t H_199 locs ht hvm hw hB hz1 hk1 hS => ?_)
            have hp_202 := hw
            obtain ⟨e0_203, g9_204, hg_205, hP1, hD1⟩ := hB
            rw [ht] at hP1
            obtain ⟨hP, hD⟩ := va_joinP (X := [(xa, (b11_1 x0 (nI x1) x2 (nI x3) x4 x5 x6 x7 x8 x9 x10)), (q_197, .inr (6, [.int 0, .int 0, .null]))]) (cx := [(q_197, .inr (6, [.int 0, .int 0, .null]))]) (wr := [(xa, (b11_1 x0 (nI x1) x2 (nI x3) x4 x5 x6 x7 x8 x9 x10))]) (rx := [(q_197, (b6_13 k2 v158_1 e0_203)), (e0_203, .inl ((cy 14), 24, .inl (g9_204)))]) (pl := va_pl L M) (pl1 := va_pl L M) hP hD [1] [0] rfl rfl (by decide) (by decide) hk1 hFc hP1 hD1
            have hP : va_P D vwCl ([(xa, (b11_1 x0 (nI x1) x2 (nI x3) x4 x5 x6 x7 x8 x9 x10)), (q_197, (b6_13 k2 v158_1 e0_203)), (e0_203, .inl ((cy 14), 24, .inl (g9_204)))] ++ va_pl L M) H_199 := hP
            have hD : va_D A ([(xa, (b11_1 x0 (nI x1) x2 (nI x3) x4 x5 x6 x7 x8 x9 x10)), (q_197, (b6_13 k2 v158_1 e0_203)), (e0_203, .inl ((cy 14), 24, .inl (g9_204)))] ++ va_pl L M) := hD
            refine W.widen (k := 2) (n := 27) (Nat.le_of_ble_eq_true rfl) (Nat.le_of_ble_eq_true rfl) ?_
            have hP : va_P D vwCl (([(xa, (b11_1 x0 (nI x1) x2 (nI x3) x4 x5 x6 x7 x8 x9 x10)), (q_197, (b6_13 k2 v158_1 e0_203))] ++ [(e0_203, .inl ((cy 14), 24, .inl (g9_204)))]) ++ va_pl L M) H_199 := hP.part (cx := [(xa, (b11_1 x0 (nI x1) x2 (nI x3) x4 x5 x6 x7 x8 x9 x10)), (q_197, (b6_13 k2 v158_1 e0_203))] ++ [(e0_203, .inl ((cy 14), 24, .inl (g9_204)))]) [0, 1, 2] rfl
            have hD : va_D A (([(xa, (b11_1 x0 (nI x1) x2 (nI x3) x4 x5 x6 x7 x8 x9 x10)), (q_197, (b6_13 k2 v158_1 e0_203))] ++ [(e0_203, .inl ((cy 14), 24, .inl (g9_204)))]) ++ va_pl L M) := hD.part (cx := [(xa, (b11_1 x0 (nI x1) x2 (nI x3) x4 x5 x6 x7 x8 x9 x10)), (q_197, (b6_13 k2 v158_1 e0_203))] ++ [(e0_203, .inl ((cy 14), 24, .inl (g9_204)))]) [0, 1, 2] (by decide) rfl
            have hWa := hW
            obtain ⟨K9, L9, M_206, hx9, i_207, hW, hP, hD, hM_208, hfr9, hq9, hm9⟩ := adoptE2 54 24 hP hD hW (fun K' L' x i => (⟨_, rfl⟩ : gd_54 cy K' L' 24 _))
            have hn9 : ∀ b, isk K9 L9 b 2 0 → isk K L b 2 0 := fun b hb => (hm9 b hb.1).elim (fun z => absurd (hb.un (show isk K9 L9 b 54 24 by rw [z]; exact i_207)) (by decide)) (fun z => ⟨z, ((hx9 b z).2).symm.trans hb.2⟩)
            have ho9 : ∀ b, isk K9 L9 b 4 0 → isk K L b 4 0 := fun b hb => (hm9 b hb.1).elim (fun z => absurd (hb.un (show isk K9 L9 b 54 24 by rw [z]; exact i_207)) (by decide)) (fun z => ⟨z, ((hx9 b z).2).symm.trans hb.2⟩)
            have hV : VC (va_up Bo e0_203 (b_5, ((nI v11_11) : Int32).toNatClampNeg)) K9 L9 M0 M_206 b_5 (cfx M b_5) (cax M b_5) := hV.ad (b_5, ((nI v11_11) : Int32).toNatClampNeg) hWa hb_10 hx9 hfr9 hq9 hn9
            have hp4 : ∀ q, isk K9 L9 q 4 0 → isk K0 L0 q 4 0 := fun q iq => hp4 q (ho9 q iq)
            have hq0e0_203 : e0_203 ∉ L0 := fun z => hq9 (hX0 _ z).1
            have hM_210 : M_206 b_5 = (b2_2 v11_0 v11_1 v11_2 v11_3 (nI v11_4) (nI v11_5) v11_6 v11_7 v11_8 (nI v11_9) v11_10 (nI v11_11) v11_12 v11_13 v11_14 v11_15 v11_16 v11_17 v11_18 v11_19) := (hfr9 _ hb_10.1).trans hM11
            have hM_211 : M_206 b_24 = (b6_13 v158_0 v158_1 v158_2) := (hfr9 _ hb_157.1).trans hM158
            have hF : fr K0 L0 [2, 20] M0 M_206 := hF.adX hX0 hfr9
            have hT2 : fT 2 K0 L0 [11] M0 M_206 := hT2.adX hX0 hfr9
            have hX0 := hX0.tr hx9
            have i_212 := i0.ext hx9
            have i_213 := i2.ext hx9
            have i_214 := i4.ext hx9
            have i_215 := i5.ext hx9
            have i_216 := i6.ext hx9
            have i_217 := i8.ext hx9
            have i_218 := hb_10.ext hx9
            have i_219 := h11_3.ext hx9
            have i_220 := h11_6.ext hx9
            have i_221 := h11_7.ext hx9
            have i_222 := h11_8.ext hx9
            have i_223 := h11_10.ext hx9
            have i_224 := h11_12.ext hx9
            have i_225 := h11_13.ext hx9
            have i_226 := h11_16.ext hx9
            have i_227 := h11_17.ext hx9
            have i_228 := h11_18.ext hx9
            have i_229 := h11_19.ext hx9
            have i_230 := hb_157.ext hx9
            have i_231 := h158_2.ext hx9
            obtain ⟨K, L, hK9, hL9⟩ : ∃ (K : Kp) (L : List Nat), K = K9 ∧ L = L9 := ⟨_, _, rfl, rfl⟩
            subst hK9
            subst hL9
            have hP : va_P D vwCl ([(xa, (b11_1 x0 (nI x1) x2 (nI x3) x4 x5 x6 x7 x8 x9 x10)), (q_197, (b6_13 k2 v158_1 e0_203))] ++ va_pl L M_206) H_199 := hP
            have hD : va_D A ([(xa, (b11_1 x0 (nI x1) x2 (nI x3) x4 x5 x6 x7 x8 x9 x10)), (q_197, (b6_13 k2 v158_1 e0_203))] ++ va_pl L M_206) := hD
            have hP : va_P D vwCl (([(xa, (b11_1 x0 (nI x1) x2 (nI x3) x4 x5 x6 x7 x8 x9 x10))] ++ [(q_197, (b6_13 k2 v158_1 e0_203))]) ++ va_pl L M_206) H_199 := hP.part (cx := [(xa, (b11_1 x0 (nI x1) x2 (nI x3) x4 x5 x6 x7 x8 x9 x10))] ++ [(q_197, (b6_13 k2 v158_1 e0_203))]) [0, 1] rfl
            have hD : va_D A (([(xa, (b11_1 x0 (nI x1) x2 (nI x3) x4 x5 x6 x7 x8 x9 x10))] ++ [(q_197, (b6_13 k2 v158_1 e0_203))]) ++ va_pl L M_206) := hD.part (cx := [(xa, (b11_1 x0 (nI x1) x2 (nI x3) x4 x5 x6 x7 x8 x9 x10))] ++ [(q_197, (b6_13 k2 v158_1 e0_203))]) [0, 1] (by decide) rfl
            have hWa := hW
            obtain ⟨K9, L9, M_232, hx9, i_233, hW, hP, hD, hM_234, hfr9, hq9, hm9⟩ := adoptE2 6 0 hP hD hW (fun K' L' x i => (⟨k2, v158_1, e0_203, rfl, i_207.ext x⟩ : gd_6 K' L' _))
            have hn9 : ∀ b, isk K9 L9 b 2 0 → isk K L b 2 0 := fun b hb => (hm9 b hb.1).elim (fun z => absurd (hb.un (show isk K9 L9 b 6 0 by rw [z]; exact i_233)) (by decide)) (fun z => ⟨z, ((hx9 b z).2).symm.trans hb.2⟩)
            have ho9 : ∀ b, isk K9 L9 b 4 0 → isk K L b 4 0 := fun b hb => (hm9 b hb.1).elim (fun z => absurd (hb.un (show isk K9 L9 b 6 0 by rw [z]; exact i_233)) (by decide)) (fun z => ⟨z, ((hx9 b z).2).symm.trans hb.2⟩)
            have hV : VC (va_up (va_up Bo e0_203 (b_5, ((nI v11_11) : Int32).toNatClampNeg)) q_197 (b_5, ((nI v11_11) : Int32).toNatClampNeg)) K9 L9 M0 M_232 b_5 (cfx M b_5) (cax M b_5) := hV.ad (b_5, ((nI v11_11) : Int32).toNatClampNeg) hWa i_218 hx9 hfr9 hq9 hn9
            have hp4 : ∀ q, isk K9 L9 q 4 0 → isk K0 L0 q 4 0 := fun q iq => hp4 q (ho9 q iq)
            have hq0q_197 : q_197 ∉ L0 := fun z => hq9 (hX0 _ z).1
            have hM_235 : M_232 b_5 = (b2_2 v11_0 v11_1 v11_2 v11_3 (nI v11_4) (nI v11_5) v11_6 v11_7 v11_8 (nI v11_9) v11_10 (nI v11_11) v11_12 v11_13 v11_14 v11_15 v11_16 v11_17 v11_18 v11_19) := (hfr9 _ i_218.1).trans hM_210
            have hM_236 : M_232 b_24 = (b6_13 v158_0 v158_1 v158_2) := (hfr9 _ i_230.1).trans hM_211
            have hM_237 : M_232 e0_203 = .inl (cy 14, 24, .inl (g9_204)) := (hfr9 _ i_207.1).trans hM_208
            have hF : fr K0 L0 [2, 20] M0 M_232 := hF.adX hX0 hfr9
            have hT2 : fT 2 K0 L0 [11] M0 M_232 := hT2.adX hX0 hfr9
            have hX0 := hX0.tr hx9
            have i_238 := i_212.ext hx9
            have i_239 := i_213.ext hx9
            have i_240 := i_214.ext hx9
            have i_241 := i_215.ext hx9
            have i_242 := i_216.ext hx9
            have i_243 := i_217.ext hx9
            have i_244 := i_218.ext hx9
            have i_245 := i_219.ext hx9
            have i_246 := i_220.ext hx9
            have i_247 := i_221.ext hx9
            have i_248 := i_222.ext hx9
            have i_249 := i_223.ext hx9
            have i_250 := i_224.ext hx9
            have i_251 := i_225.ext hx9
            have i_252 := i_226.ext hx9
            have i_253 := i_227.ext hx9
            have i_254 := i_228.ext hx9
            have i_255 := i_229.ext hx9
            have i_256 := i_230.ext hx9
            have i_257 := i_231.ext hx9
            have i_258 := i_207.ext hx9
            obtain ⟨K, L, hK9, hL9⟩ : ∃ (K : Kp) (L : List Nat), K = K9 ∧ L = L9 := ⟨_, _, rfl, rfl⟩
            subst hK9
            subst hL9
            have hP : va_P D vwCl ([(xa, (b11_1 x0 (nI x1) x2 (nI x3) x4 x5 x6 x7 x8 x9 x10))] ++ va_pl L M_232) H_199 := hP
            have hD : va_D A ([(xa, (b11_1 x0 (nI x1) x2 (nI x3) x4 x5 x6 x7 x8 x9 x10))] ++ va_pl L M_232) := hD
            obtain ⟨f259, hM259, hf259⟩ := hW.open_20 i_249
            refine pg_astq (r := (RX6, TX6, 3)) hx hb hK hP hD hS i_249.1 6 6 hM259 rfl i_233.1 hM_234 rfl (inbN v11_11 16 (by omega) (by omega)) dX11_rule_112 (fun H_260 locs hP hD hS => ?_)
            obtain ⟨M_261, eM_261⟩ : ∃ M1 : Hp, M1 = va_up M_232 v11_10 (.inl (cy 20, 16, .inr (.inr (.inr (.inr (va_up f259 ((nI v11_11) : Int32).toNatClampNeg (some q_197))))))) := ⟨_, rfl⟩
            have sM_261 : M_261 = sR M_232 v11_10 ((nI v11_11) : Int32).toNatClampNeg (some q_197) := eM_261.trans (sR_of hM259)
            have hV : VC (va_up (va_up Bo e0_203 (b_5, ((nI v11_11) : Int32).toNatClampNeg)) q_197 (b_5, ((nI v11_11) : Int32).toNatClampNeg)) K L M0 M_261 b_5 (cfx M b_5) (va_up (va_up (va_up (va_up (cax M b_5) 33 (upd ((cax M b_5) 33) ((nI v11_11) : Int32).toNatClampNeg (rnN (some q_197)))) 34 (upd ((cax M b_5) 34) ((nI v11_11) : Int32).toNatClampNeg (ruN 0 M_232 (some q_197)))) 35 (upd ((cax M b_5) 35) ((nI v11_11) : Int32).toNatClampNeg (ruN 1 M_232 (some q_197)))) 36 (fun y => if y / 24 = ((nI v11_11) : Int32).toNatClampNeg then tmN M_232 (some q_197) (y % 24) else ((cax M b_5) 36) y)) := by rw [sM_261]; exact VC.r_ru hV hW i_244 (vp_lt (inbN v11_11 16 (by omega) (by omega))) (rA_of (j := 10) hM_235 rfl) hM259 (fun q9 z9 => by cases z9; exact ⟨va_up_self _ _ _, by rw [rA_of (j := 2) hM_234 rfl, va_up_ne _ _ (i_258.neT i_233 (by decide))]; exact va_up_self _ _ _⟩)
            have hP : va_P D vwCl ([(xa, (b11_1 x0 (nI x1) x2 (nI x3) x4 x5 x6 x7 x8 x9 x10))] ++ va_pl L M_261) H_260 := by rw [eM_261]; exact hP
            have hD : va_D A ([(xa, (b11_1 x0 (nI x1) x2 (nI x3) x4 x5 x6 x7 x8 x9 x10))] ++ va_pl L M_261) := by rw [eM_261]; exact hD
            have hW : WOK cy K L M_261 := by rw [eM_261]; exact hW.up_20 i_249 ⟨_, rfl, (upN hf259 i_233)⟩
            have hF : fr K0 L0 [2, 20] M0 M_261 := by rw [eM_261]; exact hF.upX hX0 i_249 (by decide)
            have hT2 : fT 2 K0 L0 [11] M0 M_261 := by rw [eM_261]; exact hT2.neX hX0 i_249 (by decide)
            have hM_262 : M_261 v11_10 = .inl (cy 20, 16, .inr (.inr (.inr (.inr (va_up f259 ((nI v11_11) : Int32).toNatClampNeg (some q_197)))))) := by rw [eM_261]; exact va_up_self _ _ _
            have hM_263 : M_261 b_5 = (b2_2 v11_0 v11_1 v11_2 v11_3 (nI v11_4) (nI v11_5) v11_6 v11_7 v11_8 (nI v11_9) v11_10 (nI v11_11) v11_12 v11_13 v11_14 v11_15 v11_16 v11_17 v11_18 v11_19) := by rw [eM_261, va_up_ne _ _ (i_244.neT i_249 (by decide))]; exact hM_235
            have hM_264 : M_261 b_24 = (b6_13 v158_0 v158_1 v158_2) := by rw [eM_261, va_up_ne _ _ (i_256.neT i_249 (by decide))]; exact hM_236
            have hM_265 : M_261 e0_203 = .inl (cy 14, 24, .inl (g9_204)) := by rw [eM_261, va_up_ne _ _ (i_258.neT i_249 (by decide))]; exact hM_237
            have hM_266 : M_261 q_197 = (b6_13 k2 v158_1 e0_203) := by rw [eM_261, va_up_ne _ _ (i_233.neT i_249 (by decide))]; exact hM_234
            have hf_268 : ∀ j, j < 16 → iskN K L ((va_up f259 ((nI v11_11) : Int32).toNatClampNeg (some q_197)) j) 6 0 := (upN hf259 i_233)
            obtain ⟨f_267, ef_267⟩ : ∃ f : Nat → Option Nat, f = va_up f259 ((nI v11_11) : Int32).toNatClampNeg (some q_197) := ⟨_, rfl⟩
            rw [← ef_267] at hM_262 hf_268
            have hk_269 : f_267 ((nI v11_11) : Int32).toNatClampNeg = some q_197 := by rw [ef_267]; exact va_up_self _ _ _
            clear ef_267
            refine lv_aload_n hx hb dX11_rule_113 rfl (lv_at hl 2 rfl) ?_
            refine lv_dup hx hb dX11_rule_114 rfl ?_
            refine pg_get (D := D) (ci := 2) (v := .int (nI v11_11)) (C := RX2) (T := TX2) (N := 20) hx hb hg inG2 hown hK hP i_244.1 hM_263 rfl 11 (by decide) (hg _ wd_442) (fun _ h9 => h9) rfl dX11_rule_115 ?_
            refine lv_iconst (v := 1) hx hb dX11_rule_118 (by decide) ?_
            refine lv_iadd hx hb dX11_rule_119 ?_
            refine lv_topi (fun f_270 ef_270 => ?_)
            obtain rfl : f_270 = (nI (v11_11 + 1)) := ef_270.trans (nI_add v11_11 1)
            refine pg_put (D := D) (ci := 2) (v := .int (nI (v11_11 + 1))) (ty := .int) (C := RX2) (T := TX2) (N := 20) hx hb hg inG2 tyX2 tyX2_ok nmX2 hown hK hP hD hS i_244.1 hM_263 rfl 11 (by decide) (hg _ wd_442) (fun _ h9 => h9) rfl (by decide +kernel) rfl rfl (Nat.le_of_ble_eq_true rfl) dX11_rule_120 (fun H_271 locs hP hD hS => ?_)
            obtain ⟨M_272, eM_272⟩ : ∃ M1 : Hp, M1 = va_up M_261 b_5 ((b2_2 v11_0 v11_1 v11_2 v11_3 (nI v11_4) (nI v11_5) v11_6 v11_7 v11_8 (nI v11_9) v11_10 (nI (v11_11 + 1)) v11_12 v11_13 v11_14 v11_15 v11_16 v11_17 v11_18 v11_19)) := ⟨_, rfl⟩
            have sM_272 : M_272 = sF M_261 b_5 11 (.int (nI (v11_11 + 1))) := eM_272.trans (sF_of (j := 11) (v := .int (nI (v11_11 + 1))) hM_263 rfl)
            have hV : VC (va_up (va_up Bo e0_203 (b_5, ((nI v11_11) : Int32).toNatClampNeg)) q_197 (b_5, ((nI v11_11) : Int32).toNatClampNeg)) K L M0 M_272 b_5 (va_up (cfx M b_5) 11 (((v11_11 + 1) : Nat) : Int)) (va_up (va_up (va_up (va_up (cax M b_5) 33 (upd ((cax M b_5) 33) ((nI v11_11) : Int32).toNatClampNeg (rnN (some q_197)))) 34 (upd ((cax M b_5) 34) ((nI v11_11) : Int32).toNatClampNeg (ruN 0 M_232 (some q_197)))) 35 (upd ((cax M b_5) 35) ((nI v11_11) : Int32).toNatClampNeg (ruN 1 M_232 (some q_197)))) 36 (fun y => if y / 24 = ((nI v11_11) : Int32).toNatClampNeg then tmN M_232 (some q_197) (y % 24) else ((cax M b_5) 36) y)) := by rw [sM_272]; have h9 := VC.f11 (v := (nI (v11_11 + 1))) hV hW i_244 hM_263 (Nat.le_of_ble_eq_true rfl); rw [show ((nI (v11_11 + 1)) : Int32).toInt = (((v11_11 + 1) : Nat) : Int) from (nI_toInt (by omega))] at h9; exact h9
            have hP : va_P D vwCl ([(xa, (b11_1 x0 (nI x1) x2 (nI x3) x4 x5 x6 x7 x8 x9 x10))] ++ va_pl L M_272) H_271 := by rw [eM_272]; exact hP
            have hD : va_D A ([(xa, (b11_1 x0 (nI x1) x2 (nI x3) x4 x5 x6 x7 x8 x9 x10))] ++ va_pl L M_272) := by rw [eM_272]; exact hD
            have hW : WOK cy K L M_272 := by rw [eM_272]; exact hW.up_2 i_244 ⟨v11_0, v11_1, v11_2, v11_3, v11_4, v11_5, v11_6, v11_7, v11_8, v11_9, v11_10, (v11_11 + 1), v11_12, v11_13, v11_14, v11_15, v11_16, v11_17, v11_18, v11_19, rfl, i_245, h11_4, h11_5, i_246, i_247, i_248, h11_9, i_249, (by omega), i_250, i_251, i_252, i_253, i_254, i_255⟩
            have hF : fr K0 L0 [2, 20] M0 M_272 := by rw [eM_272]; exact hF.upX hX0 i_244 (by decide)
            have hT2 : fT 2 K0 L0 [11] M0 M_272 := by rw [eM_272]; exact hT2.up (i := 11) hM_263 rfl (by decide)
            have hM_273 : M_272 b_5 = (b2_2 v11_0 v11_1 v11_2 v11_3 (nI v11_4) (nI v11_5) v11_6 v11_7 v11_8 (nI v11_9) v11_10 (nI (v11_11 + 1)) v11_12 v11_13 v11_14 v11_15 v11_16 v11_17 v11_18 v11_19) := by rw [eM_272]; exact va_up_self _ _ _
            have hM_274 : M_272 v11_10 = .inl (cy 20, 16, .inr (.inr (.inr (.inr (f_267))))) := by rw [eM_272, va_up_ne _ _ (i_249.neT i_244 (by decide))]; exact hM_262
            have hM_275 : M_272 b_24 = (b6_13 v158_0 v158_1 v158_2) := by rw [eM_272, va_up_ne _ _ (i_256.neT i_244 (by decide))]; exact hM_264
            have hM_276 : M_272 e0_203 = .inl (cy 14, 24, .inl (g9_204)) := by rw [eM_272, va_up_ne _ _ (i_258.neT i_244 (by decide))]; exact hM_265
            have hM_277 : M_272 q_197 = (b6_13 k2 v158_1 e0_203) := by rw [eM_272, va_up_ne _ _ (i_233.neT i_244 (by decide))]; exact hM_266
            have hb_278 : (v11_11 + 1) ≤ 16 := by omega
            refine lv_aload_n hx hb dX11_rule_123 rfl (lv_at hl 3 rfl) ?_
            refine lv_aload_n hx hb dX11_rule_124 rfl (lv_at hl 2 rfl) ?_
            refine pg_get (D := D) (ci := 2) (v := .int (nI (v11_11 + 1))) (C := RX2) (T := TX2) (N := 20) hx hb hg inG2 hown hK hP i_244.1 hM_273 rfl 11 (by decide) (hg _ wd_442) (fun _ h9 => h9) rfl dX11_rule_125 ?_
            have hPc := hP.sub (ws' := [(xa, (b11_1 x0 (nI x1) x2 (nI x3) x4 x5 x6 x7 x8 x9 x10))]) [0] rfl
            have hDc := hD.sub (ws' := [(xa, (b11_1 x0 (nI x1) x2 (nI x3) x4 x5 x6 x7 x8 x9 x10))]) [0] (by decide) rfl
            have hKc := hK.sub (tys' := []) [] rfl
            have hFc := va_free (wc := [(xa, (b11_1 x0 (nI x1) x2 (nI x3) x4 x5 x6 x7 x8 x9 x10))]) hD hS hA [0] rfl
            refine va_calli (va_runV (As := [.int (nI (v11_11 + 1))]) (rest := []) ⟨hx, hb, hml, hown, hg⟩ (k_accept l D H_271.size xa x0 (nI x1) x2 (nI x3) x4 x5 x6 x7 x8 x9 x10 (nI (v11_11 + 1))) (cwV 1 hg (gV wd_356 wd_357 wd_358 wd_3 wd_359) rfl rfl rfl (by decide +kernel) ⟨(Nat.le_trans (Nat.le_of_ble_eq_true rfl) hRf), (Nat.le_trans (Nat.le_of_ble_eq_true rfl) hRl)⟩) ⟨Pr.blind, va_recv hK hP (ci := 11) (q0 := 0) rfl rfl, fun U hU hW => ⟨rfl, Pr.at hPc hKc hDc hN hU hW⟩⟩ rfl rfl hl.1 rfl (lv_room (Nat.le_of_ble_eq_true rfl)) dX11_rule_128 ⟨(Nat.le_trans (Nat.le_of_ble_eq_true rfl) hRc), (Nat.le_trans (Nat.le_of_ble_eq_true rfl) hRs)⟩) hS (fun q _ h => hFc q h) hFc (fun r_280 M_281 t H_279 locs ht hvm hw hB hz1 hk1 hS => ?_)
            have hp_282 := hw
            obtain ⟨hP1, hK1, hD1⟩ := hB
            rw [ht] at hP1
            obtain ⟨hP, hD⟩ := va_joinQ (X := [(xa, (b11_1 x0 (nI x1) x2 (nI x3) x4 x5 x6 x7 x8 x9 x10))]) (cx := [(xa, (b11_1 x0 (nI x1) x2 (nI x3) x4 x5 x6 x7 x8 x9 x10))]) (wr := []) (w1 := [(xa, (b11_1 x0 (nI x1) x2 (nI x3) x4 x5 x6 x7 x8 0 (-1)))]) (pl := va_pl L M_272) hP hD [0] [] rfl rfl (by decide) (by decide) hk1 hFc hP1 hD1
            have hP : va_P D vwCl ([(xa, (b11_1 x0 (nI x1) x2 (nI x3) x4 x5 x6 x7 x8 0 (-1)))] ++ va_pl L M_272) H_279 := hP
            have hD : va_D A ([(xa, (b11_1 x0 (nI x1) x2 (nI x3) x4 x5 x6 x7 x8 0 (-1)))] ++ va_pl L M_272) := hD
            have hq := Eq.symm hp_282
            subst hq
            have hI_283 : (v158_0 : Int32).toInt < (k2 : Int32).toInt := inleI rfl rfl c_161
            have hI_284 : (0 : Int) ≤ (k2 : Int32).toInt := inltI rfl rfl c_190
            have hI_285 : (k2 : Int32).toInt ≤ (999 : Int) := inltI rfl rfl c_191
            have hI_286 : ((v11_11 : Nat) : Int) < (16 : Int) := iltI (nI_toInt (by omega)) rfl c_195
            have hyes : okRu x1 SX SY k1 k2 := by unfold okRu okH; refine ⟨⟨?_, ?_⟩, ?_, ?_, ?_, ?_⟩ <;> first | omega | assumption | decide
            have hr0 : ruN 0 M_232 (some q_197) = k2 := cV_of (j := 0) hM_234 rfl
            have hr1 : ruN 1 M_232 (some q_197) = v158_1 := cV_of (j := 1) hM_234 rfl
            have hr2 : tmN M_232 (some q_197) = g9_204 := by show IFc (M_232 (rA 6 M_232 q_197 2)) = _; rw [rA_of (j := 2) hM_234 rfl, IFc_of hM_237]
            have hix : ((nI v11_11) : Int32).toNatClampNeg = (SX k1.toNatClampNeg 11).toNat := by rw [nI_cl (by omega)]; omega
            rw [hr0, hr1, hr2, hix] at hV
            have hV := hV.cg (X' := va_up (cfx M b_5) 11 (cfx M b_5 11 + 1)) (by rw [show ((v11_11 + 1 : Nat) : Int) = cfx M b_5 11 + 1 by have h9 := hSM.x11; omega]) rfl
            have het : v158_1 = thS (SX k1.toNatClampNeg) (SY k1.toNatClampNeg) := by unfold thS; rw [if_neg (by omega), ← hru.2.2.1, hlr.2.1]; exact (cV_of (j := 1) hM158 rfl).symm
            have her : ∀ m, m < 24 → g9_204 m = trS (SX k1.toNatClampNeg) (SY k1.toNatClampNeg) m := fun m hm => by unfold trS; rw [if_neg (by omega), ← hru.2.2.2 m hm, hlr.2.2 m hm, rA_of (j := 2) hM158 rfl]; exact hg_205 m hm
            rw [hQ]
            exact W.iret (v := (nI (v11_11 + 1))) hx hb hr (fun t ht hW9 => ⟨⟨(nI (v11_11 + 1)), (K, L, M_272), rfl, ⟨hX0, hW, hF, hT2, (by unfold anRu; rw [if_pos hyes]; exact congrArg nI (by omega))⟩, ⟨0, (fun g9 hG9 => ⟨_, by unfold sxRu syRu; rw [if_pos hyes, if_pos hyes]; have hZ := hC00.fin hW00 i000 b1 hkn hb90 hV hX0 (by rw [hF.at i000 (by decide)]) (fun q iq => ⟨hp4 q iq, cR_c (fr.cv hF (by decide) q (hp4 q iq) 3 rfl)⟩) (((hSM.rule (d := k2) (i := (SX k1.toNatClampNeg 11).toNat) (by omega) het (hG9 hyes).1 (fun m hm => (her m hm).trans ((hG9 hyes).2 m hm).symm)).up1)); exact hZ⟩), by rw [ht]; exact hP, hD⟩⟩, hS.F ht⟩) hS.2.2 dX11_rule_131
          · have hz := rfl (a := 0)
            have n_287 : ¬ (v11_11 < 16) := fun q => c_195 ((iLT (a := v11_11) (b := 16) (by omega) (by omega)).mpr q)
            refine lv_aload_n hx hb dX11_rule_87 rfl (lv_at hl 3 rfl) ?_
            refine lv_bipush (v := 9) hx hb dX11_rule_88 (by decide) ?_
            have hPc := hP.sub (ws' := [(xa, (b11_1 x0 (nI x1) x2 (nI x3) x4 x5 x6 x7 x8 x9 x10))]) [0] rfl
            have hDc := hD.sub (ws' := [(xa, (b11_1 x0 (nI x1) x2 (nI x3) x4 x5 x6 x7 x8 x9 x10))]) [0] (by decide) rfl
            have hKc := hK.sub (tys' := []) [] rfl
            have hFc := va_free (wc := [(xa, (b11_1 x0 (nI x1) x2 (nI x3) x4 x5 x6 x7 x8 x9 x10))]) hD hS hA [0] rfl
            refine va_calli (va_runV (As := [.int 9]) (rest := []) ⟨hx, hb, hml, hown, hg⟩ (k_refuse l D H_185.size xa x0 (nI x1) x2 (nI x3) x4 x5 x6 x7 x8 x9 x10 9) (cwV 1 hg (gV wd_344 wd_345 wd_346 wd_3 wd_347) rfl rfl rfl (by decide +kernel) ⟨(Nat.le_trans (Nat.le_of_ble_eq_true rfl) hRf), (Nat.le_trans (Nat.le_of_ble_eq_true rfl) hRl)⟩) ⟨Pr.blind, va_recv hK hP (ci := 11) (q0 := 0) rfl rfl, fun U hU hW => ⟨rfl, Pr.at hPc hKc hDc hN hU hW⟩⟩ rfl rfl hl.1 rfl (lv_room (Nat.le_of_ble_eq_true rfl)) dX11_rule_90 ⟨(Nat.le_trans (Nat.le_of_ble_eq_true rfl) hRc), (Nat.le_trans (Nat.le_of_ble_eq_true rfl) hRs)⟩) hS (fun q _ h => hFc q h) hFc (fun r_289 M_290 t H_288 locs ht hvm hw hB hz1 hk1 hS => ?_)
            have hp_291 := hw
            obtain ⟨hP1, hK1, hD1⟩ := hB
            rw [ht] at hP1
            obtain ⟨hP, hD⟩ := va_joinQ (X := [(xa, (b11_1 x0 (nI x1) x2 (nI x3) x4 x5 x6 x7 x8 x9 x10))]) (cx := [(xa, (b11_1 x0 (nI x1) x2 (nI x3) x4 x5 x6 x7 x8 x9 x10))]) (wr := []) (w1 := [(xa, (b11_1 x0 (nI x1) x2 (nI x3) x4 x5 x6 x7 x8 9 (-1)))]) (pl := va_pl L M) hP hD [0] [] rfl rfl (by decide) (by decide) hk1 hFc hP1 hD1
            have hP : va_P D vwCl ([(xa, (b11_1 x0 (nI x1) x2 (nI x3) x4 x5 x6 x7 x8 9 (-1)))] ++ va_pl L M) H_288 := hP
            have hD : va_D A ([(xa, (b11_1 x0 (nI x1) x2 (nI x3) x4 x5 x6 x7 x8 9 (-1)))] ++ va_pl L M) := hD
            have hq := Eq.symm hp_291
            subst hq
            refine W.widen (k := 2) (n := 27) (Nat.le_of_ble_eq_true rfl) (Nat.le_of_ble_eq_true rfl) ?_
            have hI_292 : (v158_0 : Int32).toInt < (k2 : Int32).toInt := inleI rfl rfl c_161
            have hI_293 : (0 : Int) ≤ (k2 : Int32).toInt := inltI rfl rfl c_190
            have hI_294 : (k2 : Int32).toInt ≤ (999 : Int) := inltI rfl rfl c_191
            have hI_295 : (16 : Int) ≤ ((v11_11 : Nat) : Int) := inltI (nI_toInt (by omega)) rfl c_195
            have hno : ¬ okRu x1 SX SY k1 k2 := fun q9 => by unfold okRu okH at q9; first | omega | (obtain ⟨⟨_, _⟩, _, _, _, _⟩ := q9; first | omega | contradiction)
            rw [hQ]
            exact W.iret (v := (-1)) hx hb hr (fun t ht hW9 => ⟨⟨(-1), (K, L, M), rfl, ⟨hX0, hW, hF, hT2, (by unfold anRu; rw [if_neg hno])⟩, ⟨9, (fun g9 hG9 => ⟨_, by unfold sxRu syRu; rw [if_neg hno, if_neg hno]; exact hC.mono⟩), by rw [ht]; exact hP, hD⟩⟩, hS.F ht⟩) hS.2.2 dX11_rule_93
        · have hz := rfl (a := 0)
          refine lv_if_eq (tgt := 72) hx hb dX11_rule_64 (by decide) (fun _ => ?_) (fun c_296 => absurd c_296 (by decide))
          refine lv_aload_n hx hb dX11_rule_72 rfl (lv_at hl 3 rfl) ?_
          refine lv_iconst (v := 3) hx hb dX11_rule_73 (by decide) ?_
          have hPc := hP.sub (ws' := [(xa, (b11_1 x0 (nI x1) x2 (nI x3) x4 x5 x6 x7 x8 x9 x10))]) [0] rfl
          have hDc := hD.sub (ws' := [(xa, (b11_1 x0 (nI x1) x2 (nI x3) x4 x5 x6 x7 x8 x9 x10))]) [0] (by decide) rfl
          have hKc := hK.sub (tys' := []) [] rfl
          have hFc := va_free (wc := [(xa, (b11_1 x0 (nI x1) x2 (nI x3) x4 x5 x6 x7 x8 x9 x10))]) hD hS hA [0] rfl
          refine va_calli (va_runV (As := [.int 3]) (rest := []) ⟨hx, hb, hml, hown, hg⟩ (k_refuse l D H_185.size xa x0 (nI x1) x2 (nI x3) x4 x5 x6 x7 x8 x9 x10 3) (cwV 1 hg (gV wd_344 wd_345 wd_346 wd_3 wd_347) rfl rfl rfl (by decide +kernel) ⟨(Nat.le_trans (Nat.le_of_ble_eq_true rfl) hRf), (Nat.le_trans (Nat.le_of_ble_eq_true rfl) hRl)⟩) ⟨Pr.blind, va_recv hK hP (ci := 11) (q0 := 0) rfl rfl, fun U hU hW => ⟨rfl, Pr.at hPc hKc hDc hN hU hW⟩⟩ rfl rfl hl.1 rfl (lv_room (Nat.le_of_ble_eq_true rfl)) dX11_rule_74 ⟨(Nat.le_trans (Nat.le_of_ble_eq_true rfl) hRc), (Nat.le_trans (Nat.le_of_ble_eq_true rfl) hRs)⟩) hS (fun q _ h => hFc q h) hFc (fun r_298 M_299 t H_297 locs ht hvm hw hB hz1 hk1 hS => ?_)
          have hp_300 := hw
          obtain ⟨hP1, hK1, hD1⟩ := hB
          rw [ht] at hP1
          obtain ⟨hP, hD⟩ := va_joinQ (X := [(xa, (b11_1 x0 (nI x1) x2 (nI x3) x4 x5 x6 x7 x8 x9 x10))]) (cx := [(xa, (b11_1 x0 (nI x1) x2 (nI x3) x4 x5 x6 x7 x8 x9 x10))]) (wr := []) (w1 := [(xa, (b11_1 x0 (nI x1) x2 (nI x3) x4 x5 x6 x7 x8 3 (-1)))]) (pl := va_pl L M) hP hD [0] [] rfl rfl (by decide) (by decide) hk1 hFc hP1 hD1
          have hP : va_P D vwCl ([(xa, (b11_1 x0 (nI x1) x2 (nI x3) x4 x5 x6 x7 x8 3 (-1)))] ++ va_pl L M) H_297 := hP
          have hD : va_D A ([(xa, (b11_1 x0 (nI x1) x2 (nI x3) x4 x5 x6 x7 x8 3 (-1)))] ++ va_pl L M) := hD
          have hq := Eq.symm hp_300
          subst hq
          refine W.widen (k := 2) (n := 27) (Nat.le_of_ble_eq_true rfl) (Nat.le_of_ble_eq_true rfl) ?_
          have hI_301 : (v158_0 : Int32).toInt < (k2 : Int32).toInt := inleI rfl rfl c_161
          have hno : ¬ okRu x1 SX SY k1 k2 := fun q9 => by unfold okRu okH at q9; first | omega | (obtain ⟨⟨_, _⟩, _, _, _, _⟩ := q9; first | omega | contradiction)
          rw [hQ]
          exact W.iret (v := (-1)) hx hb hr (fun t ht hW9 => ⟨⟨(-1), (K, L, M), rfl, ⟨hX0, hW, hF, hT2, (by unfold anRu; rw [if_neg hno])⟩, ⟨3, (fun g9 hG9 => ⟨_, by unfold sxRu syRu; rw [if_neg hno, if_neg hno]; exact hC.mono⟩), by rw [ht]; exact hP, hD⟩⟩, hS.F ht⟩) hS.2.2 dX11_rule_77
