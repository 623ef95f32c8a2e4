theorem dX12_isIn_0 : decode cX12_isIn 0 = .ok (.aload_n 0, 1) := by decide +kernel
theorem dX12_isIn_1 : decode cX12_isIn 1 = .ok (.getfield 37, 3) := by decide +kernel
theorem dX12_isIn_4 : decode cX12_isIn 4 = .ok (.iload_n 1, 1) := by decide +kernel
theorem dX12_isIn_5 : decode cX12_isIn 5 = .ok (.iaload, 1) := by decide +kernel
theorem dX12_isIn_6 : decode cX12_isIn 6 = .ok (.iload_n 2, 1) := by decide +kernel
theorem dX12_isIn_7 : decode cX12_isIn 7 = .ok (.if_icmp .gt 27, 3) := by decide +kernel
theorem dX12_isIn_10 : decode cX12_isIn 10 = .ok (.aload_n 0, 1) := by decide +kernel
theorem dX12_isIn_11 : decode cX12_isIn 11 = .ok (.getfield 40, 3) := by decide +kernel
theorem dX12_isIn_14 : decode cX12_isIn 14 = .ok (.iload_n 1, 1) := by decide +kernel
theorem dX12_isIn_15 : decode cX12_isIn 15 = .ok (.iaload, 1) := by decide +kernel
theorem dX12_isIn_16 : decode cX12_isIn 16 = .ok (.iconst (-1), 1) := by decide +kernel
theorem dX12_isIn_17 : decode cX12_isIn 17 = .ok (.if_icmp .eq 13, 3) := by decide +kernel
theorem dX12_isIn_20 : decode cX12_isIn 20 = .ok (.iload_n 2, 1) := by decide +kernel
theorem dX12_isIn_21 : decode cX12_isIn 21 = .ok (.aload_n 0, 1) := by decide +kernel
theorem dX12_isIn_22 : decode cX12_isIn 22 = .ok (.getfield 40, 3) := by decide +kernel
theorem dX12_isIn_25 : decode cX12_isIn 25 = .ok (.iload_n 1, 1) := by decide +kernel
theorem dX12_isIn_26 : decode cX12_isIn 26 = .ok (.iaload, 1) := by decide +kernel
theorem dX12_isIn_27 : decode cX12_isIn 27 = .ok (.if_icmp .ge 7, 3) := by decide +kernel
theorem dX12_isIn_30 : decode cX12_isIn 30 = .ok (.iconst 1, 1) := by decide +kernel
theorem dX12_isIn_31 : decode cX12_isIn 31 = .ok (.goto 4, 3) := by decide +kernel
theorem dX12_isIn_34 : decode cX12_isIn 34 = .ok (.iconst 0, 1) := by decide +kernel
theorem dX12_isIn_35 : decode cX12_isIn 35 = .ok (.ireturn, 1) := by decide +kernel
theorem dX12_ruleOn_0 : decode cX12_ruleOn 0 = .ok (.aload_n 0, 1) := by decide +kernel
theorem dX12_ruleOn_1 : decode cX12_ruleOn 1 = .ok (.getfield 128, 3) := by decide +kernel
theorem dX12_ruleOn_4 : decode cX12_ruleOn 4 = .ok (.iconst 1, 1) := by decide +kernel
theorem dX12_ruleOn_5 : decode cX12_ruleOn 5 = .ok (.isub, 1) := by decide +kernel
theorem dX12_ruleOn_6 : decode cX12_ruleOn 6 = .ok (.istore_n 2, 1) := by decide +kernel
theorem dX12_ruleOn_7 : decode cX12_ruleOn 7 = .ok (.iload_n 2, 1) := by decide +kernel
theorem dX12_ruleOn_8 : decode cX12_ruleOn 8 = .ok (.ifCond .lt 19, 3) := by decide +kernel
theorem dX12_ruleOn_11 : decode cX12_ruleOn 11 = .ok (.aload_n 0, 1) := by decide +kernel
theorem dX12_ruleOn_12 : decode cX12_ruleOn 12 = .ok (.getfield 77, 3) := by decide +kernel
theorem dX12_ruleOn_15 : decode cX12_ruleOn 15 = .ok (.iload_n 2, 1) := by decide +kernel
theorem dX12_ruleOn_16 : decode cX12_ruleOn 16 = .ok (.iaload, 1) := by decide +kernel
theorem dX12_ruleOn_17 : decode cX12_ruleOn 17 = .ok (.iload_n 1, 1) := by decide +kernel
theorem dX12_ruleOn_18 : decode cX12_ruleOn 18 = .ok (.if_icmp .le 9, 3) := by decide +kernel
theorem dX12_ruleOn_21 : decode cX12_ruleOn 21 = .ok (.iinc 2 (-1), 3) := by decide +kernel
theorem dX12_ruleOn_24 : decode cX12_ruleOn 24 = .ok (.goto (-17), 3) := by decide +kernel
theorem dX12_ruleOn_27 : decode cX12_ruleOn 27 = .ok (.iload_n 2, 1) := by decide +kernel
theorem dX12_ruleOn_28 : decode cX12_ruleOn 28 = .ok (.ireturn, 1) := by decide +kernel
theorem dX12_term_0 : decode cX12_term 0 = .ok (.aload_n 0, 1) := by decide +kernel
theorem dX12_term_1 : decode cX12_term 1 = .ok (.getfield 83, 3) := by decide +kernel
theorem dX12_term_4 : decode cX12_term 4 = .ok (.iconst 4, 1) := by decide +kernel
theorem dX12_term_5 : decode cX12_term 5 = .ok (.iload_n 1, 1) := by decide +kernel
theorem dX12_term_6 : decode cX12_term 6 = .ok (.imul, 1) := by decide +kernel
theorem dX12_term_7 : decode cX12_term 7 = .ok (.iload_n 2, 1) := by decide +kernel
theorem dX12_term_8 : decode cX12_term 8 = .ok (.iadd, 1) := by decide +kernel
theorem dX12_term_9 : decode cX12_term 9 = .ok (.bipush 6, 2) := by decide +kernel
theorem dX12_term_11 : decode cX12_term 11 = .ok (.imul, 1) := by decide +kernel
theorem dX12_term_12 : decode cX12_term 12 = .ok (.iload_n 3, 1) := by decide +kernel
theorem dX12_term_13 : decode cX12_term 13 = .ok (.iadd, 1) := by decide +kernel
theorem dX12_term_14 : decode cX12_term 14 = .ok (.iaload, 1) := by decide +kernel
theorem dX12_term_15 : decode cX12_term 15 = .ok (.ireturn, 1) := by decide +kernel
theorem dX12_isFree_0 : decode cX12_isFree 0 = .ok (.iload_n 1, 1) := by decide +kernel
theorem dX12_isFree_1 : decode cX12_isFree 1 = .ok (.aload_n 0, 1) := by decide +kernel
theorem dX12_isFree_2 : decode cX12_isFree 2 = .ok (.getfield 132, 3) := by decide +kernel
theorem dX12_isFree_5 : decode cX12_isFree 5 = .ok (.if_icmp .le 14, 3) := by decide +kernel
theorem dX12_isFree_8 : decode cX12_isFree 8 = .ok (.iload_n 1, 1) := by decide +kernel
theorem dX12_isFree_9 : decode cX12_isFree 9 = .ok (.sipush 1000, 3) := by decide +kernel
theorem dX12_isFree_12 : decode cX12_isFree 12 = .ok (.if_icmp .ge 7, 3) := by decide +kernel
theorem dX12_isFree_15 : decode cX12_isFree 15 = .ok (.iconst 1, 1) := by decide +kernel
theorem dX12_isFree_16 : decode cX12_isFree 16 = .ok (.goto 4, 3) := by decide +kernel
theorem dX12_isFree_19 : decode cX12_isFree 19 = .ok (.iconst 0, 1) := by decide +kernel
theorem dX12_isFree_20 : decode cX12_isFree 20 = .ok (.ireturn, 1) := by decide +kernel
theorem dX12_isOpen_0 : decode cX12_isOpen 0 = .ok (.aload_n 0, 1) := by decide +kernel
theorem dX12_isOpen_1 : decode cX12_isOpen 1 = .ok (.getfield 9, 3) := by decide +kernel
theorem dX12_isOpen_4 : decode cX12_isOpen 4 = .ok (.iload_n 1, 1) := by decide +kernel
theorem dX12_isOpen_5 : decode cX12_isOpen 5 = .ok (.iaload, 1) := by decide +kernel
theorem dX12_isOpen_6 : decode cX12_isOpen 6 = .ok (.iconst (-1), 1) := by decide +kernel
theorem dX12_isOpen_7 : decode cX12_isOpen 7 = .ok (.if_icmp .eq 18, 3) := by decide +kernel
theorem dX12_isOpen_10 : decode cX12_isOpen 10 = .ok (.aload_n 0, 1) := by decide +kernel
theorem dX12_isOpen_11 : decode cX12_isOpen 11 = .ok (.getfield 15, 3) := by decide +kernel
theorem dX12_isOpen_14 : decode cX12_isOpen 14 = .ok (.iload_n 1, 1) := by decide +kernel
theorem dX12_isOpen_15 : decode cX12_isOpen 15 = .ok (.iaload, 1) := by decide +kernel
theorem dX12_isOpen_16 : decode cX12_isOpen 16 = .ok (.aload_n 0, 1) := by decide +kernel
theorem dX12_isOpen_17 : decode cX12_isOpen 17 = .ok (.getfield 9, 3) := by decide +kernel
theorem dX12_isOpen_20 : decode cX12_isOpen 20 = .ok (.iload_n 1, 1) := by decide +kernel
theorem dX12_isOpen_21 : decode cX12_isOpen 21 = .ok (.iaload, 1) := by decide +kernel
theorem dX12_isOpen_22 : decode cX12_isOpen 22 = .ok (.if_icmp .ge 7, 3) := by decide +kernel
theorem dX12_isOpen_25 : decode cX12_isOpen 25 = .ok (.iconst 1, 1) := by decide +kernel
theorem dX12_isOpen_26 : decode cX12_isOpen 26 = .ok (.goto 4, 3) := by decide +kernel
theorem dX12_isOpen_29 : decode cX12_isOpen 29 = .ok (.iconst 0, 1) := by decide +kernel
theorem dX12_isOpen_30 : decode cX12_isOpen 30 = .ok (.ireturn, 1) := by decide +kernel
theorem dX12_entries_0 : decode cX12_entries 0 = .ok (.lconst 0, 1) := by decide +kernel
theorem dX12_entries_1 : decode cX12_entries 1 = .ok (.lstore_n 2, 1) := by decide +kernel
theorem dX12_entries_2 : decode cX12_entries 2 = .ok (.iconst 0, 1) := by decide +kernel
theorem dX12_entries_3 : decode cX12_entries 3 = .ok (.istore 4, 2) := by decide +kernel
theorem dX12_entries_5 : decode cX12_entries 5 = .ok (.iload 4, 2) := by decide +kernel
theorem dX12_entries_7 : decode cX12_entries 7 = .ok (.aload_n 0, 1) := by decide +kernel
theorem dX12_entries_8 : decode cX12_entries 8 = .ok (.getfield 15, 3) := by decide +kernel
theorem dX12_entries_11 : decode cX12_entries 11 = .ok (.iload_n 1, 1) := by decide +kernel
theorem dX12_entries_12 : decode cX12_entries 12 = .ok (.iaload, 1) := by decide +kernel
theorem dX12_entries_13 : decode cX12_entries 13 = .ok (.if_icmp .ge 24, 3) := by decide +kernel
theorem dX12_entries_16 : decode cX12_entries 16 = .ok (.lload_n 2, 1) := by decide +kernel
theorem dX12_entries_17 : decode cX12_entries 17 = .ok (.aload_n 0, 1) := by decide +kernel
theorem dX12_entries_18 : decode cX12_entries 18 = .ok (.getfield 21, 3) := by decide +kernel
theorem dX12_entries_21 : decode cX12_entries 21 = .ok (.bipush 6, 2) := by decide +kernel
theorem dX12_entries_23 : decode cX12_entries 23 = .ok (.iload_n 1, 1) := by decide +kernel
theorem dX12_entries_24 : decode cX12_entries 24 = .ok (.imul, 1) := by decide +kernel
theorem dX12_entries_25 : decode cX12_entries 25 = .ok (.iload 4, 2) := by decide +kernel
theorem dX12_entries_27 : decode cX12_entries 27 = .ok (.iadd, 1) := by decide +kernel
theorem dX12_entries_28 : decode cX12_entries 28 = .ok (.laload, 1) := by decide +kernel
theorem dX12_entries_29 : decode cX12_entries 29 = .ok (.ladd, 1) := by decide +kernel
theorem dX12_entries_30 : decode cX12_entries 30 = .ok (.lstore_n 2, 1) := by decide +kernel
theorem dX12_entries_31 : decode cX12_entries 31 = .ok (.iinc 4 1, 3) := by decide +kernel
theorem dX12_entries_34 : decode cX12_entries 34 = .ok (.goto (-29), 3) := by decide +kernel
theorem dX12_entries_37 : decode cX12_entries 37 = .ok (.lload_n 2, 1) := by decide +kernel
theorem dX12_entries_38 : decode cX12_entries 38 = .ok (.lreturn, 1) := by decide +kernel
theorem wd_700 : Cond.fieldLink RX12 37 RX12 "begin" "[I" ∈ lw_good := mem_t5 137 (by decide +kernel) rfl
theorem wd_701 : Cond.fieldLink RX12 40 RX12 "ended" "[I" ∈ lw_good := mem_t5 139 (by decide +kernel) rfl
theorem wd_702 : Cond.fieldLink RX12 132 RX12 "to" "I" ∈ lw_good := mem_t5 106 (by decide +kernel) rfl
theorem wd_703 : Cond.fieldLink RX12 9 RX12 "places" "[I" ∈ lw_good := mem_t5 108 (by decide +kernel) rfl
theorem wd_704 : Cond.fieldLink RX12 15 RX12 "told" "[I" ∈ lw_good := mem_t5 110 (by decide +kernel) rfl
theorem wd_705 : Cond.fieldLink RX12 83 RX12 "term" "[I" ∈ lw_good := mem_t5 167 (by decide +kernel) rfl
theorem wd_706 : Cond.fieldLink RX12 21 RX12 "entry" "[J" ∈ lw_good := mem_t5 114 (by decide +kernel) rfl
theorem wd_707 : Cond.fieldLink RX12 128 RX12 "rules" "I" ∈ lw_good := mem_t5 123 (by decide +kernel) rfl
theorem wd_708 : Cond.fieldLink RX12 77 RX12 "ruleDay" "[I" ∈ lw_good := mem_t5 163 (by decide +kernel) rfl
theorem ltB {x : Int32} {v b : Nat} (hb : b < 2147483648) (hv : v ≤ b) (h : x < nI v) : ¬ nI b ≤ x := fun q => by
  have h1 := Int32.lt_iff_toInt_lt.mp h
  have h2 := Int32.le_iff_toInt_le.mp q
  rw [nI_toInt (by omega)] at h1
  rw [nI_toInt hb] at h2
  omega
theorem gtN {x : Int32} {c : Nat} (hc : c < 2147483648) (h : nI c < x) : ¬ x < 0 := fun q => by
  have h1 := Int32.lt_iff_toInt_lt.mp h
  have h2 := Int32.lt_iff_toInt_lt.mp q
  rw [nI_toInt hc] at h1
  rw [show (0 : Int32).toInt = 0 from rfl] at h2
  omega
theorem gtM {x : Int32} (h : (-1) < x) : ¬ x < 0 := fun q => by
  have h1 := Int32.lt_iff_toInt_lt.mp h
  have h2 := Int32.lt_iff_toInt_lt.mp q
  rw [show (-1 : Int32).toInt = -1 from rfl] at h1
  rw [show (0 : Int32).toInt = 0 from rfl] at h2
  omega
section ZPOOL
variable {p : Program} {l : Launch} {e : Env} {R : Room} {s : State} {m : MethodId} {args : Array Value} {below : List Frame} {meth : Method} {c : Code} {H : Heap} {locs : List Loc} {cells slots : Nat} {Q : State → Prop}
variable {cc : ByteArray} {pc : Nat} {ls : Array Slot} {rest : List Value} {D : va_G} {A : Nat → Prop} {a : Nat} {tys : List (ClassId × FieldType)} {E : va_W} {L : List Nat} {M : Hp} {H0 : Heap}
theorem pg_zald (hexec : p.tables.exec = Jvm.exec) (hb : c.code = cc) (hK : va_K D vwCl tys s) (hP : va_P D vwCl (E ++ va_pl L M) H) (haL : a ∈ L) (t0 : Nat) {cA : ClassId} {n : Nat} {f : Nat → Int32} (hM : M a = .inl (cA, n, .inl f)) (ht : tys[t0]? = some (cA, .boolean)) {i : Int32} (hin : vp_in i n) (hdg : decode cc pc = .ok (.baload, 1))
    (kk : W p l e R s m args below meth c H locs cells slots Q (F0 m (pc + 1) ls (.int (f i.toNatClampNeg) :: rest))) : W p l e R s m args below meth c H locs cells slots Q (F0 m pc ls (.int i :: .ref a :: rest)) := by
  obtain ⟨q0, hq⟩ := va_pl_get (X := E) (f := M) haL
  rw [hM] at hq
  exact va_zald hexec hb hK hP q0 t0 hq ht hin hdg kk
theorem pg_zast (hexec : p.tables.exec = Jvm.exec) (hb : c.code = cc) (hK : va_K D vwCl tys s) (hP : va_P D vwCl (E ++ va_pl L M) H) (hD : va_D A (E ++ va_pl L M)) (hS : va_S A H0 H locs) (haL : a ∈ L) (t0 : Nat) {cA : ClassId} {n : Nat} {f : Nat → Int32} (hM : M a = .inl (cA, n, .inl f)) (ht : tys[t0]? = some (cA, .boolean)) {i : Int32} {x : Int32} (hin : vp_in i n) (hdg : decode cc pc = .ok (.bastore, 1))
    (kk : ∀ (H1 : Heap) (locs1 : List Loc), va_P D vwCl (E ++ va_pl L (va_up M a (.inl (cA, n, .inl (upd f i.toNatClampNeg (vp_nar .boolean x)))))) H1 → va_D A (E ++ va_pl L (va_up M a (.inl (cA, n, .inl (upd f i.toNatClampNeg (vp_nar .boolean x)))))) → va_S A H0 H1 locs1 → W p l e R s m args below meth c H1 locs1 cells slots Q (F0 m (pc + 1) ls rest)) : W p l e R s m args below meth c H locs cells slots Q (F0 m pc ls (.int x :: .int i :: .ref a :: rest)) := by
  obtain ⟨q0, hq⟩ := va_pl_get (X := E) (f := M) haL
  have hq2 := hq
  rw [hM] at hq2
  refine va_zast hexec hb hK hP hD hS q0 t0 hq2 ht hin hdg (fun H1 locs1 hP1 hD1 hS1 => ?_)
  rw [va_pl_set hD haL hq] at hP1 hD1
  exact kk H1 locs1 hP1 hD1 hS1
end ZPOOL
set_option maxHeartbeats 4000000 in
set_option maxRecDepth 100000 in
theorem r_X12_isIn (l : Launch) (D : va_G) (cy : Nat → ClassId) (K : Kp) (L : List Nat) (M : Hp) (sz : Nat) (oa : Nat) (k1 : Nat) (k2 : Int32) (hW : WOM cy K L M) (ia : isk K L oa 12 0) (nk1 : k1 < 24) : Met l yX12_isIn (wsM yX12_isIn cX12_isIn 3 (some .boolean)) ({ frames := 0, cells := 0, slots := 0, locals := 0 }) (va_Pc [.ref oa, .int (nI k1), .int k2] (PG D cy [] L M sz)) (va_Qi (fun (r : Int32) (_ : Unit) => (r = 1) ∨ (r = 0)) (fun _ t => PQ D [] L M (va_A ([] ++ va_pl L M) sz) t) (va_A ([] ++ va_pl L M) sz)) 0 0 (va_A ([] ++ va_pl L M) sz) := by
  refine Met.ofW (cc := cX12_isIn) (maxL := 3) (ret := (some .boolean)) (by decide) rfl ?_
  intro p e s m args below meth c s₁ B hml hv
  obtain ⟨rfl, hsz, hP, hK, hD0, hN⟩ := hv
  have hx := B.exec
  have hb := B.bytes
  have hr := B.returns
  have hts := atoms_spec (ws := (wsM yX12_isIn cX12_isIn 3 (some .boolean))) B.pre
  have hg : ∀ w ∈ lw_good, w.before _ s = true := fun w h => hts w (List.mem_cons_of_mem _ h)
  have hown : s.vm.findClass RX12 = some m.cls := findClass_of_methodNamed B.named
  have hlocks := B.notSynchronized
  subst hsz
  have hD := hD0.self (sz := s.heap.size)
  generalize hAe : va_A ([] ++ va_pl L M) s.heap.size = A at hD ⊢
  have hA : ∀ q : Nat, s.heap.size ≤ q → A q := fun q h => by rw [← hAe]; exact Or.inr h
  have hS : va_S A s.heap s.heap [] := va_S.rf
  have hl := lv_entry ([.ref oa, .int (nI k1), .int k2]) (n := 3) (Nat.le_of_ble_eq_true rfl)
  rw [lg_entry_eq]
  generalize (lg_sl ([.ref oa, .int (nI k1), .int k2]) ++ List.replicate (3 - (lg_sl ([.ref oa, .int (nI k1), .int k2])).length) Slot.unset).toArray = ls at hl ⊢
  refine W.nameQ (fun Q hQ => ?_)
  refine W.nameR (fun R hR => ?_)
  have hRf : 0 ≤ R.frames := by rw [hR]; exact Nat.le_of_ble_eq_true rfl
  have hRl : 0 ≤ R.locals := by rw [hR]; exact Nat.le_of_ble_eq_true rfl
  have hRc : 0 ≤ R.cells := by rw [hR]; exact Nat.le_of_ble_eq_true rfl
  have hRs : 0 ≤ R.slots := by rw [hR]; exact Nat.le_of_ble_eq_true rfl
  have hl : lv_has ls 3 [(0, .ref oa), (1, .int (nI k1)), (2, .int k2)] := hl
  refine lv_aload_n hx hb dX12_isIn_0 rfl (lv_at hl 0 rfl) ?_
  obtain ⟨fs1, hM1, hn1, hl1⟩ := hW.open_12 ia
  obtain ⟨v2, hv2, hc2⟩ : ∃ v : Nat, fs1[21]? = some (.ref v : Value) ∧ isk K L v 75 24 := hl1 21 (by decide)
  refine pg_get (D := D) (ci := 12) (v := .ref v2) (C := RX12) (T := TX12) (N := 51) hx hb hg inG12 hown hK hP ia.1 hM1 rfl 21 (by decide) (hg _ wd_700) (fun _ h9 => h9) hv2 dX12_isIn_1 ?_
  refine lv_iload_n hx hb dX12_isIn_4 rfl (lv_at hl 1 rfl) ?_
  obtain ⟨f3, hM3⟩ := hW.open_75 hc2
  refine pg_iald hx hb hK hP hc2.1 0 hM3 rfl (inbN k1 24 (by omega) (by omega)) dX12_isIn_5 ?_
  refine lv_topi (fun f_4 ef_4 => ?_)
  refine lv_iload_n hx hb dX12_isIn_6 rfl (lv_at hl 2 rfl) ?_
  refine lv_icmp_gt (tgt := 34) hx hb dX12_isIn_7 (by decide) (fun c_5 => ?_) (fun c_5 => ?_)
  · have hz := rfl (a := 0)
    refine lv_iconst (v := 0) hx hb dX12_isIn_34 (by decide) ?_
    rw [hQ]
    exact W.zret (v := 0) hx hb hr rfl (fun t ht hW9 => ⟨⟨0, (), rfl, (Or.inr rfl), ⟨by rw [ht]; exact hP, hD⟩⟩, hS.F ht⟩) hS.2.2 dX12_isIn_35
  · have hz := rfl (a := 0)
    refine lv_aload_n hx hb dX12_isIn_10 rfl (lv_at hl 0 rfl) ?_
    obtain ⟨v6, hv6, hc6⟩ : ∃ v : Nat, fs1[22]? = some (.ref v : Value) ∧ isk K L v 41 24 := hl1 22 (by decide)
    refine pg_get (D := D) (ci := 12) (v := .ref v6) (C := RX12) (T := TX12) (N := 51) hx hb hg inG12 hown hK hP ia.1 hM1 rfl 22 (by decide) (hg _ wd_701) (fun _ h9 => h9) hv6 dX12_isIn_11 ?_
    refine lv_iload_n hx hb dX12_isIn_14 rfl (lv_at hl 1 rfl) ?_
    obtain ⟨f7, hM7⟩ := hW.open_41 hc6
    refine pg_iald hx hb hK hP hc6.1 0 hM7 rfl (inbN k1 24 (by omega) (by omega)) dX12_isIn_15 ?_
    refine lv_topi (fun f_8 ef_8 => ?_)
    refine lv_iconst (v := (-1)) hx hb dX12_isIn_16 (by decide) ?_
    refine lv_icmp_eq (tgt := 30) hx hb dX12_isIn_17 (by decide) (fun c_9 => ?_) (fun c_9 => ?_)
    · have hz := rfl (a := 0)
      refine lv_iconst (v := 1) hx hb dX12_isIn_30 (by decide) ?_
      refine lv_goto (tgt := 35) hx hb dX12_isIn_31 (by decide) ?_
      rw [hQ]
      exact W.zret (v := 1) hx hb hr rfl (fun t ht hW9 => ⟨⟨1, (), rfl, (Or.inl rfl), ⟨by rw [ht]; exact hP, hD⟩⟩, hS.F ht⟩) hS.2.2 dX12_isIn_35
    · have hz := rfl (a := 0)
      refine lv_iload_n hx hb dX12_isIn_20 rfl (lv_at hl 2 rfl) ?_
      refine lv_aload_n hx hb dX12_isIn_21 rfl (lv_at hl 0 rfl) ?_
      refine pg_get (D := D) (ci := 12) (v := .ref v6) (C := RX12) (T := TX12) (N := 51) hx hb hg inG12 hown hK hP ia.1 hM1 rfl 22 (by decide) (hg _ wd_701) (fun _ h9 => h9) hv6 dX12_isIn_22 ?_
      refine lv_iload_n hx hb dX12_isIn_25 rfl (lv_at hl 1 rfl) ?_
      refine pg_iald hx hb hK hP hc6.1 0 hM7 rfl (inbN k1 24 (by omega) (by omega)) dX12_isIn_26 ?_
      refine lv_topi (fun f_10 ef_10 => ?_)
      refine lv_icmp_ge (tgt := 34) hx hb dX12_isIn_27 (by decide) (fun c_11 => ?_) (fun c_11 => ?_)
      · have hz := rfl (a := 0)
        refine lv_iconst (v := 0) hx hb dX12_isIn_34 (by decide) ?_
        rw [hQ]
        exact W.zret (v := 0) hx hb hr rfl (fun t ht hW9 => ⟨⟨0, (), rfl, (Or.inr rfl), ⟨by rw [ht]; exact hP, hD⟩⟩, hS.F ht⟩) hS.2.2 dX12_isIn_35
      · have hz := rfl (a := 0)
        refine lv_iconst (v := 1) hx hb dX12_isIn_30 (by decide) ?_
        refine lv_goto (tgt := 35) hx hb dX12_isIn_31 (by decide) ?_
        rw [hQ]
        exact W.zret (v := 1) hx hb hr rfl (fun t ht hW9 => ⟨⟨1, (), rfl, (Or.inl rfl), ⟨by rw [ht]; exact hP, hD⟩⟩, hS.F ht⟩) hS.2.2 dX12_isIn_35
set_option maxHeartbeats 4000000 in
set_option maxRecDepth 100000 in
theorem r_X12_term (l : Launch) (D : va_G) (cy : Nat → ClassId) (K : Kp) (L : List Nat) (M : Hp) (sz : Nat) (oa : Nat) (k1 : Nat) (k2 : Nat) (k3 : Nat) (hW : WOM cy K L M) (ia : isk K L oa 12 0) (nk1 : k1 < 16) (nk2 : k2 < 4) (nk3 : k3 < 6) : Met l yX12_term (wsM yX12_term cX12_term 4 (some .int)) ({ frames := 0, cells := 0, slots := 0, locals := 0 }) (va_Pc [.ref oa, .int (nI k1), .int (nI k2), .int (nI k3)] (PG D cy [] L M sz)) (va_Qi (fun (r : Int32) (_ : Unit) => True) (fun _ t => PQ D [] L M (va_A ([] ++ va_pl L M) sz) t) (va_A ([] ++ va_pl L M) sz)) 0 0 (va_A ([] ++ va_pl L M) sz) := by
  refine Met.ofW (cc := cX12_term) (maxL := 4) (ret := (some .int)) (by decide) rfl ?_
  intro p e s m args below meth c s₁ B hml hv
  obtain ⟨rfl, hsz, hP, hK, hD0, hN⟩ := hv
  have hx := B.exec
  have hb := B.bytes
  have hr := B.returns
  have hts := atoms_spec (ws := (wsM yX12_term cX12_term 4 (some .int))) B.pre
  have hg : ∀ w ∈ lw_good, w.before _ s = true := fun w h => hts w (List.mem_cons_of_mem _ h)
  have hown : s.vm.findClass RX12 = some m.cls := findClass_of_methodNamed B.named
  have hlocks := B.notSynchronized
  subst hsz
  have hD := hD0.self (sz := s.heap.size)
  generalize hAe : va_A ([] ++ va_pl L M) s.heap.size = A at hD ⊢
  have hA : ∀ q : Nat, s.heap.size ≤ q → A q := fun q h => by rw [← hAe]; exact Or.inr h
  have hS : va_S A s.heap s.heap [] := va_S.rf
  have hl := lv_entry ([.ref oa, .int (nI k1), .int (nI k2), .int (nI k3)]) (n := 4) (Nat.le_of_ble_eq_true rfl)
  rw [lg_entry_eq]
  generalize (lg_sl ([.ref oa, .int (nI k1), .int (nI k2), .int (nI k3)]) ++ List.replicate (4 - (lg_sl ([.ref oa, .int (nI k1), .int (nI k2), .int (nI k3)])).length) Slot.unset).toArray = ls at hl ⊢
  refine W.nameQ (fun Q hQ => ?_)
  refine W.nameR (fun R hR => ?_)
  have hRf : 0 ≤ R.frames := by rw [hR]; exact Nat.le_of_ble_eq_true rfl
  have hRl : 0 ≤ R.locals := by rw [hR]; exact Nat.le_of_ble_eq_true rfl
  have hRc : 0 ≤ R.cells := by rw [hR]; exact Nat.le_of_ble_eq_true rfl
  have hRs : 0 ≤ R.slots := by rw [hR]; exact Nat.le_of_ble_eq_true rfl
  have hl : lv_has ls 4 [(0, .ref oa), (1, .int (nI k1)), (2, .int (nI k2)), (3, .int (nI k3))] := hl
  refine lv_aload_n hx hb dX12_term_0 rfl (lv_at hl 0 rfl) ?_
  obtain ⟨fs1, hM1, hn1, hl1⟩ := hW.open_12 ia
  obtain ⟨v2, hv2, hc2⟩ : ∃ v : Nat, fs1[36]? = some (.ref v : Value) ∧ isk K L v 78 384 := hl1 36 (by decide)
  refine pg_get (D := D) (ci := 12) (v := .ref v2) (C := RX12) (T := TX12) (N := 51) hx hb hg inG12 hown hK hP ia.1 hM1 rfl 36 (by decide) (hg _ wd_705) (fun _ h9 => h9) hv2 dX12_term_1 ?_
  refine lv_iconst (v := 4) hx hb dX12_term_4 (by decide) ?_
  refine lv_iload_n hx hb dX12_term_5 rfl (lv_at hl 1 rfl) ?_
  refine lv_imul hx hb dX12_term_6 ?_
  refine lv_topi (fun f_3 ef_3 => ?_)
  obtain rfl : f_3 = (nI (4 * k1)) := ef_3.trans (nI_mul 4 k1)
  refine lv_iload_n hx hb dX12_term_7 rfl (lv_at hl 2 rfl) ?_
  refine lv_iadd hx hb dX12_term_8 ?_
  refine lv_topi (fun f_4 ef_4 => ?_)
  obtain rfl : f_4 = (nI ((4 * k1) + k2)) := ef_4.trans (nI_add (4 * k1) k2)
  refine lv_bipush (v := 6) hx hb dX12_term_9 (by decide) ?_
  refine lv_imul hx hb dX12_term_11 ?_
  refine lv_topi (fun f_5 ef_5 => ?_)
  obtain rfl : f_5 = (nI (((4 * k1) + k2) * 6)) := ef_5.trans (nI_mul ((4 * k1) + k2) 6)
  refine lv_iload_n hx hb dX12_term_12 rfl (lv_at hl 3 rfl) ?_
  refine lv_iadd hx hb dX12_term_13 ?_
  refine lv_topi (fun f_6 ef_6 => ?_)
  obtain rfl : f_6 = (nI ((((4 * k1) + k2) * 6) + k3)) := ef_6.trans (nI_add (((4 * k1) + k2) * 6) k3)
  obtain ⟨f7, hM7⟩ := hW.open_78 hc2
  refine pg_iald hx hb hK hP hc2.1 0 hM7 rfl (inbN ((((4 * k1) + k2) * 6) + k3) 384 (by omega) (by omega)) dX12_term_14 ?_
  refine lv_topi (fun f_8 ef_8 => ?_)
  rw [hQ]
  exact W.iret (v := f_8) hx hb hr (fun t ht hW9 => ⟨⟨f_8, (), rfl, trivial, ⟨by rw [ht]; exact hP, hD⟩⟩, hS.F ht⟩) hS.2.2 dX12_term_15
set_option maxHeartbeats 4000000 in
set_option maxRecDepth 100000 in
theorem r_X12_entries (l : Launch) (D : va_G) (cy : Nat → ClassId) (K : Kp) (L : List Nat) (M : Hp) (sz : Nat) (oa : Nat) (k1 : Nat) (hW : WOM cy K L M) (ia : isk K L oa 12 0) (nk1 : k1 < 1000) : Met l yX12_entries (wsM yX12_entries cX12_entries 5 (some .long)) ({ frames := 0, cells := 0, slots := 0, locals := 0 }) (va_Pc [.ref oa, .int (nI k1)] (PG D cy [] L M sz)) (va_Ql (fun (r : Int64) (_ : Unit) => True) (fun _ t => PQ D [] L M (va_A ([] ++ va_pl L M) sz) t) (va_A ([] ++ va_pl L M) sz)) 0 0 (va_A ([] ++ va_pl L M) sz) := by
  refine Met.ofW (cc := cX12_entries) (maxL := 5) (ret := (some .long)) (by decide) rfl ?_
  intro p e s m args below meth c s₁ B hml hv
  obtain ⟨rfl, hsz, hP, hK, hD0, hN⟩ := hv
  have hx := B.exec
  have hb := B.bytes
  have hr := B.returns
  have hts := atoms_spec (ws := (wsM yX12_entries cX12_entries 5 (some .long))) B.pre
  have hg : ∀ w ∈ lw_good, w.before _ s = true := fun w h => hts w (List.mem_cons_of_mem _ h)
  have hown : s.vm.findClass RX12 = some m.cls := findClass_of_methodNamed B.named
  have hlocks := B.notSynchronized
  subst hsz
  have hD := hD0.self (sz := s.heap.size)
  generalize hAe : va_A ([] ++ va_pl L M) s.heap.size = A at hD ⊢
  have hA : ∀ q : Nat, s.heap.size ≤ q → A q := fun q h => by rw [← hAe]; exact Or.inr h
  have hS : va_S A s.heap s.heap [] := va_S.rf
  have hl := lv_entry ([.ref oa, .int (nI k1)]) (n := 5) (Nat.le_of_ble_eq_true rfl)
  rw [lg_entry_eq]
  generalize (lg_sl ([.ref oa, .int (nI k1)]) ++ List.replicate (5 - (lg_sl ([.ref oa, .int (nI k1)])).length) Slot.unset).toArray = ls at hl ⊢
  refine W.nameQ (fun Q hQ => ?_)
  refine W.nameR (fun R hR => ?_)
  have hRf : 0 ≤ R.frames := by rw [hR]; exact Nat.le_of_ble_eq_true rfl
  have hRl : 0 ≤ R.locals := by rw [hR]; exact Nat.le_of_ble_eq_true rfl
  have hRc : 0 ≤ R.cells := by rw [hR]; exact Nat.le_of_ble_eq_true rfl
  have hRs : 0 ≤ R.slots := by rw [hR]; exact Nat.le_of_ble_eq_true rfl
  have hl : lv_has ls 5 [(0, .ref oa), (1, .int (nI k1))] := hl
  refine lv_lconst (v := 0) hx hb dX12_entries_0 (by decide) ?_
  refine lv_lstore_n (lv' := [(2, .long 0), (0, .ref oa), (1, .int (nI k1))]) hx hb dX12_entries_1 rfl hl (by decide) rfl (fun ls hl => ?_)
  refine lv_iconst (v := 0) hx hb dX12_entries_2 (by decide) ?_
  refine lv_istore (lv' := [(4, .int 0), (2, .long 0), (0, .ref oa), (1, .int (nI k1))]) hx hb dX12_entries_3 hl (by decide) rfl (fun ls hl => ?_)
  have key_1 : ∀ (fu_3 : Nat) (v2w4 : Int64) (v4w4 : Nat) (H_6 : Heap) (locs : List Loc) (ls : Array Slot), 6 - v4w4 < fu_3 → v4w4 ≤ 6 → WOM cy K L M → va_P D vwCl ([] ++ va_pl L M) H_6 → va_D A ([] ++ va_pl L M) → va_S A s.heap H_6 locs → lv_has ls 5 [(4, .int (nI v4w4)), (2, .long v2w4), (0, .ref oa), (1, .int (nI k1))] → W p l e R s m ([.ref oa, .int (nI k1)] : List Value).toArray below meth c H_6 locs 0 0 Q (F0 m 5 ls []) := by
    intro fu_3
    induction fu_3 with
    | zero => intro v2w4 v4w4 H_6 locs ls h; exact absurd h (Nat.not_lt_zero _)
    | succ fu_3 ih_2 =>
      intro v2w4 v4w4 H_6 locs ls hfu hx_5 hW hP hD hS hl
      refine lv_iload hx hb dX12_entries_5 (lv_at hl 0 rfl) ?_
      refine lv_aload_n hx hb dX12_entries_7 rfl (lv_at hl 2 rfl) ?_
      obtain ⟨fs7, hM7, hn7, hl7⟩ := hW.open_12 ia
      obtain ⟨v8, hv8, hc8⟩ : ∃ v : Nat, fs7[3]? = some (.ref v : Value) ∧ isk K L v 35 1000 := hl7 3 (by decide)
      refine pg_get (D := D) (ci := 12) (v := .ref v8) (C := RX12) (T := TX12) (N := 51) hx hb hg inG12 hown hK hP ia.1 hM7 rfl 3 (by decide) (hg _ wd_704) (fun _ h9 => h9) hv8 dX12_entries_8 ?_
      refine lv_iload_n hx hb dX12_entries_11 rfl (lv_at hl 3 rfl) ?_
      obtain ⟨f9, hM9, hf9⟩ := hW.open_35 hc8
      have hi_10 : vp_in (nI k1) 1000 := (inbN k1 1000 (by omega) (by omega))
      refine pg_iald hx hb hK hP hc8.1 0 hM9 rfl hi_10 dX12_entries_12 ?_
      have hp_11 := hf9 _ (vp_lt hi_10)
      obtain ⟨c_12, hc_13, ec_14⟩ := hp_11
      rw [ec_14]
      refine lv_icmp_ge (tgt := 37) hx hb dX12_entries_13 (by decide) (fun c_15 => ?_) (fun c_15 => ?_)
      · have hz := rfl (a := 0)
        have n_16 : c_12 ≤ v4w4 := (iLE (a := c_12) (b := v4w4) (by omega) (by omega)).mp c_15
        refine lv_lload_n hx hb dX12_entries_37 rfl (lv_at hl 1 rfl) ?_
        rw [hQ]
        exact W.lret (v := v2w4) hx hb hr (fun t ht hW9 => ⟨⟨v2w4, (), rfl, trivial, ⟨by rw [ht]; exact hP, hD⟩⟩, hS.F ht⟩) hS.2.2 dX12_entries_38
      · have hz := rfl (a := 0)
        have n_17 : ¬ (c_12 ≤ v4w4) := fun q => c_15 ((iLE (a := c_12) (b := v4w4) (by omega) (by omega)).mpr q)
        refine lv_lload_n hx hb dX12_entries_16 rfl (lv_at hl 1 rfl) ?_
        refine lv_aload_n hx hb dX12_entries_17 rfl (lv_at hl 2 rfl) ?_
        obtain ⟨v18, hv18, hc18⟩ : ∃ v : Nat, fs7[5]? = some (.ref v : Value) ∧ isk K L v 84 6000 := hl7 5 (by decide)
        refine pg_get (D := D) (ci := 12) (v := .ref v18) (C := RX12) (T := TX12) (N := 51) hx hb hg inG12 hown hK hP ia.1 hM7 rfl 5 (by decide) (hg _ wd_706) (fun _ h9 => h9) hv18 dX12_entries_18 ?_
        refine lv_bipush (v := 6) hx hb dX12_entries_21 (by decide) ?_
        refine lv_iload_n hx hb dX12_entries_23 rfl (lv_at hl 3 rfl) ?_
        refine lv_imul hx hb dX12_entries_24 ?_
        refine lv_topi (fun f_19 ef_19 => ?_)
        obtain rfl : f_19 = (nI (6 * k1)) := ef_19.trans (nI_mul 6 k1)
        refine lv_iload hx hb dX12_entries_25 (lv_at hl 0 rfl) ?_
        refine lv_iadd hx hb dX12_entries_27 ?_
        refine lv_topi (fun f_20 ef_20 => ?_)
        obtain rfl : f_20 = (nI ((6 * k1) + v4w4)) := ef_20.trans (nI_add (6 * k1) v4w4)
        obtain ⟨f21, hM21⟩ := hW.open_84 hc18
        refine pg_lald hx hb hK hP hc18.1 1 hM21 rfl (inbN ((6 * k1) + v4w4) 6000 (by omega) (by omega)) dX12_entries_28 ?_
        refine lv_topl (fun f_22 ef_22 => ?_)
        refine lv_ladd hx hb dX12_entries_29 ?_
        refine lv_topl (fun f_23 ef_23 => ?_)
        refine lv_lstore_n (lv' := [(2, .long f_23), (4, .int (nI v4w4)), (0, .ref oa), (1, .int (nI k1))]) hx hb dX12_entries_30 rfl hl (by decide) rfl (fun ls hl => ?_)
        refine lv_iinc (v := (nI (v4w4 + 1))) (lv' := [(4, .int (nI (v4w4 + 1))), (2, .long f_23), (0, .ref oa), (1, .int (nI k1))]) hx hb dX12_entries_31 hl (k := 1) rfl (nI_1 v4w4) (by decide) rfl (fun ls hl => ?_)
        refine lv_goto (tgt := 5) hx hb dX12_entries_34 (by decide) ?_
        exact ih_2 f_23 (v4w4 + 1) H_6 _ _ (by omega) (by omega) hW hP hD hS (lv_sub hl [0, 1, 2, 3] rfl)
  exact key_1 (6 - 0 + 1) 0 0 s.heap _ _ (by omega) (by omega) hW hP hD hS (lv_sub hl [0, 1, 2, 3] rfl)
/-- an int from -1 on -/
def pm : Nat → Int32
  | 0 => -1
  | n + 1 => nI n
