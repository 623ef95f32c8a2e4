theorem dX13_enters_0 : decode cX13_enters 0 = .ok (.aload_n 0, 1) := by decide +kernel
theorem dX13_enters_1 : decode cX13_enters 1 = .ok (.iconst 0, 1) := by decide +kernel
theorem dX13_enters_2 : decode cX13_enters 2 = .ok (.putfield 55, 3) := by decide +kernel
theorem dX13_enters_5 : decode cX13_enters 5 = .ok (.aload_n 0, 1) := by decide +kernel
theorem dX13_enters_6 : decode cX13_enters 6 = .ok (.iload_n 1, 1) := by decide +kernel
theorem dX13_enters_7 : decode cX13_enters 7 = .ok (.invokevirtual 64, 3) := by decide +kernel
theorem dX13_enters_10 : decode cX13_enters 10 = .ok (.ifCond .ne 9, 3) := by decide +kernel
theorem dX13_enters_13 : decode cX13_enters 13 = .ok (.aload_n 0, 1) := by decide +kernel
theorem dX13_enters_14 : decode cX13_enters 14 = .ok (.iconst 1, 1) := by decide +kernel
theorem dX13_enters_15 : decode cX13_enters 15 = .ok (.invokevirtual 73, 3) := by decide +kernel
theorem dX13_enters_18 : decode cX13_enters 18 = .ok (.ireturn, 1) := by decide +kernel
theorem dX13_enters_19 : decode cX13_enters 19 = .ok (.iload_n 3, 1) := by decide +kernel
theorem dX13_enters_20 : decode cX13_enters 20 = .ok (.invokestatic 164, 3) := by decide +kernel
theorem dX13_enters_23 : decode cX13_enters 23 = .ok (.ifCond .ne 9, 3) := by decide +kernel
theorem dX13_enters_26 : decode cX13_enters 26 = .ok (.aload_n 0, 1) := by decide +kernel
theorem dX13_enters_27 : decode cX13_enters 27 = .ok (.iconst 2, 1) := by decide +kernel
theorem dX13_enters_28 : decode cX13_enters 28 = .ok (.invokevirtual 73, 3) := by decide +kernel
theorem dX13_enters_31 : decode cX13_enters 31 = .ok (.ireturn, 1) := by decide +kernel
theorem dX13_enters_32 : decode cX13_enters 32 = .ok (.aload_n 0, 1) := by decide +kernel
theorem dX13_enters_33 : decode cX13_enters 33 = .ok (.getfield 12, 3) := by decide +kernel
theorem dX13_enters_36 : decode cX13_enters 36 = .ok (.iload_n 1, 1) := by decide +kernel
theorem dX13_enters_37 : decode cX13_enters 37 = .ok (.aaload, 1) := by decide +kernel
theorem dX13_enters_38 : decode cX13_enters 38 = .ok (.astore 5, 2) := by decide +kernel
theorem dX13_enters_40 : decode cX13_enters 40 = .ok (.aload 5, 2) := by decide +kernel
theorem dX13_enters_42 : decode cX13_enters 42 = .ok (.iload_n 2, 1) := by decide +kernel
theorem dX13_enters_43 : decode cX13_enters 43 = .ok (.invokevirtual 131, 3) := by decide +kernel
theorem dX13_enters_46 : decode cX13_enters 46 = .ok (.ifCond .ne 9, 3) := by decide +kernel
theorem dX13_enters_49 : decode cX13_enters 49 = .ok (.aload_n 0, 1) := by decide +kernel
theorem dX13_enters_50 : decode cX13_enters 50 = .ok (.iconst 3, 1) := by decide +kernel
theorem dX13_enters_51 : decode cX13_enters 51 = .ok (.invokevirtual 73, 3) := by decide +kernel
theorem dX13_enters_54 : decode cX13_enters 54 = .ok (.ireturn, 1) := by decide +kernel
theorem dX13_enters_55 : decode cX13_enters 55 = .ok (.aload 5, 2) := by decide +kernel
theorem dX13_enters_57 : decode cX13_enters 57 = .ok (.getfield 83, 3) := by decide +kernel
theorem dX13_enters_60 : decode cX13_enters 60 = .ok (.iload_n 2, 1) := by decide +kernel
theorem dX13_enters_61 : decode cX13_enters 61 = .ok (.iaload, 1) := by decide +kernel
theorem dX13_enters_62 : decode cX13_enters 62 = .ok (.iconst (-1), 1) := by decide +kernel
theorem dX13_enters_63 : decode cX13_enters 63 = .ok (.if_icmp .eq 20, 3) := by decide +kernel
theorem dX13_enters_66 : decode cX13_enters 66 = .ok (.aload 5, 2) := by decide +kernel
theorem dX13_enters_68 : decode cX13_enters 68 = .ok (.getfield 157, 3) := by decide +kernel
theorem dX13_enters_71 : decode cX13_enters 71 = .ok (.iload_n 2, 1) := by decide +kernel
theorem dX13_enters_72 : decode cX13_enters 72 = .ok (.iaload, 1) := by decide +kernel
theorem dX13_enters_73 : decode cX13_enters 73 = .ok (.aload 5, 2) := by decide +kernel
theorem dX13_enters_75 : decode cX13_enters 75 = .ok (.getfield 83, 3) := by decide +kernel
theorem dX13_enters_78 : decode cX13_enters 78 = .ok (.iload_n 2, 1) := by decide +kernel
theorem dX13_enters_79 : decode cX13_enters 79 = .ok (.iaload, 1) := by decide +kernel
theorem dX13_enters_80 : decode cX13_enters 80 = .ok (.if_icmp .ne 10, 3) := by decide +kernel
theorem dX13_enters_83 : decode cX13_enters 83 = .ok (.aload_n 0, 1) := by decide +kernel
theorem dX13_enters_84 : decode cX13_enters 84 = .ok (.bipush 10, 2) := by decide +kernel
theorem dX13_enters_86 : decode cX13_enters 86 = .ok (.invokevirtual 73, 3) := by decide +kernel
theorem dX13_enters_89 : decode cX13_enters 89 = .ok (.ireturn, 1) := by decide +kernel
theorem dX13_enters_90 : decode cX13_enters 90 = .ok (.iload 4, 2) := by decide +kernel
theorem dX13_enters_92 : decode cX13_enters 92 = .ok (.iload_n 3, 1) := by decide +kernel
theorem dX13_enters_93 : decode cX13_enters 93 = .ok (.imul, 1) := by decide +kernel
theorem dX13_enters_94 : decode cX13_enters 94 = .ok (.istore 6, 2) := by decide +kernel
theorem dX13_enters_96 : decode cX13_enters 96 = .ok (.aload 5, 2) := by decide +kernel
theorem dX13_enters_98 : decode cX13_enters 98 = .ok (.getfield 158, 3) := by decide +kernel
theorem dX13_enters_101 : decode cX13_enters 101 = .ok (.iload_n 2, 1) := by decide +kernel
theorem dX13_enters_102 : decode cX13_enters 102 = .ok (.iaload, 1) := by decide +kernel
theorem dX13_enters_103 : decode cX13_enters 103 = .ok (.ifCond .ne 25, 3) := by decide +kernel
theorem dX13_enters_106 : decode cX13_enters 106 = .ok (.iload 6, 2) := by decide +kernel
theorem dX13_enters_108 : decode cX13_enters 108 = .ok (.sipush 32767, 3) := by decide +kernel
theorem dX13_enters_111 : decode cX13_enters 111 = .ok (.if_icmp .gt 11, 3) := by decide +kernel
theorem dX13_enters_114 : decode cX13_enters 114 = .ok (.iload 6, 2) := by decide +kernel
theorem dX13_enters_116 : decode cX13_enters 116 = .ok (.sipush (-32768), 3) := by decide +kernel
theorem dX13_enters_119 : decode cX13_enters 119 = .ok (.if_icmp .ge 9, 3) := by decide +kernel
theorem dX13_enters_122 : decode cX13_enters 122 = .ok (.aload_n 0, 1) := by decide +kernel
theorem dX13_enters_123 : decode cX13_enters 123 = .ok (.iconst 2, 1) := by decide +kernel
theorem dX13_enters_124 : decode cX13_enters 124 = .ok (.invokevirtual 73, 3) := by decide +kernel
theorem dX13_enters_127 : decode cX13_enters 127 = .ok (.ireturn, 1) := by decide +kernel
theorem dX13_enters_128 : decode cX13_enters 128 = .ok (.aload 5, 2) := by decide +kernel
theorem dX13_enters_130 : decode cX13_enters 130 = .ok (.getfield 167, 3) := by decide +kernel
theorem dX13_enters_133 : decode cX13_enters 133 = .ok (.bipush 6, 2) := by decide +kernel
theorem dX13_enters_135 : decode cX13_enters 135 = .ok (.iload_n 2, 1) := by decide +kernel
theorem dX13_enters_136 : decode cX13_enters 136 = .ok (.imul, 1) := by decide +kernel
theorem dX13_enters_137 : decode cX13_enters 137 = .ok (.aload 5, 2) := by decide +kernel
theorem dX13_enters_139 : decode cX13_enters 139 = .ok (.getfield 157, 3) := by decide +kernel
theorem dX13_enters_142 : decode cX13_enters 142 = .ok (.iload_n 2, 1) := by decide +kernel
theorem dX13_enters_143 : decode cX13_enters 143 = .ok (.iaload, 1) := by decide +kernel
theorem dX13_enters_144 : decode cX13_enters 144 = .ok (.iadd, 1) := by decide +kernel
theorem dX13_enters_145 : decode cX13_enters 145 = .ok (.iload 6, 2) := by decide +kernel
theorem dX13_enters_147 : decode cX13_enters 147 = .ok (.i2l, 1) := by decide +kernel
theorem dX13_enters_148 : decode cX13_enters 148 = .ok (.lastore, 1) := by decide +kernel
theorem dX13_enters_149 : decode cX13_enters 149 = .ok (.aload 5, 2) := by decide +kernel
theorem dX13_enters_151 : decode cX13_enters 151 = .ok (.getfield 157, 3) := by decide +kernel
theorem dX13_enters_154 : decode cX13_enters 154 = .ok (.iload_n 2, 1) := by decide +kernel
theorem dX13_enters_155 : decode cX13_enters 155 = .ok (.dup2, 1) := by decide +kernel
theorem dX13_enters_156 : decode cX13_enters 156 = .ok (.iaload, 1) := by decide +kernel
theorem dX13_enters_157 : decode cX13_enters 157 = .ok (.iconst 1, 1) := by decide +kernel
theorem dX13_enters_158 : decode cX13_enters 158 = .ok (.iadd, 1) := by decide +kernel
theorem dX13_enters_159 : decode cX13_enters 159 = .ok (.iastore, 1) := by decide +kernel
theorem dX13_enters_160 : decode cX13_enters 160 = .ok (.aload 5, 2) := by decide +kernel
theorem dX13_enters_162 : decode cX13_enters 162 = .ok (.iload_n 2, 1) := by decide +kernel
theorem dX13_enters_163 : decode cX13_enters 163 = .ok (.invokevirtual 170, 3) := by decide +kernel
theorem dX13_enters_166 : decode cX13_enters 166 = .ok (.aload_n 0, 1) := by decide +kernel
theorem dX13_enters_167 : decode cX13_enters 167 = .ok (.aload 5, 2) := by decide +kernel
theorem dX13_enters_169 : decode cX13_enters 169 = .ok (.getfield 157, 3) := by decide +kernel
theorem dX13_enters_172 : decode cX13_enters 172 = .ok (.iload_n 2, 1) := by decide +kernel
theorem dX13_enters_173 : decode cX13_enters 173 = .ok (.iaload, 1) := by decide +kernel
theorem dX13_enters_174 : decode cX13_enters 174 = .ok (.invokevirtual 86, 3) := by decide +kernel
theorem dX13_enters_177 : decode cX13_enters 177 = .ok (.ireturn, 1) := by decide +kernel
theorem dX13_earn_0 : decode cX13_earn 0 = .ok (.aload_n 0, 1) := by decide +kernel
theorem dX13_earn_1 : decode cX13_earn 1 = .ok (.iload_n 1, 1) := by decide +kernel
theorem dX13_earn_2 : decode cX13_earn 2 = .ok (.iload_n 2, 1) := by decide +kernel
theorem dX13_earn_3 : decode cX13_earn 3 = .ok (.iload_n 3, 1) := by decide +kernel
theorem dX13_earn_4 : decode cX13_earn 4 = .ok (.iconst 1, 1) := by decide +kernel
theorem dX13_earn_5 : decode cX13_earn 5 = .ok (.invokevirtual 174, 3) := by decide +kernel
theorem dX13_earn_8 : decode cX13_earn 8 = .ok (.ireturn, 1) := by decide +kernel
theorem dX13_spend_0 : decode cX13_spend 0 = .ok (.aload_n 0, 1) := by decide +kernel
theorem dX13_spend_1 : decode cX13_spend 1 = .ok (.iload_n 1, 1) := by decide +kernel
theorem dX13_spend_2 : decode cX13_spend 2 = .ok (.iload_n 2, 1) := by decide +kernel
theorem dX13_spend_3 : decode cX13_spend 3 = .ok (.iload_n 3, 1) := by decide +kernel
theorem dX13_spend_4 : decode cX13_spend 4 = .ok (.iconst (-1), 1) := by decide +kernel
theorem dX13_spend_5 : decode cX13_spend 5 = .ok (.invokevirtual 174, 3) := by decide +kernel
theorem dX13_spend_8 : decode cX13_spend 8 = .ok (.ireturn, 1) := by decide +kernel
theorem dX13_undo_0 : decode cX13_undo 0 = .ok (.aload_n 0, 1) := by decide +kernel
theorem dX13_undo_1 : decode cX13_undo 1 = .ok (.iconst 0, 1) := by decide +kernel
theorem dX13_undo_2 : decode cX13_undo 2 = .ok (.putfield 55, 3) := by decide +kernel
theorem dX13_undo_5 : decode cX13_undo 5 = .ok (.aload_n 0, 1) := by decide +kernel
theorem dX13_undo_6 : decode cX13_undo 6 = .ok (.iload_n 1, 1) := by decide +kernel
theorem dX13_undo_7 : decode cX13_undo 7 = .ok (.invokevirtual 64, 3) := by decide +kernel
theorem dX13_undo_10 : decode cX13_undo 10 = .ok (.ifCond .ne 9, 3) := by decide +kernel
theorem dX13_undo_13 : decode cX13_undo 13 = .ok (.aload_n 0, 1) := by decide +kernel
theorem dX13_undo_14 : decode cX13_undo 14 = .ok (.iconst 1, 1) := by decide +kernel
theorem dX13_undo_15 : decode cX13_undo 15 = .ok (.invokevirtual 73, 3) := by decide +kernel
theorem dX13_undo_18 : decode cX13_undo 18 = .ok (.ireturn, 1) := by decide +kernel
theorem dX13_undo_19 : decode cX13_undo 19 = .ok (.aload_n 0, 1) := by decide +kernel
theorem dX13_undo_20 : decode cX13_undo 20 = .ok (.getfield 12, 3) := by decide +kernel
theorem dX13_undo_23 : decode cX13_undo 23 = .ok (.iload_n 1, 1) := by decide +kernel
theorem dX13_undo_24 : decode cX13_undo 24 = .ok (.aaload, 1) := by decide +kernel
theorem dX13_undo_25 : decode cX13_undo 25 = .ok (.astore_n 2, 1) := by decide +kernel
theorem dX13_undo_26 : decode cX13_undo 26 = .ok (.aload_n 2, 1) := by decide +kernel
theorem dX13_undo_27 : decode cX13_undo 27 = .ok (.getfield 161, 3) := by decide +kernel
theorem dX13_undo_30 : decode cX13_undo 30 = .ok (.ifCond .ne 9, 3) := by decide +kernel
theorem dX13_undo_33 : decode cX13_undo 33 = .ok (.aload_n 0, 1) := by decide +kernel
theorem dX13_undo_34 : decode cX13_undo 34 = .ok (.iconst 0, 1) := by decide +kernel
theorem dX13_undo_35 : decode cX13_undo 35 = .ok (.invokevirtual 86, 3) := by decide +kernel
theorem dX13_undo_38 : decode cX13_undo 38 = .ok (.ireturn, 1) := by decide +kernel
theorem dX13_undo_39 : decode cX13_undo 39 = .ok (.aload_n 2, 1) := by decide +kernel
theorem dX13_undo_40 : decode cX13_undo 40 = .ok (.dup, 1) := by decide +kernel
theorem dX13_undo_41 : decode cX13_undo 41 = .ok (.getfield 161, 3) := by decide +kernel
theorem dX13_undo_44 : decode cX13_undo 44 = .ok (.iconst 1, 1) := by decide +kernel
theorem dX13_undo_45 : decode cX13_undo 45 = .ok (.isub, 1) := by decide +kernel
theorem dX13_undo_46 : decode cX13_undo 46 = .ok (.putfield 161, 3) := by decide +kernel
theorem dX13_undo_49 : decode cX13_undo 49 = .ok (.aload_n 2, 1) := by decide +kernel
theorem dX13_undo_50 : decode cX13_undo 50 = .ok (.getfield 210, 3) := by decide +kernel
theorem dX13_undo_53 : decode cX13_undo 53 = .ok (.aload_n 2, 1) := by decide +kernel
theorem dX13_undo_54 : decode cX13_undo 54 = .ok (.getfield 161, 3) := by decide +kernel
theorem dX13_undo_57 : decode cX13_undo 57 = .ok (.iaload, 1) := by decide +kernel
theorem dX13_undo_58 : decode cX13_undo 58 = .ok (.istore_n 3, 1) := by decide +kernel
theorem dX13_undo_59 : decode cX13_undo 59 = .ok (.iload_n 3, 1) := by decide +kernel
theorem dX13_undo_60 : decode cX13_undo 60 = .ok (.iconst (-1), 1) := by decide +kernel
theorem dX13_undo_61 : decode cX13_undo 61 = .ok (.if_icmp .ne 16, 3) := by decide +kernel
theorem dX13_undo_64 : decode cX13_undo 64 = .ok (.aload_n 2, 1) := by decide +kernel
theorem dX13_undo_65 : decode cX13_undo 65 = .ok (.dup, 1) := by decide +kernel
theorem dX13_undo_66 : decode cX13_undo 66 = .ok (.getfield 193, 3) := by decide +kernel
theorem dX13_undo_69 : decode cX13_undo 69 = .ok (.iconst 1, 1) := by decide +kernel
theorem dX13_undo_70 : decode cX13_undo 70 = .ok (.isub, 1) := by decide +kernel
theorem dX13_undo_71 : decode cX13_undo 71 = .ok (.putfield 193, 3) := by decide +kernel
theorem dX13_undo_74 : decode cX13_undo 74 = .ok (.goto 13, 3) := by decide +kernel
theorem dX13_undo_77 : decode cX13_undo 77 = .ok (.aload_n 2, 1) := by decide +kernel
theorem dX13_undo_78 : decode cX13_undo 78 = .ok (.getfield 157, 3) := by decide +kernel
theorem dX13_undo_81 : decode cX13_undo 81 = .ok (.iload_n 3, 1) := by decide +kernel
theorem dX13_undo_82 : decode cX13_undo 82 = .ok (.dup2, 1) := by decide +kernel
theorem dX13_undo_83 : decode cX13_undo 83 = .ok (.iaload, 1) := by decide +kernel
theorem dX13_undo_84 : decode cX13_undo 84 = .ok (.iconst 1, 1) := by decide +kernel
theorem dX13_undo_85 : decode cX13_undo 85 = .ok (.isub, 1) := by decide +kernel
theorem dX13_undo_86 : decode cX13_undo 86 = .ok (.iastore, 1) := by decide +kernel
theorem dX13_undo_87 : decode cX13_undo 87 = .ok (.aload_n 0, 1) := by decide +kernel
theorem dX13_undo_88 : decode cX13_undo 88 = .ok (.iconst 1, 1) := by decide +kernel
theorem dX13_undo_89 : decode cX13_undo 89 = .ok (.invokevirtual 86, 3) := by decide +kernel
theorem dX13_undo_92 : decode cX13_undo 92 = .ok (.ireturn, 1) := by decide +kernel
theorem wd_836 : Cond.methodLink RX13 174 yX13_enters ∈ lw_good := mem_t6 220 (by decide +kernel) rfl
theorem wd_837 : Cond.instanceMethod yX13_enters ∈ lw_good := mem_t6 222 (by decide +kernel) rfl
theorem wd_838 : Cond.selects RX13 yX13_enters yX13_enters ∈ lw_good := mem_p 34 (by decide +kernel) rfl
theorem wd_839 : Cond.code yX13_enters cX13_enters 7 (some .int) ∈ lw_good := mem_t6 223 rfl rfl
set_option maxHeartbeats 4000000 in
set_option maxRecDepth 100000 in
theorem r_remN (l : Launch) (D : va_G) (cy : Nat → ClassId) (K : Kp) (L : List Nat) (M : Hp) (sz : Nat) (oa : Nat) (k1 : Nat) (hW : WOM cy K L M) (ia : isk K L oa 12 0) (nk1 : k1 < 1000) (hO : OWN K L M) : Met l yX12_remember (wsM yX12_remember cX12_remember 3 none) ({ frames := 0, cells := 0, slots := 0, locals := 0 }) (va_Pc [.ref oa, .int (nI k1)] (PG D cy [] L M sz)) (va_Qv (fun (M9 : Hp) => WOM cy K L M9 ∧ fr K L [12, 36] M M9 ∧ fG K L [16] M M9 ∧ (∃ (n9 : Int) (g9 : Nat → Int32), REMF (fx M oa 16) (ax M oa 43) (nI k1) n9 g9 ∧ VW K L M M9 oa (va_up (fx M oa) 16 n9) (va_up (ax M oa) 43 g9)) ∧ (True)) (fun M9 t => PQ D [] L M9 (va_A ([] ++ va_pl L M) sz) t) (va_A ([] ++ va_pl L M) sz)) 0 0 (va_A ([] ++ va_pl L M) sz) := by
  refine Met.ofW (cc := cX12_remember) (maxL := 3) (ret := none) (by decide) rfl ?_
  intro p e s m args below meth c s₁ B hml hv
  obtain ⟨rfl, hsz, hP, hK, hD0, hN⟩ := hv
  have hx := B.exec
  have hb := B.bytes
  have hr := B.returns
  have hts := atoms_spec (ws := (wsM yX12_remember cX12_remember 3 none)) B.pre
  have hg : ∀ w ∈ lw_good, w.before _ s = true := fun w h => hts w (List.mem_cons_of_mem _ h)
  have hown : s.vm.findClass RX12 = some m.cls := findClass_of_methodNamed B.named
  have hlocks := B.notSynchronized
  subst hsz
  have hD := hD0.self (sz := s.heap.size)
  generalize hAe : va_A ([] ++ va_pl L M) s.heap.size = A at hD ⊢
  have hA : ∀ q : Nat, s.heap.size ≤ q → A q := fun q h => by rw [← hAe]; exact Or.inr h
  have hS : va_S A s.heap s.heap [] := va_S.rf
  have hl := lv_entry ([.ref oa, .int (nI k1)]) (n := 3) (Nat.le_of_ble_eq_true rfl)
  rw [lg_entry_eq]
  generalize (lg_sl ([.ref oa, .int (nI k1)]) ++ List.replicate (3 - (lg_sl ([.ref oa, .int (nI k1)])).length) Slot.unset).toArray = ls at hl ⊢
  refine W.nameQ (fun Q hQ => ?_)
  refine W.nameR (fun R hR => ?_)
  have hRf : 0 ≤ R.frames := by rw [hR]; exact Nat.le_of_ble_eq_true rfl
  have hRl : 0 ≤ R.locals := by rw [hR]; exact Nat.le_of_ble_eq_true rfl
  have hRc : 0 ≤ R.cells := by rw [hR]; exact Nat.le_of_ble_eq_true rfl
  have hRs : 0 ≤ R.slots := by rw [hR]; exact Nat.le_of_ble_eq_true rfl
  have hF : fr K L [12, 36] M M := fr.rf
  have hG : fG K L [16] M M := fG.rf
  have hl : lv_has ls 3 [(0, .ref oa), (1, .int (nI k1))] := hl
  have hV : VW K L M M oa (fx M oa) (ax M oa) := VW.rf oa hO
  refine lv_aload_n hx hb dX12_remember_0 rfl (lv_at hl 0 rfl) ?_
  obtain ⟨fs1, hM1, hn1, hl1⟩ := hW.open_12 ia
  obtain ⟨v2, hv2, hc2⟩ : ∃ v : Nat, fs1[16]? = some (.int (nI v) : Value) ∧ v ≤ 60 := hl1 16 (by decide)
  refine pg_get (D := D) (ci := 12) (v := .int (nI v2)) (C := RX12) (T := TX12) (N := 51) hx hb hg inG12 hown hK hP ia.1 hM1 rfl 16 (by decide) (hg _ wd_825) (fun _ h9 => h9) hv2 dX12_remember_1 ?_
  refine lv_bipush (v := 60) hx hb dX12_remember_4 (by decide) ?_
  refine lv_icmp_ne (tgt := 47) hx hb dX12_remember_6 (by decide) (fun c_3 => ?_) (fun c_3 => ?_)
  · have hz := rfl (a := 0)
    have n_4 : ¬ (v2 = 60) := fun q => c_3 ((iEQ (a := v2) (b := 60) (by omega) (by omega)).mpr q)
    refine lv_aload_n hx hb dX12_remember_47 rfl (lv_at hl 0 rfl) ?_
    obtain ⟨v5, hv5, hc5⟩ : ∃ v : Nat, fs1[43]? = some (.ref v : Value) ∧ isk K L v 36 60 := hl1 43 (by decide)
    refine pg_get (D := D) (ci := 12) (v := .ref v5) (C := RX12) (T := TX12) (N := 51) hx hb hg inG12 hown hK hP ia.1 hM1 rfl 43 (by decide) (hg _ wd_826) (fun _ h9 => h9) hv5 dX12_remember_48 ?_
    refine lv_aload_n hx hb dX12_remember_51 rfl (lv_at hl 0 rfl) ?_
    refine pg_get (D := D) (ci := 12) (v := .int (nI v2)) (C := RX12) (T := TX12) (N := 51) hx hb hg inG12 hown hK hP ia.1 hM1 rfl 16 (by decide) (hg _ wd_825) (fun _ h9 => h9) hv2 dX12_remember_52 ?_
    refine lv_iload_n hx hb dX12_remember_55 rfl (lv_at hl 1 rfl) ?_
    obtain ⟨f6, hM6, hf6⟩ := hW.open_36 hc5
    refine pg_iast hx hb hK hP hD hS hc5.1 0 hM6 rfl (inbN v2 60 (by omega) (by omega)) dX12_remember_56 (fun H_7 locs hP hD hS => ?_)
    obtain ⟨M_8, eM_8⟩ : ∃ M1 : Hp, M1 = va_up M v5 (.inl (cy 14, 60, .inl (upd f6 ((nI v2) : Int32).toNatClampNeg (nI k1)))) := ⟨_, rfl⟩
    have hy43 : (ax M oa 43) = f6 := (congrFun hV.2.2.1 43).symm.trans (ax_of hM1 (by decide) hv5 hM6)
    have hV : VW K L M M_8 oa (fx M oa) (va_up (ax M oa) 43 (upd (ax M oa 43) ((nI v2) : Int32).toNatClampNeg (nI k1))) := by rw [eM_8]; exact hV.ast (j := 43) hW ia hM1 (by decide) hv5 hc5 hM6
    have hP : va_P D vwCl ([] ++ va_pl L M_8) H_7 := by rw [eM_8]; exact hP
    have hD : va_D A ([] ++ va_pl L M_8) := by rw [eM_8]; exact hD
    have hW : WOM cy K L M_8 := by rw [eM_8]; exact hW.up_36 hc5 ⟨_, rfl, (updP (P := fun z => (z = -1 ∨ ∃ c : Nat, c < 1000 ∧ z = nI c)) hf6 (Or.inr ⟨k1, by omega, rfl⟩))⟩
    have hF : fr K L [12, 36] M M_8 := by rw [eM_8]; exact hF.up hc5 (by decide)
    have hG : fG K L [16] M M_8 := by rw [eM_8]; exact hG.arr hc5 (by decide)
    have hM_9 : M_8 v5 = .inl (cy 14, 60, .inl (upd f6 ((nI v2) : Int32).toNatClampNeg (nI k1))) := by rw [eM_8]; exact va_up_self _ _ _
    have hM_10 : M_8 oa = .inr (12, fs1) := by rw [eM_8, va_up_ne _ _ (ia.neT hc5 (by decide))]; exact hM1
    have hf_12 : ∀ j, j < 60 → ((upd f6 ((nI v2) : Int32).toNatClampNeg (nI k1)) j = -1 ∨ ∃ c : Nat, c < 1000 ∧ (upd f6 ((nI v2) : Int32).toNatClampNeg (nI k1)) j = nI c) := (updP (P := fun z => (z = -1 ∨ ∃ c : Nat, c < 1000 ∧ z = nI c)) hf6 (Or.inr ⟨k1, by omega, rfl⟩))
    obtain ⟨f_11, ef_11⟩ : ∃ f : Nat → Int32, f = upd f6 ((nI v2) : Int32).toNatClampNeg (nI k1) := ⟨_, rfl⟩
    rw [← ef_11] at hM_9 hf_12
    refine lv_aload_n hx hb dX12_remember_57 rfl (lv_at hl 0 rfl) ?_
    refine lv_dup hx hb dX12_remember_58 rfl ?_
    refine pg_get (D := D) (ci := 12) (v := .int (nI v2)) (C := RX12) (T := TX12) (N := 51) hx hb hg inG12 hown hK hP ia.1 hM_10 rfl 16 (by decide) (hg _ wd_825) (fun _ h9 => h9) hv2 dX12_remember_59 ?_
    refine lv_iconst (v := 1) hx hb dX12_remember_62 (by decide) ?_
    refine lv_iadd hx hb dX12_remember_63 ?_
    refine lv_topi (fun f_13 ef_13 => ?_)
    obtain rfl : f_13 = (nI (v2 + 1)) := ef_13.trans (nI_add v2 1)
    refine pg_put (D := D) (ci := 12) (v := .int (nI (v2 + 1))) (ty := .int) (C := RX12) (T := TX12) (N := 51) hx hb hg inG12 tyX12 tyX12_ok nmX12 hown hK hP hD hS ia.1 hM_10 rfl 16 (by decide) (hg _ wd_825) (fun _ h9 => h9) rfl (by decide +kernel) rfl rfl (by rw [hn1]; decide) dX12_remember_64 (fun H_14 locs hP hD hS => ?_)
    have hs_17 : (fs1.set 16 (.int (nI (v2 + 1))))[16]? = some (.int (nI (v2 + 1))) := List.getElem?_set_self (by rw [hn1]; decide)
    have hk_16 := fld12_set (k := 16) (w := .int (nI (v2 + 1))) hl1 (show fld12 K L 16 (fs1.set 16 (.int (nI (v2 + 1)))) from ⟨(v2 + 1), hs_17, by omega⟩)
    have hn_18 : (fs1.set 16 (.int (nI (v2 + 1)))).length = 51 := by rw [List.length_set]; exact hn1
    have hv_19 : (fs1.set 16 (.int (nI (v2 + 1))))[43]? = some (.ref v5) := by rw [List.getElem?_set_ne (by decide)]; exact hv5
    have hb_20 : (v2 + 1) ≤ 60 := by omega
    obtain ⟨M_21, eM_21⟩ : ∃ M1 : Hp, M1 = va_up M_8 oa (.inr (12, fs1.set 16 (.int (nI (v2 + 1))))) := ⟨_, rfl⟩
    have hx16 : (fx M oa 16) = ((v2 : Nat) : Int) := (congrFun hV.2.1 16).symm.trans ((fx_of hM_10 rfl hv2).trans (nI_toInt (by omega)))
    have hV : VW K L M M_21 oa (va_up (fx M oa) 16 (((v2 + 1) : Nat) : Int)) (va_up (ax M oa) 43 (upd (ax M oa 43) ((nI v2) : Int32).toNatClampNeg (nI k1))) := by rw [eM_21]; exact hV.put hW ia hM_10 hn1 rfl (by decide) rfl (nI_toInt (by omega))
    have hP : va_P D vwCl ([] ++ va_pl L M_21) H_14 := by rw [eM_21]; exact hP
    have hD : va_D A ([] ++ va_pl L M_21) := by rw [eM_21]; exact hD
    have hW : WOM cy K L M_21 := by rw [eM_21]; exact hW.up_12 ia ⟨_, rfl, hn_18, hk_16⟩
    have hF : fr K L [12, 36] M M_21 := by rw [eM_21]; exact hF.up ia (by decide)
    have hG : fG K L [16] M M_21 := by rw [eM_21]; exact hG.up hM_10 (by decide)
    have hM_22 : M_21 oa = .inr (12, fs1.set 16 (.int (nI (v2 + 1)))) := by rw [eM_21]; exact va_up_self _ _ _
    have hM_23 : M_21 v5 = .inl (cy 14, 60, .inl (f_11)) := by rw [eM_21, va_up_ne _ _ (hc5.neT ia (by decide))]; exact hM_9
    have hRM : REMF (fx M oa 16) (ax M oa 43) (nI k1) (((v2 + 1) : Nat) : Int) (upd (ax M oa 43) ((nI v2) : Int32).toNatClampNeg (nI k1)) := remf1 hx16 (by omega) (nI_cl (by omega))
    rw [hQ]
    exact W.vret hx hb hr (fun t ht hW9 => ⟨⟨M_21, rfl, ⟨hW, hF, hG, ⟨_, _, hRM, hV⟩, trivial⟩, ⟨by rw [ht]; exact hP, hD⟩⟩, hS.F ht⟩) hS.2.2 dX12_remember_67
  · have hz := rfl (a := 0)
    have n_24 : v2 = 60 := (iEQ (a := v2) (b := 60) (by omega) (by omega)).mp c_3
    refine lv_iconst (v := 1) hx hb dX12_remember_9 (by decide) ?_
    refine lv_istore_n (lv' := [(2, .int 1), (0, .ref oa), (1, .int (nI k1))]) hx hb dX12_remember_10 rfl hl (by decide) rfl (fun ls hl => ?_)
    have key_25 : ∀ (fu_27 : Nat) (v2w28 : Nat) (gw28 : Nat → Int32) (M_33 : Hp) (H_34 : Heap) (locs : List Loc) (ls : Array Slot), 60 - v2w28 < fu_27 → M_33 oa = .inr (12, fs1) → 1 ≤ v2w28 → v2w28 ≤ 60 → (∀ i : Nat, i + 1 < v2w28 → gw28 i = ax M oa 43 (i + 1)) → (∀ i : Nat, v2w28 ≤ i + 1 → gw28 i = ax M oa 43 i) → WOM cy K L M_33 → fr K L [12, 36] M M_33 → fG K L [16] M M_33 → VW K L M M_33 oa (fx M oa) (va_up (ax M oa) 43 gw28) → va_P D vwCl ([] ++ va_pl L M_33) H_34 → va_D A ([] ++ va_pl L M_33) → va_S A s.heap H_34 locs → lv_has ls 3 [(2, .int (nI v2w28)), (0, .ref oa), (1, .int (nI k1))] → W p l e R s m ([.ref oa, .int (nI k1)] : List Value).toArray below meth c H_34 locs 0 0 Q (F0 m 11 ls []) := by
      intro fu_27
      induction fu_27 with
      | zero => intro v2w28 gw28 M_33 H_34 locs ls h; exact absurd h (Nat.not_lt_zero _)
      | succ fu_27 ih_26 =>
        intro v2w28 gw28 M_33 H_34 locs ls hfu hM_35 hx_29 hx_30 hx_31 hx_32 hW hF hG hV hP hD hS hl
        refine lv_iload_n hx hb dX12_remember_11 rfl (lv_at hl 0 rfl) ?_
        refine lv_bipush (v := 60) hx hb dX12_remember_12 (by decide) ?_
        refine lv_icmp_ge (tgt := 37) hx hb dX12_remember_14 (by decide) (fun c_36 => ?_) (fun c_36 => ?_)
        · have hz := rfl (a := 0)
          have n_37 : 60 ≤ v2w28 := (iLE (a := 60) (b := v2w28) (by omega) (by omega)).mp c_36
          have hg1 := hx_31
          refine lv_aload_n hx hb dX12_remember_37 rfl (lv_at hl 1 rfl) ?_
          refine lv_dup hx hb dX12_remember_38 rfl ?_
          refine pg_get (D := D) (ci := 12) (v := .int (nI v2)) (C := RX12) (T := TX12) (N := 51) hx hb hg inG12 hown hK hP ia.1 hM_35 rfl 16 (by decide) (hg _ wd_825) (fun _ h9 => h9) hv2 dX12_remember_39 ?_
          refine lv_iconst (v := 1) hx hb dX12_remember_42 (by decide) ?_
          refine lv_isub hx hb dX12_remember_43 ?_
          refine lv_topi (fun f_38 ef_38 => ?_)
          obtain rfl : f_38 = (nI (v2 - 1)) := ef_38.trans (nI_prd (by omega))
          refine pg_put (D := D) (ci := 12) (v := .int (nI (v2 - 1))) (ty := .int) (C := RX12) (T := TX12) (N := 51) hx hb hg inG12 tyX12 tyX12_ok nmX12 hown hK hP hD hS ia.1 hM_35 rfl 16 (by decide) (hg _ wd_825) (fun _ h9 => h9) rfl (by decide +kernel) rfl rfl (by rw [hn1]; decide) dX12_remember_44 (fun H_39 locs hP hD hS => ?_)
          have hs_42 : (fs1.set 16 (.int (nI (v2 - 1))))[16]? = some (.int (nI (v2 - 1))) := List.getElem?_set_self (by rw [hn1]; decide)
          have hk_41 := fld12_set (k := 16) (w := .int (nI (v2 - 1))) hl1 (show fld12 K L 16 (fs1.set 16 (.int (nI (v2 - 1)))) from ⟨(v2 - 1), hs_42, by omega⟩)
          have hn_43 : (fs1.set 16 (.int (nI (v2 - 1)))).length = 51 := by rw [List.length_set]; exact hn1
          have hb_44 : (v2 - 1) ≤ 60 := by omega
          obtain ⟨M_45, eM_45⟩ : ∃ M1 : Hp, M1 = va_up M_33 oa (.inr (12, fs1.set 16 (.int (nI (v2 - 1))))) := ⟨_, rfl⟩
          have hx16 : (fx M oa 16) = ((v2 : Nat) : Int) := (congrFun hV.2.1 16).symm.trans ((fx_of hM_35 rfl hv2).trans (nI_toInt (by omega)))
          have hV : VW K L M M_45 oa (va_up (fx M oa) 16 (((v2 - 1) : Nat) : Int)) (va_up (ax M oa) 43 gw28) := by rw [eM_45]; exact hV.put hW ia hM_35 hn1 rfl (by decide) rfl (nI_toInt (by omega))
          have hP : va_P D vwCl ([] ++ va_pl L M_45) H_39 := by rw [eM_45]; exact hP
          have hD : va_D A ([] ++ va_pl L M_45) := by rw [eM_45]; exact hD
          have hW : WOM cy K L M_45 := by rw [eM_45]; exact hW.up_12 ia ⟨_, rfl, hn_43, hk_41⟩
          have hF : fr K L [12, 36] M M_45 := by rw [eM_45]; exact hF.up ia (by decide)
          have hG : fG K L [16] M M_45 := by rw [eM_45]; exact hG.up hM_35 (by decide)
          have hM_46 : M_45 oa = .inr (12, fs1.set 16 (.int (nI (v2 - 1)))) := by rw [eM_45]; exact va_up_self _ _ _
          refine lv_aload_n hx hb dX12_remember_47 rfl (lv_at hl 1 rfl) ?_
          obtain ⟨v47, hv47, hc47⟩ : ∃ v : Nat, (fs1.set 16 (.int (nI (v2 - 1))))[43]? = some (.ref v : Value) ∧ isk K L v 36 60 := hk_41 43 (by decide)
          refine pg_get (D := D) (ci := 12) (v := .ref v47) (C := RX12) (T := TX12) (N := 51) hx hb hg inG12 hown hK hP ia.1 hM_46 rfl 43 (by decide) (hg _ wd_826) (fun _ h9 => h9) hv47 dX12_remember_48 ?_
          refine lv_aload_n hx hb dX12_remember_51 rfl (lv_at hl 1 rfl) ?_
          refine pg_get (D := D) (ci := 12) (v := .int (nI (v2 - 1))) (C := RX12) (T := TX12) (N := 51) hx hb hg inG12 hown hK hP ia.1 hM_46 rfl 16 (by decide) (hg _ wd_825) (fun _ h9 => h9) hs_42 dX12_remember_52 ?_
          refine lv_iload_n hx hb dX12_remember_55 rfl (lv_at hl 2 rfl) ?_
          obtain ⟨f48, hM48, hf48⟩ := hW.open_36 hc47
          refine pg_iast hx hb hK hP hD hS hc47.1 0 hM48 rfl (inbN (v2 - 1) 60 (by omega) (by omega)) dX12_remember_56 (fun H_49 locs hP hD hS => ?_)
          obtain ⟨M_50, eM_50⟩ : ∃ M1 : Hp, M1 = va_up M_45 v47 (.inl (cy 14, 60, .inl (upd f48 ((nI (v2 - 1)) : Int32).toNatClampNeg (nI k1)))) := ⟨_, rfl⟩
          have hy43 : gw28 = f48 := (congrFun hV.2.2.1 43).symm.trans (ax_of hM_46 (by decide) hv47 hM48)
          have hV : VW K L M M_50 oa (va_up (fx M oa) 16 (((v2 - 1) : Nat) : Int)) (va_up (va_up (ax M oa) 43 gw28) 43 (upd gw28 ((nI (v2 - 1)) : Int32).toNatClampNeg (nI k1))) := by rw [eM_50]; exact hV.ast (j := 43) hW ia hM_46 (by decide) hv47 hc47 hM48
          have hP : va_P D vwCl ([] ++ va_pl L M_50) H_49 := by rw [eM_50]; exact hP
          have hD : va_D A ([] ++ va_pl L M_50) := by rw [eM_50]; exact hD
          have hW : WOM cy K L M_50 := by rw [eM_50]; exact hW.up_36 hc47 ⟨_, rfl, (updP (P := fun z => (z = -1 ∨ ∃ c : Nat, c < 1000 ∧ z = nI c)) hf48 (Or.inr ⟨k1, by omega, rfl⟩))⟩
          have hF : fr K L [12, 36] M M_50 := by rw [eM_50]; exact hF.up hc47 (by decide)
          have hG : fG K L [16] M M_50 := by rw [eM_50]; exact hG.arr hc47 (by decide)
          have hM_51 : M_50 v47 = .inl (cy 14, 60, .inl (upd f48 ((nI (v2 - 1)) : Int32).toNatClampNeg (nI k1))) := by rw [eM_50]; exact va_up_self _ _ _
          have hM_52 : M_50 oa = .inr (12, fs1.set 16 (.int (nI (v2 - 1)))) := by rw [eM_50, va_up_ne _ _ (ia.neT hc47 (by decide))]; exact hM_46
          have hf_54 : ∀ j, j < 60 → ((upd f48 ((nI (v2 - 1)) : Int32).toNatClampNeg (nI k1)) j = -1 ∨ ∃ c : Nat, c < 1000 ∧ (upd f48 ((nI (v2 - 1)) : Int32).toNatClampNeg (nI k1)) j = nI c) := (updP (P := fun z => (z = -1 ∨ ∃ c : Nat, c < 1000 ∧ z = nI c)) hf48 (Or.inr ⟨k1, by omega, rfl⟩))
          obtain ⟨f_53, ef_53⟩ : ∃ f : Nat → Int32, f = upd f48 ((nI (v2 - 1)) : Int32).toNatClampNeg (nI k1) := ⟨_, rfl⟩
          rw [← ef_53] at hM_51 hf_54
          refine lv_aload_n hx hb dX12_remember_57 rfl (lv_at hl 1 rfl) ?_
          refine lv_dup hx hb dX12_remember_58 rfl ?_
          refine pg_get (D := D) (ci := 12) (v := .int (nI (v2 - 1))) (C := RX12) (T := TX12) (N := 51) hx hb hg inG12 hown hK hP ia.1 hM_52 rfl 16 (by decide) (hg _ wd_825) (fun _ h9 => h9) hs_42 dX12_remember_59 ?_
          refine lv_iconst (v := 1) hx hb dX12_remember_62 (by decide) ?_
          refine lv_iadd hx hb dX12_remember_63 ?_
          refine lv_topi (fun f_55 ef_55 => ?_)
          obtain rfl : f_55 = (nI ((v2 - 1) + 1)) := ef_55.trans (nI_add (v2 - 1) 1)
          refine pg_put (D := D) (ci := 12) (v := .int (nI ((v2 - 1) + 1))) (ty := .int) (C := RX12) (T := TX12) (N := 51) hx hb hg inG12 tyX12 tyX12_ok nmX12 hown hK hP hD hS ia.1 hM_52 rfl 16 (by decide) (hg _ wd_825) (fun _ h9 => h9) rfl (by decide +kernel) rfl rfl (by rw [hn_43]; decide) dX12_remember_64 (fun H_56 locs hP hD hS => ?_)
          have hs_59 : ((fs1.set 16 (.int (nI (v2 - 1)))).set 16 (.int (nI ((v2 - 1) + 1))))[16]? = some (.int (nI ((v2 - 1) + 1))) := List.getElem?_set_self (by rw [hn_43]; decide)
          have hk_58 := fld12_set (k := 16) (w := .int (nI ((v2 - 1) + 1))) hk_41 (show fld12 K L 16 ((fs1.set 16 (.int (nI (v2 - 1)))).set 16 (.int (nI ((v2 - 1) + 1)))) from ⟨((v2 - 1) + 1), hs_59, by omega⟩)
          have hn_60 : ((fs1.set 16 (.int (nI (v2 - 1)))).set 16 (.int (nI ((v2 - 1) + 1)))).length = 51 := by rw [List.length_set]; exact hn_43
          have hv_61 : ((fs1.set 16 (.int (nI (v2 - 1)))).set 16 (.int (nI ((v2 - 1) + 1))))[43]? = some (.ref v47) := by rw [List.getElem?_set_ne (by decide)]; exact hv47
          have hb_62 : ((v2 - 1) + 1) ≤ 60 := by omega
          obtain ⟨M_63, eM_63⟩ : ∃ M1 : Hp, M1 = va_up M_50 oa (.inr (12, (fs1.set 16 (.int (nI (v2 - 1)))).set 16 (.int (nI ((v2 - 1) + 1))))) := ⟨_, rfl⟩
          have hx16 : (((v2 - 1) : Nat) : Int) = (((v2 - 1) : Nat) : Int) := (congrFun hV.2.1 16).symm.trans ((fx_of hM_52 rfl hs_42).trans (nI_toInt (by omega)))
          have hV : VW K L M M_63 oa (va_up (va_up (fx M oa) 16 (((v2 - 1) : Nat) : Int)) 16 ((((v2 - 1) + 1) : Nat) : Int)) (va_up (va_up (ax M oa) 43 gw28) 43 (upd gw28 ((nI (v2 - 1)) : Int32).toNatClampNeg (nI k1))) := by rw [eM_63]; exact hV.put hW ia hM_52 hn_43 rfl (by decide) rfl (nI_toInt (by omega))
          have hP : va_P D vwCl ([] ++ va_pl L M_63) H_56 := by rw [eM_63]; exact hP
          have hD : va_D A ([] ++ va_pl L M_63) := by rw [eM_63]; exact hD
          have hW : WOM cy K L M_63 := by rw [eM_63]; exact hW.up_12 ia ⟨_, rfl, hn_60, hk_58⟩
          have hF : fr K L [12, 36] M M_63 := by rw [eM_63]; exact hF.up ia (by decide)
          have hG : fG K L [16] M M_63 := by rw [eM_63]; exact hG.up hM_52 (by decide)
          have hM_64 : M_63 oa = .inr (12, (fs1.set 16 (.int (nI (v2 - 1)))).set 16 (.int (nI ((v2 - 1) + 1)))) := by rw [eM_63]; exact va_up_self _ _ _
          have hM_65 : M_63 v47 = .inl (cy 14, 60, .inl (f_53)) := by rw [eM_63, va_up_ne _ _ (hc47.neT ia (by decide))]; exact hM_51
          have hRM : REMF (fx M oa 16) (ax M oa 43) (nI k1) ((((v2 - 1) + 1) : Nat) : Int) (upd gw28 ((nI (v2 - 1)) : Int32).toNatClampNeg (nI k1)) := remf2 (by omega) (by omega) (fun i hi => hg1 i (by omega)) ((nI_cl (by omega)).trans (by omega))
          have hV9 : VW K L M M_63 oa (va_up (fx M oa) 16 ((((v2 - 1) + 1) : Nat) : Int)) (va_up (ax M oa) 43 (upd gw28 ((nI (v2 - 1)) : Int32).toNatClampNeg (nI k1))) := by have h := hV; simp only [va_up_up] at h; exact h
          rw [hQ]
          exact W.vret hx hb hr (fun t ht hW9 => ⟨⟨M_63, rfl, ⟨hW, hF, hG, ⟨_, _, hRM, hV9⟩, trivial⟩, ⟨by rw [ht]; exact hP, hD⟩⟩, hS.F ht⟩) hS.2.2 dX12_remember_67
        · have hz := rfl (a := 0)
          have n_66 : ¬ (60 ≤ v2w28) := fun q => c_36 ((iLE (a := 60) (b := v2w28) (by omega) (by omega)).mpr q)
          refine lv_aload_n hx hb dX12_remember_17 rfl (lv_at hl 1 rfl) ?_
          obtain ⟨v67, hv67, hc67⟩ : ∃ v : Nat, fs1[43]? = some (.ref v : Value) ∧ isk K L v 36 60 := hl1 43 (by decide)
          refine pg_get (D := D) (ci := 12) (v := .ref v67) (C := RX12) (T := TX12) (N := 51) hx hb hg inG12 hown hK hP ia.1 hM_35 rfl 43 (by decide) (hg _ wd_826) (fun _ h9 => h9) hv67 dX12_remember_18 ?_
          refine lv_iload_n hx hb dX12_remember_21 rfl (lv_at hl 0 rfl) ?_
          refine lv_iconst (v := 1) hx hb dX12_remember_22 (by decide) ?_
          refine lv_isub hx hb dX12_remember_23 ?_
          refine lv_topi (fun f_68 ef_68 => ?_)
          obtain rfl : f_68 = (nI (v2w28 - 1)) := ef_68.trans (nI_prd (by omega))
          refine lv_aload_n hx hb dX12_remember_24 rfl (lv_at hl 1 rfl) ?_
          refine pg_get (D := D) (ci := 12) (v := .ref v67) (C := RX12) (T := TX12) (N := 51) hx hb hg inG12 hown hK hP ia.1 hM_35 rfl 43 (by decide) (hg _ wd_826) (fun _ h9 => h9) hv67 dX12_remember_25 ?_
          refine lv_iload_n hx hb dX12_remember_28 rfl (lv_at hl 0 rfl) ?_
          obtain ⟨f69, hM69, hf69⟩ := hW.open_36 hc67
          have hi_70 : vp_in (nI v2w28) 60 := (inbN v2w28 60 (by omega) (by omega))
          refine pg_iald hx hb hK hP hc67.1 0 hM69 rfl hi_70 dX12_remember_29 ?_
          have hp_71 := hf69 _ (vp_lt hi_70)
          rcases hp_71 with ec_74 | ⟨c_72, hc_73, ec_74⟩
          · rw [ec_74]
            have hy43 : gw28 = f69 := (congrFun hV.2.2.1 43).symm.trans (ax_of hM_35 (by decide) hv67 hM69)
            have hgv : (-1) = gw28 v2w28 := by rw [show v2w28 = ((nI v2w28) : Int32).toNatClampNeg from (nI_cl (by omega)).symm, hy43]; exact ec_74.symm
            refine pg_iast hx hb hK hP hD hS hc67.1 0 hM69 rfl (inbN (v2w28 - 1) 60 (by omega) (by omega)) dX12_remember_30 (fun H_75 locs hP hD hS => ?_)
            obtain ⟨M_76, eM_76⟩ : ∃ M1 : Hp, M1 = va_up M_33 v67 (.inl (cy 14, 60, .inl (upd f69 ((nI (v2w28 - 1)) : Int32).toNatClampNeg (-1)))) := ⟨_, rfl⟩
            have hy43 : gw28 = f69 := (congrFun hV.2.2.1 43).symm.trans (ax_of hM_35 (by decide) hv67 hM69)
            have hV : VW K L M M_76 oa (fx M oa) (va_up (va_up (ax M oa) 43 gw28) 43 (upd gw28 ((nI (v2w28 - 1)) : Int32).toNatClampNeg (-1))) := by rw [eM_76]; exact hV.ast (j := 43) hW ia hM_35 (by decide) hv67 hc67 hM69
            have hP : va_P D vwCl ([] ++ va_pl L M_76) H_75 := by rw [eM_76]; exact hP
            have hD : va_D A ([] ++ va_pl L M_76) := by rw [eM_76]; exact hD
            have hW : WOM cy K L M_76 := by rw [eM_76]; exact hW.up_36 hc67 ⟨_, rfl, (updP (P := fun z => (z = -1 ∨ ∃ c : Nat, c < 1000 ∧ z = nI c)) hf69 (Or.inl rfl))⟩
            have hF : fr K L [12, 36] M M_76 := by rw [eM_76]; exact hF.up hc67 (by decide)
            have hG : fG K L [16] M M_76 := by rw [eM_76]; exact hG.arr hc67 (by decide)
            have hM_77 : M_76 v67 = .inl (cy 14, 60, .inl (upd f69 ((nI (v2w28 - 1)) : Int32).toNatClampNeg (-1))) := by rw [eM_76]; exact va_up_self _ _ _
            have hM_78 : M_76 oa = .inr (12, fs1) := by rw [eM_76, va_up_ne _ _ (ia.neT hc67 (by decide))]; exact hM_35
            have hf_80 : ∀ j, j < 60 → ((upd f69 ((nI (v2w28 - 1)) : Int32).toNatClampNeg (-1)) j = -1 ∨ ∃ c : Nat, c < 1000 ∧ (upd f69 ((nI (v2w28 - 1)) : Int32).toNatClampNeg (-1)) j = nI c) := (updP (P := fun z => (z = -1 ∨ ∃ c : Nat, c < 1000 ∧ z = nI c)) hf69 (Or.inl rfl))
            obtain ⟨f_79, ef_79⟩ : ∃ f : Nat → Int32, f = upd f69 ((nI (v2w28 - 1)) : Int32).toNatClampNeg (-1) := ⟨_, rfl⟩
            rw [← ef_79] at hM_77 hf_80
            refine lv_iinc (v := (nI (v2w28 + 1))) (lv' := [(2, .int (nI (v2w28 + 1))), (0, .ref oa), (1, .int (nI k1))]) hx hb dX12_remember_31 hl (k := 0) rfl (nI_1 v2w28) (by decide) rfl (fun ls hl => ?_)
            refine lv_goto (tgt := 11) hx hb dX12_remember_34 (by decide) ?_
            exact ih_26 (v2w28 + 1) (upd gw28 ((nI (v2w28 - 1)) : Int32).toNatClampNeg (-1)) M_76 H_75 _ _ (by omega) hM_78 (by omega) (by omega) (sh1 hx_31 hx_32 (by omega) (nI_cl (by omega)) hgv) (sh2 hx_32 (by omega) (nI_cl (by omega))) hW hF hG (by have h := hV; simp only [va_up_up] at h; exact h) hP hD hS (lv_sub hl [0, 1, 2] rfl)
          · rw [ec_74]
            have hy43 : gw28 = f69 := (congrFun hV.2.2.1 43).symm.trans (ax_of hM_35 (by decide) hv67 hM69)
            have hgv : (nI c_72) = gw28 v2w28 := by rw [show v2w28 = ((nI v2w28) : Int32).toNatClampNeg from (nI_cl (by omega)).symm, hy43]; exact ec_74.symm
            refine pg_iast hx hb hK hP hD hS hc67.1 0 hM69 rfl (inbN (v2w28 - 1) 60 (by omega) (by omega)) dX12_remember_30 (fun H_81 locs hP hD hS => ?_)
            obtain ⟨M_82, eM_82⟩ : ∃ M1 : Hp, M1 = va_up M_33 v67 (.inl (cy 14, 60, .inl (upd f69 ((nI (v2w28 - 1)) : Int32).toNatClampNeg (nI c_72)))) := ⟨_, rfl⟩
            have hy43 : gw28 = f69 := (congrFun hV.2.2.1 43).symm.trans (ax_of hM_35 (by decide) hv67 hM69)
            have hV : VW K L M M_82 oa (fx M oa) (va_up (va_up (ax M oa) 43 gw28) 43 (upd gw28 ((nI (v2w28 - 1)) : Int32).toNatClampNeg (nI c_72))) := by rw [eM_82]; exact hV.ast (j := 43) hW ia hM_35 (by decide) hv67 hc67 hM69
            have hP : va_P D vwCl ([] ++ va_pl L M_82) H_81 := by rw [eM_82]; exact hP
            have hD : va_D A ([] ++ va_pl L M_82) := by rw [eM_82]; exact hD
            have hW : WOM cy K L M_82 := by rw [eM_82]; exact hW.up_36 hc67 ⟨_, rfl, (updP (P := fun z => (z = -1 ∨ ∃ c : Nat, c < 1000 ∧ z = nI c)) hf69 (Or.inr ⟨c_72, by omega, rfl⟩))⟩
            have hF : fr K L [12, 36] M M_82 := by rw [eM_82]; exact hF.up hc67 (by decide)
            have hG : fG K L [16] M M_82 := by rw [eM_82]; exact hG.arr hc67 (by decide)
            have hM_83 : M_82 v67 = .inl (cy 14, 60, .inl (upd f69 ((nI (v2w28 - 1)) : Int32).toNatClampNeg (nI c_72))) := by rw [eM_82]; exact va_up_self _ _ _
            have hM_84 : M_82 oa = .inr (12, fs1) := by rw [eM_82, va_up_ne _ _ (ia.neT hc67 (by decide))]; exact hM_35
            have hf_86 : ∀ j, j < 60 → ((upd f69 ((nI (v2w28 - 1)) : Int32).toNatClampNeg (nI c_72)) j = -1 ∨ ∃ c : Nat, c < 1000 ∧ (upd f69 ((nI (v2w28 - 1)) : Int32).toNatClampNeg (nI c_72)) j = nI c) := (updP (P := fun z => (z = -1 ∨ ∃ c : Nat, c < 1000 ∧ z = nI c)) hf69 (Or.inr ⟨c_72, by omega, rfl⟩))
            obtain ⟨f_85, ef_85⟩ : ∃ f : Nat → Int32, f = upd f69 ((nI (v2w28 - 1)) : Int32).toNatClampNeg (nI c_72) := ⟨_, rfl⟩
            rw [← ef_85] at hM_83 hf_86
            refine lv_iinc (v := (nI (v2w28 + 1))) (lv' := [(2, .int (nI (v2w28 + 1))), (0, .ref oa), (1, .int (nI k1))]) hx hb dX12_remember_31 hl (k := 0) rfl (nI_1 v2w28) (by decide) rfl (fun ls hl => ?_)
            refine lv_goto (tgt := 11) hx hb dX12_remember_34 (by decide) ?_
            exact ih_26 (v2w28 + 1) (upd gw28 ((nI (v2w28 - 1)) : Int32).toNatClampNeg (nI c_72)) M_82 H_81 _ _ (by omega) hM_84 (by omega) (by omega) (sh1 hx_31 hx_32 (by omega) (nI_cl (by omega)) hgv) (sh2 hx_32 (by omega) (nI_cl (by omega))) hW hF hG (by have h := hV; simp only [va_up_up] at h; exact h) hP hD hS (lv_sub hl [0, 1, 2] rfl)
    exact key_25 (60 - 1 + 1) 1 (ax M oa 43) M s.heap _ _ (by omega) hM1 (by omega) (by omega) (fun i h => absurd h (by omega)) (fun _ _ => rfl) hW hF hG (by rw [va_up_id]; exact hV) hP hD hS (lv_sub hl [0, 1, 2] rfl)
set_option maxHeartbeats 4000000 in
set_option maxRecDepth 100000 in
theorem r_remM (l : Launch) (D : va_G) (cy : Nat → ClassId) (K : Kp) (L : List Nat) (M : Hp) (sz : Nat) (oa : Nat) (hW : WOM cy K L M) (ia : isk K L oa 12 0) (hO : OWN K L M) : Met l yX12_remember (wsM yX12_remember cX12_remember 3 none) ({ frames := 0, cells := 0, slots := 0, locals := 0 }) (va_Pc [.ref oa, .int (-1)] (PG D cy [] L M sz)) (va_Qv (fun (M9 : Hp) => WOM cy K L M9 ∧ fr K L [12, 36] M M9 ∧ fG K L [16] M M9 ∧ (∃ (n9 : Int) (g9 : Nat → Int32), REMF (fx M oa 16) (ax M oa 43) (-1) n9 g9 ∧ VW K L M M9 oa (va_up (fx M oa) 16 n9) (va_up (ax M oa) 43 g9)) ∧ (True)) (fun M9 t => PQ D [] L M9 (va_A ([] ++ va_pl L M) sz) t) (va_A ([] ++ va_pl L M) sz)) 0 0 (va_A ([] ++ va_pl L M) sz) := by
  refine Met.ofW (cc := cX12_remember) (maxL := 3) (ret := none) (by decide) rfl ?_
  intro p e s m args below meth c s₁ B hml hv
  obtain ⟨rfl, hsz, hP, hK, hD0, hN⟩ := hv
  have hx := B.exec
  have hb := B.bytes
  have hr := B.returns
  have hts := atoms_spec (ws := (wsM yX12_remember cX12_remember 3 none)) B.pre
  have hg : ∀ w ∈ lw_good, w.before _ s = true := fun w h => hts w (List.mem_cons_of_mem _ h)
  have hown : s.vm.findClass RX12 = some m.cls := findClass_of_methodNamed B.named
  have hlocks := B.notSynchronized
  subst hsz
  have hD := hD0.self (sz := s.heap.size)
  generalize hAe : va_A ([] ++ va_pl L M) s.heap.size = A at hD ⊢
  have hA : ∀ q : Nat, s.heap.size ≤ q → A q := fun q h => by rw [← hAe]; exact Or.inr h
  have hS : va_S A s.heap s.heap [] := va_S.rf
  have hl := lv_entry ([.ref oa, .int (-1)]) (n := 3) (Nat.le_of_ble_eq_true rfl)
  rw [lg_entry_eq]
  generalize (lg_sl ([.ref oa, .int (-1)]) ++ List.replicate (3 - (lg_sl ([.ref oa, .int (-1)])).length) Slot.unset).toArray = ls at hl ⊢
  refine W.nameQ (fun Q hQ => ?_)
  refine W.nameR (fun R hR => ?_)
  have hRf : 0 ≤ R.frames := by rw [hR]; exact Nat.le_of_ble_eq_true rfl
  have hRl : 0 ≤ R.locals := by rw [hR]; exact Nat.le_of_ble_eq_true rfl
  have hRc : 0 ≤ R.cells := by rw [hR]; exact Nat.le_of_ble_eq_true rfl
  have hRs : 0 ≤ R.slots := by rw [hR]; exact Nat.le_of_ble_eq_true rfl
  have hF : fr K L [12, 36] M M := fr.rf
  have hG : fG K L [16] M M := fG.rf
  have hl : lv_has ls 3 [(0, .ref oa), (1, .int (-1))] := hl
  have hV : VW K L M M oa (fx M oa) (ax M oa) := VW.rf oa hO
  refine lv_aload_n hx hb dX12_remember_0 rfl (lv_at hl 0 rfl) ?_
  obtain ⟨fs1, hM1, hn1, hl1⟩ := hW.open_12 ia
  obtain ⟨v2, hv2, hc2⟩ : ∃ v : Nat, fs1[16]? = some (.int (nI v) : Value) ∧ v ≤ 60 := hl1 16 (by decide)
  refine pg_get (D := D) (ci := 12) (v := .int (nI v2)) (C := RX12) (T := TX12) (N := 51) hx hb hg inG12 hown hK hP ia.1 hM1 rfl 16 (by decide) (hg _ wd_825) (fun _ h9 => h9) hv2 dX12_remember_1 ?_
  refine lv_bipush (v := 60) hx hb dX12_remember_4 (by decide) ?_
  refine lv_icmp_ne (tgt := 47) hx hb dX12_remember_6 (by decide) (fun c_3 => ?_) (fun c_3 => ?_)
  · have hz := rfl (a := 0)
    have n_4 : ¬ (v2 = 60) := fun q => c_3 ((iEQ (a := v2) (b := 60) (by omega) (by omega)).mpr q)
    refine lv_aload_n hx hb dX12_remember_47 rfl (lv_at hl 0 rfl) ?_
    obtain ⟨v5, hv5, hc5⟩ : ∃ v : Nat, fs1[43]? = some (.ref v : Value) ∧ isk K L v 36 60 := hl1 43 (by decide)
    refine pg_get (D := D) (ci := 12) (v := .ref v5) (C := RX12) (T := TX12) (N := 51) hx hb hg inG12 hown hK hP ia.1 hM1 rfl 43 (by decide) (hg _ wd_826) (fun _ h9 => h9) hv5 dX12_remember_48 ?_
    refine lv_aload_n hx hb dX12_remember_51 rfl (lv_at hl 0 rfl) ?_
    refine pg_get (D := D) (ci := 12) (v := .int (nI v2)) (C := RX12) (T := TX12) (N := 51) hx hb hg inG12 hown hK hP ia.1 hM1 rfl 16 (by decide) (hg _ wd_825) (fun _ h9 => h9) hv2 dX12_remember_52 ?_
    refine lv_iload_n hx hb dX12_remember_55 rfl (lv_at hl 1 rfl) ?_
    obtain ⟨f6, hM6, hf6⟩ := hW.open_36 hc5
    refine pg_iast hx hb hK hP hD hS hc5.1 0 hM6 rfl (inbN v2 60 (by omega) (by omega)) dX12_remember_56 (fun H_7 locs hP hD hS => ?_)
    obtain ⟨M_8, eM_8⟩ : ∃ M1 : Hp, M1 = va_up M v5 (.inl (cy 14, 60, .inl (upd f6 ((nI v2) : Int32).toNatClampNeg (-1)))) := ⟨_, rfl⟩
    have hy43 : (ax M oa 43) = f6 := (congrFun hV.2.2.1 43).symm.trans (ax_of hM1 (by decide) hv5 hM6)
    have hV : VW K L M M_8 oa (fx M oa) (va_up (ax M oa) 43 (upd (ax M oa 43) ((nI v2) : Int32).toNatClampNeg (-1))) := by rw [eM_8]; exact hV.ast (j := 43) hW ia hM1 (by decide) hv5 hc5 hM6
    have hP : va_P D vwCl ([] ++ va_pl L M_8) H_7 := by rw [eM_8]; exact hP
    have hD : va_D A ([] ++ va_pl L M_8) := by rw [eM_8]; exact hD
    have hW : WOM cy K L M_8 := by rw [eM_8]; exact hW.up_36 hc5 ⟨_, rfl, (updP (P := fun z => (z = -1 ∨ ∃ c : Nat, c < 1000 ∧ z = nI c)) hf6 (Or.inl rfl))⟩
    have hF : fr K L [12, 36] M M_8 := by rw [eM_8]; exact hF.up hc5 (by decide)
    have hG : fG K L [16] M M_8 := by rw [eM_8]; exact hG.arr hc5 (by decide)
    have hM_9 : M_8 v5 = .inl (cy 14, 60, .inl (upd f6 ((nI v2) : Int32).toNatClampNeg (-1))) := by rw [eM_8]; exact va_up_self _ _ _
    have hM_10 : M_8 oa = .inr (12, fs1) := by rw [eM_8, va_up_ne _ _ (ia.neT hc5 (by decide))]; exact hM1
    have hf_12 : ∀ j, j < 60 → ((upd f6 ((nI v2) : Int32).toNatClampNeg (-1)) j = -1 ∨ ∃ c : Nat, c < 1000 ∧ (upd f6 ((nI v2) : Int32).toNatClampNeg (-1)) j = nI c) := (updP (P := fun z => (z = -1 ∨ ∃ c : Nat, c < 1000 ∧ z = nI c)) hf6 (Or.inl rfl))
    obtain ⟨f_11, ef_11⟩ : ∃ f : Nat → Int32, f = upd f6 ((nI v2) : Int32).toNatClampNeg (-1) := ⟨_, rfl⟩
    rw [← ef_11] at hM_9 hf_12
    refine lv_aload_n hx hb dX12_remember_57 rfl (lv_at hl 0 rfl) ?_
    refine lv_dup hx hb dX12_remember_58 rfl ?_
    refine pg_get (D := D) (ci := 12) (v := .int (nI v2)) (C := RX12) (T := TX12) (N := 51) hx hb hg inG12 hown hK hP ia.1 hM_10 rfl 16 (by decide) (hg _ wd_825) (fun _ h9 => h9) hv2 dX12_remember_59 ?_
    refine lv_iconst (v := 1) hx hb dX12_remember_62 (by decide) ?_
    refine lv_iadd hx hb dX12_remember_63 ?_
    refine lv_topi (fun f_13 ef_13 => ?_)
    obtain rfl : f_13 = (nI (v2 + 1)) := ef_13.trans (nI_add v2 1)
    refine pg_put (D := D) (ci := 12) (v := .int (nI (v2 + 1))) (ty := .int) (C := RX12) (T := TX12) (N := 51) hx hb hg inG12 tyX12 tyX12_ok nmX12 hown hK hP hD hS ia.1 hM_10 rfl 16 (by decide) (hg _ wd_825) (fun _ h9 => h9) rfl (by decide +kernel) rfl rfl (by rw [hn1]; decide) dX12_remember_64 (fun H_14 locs hP hD hS => ?_)
    have hs_17 : (fs1.set 16 (.int (nI (v2 + 1))))[16]? = some (.int (nI (v2 + 1))) := List.getElem?_set_self (by rw [hn1]; decide)
    have hk_16 := fld12_set (k := 16) (w := .int (nI (v2 + 1))) hl1 (show fld12 K L 16 (fs1.set 16 (.int (nI (v2 + 1)))) from ⟨(v2 + 1), hs_17, by omega⟩)
    have hn_18 : (fs1.set 16 (.int (nI (v2 + 1)))).length = 51 := by rw [List.length_set]; exact hn1
    have hv_19 : (fs1.set 16 (.int (nI (v2 + 1))))[43]? = some (.ref v5) := by rw [List.getElem?_set_ne (by decide)]; exact hv5
    have hb_20 : (v2 + 1) ≤ 60 := by omega
    obtain ⟨M_21, eM_21⟩ : ∃ M1 : Hp, M1 = va_up M_8 oa (.inr (12, fs1.set 16 (.int (nI (v2 + 1))))) := ⟨_, rfl⟩
    have hx16 : (fx M oa 16) = ((v2 : Nat) : Int) := (congrFun hV.2.1 16).symm.trans ((fx_of hM_10 rfl hv2).trans (nI_toInt (by omega)))
    have hV : VW K L M M_21 oa (va_up (fx M oa) 16 (((v2 + 1) : Nat) : Int)) (va_up (ax M oa) 43 (upd (ax M oa 43) ((nI v2) : Int32).toNatClampNeg (-1))) := by rw [eM_21]; exact hV.put hW ia hM_10 hn1 rfl (by decide) rfl (nI_toInt (by omega))
    have hP : va_P D vwCl ([] ++ va_pl L M_21) H_14 := by rw [eM_21]; exact hP
    have hD : va_D A ([] ++ va_pl L M_21) := by rw [eM_21]; exact hD
    have hW : WOM cy K L M_21 := by rw [eM_21]; exact hW.up_12 ia ⟨_, rfl, hn_18, hk_16⟩
    have hF : fr K L [12, 36] M M_21 := by rw [eM_21]; exact hF.up ia (by decide)
    have hG : fG K L [16] M M_21 := by rw [eM_21]; exact hG.up hM_10 (by decide)
    have hM_22 : M_21 oa = .inr (12, fs1.set 16 (.int (nI (v2 + 1)))) := by rw [eM_21]; exact va_up_self _ _ _
    have hM_23 : M_21 v5 = .inl (cy 14, 60, .inl (f_11)) := by rw [eM_21, va_up_ne _ _ (hc5.neT ia (by decide))]; exact hM_9
    have hRM : REMF (fx M oa 16) (ax M oa 43) (-1) (((v2 + 1) : Nat) : Int) (upd (ax M oa 43) ((nI v2) : Int32).toNatClampNeg (-1)) := remf1 hx16 (by omega) (nI_cl (by omega))
    rw [hQ]
    exact W.vret hx hb hr (fun t ht hW9 => ⟨⟨M_21, rfl, ⟨hW, hF, hG, ⟨_, _, hRM, hV⟩, trivial⟩, ⟨by rw [ht]; exact hP, hD⟩⟩, hS.F ht⟩) hS.2.2 dX12_remember_67
  · have hz := rfl (a := 0)
    have n_24 : v2 = 60 := (iEQ (a := v2) (b := 60) (by omega) (by omega)).mp c_3
    refine lv_iconst (v := 1) hx hb dX12_remember_9 (by decide) ?_
    refine lv_istore_n (lv' := [(2, .int 1), (0, .ref oa), (1, .int (-1))]) hx hb dX12_remember_10 rfl hl (by decide) rfl (fun ls hl => ?_)
    have key_25 : ∀ (fu_27 : Nat) (v2w28 : Nat) (gw28 : Nat → Int32) (M_33 : Hp) (H_34 : Heap) (locs : List Loc) (ls : Array Slot), 60 - v2w28 < fu_27 → M_33 oa = .inr (12, fs1) → 1 ≤ v2w28 → v2w28 ≤ 60 → (∀ i : Nat, i + 1 < v2w28 → gw28 i = ax M oa 43 (i + 1)) → (∀ i : Nat, v2w28 ≤ i + 1 → gw28 i = ax M oa 43 i) → WOM cy K L M_33 → fr K L [12, 36] M M_33 → fG K L [16] M M_33 → VW K L M M_33 oa (fx M oa) (va_up (ax M oa) 43 gw28) → va_P D vwCl ([] ++ va_pl L M_33) H_34 → va_D A ([] ++ va_pl L M_33) → va_S A s.heap H_34 locs → lv_has ls 3 [(2, .int (nI v2w28)), (0, .ref oa), (1, .int (-1))] → W p l e R s m ([.ref oa, .int (-1)] : List Value).toArray below meth c H_34 locs 0 0 Q (F0 m 11 ls []) := by
      intro fu_27
      induction fu_27 with
      | zero => intro v2w28 gw28 M_33 H_34 locs ls h; exact absurd h (Nat.not_lt_zero _)
      | succ fu_27 ih_26 =>
        intro v2w28 gw28 M_33 H_34 locs ls hfu hM_35 hx_29 hx_30 hx_31 hx_32 hW hF hG hV hP hD hS hl
        refine lv_iload_n hx hb dX12_remember_11 rfl (lv_at hl 0 rfl) ?_
        refine lv_bipush (v := 60) hx hb dX12_remember_12 (by decide) ?_
        refine lv_icmp_ge (tgt := 37) hx hb dX12_remember_14 (by decide) (fun c_36 => ?_) (fun c_36 => ?_)
        · have hz := rfl (a := 0)
          have n_37 : 60 ≤ v2w28 := (iLE (a := 60) (b := v2w28) (by omega) (by omega)).mp c_36
          have hg1 := hx_31
          refine lv_aload_n hx hb dX12_remember_37 rfl (lv_at hl 1 rfl) ?_
          refine lv_dup hx hb dX12_remember_38 rfl ?_
          refine pg_get (D := D) (ci := 12) (v := .int (nI v2)) (C := RX12) (T := TX12) (N := 51) hx hb hg inG12 hown hK hP ia.1 hM_35 rfl 16 (by decide) (hg _ wd_825) (fun _ h9 => h9) hv2 dX12_remember_39 ?_
          refine lv_iconst (v := 1) hx hb dX12_remember_42 (by decide) ?_
          refine lv_isub hx hb dX12_remember_43 ?_
          refine lv_topi (fun f_38 ef_38 => ?_)
          obtain rfl : f_38 = (nI (v2 - 1)) := ef_38.trans (nI_prd (by omega))
          refine pg_put (D := D) (ci := 12) (v := .int (nI (v2 - 1))) (ty := .int) (C := RX12) (T := TX12) (N := 51) hx hb hg inG12 tyX12 tyX12_ok nmX12 hown hK hP hD hS ia.1 hM_35 rfl 16 (by decide) (hg _ wd_825) (fun _ h9 => h9) rfl (by decide +kernel) rfl rfl (by rw [hn1]; decide) dX12_remember_44 (fun H_39 locs hP hD hS => ?_)
          have hs_42 : (fs1.set 16 (.int (nI (v2 - 1))))[16]? = some (.int (nI (v2 - 1))) := List.getElem?_set_self (by rw [hn1]; decide)
          have hk_41 := fld12_set (k := 16) (w := .int (nI (v2 - 1))) hl1 (show fld12 K L 16 (fs1.set 16 (.int (nI (v2 - 1)))) from ⟨(v2 - 1), hs_42, by omega⟩)
          have hn_43 : (fs1.set 16 (.int (nI (v2 - 1)))).length = 51 := by rw [List.length_set]; exact hn1
          have hb_44 : (v2 - 1) ≤ 60 := by omega
          obtain ⟨M_45, eM_45⟩ : ∃ M1 : Hp, M1 = va_up M_33 oa (.inr (12, fs1.set 16 (.int (nI (v2 - 1))))) := ⟨_, rfl⟩
          have hx16 : (fx M oa 16) = ((v2 : Nat) : Int) := (congrFun hV.2.1 16).symm.trans ((fx_of hM_35 rfl hv2).trans (nI_toInt (by omega)))
          have hV : VW K L M M_45 oa (va_up (fx M oa) 16 (((v2 - 1) : Nat) : Int)) (va_up (ax M oa) 43 gw28) := by rw [eM_45]; exact hV.put hW ia hM_35 hn1 rfl (by decide) rfl (nI_toInt (by omega))
          have hP : va_P D vwCl ([] ++ va_pl L M_45) H_39 := by rw [eM_45]; exact hP
          have hD : va_D A ([] ++ va_pl L M_45) := by rw [eM_45]; exact hD
          have hW : WOM cy K L M_45 := by rw [eM_45]; exact hW.up_12 ia ⟨_, rfl, hn_43, hk_41⟩
          have hF : fr K L [12, 36] M M_45 := by rw [eM_45]; exact hF.up ia (by decide)
          have hG : fG K L [16] M M_45 := by rw [eM_45]; exact hG.up hM_35 (by decide)
          have hM_46 : M_45 oa = .inr (12, fs1.set 16 (.int (nI (v2 - 1)))) := by rw [eM_45]; exact va_up_self _ _ _
          refine lv_aload_n hx hb dX12_remember_47 rfl (lv_at hl 1 rfl) ?_
          obtain ⟨v47, hv47, hc47⟩ : ∃ v : Nat, (fs1.set 16 (.int (nI (v2 - 1))))[43]? = some (.ref v : Value) ∧ isk K L v 36 60 := hk_41 43 (by decide)
          refine pg_get (D := D) (ci := 12) (v := .ref v47) (C := RX12) (T := TX12) (N := 51) hx hb hg inG12 hown hK hP ia.1 hM_46 rfl 43 (by decide) (hg _ wd_826) (fun _ h9 => h9) hv47 dX12_remember_48 ?_
          refine lv_aload_n hx hb dX12_remember_51 rfl (lv_at hl 1 rfl) ?_
          refine pg_get (D := D) (ci := 12) (v := .int (nI (v2 - 1))) (C := RX12) (T := TX12) (N := 51) hx hb hg inG12 hown hK hP ia.1 hM_46 rfl 16 (by decide) (hg _ wd_825) (fun _ h9 => h9) hs_42 dX12_remember_52 ?_
          refine lv_iload_n hx hb dX12_remember_55 rfl (lv_at hl 2 rfl) ?_
          obtain ⟨f48, hM48, hf48⟩ := hW.open_36 hc47
          refine pg_iast hx hb hK hP hD hS hc47.1 0 hM48 rfl (inbN (v2 - 1) 60 (by omega) (by omega)) dX12_remember_56 (fun H_49 locs hP hD hS => ?_)
          obtain ⟨M_50, eM_50⟩ : ∃ M1 : Hp, M1 = va_up M_45 v47 (.inl (cy 14, 60, .inl (upd f48 ((nI (v2 - 1)) : Int32).toNatClampNeg (-1)))) := ⟨_, rfl⟩
          have hy43 : gw28 = f48 := (congrFun hV.2.2.1 43).symm.trans (ax_of hM_46 (by decide) hv47 hM48)
          have hV : VW K L M M_50 oa (va_up (fx M oa) 16 (((v2 - 1) : Nat) : Int)) (va_up (va_up (ax M oa) 43 gw28) 43 (upd gw28 ((nI (v2 - 1)) : Int32).toNatClampNeg (-1))) := by rw [eM_50]; exact hV.ast (j := 43) hW ia hM_46 (by decide) hv47 hc47 hM48
          have hP : va_P D vwCl ([] ++ va_pl L M_50) H_49 := by rw [eM_50]; exact hP
          have hD : va_D A ([] ++ va_pl L M_50) := by rw [eM_50]; exact hD
          have hW : WOM cy K L M_50 := by rw [eM_50]; exact hW.up_36 hc47 ⟨_, rfl, (updP (P := fun z => (z = -1 ∨ ∃ c : Nat, c < 1000 ∧ z = nI c)) hf48 (Or.inl rfl))⟩
          have hF : fr K L [12, 36] M M_50 := by rw [eM_50]; exact hF.up hc47 (by decide)
          have hG : fG K L [16] M M_50 := by rw [eM_50]; exact hG.arr hc47 (by decide)
          have hM_51 : M_50 v47 = .inl (cy 14, 60, .inl (upd f48 ((nI (v2 - 1)) : Int32).toNatClampNeg (-1))) := by rw [eM_50]; exact va_up_self _ _ _
          have hM_52 : M_50 oa = .inr (12, fs1.set 16 (.int (nI (v2 - 1)))) := by rw [eM_50, va_up_ne _ _ (ia.neT hc47 (by decide))]; exact hM_46
          have hf_54 : ∀ j, j < 60 → ((upd f48 ((nI (v2 - 1)) : Int32).toNatClampNeg (-1)) j = -1 ∨ ∃ c : Nat, c < 1000 ∧ (upd f48 ((nI (v2 - 1)) : Int32).toNatClampNeg (-1)) j = nI c) := (updP (P := fun z => (z = -1 ∨ ∃ c : Nat, c < 1000 ∧ z = nI c)) hf48 (Or.inl rfl))
          obtain ⟨f_53, ef_53⟩ : ∃ f : Nat → Int32, f = upd f48 ((nI (v2 - 1)) : Int32).toNatClampNeg (-1) := ⟨_, rfl⟩
          rw [← ef_53] at hM_51 hf_54
          refine lv_aload_n hx hb dX12_remember_57 rfl (lv_at hl 1 rfl) ?_
          refine lv_dup hx hb dX12_remember_58 rfl ?_
          refine pg_get (D := D) (ci := 12) (v := .int (nI (v2 - 1))) (C := RX12) (T := TX12) (N := 51) hx hb hg inG12 hown hK hP ia.1 hM_52 rfl 16 (by decide) (hg _ wd_825) (fun _ h9 => h9) hs_42 dX12_remember_59 ?_
          refine lv_iconst (v := 1) hx hb dX12_remember_62 (by decide) ?_
          refine lv_iadd hx hb dX12_remember_63 ?_
          refine lv_topi (fun f_55 ef_55 => ?_)
          obtain rfl : f_55 = (nI ((v2 - 1) + 1)) := ef_55.trans (nI_add (v2 - 1) 1)
          refine pg_put (D := D) (ci := 12) (v := .int (nI ((v2 - 1) + 1))) (ty := .int) (C := RX12) (T := TX12) (N := 51) hx hb hg inG12 tyX12 tyX12_ok nmX12 hown hK hP hD hS ia.1 hM_52 rfl 16 (by decide) (hg _ wd_825) (fun _ h9 => h9) rfl (by decide +kernel) rfl rfl (by rw [hn_43]; decide) dX12_remember_64 (fun H_56 locs hP hD hS => ?_)
          have hs_59 : ((fs1.set 16 (.int (nI (v2 - 1)))).set 16 (.int (nI ((v2 - 1) + 1))))[16]? = some (.int (nI ((v2 - 1) + 1))) := List.getElem?_set_self (by rw [hn_43]; decide)
          have hk_58 := fld12_set (k := 16) (w := .int (nI ((v2 - 1) + 1))) hk_41 (show fld12 K L 16 ((fs1.set 16 (.int (nI (v2 - 1)))).set 16 (.int (nI ((v2 - 1) + 1)))) from ⟨((v2 - 1) + 1), hs_59, by omega⟩)
          have hn_60 : ((fs1.set 16 (.int (nI (v2 - 1)))).set 16 (.int (nI ((v2 - 1) + 1)))).length = 51 := by rw [List.length_set]; exact hn_43
          have hv_61 : ((fs1.set 16 (.int (nI (v2 - 1)))).set 16 (.int (nI ((v2 - 1) + 1))))[43]? = some (.ref v47) := by rw [List.getElem?_set_ne (by decide)]; exact hv47
          have hb_62 : ((v2 - 1) + 1) ≤ 60 := by omega
          obtain ⟨M_63, eM_63⟩ : ∃ M1 : Hp, M1 = va_up M_50 oa (.inr (12, (fs1.set 16 (.int (nI (v2 - 1)))).set 16 (.int (nI ((v2 - 1) + 1))))) := ⟨_, rfl⟩
          have hx16 : (((v2 - 1) : Nat) : Int) = (((v2 - 1) : Nat) : Int) := (congrFun hV.2.1 16).symm.trans ((fx_of hM_52 rfl hs_42).trans (nI_toInt (by omega)))
          have hV : VW K L M M_63 oa (va_up (va_up (fx M oa) 16 (((v2 - 1) : Nat) : Int)) 16 ((((v2 - 1) + 1) : Nat) : Int)) (va_up (va_up (ax M oa) 43 gw28) 43 (upd gw28 ((nI (v2 - 1)) : Int32).toNatClampNeg (-1))) := by rw [eM_63]; exact hV.put hW ia hM_52 hn_43 rfl (by decide) rfl (nI_toInt (by omega))
          have hP : va_P D vwCl ([] ++ va_pl L M_63) H_56 := by rw [eM_63]; exact hP
          have hD : va_D A ([] ++ va_pl L M_63) := by rw [eM_63]; exact hD
          have hW : WOM cy K L M_63 := by rw [eM_63]; exact hW.up_12 ia ⟨_, rfl, hn_60, hk_58⟩
          have hF : fr K L [12, 36] M M_63 := by rw [eM_63]; exact hF.up ia (by decide)
          have hG : fG K L [16] M M_63 := by rw [eM_63]; exact hG.up hM_52 (by decide)
          have hM_64 : M_63 oa = .inr (12, (fs1.set 16 (.int (nI (v2 - 1)))).set 16 (.int (nI ((v2 - 1) + 1)))) := by rw [eM_63]; exact va_up_self _ _ _
          have hM_65 : M_63 v47 = .inl (cy 14, 60, .inl (f_53)) := by rw [eM_63, va_up_ne _ _ (hc47.neT ia (by decide))]; exact hM_51
          have hRM : REMF (fx M oa 16) (ax M oa 43) (-1) ((((v2 - 1) + 1) : Nat) : Int) (upd gw28 ((nI (v2 - 1)) : Int32).toNatClampNeg (-1)) := remf2 (by omega) (by omega) (fun i hi => hg1 i (by omega)) ((nI_cl (by omega)).trans (by omega))
          have hV9 : VW K L M M_63 oa (va_up (fx M oa) 16 ((((v2 - 1) + 1) : Nat) : Int)) (va_up (ax M oa) 43 (upd gw28 ((nI (v2 - 1)) : Int32).toNatClampNeg (-1))) := by have h := hV; simp only [va_up_up] at h; exact h
          rw [hQ]
          exact W.vret hx hb hr (fun t ht hW9 => ⟨⟨M_63, rfl, ⟨hW, hF, hG, ⟨_, _, hRM, hV9⟩, trivial⟩, ⟨by rw [ht]; exact hP, hD⟩⟩, hS.F ht⟩) hS.2.2 dX12_remember_67
        · have hz := rfl (a := 0)
          have n_66 : ¬ (60 ≤ v2w28) := fun q => c_36 ((iLE (a := 60) (b := v2w28) (by omega) (by omega)).mpr q)
          refine lv_aload_n hx hb dX12_remember_17 rfl (lv_at hl 1 rfl) ?_
          obtain ⟨v67, hv67, hc67⟩ : ∃ v : Nat, fs1[43]? = some (.ref v : Value) ∧ isk K L v 36 60 := hl1 43 (by decide)
          refine pg_get (D := D) (ci := 12) (v := .ref v67) (C := RX12) (T := TX12) (N := 51) hx hb hg inG12 hown hK hP ia.1 hM_35 rfl 43 (by decide) (hg _ wd_826) (fun _ h9 => h9) hv67 dX12_remember_18 ?_
          refine lv_iload_n hx hb dX12_remember_21 rfl (lv_at hl 0 rfl) ?_
          refine lv_iconst (v := 1) hx hb dX12_remember_22 (by decide) ?_
          refine lv_isub hx hb dX12_remember_23 ?_
          refine lv_topi (fun f_68 ef_68 => ?_)
          obtain rfl : f_68 = (nI (v2w28 - 1)) := ef_68.trans (nI_prd (by omega))
          refine lv_aload_n hx hb dX12_remember_24 rfl (lv_at hl 1 rfl) ?_
          refine pg_get (D := D) (ci := 12) (v := .ref v67) (C := RX12) (T := TX12) (N := 51) hx hb hg inG12 hown hK hP ia.1 hM_35 rfl 43 (by decide) (hg _ wd_826) (fun _ h9 => h9) hv67 dX12_remember_25 ?_
          refine lv_iload_n hx hb dX12_remember_28 rfl (lv_at hl 0 rfl) ?_
          obtain ⟨f69, hM69, hf69⟩ := hW.open_36 hc67
          have hi_70 : vp_in (nI v2w28) 60 := (inbN v2w28 60 (by omega) (by omega))
          refine pg_iald hx hb hK hP hc67.1 0 hM69 rfl hi_70 dX12_remember_29 ?_
          have hp_71 := hf69 _ (vp_lt hi_70)
          rcases hp_71 with ec_74 | ⟨c_72, hc_73, ec_74⟩
          · rw [ec_74]
            have hy43 : gw28 = f69 := (congrFun hV.2.2.1 43).symm.trans (ax_of hM_35 (by decide) hv67 hM69)
            have hgv : (-1) = gw28 v2w28 := by rw [show v2w28 = ((nI v2w28) : Int32).toNatClampNeg from (nI_cl (by omega)).symm, hy43]; exact ec_74.symm
            refine pg_iast hx hb hK hP hD hS hc67.1 0 hM69 rfl (inbN (v2w28 - 1) 60 (by omega) (by omega)) dX12_remember_30 (fun H_75 locs hP hD hS => ?_)
            obtain ⟨M_76, eM_76⟩ : ∃ M1 : Hp, M1 = va_up M_33 v67 (.inl (cy 14, 60, .inl (upd f69 ((nI (v2w28 - 1)) : Int32).toNatClampNeg (-1)))) := ⟨_, rfl⟩
            have hy43 : gw28 = f69 := (congrFun hV.2.2.1 43).symm.trans (ax_of hM_35 (by decide) hv67 hM69)
            have hV : VW K L M M_76 oa (fx M oa) (va_up (va_up (ax M oa) 43 gw28) 43 (upd gw28 ((nI (v2w28 - 1)) : Int32).toNatClampNeg (-1))) := by rw [eM_76]; exact hV.ast (j := 43) hW ia hM_35 (by decide) hv67 hc67 hM69
            have hP : va_P D vwCl ([] ++ va_pl L M_76) H_75 := by rw [eM_76]; exact hP
            have hD : va_D A ([] ++ va_pl L M_76) := by rw [eM_76]; exact hD
            have hW : WOM cy K L M_76 := by rw [eM_76]; exact hW.up_36 hc67 ⟨_, rfl, (updP (P := fun z => (z = -1 ∨ ∃ c : Nat, c < 1000 ∧ z = nI c)) hf69 (Or.inl rfl))⟩
            have hF : fr K L [12, 36] M M_76 := by rw [eM_76]; exact hF.up hc67 (by decide)
            have hG : fG K L [16] M M_76 := by rw [eM_76]; exact hG.arr hc67 (by decide)
            have hM_77 : M_76 v67 = .inl (cy 14, 60, .inl (upd f69 ((nI (v2w28 - 1)) : Int32).toNatClampNeg (-1))) := by rw [eM_76]; exact va_up_self _ _ _
            have hM_78 : M_76 oa = .inr (12, fs1) := by rw [eM_76, va_up_ne _ _ (ia.neT hc67 (by decide))]; exact hM_35
            have hf_80 : ∀ j, j < 60 → ((upd f69 ((nI (v2w28 - 1)) : Int32).toNatClampNeg (-1)) j = -1 ∨ ∃ c : Nat, c < 1000 ∧ (upd f69 ((nI (v2w28 - 1)) : Int32).toNatClampNeg (-1)) j = nI c) := (updP (P := fun z => (z = -1 ∨ ∃ c : Nat, c < 1000 ∧ z = nI c)) hf69 (Or.inl rfl))
            obtain ⟨f_79, ef_79⟩ : ∃ f : Nat → Int32, f = upd f69 ((nI (v2w28 - 1)) : Int32).toNatClampNeg (-1) := ⟨_, rfl⟩
            rw [← ef_79] at hM_77 hf_80
            refine lv_iinc (v := (nI (v2w28 + 1))) (lv' := [(2, .int (nI (v2w28 + 1))), (0, .ref oa), (1, .int (-1))]) hx hb dX12_remember_31 hl (k := 0) rfl (nI_1 v2w28) (by decide) rfl (fun ls hl => ?_)
            refine lv_goto (tgt := 11) hx hb dX12_remember_34 (by decide) ?_
            exact ih_26 (v2w28 + 1) (upd gw28 ((nI (v2w28 - 1)) : Int32).toNatClampNeg (-1)) M_76 H_75 _ _ (by omega) hM_78 (by omega) (by omega) (sh1 hx_31 hx_32 (by omega) (nI_cl (by omega)) hgv) (sh2 hx_32 (by omega) (nI_cl (by omega))) hW hF hG (by have h := hV; simp only [va_up_up] at h; exact h) hP hD hS (lv_sub hl [0, 1, 2] rfl)
          · rw [ec_74]
            have hy43 : gw28 = f69 := (congrFun hV.2.2.1 43).symm.trans (ax_of hM_35 (by decide) hv67 hM69)
            have hgv : (nI c_72) = gw28 v2w28 := by rw [show v2w28 = ((nI v2w28) : Int32).toNatClampNeg from (nI_cl (by omega)).symm, hy43]; exact ec_74.symm
            refine pg_iast hx hb hK hP hD hS hc67.1 0 hM69 rfl (inbN (v2w28 - 1) 60 (by omega) (by omega)) dX12_remember_30 (fun H_81 locs hP hD hS => ?_)
            obtain ⟨M_82, eM_82⟩ : ∃ M1 : Hp, M1 = va_up M_33 v67 (.inl (cy 14, 60, .inl (upd f69 ((nI (v2w28 - 1)) : Int32).toNatClampNeg (nI c_72)))) := ⟨_, rfl⟩
            have hy43 : gw28 = f69 := (congrFun hV.2.2.1 43).symm.trans (ax_of hM_35 (by decide) hv67 hM69)
            have hV : VW K L M M_82 oa (fx M oa) (va_up (va_up (ax M oa) 43 gw28) 43 (upd gw28 ((nI (v2w28 - 1)) : Int32).toNatClampNeg (nI c_72))) := by rw [eM_82]; exact hV.ast (j := 43) hW ia hM_35 (by decide) hv67 hc67 hM69
            have hP : va_P D vwCl ([] ++ va_pl L M_82) H_81 := by rw [eM_82]; exact hP
            have hD : va_D A ([] ++ va_pl L M_82) := by rw [eM_82]; exact hD
            have hW : WOM cy K L M_82 := by rw [eM_82]; exact hW.up_36 hc67 ⟨_, rfl, (updP (P := fun z => (z = -1 ∨ ∃ c : Nat, c < 1000 ∧ z = nI c)) hf69 (Or.inr ⟨c_72, by omega, rfl⟩))⟩
            have hF : fr K L [12, 36] M M_82 := by rw [eM_82]; exact hF.up hc67 (by decide)
            have hG : fG K L [16] M M_82 := by rw [eM_82]; exact hG.arr hc67 (by decide)
            have hM_83 : M_82 v67 = .inl (cy 14, 60, .inl (upd f69 ((nI (v2w28 - 1)) : Int32).toNatClampNeg (nI c_72))) := by rw [eM_82]; exact va_up_self _ _ _
            have hM_84 : M_82 oa = .inr (12, fs1) := by rw [eM_82, va_up_ne _ _ (ia.neT hc67 (by decide))]; exact hM_35
            have hf_86 : ∀ j, j < 60 → ((upd f69 ((nI (v2w28 - 1)) : Int32).toNatClampNeg (nI c_72)) j = -1 ∨ ∃ c : Nat, c < 1000 ∧ (upd f69 ((nI (v2w28 - 1)) : Int32).toNatClampNeg (nI c_72)) j = nI c) := (updP (P := fun z => (z = -1 ∨ ∃ c : Nat, c < 1000 ∧ z = nI c)) hf69 (Or.inr ⟨c_72, by omega, rfl⟩))
            obtain ⟨f_85, ef_85⟩ : ∃ f : Nat → Int32, f = upd f69 ((nI (v2w28 - 1)) : Int32).toNatClampNeg (nI c_72) := ⟨_, rfl⟩
            rw [← ef_85] at hM_83 hf_86
            refine lv_iinc (v := (nI (v2w28 + 1))) (lv' := [(2, .int (nI (v2w28 + 1))), (0, .ref oa), (1, .int (-1))]) hx hb dX12_remember_31 hl (k := 0) rfl (nI_1 v2w28) (by decide) rfl (fun ls hl => ?_)
            refine lv_goto (tgt := 11) hx hb dX12_remember_34 (by decide) ?_
            exact ih_26 (v2w28 + 1) (upd gw28 ((nI (v2w28 - 1)) : Int32).toNatClampNeg (nI c_72)) M_82 H_81 _ _ (by omega) hM_84 (by omega) (by omega) (sh1 hx_31 hx_32 (by omega) (nI_cl (by omega)) hgv) (sh2 hx_32 (by omega) (nI_cl (by omega))) hW hF hG (by have h := hV; simp only [va_up_up] at h; exact h) hP hD hS (lv_sub hl [0, 1, 2] rfl)
    exact key_25 (60 - 1 + 1) 1 (ax M oa 43) M s.heap _ _ (by omega) hM1 (by omega) (by omega) (fun i h => absurd h (by omega)) (fun _ _ => rfl) hW hF hG (by rw [va_up_id]; exact hV) hP hD hS (lv_sub hl [0, 1, 2] rfl)
set_option maxHeartbeats 4000000 in
set_option maxRecDepth 100000 in
theorem g_X13_leaf (l : Launch) (D : va_G) (cy : Nat → ClassId) (K : Kp) (L : List Nat) (M : Hp) (sz : Nat) (za : Nat) (z0 : Int32) (z1 : Nat) (z2 : Nat) (z3 : Nat) (z4 : Int32) (z5 : Int32) (z6 : Nat) (z7 : Nat) (z8 : Nat) (z9 : Nat) (z10 : Nat) (z11 : Nat) (z12 : Nat) (z13 : Nat) (z14 : Nat) (z15 : Nat) (z16 : Nat) (z17 : Nat) (z18 : Int32) (z19 : Nat) (k1 : Int32) (k2 : Int32) (k3 : Int32) (k4 : Int32) (hW : WOM cy K L M) (i1 : isk K L z1 23 8) (b2 : z2 ≤ 8) (b3 : z3 ≤ 40) (i6 : isk K L z6 47 40) (i7 : isk K L z7 48 40) (i8 : isk K L z8 49 8) (i9 : isk K L z9 50 8) (b10 : z10 ≤ 8) (i11 : isk K L z11 32 24) (i12 : isk K L z12 14 24) (i13 : isk K L z13 15 24) (i14 : isk K L z14 15 24) (i15 : isk K L z15 15 24) (b16 : z16 ≤ 24) (i17 : isk K L z17 14 24) (i19 : isk K L z19 15 25) (hGI : GI K L z1 z2 M) : Met l yX13_leaf (wsM yX13_leaf cX13_leaf 6 (some .int)) ({ frames := 1, cells := 0, slots := 0, locals := 21 }) (va_Pc [.ref za, .int k1, .int k2, .int k3, .int k4] (PG D cy [(za, .inr (13, [.int z0, .ref z1, .int (nI z2), .int (nI z3), .int z4, .int z5, .ref z6, .ref z7, .ref z8, .ref z9, .int (nI z10), .ref z11, .ref z12, .ref z13, .ref z14, .ref z15, .int (nI z16), .ref z17, .int z18, .ref z19]))] L M sz)) (va_Qi (fun (r : Int32) (M9 : Hp) => WOM cy K L M9 ∧ fr K L [12, 14, 35, 37, 74] M M9 ∧ fG K L [16] M M9 ∧ (GI K L z1 z2 M9) ∧ (True)) (fun M9 t => ∃ (w4 : Int32) (w5 : Int32), PQ D [(za, .inr (13, [.int 0, .ref z1, .int (nI z2), .int (nI z3), .int w4, .int w5, .ref z6, .ref z7, .ref z8, .ref z9, .int (nI z10), .ref z11, .ref z12, .ref z13, .ref z14, .ref z15, .int (nI z16), .ref z17, .int z18, .ref z19]))] L M9 (va_A ([(za, .inr (13, [.int z0, .ref z1, .int (nI z2), .int (nI z3), .int z4, .int z5, .ref z6, .ref z7, .ref z8, .ref z9, .int (nI z10), .ref z11, .ref z12, .ref z13, .ref z14, .ref z15, .int (nI z16), .ref z17, .int z18, .ref z19]))] ++ va_pl L M) sz) t) (va_A ([(za, .inr (13, [.int z0, .ref z1, .int (nI z2), .int (nI z3), .int z4, .int z5, .ref z6, .ref z7, .ref z8, .ref z9, .int (nI z10), .ref z11, .ref z12, .ref z13, .ref z14, .ref z15, .int (nI z16), .ref z17, .int z18, .ref z19]))] ++ va_pl L M) sz)) 0 0 (va_A ([(za, .inr (13, [.int z0, .ref z1, .int (nI z2), .int (nI z3), .int z4, .int z5, .ref z6, .ref z7, .ref z8, .ref z9, .int (nI z10), .ref z11, .ref z12, .ref z13, .ref z14, .ref z15, .int (nI z16), .ref z17, .int z18, .ref z19]))] ++ va_pl L M) sz) := by
  refine Met.ofW (cc := cX13_leaf) (maxL := 6) (ret := (some .int)) (by decide) rfl ?_
  intro p e s m args below meth c s₁ B hml hv
  obtain ⟨rfl, hsz, hP, hK, hD0, hN⟩ := hv
  have hx := B.exec
  have hb := B.bytes
  have hr := B.returns
  have hts := atoms_spec (ws := (wsM yX13_leaf cX13_leaf 6 (some .int))) B.pre
  have hg : ∀ w ∈ lw_good, w.before _ s = true := fun w h => hts w (List.mem_cons_of_mem _ h)
  have hown : s.vm.findClass RX13 = some m.cls := findClass_of_methodNamed B.named
  have hlocks := B.notSynchronized
  subst hsz
  have hD := hD0.self (sz := s.heap.size)
  generalize hAe : va_A ([(za, .inr (13, [.int z0, .ref z1, .int (nI z2), .int (nI z3), .int z4, .int z5, .ref z6, .ref z7, .ref z8, .ref z9, .int (nI z10), .ref z11, .ref z12, .ref z13, .ref z14, .ref z15, .int (nI z16), .ref z17, .int z18, .ref z19]))] ++ va_pl L M) s.heap.size = A at hD ⊢
  have hA : ∀ q : Nat, s.heap.size ≤ q → A q := fun q h => by rw [← hAe]; exact Or.inr h
  have hS : va_S A s.heap s.heap [] := va_S.rf
  have hl := lv_entry ([.ref za, .int k1, .int k2, .int k3, .int k4]) (n := 6) (Nat.le_of_ble_eq_true rfl)
  rw [lg_entry_eq]
  generalize (lg_sl ([.ref za, .int k1, .int k2, .int k3, .int k4]) ++ List.replicate (6 - (lg_sl ([.ref za, .int k1, .int k2, .int k3, .int k4])).length) Slot.unset).toArray = ls at hl ⊢
  refine W.nameQ (fun Q hQ => ?_)
  refine W.nameR (fun R hR => ?_)
  have hRf : 1 ≤ R.frames := by rw [hR]; exact Nat.le_of_ble_eq_true rfl
  have hRl : 21 ≤ R.locals := by rw [hR]; exact Nat.le_of_ble_eq_true rfl
  have hRc : 0 ≤ R.cells := by rw [hR]; exact Nat.le_of_ble_eq_true rfl
  have hRs : 0 ≤ R.slots := by rw [hR]; exact Nat.le_of_ble_eq_true rfl
  have hF : fr K L [12, 14, 35, 37, 74] M M := fr.rf
  have hG : fG K L [16] M M := fG.rf
  have hl : lv_has ls 6 [(0, .ref za), (1, .int k1), (2, .int k2), (3, .int k3), (4, .int k4)] := hl
  have hW0 := hW
  refine lv_aload_n hx hb dX13_leaf_0 rfl (lv_at hl 0 rfl) ?_
  refine lv_iconst (v := 0) hx hb dX13_leaf_1 (by decide) ?_
  refine va_put (D := D) (ci := 13) (v := .int 0) (ty := .int) (C := RX13) (T := TX13) (N := 20) hx hb hg inG13 tyX13 tyX13_ok nmX13 hown hK hP hD hS 0 rfl rfl 0 (by decide) (hg _ wd_720) (fun _ h9 => h9) rfl (by decide +kernel) rfl rfl (Nat.le_of_ble_eq_true rfl) dX13_leaf_2 (fun H_1 locs hP hD hS => ?_)
  have hP : va_P D vwCl ([(za, .inr (13, [.int 0, .ref z1, .int (nI z2), .int (nI z3), .int z4, .int z5, .ref z6, .ref z7, .ref z8, .ref z9, .int (nI z10), .ref z11, .ref z12, .ref z13, .ref z14, .ref z15, .int (nI z16), .ref z17, .int z18, .ref z19]))] ++ va_pl L M) H_1 := hP
  have hD : va_D A ([(za, .inr (13, [.int 0, .ref z1, .int (nI z2), .int (nI z3), .int z4, .int z5, .ref z6, .ref z7, .ref z8, .ref z9, .int (nI z10), .ref z11, .ref z12, .ref z13, .ref z14, .ref z15, .int (nI z16), .ref z17, .int z18, .ref z19]))] ++ va_pl L M) := hD
  refine lv_aload_n hx hb dX13_leaf_5 rfl (lv_at hl 0 rfl) ?_
  refine lv_iload_n hx hb dX13_leaf_6 rfl (lv_at hl 1 rfl) ?_
  have hPc : va_P D vwCl ([(za, .inr (13, [.int 0, .ref z1, .int (nI z2), .int (nI z3), .int z4, .int z5, .ref z6, .ref z7, .ref z8, .ref z9, .int (nI z10), .ref z11, .ref z12, .ref z13, .ref z14, .ref z15, .int (nI z16), .ref z17, .int z18, .ref z19]))] ++ va_pl L M) H_1 := hP
  have hDc : va_D A ([(za, .inr (13, [.int 0, .ref z1, .int (nI z2), .int (nI z3), .int z4, .int z5, .ref z6, .ref z7, .ref z8, .ref z9, .int (nI z10), .ref z11, .ref z12, .ref z13, .ref z14, .ref z15, .int (nI z16), .ref z17, .int z18, .ref z19]))] ++ va_pl L M) := hD
  have hFc : ∀ q, va_A ([(za, .inr (13, [.int 0, .ref z1, .int (nI z2), .int (nI z3), .int z4, .int z5, .ref z6, .ref z7, .ref z8, .ref z9, .int (nI z10), .ref z11, .ref z12, .ref z13, .ref z14, .ref z15, .int (nI z16), .ref z17, .int z18, .ref z19]))] ++ va_pl L M) H_1.size q → A q := pg_free hDc hS hA
  refine va_calli (va_runV (As := [.int k1]) (rest := []) ⟨hx, hb, hml, hown, hg⟩ (r_X13_isHouse l D cy K L M H_1.size za 0 z1 z2 z3 z4 z5 z6 z7 z8 z9 z10 z11 z12 z13 z14 z15 z16 z17 z18 z19 k1  hW i1 b2 b3 i6 i7 i8 i9 b10 i11 i12 i13 i14 i15 b16 i17 i19) (cwV 1 hg (gV wd_714 wd_715 wd_716 wd_717 wd_718) rfl rfl rfl (by decide +kernel) ⟨(Nat.le_trans (Nat.le_of_ble_eq_true rfl) hRf), (Nat.le_trans (Nat.le_of_ble_eq_true rfl) hRl)⟩) ⟨PG.blind, va_recv hK hP (ci := 13) (q0 := 0) rfl rfl, fun U hU hW => ⟨rfl, PG.at hPc hK hDc hN hU hW⟩⟩ rfl rfl hl.1 rfl (lv_room (Nat.le_of_ble_eq_true rfl)) dX13_leaf_7 ⟨(Nat.le_trans (Nat.le_of_ble_eq_true rfl) hRc), (Nat.le_trans (Nat.le_of_ble_eq_true rfl) hRs)⟩) hS (fun q _ h => hFc q h) hFc (fun r_3 M_4 t H_2 locs ht hvm hw hB hz1 hk1 hS => ?_)
  have hp_5 := hw
  obtain ⟨hP1, hD1⟩ := hB
  rw [ht] at hP1
  have hP : va_P D vwCl ([(za, .inr (13, [.int 0, .ref z1, .int (nI z2), .int (nI z3), .int z4, .int z5, .ref z6, .ref z7, .ref z8, .ref z9, .int (nI z10), .ref z11, .ref z12, .ref z13, .ref z14, .ref z15, .int (nI z16), .ref z17, .int z18, .ref z19]))] ++ va_pl L M) H_2 := hP1
  have hD : va_D A ([(za, .inr (13, [.int 0, .ref z1, .int (nI z2), .int (nI z3), .int z4, .int z5, .ref z6, .ref z7, .ref z8, .ref z9, .int (nI z10), .ref z11, .ref z12, .ref z13, .ref z14, .ref z15, .int (nI z16), .ref z17, .int z18, .ref z19]))] ++ va_pl L M) := hD1.mono hFc
  rcases hp_5 with ⟨rfl, c_6, c_7⟩ | rfl
  · have hz := rfl (a := 0)
    refine lv_if_ne (tgt := 19) hx hb dX13_leaf_10 (by decide) (fun _ => ?_) (fun c_8 => absurd c_8 (by decide))
    refine lv_iload_n hx hb dX13_leaf_19 rfl (lv_at hl 3 rfl) ?_
    refine lv_if_lt (tgt := 40) hx hb dX13_leaf_20 (by decide) (fun c_9 => ?_) (fun c_9 => ?_)
    · have hz := rfl (a := 0)
      refine lv_aload_n hx hb dX13_leaf_40 rfl (lv_at hl 0 rfl) ?_
      refine lv_iconst (v := 2) hx hb dX13_leaf_41 (by decide) ?_
      have hPc := hP.sub (ws' := [(za, .inr (13, [.int 0, .ref z1, .int (nI z2), .int (nI z3), .int z4, .int z5, .ref z6, .ref z7, .ref z8, .ref z9, .int (nI z10), .ref z11, .ref z12, .ref z13, .ref z14, .ref z15, .int (nI z16), .ref z17, .int z18, .ref z19]))]) [0] rfl
      have hDc := hD.sub (ws' := [(za, .inr (13, [.int 0, .ref z1, .int (nI z2), .int (nI z3), .int z4, .int z5, .ref z6, .ref z7, .ref z8, .ref z9, .int (nI z10), .ref z11, .ref z12, .ref z13, .ref z14, .ref z15, .int (nI z16), .ref z17, .int z18, .ref z19]))]) [0] (by decide) rfl
      have hKc := hK.sub (tys' := []) [] rfl
      have hFc := va_free (wc := [(za, .inr (13, [.int 0, .ref z1, .int (nI z2), .int (nI z3), .int z4, .int z5, .ref z6, .ref z7, .ref z8, .ref z9, .int (nI z10), .ref z11, .ref z12, .ref z13, .ref z14, .ref z15, .int (nI z16), .ref z17, .int z18, .ref z19]))]) hD hS hA [0] rfl
      refine va_calli (va_runV (As := [.int 2]) (rest := []) ⟨hx, hb, hml, hown, hg⟩ (m_refused l D H_2.size za 0 z1 (nI z2) (nI z3) z4 z5 z6 z7 z8 z9 (nI z10) z11 z12 z13 z14 z15 (nI z16) z17 z18 z19 2) (cwV 1 hg (gV wd_725 wd_726 wd_727 wd_717 wd_728) rfl rfl rfl (by decide +kernel) ⟨(Nat.le_trans (Nat.le_of_ble_eq_true rfl) hRf), (Nat.le_trans (Nat.le_of_ble_eq_true rfl) hRl)⟩) ⟨Pr.blind, va_recv hK hP (ci := 13) (q0 := 0) rfl rfl, fun U hU hW => ⟨rfl, Pr.at hPc hKc hDc hN hU hW⟩⟩ rfl rfl hl.1 rfl (lv_room (Nat.le_of_ble_eq_true rfl)) dX13_leaf_42 ⟨(Nat.le_trans (Nat.le_of_ble_eq_true rfl) hRc), (Nat.le_trans (Nat.le_of_ble_eq_true rfl) hRs)⟩) hS (fun q _ h => hFc q h) hFc (fun r_11 M_12 t H_10 locs ht hvm hw hB hz1 hk1 hS => ?_)
      have hp_13 := hw
      obtain ⟨hP1, hK1, hD1⟩ := hB
      rw [ht] at hP1
      obtain ⟨hP, hD⟩ := va_joinQ (X := [(za, .inr (13, [.int 0, .ref z1, .int (nI z2), .int (nI z3), .int z4, .int z5, .ref z6, .ref z7, .ref z8, .ref z9, .int (nI z10), .ref z11, .ref z12, .ref z13, .ref z14, .ref z15, .int (nI z16), .ref z17, .int z18, .ref z19]))]) (cx := [(za, .inr (13, [.int 0, .ref z1, .int (nI z2), .int (nI z3), .int z4, .int z5, .ref z6, .ref z7, .ref z8, .ref z9, .int (nI z10), .ref z11, .ref z12, .ref z13, .ref z14, .ref z15, .int (nI z16), .ref z17, .int z18, .ref z19]))]) (wr := []) (w1 := [(za, .inr (13, [.int 0, .ref z1, .int (nI z2), .int (nI z3), .int 2, .int (-1), .ref z6, .ref z7, .ref z8, .ref z9, .int (nI z10), .ref z11, .ref z12, .ref z13, .ref z14, .ref z15, .int (nI z16), .ref z17, .int z18, .ref z19]))]) (pl := va_pl L M) hP hD [0] [] rfl rfl (by decide) (by decide) hk1 hFc hP1 hD1
      have hP : va_P D vwCl ([(za, .inr (13, [.int 0, .ref z1, .int (nI z2), .int (nI z3), .int 2, .int (-1), .ref z6, .ref z7, .ref z8, .ref z9, .int (nI z10), .ref z11, .ref z12, .ref z13, .ref z14, .ref z15, .int (nI z16), .ref z17, .int z18, .ref z19]))] ++ va_pl L M) H_10 := hP
      have hD : va_D A ([(za, .inr (13, [.int 0, .ref z1, .int (nI z2), .int (nI z3), .int 2, .int (-1), .ref z6, .ref z7, .ref z8, .ref z9, .int (nI z10), .ref z11, .ref z12, .ref z13, .ref z14, .ref z15, .int (nI z16), .ref z17, .int z18, .ref z19]))] ++ va_pl L M) := hD
      have hq := Eq.symm hp_13
      subst hq
      rw [hQ]
      exact W.iret (v := (-1)) hx hb hr (fun t ht hW9 => ⟨⟨(-1), M, rfl, ⟨hW, hF, hG, hGI, trivial⟩, ⟨2, (-1), by rw [ht]; exact hP, hD⟩⟩, hS.F ht⟩) hS.2.2 dX13_leaf_45
    · have hz := rfl (a := 0)
      refine lv_iload_n hx hb dX13_leaf_23 rfl (lv_at hl 3 rfl) ?_
      refine lv_iconst (v := 2) hx hb dX13_leaf_24 (by decide) ?_
      refine lv_icmp_gt (tgt := 40) hx hb dX13_leaf_25 (by decide) (fun c_14 => ?_) (fun c_14 => ?_)
      · have hz := rfl (a := 0)
        have n_15 : ¬ k3 < 0 := gtN (c := 2) (by omega) c_14
        refine lv_aload_n hx hb dX13_leaf_40 rfl (lv_at hl 0 rfl) ?_
        refine lv_iconst (v := 2) hx hb dX13_leaf_41 (by decide) ?_
        have hPc := hP.sub (ws' := [(za, .inr (13, [.int 0, .ref z1, .int (nI z2), .int (nI z3), .int z4, .int z5, .ref z6, .ref z7, .ref z8, .ref z9, .int (nI z10), .ref z11, .ref z12, .ref z13, .ref z14, .ref z15, .int (nI z16), .ref z17, .int z18, .ref z19]))]) [0] rfl
        have hDc := hD.sub (ws' := [(za, .inr (13, [.int 0, .ref z1, .int (nI z2), .int (nI z3), .int z4, .int z5, .ref z6, .ref z7, .ref z8, .ref z9, .int (nI z10), .ref z11, .ref z12, .ref z13, .ref z14, .ref z15, .int (nI z16), .ref z17, .int z18, .ref z19]))]) [0] (by decide) rfl
        have hKc := hK.sub (tys' := []) [] rfl
        have hFc := va_free (wc := [(za, .inr (13, [.int 0, .ref z1, .int (nI z2), .int (nI z3), .int z4, .int z5, .ref z6, .ref z7, .ref z8, .ref z9, .int (nI z10), .ref z11, .ref z12, .ref z13, .ref z14, .ref z15, .int (nI z16), .ref z17, .int z18, .ref z19]))]) hD hS hA [0] rfl
        refine va_calli (va_runV (As := [.int 2]) (rest := []) ⟨hx, hb, hml, hown, hg⟩ (m_refused l D H_2.size za 0 z1 (nI z2) (nI z3) z4 z5 z6 z7 z8 z9 (nI z10) z11 z12 z13 z14 z15 (nI z16) z17 z18 z19 2) (cwV 1 hg (gV wd_725 wd_726 wd_727 wd_717 wd_728) rfl rfl rfl (by decide +kernel) ⟨(Nat.le_trans (Nat.le_of_ble_eq_true rfl) hRf), (Nat.le_trans (Nat.le_of_ble_eq_true rfl) hRl)⟩) ⟨Pr.blind, va_recv hK hP (ci := 13) (q0 := 0) rfl rfl, fun U hU hW => ⟨rfl, Pr.at hPc hKc hDc hN hU hW⟩⟩ rfl rfl hl.1 rfl (lv_room (Nat.le_of_ble_eq_true rfl)) dX13_leaf_42 ⟨(Nat.le_trans (Nat.le_of_ble_eq_true rfl) hRc), (Nat.le_trans (Nat.le_of_ble_eq_true rfl) hRs)⟩) hS (fun q _ h => hFc q h) hFc (fun r_17 M_18 t H_16 locs ht hvm hw hB hz1 hk1 hS => ?_)
        have hp_19 := hw
        obtain ⟨hP1, hK1, hD1⟩ := hB
        rw [ht] at hP1
        obtain ⟨hP, hD⟩ := va_joinQ (X := [(za, .inr (13, [.int 0, .ref z1, .int (nI z2), .int (nI z3), .int z4, .int z5, .ref z6, .ref z7, .ref z8, .ref z9, .int (nI z10), .ref z11, .ref z12, .ref z13, .ref z14, .ref z15, .int (nI z16), .ref z17, .int z18, .ref z19]))]) (cx := [(za, .inr (13, [.int 0, .ref z1, .int (nI z2), .int (nI z3), .int z4, .int z5, .ref z6, .ref z7, .ref z8, .ref z9, .int (nI z10), .ref z11, .ref z12, .ref z13, .ref z14, .ref z15, .int (nI z16), .ref z17, .int z18, .ref z19]))]) (wr := []) (w1 := [(za, .inr (13, [.int 0, .ref z1, .int (nI z2), .int (nI z3), .int 2, .int (-1), .ref z6, .ref z7, .ref z8, .ref z9, .int (nI z10), .ref z11, .ref z12, .ref z13, .ref z14, .ref z15, .int (nI z16), .ref z17, .int z18, .ref z19]))]) (pl := va_pl L M) hP hD [0] [] rfl rfl (by decide) (by decide) hk1 hFc hP1 hD1
        have hP : va_P D vwCl ([(za, .inr (13, [.int 0, .ref z1, .int (nI z2), .int (nI z3), .int 2, .int (-1), .ref z6, .ref z7, .ref z8, .ref z9, .int (nI z10), .ref z11, .ref z12, .ref z13, .ref z14, .ref z15, .int (nI z16), .ref z17, .int z18, .ref z19]))] ++ va_pl L M) H_16 := hP
        have hD : va_D A ([(za, .inr (13, [.int 0, .ref z1, .int (nI z2), .int (nI z3), .int 2, .int (-1), .ref z6, .ref z7, .ref z8, .ref z9, .int (nI z10), .ref z11, .ref z12, .ref z13, .ref z14, .ref z15, .int (nI z16), .ref z17, .int z18, .ref z19]))] ++ va_pl L M) := hD
        have hq := Eq.symm hp_19
        subst hq
        rw [hQ]
        exact W.iret (v := (-1)) hx hb hr (fun t ht hW9 => ⟨⟨(-1), M, rfl, ⟨hW, hF, hG, hGI, trivial⟩, ⟨2, (-1), by rw [ht]; exact hP, hD⟩⟩, hS.F ht⟩) hS.2.2 dX13_leaf_45
      · have hz := rfl (a := 0)
        refine lv_iload hx hb dX13_leaf_28 (lv_at hl 4 rfl) ?_
        refine lv_if_lt (tgt := 40) hx hb dX13_leaf_30 (by decide) (fun c_20 => ?_) (fun c_20 => ?_)
        · have hz := rfl (a := 0)
          refine lv_aload_n hx hb dX13_leaf_40 rfl (lv_at hl 0 rfl) ?_
          refine lv_iconst (v := 2) hx hb dX13_leaf_41 (by decide) ?_
          have hPc := hP.sub (ws' := [(za, .inr (13, [.int 0, .ref z1, .int (nI z2), .int (nI z3), .int z4, .int z5, .ref z6, .ref z7, .ref z8, .ref z9, .int (nI z10), .ref z11, .ref z12, .ref z13, .ref z14, .ref z15, .int (nI z16), .ref z17, .int z18, .ref z19]))]) [0] rfl
          have hDc := hD.sub (ws' := [(za, .inr (13, [.int 0, .ref z1, .int (nI z2), .int (nI z3), .int z4, .int z5, .ref z6, .ref z7, .ref z8, .ref z9, .int (nI z10), .ref z11, .ref z12, .ref z13, .ref z14, .ref z15, .int (nI z16), .ref z17, .int z18, .ref z19]))]) [0] (by decide) rfl
          have hKc := hK.sub (tys' := []) [] rfl
          have hFc := va_free (wc := [(za, .inr (13, [.int 0, .ref z1, .int (nI z2), .int (nI z3), .int z4, .int z5, .ref z6, .ref z7, .ref z8, .ref z9, .int (nI z10), .ref z11, .ref z12, .ref z13, .ref z14, .ref z15, .int (nI z16), .ref z17, .int z18, .ref z19]))]) hD hS hA [0] rfl
          refine va_calli (va_runV (As := [.int 2]) (rest := []) ⟨hx, hb, hml, hown, hg⟩ (m_refused l D H_2.size za 0 z1 (nI z2) (nI z3) z4 z5 z6 z7 z8 z9 (nI z10) z11 z12 z13 z14 z15 (nI z16) z17 z18 z19 2) (cwV 1 hg (gV wd_725 wd_726 wd_727 wd_717 wd_728) rfl rfl rfl (by decide +kernel) ⟨(Nat.le_trans (Nat.le_of_ble_eq_true rfl) hRf), (Nat.le_trans (Nat.le_of_ble_eq_true rfl) hRl)⟩) ⟨Pr.blind, va_recv hK hP (ci := 13) (q0 := 0) rfl rfl, fun U hU hW => ⟨rfl, Pr.at hPc hKc hDc hN hU hW⟩⟩ rfl rfl hl.1 rfl (lv_room (Nat.le_of_ble_eq_true rfl)) dX13_leaf_42 ⟨(Nat.le_trans (Nat.le_of_ble_eq_true rfl) hRc), (Nat.le_trans (Nat.le_of_ble_eq_true rfl) hRs)⟩) hS (fun q _ h => hFc q h) hFc (fun r_22 M_23 t H_21 locs ht hvm hw hB hz1 hk1 hS => ?_)
          have hp_24 := hw
          obtain ⟨hP1, hK1, hD1⟩ := hB
          rw [ht] at hP1
          obtain ⟨hP, hD⟩ := va_joinQ (X := [(za, .inr (13, [.int 0, .ref z1, .int (nI z2), .int (nI z3), .int z4, .int z5, .ref z6, .ref z7, .ref z8, .ref z9, .int (nI z10), .ref z11, .ref z12, .ref z13, .ref z14, .ref z15, .int (nI z16), .ref z17, .int z18, .ref z19]))]) (cx := [(za, .inr (13, [.int 0, .ref z1, .int (nI z2), .int (nI z3), .int z4, .int z5, .ref z6, .ref z7, .ref z8, .ref z9, .int (nI z10), .ref z11, .ref z12, .ref z13, .ref z14, .ref z15, .int (nI z16), .ref z17, .int z18, .ref z19]))]) (wr := []) (w1 := [(za, .inr (13, [.int 0, .ref z1, .int (nI z2), .int (nI z3), .int 2, .int (-1), .ref z6, .ref z7, .ref z8, .ref z9, .int (nI z10), .ref z11, .ref z12, .ref z13, .ref z14, .ref z15, .int (nI z16), .ref z17, .int z18, .ref z19]))]) (pl := va_pl L M) hP hD [0] [] rfl rfl (by decide) (by decide) hk1 hFc hP1 hD1
          have hP : va_P D vwCl ([(za, .inr (13, [.int 0, .ref z1, .int (nI z2), .int (nI z3), .int 2, .int (-1), .ref z6, .ref z7, .ref z8, .ref z9, .int (nI z10), .ref z11, .ref z12, .ref z13, .ref z14, .ref z15, .int (nI z16), .ref z17, .int z18, .ref z19]))] ++ va_pl L M) H_21 := hP
          have hD : va_D A ([(za, .inr (13, [.int 0, .ref z1, .int (nI z2), .int (nI z3), .int 2, .int (-1), .ref z6, .ref z7, .ref z8, .ref z9, .int (nI z10), .ref z11, .ref z12, .ref z13, .ref z14, .ref z15, .int (nI z16), .ref z17, .int z18, .ref z19]))] ++ va_pl L M) := hD
          have hq := Eq.symm hp_24
          subst hq
          rw [hQ]
          exact W.iret (v := (-1)) hx hb hr (fun t ht hW9 => ⟨⟨(-1), M, rfl, ⟨hW, hF, hG, hGI, trivial⟩, ⟨2, (-1), by rw [ht]; exact hP, hD⟩⟩, hS.F ht⟩) hS.2.2 dX13_leaf_45
        · have hz := rfl (a := 0)
          refine lv_iload hx hb dX13_leaf_33 (lv_at hl 4 rfl) ?_
          refine lv_bipush (v := 6) hx hb dX13_leaf_35 (by decide) ?_
          refine lv_icmp_le (tgt := 46) hx hb dX13_leaf_37 (by decide) (fun c_25 => ?_) (fun c_25 => ?_)
          · have hz := rfl (a := 0)
            refine lv_aload_n hx hb dX13_leaf_46 rfl (lv_at hl 0 rfl) ?_
            refine va_get (D := D) (ci := 13) (v := .ref z1) (C := RX13) (T := TX13) (N := 20) hx hb hg inG13 hown hK hP 0 rfl rfl 1 (by decide) (hg _ wd_739) (fun _ h9 => h9) rfl dX13_leaf_47 ?_
            refine lv_iload_n hx hb dX13_leaf_50 rfl (lv_at hl 1 rfl) ?_
            obtain ⟨f26, hM26, hf26⟩ := hW.open_23 i1
            have hi_27 : vp_in k1 8 := (inbW (a := z2) (by omega) (inb k1 z2 (by omega) c_6 c_7))
            refine pg_aldq hx hb hK hP i1.1 9 hM26 rfl hi_27 dX13_leaf_51 ?_
            obtain ⟨b28, eb_29, hb_30⟩ := hf26 _ (vp_lt hi_27)
            rw [eb_29]
            have hact : ACT z1 z2 b28 M := ⟨(k1 : Int32).toNatClampNeg, vp_lt (inb k1 z2 (by omega) c_6 c_7), by rw [show RFc (M z1) = f26 from by rw [hM26]; rfl]; exact eb_29⟩
            have hAT := GI.at hGI hact
            have hV : VW K L M M b28 (fx M b28) (ax M b28) := VW.rf b28 hGI.2.2.2
            refine lv_astore (lv' := [(5, .ref b28), (0, .ref za), (1, .int k1), (2, .int k2), (3, .int k3), (4, .int k4)]) hx hb dX13_leaf_52 hl (by decide) rfl (fun ls hl => ?_)
            refine lv_aload hx hb dX13_leaf_54 (lv_at hl 0 rfl) ?_
            refine lv_iload_n hx hb dX13_leaf_56 rfl (lv_at hl 3 rfl) ?_
            obtain ⟨fs31, hM31, hn31, hl31⟩ := hW.open_12 hb_30
            have hPc : va_P D vwCl ([] ++ va_pl L M) H_2 := hP.part (cx := []) [] rfl
            have hDc : va_D A ([] ++ va_pl L M) := hD.part (cx := []) [] (by decide) rfl
            have hFc : ∀ q, va_A ([] ++ va_pl L M) H_2.size q → A q := pg_free hDc hS hA
            refine va_calli (va_runV (As := [.int k2]) (rest := []) ⟨hx, hb, hml, hown, hg⟩ (r_X12_isFree l D cy K L M H_2.size b28 k2  hW hb_30) (cwV 1 hg (gV wd_807 wd_808 wd_809 wd_737 wd_810) rfl rfl rfl (by decide +kernel) ⟨(Nat.le_trans (Nat.le_of_ble_eq_true rfl) hRf), (Nat.le_trans (Nat.le_of_ble_eq_true rfl) hRl)⟩) ⟨PG.blind, pg_recv hK hP hb_30.1 hM31 rfl, fun U hU hW => ⟨rfl, PG.at hPc hK hDc hN hU hW⟩⟩ rfl rfl hl.1 rfl (lv_room (Nat.le_of_ble_eq_true rfl)) dX13_leaf_57 ⟨(Nat.le_trans (Nat.le_of_ble_eq_true rfl) hRc), (Nat.le_trans (Nat.le_of_ble_eq_true rfl) hRs)⟩) hS (fun q _ h => hFc q h) hFc (fun r_33 M_34 t H_32 locs ht hvm hw hB hz1 hk1 hS => ?_)
            have hp_35 := hw
            obtain ⟨hP1, hD1⟩ := hB
            rw [ht] at hP1
            obtain ⟨hP, hD⟩ := va_joinP (X := [(za, .inr (13, [.int 0, .ref z1, .int (nI z2), .int (nI z3), .int z4, .int z5, .ref z6, .ref z7, .ref z8, .ref z9, .int (nI z10), .ref z11, .ref z12, .ref z13, .ref z14, .ref z15, .int (nI z16), .ref z17, .int z18, .ref z19]))]) (cx := []) (wr := [(za, .inr (13, [.int 0, .ref z1, .int (nI z2), .int (nI z3), .int z4, .int z5, .ref z6, .ref z7, .ref z8, .ref z9, .int (nI z10), .ref z11, .ref z12, .ref z13, .ref z14, .ref z15, .int (nI z16), .ref z17, .int z18, .ref z19]))]) (rx := []) (pl := va_pl L M) (pl1 := va_pl L M) hP hD [] [0] rfl rfl (by decide) (by decide) hk1 hFc hP1 hD1
            have hP : va_P D vwCl ([(za, .inr (13, [.int 0, .ref z1, .int (nI z2), .int (nI z3), .int z4, .int z5, .ref z6, .ref z7, .ref z8, .ref z9, .int (nI z10), .ref z11, .ref z12, .ref z13, .ref z14, .ref z15, .int (nI z16), .ref z17, .int z18, .ref z19]))] ++ va_pl L M) H_32 := hP
            have hD : va_D A ([(za, .inr (13, [.int 0, .ref z1, .int (nI z2), .int (nI z3), .int z4, .int z5, .ref z6, .ref z7, .ref z8, .ref z9, .int (nI z10), .ref z11, .ref z12, .ref z13, .ref z14, .ref z15, .int (nI z16), .ref z17, .int z18, .ref z19]))] ++ va_pl L M) := hD
            rcases hp_35 with ⟨rfl, c_36, c_37⟩ | rfl
            · have hz := rfl (a := 0)
              refine lv_if_ne (tgt := 69) hx hb dX13_leaf_60 (by decide) (fun _ => ?_) (fun c_38 => absurd c_38 (by decide))
              refine lv_aload hx hb dX13_leaf_69 (lv_at hl 0 rfl) ?_
              obtain ⟨v39, hv39, hc39⟩ : ∃ v : Nat, fs31[2]? = some (.ref v : Value) ∧ isk K L v 37 1000 := hl31 2 (by decide)
              refine pg_getN (D := D) (ci := 12) (v := .ref v39) (C := RX12) (T := TX12) (N := 51) hx hb hg inG12 hown hK hP hb_30.1 hM31 rfl 2 (by decide) (hN.use (Cond.fieldLinkNest RX13 83 RX12 "places" "[I" RX13) 11 rfl rfl) (fun _ h9 => h9) hv39 dX13_leaf_71 ?_
              refine lv_iload_n hx hb dX13_leaf_74 rfl (lv_at hl 3 rfl) ?_
              refine lv_iload hx hb dX13_leaf_75 (lv_at hl 5 rfl) ?_
              obtain ⟨j_40, hj_41, rfl⟩ := i32nat 1000 (by decide) c_36 c_37
              obtain ⟨j_42, hj_43, rfl⟩ := i32nat 7 (by decide) c_20 (leB (b := 7) (c := 6) (by decide) (by decide) c_25)
              obtain ⟨f44, hM44, hf44⟩ := hW.open_37 hc39
              refine pg_iast hx hb hK hP hD hS hc39.1 0 hM44 rfl (inbN j_40 1000 (by omega) (by omega)) dX13_leaf_77 (fun H_45 locs hP hD hS => ?_)
              obtain ⟨M_46, eM_46⟩ : ∃ M1 : Hp, M1 = va_up M v39 (.inl (cy 14, 1000, .inl (upd f44 ((nI j_40) : Int32).toNatClampNeg (nI j_42)))) := ⟨_, rfl⟩
              have hy2 : (ax M b28 2) = f44 := (congrFun hV.2.2.1 2).symm.trans (ax_of hM31 (by decide) hv39 hM44)
              have hV : VW K L M M_46 b28 (fx M b28) (va_up (ax M b28) 2 (upd (ax M b28 2) ((nI j_40) : Int32).toNatClampNeg (nI j_42))) := by rw [eM_46]; exact hV.ast (j := 2) hW hb_30 hM31 (by decide) hv39 hc39 hM44
              have hP : va_P D vwCl ([(za, .inr (13, [.int 0, .ref z1, .int (nI z2), .int (nI z3), .int z4, .int z5, .ref z6, .ref z7, .ref z8, .ref z9, .int (nI z10), .ref z11, .ref z12, .ref z13, .ref z14, .ref z15, .int (nI z16), .ref z17, .int z18, .ref z19]))] ++ va_pl L M_46) H_45 := by rw [eM_46]; exact hP
              have hD : va_D A ([(za, .inr (13, [.int 0, .ref z1, .int (nI z2), .int (nI z3), .int z4, .int z5, .ref z6, .ref z7, .ref z8, .ref z9, .int (nI z10), .ref z11, .ref z12, .ref z13, .ref z14, .ref z15, .int (nI z16), .ref z17, .int z18, .ref z19]))] ++ va_pl L M_46) := by rw [eM_46]; exact hD
              have hW : WOM cy K L M_46 := by rw [eM_46]; exact hW.up_37 hc39 ⟨_, rfl, (updP (P := fun z => (z = -1 ∨ ∃ c : Nat, c < 7 ∧ z = nI c)) hf44 (Or.inr ⟨j_42, by omega, rfl⟩))⟩
              have hF : fr K L [12, 14, 35, 37, 74] M M_46 := by rw [eM_46]; exact hF.up hc39 (by decide)
              have hG : fG K L [16] M M_46 := by rw [eM_46]; exact hG.arr hc39 (by decide)
              have hM_47 : M_46 v39 = .inl (cy 14, 1000, .inl (upd f44 ((nI j_40) : Int32).toNatClampNeg (nI j_42))) := by rw [eM_46]; exact va_up_self _ _ _
              have hM_48 : M_46 z1 = .inl (cy 23, 8, .inr (.inr (.inr (.inr (f26))))) := by rw [eM_46, va_up_ne _ _ (i1.neT hc39 (by decide))]; exact hM26
              have hM_49 : M_46 b28 = .inr (12, fs31) := by rw [eM_46, va_up_ne _ _ (hb_30.neT hc39 (by decide))]; exact hM31
              have hf_51 : ∀ j, j < 1000 → ((upd f44 ((nI j_40) : Int32).toNatClampNeg (nI j_42)) j = -1 ∨ ∃ c : Nat, c < 7 ∧ (upd f44 ((nI j_40) : Int32).toNatClampNeg (nI j_42)) j = nI c) := (updP (P := fun z => (z = -1 ∨ ∃ c : Nat, c < 7 ∧ z = nI c)) hf44 (Or.inr ⟨j_42, by omega, rfl⟩))
              obtain ⟨f_50, ef_50⟩ : ∃ f : Nat → Int32, f = upd f44 ((nI j_40) : Int32).toNatClampNeg (nI j_42) := ⟨_, rfl⟩
              rw [← ef_50] at hM_47 hf_51
              refine lv_aload hx hb dX13_leaf_78 (lv_at hl 0 rfl) ?_
              obtain ⟨v52, hv52, hc52⟩ : ∃ v : Nat, fs31[3]? = some (.ref v : Value) ∧ isk K L v 35 1000 := hl31 3 (by decide)
              refine pg_getN (D := D) (ci := 12) (v := .ref v52) (C := RX12) (T := TX12) (N := 51) hx hb hg inG12 hown hK hP hb_30.1 hM_49 rfl 3 (by decide) (hN.use (Cond.fieldLinkNest RX13 157 RX12 "told" "[I" RX13) 12 rfl rfl) (fun _ h9 => h9) hv52 dX13_leaf_80 ?_
              refine lv_iload_n hx hb dX13_leaf_83 rfl (lv_at hl 3 rfl) ?_
              refine lv_iconst (v := 0) hx hb dX13_leaf_84 (by decide) ?_
              obtain ⟨f53, hM53, hf53⟩ := hW.open_35 hc52
              refine pg_iast hx hb hK hP hD hS hc52.1 0 hM53 rfl (inbN j_40 1000 (by omega) (by omega)) dX13_leaf_85 (fun H_54 locs hP hD hS => ?_)
              obtain ⟨M_55, eM_55⟩ : ∃ M1 : Hp, M1 = va_up M_46 v52 (.inl (cy 14, 1000, .inl (upd f53 ((nI j_40) : Int32).toNatClampNeg 0))) := ⟨_, rfl⟩
              have hy3 : (ax M b28 3) = f53 := (congrFun hV.2.2.1 3).symm.trans (ax_of hM_49 (by decide) hv52 hM53)
              have hV : VW K L M M_55 b28 (fx M b28) (va_up (va_up (ax M b28) 2 (upd (ax M b28 2) ((nI j_40) : Int32).toNatClampNeg (nI j_42))) 3 (upd (ax M b28 3) ((nI j_40) : Int32).toNatClampNeg 0)) := by rw [eM_55]; exact hV.ast (j := 3) hW hb_30 hM_49 (by decide) hv52 hc52 hM53
              have hP : va_P D vwCl ([(za, .inr (13, [.int 0, .ref z1, .int (nI z2), .int (nI z3), .int z4, .int z5, .ref z6, .ref z7, .ref z8, .ref z9, .int (nI z10), .ref z11, .ref z12, .ref z13, .ref z14, .ref z15, .int (nI z16), .ref z17, .int z18, .ref z19]))] ++ va_pl L M_55) H_54 := by rw [eM_55]; exact hP
              have hD : va_D A ([(za, .inr (13, [.int 0, .ref z1, .int (nI z2), .int (nI z3), .int z4, .int z5, .ref z6, .ref z7, .ref z8, .ref z9, .int (nI z10), .ref z11, .ref z12, .ref z13, .ref z14, .ref z15, .int (nI z16), .ref z17, .int z18, .ref z19]))] ++ va_pl L M_55) := by rw [eM_55]; exact hD
              have hW : WOM cy K L M_55 := by rw [eM_55]; exact hW.up_35 hc52 ⟨_, rfl, (updP (P := fun z => ∃ c : Nat, c < 7 ∧ z = nI c) hf53 ⟨0, by omega, rfl⟩)⟩
              have hF : fr K L [12, 14, 35, 37, 74] M M_55 := by rw [eM_55]; exact hF.up hc52 (by decide)
              have hG : fG K L [16] M M_55 := by rw [eM_55]; exact hG.arr hc52 (by decide)
              have hM_56 : M_55 v52 = .inl (cy 14, 1000, .inl (upd f53 ((nI j_40) : Int32).toNatClampNeg 0)) := by rw [eM_55]; exact va_up_self _ _ _
              have hM_57 : M_55 v39 = .inl (cy 14, 1000, .inl (f_50)) := by rw [eM_55, va_up_ne _ _ (hc39.neT hc52 (by decide))]; exact hM_47
              have hM_58 : M_55 z1 = .inl (cy 23, 8, .inr (.inr (.inr (.inr (f26))))) := by rw [eM_55, va_up_ne _ _ (i1.neT hc52 (by decide))]; exact hM_48
              have hM_59 : M_55 b28 = .inr (12, fs31) := by rw [eM_55, va_up_ne _ _ (hb_30.neT hc52 (by decide))]; exact hM_49
              have hf_61 : ∀ j, j < 1000 → ∃ c : Nat, c < 7 ∧ (upd f53 ((nI j_40) : Int32).toNatClampNeg 0) j = nI c := (updP (P := fun z => ∃ c : Nat, c < 7 ∧ z = nI c) hf53 ⟨0, by omega, rfl⟩)
              obtain ⟨f_60, ef_60⟩ : ∃ f : Nat → Int32, f = upd f53 ((nI j_40) : Int32).toNatClampNeg 0 := ⟨_, rfl⟩
              rw [← ef_60] at hM_56 hf_61
              refine lv_aload hx hb dX13_leaf_86 (lv_at hl 0 rfl) ?_
              obtain ⟨v62, hv62, hc62⟩ : ∃ v : Nat, fs31[4]? = some (.ref v : Value) ∧ isk K L v 74 1000 := hl31 4 (by decide)
              refine pg_getN (D := D) (ci := 12) (v := .ref v62) (C := RX12) (T := TX12) (N := 51) hx hb hg inG12 hown hK hP hb_30.1 hM_59 rfl 4 (by decide) (hN.use (Cond.fieldLinkNest RX13 158 RX12 "sort" "[I" RX13) 13 rfl rfl) (fun _ h9 => h9) hv62 dX13_leaf_88 ?_
              refine lv_iload_n hx hb dX13_leaf_91 rfl (lv_at hl 3 rfl) ?_
              refine lv_iload_n hx hb dX13_leaf_92 rfl (lv_at hl 4 rfl) ?_
              obtain ⟨f63, hM63⟩ := hW.open_74 hc62
              refine pg_iast hx hb hK hP hD hS hc62.1 0 hM63 rfl (inbN j_40 1000 (by omega) (by omega)) dX13_leaf_93 (fun H_64 locs hP hD hS => ?_)
              obtain ⟨M_65, eM_65⟩ : ∃ M1 : Hp, M1 = va_up M_55 v62 (.inl (cy 14, 1000, .inl (upd f63 ((nI j_40) : Int32).toNatClampNeg k3))) := ⟨_, rfl⟩
              have hy4 : (ax M b28 4) = f63 := (congrFun hV.2.2.1 4).symm.trans (ax_of hM_59 (by decide) hv62 hM63)
              have hV : VW K L M M_65 b28 (fx M b28) (va_up (va_up (va_up (ax M b28) 2 (upd (ax M b28 2) ((nI j_40) : Int32).toNatClampNeg (nI j_42))) 3 (upd (ax M b28 3) ((nI j_40) : Int32).toNatClampNeg 0)) 4 (upd (ax M b28 4) ((nI j_40) : Int32).toNatClampNeg k3)) := by rw [eM_65]; exact hV.ast (j := 4) hW hb_30 hM_59 (by decide) hv62 hc62 hM63
              have hP : va_P D vwCl ([(za, .inr (13, [.int 0, .ref z1, .int (nI z2), .int (nI z3), .int z4, .int z5, .ref z6, .ref z7, .ref z8, .ref z9, .int (nI z10), .ref z11, .ref z12, .ref z13, .ref z14, .ref z15, .int (nI z16), .ref z17, .int z18, .ref z19]))] ++ va_pl L M_65) H_64 := by rw [eM_65]; exact hP
              have hD : va_D A ([(za, .inr (13, [.int 0, .ref z1, .int (nI z2), .int (nI z3), .int z4, .int z5, .ref z6, .ref z7, .ref z8, .ref z9, .int (nI z10), .ref z11, .ref z12, .ref z13, .ref z14, .ref z15, .int (nI z16), .ref z17, .int z18, .ref z19]))] ++ va_pl L M_65) := by rw [eM_65]; exact hD
              have hW : WOM cy K L M_65 := by rw [eM_65]; exact hW.up_74 hc62 ⟨_, rfl⟩
              have hF : fr K L [12, 14, 35, 37, 74] M M_65 := by rw [eM_65]; exact hF.up hc62 (by decide)
              have hG : fG K L [16] M M_65 := by rw [eM_65]; exact hG.arr hc62 (by decide)
              have hM_66 : M_65 v62 = .inl (cy 14, 1000, .inl (upd f63 ((nI j_40) : Int32).toNatClampNeg k3)) := by rw [eM_65]; exact va_up_self _ _ _
              have hM_67 : M_65 v52 = .inl (cy 14, 1000, .inl (f_60)) := by rw [eM_65, va_up_ne _ _ (hc52.neT hc62 (by decide))]; exact hM_56
              have hM_68 : M_65 v39 = .inl (cy 14, 1000, .inl (f_50)) := by rw [eM_65, va_up_ne _ _ (hc39.neT hc62 (by decide))]; exact hM_57
              have hM_69 : M_65 z1 = .inl (cy 23, 8, .inr (.inr (.inr (.inr (f26))))) := by rw [eM_65, va_up_ne _ _ (i1.neT hc62 (by decide))]; exact hM_58
              have hM_70 : M_65 b28 = .inr (12, fs31) := by rw [eM_65, va_up_ne _ _ (hb_30.neT hc62 (by decide))]; exact hM_59
              obtain ⟨f_71, ef_71⟩ : ∃ f : Nat → Int32, f = upd f63 ((nI j_40) : Int32).toNatClampNeg k3 := ⟨_, rfl⟩
              rw [← ef_71] at hM_66
              refine lv_aload hx hb dX13_leaf_94 (lv_at hl 0 rfl) ?_
              refine lv_iconst (v := 0) hx hb dX13_leaf_96 (by decide) ?_
              refine pg_putN (D := D) (ci := 12) (v := .int 0) (ty := .int) (C := RX12) (T := TX12) (N := 51) hx hb hg inG12 tyX12 tyX12_ok nmX12 hown hK hP hD hS hb_30.1 hM_70 rfl 16 (by decide) (hN.use (Cond.fieldLinkNest RX13 161 RX12 "undone" "I" RX13) 25 rfl rfl) (fun _ h9 => h9) rfl (by decide +kernel) rfl rfl (by rw [hn31]; decide) dX13_leaf_97 (fun H_72 locs hP hD hS => ?_)
              have hs_75 : (fs31.set 16 (.int 0))[16]? = some (.int (nI 0)) := List.getElem?_set_self (by rw [hn31]; decide)
              have hk_74 := fld12_set (k := 16) (w := .int 0) hl31 (show fld12 K L 16 (fs31.set 16 (.int 0)) from ⟨0, hs_75, by omega⟩)
              have hn_76 : (fs31.set 16 (.int 0)).length = 51 := by rw [List.length_set]; exact hn31
              have hv_77 : (fs31.set 16 (.int 0))[2]? = some (.ref v39) := by rw [List.getElem?_set_ne (by decide)]; exact hv39
              have hv_78 : (fs31.set 16 (.int 0))[3]? = some (.ref v52) := by rw [List.getElem?_set_ne (by decide)]; exact hv52
              have hv_79 : (fs31.set 16 (.int 0))[4]? = some (.ref v62) := by rw [List.getElem?_set_ne (by decide)]; exact hv62
              have hb_80 : 0 ≤ 60 := by omega
              obtain ⟨M_81, eM_81⟩ : ∃ M1 : Hp, M1 = va_up M_65 b28 (.inr (12, fs31.set 16 (.int 0))) := ⟨_, rfl⟩
              have hV : VW K L M M_81 b28 (va_up (fx M b28) 16 (0 : Int)) (va_up (va_up (va_up (ax M b28) 2 (upd (ax M b28 2) ((nI j_40) : Int32).toNatClampNeg (nI j_42))) 3 (upd (ax M b28 3) ((nI j_40) : Int32).toNatClampNeg 0)) 4 (upd (ax M b28 4) ((nI j_40) : Int32).toNatClampNeg k3)) := by rw [eM_81]; exact hV.put hW hb_30 hM_70 hn31 rfl (by decide) rfl (by decide)
              have hP : va_P D vwCl ([(za, .inr (13, [.int 0, .ref z1, .int (nI z2), .int (nI z3), .int z4, .int z5, .ref z6, .ref z7, .ref z8, .ref z9, .int (nI z10), .ref z11, .ref z12, .ref z13, .ref z14, .ref z15, .int (nI z16), .ref z17, .int z18, .ref z19]))] ++ va_pl L M_81) H_72 := by rw [eM_81]; exact hP
              have hD : va_D A ([(za, .inr (13, [.int 0, .ref z1, .int (nI z2), .int (nI z3), .int z4, .int z5, .ref z6, .ref z7, .ref z8, .ref z9, .int (nI z10), .ref z11, .ref z12, .ref z13, .ref z14, .ref z15, .int (nI z16), .ref z17, .int z18, .ref z19]))] ++ va_pl L M_81) := by rw [eM_81]; exact hD
              have hW : WOM cy K L M_81 := by rw [eM_81]; exact hW.up_12 hb_30 ⟨_, rfl, hn_76, hk_74⟩
              have hF : fr K L [12, 14, 35, 37, 74] M M_81 := by rw [eM_81]; exact hF.up hb_30 (by decide)
              have hG : fG K L [16] M M_81 := by rw [eM_81]; exact hG.up hM_70 (by decide)
              have hM_82 : M_81 b28 = .inr (12, fs31.set 16 (.int 0)) := by rw [eM_81]; exact va_up_self _ _ _
              have hM_83 : M_81 v62 = .inl (cy 14, 1000, .inl (f_71)) := by rw [eM_81, va_up_ne _ _ (hc62.neT hb_30 (by decide))]; exact hM_66
              have hM_84 : M_81 v52 = .inl (cy 14, 1000, .inl (f_60)) := by rw [eM_81, va_up_ne _ _ (hc52.neT hb_30 (by decide))]; exact hM_67
              have hM_85 : M_81 v39 = .inl (cy 14, 1000, .inl (f_50)) := by rw [eM_81, va_up_ne _ _ (hc39.neT hb_30 (by decide))]; exact hM_68
              have hM_86 : M_81 z1 = .inl (cy 23, 8, .inr (.inr (.inr (.inr (f26))))) := by rw [eM_81, va_up_ne _ _ (i1.neT hb_30 (by decide))]; exact hM_69
              refine lv_aload_n hx hb dX13_leaf_100 rfl (lv_at hl 1 rfl) ?_
              refine lv_iload hx hb dX13_leaf_101 (lv_at hl 5 rfl) ?_
              have hPc := hP.sub (ws' := [(za, .inr (13, [.int 0, .ref z1, .int (nI z2), .int (nI z3), .int z4, .int z5, .ref z6, .ref z7, .ref z8, .ref z9, .int (nI z10), .ref z11, .ref z12, .ref z13, .ref z14, .ref z15, .int (nI z16), .ref z17, .int z18, .ref z19]))]) [0] rfl
              have hDc := hD.sub (ws' := [(za, .inr (13, [.int 0, .ref z1, .int (nI z2), .int (nI z3), .int z4, .int z5, .ref z6, .ref z7, .ref z8, .ref z9, .int (nI z10), .ref z11, .ref z12, .ref z13, .ref z14, .ref z15, .int (nI z16), .ref z17, .int z18, .ref z19]))]) [0] (by decide) rfl
              have hKc := hK.sub (tys' := []) [] rfl
              have hFc := va_free (wc := [(za, .inr (13, [.int 0, .ref z1, .int (nI z2), .int (nI z3), .int z4, .int z5, .ref z6, .ref z7, .ref z8, .ref z9, .int (nI z10), .ref z11, .ref z12, .ref z13, .ref z14, .ref z15, .int (nI z16), .ref z17, .int z18, .ref z19]))]) hD hS hA [0] rfl
              refine va_calli (va_runV (As := [.int (nI j_42)]) (rest := []) ⟨hx, hb, hml, hown, hg⟩ (m_done l D H_72.size za 0 z1 (nI z2) (nI z3) z4 z5 z6 z7 z8 z9 (nI z10) z11 z12 z13 z14 z15 (nI z16) z17 z18 z19 (nI j_42)) (cwV 1 hg (gV wd_730 wd_731 wd_732 wd_717 wd_733) rfl rfl rfl (by decide +kernel) ⟨(Nat.le_trans (Nat.le_of_ble_eq_true rfl) hRf), (Nat.le_trans (Nat.le_of_ble_eq_true rfl) hRl)⟩) ⟨Pr.blind, va_recv hK hP (ci := 13) (q0 := 0) rfl rfl, fun U hU hW => ⟨rfl, Pr.at hPc hKc hDc hN hU hW⟩⟩ rfl rfl hl.1 rfl (lv_room (Nat.le_of_ble_eq_true rfl)) dX13_leaf_103 ⟨(Nat.le_trans (Nat.le_of_ble_eq_true rfl) hRc), (Nat.le_trans (Nat.le_of_ble_eq_true rfl) hRs)⟩) hS (fun q _ h => hFc q h) hFc (fun r_88 M_89 t H_87 locs ht hvm hw hB hz1 hk1 hS => ?_)
              have hp_90 := hw
              obtain ⟨hP1, hK1, hD1⟩ := hB
              rw [ht] at hP1
              obtain ⟨hP, hD⟩ := va_joinQ (X := [(za, .inr (13, [.int 0, .ref z1, .int (nI z2), .int (nI z3), .int z4, .int z5, .ref z6, .ref z7, .ref z8, .ref z9, .int (nI z10), .ref z11, .ref z12, .ref z13, .ref z14, .ref z15, .int (nI z16), .ref z17, .int z18, .ref z19]))]) (cx := [(za, .inr (13, [.int 0, .ref z1, .int (nI z2), .int (nI z3), .int z4, .int z5, .ref z6, .ref z7, .ref z8, .ref z9, .int (nI z10), .ref z11, .ref z12, .ref z13, .ref z14, .ref z15, .int (nI z16), .ref z17, .int z18, .ref z19]))]) (wr := []) (w1 := [(za, .inr (13, [.int 0, .ref z1, .int (nI z2), .int (nI z3), .int 0, .int (-1), .ref z6, .ref z7, .ref z8, .ref z9, .int (nI z10), .ref z11, .ref z12, .ref z13, .ref z14, .ref z15, .int (nI z16), .ref z17, .int z18, .ref z19]))]) (pl := va_pl L M_81) hP hD [0] [] rfl rfl (by decide) (by decide) hk1 hFc hP1 hD1
              have hP : va_P D vwCl ([(za, .inr (13, [.int 0, .ref z1, .int (nI z2), .int (nI z3), .int 0, .int (-1), .ref z6, .ref z7, .ref z8, .ref z9, .int (nI z10), .ref z11, .ref z12, .ref z13, .ref z14, .ref z15, .int (nI z16), .ref z17, .int z18, .ref z19]))] ++ va_pl L M_81) H_87 := hP
              have hD : va_D A ([(za, .inr (13, [.int 0, .ref z1, .int (nI z2), .int (nI z3), .int 0, .int (-1), .ref z6, .ref z7, .ref z8, .ref z9, .int (nI z10), .ref z11, .ref z12, .ref z13, .ref z14, .ref z15, .int (nI z16), .ref z17, .int z18, .ref z19]))] ++ va_pl L M_81) := hD
              have hq := Eq.symm hp_90
              subst hq
              have hA9 : HA (upd (ax M b28 2) ((nI j_40) : Int32).toNatClampNeg (nI j_42)) (upd (ax M b28 3) ((nI j_40) : Int32).toNatClampNeg 0) := HA.leaf hAT.1 (by first | decide | (rw [nI_toInt (by omega)]; omega))
              have hB9 : HB (0 : Int) (fx M b28 14) (upd (ax M b28 3) ((nI j_40) : Int32).toNatClampNeg 0) (ax M b28 43) := HB.zero (nn_upd hAT.2.1.nn.1 (by decide)) hAT.2.1.nn.2
              have hC9 : HC (fx M b28 10) (ax M b28 22) (ax M b28 23) := hAT.2.2.1
              have hD9 : HD (fx M b28 0) (fx M b28 11) (fx M b28 15) (ax M b28 34) (ax M b28 41) := hAT.2.2.2.1
              have hE9 : HE (fx M b28 0) (fx M b28 1) (fx M b28 12) (fx M b28 13) (ax M b28 37) := hAT.2.2.2.2
              have hH9 : HI (va_up (fx M b28) 16 (0 : Int)) (va_up (va_up (va_up (ax M b28) 2 (upd (ax M b28 2) ((nI j_40) : Int32).toNatClampNeg (nI j_42))) 3 (upd (ax M b28 3) ((nI j_40) : Int32).toNatClampNeg 0)) 4 (upd (ax M b28 4) ((nI j_40) : Int32).toNatClampNeg k3)) := ⟨hA9, hB9, hC9, hD9, hE9⟩
              have hGI9 : GI K L z1 z2 M_81 := GI.fin hW0 i1 b2 hGI hact hV (hF.at i1 (by decide)) hH9
              rw [hQ]
              exact W.iret (v := (nI j_42)) hx hb hr (fun t ht hW9 => ⟨⟨(nI j_42), M_81, rfl, ⟨hW, hF, hG, hGI9, trivial⟩, ⟨0, (-1), by rw [ht]; exact hP, hD⟩⟩, hS.F ht⟩) hS.2.2 dX13_leaf_106
            · have hz := rfl (a := 0)
              refine lv_if_ne (tgt := 69) hx hb dX13_leaf_60 (by decide) (fun c_91 => absurd c_91 (by decide)) (fun _ => ?_)
              refine lv_aload_n hx hb dX13_leaf_63 rfl (lv_at hl 1 rfl) ?_
              refine lv_iconst (v := 3) hx hb dX13_leaf_64 (by decide) ?_
              have hPc := hP.sub (ws' := [(za, .inr (13, [.int 0, .ref z1, .int (nI z2), .int (nI z3), .int z4, .int z5, .ref z6, .ref z7, .ref z8, .ref z9, .int (nI z10), .ref z11, .ref z12, .ref z13, .ref z14, .ref z15, .int (nI z16), .ref z17, .int z18, .ref z19]))]) [0] rfl
              have hDc := hD.sub (ws' := [(za, .inr (13, [.int 0, .ref z1, .int (nI z2), .int (nI z3), .int z4, .int z5, .ref z6, .ref z7, .ref z8, .ref z9, .int (nI z10), .ref z11, .ref z12, .ref z13, .ref z14, .ref z15, .int (nI z16), .ref z17, .int z18, .ref z19]))]) [0] (by decide) rfl
              have hKc := hK.sub (tys' := []) [] rfl
              have hFc := va_free (wc := [(za, .inr (13, [.int 0, .ref z1, .int (nI z2), .int (nI z3), .int z4, .int z5, .ref z6, .ref z7, .ref z8, .ref z9, .int (nI z10), .ref z11, .ref z12, .ref z13, .ref z14, .ref z15, .int (nI z16), .ref z17, .int z18, .ref z19]))]) hD hS hA [0] rfl
              refine va_calli (va_runV (As := [.int 3]) (rest := []) ⟨hx, hb, hml, hown, hg⟩ (m_refused l D H_32.size za 0 z1 (nI z2) (nI z3) z4 z5 z6 z7 z8 z9 (nI z10) z11 z12 z13 z14 z15 (nI z16) z17 z18 z19 3) (cwV 1 hg (gV wd_725 wd_726 wd_727 wd_717 wd_728) rfl rfl rfl (by decide +kernel) ⟨(Nat.le_trans (Nat.le_of_ble_eq_true rfl) hRf), (Nat.le_trans (Nat.le_of_ble_eq_true rfl) hRl)⟩) ⟨Pr.blind, va_recv hK hP (ci := 13) (q0 := 0) rfl rfl, fun U hU hW => ⟨rfl, Pr.at hPc hKc hDc hN hU hW⟩⟩ rfl rfl hl.1 rfl (lv_room (Nat.le_of_ble_eq_true rfl)) dX13_leaf_65 ⟨(Nat.le_trans (Nat.le_of_ble_eq_true rfl) hRc), (Nat.le_trans (Nat.le_of_ble_eq_true rfl) hRs)⟩) hS (fun q _ h => hFc q h) hFc (fun r_93 M_94 t H_92 locs ht hvm hw hB hz1 hk1 hS => ?_)
              have hp_95 := hw
              obtain ⟨hP1, hK1, hD1⟩ := hB
              rw [ht] at hP1
              obtain ⟨hP, hD⟩ := va_joinQ (X := [(za, .inr (13, [.int 0, .ref z1, .int (nI z2), .int (nI z3), .int z4, .int z5, .ref z6, .ref z7, .ref z8, .ref z9, .int (nI z10), .ref z11, .ref z12, .ref z13, .ref z14, .ref z15, .int (nI z16), .ref z17, .int z18, .ref z19]))]) (cx := [(za, .inr (13, [.int 0, .ref z1, .int (nI z2), .int (nI z3), .int z4, .int z5, .ref z6, .ref z7, .ref z8, .ref z9, .int (nI z10), .ref z11, .ref z12, .ref z13, .ref z14, .ref z15, .int (nI z16), .ref z17, .int z18, .ref z19]))]) (wr := []) (w1 := [(za, .inr (13, [.int 0, .ref z1, .int (nI z2), .int (nI z3), .int 3, .int (-1), .ref z6, .ref z7, .ref z8, .ref z9, .int (nI z10), .ref z11, .ref z12, .ref z13, .ref z14, .ref z15, .int (nI z16), .ref z17, .int z18, .ref z19]))]) (pl := va_pl L M) hP hD [0] [] rfl rfl (by decide) (by decide) hk1 hFc hP1 hD1
              have hP : va_P D vwCl ([(za, .inr (13, [.int 0, .ref z1, .int (nI z2), .int (nI z3), .int 3, .int (-1), .ref z6, .ref z7, .ref z8, .ref z9, .int (nI z10), .ref z11, .ref z12, .ref z13, .ref z14, .ref z15, .int (nI z16), .ref z17, .int z18, .ref z19]))] ++ va_pl L M) H_92 := hP
              have hD : va_D A ([(za, .inr (13, [.int 0, .ref z1, .int (nI z2), .int (nI z3), .int 3, .int (-1), .ref z6, .ref z7, .ref z8, .ref z9, .int (nI z10), .ref z11, .ref z12, .ref z13, .ref z14, .ref z15, .int (nI z16), .ref z17, .int z18, .ref z19]))] ++ va_pl L M) := hD
              have hq := Eq.symm hp_95
              subst hq
              rw [hQ]
              exact W.iret (v := (-1)) hx hb hr (fun t ht hW9 => ⟨⟨(-1), M, rfl, ⟨hW, hF, hG, hGI, trivial⟩, ⟨3, (-1), by rw [ht]; exact hP, hD⟩⟩, hS.F ht⟩) hS.2.2 dX13_leaf_68
          · have hz := rfl (a := 0)
            have n_96 : ¬ k4 < 0 := gtN (c := 6) (by omega) (Int32.not_le.mp c_25)
            refine lv_aload_n hx hb dX13_leaf_40 rfl (lv_at hl 0 rfl) ?_
            refine lv_iconst (v := 2) hx hb dX13_leaf_41 (by decide) ?_
            have hPc := hP.sub (ws' := [(za, .inr (13, [.int 0, .ref z1, .int (nI z2), .int (nI z3), .int z4, .int z5, .ref z6, .ref z7, .ref z8, .ref z9, .int (nI z10), .ref z11, .ref z12, .ref z13, .ref z14, .ref z15, .int (nI z16), .ref z17, .int z18, .ref z19]))]) [0] rfl
            have hDc := hD.sub (ws' := [(za, .inr (13, [.int 0, .ref z1, .int (nI z2), .int (nI z3), .int z4, .int z5, .ref z6, .ref z7, .ref z8, .ref z9, .int (nI z10), .ref z11, .ref z12, .ref z13, .ref z14, .ref z15, .int (nI z16), .ref z17, .int z18, .ref z19]))]) [0] (by decide) rfl
            have hKc := hK.sub (tys' := []) [] rfl
            have hFc := va_free (wc := [(za, .inr (13, [.int 0, .ref z1, .int (nI z2), .int (nI z3), .int z4, .int z5, .ref z6, .ref z7, .ref z8, .ref z9, .int (nI z10), .ref z11, .ref z12, .ref z13, .ref z14, .ref z15, .int (nI z16), .ref z17, .int z18, .ref z19]))]) hD hS hA [0] rfl
            refine va_calli (va_runV (As := [.int 2]) (rest := []) ⟨hx, hb, hml, hown, hg⟩ (m_refused l D H_2.size za 0 z1 (nI z2) (nI z3) z4 z5 z6 z7 z8 z9 (nI z10) z11 z12 z13 z14 z15 (nI z16) z17 z18 z19 2) (cwV 1 hg (gV wd_725 wd_726 wd_727 wd_717 wd_728) rfl rfl rfl (by decide +kernel) ⟨(Nat.le_trans (Nat.le_of_ble_eq_true rfl) hRf), (Nat.le_trans (Nat.le_of_ble_eq_true rfl) hRl)⟩) ⟨Pr.blind, va_recv hK hP (ci := 13) (q0 := 0) rfl rfl, fun U hU hW => ⟨rfl, Pr.at hPc hKc hDc hN hU hW⟩⟩ rfl rfl hl.1 rfl (lv_room (Nat.le_of_ble_eq_true rfl)) dX13_leaf_42 ⟨(Nat.le_trans (Nat.le_of_ble_eq_true rfl) hRc), (Nat.le_trans (Nat.le_of_ble_eq_true rfl) hRs)⟩) hS (fun q _ h => hFc q h) hFc (fun r_98 M_99 t H_97 locs ht hvm hw hB hz1 hk1 hS => ?_)
            have hp_100 := hw
            obtain ⟨hP1, hK1, hD1⟩ := hB
            rw [ht] at hP1
            obtain ⟨hP, hD⟩ := va_joinQ (X := [(za, .inr (13, [.int 0, .ref z1, .int (nI z2), .int (nI z3), .int z4, .int z5, .ref z6, .ref z7, .ref z8, .ref z9, .int (nI z10), .ref z11, .ref z12, .ref z13, .ref z14, .ref z15, .int (nI z16), .ref z17, .int z18, .ref z19]))]) (cx := [(za, .inr (13, [.int 0, .ref z1, .int (nI z2), .int (nI z3), .int z4, .int z5, .ref z6, .ref z7, .ref z8, .ref z9, .int (nI z10), .ref z11, .ref z12, .ref z13, .ref z14, .ref z15, .int (nI z16), .ref z17, .int z18, .ref z19]))]) (wr := []) (w1 := [(za, .inr (13, [.int 0, .ref z1, .int (nI z2), .int (nI z3), .int 2, .int (-1), .ref z6, .ref z7, .ref z8, .ref z9, .int (nI z10), .ref z11, .ref z12, .ref z13, .ref z14, .ref z15, .int (nI z16), .ref z17, .int z18, .ref z19]))]) (pl := va_pl L M) hP hD [0] [] rfl rfl (by decide) (by decide) hk1 hFc hP1 hD1
            have hP : va_P D vwCl ([(za, .inr (13, [.int 0, .ref z1, .int (nI z2), .int (nI z3), .int 2, .int (-1), .ref z6, .ref z7, .ref z8, .ref z9, .int (nI z10), .ref z11, .ref z12, .ref z13, .ref z14, .ref z15, .int (nI z16), .ref z17, .int z18, .ref z19]))] ++ va_pl L M) H_97 := hP
            have hD : va_D A ([(za, .inr (13, [.int 0, .ref z1, .int (nI z2), .int (nI z3), .int 2, .int (-1), .ref z6, .ref z7, .ref z8, .ref z9, .int (nI z10), .ref z11, .ref z12, .ref z13, .ref z14, .ref z15, .int (nI z16), .ref z17, .int z18, .ref z19]))] ++ va_pl L M) := hD
            have hq := Eq.symm hp_100
            subst hq
            rw [hQ]
            exact W.iret (v := (-1)) hx hb hr (fun t ht hW9 => ⟨⟨(-1), M, rfl, ⟨hW, hF, hG, hGI, trivial⟩, ⟨2, (-1), by rw [ht]; exact hP, hD⟩⟩, hS.F ht⟩) hS.2.2 dX13_leaf_45
  · have hz := rfl (a := 0)
    refine lv_if_ne (tgt := 19) hx hb dX13_leaf_10 (by decide) (fun c_101 => absurd c_101 (by decide)) (fun _ => ?_)
    refine lv_aload_n hx hb dX13_leaf_13 rfl (lv_at hl 0 rfl) ?_
    refine lv_iconst (v := 1) hx hb dX13_leaf_14 (by decide) ?_
    have hPc := hP.sub (ws' := [(za, .inr (13, [.int 0, .ref z1, .int (nI z2), .int (nI z3), .int z4, .int z5, .ref z6, .ref z7, .ref z8, .ref z9, .int (nI z10), .ref z11, .ref z12, .ref z13, .ref z14, .ref z15, .int (nI z16), .ref z17, .int z18, .ref z19]))]) [0] rfl
    have hDc := hD.sub (ws' := [(za, .inr (13, [.int 0, .ref z1, .int (nI z2), .int (nI z3), .int z4, .int z5, .ref z6, .ref z7, .ref z8, .ref z9, .int (nI z10), .ref z11, .ref z12, .ref z13, .ref z14, .ref z15, .int (nI z16), .ref z17, .int z18, .ref z19]))]) [0] (by decide) rfl
    have hKc := hK.sub (tys' := []) [] rfl
    have hFc := va_free (wc := [(za, .inr (13, [.int 0, .ref z1, .int (nI z2), .int (nI z3), .int z4, .int z5, .ref z6, .ref z7, .ref z8, .ref z9, .int (nI z10), .ref z11, .ref z12, .ref z13, .ref z14, .ref z15, .int (nI z16), .ref z17, .int z18, .ref z19]))]) hD hS hA [0] rfl
    refine va_calli (va_runV (As := [.int 1]) (rest := []) ⟨hx, hb, hml, hown, hg⟩ (m_refused l D H_2.size za 0 z1 (nI z2) (nI z3) z4 z5 z6 z7 z8 z9 (nI z10) z11 z12 z13 z14 z15 (nI z16) z17 z18 z19 1) (cwV 1 hg (gV wd_725 wd_726 wd_727 wd_717 wd_728) rfl rfl rfl (by decide +kernel) ⟨(Nat.le_trans (Nat.le_of_ble_eq_true rfl) hRf), (Nat.le_trans (Nat.le_of_ble_eq_true rfl) hRl)⟩) ⟨Pr.blind, va_recv hK hP (ci := 13) (q0 := 0) rfl rfl, fun U hU hW => ⟨rfl, Pr.at hPc hKc hDc hN hU hW⟩⟩ rfl rfl hl.1 rfl (lv_room (Nat.le_of_ble_eq_true rfl)) dX13_leaf_15 ⟨(Nat.le_trans (Nat.le_of_ble_eq_true rfl) hRc), (Nat.le_trans (Nat.le_of_ble_eq_true rfl) hRs)⟩) hS (fun q _ h => hFc q h) hFc (fun r_103 M_104 t H_102 locs ht hvm hw hB hz1 hk1 hS => ?_)
    have hp_105 := hw
    obtain ⟨hP1, hK1, hD1⟩ := hB
    rw [ht] at hP1
    obtain ⟨hP, hD⟩ := va_joinQ (X := [(za, .inr (13, [.int 0, .ref z1, .int (nI z2), .int (nI z3), .int z4, .int z5, .ref z6, .ref z7, .ref z8, .ref z9, .int (nI z10), .ref z11, .ref z12, .ref z13, .ref z14, .ref z15, .int (nI z16), .ref z17, .int z18, .ref z19]))]) (cx := [(za, .inr (13, [.int 0, .ref z1, .int (nI z2), .int (nI z3), .int z4, .int z5, .ref z6, .ref z7, .ref z8, .ref z9, .int (nI z10), .ref z11, .ref z12, .ref z13, .ref z14, .ref z15, .int (nI z16), .ref z17, .int z18, .ref z19]))]) (wr := []) (w1 := [(za, .inr (13, [.int 0, .ref z1, .int (nI z2), .int (nI z3), .int 1, .int (-1), .ref z6, .ref z7, .ref z8, .ref z9, .int (nI z10), .ref z11, .ref z12, .ref z13, .ref z14, .ref z15, .int (nI z16), .ref z17, .int z18, .ref z19]))]) (pl := va_pl L M) hP hD [0] [] rfl rfl (by decide) (by decide) hk1 hFc hP1 hD1
    have hP : va_P D vwCl ([(za, .inr (13, [.int 0, .ref z1, .int (nI z2), .int (nI z3), .int 1, .int (-1), .ref z6, .ref z7, .ref z8, .ref z9, .int (nI z10), .ref z11, .ref z12, .ref z13, .ref z14, .ref z15, .int (nI z16), .ref z17, .int z18, .ref z19]))] ++ va_pl L M) H_102 := hP
    have hD : va_D A ([(za, .inr (13, [.int 0, .ref z1, .int (nI z2), .int (nI z3), .int 1, .int (-1), .ref z6, .ref z7, .ref z8, .ref z9, .int (nI z10), .ref z11, .ref z12, .ref z13, .ref z14, .ref z15, .int (nI z16), .ref z17, .int z18, .ref z19]))] ++ va_pl L M) := hD
    have hq := Eq.symm hp_105
    subst hq
    rw [hQ]
    exact W.iret (v := (-1)) hx hb hr (fun t ht hW9 => ⟨⟨(-1), M, rfl, ⟨hW, hF, hG, hGI, trivial⟩, ⟨1, (-1), by rw [ht]; exact hP, hD⟩⟩, hS.F ht⟩) hS.2.2 dX13_leaf_18
set_option maxHeartbeats 4000000 in
set_option maxRecDepth 100000 in
theorem g_X13_tear (l : Launch) (D : va_G) (cy : Nat → ClassId) (K : Kp) (L : List Nat) (M : Hp) (sz : Nat) (za : Nat) (z0 : Int32) (z1 : Nat) (z2 : Nat) (z3 : Nat) (z4 : Int32) (z5 : Int32) (z6 : Nat) (z7 : Nat) (z8 : Nat) (z9 : Nat) (z10 : Nat) (z11 : Nat) (z12 : Nat) (z13 : Nat) (z14 : Nat) (z15 : Nat) (z16 : Nat) (z17 : Nat) (z18 : Int32) (z19 : Nat) (k1 : Int32) (k2 : Int32) (hW : WOM cy K L M) (i1 : isk K L z1 23 8) (b2 : z2 ≤ 8) (b3 : z3 ≤ 40) (i6 : isk K L z6 47 40) (i7 : isk K L z7 48 40) (i8 : isk K L z8 49 8) (i9 : isk K L z9 50 8) (b10 : z10 ≤ 8) (i11 : isk K L z11 32 24) (i12 : isk K L z12 14 24) (i13 : isk K L z13 15 24) (i14 : isk K L z14 15 24) (i15 : isk K L z15 15 24) (b16 : z16 ≤ 24) (i17 : isk K L z17 14 24) (i19 : isk K L z19 15 25) (hGI : GI K L z1 z2 M) : Met l yX13_tear (wsM yX13_tear cX13_tear 5 (some .int)) ({ frames := 1, cells := 0, slots := 0, locals := 21 }) (va_Pc [.ref za, .int k1, .int k2] (PG D cy [(za, .inr (13, [.int z0, .ref z1, .int (nI z2), .int (nI z3), .int z4, .int z5, .ref z6, .ref z7, .ref z8, .ref z9, .int (nI z10), .ref z11, .ref z12, .ref z13, .ref z14, .ref z15, .int (nI z16), .ref z17, .int z18, .ref z19]))] L M sz)) (va_Qi (fun (r : Int32) (M9 : Hp) => WOM cy K L M9 ∧ fr K L [12, 35, 37] M M9 ∧ fG K L [16] M M9 ∧ (GI K L z1 z2 M9) ∧ (True)) (fun M9 t => ∃ (w4 : Int32) (w5 : Int32), PQ D [(za, .inr (13, [.int 0, .ref z1, .int (nI z2), .int (nI z3), .int w4, .int w5, .ref z6, .ref z7, .ref z8, .ref z9, .int (nI z10), .ref z11, .ref z12, .ref z13, .ref z14, .ref z15, .int (nI z16), .ref z17, .int z18, .ref z19]))] L M9 (va_A ([(za, .inr (13, [.int z0, .ref z1, .int (nI z2), .int (nI z3), .int z4, .int z5, .ref z6, .ref z7, .ref z8, .ref z9, .int (nI z10), .ref z11, .ref z12, .ref z13, .ref z14, .ref z15, .int (nI z16), .ref z17, .int z18, .ref z19]))] ++ va_pl L M) sz) t) (va_A ([(za, .inr (13, [.int z0, .ref z1, .int (nI z2), .int (nI z3), .int z4, .int z5, .ref z6, .ref z7, .ref z8, .ref z9, .int (nI z10), .ref z11, .ref z12, .ref z13, .ref z14, .ref z15, .int (nI z16), .ref z17, .int z18, .ref z19]))] ++ va_pl L M) sz)) 0 0 (va_A ([(za, .inr (13, [.int z0, .ref z1, .int (nI z2), .int (nI z3), .int z4, .int z5, .ref z6, .ref z7, .ref z8, .ref z9, .int (nI z10), .ref z11, .ref z12, .ref z13, .ref z14, .ref z15, .int (nI z16), .ref z17, .int z18, .ref z19]))] ++ va_pl L M) sz) := by
  refine Met.ofW (cc := cX13_tear) (maxL := 5) (ret := (some .int)) (by decide) rfl ?_
  intro p e s m args below meth c s₁ B hml hv
  obtain ⟨rfl, hsz, hP, hK, hD0, hN⟩ := hv
  have hx := B.exec
  have hb := B.bytes
  have hr := B.returns
  have hts := atoms_spec (ws := (wsM yX13_tear cX13_tear 5 (some .int))) B.pre
  have hg : ∀ w ∈ lw_good, w.before _ s = true := fun w h => hts w (List.mem_cons_of_mem _ h)
  have hown : s.vm.findClass RX13 = some m.cls := findClass_of_methodNamed B.named
  have hlocks := B.notSynchronized
  subst hsz
  have hD := hD0.self (sz := s.heap.size)
  generalize hAe : va_A ([(za, .inr (13, [.int z0, .ref z1, .int (nI z2), .int (nI z3), .int z4, .int z5, .ref z6, .ref z7, .ref z8, .ref z9, .int (nI z10), .ref z11, .ref z12, .ref z13, .ref z14, .ref z15, .int (nI z16), .ref z17, .int z18, .ref z19]))] ++ va_pl L M) s.heap.size = A at hD ⊢
  have hA : ∀ q : Nat, s.heap.size ≤ q → A q := fun q h => by rw [← hAe]; exact Or.inr h
  have hS : va_S A s.heap s.heap [] := va_S.rf
  have hl := lv_entry ([.ref za, .int k1, .int k2]) (n := 5) (Nat.le_of_ble_eq_true rfl)
  rw [lg_entry_eq]
  generalize (lg_sl ([.ref za, .int k1, .int k2]) ++ List.replicate (5 - (lg_sl ([.ref za, .int k1, .int k2])).length) Slot.unset).toArray = ls at hl ⊢
  refine W.nameQ (fun Q hQ => ?_)
  refine W.nameR (fun R hR => ?_)
  have hRf : 1 ≤ R.frames := by rw [hR]; exact Nat.le_of_ble_eq_true rfl
  have hRl : 21 ≤ R.locals := by rw [hR]; exact Nat.le_of_ble_eq_true rfl
  have hRc : 0 ≤ R.cells := by rw [hR]; exact Nat.le_of_ble_eq_true rfl
  have hRs : 0 ≤ R.slots := by rw [hR]; exact Nat.le_of_ble_eq_true rfl
  have hF : fr K L [12, 35, 37] M M := fr.rf
  have hG : fG K L [16] M M := fG.rf
  have hl : lv_has ls 5 [(0, .ref za), (1, .int k1), (2, .int k2)] := hl
  have hW0 := hW
  refine lv_aload_n hx hb dX13_tear_0 rfl (lv_at hl 0 rfl) ?_
  refine lv_iconst (v := 0) hx hb dX13_tear_1 (by decide) ?_
  refine va_put (D := D) (ci := 13) (v := .int 0) (ty := .int) (C := RX13) (T := TX13) (N := 20) hx hb hg inG13 tyX13 tyX13_ok nmX13 hown hK hP hD hS 0 rfl rfl 0 (by decide) (hg _ wd_720) (fun _ h9 => h9) rfl (by decide +kernel) rfl rfl (Nat.le_of_ble_eq_true rfl) dX13_tear_2 (fun H_1 locs hP hD hS => ?_)
  have hP : va_P D vwCl ([(za, .inr (13, [.int 0, .ref z1, .int (nI z2), .int (nI z3), .int z4, .int z5, .ref z6, .ref z7, .ref z8, .ref z9, .int (nI z10), .ref z11, .ref z12, .ref z13, .ref z14, .ref z15, .int (nI z16), .ref z17, .int z18, .ref z19]))] ++ va_pl L M) H_1 := hP
  have hD : va_D A ([(za, .inr (13, [.int 0, .ref z1, .int (nI z2), .int (nI z3), .int z4, .int z5, .ref z6, .ref z7, .ref z8, .ref z9, .int (nI z10), .ref z11, .ref z12, .ref z13, .ref z14, .ref z15, .int (nI z16), .ref z17, .int z18, .ref z19]))] ++ va_pl L M) := hD
  refine lv_aload_n hx hb dX13_tear_5 rfl (lv_at hl 0 rfl) ?_
  refine lv_iload_n hx hb dX13_tear_6 rfl (lv_at hl 1 rfl) ?_
  have hPc : va_P D vwCl ([(za, .inr (13, [.int 0, .ref z1, .int (nI z2), .int (nI z3), .int z4, .int z5, .ref z6, .ref z7, .ref z8, .ref z9, .int (nI z10), .ref z11, .ref z12, .ref z13, .ref z14, .ref z15, .int (nI z16), .ref z17, .int z18, .ref z19]))] ++ va_pl L M) H_1 := hP
  have hDc : va_D A ([(za, .inr (13, [.int 0, .ref z1, .int (nI z2), .int (nI z3), .int z4, .int z5, .ref z6, .ref z7, .ref z8, .ref z9, .int (nI z10), .ref z11, .ref z12, .ref z13, .ref z14, .ref z15, .int (nI z16), .ref z17, .int z18, .ref z19]))] ++ va_pl L M) := hD
  have hFc : ∀ q, va_A ([(za, .inr (13, [.int 0, .ref z1, .int (nI z2), .int (nI z3), .int z4, .int z5, .ref z6, .ref z7, .ref z8, .ref z9, .int (nI z10), .ref z11, .ref z12, .ref z13, .ref z14, .ref z15, .int (nI z16), .ref z17, .int z18, .ref z19]))] ++ va_pl L M) H_1.size q → A q := pg_free hDc hS hA
  refine va_calli (va_runV (As := [.int k1]) (rest := []) ⟨hx, hb, hml, hown, hg⟩ (r_X13_isHouse l D cy K L M H_1.size za 0 z1 z2 z3 z4 z5 z6 z7 z8 z9 z10 z11 z12 z13 z14 z15 z16 z17 z18 z19 k1  hW i1 b2 b3 i6 i7 i8 i9 b10 i11 i12 i13 i14 i15 b16 i17 i19) (cwV 1 hg (gV wd_714 wd_715 wd_716 wd_717 wd_718) rfl rfl rfl (by decide +kernel) ⟨(Nat.le_trans (Nat.le_of_ble_eq_true rfl) hRf), (Nat.le_trans (Nat.le_of_ble_eq_true rfl) hRl)⟩) ⟨PG.blind, va_recv hK hP (ci := 13) (q0 := 0) rfl rfl, fun U hU hW => ⟨rfl, PG.at hPc hK hDc hN hU hW⟩⟩ rfl rfl hl.1 rfl (lv_room (Nat.le_of_ble_eq_true rfl)) dX13_tear_7 ⟨(Nat.le_trans (Nat.le_of_ble_eq_true rfl) hRc), (Nat.le_trans (Nat.le_of_ble_eq_true rfl) hRs)⟩) hS (fun q _ h => hFc q h) hFc (fun r_3 M_4 t H_2 locs ht hvm hw hB hz1 hk1 hS => ?_)
  have hp_5 := hw
  obtain ⟨hP1, hD1⟩ := hB
  rw [ht] at hP1
  have hP : va_P D vwCl ([(za, .inr (13, [.int 0, .ref z1, .int (nI z2), .int (nI z3), .int z4, .int z5, .ref z6, .ref z7, .ref z8, .ref z9, .int (nI z10), .ref z11, .ref z12, .ref z13, .ref z14, .ref z15, .int (nI z16), .ref z17, .int z18, .ref z19]))] ++ va_pl L M) H_2 := hP1
  have hD : va_D A ([(za, .inr (13, [.int 0, .ref z1, .int (nI z2), .int (nI z3), .int z4, .int z5, .ref z6, .ref z7, .ref z8, .ref z9, .int (nI z10), .ref z11, .ref z12, .ref z13, .ref z14, .ref z15, .int (nI z16), .ref z17, .int z18, .ref z19]))] ++ va_pl L M) := hD1.mono hFc
  rcases hp_5 with ⟨rfl, c_6, c_7⟩ | rfl
  · have hz := rfl (a := 0)
    refine lv_if_ne (tgt := 19) hx hb dX13_tear_10 (by decide) (fun _ => ?_) (fun c_8 => absurd c_8 (by decide))
    refine lv_aload_n hx hb dX13_tear_19 rfl (lv_at hl 0 rfl) ?_
    refine va_get (D := D) (ci := 13) (v := .ref z1) (C := RX13) (T := TX13) (N := 20) hx hb hg inG13 hown hK hP 0 rfl rfl 1 (by decide) (hg _ wd_739) (fun _ h9 => h9) rfl dX13_tear_20 ?_
    refine lv_iload_n hx hb dX13_tear_23 rfl (lv_at hl 1 rfl) ?_
    obtain ⟨f9, hM9, hf9⟩ := hW.open_23 i1
    have hi_10 : vp_in k1 8 := (inbW (a := z2) (by omega) (inb k1 z2 (by omega) c_6 c_7))
    refine pg_aldq hx hb hK hP i1.1 9 hM9 rfl hi_10 dX13_tear_24 ?_
    obtain ⟨b11, eb_12, hb_13⟩ := hf9 _ (vp_lt hi_10)
    rw [eb_12]
    have hact : ACT z1 z2 b11 M := ⟨(k1 : Int32).toNatClampNeg, vp_lt (inb k1 z2 (by omega) c_6 c_7), by rw [show RFc (M z1) = f9 from by rw [hM9]; rfl]; exact eb_12⟩
    have hAT := GI.at hGI hact
    have hV : VW K L M M b11 (fx M b11) (ax M b11) := VW.rf b11 hGI.2.2.2
    refine lv_astore_n (lv' := [(3, .ref b11), (0, .ref za), (1, .int k1), (2, .int k2)]) hx hb dX13_tear_25 rfl hl (by decide) rfl (fun ls hl => ?_)
    refine lv_aload_n hx hb dX13_tear_26 rfl (lv_at hl 0 rfl) ?_
    refine lv_iload_n hx hb dX13_tear_27 rfl (lv_at hl 3 rfl) ?_
    obtain ⟨fs14, hM14, hn14, hl14⟩ := hW.open_12 hb_13
    have hPc : va_P D vwCl ([] ++ va_pl L M) H_2 := hP.part (cx := []) [] rfl
    have hDc : va_D A ([] ++ va_pl L M) := hD.part (cx := []) [] (by decide) rfl
    have hFc : ∀ q, va_A ([] ++ va_pl L M) H_2.size q → A q := pg_free hDc hS hA
    refine va_calli (va_runV (As := [.int k2]) (rest := []) ⟨hx, hb, hml, hown, hg⟩ (r_X12_isFree l D cy K L M H_2.size b11 k2  hW hb_13) (cwV 1 hg (gV wd_807 wd_808 wd_809 wd_737 wd_810) rfl rfl rfl (by decide +kernel) ⟨(Nat.le_trans (Nat.le_of_ble_eq_true rfl) hRf), (Nat.le_trans (Nat.le_of_ble_eq_true rfl) hRl)⟩) ⟨PG.blind, pg_recv hK hP hb_13.1 hM14 rfl, fun U hU hW => ⟨rfl, PG.at hPc hK hDc hN hU hW⟩⟩ rfl rfl hl.1 rfl (lv_room (Nat.le_of_ble_eq_true rfl)) dX13_tear_28 ⟨(Nat.le_trans (Nat.le_of_ble_eq_true rfl) hRc), (Nat.le_trans (Nat.le_of_ble_eq_true rfl) hRs)⟩) hS (fun q _ h => hFc q h) hFc (fun r_16 M_17 t H_15 locs ht hvm hw hB hz1 hk1 hS => ?_)
    have hp_18 := hw
    obtain ⟨hP1, hD1⟩ := hB
    rw [ht] at hP1
    obtain ⟨hP, hD⟩ := va_joinP (X := [(za, .inr (13, [.int 0, .ref z1, .int (nI z2), .int (nI z3), .int z4, .int z5, .ref z6, .ref z7, .ref z8, .ref z9, .int (nI z10), .ref z11, .ref z12, .ref z13, .ref z14, .ref z15, .int (nI z16), .ref z17, .int z18, .ref z19]))]) (cx := []) (wr := [(za, .inr (13, [.int 0, .ref z1, .int (nI z2), .int (nI z3), .int z4, .int z5, .ref z6, .ref z7, .ref z8, .ref z9, .int (nI z10), .ref z11, .ref z12, .ref z13, .ref z14, .ref z15, .int (nI z16), .ref z17, .int z18, .ref z19]))]) (rx := []) (pl := va_pl L M) (pl1 := va_pl L M) hP hD [] [0] rfl rfl (by decide) (by decide) hk1 hFc hP1 hD1
    have hP : va_P D vwCl ([(za, .inr (13, [.int 0, .ref z1, .int (nI z2), .int (nI z3), .int z4, .int z5, .ref z6, .ref z7, .ref z8, .ref z9, .int (nI z10), .ref z11, .ref z12, .ref z13, .ref z14, .ref z15, .int (nI z16), .ref z17, .int z18, .ref z19]))] ++ va_pl L M) H_15 := hP
    have hD : va_D A ([(za, .inr (13, [.int 0, .ref z1, .int (nI z2), .int (nI z3), .int z4, .int z5, .ref z6, .ref z7, .ref z8, .ref z9, .int (nI z10), .ref z11, .ref z12, .ref z13, .ref z14, .ref z15, .int (nI z16), .ref z17, .int z18, .ref z19]))] ++ va_pl L M) := hD
    rcases hp_18 with ⟨rfl, c_19, c_20⟩ | rfl
    · have hz := rfl (a := 0)
      refine lv_if_ne (tgt := 40) hx hb dX13_tear_31 (by decide) (fun _ => ?_) (fun c_21 => absurd c_21 (by decide))
      refine lv_aload_n hx hb dX13_tear_40 rfl (lv_at hl 0 rfl) ?_
      obtain ⟨v22, hv22, hc22⟩ : ∃ v : Nat, fs14[2]? = some (.ref v : Value) ∧ isk K L v 37 1000 := hl14 2 (by decide)
      refine pg_getN (D := D) (ci := 12) (v := .ref v22) (C := RX12) (T := TX12) (N := 51) hx hb hg inG12 hown hK hP hb_13.1 hM14 rfl 2 (by decide) (hN.use (Cond.fieldLinkNest RX13 83 RX12 "places" "[I" RX13) 11 rfl rfl) (fun _ h9 => h9) hv22 dX13_tear_41 ?_
      refine lv_iload_n hx hb dX13_tear_44 rfl (lv_at hl 3 rfl) ?_
      obtain ⟨f23, hM23, hf23⟩ := hW.open_37 hc22
      have hi_24 : vp_in k2 1000 := (inb k2 1000 (by omega) c_19 c_20)
      refine pg_iald hx hb hK hP hc22.1 0 hM23 rfl hi_24 dX13_tear_45 ?_
      have hp_25 := hf23 _ (vp_lt hi_24)
      rcases hp_25 with ec_28 | ⟨c_26, hc_27, ec_28⟩
      · rw [ec_28]
        refine lv_iconst (v := (-1)) hx hb dX13_tear_46 (by decide) ?_
        refine lv_icmp_ne (tgt := 57) hx hb dX13_tear_47 (by decide) (fun c_29 => absurd c_29 (by decide)) (fun _ => ?_)
        refine lv_aload_n hx hb dX13_tear_50 rfl (lv_at hl 1 rfl) ?_
        refine lv_bipush (v := 10) hx hb dX13_tear_51 (by decide) ?_
        have hPc := hP.sub (ws' := [(za, .inr (13, [.int 0, .ref z1, .int (nI z2), .int (nI z3), .int z4, .int z5, .ref z6, .ref z7, .ref z8, .ref z9, .int (nI z10), .ref z11, .ref z12, .ref z13, .ref z14, .ref z15, .int (nI z16), .ref z17, .int z18, .ref z19]))]) [0] rfl
        have hDc := hD.sub (ws' := [(za, .inr (13, [.int 0, .ref z1, .int (nI z2), .int (nI z3), .int z4, .int z5, .ref z6, .ref z7, .ref z8, .ref z9, .int (nI z10), .ref z11, .ref z12, .ref z13, .ref z14, .ref z15, .int (nI z16), .ref z17, .int z18, .ref z19]))]) [0] (by decide) rfl
        have hKc := hK.sub (tys' := []) [] rfl
        have hFc := va_free (wc := [(za, .inr (13, [.int 0, .ref z1, .int (nI z2), .int (nI z3), .int z4, .int z5, .ref z6, .ref z7, .ref z8, .ref z9, .int (nI z10), .ref z11, .ref z12, .ref z13, .ref z14, .ref z15, .int (nI z16), .ref z17, .int z18, .ref z19]))]) hD hS hA [0] rfl
        refine va_calli (va_runV (As := [.int 10]) (rest := []) ⟨hx, hb, hml, hown, hg⟩ (m_refused l D H_15.size za 0 z1 (nI z2) (nI z3) z4 z5 z6 z7 z8 z9 (nI z10) z11 z12 z13 z14 z15 (nI z16) z17 z18 z19 10) (cwV 1 hg (gV wd_725 wd_726 wd_727 wd_717 wd_728) rfl rfl rfl (by decide +kernel) ⟨(Nat.le_trans (Nat.le_of_ble_eq_true rfl) hRf), (Nat.le_trans (Nat.le_of_ble_eq_true rfl) hRl)⟩) ⟨Pr.blind, va_recv hK hP (ci := 13) (q0 := 0) rfl rfl, fun U hU hW => ⟨rfl, Pr.at hPc hKc hDc hN hU hW⟩⟩ rfl rfl hl.1 rfl (lv_room (Nat.le_of_ble_eq_true rfl)) dX13_tear_53 ⟨(Nat.le_trans (Nat.le_of_ble_eq_true rfl) hRc), (Nat.le_trans (Nat.le_of_ble_eq_true rfl) hRs)⟩) hS (fun q _ h => hFc q h) hFc (fun r_31 M_32 t H_30 locs ht hvm hw hB hz1 hk1 hS => ?_)
        have hp_33 := hw
        obtain ⟨hP1, hK1, hD1⟩ := hB
        rw [ht] at hP1
        obtain ⟨hP, hD⟩ := va_joinQ (X := [(za, .inr (13, [.int 0, .ref z1, .int (nI z2), .int (nI z3), .int z4, .int z5, .ref z6, .ref z7, .ref z8, .ref z9, .int (nI z10), .ref z11, .ref z12, .ref z13, .ref z14, .ref z15, .int (nI z16), .ref z17, .int z18, .ref z19]))]) (cx := [(za, .inr (13, [.int 0, .ref z1, .int (nI z2), .int (nI z3), .int z4, .int z5, .ref z6, .ref z7, .ref z8, .ref z9, .int (nI z10), .ref z11, .ref z12, .ref z13, .ref z14, .ref z15, .int (nI z16), .ref z17, .int z18, .ref z19]))]) (wr := []) (w1 := [(za, .inr (13, [.int 0, .ref z1, .int (nI z2), .int (nI z3), .int 10, .int (-1), .ref z6, .ref z7, .ref z8, .ref z9, .int (nI z10), .ref z11, .ref z12, .ref z13, .ref z14, .ref z15, .int (nI z16), .ref z17, .int z18, .ref z19]))]) (pl := va_pl L M) hP hD [0] [] rfl rfl (by decide) (by decide) hk1 hFc hP1 hD1
        have hP : va_P D vwCl ([(za, .inr (13, [.int 0, .ref z1, .int (nI z2), .int (nI z3), .int 10, .int (-1), .ref z6, .ref z7, .ref z8, .ref z9, .int (nI z10), .ref z11, .ref z12, .ref z13, .ref z14, .ref z15, .int (nI z16), .ref z17, .int z18, .ref z19]))] ++ va_pl L M) H_30 := hP
        have hD : va_D A ([(za, .inr (13, [.int 0, .ref z1, .int (nI z2), .int (nI z3), .int 10, .int (-1), .ref z6, .ref z7, .ref z8, .ref z9, .int (nI z10), .ref z11, .ref z12, .ref z13, .ref z14, .ref z15, .int (nI z16), .ref z17, .int z18, .ref z19]))] ++ va_pl L M) := hD
        have hq := Eq.symm hp_33
        subst hq
        rw [hQ]
        exact W.iret (v := (-1)) hx hb hr (fun t ht hW9 => ⟨⟨(-1), M, rfl, ⟨hW, hF, hG, hGI, trivial⟩, ⟨10, (-1), by rw [ht]; exact hP, hD⟩⟩, hS.F ht⟩) hS.2.2 dX13_tear_56
      · rw [ec_28]
        refine lv_iconst (v := (-1)) hx hb dX13_tear_46 (by decide) ?_
        refine lv_icmp_ne (tgt := 57) hx hb dX13_tear_47 (by decide) (fun _ => ?_) (fun c_34 => absurd c_34 (nI_ne_m1 (by omega)))
        refine lv_aload_n hx hb dX13_tear_57 rfl (lv_at hl 0 rfl) ?_
        obtain ⟨v35, hv35, hc35⟩ : ∃ v : Nat, fs14[3]? = some (.ref v : Value) ∧ isk K L v 35 1000 := hl14 3 (by decide)
        refine pg_getN (D := D) (ci := 12) (v := .ref v35) (C := RX12) (T := TX12) (N := 51) hx hb hg inG12 hown hK hP hb_13.1 hM14 rfl 3 (by decide) (hN.use (Cond.fieldLinkNest RX13 157 RX12 "told" "[I" RX13) 12 rfl rfl) (fun _ h9 => h9) hv35 dX13_tear_58 ?_
        refine lv_iload_n hx hb dX13_tear_61 rfl (lv_at hl 3 rfl) ?_
        obtain ⟨f36, hM36, hf36⟩ := hW.open_35 hc35
        have hi_37 : vp_in k2 1000 := (inb k2 1000 (by omega) c_19 c_20)
        refine pg_iald hx hb hK hP hc35.1 0 hM36 rfl hi_37 dX13_tear_62 ?_
        have hp_38 := hf36 _ (vp_lt hi_37)
        obtain ⟨c_39, hc_40, ec_41⟩ := hp_38
        rw [ec_41]
        refine lv_istore (lv' := [(4, .int (nI c_39)), (3, .ref b11), (0, .ref za), (1, .int k1), (2, .int k2)]) hx hb dX13_tear_63 hl (by decide) rfl (fun ls hl => ?_)
        refine lv_aload_n hx hb dX13_tear_65 rfl (lv_at hl 1 rfl) ?_
        refine pg_getN (D := D) (ci := 12) (v := .ref v22) (C := RX12) (T := TX12) (N := 51) hx hb hg inG12 hown hK hP hb_13.1 hM14 rfl 2 (by decide) (hN.use (Cond.fieldLinkNest RX13 83 RX12 "places" "[I" RX13) 11 rfl rfl) (fun _ h9 => h9) hv22 dX13_tear_66 ?_
        refine lv_iload_n hx hb dX13_tear_69 rfl (lv_at hl 4 rfl) ?_
        refine lv_iconst (v := (-1)) hx hb dX13_tear_70 (by decide) ?_
        obtain ⟨j_42, hj_43, rfl⟩ := i32nat 1000 (by decide) c_19 c_20
        refine pg_iast hx hb hK hP hD hS hc22.1 0 hM23 rfl (inbN j_42 1000 (by omega) (by omega)) dX13_tear_71 (fun H_44 locs hP hD hS => ?_)
        obtain ⟨M_45, eM_45⟩ : ∃ M1 : Hp, M1 = va_up M v22 (.inl (cy 14, 1000, .inl (upd f23 ((nI j_42) : Int32).toNatClampNeg (-1)))) := ⟨_, rfl⟩
        have hy2 : (ax M b11 2) = f23 := (congrFun hV.2.2.1 2).symm.trans (ax_of hM14 (by decide) hv22 hM23)
        have hV : VW K L M M_45 b11 (fx M b11) (va_up (ax M b11) 2 (upd (ax M b11 2) ((nI j_42) : Int32).toNatClampNeg (-1))) := by rw [eM_45]; exact hV.ast (j := 2) hW hb_13 hM14 (by decide) hv22 hc22 hM23
        have hP : va_P D vwCl ([(za, .inr (13, [.int 0, .ref z1, .int (nI z2), .int (nI z3), .int z4, .int z5, .ref z6, .ref z7, .ref z8, .ref z9, .int (nI z10), .ref z11, .ref z12, .ref z13, .ref z14, .ref z15, .int (nI z16), .ref z17, .int z18, .ref z19]))] ++ va_pl L M_45) H_44 := by rw [eM_45]; exact hP
        have hD : va_D A ([(za, .inr (13, [.int 0, .ref z1, .int (nI z2), .int (nI z3), .int z4, .int z5, .ref z6, .ref z7, .ref z8, .ref z9, .int (nI z10), .ref z11, .ref z12, .ref z13, .ref z14, .ref z15, .int (nI z16), .ref z17, .int z18, .ref z19]))] ++ va_pl L M_45) := by rw [eM_45]; exact hD
        have hW : WOM cy K L M_45 := by rw [eM_45]; exact hW.up_37 hc22 ⟨_, rfl, (updP (P := fun z => (z = -1 ∨ ∃ c : Nat, c < 7 ∧ z = nI c)) hf23 (Or.inl rfl))⟩
        have hF : fr K L [12, 35, 37] M M_45 := by rw [eM_45]; exact hF.up hc22 (by decide)
        have hG : fG K L [16] M M_45 := by rw [eM_45]; exact hG.arr hc22 (by decide)
        have hM_46 : M_45 v22 = .inl (cy 14, 1000, .inl (upd f23 ((nI j_42) : Int32).toNatClampNeg (-1))) := by rw [eM_45]; exact va_up_self _ _ _
        have hM_47 : M_45 z1 = .inl (cy 23, 8, .inr (.inr (.inr (.inr (f9))))) := by rw [eM_45, va_up_ne _ _ (i1.neT hc22 (by decide))]; exact hM9
        have hM_48 : M_45 b11 = .inr (12, fs14) := by rw [eM_45, va_up_ne _ _ (hb_13.neT hc22 (by decide))]; exact hM14
        have hM_49 : M_45 v35 = .inl (cy 14, 1000, .inl (f36)) := by rw [eM_45, va_up_ne _ _ (hc35.neT hc22 (by decide))]; exact hM36
        have hf_51 : ∀ j, j < 1000 → ((upd f23 ((nI j_42) : Int32).toNatClampNeg (-1)) j = -1 ∨ ∃ c : Nat, c < 7 ∧ (upd f23 ((nI j_42) : Int32).toNatClampNeg (-1)) j = nI c) := (updP (P := fun z => (z = -1 ∨ ∃ c : Nat, c < 7 ∧ z = nI c)) hf23 (Or.inl rfl))
        obtain ⟨f_50, ef_50⟩ : ∃ f : Nat → Int32, f = upd f23 ((nI j_42) : Int32).toNatClampNeg (-1) := ⟨_, rfl⟩
        rw [← ef_50] at hM_46 hf_51
        refine lv_aload_n hx hb dX13_tear_72 rfl (lv_at hl 1 rfl) ?_
        refine pg_getN (D := D) (ci := 12) (v := .ref v35) (C := RX12) (T := TX12) (N := 51) hx hb hg inG12 hown hK hP hb_13.1 hM_48 rfl 3 (by decide) (hN.use (Cond.fieldLinkNest RX13 157 RX12 "told" "[I" RX13) 12 rfl rfl) (fun _ h9 => h9) hv35 dX13_tear_73 ?_
        refine lv_iload_n hx hb dX13_tear_76 rfl (lv_at hl 4 rfl) ?_
        refine lv_iconst (v := 0) hx hb dX13_tear_77 (by decide) ?_
        refine pg_iast hx hb hK hP hD hS hc35.1 0 hM_49 rfl (inbN j_42 1000 (by omega) (by omega)) dX13_tear_78 (fun H_52 locs hP hD hS => ?_)
        obtain ⟨M_53, eM_53⟩ : ∃ M1 : Hp, M1 = va_up M_45 v35 (.inl (cy 14, 1000, .inl (upd f36 ((nI j_42) : Int32).toNatClampNeg 0))) := ⟨_, rfl⟩
        have hy3 : (ax M b11 3) = f36 := (congrFun hV.2.2.1 3).symm.trans (ax_of hM_48 (by decide) hv35 hM_49)
        have hV : VW K L M M_53 b11 (fx M b11) (va_up (va_up (ax M b11) 2 (upd (ax M b11 2) ((nI j_42) : Int32).toNatClampNeg (-1))) 3 (upd (ax M b11 3) ((nI j_42) : Int32).toNatClampNeg 0)) := by rw [eM_53]; exact hV.ast (j := 3) hW hb_13 hM_48 (by decide) hv35 hc35 hM_49
        have hP : va_P D vwCl ([(za, .inr (13, [.int 0, .ref z1, .int (nI z2), .int (nI z3), .int z4, .int z5, .ref z6, .ref z7, .ref z8, .ref z9, .int (nI z10), .ref z11, .ref z12, .ref z13, .ref z14, .ref z15, .int (nI z16), .ref z17, .int z18, .ref z19]))] ++ va_pl L M_53) H_52 := by rw [eM_53]; exact hP
        have hD : va_D A ([(za, .inr (13, [.int 0, .ref z1, .int (nI z2), .int (nI z3), .int z4, .int z5, .ref z6, .ref z7, .ref z8, .ref z9, .int (nI z10), .ref z11, .ref z12, .ref z13, .ref z14, .ref z15, .int (nI z16), .ref z17, .int z18, .ref z19]))] ++ va_pl L M_53) := by rw [eM_53]; exact hD
        have hW : WOM cy K L M_53 := by rw [eM_53]; exact hW.up_35 hc35 ⟨_, rfl, (updP (P := fun z => ∃ c : Nat, c < 7 ∧ z = nI c) hf36 ⟨0, by omega, rfl⟩)⟩
        have hF : fr K L [12, 35, 37] M M_53 := by rw [eM_53]; exact hF.up hc35 (by decide)
        have hG : fG K L [16] M M_53 := by rw [eM_53]; exact hG.arr hc35 (by decide)
        have hM_54 : M_53 v35 = .inl (cy 14, 1000, .inl (upd f36 ((nI j_42) : Int32).toNatClampNeg 0)) := by rw [eM_53]; exact va_up_self _ _ _
        have hM_55 : M_53 v22 = .inl (cy 14, 1000, .inl (f_50)) := by rw [eM_53, va_up_ne _ _ (hc22.neT hc35 (by decide))]; exact hM_46
        have hM_56 : M_53 z1 = .inl (cy 23, 8, .inr (.inr (.inr (.inr (f9))))) := by rw [eM_53, va_up_ne _ _ (i1.neT hc35 (by decide))]; exact hM_47
        have hM_57 : M_53 b11 = .inr (12, fs14) := by rw [eM_53, va_up_ne _ _ (hb_13.neT hc35 (by decide))]; exact hM_48
        have hf_59 : ∀ j, j < 1000 → ∃ c : Nat, c < 7 ∧ (upd f36 ((nI j_42) : Int32).toNatClampNeg 0) j = nI c := (updP (P := fun z => ∃ c : Nat, c < 7 ∧ z = nI c) hf36 ⟨0, by omega, rfl⟩)
        obtain ⟨f_58, ef_58⟩ : ∃ f : Nat → Int32, f = upd f36 ((nI j_42) : Int32).toNatClampNeg 0 := ⟨_, rfl⟩
        rw [← ef_58] at hM_54 hf_59
        refine lv_aload_n hx hb dX13_tear_79 rfl (lv_at hl 1 rfl) ?_
        refine lv_iconst (v := 0) hx hb dX13_tear_80 (by decide) ?_
        refine pg_putN (D := D) (ci := 12) (v := .int 0) (ty := .int) (C := RX12) (T := TX12) (N := 51) hx hb hg inG12 tyX12 tyX12_ok nmX12 hown hK hP hD hS hb_13.1 hM_57 rfl 16 (by decide) (hN.use (Cond.fieldLinkNest RX13 161 RX12 "undone" "I" RX13) 25 rfl rfl) (fun _ h9 => h9) rfl (by decide +kernel) rfl rfl (by rw [hn14]; decide) dX13_tear_81 (fun H_60 locs hP hD hS => ?_)
        have hs_63 : (fs14.set 16 (.int 0))[16]? = some (.int (nI 0)) := List.getElem?_set_self (by rw [hn14]; decide)
        have hk_62 := fld12_set (k := 16) (w := .int 0) hl14 (show fld12 K L 16 (fs14.set 16 (.int 0)) from ⟨0, hs_63, by omega⟩)
        have hn_64 : (fs14.set 16 (.int 0)).length = 51 := by rw [List.length_set]; exact hn14
        have hv_65 : (fs14.set 16 (.int 0))[2]? = some (.ref v22) := by rw [List.getElem?_set_ne (by decide)]; exact hv22
        have hv_66 : (fs14.set 16 (.int 0))[3]? = some (.ref v35) := by rw [List.getElem?_set_ne (by decide)]; exact hv35
        have hb_67 : 0 ≤ 60 := by omega
        obtain ⟨M_68, eM_68⟩ : ∃ M1 : Hp, M1 = va_up M_53 b11 (.inr (12, fs14.set 16 (.int 0))) := ⟨_, rfl⟩
        have hV : VW K L M M_68 b11 (va_up (fx M b11) 16 (0 : Int)) (va_up (va_up (ax M b11) 2 (upd (ax M b11 2) ((nI j_42) : Int32).toNatClampNeg (-1))) 3 (upd (ax M b11 3) ((nI j_42) : Int32).toNatClampNeg 0)) := by rw [eM_68]; exact hV.put hW hb_13 hM_57 hn14 rfl (by decide) rfl (by decide)
        have hP : va_P D vwCl ([(za, .inr (13, [.int 0, .ref z1, .int (nI z2), .int (nI z3), .int z4, .int z5, .ref z6, .ref z7, .ref z8, .ref z9, .int (nI z10), .ref z11, .ref z12, .ref z13, .ref z14, .ref z15, .int (nI z16), .ref z17, .int z18, .ref z19]))] ++ va_pl L M_68) H_60 := by rw [eM_68]; exact hP
        have hD : va_D A ([(za, .inr (13, [.int 0, .ref z1, .int (nI z2), .int (nI z3), .int z4, .int z5, .ref z6, .ref z7, .ref z8, .ref z9, .int (nI z10), .ref z11, .ref z12, .ref z13, .ref z14, .ref z15, .int (nI z16), .ref z17, .int z18, .ref z19]))] ++ va_pl L M_68) := by rw [eM_68]; exact hD
        have hW : WOM cy K L M_68 := by rw [eM_68]; exact hW.up_12 hb_13 ⟨_, rfl, hn_64, hk_62⟩
        have hF : fr K L [12, 35, 37] M M_68 := by rw [eM_68]; exact hF.up hb_13 (by decide)
        have hG : fG K L [16] M M_68 := by rw [eM_68]; exact hG.up hM_57 (by decide)
        have hM_69 : M_68 b11 = .inr (12, fs14.set 16 (.int 0)) := by rw [eM_68]; exact va_up_self _ _ _
        have hM_70 : M_68 v35 = .inl (cy 14, 1000, .inl (f_58)) := by rw [eM_68, va_up_ne _ _ (hc35.neT hb_13 (by decide))]; exact hM_54
        have hM_71 : M_68 v22 = .inl (cy 14, 1000, .inl (f_50)) := by rw [eM_68, va_up_ne _ _ (hc22.neT hb_13 (by decide))]; exact hM_55
        have hM_72 : M_68 z1 = .inl (cy 23, 8, .inr (.inr (.inr (.inr (f9))))) := by rw [eM_68, va_up_ne _ _ (i1.neT hb_13 (by decide))]; exact hM_56
        refine lv_aload_n hx hb dX13_tear_84 rfl (lv_at hl 2 rfl) ?_
        refine lv_iload hx hb dX13_tear_85 (lv_at hl 0 rfl) ?_
        have hPc := hP.sub (ws' := [(za, .inr (13, [.int 0, .ref z1, .int (nI z2), .int (nI z3), .int z4, .int z5, .ref z6, .ref z7, .ref z8, .ref z9, .int (nI z10), .ref z11, .ref z12, .ref z13, .ref z14, .ref z15, .int (nI z16), .ref z17, .int z18, .ref z19]))]) [0] rfl
        have hDc := hD.sub (ws' := [(za, .inr (13, [.int 0, .ref z1, .int (nI z2), .int (nI z3), .int z4, .int z5, .ref z6, .ref z7, .ref z8, .ref z9, .int (nI z10), .ref z11, .ref z12, .ref z13, .ref z14, .ref z15, .int (nI z16), .ref z17, .int z18, .ref z19]))]) [0] (by decide) rfl
        have hKc := hK.sub (tys' := []) [] rfl
        have hFc := va_free (wc := [(za, .inr (13, [.int 0, .ref z1, .int (nI z2), .int (nI z3), .int z4, .int z5, .ref z6, .ref z7, .ref z8, .ref z9, .int (nI z10), .ref z11, .ref z12, .ref z13, .ref z14, .ref z15, .int (nI z16), .ref z17, .int z18, .ref z19]))]) hD hS hA [0] rfl
        refine va_calli (va_runV (As := [.int (nI c_39)]) (rest := []) ⟨hx, hb, hml, hown, hg⟩ (m_done l D H_60.size za 0 z1 (nI z2) (nI z3) z4 z5 z6 z7 z8 z9 (nI z10) z11 z12 z13 z14 z15 (nI z16) z17 z18 z19 (nI c_39)) (cwV 1 hg (gV wd_730 wd_731 wd_732 wd_717 wd_733) rfl rfl rfl (by decide +kernel) ⟨(Nat.le_trans (Nat.le_of_ble_eq_true rfl) hRf), (Nat.le_trans (Nat.le_of_ble_eq_true rfl) hRl)⟩) ⟨Pr.blind, va_recv hK hP (ci := 13) (q0 := 0) rfl rfl, fun U hU hW => ⟨rfl, Pr.at hPc hKc hDc hN hU hW⟩⟩ rfl rfl hl.1 rfl (lv_room (Nat.le_of_ble_eq_true rfl)) dX13_tear_87 ⟨(Nat.le_trans (Nat.le_of_ble_eq_true rfl) hRc), (Nat.le_trans (Nat.le_of_ble_eq_true rfl) hRs)⟩) hS (fun q _ h => hFc q h) hFc (fun r_74 M_75 t H_73 locs ht hvm hw hB hz1 hk1 hS => ?_)
        have hp_76 := hw
        obtain ⟨hP1, hK1, hD1⟩ := hB
        rw [ht] at hP1
        obtain ⟨hP, hD⟩ := va_joinQ (X := [(za, .inr (13, [.int 0, .ref z1, .int (nI z2), .int (nI z3), .int z4, .int z5, .ref z6, .ref z7, .ref z8, .ref z9, .int (nI z10), .ref z11, .ref z12, .ref z13, .ref z14, .ref z15, .int (nI z16), .ref z17, .int z18, .ref z19]))]) (cx := [(za, .inr (13, [.int 0, .ref z1, .int (nI z2), .int (nI z3), .int z4, .int z5, .ref z6, .ref z7, .ref z8, .ref z9, .int (nI z10), .ref z11, .ref z12, .ref z13, .ref z14, .ref z15, .int (nI z16), .ref z17, .int z18, .ref z19]))]) (wr := []) (w1 := [(za, .inr (13, [.int 0, .ref z1, .int (nI z2), .int (nI z3), .int 0, .int (-1), .ref z6, .ref z7, .ref z8, .ref z9, .int (nI z10), .ref z11, .ref z12, .ref z13, .ref z14, .ref z15, .int (nI z16), .ref z17, .int z18, .ref z19]))]) (pl := va_pl L M_68) hP hD [0] [] rfl rfl (by decide) (by decide) hk1 hFc hP1 hD1
        have hP : va_P D vwCl ([(za, .inr (13, [.int 0, .ref z1, .int (nI z2), .int (nI z3), .int 0, .int (-1), .ref z6, .ref z7, .ref z8, .ref z9, .int (nI z10), .ref z11, .ref z12, .ref z13, .ref z14, .ref z15, .int (nI z16), .ref z17, .int z18, .ref z19]))] ++ va_pl L M_68) H_73 := hP
        have hD : va_D A ([(za, .inr (13, [.int 0, .ref z1, .int (nI z2), .int (nI z3), .int 0, .int (-1), .ref z6, .ref z7, .ref z8, .ref z9, .int (nI z10), .ref z11, .ref z12, .ref z13, .ref z14, .ref z15, .int (nI z16), .ref z17, .int z18, .ref z19]))] ++ va_pl L M_68) := hD
        have hq := Eq.symm hp_76
        subst hq
        have hA9 : HA (upd (ax M b11 2) ((nI j_42) : Int32).toNatClampNeg (-1)) (upd (ax M b11 3) ((nI j_42) : Int32).toNatClampNeg 0) := HA.tear hAT.1
        have hB9 : HB (0 : Int) (fx M b11 14) (upd (ax M b11 3) ((nI j_42) : Int32).toNatClampNeg 0) (ax M b11 43) := HB.zero (nn_upd hAT.2.1.nn.1 (by decide)) hAT.2.1.nn.2
        have hC9 : HC (fx M b11 10) (ax M b11 22) (ax M b11 23) := hAT.2.2.1
        have hD9 : HD (fx M b11 0) (fx M b11 11) (fx M b11 15) (ax M b11 34) (ax M b11 41) := hAT.2.2.2.1
        have hE9 : HE (fx M b11 0) (fx M b11 1) (fx M b11 12) (fx M b11 13) (ax M b11 37) := hAT.2.2.2.2
        have hH9 : HI (va_up (fx M b11) 16 (0 : Int)) (va_up (va_up (ax M b11) 2 (upd (ax M b11 2) ((nI j_42) : Int32).toNatClampNeg (-1))) 3 (upd (ax M b11 3) ((nI j_42) : Int32).toNatClampNeg 0)) := ⟨hA9, hB9, hC9, hD9, hE9⟩
        have hGI9 : GI K L z1 z2 M_68 := GI.fin hW0 i1 b2 hGI hact hV (hF.at i1 (by decide)) hH9
        rw [hQ]
        exact W.iret (v := (nI c_39)) hx hb hr (fun t ht hW9 => ⟨⟨(nI c_39), M_68, rfl, ⟨hW, hF, hG, hGI9, trivial⟩, ⟨0, (-1), by rw [ht]; exact hP, hD⟩⟩, hS.F ht⟩) hS.2.2 dX13_tear_90
    · have hz := rfl (a := 0)
      refine lv_if_ne (tgt := 40) hx hb dX13_tear_31 (by decide) (fun c_77 => absurd c_77 (by decide)) (fun _ => ?_)
      refine lv_aload_n hx hb dX13_tear_34 rfl (lv_at hl 1 rfl) ?_
      refine lv_iconst (v := 3) hx hb dX13_tear_35 (by decide) ?_
      have hPc := hP.sub (ws' := [(za, .inr (13, [.int 0, .ref z1, .int (nI z2), .int (nI z3), .int z4, .int z5, .ref z6, .ref z7, .ref z8, .ref z9, .int (nI z10), .ref z11, .ref z12, .ref z13, .ref z14, .ref z15, .int (nI z16), .ref z17, .int z18, .ref z19]))]) [0] rfl
      have hDc := hD.sub (ws' := [(za, .inr (13, [.int 0, .ref z1, .int (nI z2), .int (nI z3), .int z4, .int z5, .ref z6, .ref z7, .ref z8, .ref z9, .int (nI z10), .ref z11, .ref z12, .ref z13, .ref z14, .ref z15, .int (nI z16), .ref z17, .int z18, .ref z19]))]) [0] (by decide) rfl
      have hKc := hK.sub (tys' := []) [] rfl
      have hFc := va_free (wc := [(za, .inr (13, [.int 0, .ref z1, .int (nI z2), .int (nI z3), .int z4, .int z5, .ref z6, .ref z7, .ref z8, .ref z9, .int (nI z10), .ref z11, .ref z12, .ref z13, .ref z14, .ref z15, .int (nI z16), .ref z17, .int z18, .ref z19]))]) hD hS hA [0] rfl
      refine va_calli (va_runV (As := [.int 3]) (rest := []) ⟨hx, hb, hml, hown, hg⟩ (m_refused l D H_15.size za 0 z1 (nI z2) (nI z3) z4 z5 z6 z7 z8 z9 (nI z10) z11 z12 z13 z14 z15 (nI z16) z17 z18 z19 3) (cwV 1 hg (gV wd_725 wd_726 wd_727 wd_717 wd_728) rfl rfl rfl (by decide +kernel) ⟨(Nat.le_trans (Nat.le_of_ble_eq_true rfl) hRf), (Nat.le_trans (Nat.le_of_ble_eq_true rfl) hRl)⟩) ⟨Pr.blind, va_recv hK hP (ci := 13) (q0 := 0) rfl rfl, fun U hU hW => ⟨rfl, Pr.at hPc hKc hDc hN hU hW⟩⟩ rfl rfl hl.1 rfl (lv_room (Nat.le_of_ble_eq_true rfl)) dX13_tear_36 ⟨(Nat.le_trans (Nat.le_of_ble_eq_true rfl) hRc), (Nat.le_trans (Nat.le_of_ble_eq_true rfl) hRs)⟩) hS (fun q _ h => hFc q h) hFc (fun r_79 M_80 t H_78 locs ht hvm hw hB hz1 hk1 hS => ?_)
      have hp_81 := hw
      obtain ⟨hP1, hK1, hD1⟩ := hB
      rw [ht] at hP1
      obtain ⟨hP, hD⟩ := va_joinQ (X := [(za, .inr (13, [.int 0, .ref z1, .int (nI z2), .int (nI z3), .int z4, .int z5, .ref z6, .ref z7, .ref z8, .ref z9, .int (nI z10), .ref z11, .ref z12, .ref z13, .ref z14, .ref z15, .int (nI z16), .ref z17, .int z18, .ref z19]))]) (cx := [(za, .inr (13, [.int 0, .ref z1, .int (nI z2), .int (nI z3), .int z4, .int z5, .ref z6, .ref z7, .ref z8, .ref z9, .int (nI z10), .ref z11, .ref z12, .ref z13, .ref z14, .ref z15, .int (nI z16), .ref z17, .int z18, .ref z19]))]) (wr := []) (w1 := [(za, .inr (13, [.int 0, .ref z1, .int (nI z2), .int (nI z3), .int 3, .int (-1), .ref z6, .ref z7, .ref z8, .ref z9, .int (nI z10), .ref z11, .ref z12, .ref z13, .ref z14, .ref z15, .int (nI z16), .ref z17, .int z18, .ref z19]))]) (pl := va_pl L M) hP hD [0] [] rfl rfl (by decide) (by decide) hk1 hFc hP1 hD1
      have hP : va_P D vwCl ([(za, .inr (13, [.int 0, .ref z1, .int (nI z2), .int (nI z3), .int 3, .int (-1), .ref z6, .ref z7, .ref z8, .ref z9, .int (nI z10), .ref z11, .ref z12, .ref z13, .ref z14, .ref z15, .int (nI z16), .ref z17, .int z18, .ref z19]))] ++ va_pl L M) H_78 := hP
      have hD : va_D A ([(za, .inr (13, [.int 0, .ref z1, .int (nI z2), .int (nI z3), .int 3, .int (-1), .ref z6, .ref z7, .ref z8, .ref z9, .int (nI z10), .ref z11, .ref z12, .ref z13, .ref z14, .ref z15, .int (nI z16), .ref z17, .int z18, .ref z19]))] ++ va_pl L M) := hD
      have hq := Eq.symm hp_81
      subst hq
      rw [hQ]
      exact W.iret (v := (-1)) hx hb hr (fun t ht hW9 => ⟨⟨(-1), M, rfl, ⟨hW, hF, hG, hGI, trivial⟩, ⟨3, (-1), by rw [ht]; exact hP, hD⟩⟩, hS.F ht⟩) hS.2.2 dX13_tear_39
  · have hz := rfl (a := 0)
    refine lv_if_ne (tgt := 19) hx hb dX13_tear_10 (by decide) (fun c_82 => absurd c_82 (by decide)) (fun _ => ?_)
    refine lv_aload_n hx hb dX13_tear_13 rfl (lv_at hl 0 rfl) ?_
    refine lv_iconst (v := 1) hx hb dX13_tear_14 (by decide) ?_
    have hPc := hP.sub (ws' := [(za, .inr (13, [.int 0, .ref z1, .int (nI z2), .int (nI z3), .int z4, .int z5, .ref z6, .ref z7, .ref z8, .ref z9, .int (nI z10), .ref z11, .ref z12, .ref z13, .ref z14, .ref z15, .int (nI z16), .ref z17, .int z18, .ref z19]))]) [0] rfl
    have hDc := hD.sub (ws' := [(za, .inr (13, [.int 0, .ref z1, .int (nI z2), .int (nI z3), .int z4, .int z5, .ref z6, .ref z7, .ref z8, .ref z9, .int (nI z10), .ref z11, .ref z12, .ref z13, .ref z14, .ref z15, .int (nI z16), .ref z17, .int z18, .ref z19]))]) [0] (by decide) rfl
    have hKc := hK.sub (tys' := []) [] rfl
    have hFc := va_free (wc := [(za, .inr (13, [.int 0, .ref z1, .int (nI z2), .int (nI z3), .int z4, .int z5, .ref z6, .ref z7, .ref z8, .ref z9, .int (nI z10), .ref z11, .ref z12, .ref z13, .ref z14, .ref z15, .int (nI z16), .ref z17, .int z18, .ref z19]))]) hD hS hA [0] rfl
    refine va_calli (va_runV (As := [.int 1]) (rest := []) ⟨hx, hb, hml, hown, hg⟩ (m_refused l D H_2.size za 0 z1 (nI z2) (nI z3) z4 z5 z6 z7 z8 z9 (nI z10) z11 z12 z13 z14 z15 (nI z16) z17 z18 z19 1) (cwV 1 hg (gV wd_725 wd_726 wd_727 wd_717 wd_728) rfl rfl rfl (by decide +kernel) ⟨(Nat.le_trans (Nat.le_of_ble_eq_true rfl) hRf), (Nat.le_trans (Nat.le_of_ble_eq_true rfl) hRl)⟩) ⟨Pr.blind, va_recv hK hP (ci := 13) (q0 := 0) rfl rfl, fun U hU hW => ⟨rfl, Pr.at hPc hKc hDc hN hU hW⟩⟩ rfl rfl hl.1 rfl (lv_room (Nat.le_of_ble_eq_true rfl)) dX13_tear_15 ⟨(Nat.le_trans (Nat.le_of_ble_eq_true rfl) hRc), (Nat.le_trans (Nat.le_of_ble_eq_true rfl) hRs)⟩) hS (fun q _ h => hFc q h) hFc (fun r_84 M_85 t H_83 locs ht hvm hw hB hz1 hk1 hS => ?_)
    have hp_86 := hw
    obtain ⟨hP1, hK1, hD1⟩ := hB
    rw [ht] at hP1
    obtain ⟨hP, hD⟩ := va_joinQ (X := [(za, .inr (13, [.int 0, .ref z1, .int (nI z2), .int (nI z3), .int z4, .int z5, .ref z6, .ref z7, .ref z8, .ref z9, .int (nI z10), .ref z11, .ref z12, .ref z13, .ref z14, .ref z15, .int (nI z16), .ref z17, .int z18, .ref z19]))]) (cx := [(za, .inr (13, [.int 0, .ref z1, .int (nI z2), .int (nI z3), .int z4, .int z5, .ref z6, .ref z7, .ref z8, .ref z9, .int (nI z10), .ref z11, .ref z12, .ref z13, .ref z14, .ref z15, .int (nI z16), .ref z17, .int z18, .ref z19]))]) (wr := []) (w1 := [(za, .inr (13, [.int 0, .ref z1, .int (nI z2), .int (nI z3), .int 1, .int (-1), .ref z6, .ref z7, .ref z8, .ref z9, .int (nI z10), .ref z11, .ref z12, .ref z13, .ref z14, .ref z15, .int (nI z16), .ref z17, .int z18, .ref z19]))]) (pl := va_pl L M) hP hD [0] [] rfl rfl (by decide) (by decide) hk1 hFc hP1 hD1
    have hP : va_P D vwCl ([(za, .inr (13, [.int 0, .ref z1, .int (nI z2), .int (nI z3), .int 1, .int (-1), .ref z6, .ref z7, .ref z8, .ref z9, .int (nI z10), .ref z11, .ref z12, .ref z13, .ref z14, .ref z15, .int (nI z16), .ref z17, .int z18, .ref z19]))] ++ va_pl L M) H_83 := hP
    have hD : va_D A ([(za, .inr (13, [.int 0, .ref z1, .int (nI z2), .int (nI z3), .int 1, .int (-1), .ref z6, .ref z7, .ref z8, .ref z9, .int (nI z10), .ref z11, .ref z12, .ref z13, .ref z14, .ref z15, .int (nI z16), .ref z17, .int z18, .ref z19]))] ++ va_pl L M) := hD
    have hq := Eq.symm hp_86
    subst hq
    rw [hQ]
    exact W.iret (v := (-1)) hx hb hr (fun t ht hW9 => ⟨⟨(-1), M, rfl, ⟨hW, hF, hG, hGI, trivial⟩, ⟨1, (-1), by rw [ht]; exact hP, hD⟩⟩, hS.F ht⟩) hS.2.2 dX13_tear_18
set_option maxHeartbeats 4000000 in
set_option maxRecDepth 100000 in
theorem g_X13_enters (l : Launch) (D : va_G) (cy : Nat → ClassId) (K : Kp) (L : List Nat) (M : Hp) (sz : Nat) (za : Nat) (z0 : Int32) (z1 : Nat) (z2 : Nat) (z3 : Nat) (z4 : Int32) (z5 : Int32) (z6 : Nat) (z7 : Nat) (z8 : Nat) (z9 : Nat) (z10 : Nat) (z11 : Nat) (z12 : Nat) (z13 : Nat) (z14 : Nat) (z15 : Nat) (z16 : Nat) (z17 : Nat) (z18 : Int32) (z19 : Nat) (k1 : Int32) (k2 : Int32) (k3 : Int32) (k4 : Int32) (hW : WOM cy K L M) (i1 : isk K L z1 23 8) (b2 : z2 ≤ 8) (b3 : z3 ≤ 40) (i6 : isk K L z6 47 40) (i7 : isk K L z7 48 40) (i8 : isk K L z8 49 8) (i9 : isk K L z9 50 8) (b10 : z10 ≤ 8) (i11 : isk K L z11 32 24) (i12 : isk K L z12 14 24) (i13 : isk K L z13 15 24) (i14 : isk K L z14 15 24) (i15 : isk K L z15 15 24) (b16 : z16 ≤ 24) (i17 : isk K L z17 14 24) (i19 : isk K L z19 15 25) (hGI : GI K L z1 z2 M) : Met l yX13_enters (wsM yX13_enters cX13_enters 7 (some .int)) ({ frames := 1, cells := 0, slots := 0, locals := 22 }) (va_Pc [.ref za, .int k1, .int k2, .int k3, .int k4] (PG D cy [(za, .inr (13, [.int z0, .ref z1, .int (nI z2), .int (nI z3), .int z4, .int z5, .ref z6, .ref z7, .ref z8, .ref z9, .int (nI z10), .ref z11, .ref z12, .ref z13, .ref z14, .ref z15, .int (nI z16), .ref z17, .int z18, .ref z19]))] L M sz)) (va_Qi (fun (r : Int32) (M9 : Hp) => WOM cy K L M9 ∧ fr K L [12, 15, 35, 36, 84] M M9 ∧ fG K L [16] M M9 ∧ (GI K L z1 z2 M9) ∧ (True)) (fun M9 t => ∃ (w4 : Int32) (w5 : Int32), PQ D [(za, .inr (13, [.int 0, .ref z1, .int (nI z2), .int (nI z3), .int w4, .int w5, .ref z6, .ref z7, .ref z8, .ref z9, .int (nI z10), .ref z11, .ref z12, .ref z13, .ref z14, .ref z15, .int (nI z16), .ref z17, .int z18, .ref z19]))] L M9 (va_A ([(za, .inr (13, [.int z0, .ref z1, .int (nI z2), .int (nI z3), .int z4, .int z5, .ref z6, .ref z7, .ref z8, .ref z9, .int (nI z10), .ref z11, .ref z12, .ref z13, .ref z14, .ref z15, .int (nI z16), .ref z17, .int z18, .ref z19]))] ++ va_pl L M) sz) t) (va_A ([(za, .inr (13, [.int z0, .ref z1, .int (nI z2), .int (nI z3), .int z4, .int z5, .ref z6, .ref z7, .ref z8, .ref z9, .int (nI z10), .ref z11, .ref z12, .ref z13, .ref z14, .ref z15, .int (nI z16), .ref z17, .int z18, .ref z19]))] ++ va_pl L M) sz)) 0 0 (va_A ([(za, .inr (13, [.int z0, .ref z1, .int (nI z2), .int (nI z3), .int z4, .int z5, .ref z6, .ref z7, .ref z8, .ref z9, .int (nI z10), .ref z11, .ref z12, .ref z13, .ref z14, .ref z15, .int (nI z16), .ref z17, .int z18, .ref z19]))] ++ va_pl L M) sz) := by
  refine Met.ofW (cc := cX13_enters) (maxL := 7) (ret := (some .int)) (by decide) rfl ?_
  intro p e s m args below meth c s₁ B hml hv
  obtain ⟨rfl, hsz, hP, hK, hD0, hN⟩ := hv
  have hx := B.exec
  have hb := B.bytes
  have hr := B.returns
  have hts := atoms_spec (ws := (wsM yX13_enters cX13_enters 7 (some .int))) B.pre
  have hg : ∀ w ∈ lw_good, w.before _ s = true := fun w h => hts w (List.mem_cons_of_mem _ h)
  have hown : s.vm.findClass RX13 = some m.cls := findClass_of_methodNamed B.named
  have hlocks := B.notSynchronized
  subst hsz
  have hD := hD0.self (sz := s.heap.size)
  generalize hAe : va_A ([(za, .inr (13, [.int z0, .ref z1, .int (nI z2), .int (nI z3), .int z4, .int z5, .ref z6, .ref z7, .ref z8, .ref z9, .int (nI z10), .ref z11, .ref z12, .ref z13, .ref z14, .ref z15, .int (nI z16), .ref z17, .int z18, .ref z19]))] ++ va_pl L M) s.heap.size = A at hD ⊢
  have hA : ∀ q : Nat, s.heap.size ≤ q → A q := fun q h => by rw [← hAe]; exact Or.inr h
  have hS : va_S A s.heap s.heap [] := va_S.rf
  have hl := lv_entry ([.ref za, .int k1, .int k2, .int k3, .int k4]) (n := 7) (Nat.le_of_ble_eq_true rfl)
  rw [lg_entry_eq]
  generalize (lg_sl ([.ref za, .int k1, .int k2, .int k3, .int k4]) ++ List.replicate (7 - (lg_sl ([.ref za, .int k1, .int k2, .int k3, .int k4])).length) Slot.unset).toArray = ls at hl ⊢
  refine W.nameQ (fun Q hQ => ?_)
  refine W.nameR (fun R hR => ?_)
  have hRf : 1 ≤ R.frames := by rw [hR]; exact Nat.le_of_ble_eq_true rfl
  have hRl : 22 ≤ R.locals := by rw [hR]; exact Nat.le_of_ble_eq_true rfl
  have hRc : 0 ≤ R.cells := by rw [hR]; exact Nat.le_of_ble_eq_true rfl
  have hRs : 0 ≤ R.slots := by rw [hR]; exact Nat.le_of_ble_eq_true rfl
  have hF : fr K L [12, 15, 35, 36, 84] M M := fr.rf
  have hG : fG K L [16] M M := fG.rf
  have hl : lv_has ls 7 [(0, .ref za), (1, .int k1), (2, .int k2), (3, .int k3), (4, .int k4)] := hl
  have hW0 := hW
  refine lv_aload_n hx hb dX13_enters_0 rfl (lv_at hl 0 rfl) ?_
  refine lv_iconst (v := 0) hx hb dX13_enters_1 (by decide) ?_
  refine va_put (D := D) (ci := 13) (v := .int 0) (ty := .int) (C := RX13) (T := TX13) (N := 20) hx hb hg inG13 tyX13 tyX13_ok nmX13 hown hK hP hD hS 0 rfl rfl 0 (by decide) (hg _ wd_720) (fun _ h9 => h9) rfl (by decide +kernel) rfl rfl (Nat.le_of_ble_eq_true rfl) dX13_enters_2 (fun H_1 locs hP hD hS => ?_)
  have hP : va_P D vwCl ([(za, .inr (13, [.int 0, .ref z1, .int (nI z2), .int (nI z3), .int z4, .int z5, .ref z6, .ref z7, .ref z8, .ref z9, .int (nI z10), .ref z11, .ref z12, .ref z13, .ref z14, .ref z15, .int (nI z16), .ref z17, .int z18, .ref z19]))] ++ va_pl L M) H_1 := hP
  have hD : va_D A ([(za, .inr (13, [.int 0, .ref z1, .int (nI z2), .int (nI z3), .int z4, .int z5, .ref z6, .ref z7, .ref z8, .ref z9, .int (nI z10), .ref z11, .ref z12, .ref z13, .ref z14, .ref z15, .int (nI z16), .ref z17, .int z18, .ref z19]))] ++ va_pl L M) := hD
  refine lv_aload_n hx hb dX13_enters_5 rfl (lv_at hl 0 rfl) ?_
  refine lv_iload_n hx hb dX13_enters_6 rfl (lv_at hl 1 rfl) ?_
  have hPc : va_P D vwCl ([(za, .inr (13, [.int 0, .ref z1, .int (nI z2), .int (nI z3), .int z4, .int z5, .ref z6, .ref z7, .ref z8, .ref z9, .int (nI z10), .ref z11, .ref z12, .ref z13, .ref z14, .ref z15, .int (nI z16), .ref z17, .int z18, .ref z19]))] ++ va_pl L M) H_1 := hP
  have hDc : va_D A ([(za, .inr (13, [.int 0, .ref z1, .int (nI z2), .int (nI z3), .int z4, .int z5, .ref z6, .ref z7, .ref z8, .ref z9, .int (nI z10), .ref z11, .ref z12, .ref z13, .ref z14, .ref z15, .int (nI z16), .ref z17, .int z18, .ref z19]))] ++ va_pl L M) := hD
  have hFc : ∀ q, va_A ([(za, .inr (13, [.int 0, .ref z1, .int (nI z2), .int (nI z3), .int z4, .int z5, .ref z6, .ref z7, .ref z8, .ref z9, .int (nI z10), .ref z11, .ref z12, .ref z13, .ref z14, .ref z15, .int (nI z16), .ref z17, .int z18, .ref z19]))] ++ va_pl L M) H_1.size q → A q := pg_free hDc hS hA
  refine va_calli (va_runV (As := [.int k1]) (rest := []) ⟨hx, hb, hml, hown, hg⟩ (r_X13_isHouse l D cy K L M H_1.size za 0 z1 z2 z3 z4 z5 z6 z7 z8 z9 z10 z11 z12 z13 z14 z15 z16 z17 z18 z19 k1  hW i1 b2 b3 i6 i7 i8 i9 b10 i11 i12 i13 i14 i15 b16 i17 i19) (cwV 1 hg (gV wd_714 wd_715 wd_716 wd_717 wd_718) rfl rfl rfl (by decide +kernel) ⟨(Nat.le_trans (Nat.le_of_ble_eq_true rfl) hRf), (Nat.le_trans (Nat.le_of_ble_eq_true rfl) hRl)⟩) ⟨PG.blind, va_recv hK hP (ci := 13) (q0 := 0) rfl rfl, fun U hU hW => ⟨rfl, PG.at hPc hK hDc hN hU hW⟩⟩ rfl rfl hl.1 rfl (lv_room (Nat.le_of_ble_eq_true rfl)) dX13_enters_7 ⟨(Nat.le_trans (Nat.le_of_ble_eq_true rfl) hRc), (Nat.le_trans (Nat.le_of_ble_eq_true rfl) hRs)⟩) hS (fun q _ h => hFc q h) hFc (fun r_3 M_4 t H_2 locs ht hvm hw hB hz1 hk1 hS => ?_)
  have hp_5 := hw
  obtain ⟨hP1, hD1⟩ := hB
  rw [ht] at hP1
  have hP : va_P D vwCl ([(za, .inr (13, [.int 0, .ref z1, .int (nI z2), .int (nI z3), .int z4, .int z5, .ref z6, .ref z7, .ref z8, .ref z9, .int (nI z10), .ref z11, .ref z12, .ref z13, .ref z14, .ref z15, .int (nI z16), .ref z17, .int z18, .ref z19]))] ++ va_pl L M) H_2 := hP1
  have hD : va_D A ([(za, .inr (13, [.int 0, .ref z1, .int (nI z2), .int (nI z3), .int z4, .int z5, .ref z6, .ref z7, .ref z8, .ref z9, .int (nI z10), .ref z11, .ref z12, .ref z13, .ref z14, .ref z15, .int (nI z16), .ref z17, .int z18, .ref z19]))] ++ va_pl L M) := hD1.mono hFc
  rcases hp_5 with ⟨rfl, c_6, c_7⟩ | rfl
  · have hz := rfl (a := 0)
    refine lv_if_ne (tgt := 19) hx hb dX13_enters_10 (by decide) (fun _ => ?_) (fun c_8 => absurd c_8 (by decide))
    refine lv_iload_n hx hb dX13_enters_19 rfl (lv_at hl 3 rfl) ?_
    have hPc : va_P D vwCl ([] ++ va_pl L M) H_2 := hP.part (cx := []) [] rfl
    have hDc : va_D A ([] ++ va_pl L M) := hD.part (cx := []) [] (by decide) rfl
    have hFc : ∀ q, va_A ([] ++ va_pl L M) H_2.size q → A q := pg_free hDc hS hA
    refine va_calli (va_runS (As := [.int k3]) (rest := []) ⟨hx, hb, hml, hown, hg⟩ (r_X13_isSum l D cy K L M H_2.size k3  hW ) (va_cwS 1 hg (gS wd_774 wd_775 wd_717 wd_776) rfl rfl rfl (by decide +kernel) ⟨(Nat.le_trans (Nat.le_of_ble_eq_true rfl) hRf), (Nat.le_trans (Nat.le_of_ble_eq_true rfl) hRl)⟩) ⟨PG.blind, fun U hU hW => ⟨rfl, PG.at hPc hK hDc hN hU hW⟩⟩ rfl rfl hl.1 rfl (lv_room (Nat.le_of_ble_eq_true rfl)) dX13_enters_20 ⟨(Nat.le_trans (Nat.le_of_ble_eq_true rfl) hRc), (Nat.le_trans (Nat.le_of_ble_eq_true rfl) hRs)⟩) hS (fun q _ h => hFc q h) hFc (fun r_10 M_11 t H_9 locs ht hvm hw hB hz1 hk1 hS => ?_)
    have hp_12 := hw
    obtain ⟨hP1, hD1⟩ := hB
    rw [ht] at hP1
    obtain ⟨hP, hD⟩ := va_joinP (X := [(za, .inr (13, [.int 0, .ref z1, .int (nI z2), .int (nI z3), .int z4, .int z5, .ref z6, .ref z7, .ref z8, .ref z9, .int (nI z10), .ref z11, .ref z12, .ref z13, .ref z14, .ref z15, .int (nI z16), .ref z17, .int z18, .ref z19]))]) (cx := []) (wr := [(za, .inr (13, [.int 0, .ref z1, .int (nI z2), .int (nI z3), .int z4, .int z5, .ref z6, .ref z7, .ref z8, .ref z9, .int (nI z10), .ref z11, .ref z12, .ref z13, .ref z14, .ref z15, .int (nI z16), .ref z17, .int z18, .ref z19]))]) (rx := []) (pl := va_pl L M) (pl1 := va_pl L M) hP hD [] [0] rfl rfl (by decide) (by decide) hk1 hFc hP1 hD1
    have hP : va_P D vwCl ([(za, .inr (13, [.int 0, .ref z1, .int (nI z2), .int (nI z3), .int z4, .int z5, .ref z6, .ref z7, .ref z8, .ref z9, .int (nI z10), .ref z11, .ref z12, .ref z13, .ref z14, .ref z15, .int (nI z16), .ref z17, .int z18, .ref z19]))] ++ va_pl L M) H_9 := hP
    have hD : va_D A ([(za, .inr (13, [.int 0, .ref z1, .int (nI z2), .int (nI z3), .int z4, .int z5, .ref z6, .ref z7, .ref z8, .ref z9, .int (nI z10), .ref z11, .ref z12, .ref z13, .ref z14, .ref z15, .int (nI z16), .ref z17, .int z18, .ref z19]))] ++ va_pl L M) := hD
    rcases hp_12 with rfl | rfl
    · have hz := rfl (a := 0)
      refine lv_if_ne (tgt := 32) hx hb dX13_enters_23 (by decide) (fun _ => ?_) (fun c_13 => absurd c_13 (by decide))
      refine lv_aload_n hx hb dX13_enters_32 rfl (lv_at hl 0 rfl) ?_
      refine va_get (D := D) (ci := 13) (v := .ref z1) (C := RX13) (T := TX13) (N := 20) hx hb hg inG13 hown hK hP 0 rfl rfl 1 (by decide) (hg _ wd_739) (fun _ h9 => h9) rfl dX13_enters_33 ?_
      refine lv_iload_n hx hb dX13_enters_36 rfl (lv_at hl 1 rfl) ?_
      obtain ⟨f14, hM14, hf14⟩ := hW.open_23 i1
      have hi_15 : vp_in k1 8 := (inbW (a := z2) (by omega) (inb k1 z2 (by omega) c_6 c_7))
      refine pg_aldq hx hb hK hP i1.1 9 hM14 rfl hi_15 dX13_enters_37 ?_
      obtain ⟨b16, eb_17, hb_18⟩ := hf14 _ (vp_lt hi_15)
      rw [eb_17]
      have hact : ACT z1 z2 b16 M := ⟨(k1 : Int32).toNatClampNeg, vp_lt (inb k1 z2 (by omega) c_6 c_7), by rw [show RFc (M z1) = f14 from by rw [hM14]; rfl]; exact eb_17⟩
      have hAT := GI.at hGI hact
      have hV : VW K L M M b16 (fx M b16) (ax M b16) := VW.rf b16 hGI.2.2.2
      refine lv_astore (lv' := [(5, .ref b16), (0, .ref za), (1, .int k1), (2, .int k2), (3, .int k3), (4, .int k4)]) hx hb dX13_enters_38 hl (by decide) rfl (fun ls hl => ?_)
      refine lv_aload hx hb dX13_enters_40 (lv_at hl 0 rfl) ?_
      refine lv_iload_n hx hb dX13_enters_42 rfl (lv_at hl 3 rfl) ?_
      obtain ⟨fs19, hM19, hn19, hl19⟩ := hW.open_12 hb_18
      have hPc : va_P D vwCl ([] ++ va_pl L M) H_9 := hP.part (cx := []) [] rfl
      have hDc : va_D A ([] ++ va_pl L M) := hD.part (cx := []) [] (by decide) rfl
      have hFc : ∀ q, va_A ([] ++ va_pl L M) H_9.size q → A q := pg_free hDc hS hA
      refine va_calli (va_runV (As := [.int k2]) (rest := []) ⟨hx, hb, hml, hown, hg⟩ (r_X12_isFree l D cy K L M H_9.size b16 k2  hW hb_18) (cwV 1 hg (gV wd_807 wd_808 wd_809 wd_737 wd_810) rfl rfl rfl (by decide +kernel) ⟨(Nat.le_trans (Nat.le_of_ble_eq_true rfl) hRf), (Nat.le_trans (Nat.le_of_ble_eq_true rfl) hRl)⟩) ⟨PG.blind, pg_recv hK hP hb_18.1 hM19 rfl, fun U hU hW => ⟨rfl, PG.at hPc hK hDc hN hU hW⟩⟩ rfl rfl hl.1 rfl (lv_room (Nat.le_of_ble_eq_true rfl)) dX13_enters_43 ⟨(Nat.le_trans (Nat.le_of_ble_eq_true rfl) hRc), (Nat.le_trans (Nat.le_of_ble_eq_true rfl) hRs)⟩) hS (fun q _ h => hFc q h) hFc (fun r_21 M_22 t H_20 locs ht hvm hw hB hz1 hk1 hS => ?_)
      have hp_23 := hw
      obtain ⟨hP1, hD1⟩ := hB
      rw [ht] at hP1
      obtain ⟨hP, hD⟩ := va_joinP (X := [(za, .inr (13, [.int 0, .ref z1, .int (nI z2), .int (nI z3), .int z4, .int z5, .ref z6, .ref z7, .ref z8, .ref z9, .int (nI z10), .ref z11, .ref z12, .ref z13, .ref z14, .ref z15, .int (nI z16), .ref z17, .int z18, .ref z19]))]) (cx := []) (wr := [(za, .inr (13, [.int 0, .ref z1, .int (nI z2), .int (nI z3), .int z4, .int z5, .ref z6, .ref z7, .ref z8, .ref z9, .int (nI z10), .ref z11, .ref z12, .ref z13, .ref z14, .ref z15, .int (nI z16), .ref z17, .int z18, .ref z19]))]) (rx := []) (pl := va_pl L M) (pl1 := va_pl L M) hP hD [] [0] rfl rfl (by decide) (by decide) hk1 hFc hP1 hD1
      have hP : va_P D vwCl ([(za, .inr (13, [.int 0, .ref z1, .int (nI z2), .int (nI z3), .int z4, .int z5, .ref z6, .ref z7, .ref z8, .ref z9, .int (nI z10), .ref z11, .ref z12, .ref z13, .ref z14, .ref z15, .int (nI z16), .ref z17, .int z18, .ref z19]))] ++ va_pl L M) H_20 := hP
      have hD : va_D A ([(za, .inr (13, [.int 0, .ref z1, .int (nI z2), .int (nI z3), .int z4, .int z5, .ref z6, .ref z7, .ref z8, .ref z9, .int (nI z10), .ref z11, .ref z12, .ref z13, .ref z14, .ref z15, .int (nI z16), .ref z17, .int z18, .ref z19]))] ++ va_pl L M) := hD
      rcases hp_23 with ⟨rfl, c_24, c_25⟩ | rfl
      · have hz := rfl (a := 0)
        refine lv_if_ne (tgt := 55) hx hb dX13_enters_46 (by decide) (fun _ => ?_) (fun c_26 => absurd c_26 (by decide))
        obtain ⟨j_27, hj_28, rfl⟩ := i32nat 1000 (by decide) c_24 c_25
        refine lv_aload hx hb dX13_enters_55 (lv_at hl 0 rfl) ?_
        obtain ⟨v29, hv29, hc29⟩ : ∃ v : Nat, fs19[2]? = some (.ref v : Value) ∧ isk K L v 37 1000 := hl19 2 (by decide)
        refine pg_getN (D := D) (ci := 12) (v := .ref v29) (C := RX12) (T := TX12) (N := 51) hx hb hg inG12 hown hK hP hb_18.1 hM19 rfl 2 (by decide) (hN.use (Cond.fieldLinkNest RX13 83 RX12 "places" "[I" RX13) 11 rfl rfl) (fun _ h9 => h9) hv29 dX13_enters_57 ?_
        refine lv_iload_n hx hb dX13_enters_60 rfl (lv_at hl 3 rfl) ?_
        obtain ⟨f30, hM30, hf30⟩ := hW.open_37 hc29
        have hi_31 : vp_in (nI j_27) 1000 := (inbN j_27 1000 (by omega) (by omega))
        refine pg_iald hx hb hK hP hc29.1 0 hM30 rfl hi_31 dX13_enters_61 ?_
        have hp_32 := hf30 _ (vp_lt hi_31)
        rcases hp_32 with ec_35 | ⟨c_33, hc_34, ec_35⟩
        · rw [ec_35]
          refine lv_iconst (v := (-1)) hx hb dX13_enters_62 (by decide) ?_
          refine lv_icmp_eq (tgt := 83) hx hb dX13_enters_63 (by decide) (fun _ => ?_) (fun c_36 => absurd c_36 (by decide))
          refine lv_aload_n hx hb dX13_enters_83 rfl (lv_at hl 1 rfl) ?_
          refine lv_bipush (v := 10) hx hb dX13_enters_84 (by decide) ?_
          have hPc := hP.sub (ws' := [(za, .inr (13, [.int 0, .ref z1, .int (nI z2), .int (nI z3), .int z4, .int z5, .ref z6, .ref z7, .ref z8, .ref z9, .int (nI z10), .ref z11, .ref z12, .ref z13, .ref z14, .ref z15, .int (nI z16), .ref z17, .int z18, .ref z19]))]) [0] rfl
          have hDc := hD.sub (ws' := [(za, .inr (13, [.int 0, .ref z1, .int (nI z2), .int (nI z3), .int z4, .int z5, .ref z6, .ref z7, .ref z8, .ref z9, .int (nI z10), .ref z11, .ref z12, .ref z13, .ref z14, .ref z15, .int (nI z16), .ref z17, .int z18, .ref z19]))]) [0] (by decide) rfl
          have hKc := hK.sub (tys' := []) [] rfl
          have hFc := va_free (wc := [(za, .inr (13, [.int 0, .ref z1, .int (nI z2), .int (nI z3), .int z4, .int z5, .ref z6, .ref z7, .ref z8, .ref z9, .int (nI z10), .ref z11, .ref z12, .ref z13, .ref z14, .ref z15, .int (nI z16), .ref z17, .int z18, .ref z19]))]) hD hS hA [0] rfl
          refine va_calli (va_runV (As := [.int 10]) (rest := []) ⟨hx, hb, hml, hown, hg⟩ (m_refused l D H_20.size za 0 z1 (nI z2) (nI z3) z4 z5 z6 z7 z8 z9 (nI z10) z11 z12 z13 z14 z15 (nI z16) z17 z18 z19 10) (cwV 1 hg (gV wd_725 wd_726 wd_727 wd_717 wd_728) rfl rfl rfl (by decide +kernel) ⟨(Nat.le_trans (Nat.le_of_ble_eq_true rfl) hRf), (Nat.le_trans (Nat.le_of_ble_eq_true rfl) hRl)⟩) ⟨Pr.blind, va_recv hK hP (ci := 13) (q0 := 0) rfl rfl, fun U hU hW => ⟨rfl, Pr.at hPc hKc hDc hN hU hW⟩⟩ rfl rfl hl.1 rfl (lv_room (Nat.le_of_ble_eq_true rfl)) dX13_enters_86 ⟨(Nat.le_trans (Nat.le_of_ble_eq_true rfl) hRc), (Nat.le_trans (Nat.le_of_ble_eq_true rfl) hRs)⟩) hS (fun q _ h => hFc q h) hFc (fun r_38 M_39 t H_37 locs ht hvm hw hB hz1 hk1 hS => ?_)
          have hp_40 := hw
          obtain ⟨hP1, hK1, hD1⟩ := hB
          rw [ht] at hP1
          obtain ⟨hP, hD⟩ := va_joinQ (X := [(za, .inr (13, [.int 0, .ref z1, .int (nI z2), .int (nI z3), .int z4, .int z5, .ref z6, .ref z7, .ref z8, .ref z9, .int (nI z10), .ref z11, .ref z12, .ref z13, .ref z14, .ref z15, .int (nI z16), .ref z17, .int z18, .ref z19]))]) (cx := [(za, .inr (13, [.int 0, .ref z1, .int (nI z2), .int (nI z3), .int z4, .int z5, .ref z6, .ref z7, .ref z8, .ref z9, .int (nI z10), .ref z11, .ref z12, .ref z13, .ref z14, .ref z15, .int (nI z16), .ref z17, .int z18, .ref z19]))]) (wr := []) (w1 := [(za, .inr (13, [.int 0, .ref z1, .int (nI z2), .int (nI z3), .int 10, .int (-1), .ref z6, .ref z7, .ref z8, .ref z9, .int (nI z10), .ref z11, .ref z12, .ref z13, .ref z14, .ref z15, .int (nI z16), .ref z17, .int z18, .ref z19]))]) (pl := va_pl L M) hP hD [0] [] rfl rfl (by decide) (by decide) hk1 hFc hP1 hD1
          have hP : va_P D vwCl ([(za, .inr (13, [.int 0, .ref z1, .int (nI z2), .int (nI z3), .int 10, .int (-1), .ref z6, .ref z7, .ref z8, .ref z9, .int (nI z10), .ref z11, .ref z12, .ref z13, .ref z14, .ref z15, .int (nI z16), .ref z17, .int z18, .ref z19]))] ++ va_pl L M) H_37 := hP
          have hD : va_D A ([(za, .inr (13, [.int 0, .ref z1, .int (nI z2), .int (nI z3), .int 10, .int (-1), .ref z6, .ref z7, .ref z8, .ref z9, .int (nI z10), .ref z11, .ref z12, .ref z13, .ref z14, .ref z15, .int (nI z16), .ref z17, .int z18, .ref z19]))] ++ va_pl L M) := hD
          have hq := Eq.symm hp_40
          subst hq
          rw [hQ]
          exact W.iret (v := (-1)) hx hb hr (fun t ht hW9 => ⟨⟨(-1), M, rfl, ⟨hW, hF, hG, hGI, trivial⟩, ⟨10, (-1), by rw [ht]; exact hP, hD⟩⟩, hS.F ht⟩) hS.2.2 dX13_enters_89
        · rw [ec_35]
          refine lv_iconst (v := (-1)) hx hb dX13_enters_62 (by decide) ?_
          refine lv_icmp_eq (tgt := 83) hx hb dX13_enters_63 (by decide) (fun c_41 => absurd c_41 (nI_ne_m1 (by omega))) (fun _ => ?_)
          refine lv_aload hx hb dX13_enters_66 (lv_at hl 0 rfl) ?_
          obtain ⟨v42, hv42, hc42⟩ : ∃ v : Nat, fs19[3]? = some (.ref v : Value) ∧ isk K L v 35 1000 := hl19 3 (by decide)
          refine pg_getN (D := D) (ci := 12) (v := .ref v42) (C := RX12) (T := TX12) (N := 51) hx hb hg inG12 hown hK hP hb_18.1 hM19 rfl 3 (by decide) (hN.use (Cond.fieldLinkNest RX13 157 RX12 "told" "[I" RX13) 12 rfl rfl) (fun _ h9 => h9) hv42 dX13_enters_68 ?_
          refine lv_iload_n hx hb dX13_enters_71 rfl (lv_at hl 3 rfl) ?_
          obtain ⟨f43, hM43, hf43⟩ := hW.open_35 hc42
          have hi_44 : vp_in (nI j_27) 1000 := (inbN j_27 1000 (by omega) (by omega))
          refine pg_iald hx hb hK hP hc42.1 0 hM43 rfl hi_44 dX13_enters_72 ?_
          have hp_45 := hf43 _ (vp_lt hi_44)
          obtain ⟨c_46, hc_47, ec_48⟩ := hp_45
          rw [ec_48]
          refine lv_aload hx hb dX13_enters_73 (lv_at hl 0 rfl) ?_
          refine pg_getN (D := D) (ci := 12) (v := .ref v29) (C := RX12) (T := TX12) (N := 51) hx hb hg inG12 hown hK hP hb_18.1 hM19 rfl 2 (by decide) (hN.use (Cond.fieldLinkNest RX13 83 RX12 "places" "[I" RX13) 11 rfl rfl) (fun _ h9 => h9) hv29 dX13_enters_75 ?_
          refine lv_iload_n hx hb dX13_enters_78 rfl (lv_at hl 3 rfl) ?_
          refine pg_iald hx hb hK hP hc29.1 0 hM30 rfl (inbN j_27 1000 (by omega) (by omega)) dX13_enters_79 ?_
          rw [ec_35]
          refine lv_icmp_ne (tgt := 90) hx hb dX13_enters_80 (by decide) (fun c_49 => ?_) (fun c_49 => ?_)
          · have hz := rfl (a := 0)
            have n_50 : ¬ (c_46 = c_33) := fun q => c_49 ((iEQ (a := c_46) (b := c_33) (by omega) (by omega)).mpr q)
            have hy2 : (ax M b16 2) = f30 := (congrFun hV.2.2.1 2).symm.trans (ax_of hM19 (by decide) hv29 hM30)
            have hy3 : (ax M b16 3) = f43 := (congrFun hV.2.2.1 3).symm.trans (ax_of hM19 (by decide) hv42 hM43)
            have hlt : c_46 ≤ c_33 := haLt hAT.1 hy2 hy3 (by rw [nI_cl (by omega)]; omega) ec_35 ec_48 (by omega) (by omega)
            refine lv_iload hx hb dX13_enters_90 (lv_at hl 5 rfl) ?_
            refine lv_iload_n hx hb dX13_enters_92 rfl (lv_at hl 4 rfl) ?_
            refine lv_imul hx hb dX13_enters_93 ?_
            refine lv_topi (fun f_51 ef_51 => ?_)
            refine lv_istore (lv' := [(6, .int f_51), (5, .ref b16), (0, .ref za), (1, .int k1), (2, .int (nI j_27)), (3, .int k3), (4, .int k4)]) hx hb dX13_enters_94 hl (by decide) rfl (fun ls hl => ?_)
            refine lv_aload hx hb dX13_enters_96 (lv_at hl 1 rfl) ?_
            obtain ⟨v52, hv52, hc52⟩ : ∃ v : Nat, fs19[4]? = some (.ref v : Value) ∧ isk K L v 74 1000 := hl19 4 (by decide)
            refine pg_getN (D := D) (ci := 12) (v := .ref v52) (C := RX12) (T := TX12) (N := 51) hx hb hg inG12 hown hK hP hb_18.1 hM19 rfl 4 (by decide) (hN.use (Cond.fieldLinkNest RX13 158 RX12 "sort" "[I" RX13) 13 rfl rfl) (fun _ h9 => h9) hv52 dX13_enters_98 ?_
            refine lv_iload_n hx hb dX13_enters_101 rfl (lv_at hl 4 rfl) ?_
            obtain ⟨f53, hM53⟩ := hW.open_74 hc52
            refine pg_iald hx hb hK hP hc52.1 0 hM53 rfl (inbN j_27 1000 (by omega) (by omega)) dX13_enters_102 ?_
            refine lv_topi (fun f_54 ef_54 => ?_)
            refine lv_if_ne (tgt := 128) hx hb dX13_enters_103 (by decide) (fun c_55 => ?_) (fun c_55 => ?_)
            · have hz := rfl (a := 0)
              refine lv_aload hx hb dX13_enters_128 (lv_at hl 1 rfl) ?_
              obtain ⟨v56, hv56, hc56⟩ : ∃ v : Nat, fs19[5]? = some (.ref v : Value) ∧ isk K L v 84 6000 := hl19 5 (by decide)
              refine pg_getN (D := D) (ci := 12) (v := .ref v56) (C := RX12) (T := TX12) (N := 51) hx hb hg inG12 hown hK hP hb_18.1 hM19 rfl 5 (by decide) (hN.use (Cond.fieldLinkNest RX13 167 RX12 "entry" "[J" RX13) 14 rfl rfl) (fun _ h9 => h9) hv56 dX13_enters_130 ?_
              refine lv_bipush (v := 6) hx hb dX13_enters_133 (by decide) ?_
              refine lv_iload_n hx hb dX13_enters_135 rfl (lv_at hl 4 rfl) ?_
              refine lv_imul hx hb dX13_enters_136 ?_
              refine lv_topi (fun f_57 ef_57 => ?_)
              obtain rfl : f_57 = (nI (6 * j_27)) := ef_57.trans (nI_mul 6 j_27)
              refine lv_aload hx hb dX13_enters_137 (lv_at hl 1 rfl) ?_
              refine pg_getN (D := D) (ci := 12) (v := .ref v42) (C := RX12) (T := TX12) (N := 51) hx hb hg inG12 hown hK hP hb_18.1 hM19 rfl 3 (by decide) (hN.use (Cond.fieldLinkNest RX13 157 RX12 "told" "[I" RX13) 12 rfl rfl) (fun _ h9 => h9) hv42 dX13_enters_139 ?_
              refine lv_iload_n hx hb dX13_enters_142 rfl (lv_at hl 4 rfl) ?_
              refine pg_iald hx hb hK hP hc42.1 0 hM43 rfl (inbN j_27 1000 (by omega) (by omega)) dX13_enters_143 ?_
              rw [ec_48]
              refine lv_iadd hx hb dX13_enters_144 ?_
              refine lv_topi (fun f_58 ef_58 => ?_)
              obtain rfl : f_58 = (nI ((6 * j_27) + c_46)) := ef_58.trans (nI_add (6 * j_27) c_46)
              refine lv_iload hx hb dX13_enters_145 (lv_at hl 0 rfl) ?_
              refine lv_i2l hx hb dX13_enters_147 rfl ?_
              refine lv_topl (fun f_59 ef_59 => ?_)
              obtain ⟨f60, hM60⟩ := hW.open_84 hc56
              refine pg_last hx hb hK hP hD hS hc56.1 1 hM60 rfl (inbN ((6 * j_27) + c_46) 6000 (by omega) (by omega)) dX13_enters_148 (fun H_61 locs hP hD hS => ?_)
              obtain ⟨M_62, eM_62⟩ : ∃ M1 : Hp, M1 = va_up M v56 (.inl (cy 15, 6000, .inr (.inl (vp_updL f60 ((nI ((6 * j_27) + c_46)) : Int32).toNatClampNeg f_59)))) := ⟨_, rfl⟩
              have hV : VW K L M M_62 b16 (fx M b16) (ax M b16) := by rw [eM_62]; exact hV.oth hW hb_18 hc56 (by decide)
              have hP : va_P D vwCl ([(za, .inr (13, [.int 0, .ref z1, .int (nI z2), .int (nI z3), .int z4, .int z5, .ref z6, .ref z7, .ref z8, .ref z9, .int (nI z10), .ref z11, .ref z12, .ref z13, .ref z14, .ref z15, .int (nI z16), .ref z17, .int z18, .ref z19]))] ++ va_pl L M_62) H_61 := by rw [eM_62]; exact hP
              have hD : va_D A ([(za, .inr (13, [.int 0, .ref z1, .int (nI z2), .int (nI z3), .int z4, .int z5, .ref z6, .ref z7, .ref z8, .ref z9, .int (nI z10), .ref z11, .ref z12, .ref z13, .ref z14, .ref z15, .int (nI z16), .ref z17, .int z18, .ref z19]))] ++ va_pl L M_62) := by rw [eM_62]; exact hD
              have hW : WOM cy K L M_62 := by rw [eM_62]; exact hW.up_84 hc56 ⟨_, rfl⟩
              have hF : fr K L [12, 15, 35, 36, 84] M M_62 := by rw [eM_62]; exact hF.up hc56 (by decide)
              have hG : fG K L [16] M M_62 := by rw [eM_62]; exact hG.arr hc56 (by decide)
              have hM_63 : M_62 v56 = .inl (cy 15, 6000, .inr (.inl (vp_updL f60 ((nI ((6 * j_27) + c_46)) : Int32).toNatClampNeg f_59))) := by rw [eM_62]; exact va_up_self _ _ _
              have hM_64 : M_62 z1 = .inl (cy 23, 8, .inr (.inr (.inr (.inr (f14))))) := by rw [eM_62, va_up_ne _ _ (i1.neT hc56 (by decide))]; exact hM14
              have hM_65 : M_62 b16 = .inr (12, fs19) := by rw [eM_62, va_up_ne _ _ (hb_18.neT hc56 (by decide))]; exact hM19
              have hM_66 : M_62 v29 = .inl (cy 14, 1000, .inl (f30)) := by rw [eM_62, va_up_ne _ _ (hc29.neT hc56 (by decide))]; exact hM30
              have hM_67 : M_62 v42 = .inl (cy 14, 1000, .inl (f43)) := by rw [eM_62, va_up_ne _ _ (hc42.neT hc56 (by decide))]; exact hM43
              have hM_68 : M_62 v52 = .inl (cy 14, 1000, .inl (f53)) := by rw [eM_62, va_up_ne _ _ (hc52.neT hc56 (by decide))]; exact hM53
              obtain ⟨f_69, ef_69⟩ : ∃ f : Nat → Int64, f = vp_updL f60 ((nI ((6 * j_27) + c_46)) : Int32).toNatClampNeg f_59 := ⟨_, rfl⟩
              rw [← ef_69] at hM_63
              refine lv_aload hx hb dX13_enters_149 (lv_at hl 1 rfl) ?_
              refine pg_getN (D := D) (ci := 12) (v := .ref v42) (C := RX12) (T := TX12) (N := 51) hx hb hg inG12 hown hK hP hb_18.1 hM_65 rfl 3 (by decide) (hN.use (Cond.fieldLinkNest RX13 157 RX12 "told" "[I" RX13) 12 rfl rfl) (fun _ h9 => h9) hv42 dX13_enters_151 ?_
              refine lv_iload_n hx hb dX13_enters_154 rfl (lv_at hl 4 rfl) ?_
              refine lv_dup2_11 hx hb dX13_enters_155 rfl rfl ?_
              refine pg_iald hx hb hK hP hc42.1 0 hM_67 rfl (inbN j_27 1000 (by omega) (by omega)) dX13_enters_156 ?_
              rw [ec_48]
              refine lv_iconst (v := 1) hx hb dX13_enters_157 (by decide) ?_
              refine lv_iadd hx hb dX13_enters_158 ?_
              refine lv_topi (fun f_70 ef_70 => ?_)
              obtain rfl : f_70 = (nI (c_46 + 1)) := ef_70.trans (nI_add c_46 1)
              refine pg_iast hx hb hK hP hD hS hc42.1 0 hM_67 rfl (inbN j_27 1000 (by omega) (by omega)) dX13_enters_159 (fun H_71 locs hP hD hS => ?_)
              obtain ⟨M_72, eM_72⟩ : ∃ M1 : Hp, M1 = va_up M_62 v42 (.inl (cy 14, 1000, .inl (upd f43 ((nI j_27) : Int32).toNatClampNeg (nI (c_46 + 1))))) := ⟨_, rfl⟩
              have hy3 : (ax M b16 3) = f43 := (congrFun hV.2.2.1 3).symm.trans (ax_of hM_65 (by decide) hv42 hM_67)
              have hV : VW K L M M_72 b16 (fx M b16) (va_up (ax M b16) 3 (upd (ax M b16 3) ((nI j_27) : Int32).toNatClampNeg (nI (c_46 + 1)))) := by rw [eM_72]; exact hV.ast (j := 3) hW hb_18 hM_65 (by decide) hv42 hc42 hM_67
              have hP : va_P D vwCl ([(za, .inr (13, [.int 0, .ref z1, .int (nI z2), .int (nI z3), .int z4, .int z5, .ref z6, .ref z7, .ref z8, .ref z9, .int (nI z10), .ref z11, .ref z12, .ref z13, .ref z14, .ref z15, .int (nI z16), .ref z17, .int z18, .ref z19]))] ++ va_pl L M_72) H_71 := by rw [eM_72]; exact hP
              have hD : va_D A ([(za, .inr (13, [.int 0, .ref z1, .int (nI z2), .int (nI z3), .int z4, .int z5, .ref z6, .ref z7, .ref z8, .ref z9, .int (nI z10), .ref z11, .ref z12, .ref z13, .ref z14, .ref z15, .int (nI z16), .ref z17, .int z18, .ref z19]))] ++ va_pl L M_72) := by rw [eM_72]; exact hD
              have hW : WOM cy K L M_72 := by rw [eM_72]; exact hW.up_35 hc42 ⟨_, rfl, (updP (P := fun z => ∃ c : Nat, c < 7 ∧ z = nI c) hf43 ⟨(c_46 + 1), by omega, rfl⟩)⟩
              have hF : fr K L [12, 15, 35, 36, 84] M M_72 := by rw [eM_72]; exact hF.up hc42 (by decide)
              have hG : fG K L [16] M M_72 := by rw [eM_72]; exact hG.arr hc42 (by decide)
              have hM_73 : M_72 v42 = .inl (cy 14, 1000, .inl (upd f43 ((nI j_27) : Int32).toNatClampNeg (nI (c_46 + 1)))) := by rw [eM_72]; exact va_up_self _ _ _
              have hM_74 : M_72 v56 = .inl (cy 15, 6000, .inr (.inl (f_69))) := by rw [eM_72, va_up_ne _ _ (hc56.neT hc42 (by decide))]; exact hM_63
              have hM_75 : M_72 z1 = .inl (cy 23, 8, .inr (.inr (.inr (.inr (f14))))) := by rw [eM_72, va_up_ne _ _ (i1.neT hc42 (by decide))]; exact hM_64
              have hM_76 : M_72 b16 = .inr (12, fs19) := by rw [eM_72, va_up_ne _ _ (hb_18.neT hc42 (by decide))]; exact hM_65
              have hM_77 : M_72 v29 = .inl (cy 14, 1000, .inl (f30)) := by rw [eM_72, va_up_ne _ _ (hc29.neT hc42 (by decide))]; exact hM_66
              have hM_78 : M_72 v52 = .inl (cy 14, 1000, .inl (f53)) := by rw [eM_72, va_up_ne _ _ (hc52.neT hc42 (by decide))]; exact hM_68
              have hf_80 : ∀ j, j < 1000 → ∃ c : Nat, c < 7 ∧ (upd f43 ((nI j_27) : Int32).toNatClampNeg (nI (c_46 + 1))) j = nI c := (updP (P := fun z => ∃ c : Nat, c < 7 ∧ z = nI c) hf43 ⟨(c_46 + 1), by omega, rfl⟩)
              obtain ⟨f_79, ef_79⟩ : ∃ f : Nat → Int32, f = upd f43 ((nI j_27) : Int32).toNatClampNeg (nI (c_46 + 1)) := ⟨_, rfl⟩
              rw [← ef_79] at hM_73 hf_80
              refine lv_aload hx hb dX13_enters_160 (lv_at hl 1 rfl) ?_
              refine lv_iload_n hx hb dX13_enters_162 rfl (lv_at hl 4 rfl) ?_
              have hPc : va_P D vwCl ([] ++ va_pl L M_72) H_71 := hP.part (cx := []) [] rfl
              have hDc : va_D A ([] ++ va_pl L M_72) := hD.part (cx := []) [] (by decide) rfl
              have hFc : ∀ q, va_A ([] ++ va_pl L M_72) H_71.size q → A q := pg_free hDc hS hA
              refine va_callv (va_runV (As := [.int (nI j_27)]) (rest := []) ⟨hx, hb, hml, hown, hg⟩ (r_remN l D cy K L M_72 H_71.size b16 j_27  hW hb_18 (by omega) hV.2.2.2) (cwV 1 hg (gV wd_827 wd_828 wd_829 wd_737 wd_830) rfl rfl rfl (by decide +kernel) ⟨(Nat.le_trans (Nat.le_of_ble_eq_true rfl) hRf), (Nat.le_trans (Nat.le_of_ble_eq_true rfl) hRl)⟩) ⟨PG.blind, pg_recv hK hP hb_18.1 hM_76 rfl, fun U hU hW => ⟨rfl, PG.at hPc hK hDc hN hU hW⟩⟩ rfl rfl hl.1 rfl (lv_room (Nat.le_of_ble_eq_true rfl)) dX13_enters_163 ⟨(Nat.le_trans (Nat.le_of_ble_eq_true rfl) hRc), (Nat.le_trans (Nat.le_of_ble_eq_true rfl) hRs)⟩) hS (fun q _ h => hFc q h) hFc (fun M_83 t H_81 locs ht hvm hw hB hz1 hk1 hS => ?_)
              have hWb := hW
              obtain ⟨hW, hF2, hG2, hVP, hp_84⟩ := hw
              obtain ⟨hP1, hD1⟩ := hB
              rw [ht] at hP1
              obtain ⟨hP, hD⟩ := va_joinP (X := [(za, .inr (13, [.int 0, .ref z1, .int (nI z2), .int (nI z3), .int z4, .int z5, .ref z6, .ref z7, .ref z8, .ref z9, .int (nI z10), .ref z11, .ref z12, .ref z13, .ref z14, .ref z15, .int (nI z16), .ref z17, .int z18, .ref z19]))]) (cx := []) (wr := [(za, .inr (13, [.int 0, .ref z1, .int (nI z2), .int (nI z3), .int z4, .int z5, .ref z6, .ref z7, .ref z8, .ref z9, .int (nI z10), .ref z11, .ref z12, .ref z13, .ref z14, .ref z15, .int (nI z16), .ref z17, .int z18, .ref z19]))]) (rx := []) (pl := va_pl L M_72) (pl1 := va_pl L M_83) hP hD [] [0] rfl rfl (by decide) (by decide) hk1 hFc hP1 hD1
              have hP : va_P D vwCl ([(za, .inr (13, [.int 0, .ref z1, .int (nI z2), .int (nI z3), .int z4, .int z5, .ref z6, .ref z7, .ref z8, .ref z9, .int (nI z10), .ref z11, .ref z12, .ref z13, .ref z14, .ref z15, .int (nI z16), .ref z17, .int z18, .ref z19]))] ++ va_pl L M_83) H_81 := hP
              have hD : va_D A ([(za, .inr (13, [.int 0, .ref z1, .int (nI z2), .int (nI z3), .int z4, .int z5, .ref z6, .ref z7, .ref z8, .ref z9, .int (nI z10), .ref z11, .ref z12, .ref z13, .ref z14, .ref z15, .int (nI z16), .ref z17, .int z18, .ref z19]))] ++ va_pl L M_83) := hD
              have hM_85 : M_83 v42 = .inl (cy 14, 1000, .inl (f_79)) := (hF2.at hc42 (by decide)).trans hM_73
              have hM_86 : M_83 v56 = .inl (cy 15, 6000, .inr (.inl (f_69))) := (hF2.at hc56 (by decide)).trans hM_74
              have hM_87 : M_83 z1 = .inl (cy 23, 8, .inr (.inr (.inr (.inr (f14))))) := (hF2.at i1 (by decide)).trans hM_75
              obtain ⟨fs88, hM88, hn88, hl88⟩ := hW.open_12 hb_18
              have hv_89 : fs88[2]? = some (.ref v29 : Value) := (hG2 _ hb_18 _ _ hM_76 hM88 2 (by decide)).trans hv29
              have hv_90 : fs88[3]? = some (.ref v42 : Value) := (hG2 _ hb_18 _ _ hM_76 hM88 3 (by decide)).trans hv42
              have hv_91 : fs88[4]? = some (.ref v52 : Value) := (hG2 _ hb_18 _ _ hM_76 hM88 4 (by decide)).trans hv52
              have hv_92 : fs88[5]? = some (.ref v56 : Value) := (hG2 _ hb_18 _ _ hM_76 hM88 5 (by decide)).trans hv56
              have hM_93 : M_83 v29 = .inl (cy 14, 1000, .inl (f30)) := (hF2.at hc29 (by decide)).trans hM_77
              have hM_94 : M_83 v52 = .inl (cy 14, 1000, .inl (f53)) := (hF2.at hc52 (by decide)).trans hM_78
              have hF : fr K L [12, 15, 35, 36, 84] M M_83 := hF.tr hF2 (by decide)
              have hG : fG K L [16] M M_83 := hG.tr hWb hG2 (by decide)
              obtain ⟨n_95, g_96, hRF, hV2⟩ := hVP
              rw [hV.2.1, hV.2.2.1] at hRF hV2
              have hRF : REMF (fx M b16 16) (ax M b16 43) (nI j_27) n_95 g_96 := hRF
              have hV : VW K L M M_83 b16 (va_up (fx M b16) 16 n_95) (va_up (va_up (ax M b16) 3 (upd (ax M b16 3) ((nI j_27) : Int32).toNatClampNeg (nI (c_46 + 1)))) 43 g_96) := hV.tr hV2
              refine lv_aload_n hx hb dX13_enters_166 rfl (lv_at hl 2 rfl) ?_
              refine lv_aload hx hb dX13_enters_167 (lv_at hl 1 rfl) ?_
              refine pg_getN (D := D) (ci := 12) (v := .ref v42) (C := RX12) (T := TX12) (N := 51) hx hb hg inG12 hown hK hP hb_18.1 hM88 rfl 3 (by decide) (hN.use (Cond.fieldLinkNest RX13 157 RX12 "told" "[I" RX13) 12 rfl rfl) (fun _ h9 => h9) hv_90 dX13_enters_169 ?_
              refine lv_iload_n hx hb dX13_enters_172 rfl (lv_at hl 4 rfl) ?_
              have hi_97 : vp_in (nI j_27) 1000 := (inbN j_27 1000 (by omega) (by omega))
              refine pg_iald hx hb hK hP hc42.1 0 hM_85 rfl hi_97 dX13_enters_173 ?_
              have hp_98 := hf_80 _ (vp_lt hi_97)
              obtain ⟨c_99, hc_100, ec_101⟩ := hp_98
              rw [ec_101]
              have hPc := hP.sub (ws' := [(za, .inr (13, [.int 0, .ref z1, .int (nI z2), .int (nI z3), .int z4, .int z5, .ref z6, .ref z7, .ref z8, .ref z9, .int (nI z10), .ref z11, .ref z12, .ref z13, .ref z14, .ref z15, .int (nI z16), .ref z17, .int z18, .ref z19]))]) [0] rfl
              have hDc := hD.sub (ws' := [(za, .inr (13, [.int 0, .ref z1, .int (nI z2), .int (nI z3), .int z4, .int z5, .ref z6, .ref z7, .ref z8, .ref z9, .int (nI z10), .ref z11, .ref z12, .ref z13, .ref z14, .ref z15, .int (nI z16), .ref z17, .int z18, .ref z19]))]) [0] (by decide) rfl
              have hKc := hK.sub (tys' := []) [] rfl
              have hFc := va_free (wc := [(za, .inr (13, [.int 0, .ref z1, .int (nI z2), .int (nI z3), .int z4, .int z5, .ref z6, .ref z7, .ref z8, .ref z9, .int (nI z10), .ref z11, .ref z12, .ref z13, .ref z14, .ref z15, .int (nI z16), .ref z17, .int z18, .ref z19]))]) hD hS hA [0] rfl
              refine va_calli (va_runV (As := [.int (nI c_99)]) (rest := []) ⟨hx, hb, hml, hown, hg⟩ (m_done l D H_81.size za 0 z1 (nI z2) (nI z3) z4 z5 z6 z7 z8 z9 (nI z10) z11 z12 z13 z14 z15 (nI z16) z17 z18 z19 (nI c_99)) (cwV 1 hg (gV wd_730 wd_731 wd_732 wd_717 wd_733) rfl rfl rfl (by decide +kernel) ⟨(Nat.le_trans (Nat.le_of_ble_eq_true rfl) hRf), (Nat.le_trans (Nat.le_of_ble_eq_true rfl) hRl)⟩) ⟨Pr.blind, va_recv hK hP (ci := 13) (q0 := 0) rfl rfl, fun U hU hW => ⟨rfl, Pr.at hPc hKc hDc hN hU hW⟩⟩ rfl rfl hl.1 rfl (lv_room (Nat.le_of_ble_eq_true rfl)) dX13_enters_174 ⟨(Nat.le_trans (Nat.le_of_ble_eq_true rfl) hRc), (Nat.le_trans (Nat.le_of_ble_eq_true rfl) hRs)⟩) hS (fun q _ h => hFc q h) hFc (fun r_103 M_104 t H_102 locs ht hvm hw hB hz1 hk1 hS => ?_)
              have hp_105 := hw
              obtain ⟨hP1, hK1, hD1⟩ := hB
              rw [ht] at hP1
              obtain ⟨hP, hD⟩ := va_joinQ (X := [(za, .inr (13, [.int 0, .ref z1, .int (nI z2), .int (nI z3), .int z4, .int z5, .ref z6, .ref z7, .ref z8, .ref z9, .int (nI z10), .ref z11, .ref z12, .ref z13, .ref z14, .ref z15, .int (nI z16), .ref z17, .int z18, .ref z19]))]) (cx := [(za, .inr (13, [.int 0, .ref z1, .int (nI z2), .int (nI z3), .int z4, .int z5, .ref z6, .ref z7, .ref z8, .ref z9, .int (nI z10), .ref z11, .ref z12, .ref z13, .ref z14, .ref z15, .int (nI z16), .ref z17, .int z18, .ref z19]))]) (wr := []) (w1 := [(za, .inr (13, [.int 0, .ref z1, .int (nI z2), .int (nI z3), .int 0, .int (-1), .ref z6, .ref z7, .ref z8, .ref z9, .int (nI z10), .ref z11, .ref z12, .ref z13, .ref z14, .ref z15, .int (nI z16), .ref z17, .int z18, .ref z19]))]) (pl := va_pl L M_83) hP hD [0] [] rfl rfl (by decide) (by decide) hk1 hFc hP1 hD1
              have hP : va_P D vwCl ([(za, .inr (13, [.int 0, .ref z1, .int (nI z2), .int (nI z3), .int 0, .int (-1), .ref z6, .ref z7, .ref z8, .ref z9, .int (nI z10), .ref z11, .ref z12, .ref z13, .ref z14, .ref z15, .int (nI z16), .ref z17, .int z18, .ref z19]))] ++ va_pl L M_83) H_102 := hP
              have hD : va_D A ([(za, .inr (13, [.int 0, .ref z1, .int (nI z2), .int (nI z3), .int 0, .int (-1), .ref z6, .ref z7, .ref z8, .ref z9, .int (nI z10), .ref z11, .ref z12, .ref z13, .ref z14, .ref z15, .int (nI z16), .ref z17, .int z18, .ref z19]))] ++ va_pl L M_83) := hD
              have hq := Eq.symm hp_105
              subst hq
              have hA9 : HA (ax M b16 2) (upd (ax M b16 3) ((nI j_27) : Int32).toNatClampNeg (nI (c_46 + 1))) := HA.set hAT.1 (Or.inr (by rw [hy2, ec_35, nI_toInt (by omega), nI_toInt (by omega)]; omega))
              have hB9 : HB n_95 (fx M b16 14) (upd (ax M b16 3) ((nI j_27) : Int32).toNatClampNeg (nI (c_46 + 1))) g_96 := HB.remD hAT.2.1 (by omega) (nI_cl (by omega)) hRF (by rw [hy3, ec_48, nI_toInt (by omega), nI_toInt (by omega)]; omega)
              have hC9 : HC (fx M b16 10) (ax M b16 22) (ax M b16 23) := hAT.2.2.1
              have hD9 : HD (fx M b16 0) (fx M b16 11) (fx M b16 15) (ax M b16 34) (ax M b16 41) := hAT.2.2.2.1
              have hE9 : HE (fx M b16 0) (fx M b16 1) (fx M b16 12) (fx M b16 13) (ax M b16 37) := hAT.2.2.2.2
              have hH9 : HI (va_up (fx M b16) 16 n_95) (va_up (va_up (ax M b16) 3 (upd (ax M b16 3) ((nI j_27) : Int32).toNatClampNeg (nI (c_46 + 1)))) 43 g_96) := ⟨hA9, hB9, hC9, hD9, hE9⟩
              have hGI9 : GI K L z1 z2 M_83 := GI.fin hW0 i1 b2 hGI hact hV (hF.at i1 (by decide)) hH9
              rw [hQ]
              exact W.iret (v := (nI c_99)) hx hb hr (fun t ht hW9 => ⟨⟨(nI c_99), M_83, rfl, ⟨hW, hF, hG, hGI9, trivial⟩, ⟨0, (-1), by rw [ht]; exact hP, hD⟩⟩, hS.F ht⟩) hS.2.2 dX13_enters_177
            · have hz := rfl (a := 0)
              refine lv_iload hx hb dX13_enters_106 (lv_at hl 0 rfl) ?_
              refine lv_sipush (v := 32767) hx hb dX13_enters_108 (by decide) ?_
              refine lv_icmp_gt (tgt := 122) hx hb dX13_enters_111 (by decide) (fun c_106 => ?_) (fun c_106 => ?_)
              · have hz := rfl (a := 0)
                refine lv_aload_n hx hb dX13_enters_122 rfl (lv_at hl 2 rfl) ?_
                refine lv_iconst (v := 2) hx hb dX13_enters_123 (by decide) ?_
                have hPc := hP.sub (ws' := [(za, .inr (13, [.int 0, .ref z1, .int (nI z2), .int (nI z3), .int z4, .int z5, .ref z6, .ref z7, .ref z8, .ref z9, .int (nI z10), .ref z11, .ref z12, .ref z13, .ref z14, .ref z15, .int (nI z16), .ref z17, .int z18, .ref z19]))]) [0] rfl
                have hDc := hD.sub (ws' := [(za, .inr (13, [.int 0, .ref z1, .int (nI z2), .int (nI z3), .int z4, .int z5, .ref z6, .ref z7, .ref z8, .ref z9, .int (nI z10), .ref z11, .ref z12, .ref z13, .ref z14, .ref z15, .int (nI z16), .ref z17, .int z18, .ref z19]))]) [0] (by decide) rfl
                have hKc := hK.sub (tys' := []) [] rfl
                have hFc := va_free (wc := [(za, .inr (13, [.int 0, .ref z1, .int (nI z2), .int (nI z3), .int z4, .int z5, .ref z6, .ref z7, .ref z8, .ref z9, .int (nI z10), .ref z11, .ref z12, .ref z13, .ref z14, .ref z15, .int (nI z16), .ref z17, .int z18, .ref z19]))]) hD hS hA [0] rfl
                refine va_calli (va_runV (As := [.int 2]) (rest := []) ⟨hx, hb, hml, hown, hg⟩ (m_refused l D H_20.size za 0 z1 (nI z2) (nI z3) z4 z5 z6 z7 z8 z9 (nI z10) z11 z12 z13 z14 z15 (nI z16) z17 z18 z19 2) (cwV 1 hg (gV wd_725 wd_726 wd_727 wd_717 wd_728) rfl rfl rfl (by decide +kernel) ⟨(Nat.le_trans (Nat.le_of_ble_eq_true rfl) hRf), (Nat.le_trans (Nat.le_of_ble_eq_true rfl) hRl)⟩) ⟨Pr.blind, va_recv hK hP (ci := 13) (q0 := 0) rfl rfl, fun U hU hW => ⟨rfl, Pr.at hPc hKc hDc hN hU hW⟩⟩ rfl rfl hl.1 rfl (lv_room (Nat.le_of_ble_eq_true rfl)) dX13_enters_124 ⟨(Nat.le_trans (Nat.le_of_ble_eq_true rfl) hRc), (Nat.le_trans (Nat.le_of_ble_eq_true rfl) hRs)⟩) hS (fun q _ h => hFc q h) hFc (fun r_108 M_109 t H_107 locs ht hvm hw hB hz1 hk1 hS => ?_)
                have hp_110 := hw
                obtain ⟨hP1, hK1, hD1⟩ := hB
                rw [ht] at hP1
                obtain ⟨hP, hD⟩ := va_joinQ (X := [(za, .inr (13, [.int 0, .ref z1, .int (nI z2), .int (nI z3), .int z4, .int z5, .ref z6, .ref z7, .ref z8, .ref z9, .int (nI z10), .ref z11, .ref z12, .ref z13, .ref z14, .ref z15, .int (nI z16), .ref z17, .int z18, .ref z19]))]) (cx := [(za, .inr (13, [.int 0, .ref z1, .int (nI z2), .int (nI z3), .int z4, .int z5, .ref z6, .ref z7, .ref z8, .ref z9, .int (nI z10), .ref z11, .ref z12, .ref z13, .ref z14, .ref z15, .int (nI z16), .ref z17, .int z18, .ref z19]))]) (wr := []) (w1 := [(za, .inr (13, [.int 0, .ref z1, .int (nI z2), .int (nI z3), .int 2, .int (-1), .ref z6, .ref z7, .ref z8, .ref z9, .int (nI z10), .ref z11, .ref z12, .ref z13, .ref z14, .ref z15, .int (nI z16), .ref z17, .int z18, .ref z19]))]) (pl := va_pl L M) hP hD [0] [] rfl rfl (by decide) (by decide) hk1 hFc hP1 hD1
                have hP : va_P D vwCl ([(za, .inr (13, [.int 0, .ref z1, .int (nI z2), .int (nI z3), .int 2, .int (-1), .ref z6, .ref z7, .ref z8, .ref z9, .int (nI z10), .ref z11, .ref z12, .ref z13, .ref z14, .ref z15, .int (nI z16), .ref z17, .int z18, .ref z19]))] ++ va_pl L M) H_107 := hP
                have hD : va_D A ([(za, .inr (13, [.int 0, .ref z1, .int (nI z2), .int (nI z3), .int 2, .int (-1), .ref z6, .ref z7, .ref z8, .ref z9, .int (nI z10), .ref z11, .ref z12, .ref z13, .ref z14, .ref z15, .int (nI z16), .ref z17, .int z18, .ref z19]))] ++ va_pl L M) := hD
                have hq := Eq.symm hp_110
                subst hq
                rw [hQ]
                exact W.iret (v := (-1)) hx hb hr (fun t ht hW9 => ⟨⟨(-1), M, rfl, ⟨hW, hF, hG, hGI, trivial⟩, ⟨2, (-1), by rw [ht]; exact hP, hD⟩⟩, hS.F ht⟩) hS.2.2 dX13_enters_127
              · have hz := rfl (a := 0)
                refine lv_iload hx hb dX13_enters_114 (lv_at hl 0 rfl) ?_
                refine lv_sipush (v := (-32768)) hx hb dX13_enters_116 (by decide) ?_
                refine lv_icmp_ge (tgt := 128) hx hb dX13_enters_119 (by decide) (fun c_111 => ?_) (fun c_111 => ?_)
                · have hz := rfl (a := 0)
                  refine lv_aload hx hb dX13_enters_128 (lv_at hl 1 rfl) ?_
                  obtain ⟨v112, hv112, hc112⟩ : ∃ v : Nat, fs19[5]? = some (.ref v : Value) ∧ isk K L v 84 6000 := hl19 5 (by decide)
                  refine pg_getN (D := D) (ci := 12) (v := .ref v112) (C := RX12) (T := TX12) (N := 51) hx hb hg inG12 hown hK hP hb_18.1 hM19 rfl 5 (by decide) (hN.use (Cond.fieldLinkNest RX13 167 RX12 "entry" "[J" RX13) 14 rfl rfl) (fun _ h9 => h9) hv112 dX13_enters_130 ?_
                  refine lv_bipush (v := 6) hx hb dX13_enters_133 (by decide) ?_
                  refine lv_iload_n hx hb dX13_enters_135 rfl (lv_at hl 4 rfl) ?_
                  refine lv_imul hx hb dX13_enters_136 ?_
                  refine lv_topi (fun f_113 ef_113 => ?_)
                  obtain rfl : f_113 = (nI (6 * j_27)) := ef_113.trans (nI_mul 6 j_27)
                  refine lv_aload hx hb dX13_enters_137 (lv_at hl 1 rfl) ?_
                  refine pg_getN (D := D) (ci := 12) (v := .ref v42) (C := RX12) (T := TX12) (N := 51) hx hb hg inG12 hown hK hP hb_18.1 hM19 rfl 3 (by decide) (hN.use (Cond.fieldLinkNest RX13 157 RX12 "told" "[I" RX13) 12 rfl rfl) (fun _ h9 => h9) hv42 dX13_enters_139 ?_
                  refine lv_iload_n hx hb dX13_enters_142 rfl (lv_at hl 4 rfl) ?_
                  refine pg_iald hx hb hK hP hc42.1 0 hM43 rfl (inbN j_27 1000 (by omega) (by omega)) dX13_enters_143 ?_
                  rw [ec_48]
                  refine lv_iadd hx hb dX13_enters_144 ?_
                  refine lv_topi (fun f_114 ef_114 => ?_)
                  obtain rfl : f_114 = (nI ((6 * j_27) + c_46)) := ef_114.trans (nI_add (6 * j_27) c_46)
                  refine lv_iload hx hb dX13_enters_145 (lv_at hl 0 rfl) ?_
                  refine lv_i2l hx hb dX13_enters_147 rfl ?_
                  refine lv_topl (fun f_115 ef_115 => ?_)
                  obtain ⟨f116, hM116⟩ := hW.open_84 hc112
                  refine pg_last hx hb hK hP hD hS hc112.1 1 hM116 rfl (inbN ((6 * j_27) + c_46) 6000 (by omega) (by omega)) dX13_enters_148 (fun H_117 locs hP hD hS => ?_)
                  obtain ⟨M_118, eM_118⟩ : ∃ M1 : Hp, M1 = va_up M v112 (.inl (cy 15, 6000, .inr (.inl (vp_updL f116 ((nI ((6 * j_27) + c_46)) : Int32).toNatClampNeg f_115)))) := ⟨_, rfl⟩
                  have hV : VW K L M M_118 b16 (fx M b16) (ax M b16) := by rw [eM_118]; exact hV.oth hW hb_18 hc112 (by decide)
                  have hP : va_P D vwCl ([(za, .inr (13, [.int 0, .ref z1, .int (nI z2), .int (nI z3), .int z4, .int z5, .ref z6, .ref z7, .ref z8, .ref z9, .int (nI z10), .ref z11, .ref z12, .ref z13, .ref z14, .ref z15, .int (nI z16), .ref z17, .int z18, .ref z19]))] ++ va_pl L M_118) H_117 := by rw [eM_118]; exact hP
                  have hD : va_D A ([(za, .inr (13, [.int 0, .ref z1, .int (nI z2), .int (nI z3), .int z4, .int z5, .ref z6, .ref z7, .ref z8, .ref z9, .int (nI z10), .ref z11, .ref z12, .ref z13, .ref z14, .ref z15, .int (nI z16), .ref z17, .int z18, .ref z19]))] ++ va_pl L M_118) := by rw [eM_118]; exact hD
                  have hW : WOM cy K L M_118 := by rw [eM_118]; exact hW.up_84 hc112 ⟨_, rfl⟩
                  have hF : fr K L [12, 15, 35, 36, 84] M M_118 := by rw [eM_118]; exact hF.up hc112 (by decide)
                  have hG : fG K L [16] M M_118 := by rw [eM_118]; exact hG.arr hc112 (by decide)
                  have hM_119 : M_118 v112 = .inl (cy 15, 6000, .inr (.inl (vp_updL f116 ((nI ((6 * j_27) + c_46)) : Int32).toNatClampNeg f_115))) := by rw [eM_118]; exact va_up_self _ _ _
                  have hM_120 : M_118 z1 = .inl (cy 23, 8, .inr (.inr (.inr (.inr (f14))))) := by rw [eM_118, va_up_ne _ _ (i1.neT hc112 (by decide))]; exact hM14
                  have hM_121 : M_118 b16 = .inr (12, fs19) := by rw [eM_118, va_up_ne _ _ (hb_18.neT hc112 (by decide))]; exact hM19
                  have hM_122 : M_118 v29 = .inl (cy 14, 1000, .inl (f30)) := by rw [eM_118, va_up_ne _ _ (hc29.neT hc112 (by decide))]; exact hM30
                  have hM_123 : M_118 v42 = .inl (cy 14, 1000, .inl (f43)) := by rw [eM_118, va_up_ne _ _ (hc42.neT hc112 (by decide))]; exact hM43
                  have hM_124 : M_118 v52 = .inl (cy 14, 1000, .inl (f53)) := by rw [eM_118, va_up_ne _ _ (hc52.neT hc112 (by decide))]; exact hM53
                  obtain ⟨f_125, ef_125⟩ : ∃ f : Nat → Int64, f = vp_updL f116 ((nI ((6 * j_27) + c_46)) : Int32).toNatClampNeg f_115 := ⟨_, rfl⟩
                  rw [← ef_125] at hM_119
                  refine lv_aload hx hb dX13_enters_149 (lv_at hl 1 rfl) ?_
                  refine pg_getN (D := D) (ci := 12) (v := .ref v42) (C := RX12) (T := TX12) (N := 51) hx hb hg inG12 hown hK hP hb_18.1 hM_121 rfl 3 (by decide) (hN.use (Cond.fieldLinkNest RX13 157 RX12 "told" "[I" RX13) 12 rfl rfl) (fun _ h9 => h9) hv42 dX13_enters_151 ?_
                  refine lv_iload_n hx hb dX13_enters_154 rfl (lv_at hl 4 rfl) ?_
                  refine lv_dup2_11 hx hb dX13_enters_155 rfl rfl ?_
                  refine pg_iald hx hb hK hP hc42.1 0 hM_123 rfl (inbN j_27 1000 (by omega) (by omega)) dX13_enters_156 ?_
                  rw [ec_48]
                  refine lv_iconst (v := 1) hx hb dX13_enters_157 (by decide) ?_
                  refine lv_iadd hx hb dX13_enters_158 ?_
                  refine lv_topi (fun f_126 ef_126 => ?_)
                  obtain rfl : f_126 = (nI (c_46 + 1)) := ef_126.trans (nI_add c_46 1)
                  refine pg_iast hx hb hK hP hD hS hc42.1 0 hM_123 rfl (inbN j_27 1000 (by omega) (by omega)) dX13_enters_159 (fun H_127 locs hP hD hS => ?_)
                  obtain ⟨M_128, eM_128⟩ : ∃ M1 : Hp, M1 = va_up M_118 v42 (.inl (cy 14, 1000, .inl (upd f43 ((nI j_27) : Int32).toNatClampNeg (nI (c_46 + 1))))) := ⟨_, rfl⟩
                  have hy3 : (ax M b16 3) = f43 := (congrFun hV.2.2.1 3).symm.trans (ax_of hM_121 (by decide) hv42 hM_123)
                  have hV : VW K L M M_128 b16 (fx M b16) (va_up (ax M b16) 3 (upd (ax M b16 3) ((nI j_27) : Int32).toNatClampNeg (nI (c_46 + 1)))) := by rw [eM_128]; exact hV.ast (j := 3) hW hb_18 hM_121 (by decide) hv42 hc42 hM_123
                  have hP : va_P D vwCl ([(za, .inr (13, [.int 0, .ref z1, .int (nI z2), .int (nI z3), .int z4, .int z5, .ref z6, .ref z7, .ref z8, .ref z9, .int (nI z10), .ref z11, .ref z12, .ref z13, .ref z14, .ref z15, .int (nI z16), .ref z17, .int z18, .ref z19]))] ++ va_pl L M_128) H_127 := by rw [eM_128]; exact hP
                  have hD : va_D A ([(za, .inr (13, [.int 0, .ref z1, .int (nI z2), .int (nI z3), .int z4, .int z5, .ref z6, .ref z7, .ref z8, .ref z9, .int (nI z10), .ref z11, .ref z12, .ref z13, .ref z14, .ref z15, .int (nI z16), .ref z17, .int z18, .ref z19]))] ++ va_pl L M_128) := by rw [eM_128]; exact hD
                  have hW : WOM cy K L M_128 := by rw [eM_128]; exact hW.up_35 hc42 ⟨_, rfl, (updP (P := fun z => ∃ c : Nat, c < 7 ∧ z = nI c) hf43 ⟨(c_46 + 1), by omega, rfl⟩)⟩
                  have hF : fr K L [12, 15, 35, 36, 84] M M_128 := by rw [eM_128]; exact hF.up hc42 (by decide)
                  have hG : fG K L [16] M M_128 := by rw [eM_128]; exact hG.arr hc42 (by decide)
                  have hM_129 : M_128 v42 = .inl (cy 14, 1000, .inl (upd f43 ((nI j_27) : Int32).toNatClampNeg (nI (c_46 + 1)))) := by rw [eM_128]; exact va_up_self _ _ _
                  have hM_130 : M_128 v112 = .inl (cy 15, 6000, .inr (.inl (f_125))) := by rw [eM_128, va_up_ne _ _ (hc112.neT hc42 (by decide))]; exact hM_119
                  have hM_131 : M_128 z1 = .inl (cy 23, 8, .inr (.inr (.inr (.inr (f14))))) := by rw [eM_128, va_up_ne _ _ (i1.neT hc42 (by decide))]; exact hM_120
                  have hM_132 : M_128 b16 = .inr (12, fs19) := by rw [eM_128, va_up_ne _ _ (hb_18.neT hc42 (by decide))]; exact hM_121
                  have hM_133 : M_128 v29 = .inl (cy 14, 1000, .inl (f30)) := by rw [eM_128, va_up_ne _ _ (hc29.neT hc42 (by decide))]; exact hM_122
                  have hM_134 : M_128 v52 = .inl (cy 14, 1000, .inl (f53)) := by rw [eM_128, va_up_ne _ _ (hc52.neT hc42 (by decide))]; exact hM_124
                  have hf_136 : ∀ j, j < 1000 → ∃ c : Nat, c < 7 ∧ (upd f43 ((nI j_27) : Int32).toNatClampNeg (nI (c_46 + 1))) j = nI c := (updP (P := fun z => ∃ c : Nat, c < 7 ∧ z = nI c) hf43 ⟨(c_46 + 1), by omega, rfl⟩)
                  obtain ⟨f_135, ef_135⟩ : ∃ f : Nat → Int32, f = upd f43 ((nI j_27) : Int32).toNatClampNeg (nI (c_46 + 1)) := ⟨_, rfl⟩
                  rw [← ef_135] at hM_129 hf_136
                  refine lv_aload hx hb dX13_enters_160 (lv_at hl 1 rfl) ?_
                  refine lv_iload_n hx hb dX13_enters_162 rfl (lv_at hl 4 rfl) ?_
                  have hPc : va_P D vwCl ([] ++ va_pl L M_128) H_127 := hP.part (cx := []) [] rfl
                  have hDc : va_D A ([] ++ va_pl L M_128) := hD.part (cx := []) [] (by decide) rfl
                  have hFc : ∀ q, va_A ([] ++ va_pl L M_128) H_127.size q → A q := pg_free hDc hS hA
                  refine va_callv (va_runV (As := [.int (nI j_27)]) (rest := []) ⟨hx, hb, hml, hown, hg⟩ (r_remN l D cy K L M_128 H_127.size b16 j_27  hW hb_18 (by omega) hV.2.2.2) (cwV 1 hg (gV wd_827 wd_828 wd_829 wd_737 wd_830) rfl rfl rfl (by decide +kernel) ⟨(Nat.le_trans (Nat.le_of_ble_eq_true rfl) hRf), (Nat.le_trans (Nat.le_of_ble_eq_true rfl) hRl)⟩) ⟨PG.blind, pg_recv hK hP hb_18.1 hM_132 rfl, fun U hU hW => ⟨rfl, PG.at hPc hK hDc hN hU hW⟩⟩ rfl rfl hl.1 rfl (lv_room (Nat.le_of_ble_eq_true rfl)) dX13_enters_163 ⟨(Nat.le_trans (Nat.le_of_ble_eq_true rfl) hRc), (Nat.le_trans (Nat.le_of_ble_eq_true rfl) hRs)⟩) hS (fun q _ h => hFc q h) hFc (fun M_139 t H_137 locs ht hvm hw hB hz1 hk1 hS => ?_)
                  have hWb := hW
                  obtain ⟨hW, hF2, hG2, hVP, hp_140⟩ := hw
                  obtain ⟨hP1, hD1⟩ := hB
                  rw [ht] at hP1
                  obtain ⟨hP, hD⟩ := va_joinP (X := [(za, .inr (13, [.int 0, .ref z1, .int (nI z2), .int (nI z3), .int z4, .int z5, .ref z6, .ref z7, .ref z8, .ref z9, .int (nI z10), .ref z11, .ref z12, .ref z13, .ref z14, .ref z15, .int (nI z16), .ref z17, .int z18, .ref z19]))]) (cx := []) (wr := [(za, .inr (13, [.int 0, .ref z1, .int (nI z2), .int (nI z3), .int z4, .int z5, .ref z6, .ref z7, .ref z8, .ref z9, .int (nI z10), .ref z11, .ref z12, .ref z13, .ref z14, .ref z15, .int (nI z16), .ref z17, .int z18, .ref z19]))]) (rx := []) (pl := va_pl L M_128) (pl1 := va_pl L M_139) hP hD [] [0] rfl rfl (by decide) (by decide) hk1 hFc hP1 hD1
                  have hP : va_P D vwCl ([(za, .inr (13, [.int 0, .ref z1, .int (nI z2), .int (nI z3), .int z4, .int z5, .ref z6, .ref z7, .ref z8, .ref z9, .int (nI z10), .ref z11, .ref z12, .ref z13, .ref z14, .ref z15, .int (nI z16), .ref z17, .int z18, .ref z19]))] ++ va_pl L M_139) H_137 := hP
                  have hD : va_D A ([(za, .inr (13, [.int 0, .ref z1, .int (nI z2), .int (nI z3), .int z4, .int z5, .ref z6, .ref z7, .ref z8, .ref z9, .int (nI z10), .ref z11, .ref z12, .ref z13, .ref z14, .ref z15, .int (nI z16), .ref z17, .int z18, .ref z19]))] ++ va_pl L M_139) := hD
                  have hM_141 : M_139 v42 = .inl (cy 14, 1000, .inl (f_135)) := (hF2.at hc42 (by decide)).trans hM_129
                  have hM_142 : M_139 v112 = .inl (cy 15, 6000, .inr (.inl (f_125))) := (hF2.at hc112 (by decide)).trans hM_130
                  have hM_143 : M_139 z1 = .inl (cy 23, 8, .inr (.inr (.inr (.inr (f14))))) := (hF2.at i1 (by decide)).trans hM_131
                  obtain ⟨fs144, hM144, hn144, hl144⟩ := hW.open_12 hb_18
                  have hv_145 : fs144[2]? = some (.ref v29 : Value) := (hG2 _ hb_18 _ _ hM_132 hM144 2 (by decide)).trans hv29
                  have hv_146 : fs144[3]? = some (.ref v42 : Value) := (hG2 _ hb_18 _ _ hM_132 hM144 3 (by decide)).trans hv42
                  have hv_147 : fs144[4]? = some (.ref v52 : Value) := (hG2 _ hb_18 _ _ hM_132 hM144 4 (by decide)).trans hv52
                  have hv_148 : fs144[5]? = some (.ref v112 : Value) := (hG2 _ hb_18 _ _ hM_132 hM144 5 (by decide)).trans hv112
                  have hM_149 : M_139 v29 = .inl (cy 14, 1000, .inl (f30)) := (hF2.at hc29 (by decide)).trans hM_133
                  have hM_150 : M_139 v52 = .inl (cy 14, 1000, .inl (f53)) := (hF2.at hc52 (by decide)).trans hM_134
                  have hF : fr K L [12, 15, 35, 36, 84] M M_139 := hF.tr hF2 (by decide)
                  have hG : fG K L [16] M M_139 := hG.tr hWb hG2 (by decide)
                  obtain ⟨n_151, g_152, hRF, hV2⟩ := hVP
                  rw [hV.2.1, hV.2.2.1] at hRF hV2
                  have hRF : REMF (fx M b16 16) (ax M b16 43) (nI j_27) n_151 g_152 := hRF
                  have hV : VW K L M M_139 b16 (va_up (fx M b16) 16 n_151) (va_up (va_up (ax M b16) 3 (upd (ax M b16 3) ((nI j_27) : Int32).toNatClampNeg (nI (c_46 + 1)))) 43 g_152) := hV.tr hV2
                  refine lv_aload_n hx hb dX13_enters_166 rfl (lv_at hl 2 rfl) ?_
                  refine lv_aload hx hb dX13_enters_167 (lv_at hl 1 rfl) ?_
                  refine pg_getN (D := D) (ci := 12) (v := .ref v42) (C := RX12) (T := TX12) (N := 51) hx hb hg inG12 hown hK hP hb_18.1 hM144 rfl 3 (by decide) (hN.use (Cond.fieldLinkNest RX13 157 RX12 "told" "[I" RX13) 12 rfl rfl) (fun _ h9 => h9) hv_146 dX13_enters_169 ?_
                  refine lv_iload_n hx hb dX13_enters_172 rfl (lv_at hl 4 rfl) ?_
                  have hi_153 : vp_in (nI j_27) 1000 := (inbN j_27 1000 (by omega) (by omega))
                  refine pg_iald hx hb hK hP hc42.1 0 hM_141 rfl hi_153 dX13_enters_173 ?_
                  have hp_154 := hf_136 _ (vp_lt hi_153)
                  obtain ⟨c_155, hc_156, ec_157⟩ := hp_154
                  rw [ec_157]
                  have hPc := hP.sub (ws' := [(za, .inr (13, [.int 0, .ref z1, .int (nI z2), .int (nI z3), .int z4, .int z5, .ref z6, .ref z7, .ref z8, .ref z9, .int (nI z10), .ref z11, .ref z12, .ref z13, .ref z14, .ref z15, .int (nI z16), .ref z17, .int z18, .ref z19]))]) [0] rfl
                  have hDc := hD.sub (ws' := [(za, .inr (13, [.int 0, .ref z1, .int (nI z2), .int (nI z3), .int z4, .int z5, .ref z6, .ref z7, .ref z8, .ref z9, .int (nI z10), .ref z11, .ref z12, .ref z13, .ref z14, .ref z15, .int (nI z16), .ref z17, .int z18, .ref z19]))]) [0] (by decide) rfl
                  have hKc := hK.sub (tys' := []) [] rfl
                  have hFc := va_free (wc := [(za, .inr (13, [.int 0, .ref z1, .int (nI z2), .int (nI z3), .int z4, .int z5, .ref z6, .ref z7, .ref z8, .ref z9, .int (nI z10), .ref z11, .ref z12, .ref z13, .ref z14, .ref z15, .int (nI z16), .ref z17, .int z18, .ref z19]))]) hD hS hA [0] rfl
                  refine va_calli (va_runV (As := [.int (nI c_155)]) (rest := []) ⟨hx, hb, hml, hown, hg⟩ (m_done l D H_137.size za 0 z1 (nI z2) (nI z3) z4 z5 z6 z7 z8 z9 (nI z10) z11 z12 z13 z14 z15 (nI z16) z17 z18 z19 (nI c_155)) (cwV 1 hg (gV wd_730 wd_731 wd_732 wd_717 wd_733) rfl rfl rfl (by decide +kernel) ⟨(Nat.le_trans (Nat.le_of_ble_eq_true rfl) hRf), (Nat.le_trans (Nat.le_of_ble_eq_true rfl) hRl)⟩) ⟨Pr.blind, va_recv hK hP (ci := 13) (q0 := 0) rfl rfl, fun U hU hW => ⟨rfl, Pr.at hPc hKc hDc hN hU hW⟩⟩ rfl rfl hl.1 rfl (lv_room (Nat.le_of_ble_eq_true rfl)) dX13_enters_174 ⟨(Nat.le_trans (Nat.le_of_ble_eq_true rfl) hRc), (Nat.le_trans (Nat.le_of_ble_eq_true rfl) hRs)⟩) hS (fun q _ h => hFc q h) hFc (fun r_159 M_160 t H_158 locs ht hvm hw hB hz1 hk1 hS => ?_)
                  have hp_161 := hw
                  obtain ⟨hP1, hK1, hD1⟩ := hB
                  rw [ht] at hP1
                  obtain ⟨hP, hD⟩ := va_joinQ (X := [(za, .inr (13, [.int 0, .ref z1, .int (nI z2), .int (nI z3), .int z4, .int z5, .ref z6, .ref z7, .ref z8, .ref z9, .int (nI z10), .ref z11, .ref z12, .ref z13, .ref z14, .ref z15, .int (nI z16), .ref z17, .int z18, .ref z19]))]) (cx := [(za, .inr (13, [.int 0, .ref z1, .int (nI z2), .int (nI z3), .int z4, .int z5, .ref z6, .ref z7, .ref z8, .ref z9, .int (nI z10), .ref z11, .ref z12, .ref z13, .ref z14, .ref z15, .int (nI z16), .ref z17, .int z18, .ref z19]))]) (wr := []) (w1 := [(za, .inr (13, [.int 0, .ref z1, .int (nI z2), .int (nI z3), .int 0, .int (-1), .ref z6, .ref z7, .ref z8, .ref z9, .int (nI z10), .ref z11, .ref z12, .ref z13, .ref z14, .ref z15, .int (nI z16), .ref z17, .int z18, .ref z19]))]) (pl := va_pl L M_139) hP hD [0] [] rfl rfl (by decide) (by decide) hk1 hFc hP1 hD1
                  have hP : va_P D vwCl ([(za, .inr (13, [.int 0, .ref z1, .int (nI z2), .int (nI z3), .int 0, .int (-1), .ref z6, .ref z7, .ref z8, .ref z9, .int (nI z10), .ref z11, .ref z12, .ref z13, .ref z14, .ref z15, .int (nI z16), .ref z17, .int z18, .ref z19]))] ++ va_pl L M_139) H_158 := hP
                  have hD : va_D A ([(za, .inr (13, [.int 0, .ref z1, .int (nI z2), .int (nI z3), .int 0, .int (-1), .ref z6, .ref z7, .ref z8, .ref z9, .int (nI z10), .ref z11, .ref z12, .ref z13, .ref z14, .ref z15, .int (nI z16), .ref z17, .int z18, .ref z19]))] ++ va_pl L M_139) := hD
                  have hq := Eq.symm hp_161
                  subst hq
                  have hA9 : HA (ax M b16 2) (upd (ax M b16 3) ((nI j_27) : Int32).toNatClampNeg (nI (c_46 + 1))) := HA.set hAT.1 (Or.inr (by rw [hy2, ec_35, nI_toInt (by omega), nI_toInt (by omega)]; omega))
                  have hB9 : HB n_151 (fx M b16 14) (upd (ax M b16 3) ((nI j_27) : Int32).toNatClampNeg (nI (c_46 + 1))) g_152 := HB.remD hAT.2.1 (by omega) (nI_cl (by omega)) hRF (by rw [hy3, ec_48, nI_toInt (by omega), nI_toInt (by omega)]; omega)
                  have hC9 : HC (fx M b16 10) (ax M b16 22) (ax M b16 23) := hAT.2.2.1
                  have hD9 : HD (fx M b16 0) (fx M b16 11) (fx M b16 15) (ax M b16 34) (ax M b16 41) := hAT.2.2.2.1
                  have hE9 : HE (fx M b16 0) (fx M b16 1) (fx M b16 12) (fx M b16 13) (ax M b16 37) := hAT.2.2.2.2
                  have hH9 : HI (va_up (fx M b16) 16 n_151) (va_up (va_up (ax M b16) 3 (upd (ax M b16 3) ((nI j_27) : Int32).toNatClampNeg (nI (c_46 + 1)))) 43 g_152) := ⟨hA9, hB9, hC9, hD9, hE9⟩
                  have hGI9 : GI K L z1 z2 M_139 := GI.fin hW0 i1 b2 hGI hact hV (hF.at i1 (by decide)) hH9
                  rw [hQ]
                  exact W.iret (v := (nI c_155)) hx hb hr (fun t ht hW9 => ⟨⟨(nI c_155), M_139, rfl, ⟨hW, hF, hG, hGI9, trivial⟩, ⟨0, (-1), by rw [ht]; exact hP, hD⟩⟩, hS.F ht⟩) hS.2.2 dX13_enters_177
                · have hz := rfl (a := 0)
                  refine lv_aload_n hx hb dX13_enters_122 rfl (lv_at hl 2 rfl) ?_
                  refine lv_iconst (v := 2) hx hb dX13_enters_123 (by decide) ?_
                  have hPc := hP.sub (ws' := [(za, .inr (13, [.int 0, .ref z1, .int (nI z2), .int (nI z3), .int z4, .int z5, .ref z6, .ref z7, .ref z8, .ref z9, .int (nI z10), .ref z11, .ref z12, .ref z13, .ref z14, .ref z15, .int (nI z16), .ref z17, .int z18, .ref z19]))]) [0] rfl
                  have hDc := hD.sub (ws' := [(za, .inr (13, [.int 0, .ref z1, .int (nI z2), .int (nI z3), .int z4, .int z5, .ref z6, .ref z7, .ref z8, .ref z9, .int (nI z10), .ref z11, .ref z12, .ref z13, .ref z14, .ref z15, .int (nI z16), .ref z17, .int z18, .ref z19]))]) [0] (by decide) rfl
                  have hKc := hK.sub (tys' := []) [] rfl
                  have hFc := va_free (wc := [(za, .inr (13, [.int 0, .ref z1, .int (nI z2), .int (nI z3), .int z4, .int z5, .ref z6, .ref z7, .ref z8, .ref z9, .int (nI z10), .ref z11, .ref z12, .ref z13, .ref z14, .ref z15, .int (nI z16), .ref z17, .int z18, .ref z19]))]) hD hS hA [0] rfl
                  refine va_calli (va_runV (As := [.int 2]) (rest := []) ⟨hx, hb, hml, hown, hg⟩ (m_refused l D H_20.size za 0 z1 (nI z2) (nI z3) z4 z5 z6 z7 z8 z9 (nI z10) z11 z12 z13 z14 z15 (nI z16) z17 z18 z19 2) (cwV 1 hg (gV wd_725 wd_726 wd_727 wd_717 wd_728) rfl rfl rfl (by decide +kernel) ⟨(Nat.le_trans (Nat.le_of_ble_eq_true rfl) hRf), (Nat.le_trans (Nat.le_of_ble_eq_true rfl) hRl)⟩) ⟨Pr.blind, va_recv hK hP (ci := 13) (q0 := 0) rfl rfl, fun U hU hW => ⟨rfl, Pr.at hPc hKc hDc hN hU hW⟩⟩ rfl rfl hl.1 rfl (lv_room (Nat.le_of_ble_eq_true rfl)) dX13_enters_124 ⟨(Nat.le_trans (Nat.le_of_ble_eq_true rfl) hRc), (Nat.le_trans (Nat.le_of_ble_eq_true rfl) hRs)⟩) hS (fun q _ h => hFc q h) hFc (fun r_163 M_164 t H_162 locs ht hvm hw hB hz1 hk1 hS => ?_)
                  have hp_165 := hw
                  obtain ⟨hP1, hK1, hD1⟩ := hB
                  rw [ht] at hP1
                  obtain ⟨hP, hD⟩ := va_joinQ (X := [(za, .inr (13, [.int 0, .ref z1, .int (nI z2), .int (nI z3), .int z4, .int z5, .ref z6, .ref z7, .ref z8, .ref z9, .int (nI z10), .ref z11, .ref z12, .ref z13, .ref z14, .ref z15, .int (nI z16), .ref z17, .int z18, .ref z19]))]) (cx := [(za, .inr (13, [.int 0, .ref z1, .int (nI z2), .int (nI z3), .int z4, .int z5, .ref z6, .ref z7, .ref z8, .ref z9, .int (nI z10), .ref z11, .ref z12, .ref z13, .ref z14, .ref z15, .int (nI z16), .ref z17, .int z18, .ref z19]))]) (wr := []) (w1 := [(za, .inr (13, [.int 0, .ref z1, .int (nI z2), .int (nI z3), .int 2, .int (-1), .ref z6, .ref z7, .ref z8, .ref z9, .int (nI z10), .ref z11, .ref z12, .ref z13, .ref z14, .ref z15, .int (nI z16), .ref z17, .int z18, .ref z19]))]) (pl := va_pl L M) hP hD [0] [] rfl rfl (by decide) (by decide) hk1 hFc hP1 hD1
                  have hP : va_P D vwCl ([(za, .inr (13, [.int 0, .ref z1, .int (nI z2), .int (nI z3), .int 2, .int (-1), .ref z6, .ref z7, .ref z8, .ref z9, .int (nI z10), .ref z11, .ref z12, .ref z13, .ref z14, .ref z15, .int (nI z16), .ref z17, .int z18, .ref z19]))] ++ va_pl L M) H_162 := hP
                  have hD : va_D A ([(za, .inr (13, [.int 0, .ref z1, .int (nI z2), .int (nI z3), .int 2, .int (-1), .ref z6, .ref z7, .ref z8, .ref z9, .int (nI z10), .ref z11, .ref z12, .ref z13, .ref z14, .ref z15, .int (nI z16), .ref z17, .int z18, .ref z19]))] ++ va_pl L M) := hD
                  have hq := Eq.symm hp_165
                  subst hq
                  rw [hQ]
                  exact W.iret (v := (-1)) hx hb hr (fun t ht hW9 => ⟨⟨(-1), M, rfl, ⟨hW, hF, hG, hGI, trivial⟩, ⟨2, (-1), by rw [ht]; exact hP, hD⟩⟩, hS.F ht⟩) hS.2.2 dX13_enters_127
          · have hz := rfl (a := 0)
            have n_166 : c_46 = c_33 := (iEQ (a := c_46) (b := c_33) (by omega) (by omega)).mp c_49
            refine lv_aload_n hx hb dX13_enters_83 rfl (lv_at hl 1 rfl) ?_
            refine lv_bipush (v := 10) hx hb dX13_enters_84 (by decide) ?_
            have hPc := hP.sub (ws' := [(za, .inr (13, [.int 0, .ref z1, .int (nI z2), .int (nI z3), .int z4, .int z5, .ref z6, .ref z7, .ref z8, .ref z9, .int (nI z10), .ref z11, .ref z12, .ref z13, .ref z14, .ref z15, .int (nI z16), .ref z17, .int z18, .ref z19]))]) [0] rfl
            have hDc := hD.sub (ws' := [(za, .inr (13, [.int 0, .ref z1, .int (nI z2), .int (nI z3), .int z4, .int z5, .ref z6, .ref z7, .ref z8, .ref z9, .int (nI z10), .ref z11, .ref z12, .ref z13, .ref z14, .ref z15, .int (nI z16), .ref z17, .int z18, .ref z19]))]) [0] (by decide) rfl
            have hKc := hK.sub (tys' := []) [] rfl
            have hFc := va_free (wc := [(za, .inr (13, [.int 0, .ref z1, .int (nI z2), .int (nI z3), .int z4, .int z5, .ref z6, .ref z7, .ref z8, .ref z9, .int (nI z10), .ref z11, .ref z12, .ref z13, .ref z14, .ref z15, .int (nI z16), .ref z17, .int z18, .ref z19]))]) hD hS hA [0] rfl
            refine va_calli (va_runV (As := [.int 10]) (rest := []) ⟨hx, hb, hml, hown, hg⟩ (m_refused l D H_20.size za 0 z1 (nI z2) (nI z3) z4 z5 z6 z7 z8 z9 (nI z10) z11 z12 z13 z14 z15 (nI z16) z17 z18 z19 10) (cwV 1 hg (gV wd_725 wd_726 wd_727 wd_717 wd_728) rfl rfl rfl (by decide +kernel) ⟨(Nat.le_trans (Nat.le_of_ble_eq_true rfl) hRf), (Nat.le_trans (Nat.le_of_ble_eq_true rfl) hRl)⟩) ⟨Pr.blind, va_recv hK hP (ci := 13) (q0 := 0) rfl rfl, fun U hU hW => ⟨rfl, Pr.at hPc hKc hDc hN hU hW⟩⟩ rfl rfl hl.1 rfl (lv_room (Nat.le_of_ble_eq_true rfl)) dX13_enters_86 ⟨(Nat.le_trans (Nat.le_of_ble_eq_true rfl) hRc), (Nat.le_trans (Nat.le_of_ble_eq_true rfl) hRs)⟩) hS (fun q _ h => hFc q h) hFc (fun r_168 M_169 t H_167 locs ht hvm hw hB hz1 hk1 hS => ?_)
            have hp_170 := hw
            obtain ⟨hP1, hK1, hD1⟩ := hB
            rw [ht] at hP1
            obtain ⟨hP, hD⟩ := va_joinQ (X := [(za, .inr (13, [.int 0, .ref z1, .int (nI z2), .int (nI z3), .int z4, .int z5, .ref z6, .ref z7, .ref z8, .ref z9, .int (nI z10), .ref z11, .ref z12, .ref z13, .ref z14, .ref z15, .int (nI z16), .ref z17, .int z18, .ref z19]))]) (cx := [(za, .inr (13, [.int 0, .ref z1, .int (nI z2), .int (nI z3), .int z4, .int z5, .ref z6, .ref z7, .ref z8, .ref z9, .int (nI z10), .ref z11, .ref z12, .ref z13, .ref z14, .ref z15, .int (nI z16), .ref z17, .int z18, .ref z19]))]) (wr := []) (w1 := [(za, .inr (13, [.int 0, .ref z1, .int (nI z2), .int (nI z3), .int 10, .int (-1), .ref z6, .ref z7, .ref z8, .ref z9, .int (nI z10), .ref z11, .ref z12, .ref z13, .ref z14, .ref z15, .int (nI z16), .ref z17, .int z18, .ref z19]))]) (pl := va_pl L M) hP hD [0] [] rfl rfl (by decide) (by decide) hk1 hFc hP1 hD1
            have hP : va_P D vwCl ([(za, .inr (13, [.int 0, .ref z1, .int (nI z2), .int (nI z3), .int 10, .int (-1), .ref z6, .ref z7, .ref z8, .ref z9, .int (nI z10), .ref z11, .ref z12, .ref z13, .ref z14, .ref z15, .int (nI z16), .ref z17, .int z18, .ref z19]))] ++ va_pl L M) H_167 := hP
            have hD : va_D A ([(za, .inr (13, [.int 0, .ref z1, .int (nI z2), .int (nI z3), .int 10, .int (-1), .ref z6, .ref z7, .ref z8, .ref z9, .int (nI z10), .ref z11, .ref z12, .ref z13, .ref z14, .ref z15, .int (nI z16), .ref z17, .int z18, .ref z19]))] ++ va_pl L M) := hD
            have hq := Eq.symm hp_170
            subst hq
            rw [hQ]
            exact W.iret (v := (-1)) hx hb hr (fun t ht hW9 => ⟨⟨(-1), M, rfl, ⟨hW, hF, hG, hGI, trivial⟩, ⟨10, (-1), by rw [ht]; exact hP, hD⟩⟩, hS.F ht⟩) hS.2.2 dX13_enters_89
      · have hz := rfl (a := 0)
        refine lv_if_ne (tgt := 55) hx hb dX13_enters_46 (by decide) (fun c_171 => absurd c_171 (by decide)) (fun _ => ?_)
        refine lv_aload_n hx hb dX13_enters_49 rfl (lv_at hl 1 rfl) ?_
        refine lv_iconst (v := 3) hx hb dX13_enters_50 (by decide) ?_
        have hPc := hP.sub (ws' := [(za, .inr (13, [.int 0, .ref z1, .int (nI z2), .int (nI z3), .int z4, .int z5, .ref z6, .ref z7, .ref z8, .ref z9, .int (nI z10), .ref z11, .ref z12, .ref z13, .ref z14, .ref z15, .int (nI z16), .ref z17, .int z18, .ref z19]))]) [0] rfl
        have hDc := hD.sub (ws' := [(za, .inr (13, [.int 0, .ref z1, .int (nI z2), .int (nI z3), .int z4, .int z5, .ref z6, .ref z7, .ref z8, .ref z9, .int (nI z10), .ref z11, .ref z12, .ref z13, .ref z14, .ref z15, .int (nI z16), .ref z17, .int z18, .ref z19]))]) [0] (by decide) rfl
        have hKc := hK.sub (tys' := []) [] rfl
        have hFc := va_free (wc := [(za, .inr (13, [.int 0, .ref z1, .int (nI z2), .int (nI z3), .int z4, .int z5, .ref z6, .ref z7, .ref z8, .ref z9, .int (nI z10), .ref z11, .ref z12, .ref z13, .ref z14, .ref z15, .int (nI z16), .ref z17, .int z18, .ref z19]))]) hD hS hA [0] rfl
        refine va_calli (va_runV (As := [.int 3]) (rest := []) ⟨hx, hb, hml, hown, hg⟩ (m_refused l D H_20.size za 0 z1 (nI z2) (nI z3) z4 z5 z6 z7 z8 z9 (nI z10) z11 z12 z13 z14 z15 (nI z16) z17 z18 z19 3) (cwV 1 hg (gV wd_725 wd_726 wd_727 wd_717 wd_728) rfl rfl rfl (by decide +kernel) ⟨(Nat.le_trans (Nat.le_of_ble_eq_true rfl) hRf), (Nat.le_trans (Nat.le_of_ble_eq_true rfl) hRl)⟩) ⟨Pr.blind, va_recv hK hP (ci := 13) (q0 := 0) rfl rfl, fun U hU hW => ⟨rfl, Pr.at hPc hKc hDc hN hU hW⟩⟩ rfl rfl hl.1 rfl (lv_room (Nat.le_of_ble_eq_true rfl)) dX13_enters_51 ⟨(Nat.le_trans (Nat.le_of_ble_eq_true rfl) hRc), (Nat.le_trans (Nat.le_of_ble_eq_true rfl) hRs)⟩) hS (fun q _ h => hFc q h) hFc (fun r_173 M_174 t H_172 locs ht hvm hw hB hz1 hk1 hS => ?_)
        have hp_175 := hw
        obtain ⟨hP1, hK1, hD1⟩ := hB
        rw [ht] at hP1
        obtain ⟨hP, hD⟩ := va_joinQ (X := [(za, .inr (13, [.int 0, .ref z1, .int (nI z2), .int (nI z3), .int z4, .int z5, .ref z6, .ref z7, .ref z8, .ref z9, .int (nI z10), .ref z11, .ref z12, .ref z13, .ref z14, .ref z15, .int (nI z16), .ref z17, .int z18, .ref z19]))]) (cx := [(za, .inr (13, [.int 0, .ref z1, .int (nI z2), .int (nI z3), .int z4, .int z5, .ref z6, .ref z7, .ref z8, .ref z9, .int (nI z10), .ref z11, .ref z12, .ref z13, .ref z14, .ref z15, .int (nI z16), .ref z17, .int z18, .ref z19]))]) (wr := []) (w1 := [(za, .inr (13, [.int 0, .ref z1, .int (nI z2), .int (nI z3), .int 3, .int (-1), .ref z6, .ref z7, .ref z8, .ref z9, .int (nI z10), .ref z11, .ref z12, .ref z13, .ref z14, .ref z15, .int (nI z16), .ref z17, .int z18, .ref z19]))]) (pl := va_pl L M) hP hD [0] [] rfl rfl (by decide) (by decide) hk1 hFc hP1 hD1
        have hP : va_P D vwCl ([(za, .inr (13, [.int 0, .ref z1, .int (nI z2), .int (nI z3), .int 3, .int (-1), .ref z6, .ref z7, .ref z8, .ref z9, .int (nI z10), .ref z11, .ref z12, .ref z13, .ref z14, .ref z15, .int (nI z16), .ref z17, .int z18, .ref z19]))] ++ va_pl L M) H_172 := hP
        have hD : va_D A ([(za, .inr (13, [.int 0, .ref z1, .int (nI z2), .int (nI z3), .int 3, .int (-1), .ref z6, .ref z7, .ref z8, .ref z9, .int (nI z10), .ref z11, .ref z12, .ref z13, .ref z14, .ref z15, .int (nI z16), .ref z17, .int z18, .ref z19]))] ++ va_pl L M) := hD
        have hq := Eq.symm hp_175
        subst hq
        rw [hQ]
        exact W.iret (v := (-1)) hx hb hr (fun t ht hW9 => ⟨⟨(-1), M, rfl, ⟨hW, hF, hG, hGI, trivial⟩, ⟨3, (-1), by rw [ht]; exact hP, hD⟩⟩, hS.F ht⟩) hS.2.2 dX13_enters_54
    · have hz := rfl (a := 0)
      refine lv_if_ne (tgt := 32) hx hb dX13_enters_23 (by decide) (fun c_176 => absurd c_176 (by decide)) (fun _ => ?_)
      refine lv_aload_n hx hb dX13_enters_26 rfl (lv_at hl 0 rfl) ?_
      refine lv_iconst (v := 2) hx hb dX13_enters_27 (by decide) ?_
      have hPc := hP.sub (ws' := [(za, .inr (13, [.int 0, .ref z1, .int (nI z2), .int (nI z3), .int z4, .int z5, .ref z6, .ref z7, .ref z8, .ref z9, .int (nI z10), .ref z11, .ref z12, .ref z13, .ref z14, .ref z15, .int (nI z16), .ref z17, .int z18, .ref z19]))]) [0] rfl
      have hDc := hD.sub (ws' := [(za, .inr (13, [.int 0, .ref z1, .int (nI z2), .int (nI z3), .int z4, .int z5, .ref z6, .ref z7, .ref z8, .ref z9, .int (nI z10), .ref z11, .ref z12, .ref z13, .ref z14, .ref z15, .int (nI z16), .ref z17, .int z18, .ref z19]))]) [0] (by decide) rfl
      have hKc := hK.sub (tys' := []) [] rfl
      have hFc := va_free (wc := [(za, .inr (13, [.int 0, .ref z1, .int (nI z2), .int (nI z3), .int z4, .int z5, .ref z6, .ref z7, .ref z8, .ref z9, .int (nI z10), .ref z11, .ref z12, .ref z13, .ref z14, .ref z15, .int (nI z16), .ref z17, .int z18, .ref z19]))]) hD hS hA [0] rfl
      refine va_calli (va_runV (As := [.int 2]) (rest := []) ⟨hx, hb, hml, hown, hg⟩ (m_refused l D H_9.size za 0 z1 (nI z2) (nI z3) z4 z5 z6 z7 z8 z9 (nI z10) z11 z12 z13 z14 z15 (nI z16) z17 z18 z19 2) (cwV 1 hg (gV wd_725 wd_726 wd_727 wd_717 wd_728) rfl rfl rfl (by decide +kernel) ⟨(Nat.le_trans (Nat.le_of_ble_eq_true rfl) hRf), (Nat.le_trans (Nat.le_of_ble_eq_true rfl) hRl)⟩) ⟨Pr.blind, va_recv hK hP (ci := 13) (q0 := 0) rfl rfl, fun U hU hW => ⟨rfl, Pr.at hPc hKc hDc hN hU hW⟩⟩ rfl rfl hl.1 rfl (lv_room (Nat.le_of_ble_eq_true rfl)) dX13_enters_28 ⟨(Nat.le_trans (Nat.le_of_ble_eq_true rfl) hRc), (Nat.le_trans (Nat.le_of_ble_eq_true rfl) hRs)⟩) hS (fun q _ h => hFc q h) hFc (fun r_178 M_179 t H_177 locs ht hvm hw hB hz1 hk1 hS => ?_)
      have hp_180 := hw
      obtain ⟨hP1, hK1, hD1⟩ := hB
      rw [ht] at hP1
      obtain ⟨hP, hD⟩ := va_joinQ (X := [(za, .inr (13, [.int 0, .ref z1, .int (nI z2), .int (nI z3), .int z4, .int z5, .ref z6, .ref z7, .ref z8, .ref z9, .int (nI z10), .ref z11, .ref z12, .ref z13, .ref z14, .ref z15, .int (nI z16), .ref z17, .int z18, .ref z19]))]) (cx := [(za, .inr (13, [.int 0, .ref z1, .int (nI z2), .int (nI z3), .int z4, .int z5, .ref z6, .ref z7, .ref z8, .ref z9, .int (nI z10), .ref z11, .ref z12, .ref z13, .ref z14, .ref z15, .int (nI z16), .ref z17, .int z18, .ref z19]))]) (wr := []) (w1 := [(za, .inr (13, [.int 0, .ref z1, .int (nI z2), .int (nI z3), .int 2, .int (-1), .ref z6, .ref z7, .ref z8, .ref z9, .int (nI z10), .ref z11, .ref z12, .ref z13, .ref z14, .ref z15, .int (nI z16), .ref z17, .int z18, .ref z19]))]) (pl := va_pl L M) hP hD [0] [] rfl rfl (by decide) (by decide) hk1 hFc hP1 hD1
      have hP : va_P D vwCl ([(za, .inr (13, [.int 0, .ref z1, .int (nI z2), .int (nI z3), .int 2, .int (-1), .ref z6, .ref z7, .ref z8, .ref z9, .int (nI z10), .ref z11, .ref z12, .ref z13, .ref z14, .ref z15, .int (nI z16), .ref z17, .int z18, .ref z19]))] ++ va_pl L M) H_177 := hP
      have hD : va_D A ([(za, .inr (13, [.int 0, .ref z1, .int (nI z2), .int (nI z3), .int 2, .int (-1), .ref z6, .ref z7, .ref z8, .ref z9, .int (nI z10), .ref z11, .ref z12, .ref z13, .ref z14, .ref z15, .int (nI z16), .ref z17, .int z18, .ref z19]))] ++ va_pl L M) := hD
      have hq := Eq.symm hp_180
      subst hq
      rw [hQ]
      exact W.iret (v := (-1)) hx hb hr (fun t ht hW9 => ⟨⟨(-1), M, rfl, ⟨hW, hF, hG, hGI, trivial⟩, ⟨2, (-1), by rw [ht]; exact hP, hD⟩⟩, hS.F ht⟩) hS.2.2 dX13_enters_31
  · have hz := rfl (a := 0)
    refine lv_if_ne (tgt := 19) hx hb dX13_enters_10 (by decide) (fun c_181 => absurd c_181 (by decide)) (fun _ => ?_)
    refine lv_aload_n hx hb dX13_enters_13 rfl (lv_at hl 0 rfl) ?_
    refine lv_iconst (v := 1) hx hb dX13_enters_14 (by decide) ?_
    have hPc := hP.sub (ws' := [(za, .inr (13, [.int 0, .ref z1, .int (nI z2), .int (nI z3), .int z4, .int z5, .ref z6, .ref z7, .ref z8, .ref z9, .int (nI z10), .ref z11, .ref z12, .ref z13, .ref z14, .ref z15, .int (nI z16), .ref z17, .int z18, .ref z19]))]) [0] rfl
    have hDc := hD.sub (ws' := [(za, .inr (13, [.int 0, .ref z1, .int (nI z2), .int (nI z3), .int z4, .int z5, .ref z6, .ref z7, .ref z8, .ref z9, .int (nI z10), .ref z11, .ref z12, .ref z13, .ref z14, .ref z15, .int (nI z16), .ref z17, .int z18, .ref z19]))]) [0] (by decide) rfl
    have hKc := hK.sub (tys' := []) [] rfl
    have hFc := va_free (wc := [(za, .inr (13, [.int 0, .ref z1, .int (nI z2), .int (nI z3), .int z4, .int z5, .ref z6, .ref z7, .ref z8, .ref z9, .int (nI z10), .ref z11, .ref z12, .ref z13, .ref z14, .ref z15, .int (nI z16), .ref z17, .int z18, .ref z19]))]) hD hS hA [0] rfl
    refine va_calli (va_runV (As := [.int 1]) (rest := []) ⟨hx, hb, hml, hown, hg⟩ (m_refused l D H_2.size za 0 z1 (nI z2) (nI z3) z4 z5 z6 z7 z8 z9 (nI z10) z11 z12 z13 z14 z15 (nI z16) z17 z18 z19 1) (cwV 1 hg (gV wd_725 wd_726 wd_727 wd_717 wd_728) rfl rfl rfl (by decide +kernel) ⟨(Nat.le_trans (Nat.le_of_ble_eq_true rfl) hRf), (Nat.le_trans (Nat.le_of_ble_eq_true rfl) hRl)⟩) ⟨Pr.blind, va_recv hK hP (ci := 13) (q0 := 0) rfl rfl, fun U hU hW => ⟨rfl, Pr.at hPc hKc hDc hN hU hW⟩⟩ rfl rfl hl.1 rfl (lv_room (Nat.le_of_ble_eq_true rfl)) dX13_enters_15 ⟨(Nat.le_trans (Nat.le_of_ble_eq_true rfl) hRc), (Nat.le_trans (Nat.le_of_ble_eq_true rfl) hRs)⟩) hS (fun q _ h => hFc q h) hFc (fun r_183 M_184 t H_182 locs ht hvm hw hB hz1 hk1 hS => ?_)
    have hp_185 := hw
    obtain ⟨hP1, hK1, hD1⟩ := hB
    rw [ht] at hP1
    obtain ⟨hP, hD⟩ := va_joinQ (X := [(za, .inr (13, [.int 0, .ref z1, .int (nI z2), .int (nI z3), .int z4, .int z5, .ref z6, .ref z7, .ref z8, .ref z9, .int (nI z10), .ref z11, .ref z12, .ref z13, .ref z14, .ref z15, .int (nI z16), .ref z17, .int z18, .ref z19]))]) (cx := [(za, .inr (13, [.int 0, .ref z1, .int (nI z2), .int (nI z3), .int z4, .int z5, .ref z6, .ref z7, .ref z8, .ref z9, .int (nI z10), .ref z11, .ref z12, .ref z13, .ref z14, .ref z15, .int (nI z16), .ref z17, .int z18, .ref z19]))]) (wr := []) (w1 := [(za, .inr (13, [.int 0, .ref z1, .int (nI z2), .int (nI z3), .int 1, .int (-1), .ref z6, .ref z7, .ref z8, .ref z9, .int (nI z10), .ref z11, .ref z12, .ref z13, .ref z14, .ref z15, .int (nI z16), .ref z17, .int z18, .ref z19]))]) (pl := va_pl L M) hP hD [0] [] rfl rfl (by decide) (by decide) hk1 hFc hP1 hD1
    have hP : va_P D vwCl ([(za, .inr (13, [.int 0, .ref z1, .int (nI z2), .int (nI z3), .int 1, .int (-1), .ref z6, .ref z7, .ref z8, .ref z9, .int (nI z10), .ref z11, .ref z12, .ref z13, .ref z14, .ref z15, .int (nI z16), .ref z17, .int z18, .ref z19]))] ++ va_pl L M) H_182 := hP
    have hD : va_D A ([(za, .inr (13, [.int 0, .ref z1, .int (nI z2), .int (nI z3), .int 1, .int (-1), .ref z6, .ref z7, .ref z8, .ref z9, .int (nI z10), .ref z11, .ref z12, .ref z13, .ref z14, .ref z15, .int (nI z16), .ref z17, .int z18, .ref z19]))] ++ va_pl L M) := hD
    have hq := Eq.symm hp_185
    subst hq
    rw [hQ]
    exact W.iret (v := (-1)) hx hb hr (fun t ht hW9 => ⟨⟨(-1), M, rfl, ⟨hW, hF, hG, hGI, trivial⟩, ⟨1, (-1), by rw [ht]; exact hP, hD⟩⟩, hS.F ht⟩) hS.2.2 dX13_enters_18
set_option maxHeartbeats 4000000 in
set_option maxRecDepth 100000 in
theorem r_X13_earn (l : Launch) (D : va_G) (cy : Nat → ClassId) (K : Kp) (L : List Nat) (M : Hp) (sz : Nat) (za : Nat) (z0 : Int32) (z1 : Nat) (z2 : Nat) (z3 : Nat) (z4 : Int32) (z5 : Int32) (z6 : Nat) (z7 : Nat) (z8 : Nat) (z9 : Nat) (z10 : Nat) (z11 : Nat) (z12 : Nat) (z13 : Nat) (z14 : Nat) (z15 : Nat) (z16 : Nat) (z17 : Nat) (z18 : Int32) (z19 : Nat) (k1 : Int32) (k2 : Int32) (k3 : Int32) (hW : WOM cy K L M) (i1 : isk K L z1 23 8) (b2 : z2 ≤ 8) (b3 : z3 ≤ 40) (i6 : isk K L z6 47 40) (i7 : isk K L z7 48 40) (i8 : isk K L z8 49 8) (i9 : isk K L z9 50 8) (b10 : z10 ≤ 8) (i11 : isk K L z11 32 24) (i12 : isk K L z12 14 24) (i13 : isk K L z13 15 24) (i14 : isk K L z14 15 24) (i15 : isk K L z15 15 24) (b16 : z16 ≤ 24) (i17 : isk K L z17 14 24) (i19 : isk K L z19 15 25) (hGI : GI K L z1 z2 M) : Met l yX13_earn (wsM yX13_earn cX13_earn 4 (some .int)) ({ frames := 2, cells := 0, slots := 0, locals := 48 }) (va_Pc [.ref za, .int k1, .int k2, .int k3] (PG D cy [(za, .inr (13, [.int z0, .ref z1, .int (nI z2), .int (nI z3), .int z4, .int z5, .ref z6, .ref z7, .ref z8, .ref z9, .int (nI z10), .ref z11, .ref z12, .ref z13, .ref z14, .ref z15, .int (nI z16), .ref z17, .int z18, .ref z19]))] L M sz)) (va_Qi (fun (r : Int32) (M9 : Hp) => WOM cy K L M9 ∧ fr K L [12, 15, 35, 36, 84] M M9 ∧ fG K L [16] M M9 ∧ (GI K L z1 z2 M9) ∧ (True)) (fun M9 t => ∃ (w4 : Int32) (w5 : Int32), PQ D [(za, .inr (13, [.int 0, .ref z1, .int (nI z2), .int (nI z3), .int w4, .int w5, .ref z6, .ref z7, .ref z8, .ref z9, .int (nI z10), .ref z11, .ref z12, .ref z13, .ref z14, .ref z15, .int (nI z16), .ref z17, .int z18, .ref z19]))] L M9 (va_A ([(za, .inr (13, [.int z0, .ref z1, .int (nI z2), .int (nI z3), .int z4, .int z5, .ref z6, .ref z7, .ref z8, .ref z9, .int (nI z10), .ref z11, .ref z12, .ref z13, .ref z14, .ref z15, .int (nI z16), .ref z17, .int z18, .ref z19]))] ++ va_pl L M) sz) t) (va_A ([(za, .inr (13, [.int z0, .ref z1, .int (nI z2), .int (nI z3), .int z4, .int z5, .ref z6, .ref z7, .ref z8, .ref z9, .int (nI z10), .ref z11, .ref z12, .ref z13, .ref z14, .ref z15, .int (nI z16), .ref z17, .int z18, .ref z19]))] ++ va_pl L M) sz)) 0 0 (va_A ([(za, .inr (13, [.int z0, .ref z1, .int (nI z2), .int (nI z3), .int z4, .int z5, .ref z6, .ref z7, .ref z8, .ref z9, .int (nI z10), .ref z11, .ref z12, .ref z13, .ref z14, .ref z15, .int (nI z16), .ref z17, .int z18, .ref z19]))] ++ va_pl L M) sz) := by
  refine Met.ofW (cc := cX13_earn) (maxL := 4) (ret := (some .int)) (by decide) rfl ?_
  intro p e s m args below meth c s₁ B hml hv
  obtain ⟨rfl, hsz, hP, hK, hD0, hN⟩ := hv
  have hx := B.exec
  have hb := B.bytes
  have hr := B.returns
  have hts := atoms_spec (ws := (wsM yX13_earn cX13_earn 4 (some .int))) B.pre
  have hg : ∀ w ∈ lw_good, w.before _ s = true := fun w h => hts w (List.mem_cons_of_mem _ h)
  have hown : s.vm.findClass RX13 = some m.cls := findClass_of_methodNamed B.named
  have hlocks := B.notSynchronized
  subst hsz
  have hD := hD0.self (sz := s.heap.size)
  generalize hAe : va_A ([(za, .inr (13, [.int z0, .ref z1, .int (nI z2), .int (nI z3), .int z4, .int z5, .ref z6, .ref z7, .ref z8, .ref z9, .int (nI z10), .ref z11, .ref z12, .ref z13, .ref z14, .ref z15, .int (nI z16), .ref z17, .int z18, .ref z19]))] ++ va_pl L M) s.heap.size = A at hD ⊢
  have hA : ∀ q : Nat, s.heap.size ≤ q → A q := fun q h => by rw [← hAe]; exact Or.inr h
  have hS : va_S A s.heap s.heap [] := va_S.rf
  have hl := lv_entry ([.ref za, .int k1, .int k2, .int k3]) (n := 4) (Nat.le_of_ble_eq_true rfl)
  rw [lg_entry_eq]
  generalize (lg_sl ([.ref za, .int k1, .int k2, .int k3]) ++ List.replicate (4 - (lg_sl ([.ref za, .int k1, .int k2, .int k3])).length) Slot.unset).toArray = ls at hl ⊢
  refine W.nameQ (fun Q hQ => ?_)
  refine W.nameR (fun R hR => ?_)
  have hRf : 2 ≤ R.frames := by rw [hR]; exact Nat.le_of_ble_eq_true rfl
  have hRl : 48 ≤ R.locals := by rw [hR]; exact Nat.le_of_ble_eq_true rfl
  have hRc : 0 ≤ R.cells := by rw [hR]; exact Nat.le_of_ble_eq_true rfl
  have hRs : 0 ≤ R.slots := by rw [hR]; exact Nat.le_of_ble_eq_true rfl
  have hF : fr K L [12, 15, 35, 36, 84] M M := fr.rf
  have hG : fG K L [16] M M := fG.rf
  have hl : lv_has ls 4 [(0, .ref za), (1, .int k1), (2, .int k2), (3, .int k3)] := hl
  refine lv_aload_n hx hb dX13_earn_0 rfl (lv_at hl 0 rfl) ?_
  refine lv_iload_n hx hb dX13_earn_1 rfl (lv_at hl 1 rfl) ?_
  refine lv_iload_n hx hb dX13_earn_2 rfl (lv_at hl 2 rfl) ?_
  refine lv_iload_n hx hb dX13_earn_3 rfl (lv_at hl 3 rfl) ?_
  refine lv_iconst (v := 1) hx hb dX13_earn_4 (by decide) ?_
  have hPc : va_P D vwCl ([(za, .inr (13, [.int z0, .ref z1, .int (nI z2), .int (nI z3), .int z4, .int z5, .ref z6, .ref z7, .ref z8, .ref z9, .int (nI z10), .ref z11, .ref z12, .ref z13, .ref z14, .ref z15, .int (nI z16), .ref z17, .int z18, .ref z19]))] ++ va_pl L M) s.heap := hP
  have hDc : va_D A ([(za, .inr (13, [.int z0, .ref z1, .int (nI z2), .int (nI z3), .int z4, .int z5, .ref z6, .ref z7, .ref z8, .ref z9, .int (nI z10), .ref z11, .ref z12, .ref z13, .ref z14, .ref z15, .int (nI z16), .ref z17, .int z18, .ref z19]))] ++ va_pl L M) := hD
  have hFc : ∀ q, va_A ([(za, .inr (13, [.int z0, .ref z1, .int (nI z2), .int (nI z3), .int z4, .int z5, .ref z6, .ref z7, .ref z8, .ref z9, .int (nI z10), .ref z11, .ref z12, .ref z13, .ref z14, .ref z15, .int (nI z16), .ref z17, .int z18, .ref z19]))] ++ va_pl L M) s.heap.size q → A q := pg_free hDc hS hA
  refine va_calli (va_runV (As := [.int k1, .int k2, .int k3, .int 1]) (rest := []) ⟨hx, hb, hml, hown, hg⟩ (g_X13_enters l D cy K L M s.heap.size za z0 z1 z2 z3 z4 z5 z6 z7 z8 z9 z10 z11 z12 z13 z14 z15 z16 z17 z18 z19 k1 k2 k3 1  hW i1 b2 b3 i6 i7 i8 i9 b10 i11 i12 i13 i14 i15 b16 i17 i19 hGI) (cwV 4 hg (gV wd_836 wd_837 wd_838 wd_717 wd_839) rfl rfl rfl (by decide +kernel) ⟨(Nat.le_trans (Nat.le_of_ble_eq_true rfl) hRf), (Nat.le_trans (Nat.le_of_ble_eq_true rfl) hRl)⟩) ⟨PG.blind, va_recv hK hP (ci := 13) (q0 := 0) rfl rfl, fun U hU hW => ⟨rfl, PG.at hPc hK hDc hN hU hW⟩⟩ rfl rfl hl.1 rfl (lv_room (Nat.le_of_ble_eq_true rfl)) dX13_earn_5 ⟨(Nat.le_trans (Nat.le_of_ble_eq_true rfl) hRc), (Nat.le_trans (Nat.le_of_ble_eq_true rfl) hRs)⟩) hS (fun q _ h => hFc q h) hFc (fun r_2 M_3 t H_1 locs ht hvm hw hB hz1 hk1 hS => ?_)
  have hWb := hW
  obtain ⟨hW, hF2, hG2, hVP, hp_4⟩ := hw
  obtain ⟨w4_5, w5_6, hP1, hD1⟩ := hB
  rw [ht] at hP1
  have hP : va_P D vwCl ([(za, .inr (13, [.int 0, .ref z1, .int (nI z2), .int (nI z3), .int w4_5, .int w5_6, .ref z6, .ref z7, .ref z8, .ref z9, .int (nI z10), .ref z11, .ref z12, .ref z13, .ref z14, .ref z15, .int (nI z16), .ref z17, .int z18, .ref z19]))] ++ va_pl L M_3) H_1 := hP1
  have hD : va_D A ([(za, .inr (13, [.int 0, .ref z1, .int (nI z2), .int (nI z3), .int w4_5, .int w5_6, .ref z6, .ref z7, .ref z8, .ref z9, .int (nI z10), .ref z11, .ref z12, .ref z13, .ref z14, .ref z15, .int (nI z16), .ref z17, .int z18, .ref z19]))] ++ va_pl L M_3) := hD1.mono hFc
  have hF : fr K L [12, 15, 35, 36, 84] M M_3 := hF.tr hF2 (by decide)
  have hG : fG K L [16] M M_3 := hG.tr hWb hG2 (by decide)
  rw [hQ]
  exact W.iret (v := r_2) hx hb hr (fun t ht hW9 => ⟨⟨r_2, M_3, rfl, ⟨hW, hF, hG, hVP, trivial⟩, ⟨w4_5, w5_6, by rw [ht]; exact hP, hD⟩⟩, hS.F ht⟩) hS.2.2 dX13_earn_8
set_option maxHeartbeats 4000000 in
set_option maxRecDepth 100000 in
theorem r_X13_spend (l : Launch) (D : va_G) (cy : Nat → ClassId) (K : Kp) (L : List Nat) (M : Hp) (sz : Nat) (za : Nat) (z0 : Int32) (z1 : Nat) (z2 : Nat) (z3 : Nat) (z4 : Int32) (z5 : Int32) (z6 : Nat) (z7 : Nat) (z8 : Nat) (z9 : Nat) (z10 : Nat) (z11 : Nat) (z12 : Nat) (z13 : Nat) (z14 : Nat) (z15 : Nat) (z16 : Nat) (z17 : Nat) (z18 : Int32) (z19 : Nat) (k1 : Int32) (k2 : Int32) (k3 : Int32) (hW : WOM cy K L M) (i1 : isk K L z1 23 8) (b2 : z2 ≤ 8) (b3 : z3 ≤ 40) (i6 : isk K L z6 47 40) (i7 : isk K L z7 48 40) (i8 : isk K L z8 49 8) (i9 : isk K L z9 50 8) (b10 : z10 ≤ 8) (i11 : isk K L z11 32 24) (i12 : isk K L z12 14 24) (i13 : isk K L z13 15 24) (i14 : isk K L z14 15 24) (i15 : isk K L z15 15 24) (b16 : z16 ≤ 24) (i17 : isk K L z17 14 24) (i19 : isk K L z19 15 25) (hGI : GI K L z1 z2 M) : Met l yX13_spend (wsM yX13_spend cX13_spend 4 (some .int)) ({ frames := 2, cells := 0, slots := 0, locals := 48 }) (va_Pc [.ref za, .int k1, .int k2, .int k3] (PG D cy [(za, .inr (13, [.int z0, .ref z1, .int (nI z2), .int (nI z3), .int z4, .int z5, .ref z6, .ref z7, .ref z8, .ref z9, .int (nI z10), .ref z11, .ref z12, .ref z13, .ref z14, .ref z15, .int (nI z16), .ref z17, .int z18, .ref z19]))] L M sz)) (va_Qi (fun (r : Int32) (M9 : Hp) => WOM cy K L M9 ∧ fr K L [12, 15, 35, 36, 84] M M9 ∧ fG K L [16] M M9 ∧ (GI K L z1 z2 M9) ∧ (True)) (fun M9 t => ∃ (w4 : Int32) (w5 : Int32), PQ D [(za, .inr (13, [.int 0, .ref z1, .int (nI z2), .int (nI z3), .int w4, .int w5, .ref z6, .ref z7, .ref z8, .ref z9, .int (nI z10), .ref z11, .ref z12, .ref z13, .ref z14, .ref z15, .int (nI z16), .ref z17, .int z18, .ref z19]))] L M9 (va_A ([(za, .inr (13, [.int z0, .ref z1, .int (nI z2), .int (nI z3), .int z4, .int z5, .ref z6, .ref z7, .ref z8, .ref z9, .int (nI z10), .ref z11, .ref z12, .ref z13, .ref z14, .ref z15, .int (nI z16), .ref z17, .int z18, .ref z19]))] ++ va_pl L M) sz) t) (va_A ([(za, .inr (13, [.int z0, .ref z1, .int (nI z2), .int (nI z3), .int z4, .int z5, .ref z6, .ref z7, .ref z8, .ref z9, .int (nI z10), .ref z11, .ref z12, .ref z13, .ref z14, .ref z15, .int (nI z16), .ref z17, .int z18, .ref z19]))] ++ va_pl L M) sz)) 0 0 (va_A ([(za, .inr (13, [.int z0, .ref z1, .int (nI z2), .int (nI z3), .int z4, .int z5, .ref z6, .ref z7, .ref z8, .ref z9, .int (nI z10), .ref z11, .ref z12, .ref z13, .ref z14, .ref z15, .int (nI z16), .ref z17, .int z18, .ref z19]))] ++ va_pl L M) sz) := by
  refine Met.ofW (cc := cX13_spend) (maxL := 4) (ret := (some .int)) (by decide) rfl ?_
  intro p e s m args below meth c s₁ B hml hv
  obtain ⟨rfl, hsz, hP, hK, hD0, hN⟩ := hv
  have hx := B.exec
  have hb := B.bytes
  have hr := B.returns
  have hts := atoms_spec (ws := (wsM yX13_spend cX13_spend 4 (some .int))) B.pre
  have hg : ∀ w ∈ lw_good, w.before _ s = true := fun w h => hts w (List.mem_cons_of_mem _ h)
  have hown : s.vm.findClass RX13 = some m.cls := findClass_of_methodNamed B.named
  have hlocks := B.notSynchronized
  subst hsz
  have hD := hD0.self (sz := s.heap.size)
  generalize hAe : va_A ([(za, .inr (13, [.int z0, .ref z1, .int (nI z2), .int (nI z3), .int z4, .int z5, .ref z6, .ref z7, .ref z8, .ref z9, .int (nI z10), .ref z11, .ref z12, .ref z13, .ref z14, .ref z15, .int (nI z16), .ref z17, .int z18, .ref z19]))] ++ va_pl L M) s.heap.size = A at hD ⊢
  have hA : ∀ q : Nat, s.heap.size ≤ q → A q := fun q h => by rw [← hAe]; exact Or.inr h
  have hS : va_S A s.heap s.heap [] := va_S.rf
  have hl := lv_entry ([.ref za, .int k1, .int k2, .int k3]) (n := 4) (Nat.le_of_ble_eq_true rfl)
  rw [lg_entry_eq]
  generalize (lg_sl ([.ref za, .int k1, .int k2, .int k3]) ++ List.replicate (4 - (lg_sl ([.ref za, .int k1, .int k2, .int k3])).length) Slot.unset).toArray = ls at hl ⊢
  refine W.nameQ (fun Q hQ => ?_)
  refine W.nameR (fun R hR => ?_)
  have hRf : 2 ≤ R.frames := by rw [hR]; exact Nat.le_of_ble_eq_true rfl
  have hRl : 48 ≤ R.locals := by rw [hR]; exact Nat.le_of_ble_eq_true rfl
  have hRc : 0 ≤ R.cells := by rw [hR]; exact Nat.le_of_ble_eq_true rfl
  have hRs : 0 ≤ R.slots := by rw [hR]; exact Nat.le_of_ble_eq_true rfl
  have hF : fr K L [12, 15, 35, 36, 84] M M := fr.rf
  have hG : fG K L [16] M M := fG.rf
  have hl : lv_has ls 4 [(0, .ref za), (1, .int k1), (2, .int k2), (3, .int k3)] := hl
  refine lv_aload_n hx hb dX13_spend_0 rfl (lv_at hl 0 rfl) ?_
  refine lv_iload_n hx hb dX13_spend_1 rfl (lv_at hl 1 rfl) ?_
  refine lv_iload_n hx hb dX13_spend_2 rfl (lv_at hl 2 rfl) ?_
  refine lv_iload_n hx hb dX13_spend_3 rfl (lv_at hl 3 rfl) ?_
  refine lv_iconst (v := (-1)) hx hb dX13_spend_4 (by decide) ?_
  have hPc : va_P D vwCl ([(za, .inr (13, [.int z0, .ref z1, .int (nI z2), .int (nI z3), .int z4, .int z5, .ref z6, .ref z7, .ref z8, .ref z9, .int (nI z10), .ref z11, .ref z12, .ref z13, .ref z14, .ref z15, .int (nI z16), .ref z17, .int z18, .ref z19]))] ++ va_pl L M) s.heap := hP
  have hDc : va_D A ([(za, .inr (13, [.int z0, .ref z1, .int (nI z2), .int (nI z3), .int z4, .int z5, .ref z6, .ref z7, .ref z8, .ref z9, .int (nI z10), .ref z11, .ref z12, .ref z13, .ref z14, .ref z15, .int (nI z16), .ref z17, .int z18, .ref z19]))] ++ va_pl L M) := hD
  have hFc : ∀ q, va_A ([(za, .inr (13, [.int z0, .ref z1, .int (nI z2), .int (nI z3), .int z4, .int z5, .ref z6, .ref z7, .ref z8, .ref z9, .int (nI z10), .ref z11, .ref z12, .ref z13, .ref z14, .ref z15, .int (nI z16), .ref z17, .int z18, .ref z19]))] ++ va_pl L M) s.heap.size q → A q := pg_free hDc hS hA
  refine va_calli (va_runV (As := [.int k1, .int k2, .int k3, .int (-1)]) (rest := []) ⟨hx, hb, hml, hown, hg⟩ (g_X13_enters l D cy K L M s.heap.size za z0 z1 z2 z3 z4 z5 z6 z7 z8 z9 z10 z11 z12 z13 z14 z15 z16 z17 z18 z19 k1 k2 k3 (-1)  hW i1 b2 b3 i6 i7 i8 i9 b10 i11 i12 i13 i14 i15 b16 i17 i19 hGI) (cwV 4 hg (gV wd_836 wd_837 wd_838 wd_717 wd_839) rfl rfl rfl (by decide +kernel) ⟨(Nat.le_trans (Nat.le_of_ble_eq_true rfl) hRf), (Nat.le_trans (Nat.le_of_ble_eq_true rfl) hRl)⟩) ⟨PG.blind, va_recv hK hP (ci := 13) (q0 := 0) rfl rfl, fun U hU hW => ⟨rfl, PG.at hPc hK hDc hN hU hW⟩⟩ rfl rfl hl.1 rfl (lv_room (Nat.le_of_ble_eq_true rfl)) dX13_spend_5 ⟨(Nat.le_trans (Nat.le_of_ble_eq_true rfl) hRc), (Nat.le_trans (Nat.le_of_ble_eq_true rfl) hRs)⟩) hS (fun q _ h => hFc q h) hFc (fun r_2 M_3 t H_1 locs ht hvm hw hB hz1 hk1 hS => ?_)
  have hWb := hW
  obtain ⟨hW, hF2, hG2, hVP, hp_4⟩ := hw
  obtain ⟨w4_5, w5_6, hP1, hD1⟩ := hB
  rw [ht] at hP1
  have hP : va_P D vwCl ([(za, .inr (13, [.int 0, .ref z1, .int (nI z2), .int (nI z3), .int w4_5, .int w5_6, .ref z6, .ref z7, .ref z8, .ref z9, .int (nI z10), .ref z11, .ref z12, .ref z13, .ref z14, .ref z15, .int (nI z16), .ref z17, .int z18, .ref z19]))] ++ va_pl L M_3) H_1 := hP1
  have hD : va_D A ([(za, .inr (13, [.int 0, .ref z1, .int (nI z2), .int (nI z3), .int w4_5, .int w5_6, .ref z6, .ref z7, .ref z8, .ref z9, .int (nI z10), .ref z11, .ref z12, .ref z13, .ref z14, .ref z15, .int (nI z16), .ref z17, .int z18, .ref z19]))] ++ va_pl L M_3) := hD1.mono hFc
  have hF : fr K L [12, 15, 35, 36, 84] M M_3 := hF.tr hF2 (by decide)
  have hG : fG K L [16] M M_3 := hG.tr hWb hG2 (by decide)
  rw [hQ]
  exact W.iret (v := r_2) hx hb hr (fun t ht hW9 => ⟨⟨r_2, M_3, rfl, ⟨hW, hF, hG, hVP, trivial⟩, ⟨w4_5, w5_6, by rw [ht]; exact hP, hD⟩⟩, hS.F ht⟩) hS.2.2 dX13_spend_8
set_option maxHeartbeats 4000000 in
set_option maxRecDepth 100000 in
theorem g_X13_undo (l : Launch) (D : va_G) (cy : Nat → ClassId) (K : Kp) (L : List Nat) (M : Hp) (sz : Nat) (za : Nat) (z0 : Int32) (z1 : Nat) (z2 : Nat) (z3 : Nat) (z4 : Int32) (z5 : Int32) (z6 : Nat) (z7 : Nat) (z8 : Nat) (z9 : Nat) (z10 : Nat) (z11 : Nat) (z12 : Nat) (z13 : Nat) (z14 : Nat) (z15 : Nat) (z16 : Nat) (z17 : Nat) (z18 : Int32) (z19 : Nat) (k1 : Int32) (hW : WOM cy K L M) (i1 : isk K L z1 23 8) (b2 : z2 ≤ 8) (b3 : z3 ≤ 40) (i6 : isk K L z6 47 40) (i7 : isk K L z7 48 40) (i8 : isk K L z8 49 8) (i9 : isk K L z9 50 8) (b10 : z10 ≤ 8) (i11 : isk K L z11 32 24) (i12 : isk K L z12 14 24) (i13 : isk K L z13 15 24) (i14 : isk K L z14 15 24) (i15 : isk K L z15 15 24) (b16 : z16 ≤ 24) (i17 : isk K L z17 14 24) (i19 : isk K L z19 15 25) (hGI : GI K L z1 z2 M) : Met l yX13_undo (wsM yX13_undo cX13_undo 4 (some .int)) ({ frames := 1, cells := 0, slots := 0, locals := 21 }) (va_Pc [.ref za, .int k1] (PG D cy [(za, .inr (13, [.int z0, .ref z1, .int (nI z2), .int (nI z3), .int z4, .int z5, .ref z6, .ref z7, .ref z8, .ref z9, .int (nI z10), .ref z11, .ref z12, .ref z13, .ref z14, .ref z15, .int (nI z16), .ref z17, .int z18, .ref z19]))] L M sz)) (va_Qi (fun (r : Int32) (M9 : Hp) => WOM cy K L M9 ∧ fr K L [12, 35] M M9 ∧ fG K L [14, 16] M M9 ∧ (GI K L z1 z2 M9) ∧ (True)) (fun M9 t => ∃ (w4 : Int32) (w5 : Int32), PQ D [(za, .inr (13, [.int 0, .ref z1, .int (nI z2), .int (nI z3), .int w4, .int w5, .ref z6, .ref z7, .ref z8, .ref z9, .int (nI z10), .ref z11, .ref z12, .ref z13, .ref z14, .ref z15, .int (nI z16), .ref z17, .int z18, .ref z19]))] L M9 (va_A ([(za, .inr (13, [.int z0, .ref z1, .int (nI z2), .int (nI z3), .int z4, .int z5, .ref z6, .ref z7, .ref z8, .ref z9, .int (nI z10), .ref z11, .ref z12, .ref z13, .ref z14, .ref z15, .int (nI z16), .ref z17, .int z18, .ref z19]))] ++ va_pl L M) sz) t) (va_A ([(za, .inr (13, [.int z0, .ref z1, .int (nI z2), .int (nI z3), .int z4, .int z5, .ref z6, .ref z7, .ref z8, .ref z9, .int (nI z10), .ref z11, .ref z12, .ref z13, .ref z14, .ref z15, .int (nI z16), .ref z17, .int z18, .ref z19]))] ++ va_pl L M) sz)) 0 0 (va_A ([(za, .inr (13, [.int z0, .ref z1, .int (nI z2), .int (nI z3), .int z4, .int z5, .ref z6, .ref z7, .ref z8, .ref z9, .int (nI z10), .ref z11, .ref z12, .ref z13, .ref z14, .ref z15, .int (nI z16), .ref z17, .int z18, .ref z19]))] ++ va_pl L M) sz) := by
  refine Met.ofW (cc := cX13_undo) (maxL := 4) (ret := (some .int)) (by decide) rfl ?_
  intro p e s m args below meth c s₁ B hml hv
  obtain ⟨rfl, hsz, hP, hK, hD0, hN⟩ := hv
  have hx := B.exec
  have hb := B.bytes
  have hr := B.returns
  have hts := atoms_spec (ws := (wsM yX13_undo cX13_undo 4 (some .int))) B.pre
  have hg : ∀ w ∈ lw_good, w.before _ s = true := fun w h => hts w (List.mem_cons_of_mem _ h)
  have hown : s.vm.findClass RX13 = some m.cls := findClass_of_methodNamed B.named
  have hlocks := B.notSynchronized
  subst hsz
  have hD := hD0.self (sz := s.heap.size)
  generalize hAe : va_A ([(za, .inr (13, [.int z0, .ref z1, .int (nI z2), .int (nI z3), .int z4, .int z5, .ref z6, .ref z7, .ref z8, .ref z9, .int (nI z10), .ref z11, .ref z12, .ref z13, .ref z14, .ref z15, .int (nI z16), .ref z17, .int z18, .ref z19]))] ++ va_pl L M) s.heap.size = A at hD ⊢
  have hA : ∀ q : Nat, s.heap.size ≤ q → A q := fun q h => by rw [← hAe]; exact Or.inr h
  have hS : va_S A s.heap s.heap [] := va_S.rf
  have hl := lv_entry ([.ref za, .int k1]) (n := 4) (Nat.le_of_ble_eq_true rfl)
  rw [lg_entry_eq]
  generalize (lg_sl ([.ref za, .int k1]) ++ List.replicate (4 - (lg_sl ([.ref za, .int k1])).length) Slot.unset).toArray = ls at hl ⊢
  refine W.nameQ (fun Q hQ => ?_)
  refine W.nameR (fun R hR => ?_)
  have hRf : 1 ≤ R.frames := by rw [hR]; exact Nat.le_of_ble_eq_true rfl
  have hRl : 21 ≤ R.locals := by rw [hR]; exact Nat.le_of_ble_eq_true rfl
  have hRc : 0 ≤ R.cells := by rw [hR]; exact Nat.le_of_ble_eq_true rfl
  have hRs : 0 ≤ R.slots := by rw [hR]; exact Nat.le_of_ble_eq_true rfl
  have hF : fr K L [12, 35] M M := fr.rf
  have hG : fG K L [14, 16] M M := fG.rf
  have hl : lv_has ls 4 [(0, .ref za), (1, .int k1)] := hl
  have hW0 := hW
  refine lv_aload_n hx hb dX13_undo_0 rfl (lv_at hl 0 rfl) ?_
  refine lv_iconst (v := 0) hx hb dX13_undo_1 (by decide) ?_
  refine va_put (D := D) (ci := 13) (v := .int 0) (ty := .int) (C := RX13) (T := TX13) (N := 20) hx hb hg inG13 tyX13 tyX13_ok nmX13 hown hK hP hD hS 0 rfl rfl 0 (by decide) (hg _ wd_720) (fun _ h9 => h9) rfl (by decide +kernel) rfl rfl (Nat.le_of_ble_eq_true rfl) dX13_undo_2 (fun H_1 locs hP hD hS => ?_)
  have hP : va_P D vwCl ([(za, .inr (13, [.int 0, .ref z1, .int (nI z2), .int (nI z3), .int z4, .int z5, .ref z6, .ref z7, .ref z8, .ref z9, .int (nI z10), .ref z11, .ref z12, .ref z13, .ref z14, .ref z15, .int (nI z16), .ref z17, .int z18, .ref z19]))] ++ va_pl L M) H_1 := hP
  have hD : va_D A ([(za, .inr (13, [.int 0, .ref z1, .int (nI z2), .int (nI z3), .int z4, .int z5, .ref z6, .ref z7, .ref z8, .ref z9, .int (nI z10), .ref z11, .ref z12, .ref z13, .ref z14, .ref z15, .int (nI z16), .ref z17, .int z18, .ref z19]))] ++ va_pl L M) := hD
  refine lv_aload_n hx hb dX13_undo_5 rfl (lv_at hl 0 rfl) ?_
  refine lv_iload_n hx hb dX13_undo_6 rfl (lv_at hl 1 rfl) ?_
  have hPc : va_P D vwCl ([(za, .inr (13, [.int 0, .ref z1, .int (nI z2), .int (nI z3), .int z4, .int z5, .ref z6, .ref z7, .ref z8, .ref z9, .int (nI z10), .ref z11, .ref z12, .ref z13, .ref z14, .ref z15, .int (nI z16), .ref z17, .int z18, .ref z19]))] ++ va_pl L M) H_1 := hP
  have hDc : va_D A ([(za, .inr (13, [.int 0, .ref z1, .int (nI z2), .int (nI z3), .int z4, .int z5, .ref z6, .ref z7, .ref z8, .ref z9, .int (nI z10), .ref z11, .ref z12, .ref z13, .ref z14, .ref z15, .int (nI z16), .ref z17, .int z18, .ref z19]))] ++ va_pl L M) := hD
  have hFc : ∀ q, va_A ([(za, .inr (13, [.int 0, .ref z1, .int (nI z2), .int (nI z3), .int z4, .int z5, .ref z6, .ref z7, .ref z8, .ref z9, .int (nI z10), .ref z11, .ref z12, .ref z13, .ref z14, .ref z15, .int (nI z16), .ref z17, .int z18, .ref z19]))] ++ va_pl L M) H_1.size q → A q := pg_free hDc hS hA
  refine va_calli (va_runV (As := [.int k1]) (rest := []) ⟨hx, hb, hml, hown, hg⟩ (r_X13_isHouse l D cy K L M H_1.size za 0 z1 z2 z3 z4 z5 z6 z7 z8 z9 z10 z11 z12 z13 z14 z15 z16 z17 z18 z19 k1  hW i1 b2 b3 i6 i7 i8 i9 b10 i11 i12 i13 i14 i15 b16 i17 i19) (cwV 1 hg (gV wd_714 wd_715 wd_716 wd_717 wd_718) rfl rfl rfl (by decide +kernel) ⟨(Nat.le_trans (Nat.le_of_ble_eq_true rfl) hRf), (Nat.le_trans (Nat.le_of_ble_eq_true rfl) hRl)⟩) ⟨PG.blind, va_recv hK hP (ci := 13) (q0 := 0) rfl rfl, fun U hU hW => ⟨rfl, PG.at hPc hK hDc hN hU hW⟩⟩ rfl rfl hl.1 rfl (lv_room (Nat.le_of_ble_eq_true rfl)) dX13_undo_7 ⟨(Nat.le_trans (Nat.le_of_ble_eq_true rfl) hRc), (Nat.le_trans (Nat.le_of_ble_eq_true rfl) hRs)⟩) hS (fun q _ h => hFc q h) hFc (fun r_3 M_4 t H_2 locs ht hvm hw hB hz1 hk1 hS => ?_)
  have hp_5 := hw
  obtain ⟨hP1, hD1⟩ := hB
  rw [ht] at hP1
  have hP : va_P D vwCl ([(za, .inr (13, [.int 0, .ref z1, .int (nI z2), .int (nI z3), .int z4, .int z5, .ref z6, .ref z7, .ref z8, .ref z9, .int (nI z10), .ref z11, .ref z12, .ref z13, .ref z14, .ref z15, .int (nI z16), .ref z17, .int z18, .ref z19]))] ++ va_pl L M) H_2 := hP1
  have hD : va_D A ([(za, .inr (13, [.int 0, .ref z1, .int (nI z2), .int (nI z3), .int z4, .int z5, .ref z6, .ref z7, .ref z8, .ref z9, .int (nI z10), .ref z11, .ref z12, .ref z13, .ref z14, .ref z15, .int (nI z16), .ref z17, .int z18, .ref z19]))] ++ va_pl L M) := hD1.mono hFc
  rcases hp_5 with ⟨rfl, c_6, c_7⟩ | rfl
  · have hz := rfl (a := 0)
    refine lv_if_ne (tgt := 19) hx hb dX13_undo_10 (by decide) (fun _ => ?_) (fun c_8 => absurd c_8 (by decide))
    refine lv_aload_n hx hb dX13_undo_19 rfl (lv_at hl 0 rfl) ?_
    refine va_get (D := D) (ci := 13) (v := .ref z1) (C := RX13) (T := TX13) (N := 20) hx hb hg inG13 hown hK hP 0 rfl rfl 1 (by decide) (hg _ wd_739) (fun _ h9 => h9) rfl dX13_undo_20 ?_
    refine lv_iload_n hx hb dX13_undo_23 rfl (lv_at hl 1 rfl) ?_
    obtain ⟨f9, hM9, hf9⟩ := hW.open_23 i1
    have hi_10 : vp_in k1 8 := (inbW (a := z2) (by omega) (inb k1 z2 (by omega) c_6 c_7))
    refine pg_aldq hx hb hK hP i1.1 9 hM9 rfl hi_10 dX13_undo_24 ?_
    obtain ⟨b11, eb_12, hb_13⟩ := hf9 _ (vp_lt hi_10)
    rw [eb_12]
    have hact : ACT z1 z2 b11 M := ⟨(k1 : Int32).toNatClampNeg, vp_lt (inb k1 z2 (by omega) c_6 c_7), by rw [show RFc (M z1) = f9 from by rw [hM9]; rfl]; exact eb_12⟩
    have hAT := GI.at hGI hact
    have hV : VW K L M M b11 (fx M b11) (ax M b11) := VW.rf b11 hGI.2.2.2
    refine lv_astore_n (lv' := [(2, .ref b11), (0, .ref za), (1, .int k1)]) hx hb dX13_undo_25 rfl hl (by decide) rfl (fun ls hl => ?_)
    refine lv_aload_n hx hb dX13_undo_26 rfl (lv_at hl 0 rfl) ?_
    obtain ⟨fs14, hM14, hn14, hl14⟩ := hW.open_12 hb_13
    obtain ⟨v15, hv15, hc15⟩ : ∃ v : Nat, fs14[16]? = some (.int (nI v) : Value) ∧ v ≤ 60 := hl14 16 (by decide)
    refine pg_getN (D := D) (ci := 12) (v := .int (nI v15)) (C := RX12) (T := TX12) (N := 51) hx hb hg inG12 hown hK hP hb_13.1 hM14 rfl 16 (by decide) (hN.use (Cond.fieldLinkNest RX13 161 RX12 "undone" "I" RX13) 25 rfl rfl) (fun _ h9 => h9) hv15 dX13_undo_27 ?_
    refine lv_if_ne (tgt := 39) hx hb dX13_undo_30 (by decide) (fun c_16 => ?_) (fun c_16 => ?_)
    · have hz := rfl (a := 0)
      have n_17 : ¬ (v15 = 0) := fun q => c_16 ((iEQ (a := v15) (b := 0) (by omega) (by omega)).mpr q)
      have hx16 : (fx M b11 16) = ((v15 : Nat) : Int) := (congrFun hV.2.1 16).symm.trans ((fx_of hM14 rfl hv15).trans (nI_toInt (by omega)))
      obtain ⟨v18, hv18, hc18⟩ : ∃ v : Nat, fs14[14]? = some (.int (nI v) : Value) ∧ v ≤ 120 := hl14 14 (by decide)
      have hx14 : (fx M b11 14) = ((v18 : Nat) : Int) := (congrFun hV.2.1 14).symm.trans ((fx_of hM14 rfl hv18).trans (nI_toInt (by omega)))
      obtain ⟨v19, hv19, hc19⟩ : ∃ v : Nat, fs14[43]? = some (.ref v : Value) ∧ isk K L v 36 60 := hl14 43 (by decide)
      obtain ⟨f20, hM20, hf20⟩ := hW.open_36 hc19
      have hy43 : (ax M b11 43) = f20 := (congrFun hV.2.2.1 43).symm.trans (ax_of hM14 (by decide) hv19 hM20)
      obtain ⟨v21, hv21, hc21⟩ : ∃ v : Nat, fs14[3]? = some (.ref v : Value) ∧ isk K L v 35 1000 := hl14 3 (by decide)
      obtain ⟨f22, hM22, hf22⟩ := hW.open_35 hc21
      have hy3 : (ax M b11 3) = f22 := (congrFun hV.2.2.1 3).symm.trans (ax_of hM14 (by decide) hv21 hM22)
      refine lv_aload_n hx hb dX13_undo_39 rfl (lv_at hl 0 rfl) ?_
      refine lv_dup hx hb dX13_undo_40 rfl ?_
      refine pg_getN (D := D) (ci := 12) (v := .int (nI v15)) (C := RX12) (T := TX12) (N := 51) hx hb hg inG12 hown hK hP hb_13.1 hM14 rfl 16 (by decide) (hN.use (Cond.fieldLinkNest RX13 161 RX12 "undone" "I" RX13) 25 rfl rfl) (fun _ h9 => h9) hv15 dX13_undo_41 ?_
      refine lv_iconst (v := 1) hx hb dX13_undo_44 (by decide) ?_
      refine lv_isub hx hb dX13_undo_45 ?_
      refine lv_topi (fun f_23 ef_23 => ?_)
      obtain rfl : f_23 = (nI (v15 - 1)) := ef_23.trans (nI_prd (by omega))
      refine pg_putN (D := D) (ci := 12) (v := .int (nI (v15 - 1))) (ty := .int) (C := RX12) (T := TX12) (N := 51) hx hb hg inG12 tyX12 tyX12_ok nmX12 hown hK hP hD hS hb_13.1 hM14 rfl 16 (by decide) (hN.use (Cond.fieldLinkNest RX13 161 RX12 "undone" "I" RX13) 25 rfl rfl) (fun _ h9 => h9) rfl (by decide +kernel) rfl rfl (by rw [hn14]; decide) dX13_undo_46 (fun H_24 locs hP hD hS => ?_)
      have hs_27 : (fs14.set 16 (.int (nI (v15 - 1))))[16]? = some (.int (nI (v15 - 1))) := List.getElem?_set_self (by rw [hn14]; decide)
      have hk_26 := fld12_set (k := 16) (w := .int (nI (v15 - 1))) hl14 (show fld12 K L 16 (fs14.set 16 (.int (nI (v15 - 1)))) from ⟨(v15 - 1), hs_27, by omega⟩)
      have hn_28 : (fs14.set 16 (.int (nI (v15 - 1)))).length = 51 := by rw [List.length_set]; exact hn14
      have hv_29 : (fs14.set 16 (.int (nI (v15 - 1))))[14]? = some (.int (nI v18)) := by rw [List.getElem?_set_ne (by decide)]; exact hv18
      have hv_30 : (fs14.set 16 (.int (nI (v15 - 1))))[43]? = some (.ref v19) := by rw [List.getElem?_set_ne (by decide)]; exact hv19
      have hv_31 : (fs14.set 16 (.int (nI (v15 - 1))))[3]? = some (.ref v21) := by rw [List.getElem?_set_ne (by decide)]; exact hv21
      have hb_32 : (v15 - 1) ≤ 60 := by omega
      obtain ⟨M_33, eM_33⟩ : ∃ M1 : Hp, M1 = va_up M b11 (.inr (12, fs14.set 16 (.int (nI (v15 - 1))))) := ⟨_, rfl⟩
      have hx16 : (fx M b11 16) = ((v15 : Nat) : Int) := (congrFun hV.2.1 16).symm.trans ((fx_of hM14 rfl hv15).trans (nI_toInt (by omega)))
      have hV : VW K L M M_33 b11 (va_up (fx M b11) 16 (((v15 - 1) : Nat) : Int)) (ax M b11) := by rw [eM_33]; exact hV.put hW hb_13 hM14 hn14 rfl (by decide) rfl (nI_toInt (by omega))
      have hP : va_P D vwCl ([(za, .inr (13, [.int 0, .ref z1, .int (nI z2), .int (nI z3), .int z4, .int z5, .ref z6, .ref z7, .ref z8, .ref z9, .int (nI z10), .ref z11, .ref z12, .ref z13, .ref z14, .ref z15, .int (nI z16), .ref z17, .int z18, .ref z19]))] ++ va_pl L M_33) H_24 := by rw [eM_33]; exact hP
      have hD : va_D A ([(za, .inr (13, [.int 0, .ref z1, .int (nI z2), .int (nI z3), .int z4, .int z5, .ref z6, .ref z7, .ref z8, .ref z9, .int (nI z10), .ref z11, .ref z12, .ref z13, .ref z14, .ref z15, .int (nI z16), .ref z17, .int z18, .ref z19]))] ++ va_pl L M_33) := by rw [eM_33]; exact hD
      have hW : WOM cy K L M_33 := by rw [eM_33]; exact hW.up_12 hb_13 ⟨_, rfl, hn_28, hk_26⟩
      have hF : fr K L [12, 35] M M_33 := by rw [eM_33]; exact hF.up hb_13 (by decide)
      have hG : fG K L [14, 16] M M_33 := by rw [eM_33]; exact hG.up hM14 (by decide)
      have hM_34 : M_33 b11 = .inr (12, fs14.set 16 (.int (nI (v15 - 1)))) := by rw [eM_33]; exact va_up_self _ _ _
      have hM_35 : M_33 z1 = .inl (cy 23, 8, .inr (.inr (.inr (.inr (f9))))) := by rw [eM_33, va_up_ne _ _ (i1.neT hb_13 (by decide))]; exact hM9
      have hM_36 : M_33 v19 = .inl (cy 14, 60, .inl (f20)) := by rw [eM_33, va_up_ne _ _ (hc19.neT hb_13 (by decide))]; exact hM20
      have hM_37 : M_33 v21 = .inl (cy 14, 1000, .inl (f22)) := by rw [eM_33, va_up_ne _ _ (hc21.neT hb_13 (by decide))]; exact hM22
      refine lv_aload_n hx hb dX13_undo_49 rfl (lv_at hl 0 rfl) ?_
      refine pg_getN (D := D) (ci := 12) (v := .ref v19) (C := RX12) (T := TX12) (N := 51) hx hb hg inG12 hown hK hP hb_13.1 hM_34 rfl 43 (by decide) (hN.use (Cond.fieldLinkNest RX13 210 RX12 "latest" "[I" RX13) 52 rfl rfl) (fun _ h9 => h9) hv_30 dX13_undo_50 ?_
      refine lv_aload_n hx hb dX13_undo_53 rfl (lv_at hl 0 rfl) ?_
      refine pg_getN (D := D) (ci := 12) (v := .int (nI (v15 - 1))) (C := RX12) (T := TX12) (N := 51) hx hb hg inG12 hown hK hP hb_13.1 hM_34 rfl 16 (by decide) (hN.use (Cond.fieldLinkNest RX13 161 RX12 "undone" "I" RX13) 25 rfl rfl) (fun _ h9 => h9) hs_27 dX13_undo_54 ?_
      have hi_38 : vp_in (nI (v15 - 1)) 60 := (inbN (v15 - 1) 60 (by omega) (by omega))
      refine pg_iald hx hb hK hP hc19.1 0 hM_36 rfl hi_38 dX13_undo_57 ?_
      have hp_39 := hf20 _ (vp_lt hi_38)
      rcases hp_39 with ec_42 | ⟨c_40, hc_41, ec_42⟩
      · rw [ec_42]
        refine lv_istore_n (lv' := [(3, .int (-1)), (2, .ref b11), (0, .ref za), (1, .int k1)]) hx hb dX13_undo_58 rfl hl (by decide) rfl (fun ls hl => ?_)
        refine lv_iload_n hx hb dX13_undo_59 rfl (lv_at hl 0 rfl) ?_
        refine lv_iconst (v := (-1)) hx hb dX13_undo_60 (by decide) ?_
        refine lv_icmp_ne (tgt := 77) hx hb dX13_undo_61 (by decide) (fun c_43 => absurd c_43 (by decide)) (fun _ => ?_)
        have hu9 : fx M b11 16 = (((v15 - 1) + 1 : Nat) : Int) := by rw [hx16]; omega
        have hl9 : ax M b11 43 (v15 - 1) = (-1) := by
          have h := ec_42
          rw [nI_cl (by omega)] at h
          rw [hy43]; exact h
        have hm9 := HB.undoM (mv' := fx M b11 14 - 1) hAT.2.1 hu9 hl9 rfl
        have hm1 : 1 ≤ v18 := by have h := hm9.2; omega
        refine lv_aload_n hx hb dX13_undo_64 rfl (lv_at hl 1 rfl) ?_
        refine lv_dup hx hb dX13_undo_65 rfl ?_
        refine pg_getN (D := D) (ci := 12) (v := .int (nI v18)) (C := RX12) (T := TX12) (N := 51) hx hb hg inG12 hown hK hP hb_13.1 hM_34 rfl 14 (by decide) (hN.use (Cond.fieldLinkNest RX13 193 RX12 "moves" "I" RX13) 23 rfl rfl) (fun _ h9 => h9) hv_29 dX13_undo_66 ?_
        refine lv_iconst (v := 1) hx hb dX13_undo_69 (by decide) ?_
        refine lv_isub hx hb dX13_undo_70 ?_
        refine lv_topi (fun f_44 ef_44 => ?_)
        obtain rfl : f_44 = (nI (v18 - 1)) := ef_44.trans (nI_prd (by omega))
        refine pg_putN (D := D) (ci := 12) (v := .int (nI (v18 - 1))) (ty := .int) (C := RX12) (T := TX12) (N := 51) hx hb hg inG12 tyX12 tyX12_ok nmX12 hown hK hP hD hS hb_13.1 hM_34 rfl 14 (by decide) (hN.use (Cond.fieldLinkNest RX13 193 RX12 "moves" "I" RX13) 23 rfl rfl) (fun _ h9 => h9) rfl (by decide +kernel) rfl rfl (by rw [hn_28]; decide) dX13_undo_71 (fun H_45 locs hP hD hS => ?_)
        have hs_48 : ((fs14.set 16 (.int (nI (v15 - 1)))).set 14 (.int (nI (v18 - 1))))[14]? = some (.int (nI (v18 - 1))) := List.getElem?_set_self (by rw [hn_28]; decide)
        have hk_47 := fld12_set (k := 14) (w := .int (nI (v18 - 1))) hk_26 (show fld12 K L 14 ((fs14.set 16 (.int (nI (v15 - 1)))).set 14 (.int (nI (v18 - 1)))) from ⟨(v18 - 1), hs_48, by omega⟩)
        have hn_49 : ((fs14.set 16 (.int (nI (v15 - 1)))).set 14 (.int (nI (v18 - 1)))).length = 51 := by rw [List.length_set]; exact hn_28
        have hv_50 : ((fs14.set 16 (.int (nI (v15 - 1)))).set 14 (.int (nI (v18 - 1))))[43]? = some (.ref v19) := by rw [List.getElem?_set_ne (by decide)]; exact hv_30
        have hv_51 : ((fs14.set 16 (.int (nI (v15 - 1)))).set 14 (.int (nI (v18 - 1))))[3]? = some (.ref v21) := by rw [List.getElem?_set_ne (by decide)]; exact hv_31
        have hv_52 : ((fs14.set 16 (.int (nI (v15 - 1)))).set 14 (.int (nI (v18 - 1))))[16]? = some (.int (nI (v15 - 1))) := by rw [List.getElem?_set_ne (by decide)]; exact hs_27
        have hb_53 : (v18 - 1) ≤ 120 := by omega
        obtain ⟨M_54, eM_54⟩ : ∃ M1 : Hp, M1 = va_up M_33 b11 (.inr (12, (fs14.set 16 (.int (nI (v15 - 1)))).set 14 (.int (nI (v18 - 1))))) := ⟨_, rfl⟩
        have hx14 : (fx M b11 14) = ((v18 : Nat) : Int) := (congrFun hV.2.1 14).symm.trans ((fx_of hM_34 rfl hv_29).trans (nI_toInt (by omega)))
        have hV : VW K L M M_54 b11 (va_up (va_up (fx M b11) 16 (((v15 - 1) : Nat) : Int)) 14 (((v18 - 1) : Nat) : Int)) (ax M b11) := by rw [eM_54]; exact hV.put hW hb_13 hM_34 hn_28 rfl (by decide) rfl (nI_toInt (by omega))
        have hP : va_P D vwCl ([(za, .inr (13, [.int 0, .ref z1, .int (nI z2), .int (nI z3), .int z4, .int z5, .ref z6, .ref z7, .ref z8, .ref z9, .int (nI z10), .ref z11, .ref z12, .ref z13, .ref z14, .ref z15, .int (nI z16), .ref z17, .int z18, .ref z19]))] ++ va_pl L M_54) H_45 := by rw [eM_54]; exact hP
        have hD : va_D A ([(za, .inr (13, [.int 0, .ref z1, .int (nI z2), .int (nI z3), .int z4, .int z5, .ref z6, .ref z7, .ref z8, .ref z9, .int (nI z10), .ref z11, .ref z12, .ref z13, .ref z14, .ref z15, .int (nI z16), .ref z17, .int z18, .ref z19]))] ++ va_pl L M_54) := by rw [eM_54]; exact hD
        have hW : WOM cy K L M_54 := by rw [eM_54]; exact hW.up_12 hb_13 ⟨_, rfl, hn_49, hk_47⟩
        have hF : fr K L [12, 35] M M_54 := by rw [eM_54]; exact hF.up hb_13 (by decide)
        have hG : fG K L [14, 16] M M_54 := by rw [eM_54]; exact hG.up hM_34 (by decide)
        have hM_55 : M_54 b11 = .inr (12, (fs14.set 16 (.int (nI (v15 - 1)))).set 14 (.int (nI (v18 - 1)))) := by rw [eM_54]; exact va_up_self _ _ _
        have hM_56 : M_54 z1 = .inl (cy 23, 8, .inr (.inr (.inr (.inr (f9))))) := by rw [eM_54, va_up_ne _ _ (i1.neT hb_13 (by decide))]; exact hM_35
        have hM_57 : M_54 v19 = .inl (cy 14, 60, .inl (f20)) := by rw [eM_54, va_up_ne _ _ (hc19.neT hb_13 (by decide))]; exact hM_36
        have hM_58 : M_54 v21 = .inl (cy 14, 1000, .inl (f22)) := by rw [eM_54, va_up_ne _ _ (hc21.neT hb_13 (by decide))]; exact hM_37
        refine lv_goto (tgt := 87) hx hb dX13_undo_74 (by decide) ?_
        refine lv_aload_n hx hb dX13_undo_87 rfl (lv_at hl 2 rfl) ?_
        refine lv_iconst (v := 1) hx hb dX13_undo_88 (by decide) ?_
        have hPc := hP.sub (ws' := [(za, .inr (13, [.int 0, .ref z1, .int (nI z2), .int (nI z3), .int z4, .int z5, .ref z6, .ref z7, .ref z8, .ref z9, .int (nI z10), .ref z11, .ref z12, .ref z13, .ref z14, .ref z15, .int (nI z16), .ref z17, .int z18, .ref z19]))]) [0] rfl
        have hDc := hD.sub (ws' := [(za, .inr (13, [.int 0, .ref z1, .int (nI z2), .int (nI z3), .int z4, .int z5, .ref z6, .ref z7, .ref z8, .ref z9, .int (nI z10), .ref z11, .ref z12, .ref z13, .ref z14, .ref z15, .int (nI z16), .ref z17, .int z18, .ref z19]))]) [0] (by decide) rfl
        have hKc := hK.sub (tys' := []) [] rfl
        have hFc := va_free (wc := [(za, .inr (13, [.int 0, .ref z1, .int (nI z2), .int (nI z3), .int z4, .int z5, .ref z6, .ref z7, .ref z8, .ref z9, .int (nI z10), .ref z11, .ref z12, .ref z13, .ref z14, .ref z15, .int (nI z16), .ref z17, .int z18, .ref z19]))]) hD hS hA [0] rfl
        refine va_calli (va_runV (As := [.int 1]) (rest := []) ⟨hx, hb, hml, hown, hg⟩ (m_done l D H_45.size za 0 z1 (nI z2) (nI z3) z4 z5 z6 z7 z8 z9 (nI z10) z11 z12 z13 z14 z15 (nI z16) z17 z18 z19 1) (cwV 1 hg (gV wd_730 wd_731 wd_732 wd_717 wd_733) rfl rfl rfl (by decide +kernel) ⟨(Nat.le_trans (Nat.le_of_ble_eq_true rfl) hRf), (Nat.le_trans (Nat.le_of_ble_eq_true rfl) hRl)⟩) ⟨Pr.blind, va_recv hK hP (ci := 13) (q0 := 0) rfl rfl, fun U hU hW => ⟨rfl, Pr.at hPc hKc hDc hN hU hW⟩⟩ rfl rfl hl.1 rfl (lv_room (Nat.le_of_ble_eq_true rfl)) dX13_undo_89 ⟨(Nat.le_trans (Nat.le_of_ble_eq_true rfl) hRc), (Nat.le_trans (Nat.le_of_ble_eq_true rfl) hRs)⟩) hS (fun q _ h => hFc q h) hFc (fun r_60 M_61 t H_59 locs ht hvm hw hB hz1 hk1 hS => ?_)
        have hp_62 := hw
        obtain ⟨hP1, hK1, hD1⟩ := hB
        rw [ht] at hP1
        obtain ⟨hP, hD⟩ := va_joinQ (X := [(za, .inr (13, [.int 0, .ref z1, .int (nI z2), .int (nI z3), .int z4, .int z5, .ref z6, .ref z7, .ref z8, .ref z9, .int (nI z10), .ref z11, .ref z12, .ref z13, .ref z14, .ref z15, .int (nI z16), .ref z17, .int z18, .ref z19]))]) (cx := [(za, .inr (13, [.int 0, .ref z1, .int (nI z2), .int (nI z3), .int z4, .int z5, .ref z6, .ref z7, .ref z8, .ref z9, .int (nI z10), .ref z11, .ref z12, .ref z13, .ref z14, .ref z15, .int (nI z16), .ref z17, .int z18, .ref z19]))]) (wr := []) (w1 := [(za, .inr (13, [.int 0, .ref z1, .int (nI z2), .int (nI z3), .int 0, .int (-1), .ref z6, .ref z7, .ref z8, .ref z9, .int (nI z10), .ref z11, .ref z12, .ref z13, .ref z14, .ref z15, .int (nI z16), .ref z17, .int z18, .ref z19]))]) (pl := va_pl L M_54) hP hD [0] [] rfl rfl (by decide) (by decide) hk1 hFc hP1 hD1
        have hP : va_P D vwCl ([(za, .inr (13, [.int 0, .ref z1, .int (nI z2), .int (nI z3), .int 0, .int (-1), .ref z6, .ref z7, .ref z8, .ref z9, .int (nI z10), .ref z11, .ref z12, .ref z13, .ref z14, .ref z15, .int (nI z16), .ref z17, .int z18, .ref z19]))] ++ va_pl L M_54) H_59 := hP
        have hD : va_D A ([(za, .inr (13, [.int 0, .ref z1, .int (nI z2), .int (nI z3), .int 0, .int (-1), .ref z6, .ref z7, .ref z8, .ref z9, .int (nI z10), .ref z11, .ref z12, .ref z13, .ref z14, .ref z15, .int (nI z16), .ref z17, .int z18, .ref z19]))] ++ va_pl L M_54) := hD
        have hq := Eq.symm hp_62
        subst hq
        have hA9 : HA (ax M b11 2) (ax M b11 3) := hAT.1
        have hB9 : HB (((v15 - 1) : Nat) : Int) (((v18 - 1) : Nat) : Int) (ax M b11 3) (ax M b11 43) := (HB.undoM hAT.2.1 hu9 hl9 (by omega)).1
        have hC9 : HC (fx M b11 10) (ax M b11 22) (ax M b11 23) := hAT.2.2.1
        have hD9 : HD (fx M b11 0) (fx M b11 11) (fx M b11 15) (ax M b11 34) (ax M b11 41) := hAT.2.2.2.1
        have hE9 : HE (fx M b11 0) (fx M b11 1) (fx M b11 12) (fx M b11 13) (ax M b11 37) := hAT.2.2.2.2
        have hH9 : HI (va_up (va_up (fx M b11) 16 (((v15 - 1) : Nat) : Int)) 14 (((v18 - 1) : Nat) : Int)) (ax M b11) := ⟨hA9, hB9, hC9, hD9, hE9⟩
        have hGI9 : GI K L z1 z2 M_54 := GI.fin hW0 i1 b2 hGI hact hV (hF.at i1 (by decide)) hH9
        rw [hQ]
        exact W.iret (v := 1) hx hb hr (fun t ht hW9 => ⟨⟨1, M_54, rfl, ⟨hW, hF, hG, hGI9, trivial⟩, ⟨0, (-1), by rw [ht]; exact hP, hD⟩⟩, hS.F ht⟩) hS.2.2 dX13_undo_92
      · rw [ec_42]
        refine lv_istore_n (lv' := [(3, .int (nI c_40)), (2, .ref b11), (0, .ref za), (1, .int k1)]) hx hb dX13_undo_58 rfl hl (by decide) rfl (fun ls hl => ?_)
        refine lv_iload_n hx hb dX13_undo_59 rfl (lv_at hl 0 rfl) ?_
        refine lv_iconst (v := (-1)) hx hb dX13_undo_60 (by decide) ?_
        refine lv_icmp_ne (tgt := 77) hx hb dX13_undo_61 (by decide) (fun _ => ?_) (fun c_63 => absurd c_63 (nI_ne_m1 (by omega)))
        have hu9 : fx M b11 16 = (((v15 - 1) + 1 : Nat) : Int) := by rw [hx16]; omega
        have hl9 : ax M b11 43 (v15 - 1) = (nI c_40) := by
          have h := ec_42
          rw [nI_cl (by omega)] at h
          rw [hy43]; exact h
        have hc1 : 1 ≤ (ax M b11 3 c_40).toInt := HB.undoP hAT.2.1 hu9 (by omega) hl9
        refine lv_aload_n hx hb dX13_undo_77 rfl (lv_at hl 1 rfl) ?_
        refine pg_getN (D := D) (ci := 12) (v := .ref v21) (C := RX12) (T := TX12) (N := 51) hx hb hg inG12 hown hK hP hb_13.1 hM_34 rfl 3 (by decide) (hN.use (Cond.fieldLinkNest RX13 157 RX12 "told" "[I" RX13) 12 rfl rfl) (fun _ h9 => h9) hv_31 dX13_undo_78 ?_
        refine lv_iload_n hx hb dX13_undo_81 rfl (lv_at hl 0 rfl) ?_
        refine lv_dup2_11 hx hb dX13_undo_82 rfl rfl ?_
        have hi_64 : vp_in (nI c_40) 1000 := (inbN c_40 1000 (by omega) (by omega))
        refine pg_iald hx hb hK hP hc21.1 0 hM_37 rfl hi_64 dX13_undo_83 ?_
        have hp_65 := hf22 _ (vp_lt hi_64)
        obtain ⟨c_66, hc_67, ec_68⟩ := hp_65
        rw [ec_68]
        refine lv_iconst (v := 1) hx hb dX13_undo_84 (by decide) ?_
        have ht1 : 1 ≤ c_66 := by
          have h := hc1
          have h2 := ec_68
          rw [nI_cl (by omega)] at h2
          rw [hy3, h2, nI_toInt (by omega)] at h
          omega
        refine lv_isub hx hb dX13_undo_85 ?_
        refine lv_topi (fun f_69 ef_69 => ?_)
        obtain rfl : f_69 = (nI (c_66 - 1)) := ef_69.trans (nI_prd (by omega))
        refine pg_iast hx hb hK hP hD hS hc21.1 0 hM_37 rfl (inbN c_40 1000 (by omega) (by omega)) dX13_undo_86 (fun H_70 locs hP hD hS => ?_)
        obtain ⟨M_71, eM_71⟩ : ∃ M1 : Hp, M1 = va_up M_33 v21 (.inl (cy 14, 1000, .inl (upd f22 ((nI c_40) : Int32).toNatClampNeg (nI (c_66 - 1))))) := ⟨_, rfl⟩
        have hy3 : (ax M b11 3) = f22 := (congrFun hV.2.2.1 3).symm.trans (ax_of hM_34 (by decide) hv_31 hM_37)
        have hV : VW K L M M_71 b11 (va_up (fx M b11) 16 (((v15 - 1) : Nat) : Int)) (va_up (ax M b11) 3 (upd (ax M b11 3) ((nI c_40) : Int32).toNatClampNeg (nI (c_66 - 1)))) := by rw [eM_71]; exact hV.ast (j := 3) hW hb_13 hM_34 (by decide) hv_31 hc21 hM_37
        have hP : va_P D vwCl ([(za, .inr (13, [.int 0, .ref z1, .int (nI z2), .int (nI z3), .int z4, .int z5, .ref z6, .ref z7, .ref z8, .ref z9, .int (nI z10), .ref z11, .ref z12, .ref z13, .ref z14, .ref z15, .int (nI z16), .ref z17, .int z18, .ref z19]))] ++ va_pl L M_71) H_70 := by rw [eM_71]; exact hP
        have hD : va_D A ([(za, .inr (13, [.int 0, .ref z1, .int (nI z2), .int (nI z3), .int z4, .int z5, .ref z6, .ref z7, .ref z8, .ref z9, .int (nI z10), .ref z11, .ref z12, .ref z13, .ref z14, .ref z15, .int (nI z16), .ref z17, .int z18, .ref z19]))] ++ va_pl L M_71) := by rw [eM_71]; exact hD
        have hW : WOM cy K L M_71 := by rw [eM_71]; exact hW.up_35 hc21 ⟨_, rfl, (updP (P := fun z => ∃ c : Nat, c < 7 ∧ z = nI c) hf22 ⟨(c_66 - 1), by omega, rfl⟩)⟩
        have hF : fr K L [12, 35] M M_71 := by rw [eM_71]; exact hF.up hc21 (by decide)
        have hG : fG K L [14, 16] M M_71 := by rw [eM_71]; exact hG.arr hc21 (by decide)
        have hM_72 : M_71 v21 = .inl (cy 14, 1000, .inl (upd f22 ((nI c_40) : Int32).toNatClampNeg (nI (c_66 - 1)))) := by rw [eM_71]; exact va_up_self _ _ _
        have hM_73 : M_71 b11 = .inr (12, fs14.set 16 (.int (nI (v15 - 1)))) := by rw [eM_71, va_up_ne _ _ (hb_13.neT hc21 (by decide))]; exact hM_34
        have hM_74 : M_71 z1 = .inl (cy 23, 8, .inr (.inr (.inr (.inr (f9))))) := by rw [eM_71, va_up_ne _ _ (i1.neT hc21 (by decide))]; exact hM_35
        have hM_75 : M_71 v19 = .inl (cy 14, 60, .inl (f20)) := by rw [eM_71, va_up_ne _ _ (hc19.neT hc21 (by decide))]; exact hM_36
        have hf_77 : ∀ j, j < 1000 → ∃ c : Nat, c < 7 ∧ (upd f22 ((nI c_40) : Int32).toNatClampNeg (nI (c_66 - 1))) j = nI c := (updP (P := fun z => ∃ c : Nat, c < 7 ∧ z = nI c) hf22 ⟨(c_66 - 1), by omega, rfl⟩)
        obtain ⟨f_76, ef_76⟩ : ∃ f : Nat → Int32, f = upd f22 ((nI c_40) : Int32).toNatClampNeg (nI (c_66 - 1)) := ⟨_, rfl⟩
        rw [← ef_76] at hM_72 hf_77
        refine lv_aload_n hx hb dX13_undo_87 rfl (lv_at hl 2 rfl) ?_
        refine lv_iconst (v := 1) hx hb dX13_undo_88 (by decide) ?_
        have hPc := hP.sub (ws' := [(za, .inr (13, [.int 0, .ref z1, .int (nI z2), .int (nI z3), .int z4, .int z5, .ref z6, .ref z7, .ref z8, .ref z9, .int (nI z10), .ref z11, .ref z12, .ref z13, .ref z14, .ref z15, .int (nI z16), .ref z17, .int z18, .ref z19]))]) [0] rfl
        have hDc := hD.sub (ws' := [(za, .inr (13, [.int 0, .ref z1, .int (nI z2), .int (nI z3), .int z4, .int z5, .ref z6, .ref z7, .ref z8, .ref z9, .int (nI z10), .ref z11, .ref z12, .ref z13, .ref z14, .ref z15, .int (nI z16), .ref z17, .int z18, .ref z19]))]) [0] (by decide) rfl
        have hKc := hK.sub (tys' := []) [] rfl
        have hFc := va_free (wc := [(za, .inr (13, [.int 0, .ref z1, .int (nI z2), .int (nI z3), .int z4, .int z5, .ref z6, .ref z7, .ref z8, .ref z9, .int (nI z10), .ref z11, .ref z12, .ref z13, .ref z14, .ref z15, .int (nI z16), .ref z17, .int z18, .ref z19]))]) hD hS hA [0] rfl
        refine va_calli (va_runV (As := [.int 1]) (rest := []) ⟨hx, hb, hml, hown, hg⟩ (m_done l D H_70.size za 0 z1 (nI z2) (nI z3) z4 z5 z6 z7 z8 z9 (nI z10) z11 z12 z13 z14 z15 (nI z16) z17 z18 z19 1) (cwV 1 hg (gV wd_730 wd_731 wd_732 wd_717 wd_733) rfl rfl rfl (by decide +kernel) ⟨(Nat.le_trans (Nat.le_of_ble_eq_true rfl) hRf), (Nat.le_trans (Nat.le_of_ble_eq_true rfl) hRl)⟩) ⟨Pr.blind, va_recv hK hP (ci := 13) (q0 := 0) rfl rfl, fun U hU hW => ⟨rfl, Pr.at hPc hKc hDc hN hU hW⟩⟩ rfl rfl hl.1 rfl (lv_room (Nat.le_of_ble_eq_true rfl)) dX13_undo_89 ⟨(Nat.le_trans (Nat.le_of_ble_eq_true rfl) hRc), (Nat.le_trans (Nat.le_of_ble_eq_true rfl) hRs)⟩) hS (fun q _ h => hFc q h) hFc (fun r_79 M_80 t H_78 locs ht hvm hw hB hz1 hk1 hS => ?_)
        have hp_81 := hw
        obtain ⟨hP1, hK1, hD1⟩ := hB
        rw [ht] at hP1
        obtain ⟨hP, hD⟩ := va_joinQ (X := [(za, .inr (13, [.int 0, .ref z1, .int (nI z2), .int (nI z3), .int z4, .int z5, .ref z6, .ref z7, .ref z8, .ref z9, .int (nI z10), .ref z11, .ref z12, .ref z13, .ref z14, .ref z15, .int (nI z16), .ref z17, .int z18, .ref z19]))]) (cx := [(za, .inr (13, [.int 0, .ref z1, .int (nI z2), .int (nI z3), .int z4, .int z5, .ref z6, .ref z7, .ref z8, .ref z9, .int (nI z10), .ref z11, .ref z12, .ref z13, .ref z14, .ref z15, .int (nI z16), .ref z17, .int z18, .ref z19]))]) (wr := []) (w1 := [(za, .inr (13, [.int 0, .ref z1, .int (nI z2), .int (nI z3), .int 0, .int (-1), .ref z6, .ref z7, .ref z8, .ref z9, .int (nI z10), .ref z11, .ref z12, .ref z13, .ref z14, .ref z15, .int (nI z16), .ref z17, .int z18, .ref z19]))]) (pl := va_pl L M_71) hP hD [0] [] rfl rfl (by decide) (by decide) hk1 hFc hP1 hD1
        have hP : va_P D vwCl ([(za, .inr (13, [.int 0, .ref z1, .int (nI z2), .int (nI z3), .int 0, .int (-1), .ref z6, .ref z7, .ref z8, .ref z9, .int (nI z10), .ref z11, .ref z12, .ref z13, .ref z14, .ref z15, .int (nI z16), .ref z17, .int z18, .ref z19]))] ++ va_pl L M_71) H_78 := hP
        have hD : va_D A ([(za, .inr (13, [.int 0, .ref z1, .int (nI z2), .int (nI z3), .int 0, .int (-1), .ref z6, .ref z7, .ref z8, .ref z9, .int (nI z10), .ref z11, .ref z12, .ref z13, .ref z14, .ref z15, .int (nI z16), .ref z17, .int z18, .ref z19]))] ++ va_pl L M_71) := hD
        have hq := Eq.symm hp_81
        subst hq
        have hA9 : HA (ax M b11 2) (upd (ax M b11 3) ((nI c_40) : Int32).toNatClampNeg (nI (c_66 - 1))) := HA.dec hAT.1 (by rw [nI_cl (by omega)]; omega) hy3 ec_68 (by omega) (by omega)
        have hB9 : HB (((v15 - 1) : Nat) : Int) (fx M b11 14) (upd (ax M b11 3) ((nI c_40) : Int32).toNatClampNeg (nI (c_66 - 1))) (ax M b11 43) := HB.undoD hAT.2.1 hu9 (by omega) (nI_cl (by omega)) hl9 (by rw [hy3, ec_68, nI_toInt (by omega), nI_toInt (by omega)]; omega)
        have hC9 : HC (fx M b11 10) (ax M b11 22) (ax M b11 23) := hAT.2.2.1
        have hD9 : HD (fx M b11 0) (fx M b11 11) (fx M b11 15) (ax M b11 34) (ax M b11 41) := hAT.2.2.2.1
        have hE9 : HE (fx M b11 0) (fx M b11 1) (fx M b11 12) (fx M b11 13) (ax M b11 37) := hAT.2.2.2.2
        have hH9 : HI (va_up (fx M b11) 16 (((v15 - 1) : Nat) : Int)) (va_up (ax M b11) 3 (upd (ax M b11 3) ((nI c_40) : Int32).toNatClampNeg (nI (c_66 - 1)))) := ⟨hA9, hB9, hC9, hD9, hE9⟩
        have hGI9 : GI K L z1 z2 M_71 := GI.fin hW0 i1 b2 hGI hact hV (hF.at i1 (by decide)) hH9
        rw [hQ]
        exact W.iret (v := 1) hx hb hr (fun t ht hW9 => ⟨⟨1, M_71, rfl, ⟨hW, hF, hG, hGI9, trivial⟩, ⟨0, (-1), by rw [ht]; exact hP, hD⟩⟩, hS.F ht⟩) hS.2.2 dX13_undo_92
    · have hz := rfl (a := 0)
      have n_82 : v15 = 0 := (iEQ (a := v15) (b := 0) (by omega) (by omega)).mp c_16
      refine lv_aload_n hx hb dX13_undo_33 rfl (lv_at hl 1 rfl) ?_
      refine lv_iconst (v := 0) hx hb dX13_undo_34 (by decide) ?_
      have hPc := hP.sub (ws' := [(za, .inr (13, [.int 0, .ref z1, .int (nI z2), .int (nI z3), .int z4, .int z5, .ref z6, .ref z7, .ref z8, .ref z9, .int (nI z10), .ref z11, .ref z12, .ref z13, .ref z14, .ref z15, .int (nI z16), .ref z17, .int z18, .ref z19]))]) [0] rfl
      have hDc := hD.sub (ws' := [(za, .inr (13, [.int 0, .ref z1, .int (nI z2), .int (nI z3), .int z4, .int z5, .ref z6, .ref z7, .ref z8, .ref z9, .int (nI z10), .ref z11, .ref z12, .ref z13, .ref z14, .ref z15, .int (nI z16), .ref z17, .int z18, .ref z19]))]) [0] (by decide) rfl
      have hKc := hK.sub (tys' := []) [] rfl
      have hFc := va_free (wc := [(za, .inr (13, [.int 0, .ref z1, .int (nI z2), .int (nI z3), .int z4, .int z5, .ref z6, .ref z7, .ref z8, .ref z9, .int (nI z10), .ref z11, .ref z12, .ref z13, .ref z14, .ref z15, .int (nI z16), .ref z17, .int z18, .ref z19]))]) hD hS hA [0] rfl
      refine va_calli (va_runV (As := [.int 0]) (rest := []) ⟨hx, hb, hml, hown, hg⟩ (m_done l D H_2.size za 0 z1 (nI z2) (nI z3) z4 z5 z6 z7 z8 z9 (nI z10) z11 z12 z13 z14 z15 (nI z16) z17 z18 z19 0) (cwV 1 hg (gV wd_730 wd_731 wd_732 wd_717 wd_733) rfl rfl rfl (by decide +kernel) ⟨(Nat.le_trans (Nat.le_of_ble_eq_true rfl) hRf), (Nat.le_trans (Nat.le_of_ble_eq_true rfl) hRl)⟩) ⟨Pr.blind, va_recv hK hP (ci := 13) (q0 := 0) rfl rfl, fun U hU hW => ⟨rfl, Pr.at hPc hKc hDc hN hU hW⟩⟩ rfl rfl hl.1 rfl (lv_room (Nat.le_of_ble_eq_true rfl)) dX13_undo_35 ⟨(Nat.le_trans (Nat.le_of_ble_eq_true rfl) hRc), (Nat.le_trans (Nat.le_of_ble_eq_true rfl) hRs)⟩) hS (fun q _ h => hFc q h) hFc (fun r_84 M_85 t H_83 locs ht hvm hw hB hz1 hk1 hS => ?_)
      have hp_86 := hw
      obtain ⟨hP1, hK1, hD1⟩ := hB
      rw [ht] at hP1
      obtain ⟨hP, hD⟩ := va_joinQ (X := [(za, .inr (13, [.int 0, .ref z1, .int (nI z2), .int (nI z3), .int z4, .int z5, .ref z6, .ref z7, .ref z8, .ref z9, .int (nI z10), .ref z11, .ref z12, .ref z13, .ref z14, .ref z15, .int (nI z16), .ref z17, .int z18, .ref z19]))]) (cx := [(za, .inr (13, [.int 0, .ref z1, .int (nI z2), .int (nI z3), .int z4, .int z5, .ref z6, .ref z7, .ref z8, .ref z9, .int (nI z10), .ref z11, .ref z12, .ref z13, .ref z14, .ref z15, .int (nI z16), .ref z17, .int z18, .ref z19]))]) (wr := []) (w1 := [(za, .inr (13, [.int 0, .ref z1, .int (nI z2), .int (nI z3), .int 0, .int (-1), .ref z6, .ref z7, .ref z8, .ref z9, .int (nI z10), .ref z11, .ref z12, .ref z13, .ref z14, .ref z15, .int (nI z16), .ref z17, .int z18, .ref z19]))]) (pl := va_pl L M) hP hD [0] [] rfl rfl (by decide) (by decide) hk1 hFc hP1 hD1
      have hP : va_P D vwCl ([(za, .inr (13, [.int 0, .ref z1, .int (nI z2), .int (nI z3), .int 0, .int (-1), .ref z6, .ref z7, .ref z8, .ref z9, .int (nI z10), .ref z11, .ref z12, .ref z13, .ref z14, .ref z15, .int (nI z16), .ref z17, .int z18, .ref z19]))] ++ va_pl L M) H_83 := hP
      have hD : va_D A ([(za, .inr (13, [.int 0, .ref z1, .int (nI z2), .int (nI z3), .int 0, .int (-1), .ref z6, .ref z7, .ref z8, .ref z9, .int (nI z10), .ref z11, .ref z12, .ref z13, .ref z14, .ref z15, .int (nI z16), .ref z17, .int z18, .ref z19]))] ++ va_pl L M) := hD
      have hq := Eq.symm hp_86
      subst hq
      rw [hQ]
      exact W.iret (v := 0) hx hb hr (fun t ht hW9 => ⟨⟨0, M, rfl, ⟨hW, hF, hG, hGI, trivial⟩, ⟨0, (-1), by rw [ht]; exact hP, hD⟩⟩, hS.F ht⟩) hS.2.2 dX13_undo_38
  · have hz := rfl (a := 0)
    refine lv_if_ne (tgt := 19) hx hb dX13_undo_10 (by decide) (fun c_87 => absurd c_87 (by decide)) (fun _ => ?_)
    refine lv_aload_n hx hb dX13_undo_13 rfl (lv_at hl 0 rfl) ?_
    refine lv_iconst (v := 1) hx hb dX13_undo_14 (by decide) ?_
    have hPc := hP.sub (ws' := [(za, .inr (13, [.int 0, .ref z1, .int (nI z2), .int (nI z3), .int z4, .int z5, .ref z6, .ref z7, .ref z8, .ref z9, .int (nI z10), .ref z11, .ref z12, .ref z13, .ref z14, .ref z15, .int (nI z16), .ref z17, .int z18, .ref z19]))]) [0] rfl
    have hDc := hD.sub (ws' := [(za, .inr (13, [.int 0, .ref z1, .int (nI z2), .int (nI z3), .int z4, .int z5, .ref z6, .ref z7, .ref z8, .ref z9, .int (nI z10), .ref z11, .ref z12, .ref z13, .ref z14, .ref z15, .int (nI z16), .ref z17, .int z18, .ref z19]))]) [0] (by decide) rfl
    have hKc := hK.sub (tys' := []) [] rfl
    have hFc := va_free (wc := [(za, .inr (13, [.int 0, .ref z1, .int (nI z2), .int (nI z3), .int z4, .int z5, .ref z6, .ref z7, .ref z8, .ref z9, .int (nI z10), .ref z11, .ref z12, .ref z13, .ref z14, .ref z15, .int (nI z16), .ref z17, .int z18, .ref z19]))]) hD hS hA [0] rfl
    refine va_calli (va_runV (As := [.int 1]) (rest := []) ⟨hx, hb, hml, hown, hg⟩ (m_refused l D H_2.size za 0 z1 (nI z2) (nI z3) z4 z5 z6 z7 z8 z9 (nI z10) z11 z12 z13 z14 z15 (nI z16) z17 z18 z19 1) (cwV 1 hg (gV wd_725 wd_726 wd_727 wd_717 wd_728) rfl rfl rfl (by decide +kernel) ⟨(Nat.le_trans (Nat.le_of_ble_eq_true rfl) hRf), (Nat.le_trans (Nat.le_of_ble_eq_true rfl) hRl)⟩) ⟨Pr.blind, va_recv hK hP (ci := 13) (q0 := 0) rfl rfl, fun U hU hW => ⟨rfl, Pr.at hPc hKc hDc hN hU hW⟩⟩ rfl rfl hl.1 rfl (lv_room (Nat.le_of_ble_eq_true rfl)) dX13_undo_15 ⟨(Nat.le_trans (Nat.le_of_ble_eq_true rfl) hRc), (Nat.le_trans (Nat.le_of_ble_eq_true rfl) hRs)⟩) hS (fun q _ h => hFc q h) hFc (fun r_89 M_90 t H_88 locs ht hvm hw hB hz1 hk1 hS => ?_)
    have hp_91 := hw
    obtain ⟨hP1, hK1, hD1⟩ := hB
    rw [ht] at hP1
    obtain ⟨hP, hD⟩ := va_joinQ (X := [(za, .inr (13, [.int 0, .ref z1, .int (nI z2), .int (nI z3), .int z4, .int z5, .ref z6, .ref z7, .ref z8, .ref z9, .int (nI z10), .ref z11, .ref z12, .ref z13, .ref z14, .ref z15, .int (nI z16), .ref z17, .int z18, .ref z19]))]) (cx := [(za, .inr (13, [.int 0, .ref z1, .int (nI z2), .int (nI z3), .int z4, .int z5, .ref z6, .ref z7, .ref z8, .ref z9, .int (nI z10), .ref z11, .ref z12, .ref z13, .ref z14, .ref z15, .int (nI z16), .ref z17, .int z18, .ref z19]))]) (wr := []) (w1 := [(za, .inr (13, [.int 0, .ref z1, .int (nI z2), .int (nI z3), .int 1, .int (-1), .ref z6, .ref z7, .ref z8, .ref z9, .int (nI z10), .ref z11, .ref z12, .ref z13, .ref z14, .ref z15, .int (nI z16), .ref z17, .int z18, .ref z19]))]) (pl := va_pl L M) hP hD [0] [] rfl rfl (by decide) (by decide) hk1 hFc hP1 hD1
    have hP : va_P D vwCl ([(za, .inr (13, [.int 0, .ref z1, .int (nI z2), .int (nI z3), .int 1, .int (-1), .ref z6, .ref z7, .ref z8, .ref z9, .int (nI z10), .ref z11, .ref z12, .ref z13, .ref z14, .ref z15, .int (nI z16), .ref z17, .int z18, .ref z19]))] ++ va_pl L M) H_88 := hP
    have hD : va_D A ([(za, .inr (13, [.int 0, .ref z1, .int (nI z2), .int (nI z3), .int 1, .int (-1), .ref z6, .ref z7, .ref z8, .ref z9, .int (nI z10), .ref z11, .ref z12, .ref z13, .ref z14, .ref z15, .int (nI z16), .ref z17, .int z18, .ref z19]))] ++ va_pl L M) := hD
    have hq := Eq.symm hp_91
    subst hq
    rw [hQ]
    exact W.iret (v := (-1)) hx hb hr (fun t ht hW9 => ⟨⟨(-1), M, rfl, ⟨hW, hF, hG, hGI, trivial⟩, ⟨1, (-1), by rw [ht]; exact hP, hD⟩⟩, hS.F ht⟩) hS.2.2 dX13_undo_18
set_option maxHeartbeats 4000000 in
set_option maxRecDepth 100000 in
theorem g_X13_move (l : Launch) (D : va_G) (cy : Nat → ClassId) (K : Kp) (L : List Nat) (M : Hp) (sz : Nat) (za : Nat) (z0 : Int32) (z1 : Nat) (z2 : Nat) (z3 : Nat) (z4 : Int32) (z5 : Int32) (z6 : Nat) (z7 : Nat) (z8 : Nat) (z9 : Nat) (z10 : Nat) (z11 : Nat) (z12 : Nat) (z13 : Nat) (z14 : Nat) (z15 : Nat) (z16 : Nat) (z17 : Nat) (z18 : Int32) (z19 : Nat) (k1 : Int32) (k2 : Int32) (k3 : Int32) (k4 : Int32) (k5 : Int32) (hW : WOM cy K L M) (i1 : isk K L z1 23 8) (b2 : z2 ≤ 8) (b3 : z3 ≤ 40) (i6 : isk K L z6 47 40) (i7 : isk K L z7 48 40) (i8 : isk K L z8 49 8) (i9 : isk K L z9 50 8) (b10 : z10 ≤ 8) (i11 : isk K L z11 32 24) (i12 : isk K L z12 14 24) (i13 : isk K L z13 15 24) (i14 : isk K L z14 15 24) (i15 : isk K L z15 15 24) (b16 : z16 ≤ 24) (i17 : isk K L z17 14 24) (i19 : isk K L z19 15 25) (hGI : GI K L z1 z2 M) : Met l yX13_move (wsM yX13_move cX13_move 7 (some .int)) ({ frames := 2, cells := 0, slots := 0, locals := 43 }) (va_Pc [.ref za, .int k1, .int k2, .int k3, .int k4, .int k5] (PG D cy [(za, .inr (13, [.int z0, .ref z1, .int (nI z2), .int (nI z3), .int z4, .int z5, .ref z6, .ref z7, .ref z8, .ref z9, .int (nI z10), .ref z11, .ref z12, .ref z13, .ref z14, .ref z15, .int (nI z16), .ref z17, .int z18, .ref z19]))] L M sz)) (va_Qi (fun (r : Int32) (M9 : Hp) => WOM cy K L M9 ∧ fr K L [12, 14, 32, 36, 79, 80, 81] M M9 ∧ fG K L [14, 16] M M9 ∧ (GI K L z1 z2 M9) ∧ (True)) (fun M9 t => ∃ (w4 : Int32) (w5 : Int32), PQ D [(za, .inr (13, [.int 0, .ref z1, .int (nI z2), .int (nI z3), .int w4, .int w5, .ref z6, .ref z7, .ref z8, .ref z9, .int (nI z10), .ref z11, .ref z12, .ref z13, .ref z14, .ref z15, .int (nI z16), .ref z17, .int z18, .ref z19]))] L M9 (va_A ([(za, .inr (13, [.int z0, .ref z1, .int (nI z2), .int (nI z3), .int z4, .int z5, .ref z6, .ref z7, .ref z8, .ref z9, .int (nI z10), .ref z11, .ref z12, .ref z13, .ref z14, .ref z15, .int (nI z16), .ref z17, .int z18, .ref z19]))] ++ va_pl L M) sz) t) (va_A ([(za, .inr (13, [.int z0, .ref z1, .int (nI z2), .int (nI z3), .int z4, .int z5, .ref z6, .ref z7, .ref z8, .ref z9, .int (nI z10), .ref z11, .ref z12, .ref z13, .ref z14, .ref z15, .int (nI z16), .ref z17, .int z18, .ref z19]))] ++ va_pl L M) sz)) 0 0 (va_A ([(za, .inr (13, [.int z0, .ref z1, .int (nI z2), .int (nI z3), .int z4, .int z5, .ref z6, .ref z7, .ref z8, .ref z9, .int (nI z10), .ref z11, .ref z12, .ref z13, .ref z14, .ref z15, .int (nI z16), .ref z17, .int z18, .ref z19]))] ++ va_pl L M) sz) := by
  refine Met.ofW (cc := cX13_move) (maxL := 7) (ret := (some .int)) (by decide) rfl ?_
  intro p e s m args below meth c s₁ B hml hv
  obtain ⟨rfl, hsz, hP, hK, hD0, hN⟩ := hv
  have hx := B.exec
  have hb := B.bytes
  have hr := B.returns
  have hts := atoms_spec (ws := (wsM yX13_move cX13_move 7 (some .int))) B.pre
  have hg : ∀ w ∈ lw_good, w.before _ s = true := fun w h => hts w (List.mem_cons_of_mem _ h)
  have hown : s.vm.findClass RX13 = some m.cls := findClass_of_methodNamed B.named
  have hlocks := B.notSynchronized
  subst hsz
  have hD := hD0.self (sz := s.heap.size)
  generalize hAe : va_A ([(za, .inr (13, [.int z0, .ref z1, .int (nI z2), .int (nI z3), .int z4, .int z5, .ref z6, .ref z7, .ref z8, .ref z9, .int (nI z10), .ref z11, .ref z12, .ref z13, .ref z14, .ref z15, .int (nI z16), .ref z17, .int z18, .ref z19]))] ++ va_pl L M) s.heap.size = A at hD ⊢
  have hA : ∀ q : Nat, s.heap.size ≤ q → A q := fun q h => by rw [← hAe]; exact Or.inr h
  have hS : va_S A s.heap s.heap [] := va_S.rf
  have hl := lv_entry ([.ref za, .int k1, .int k2, .int k3, .int k4, .int k5]) (n := 7) (Nat.le_of_ble_eq_true rfl)
  rw [lg_entry_eq]
  generalize (lg_sl ([.ref za, .int k1, .int k2, .int k3, .int k4, .int k5]) ++ List.replicate (7 - (lg_sl ([.ref za, .int k1, .int k2, .int k3, .int k4, .int k5])).length) Slot.unset).toArray = ls at hl ⊢
  refine W.nameQ (fun Q hQ => ?_)
  refine W.nameR (fun R hR => ?_)
  have hRf : 2 ≤ R.frames := by rw [hR]; exact Nat.le_of_ble_eq_true rfl
  have hRl : 43 ≤ R.locals := by rw [hR]; exact Nat.le_of_ble_eq_true rfl
  have hRc : 0 ≤ R.cells := by rw [hR]; exact Nat.le_of_ble_eq_true rfl
  have hRs : 0 ≤ R.slots := by rw [hR]; exact Nat.le_of_ble_eq_true rfl
  have hF : fr K L [12, 14, 32, 36, 79, 80, 81] M M := fr.rf
  have hG : fG K L [14, 16] M M := fG.rf
  have hl : lv_has ls 7 [(0, .ref za), (1, .int k1), (2, .int k2), (3, .int k3), (4, .int k4), (5, .int k5)] := hl
  have hW0 := hW
  refine lv_aload_n hx hb dX13_move_0 rfl (lv_at hl 0 rfl) ?_
  refine lv_iconst (v := 0) hx hb dX13_move_1 (by decide) ?_
  refine va_put (D := D) (ci := 13) (v := .int 0) (ty := .int) (C := RX13) (T := TX13) (N := 20) hx hb hg inG13 tyX13 tyX13_ok nmX13 hown hK hP hD hS 0 rfl rfl 0 (by decide) (hg _ wd_720) (fun _ h9 => h9) rfl (by decide +kernel) rfl rfl (Nat.le_of_ble_eq_true rfl) dX13_move_2 (fun H_1 locs hP hD hS => ?_)
  have hP : va_P D vwCl ([(za, .inr (13, [.int 0, .ref z1, .int (nI z2), .int (nI z3), .int z4, .int z5, .ref z6, .ref z7, .ref z8, .ref z9, .int (nI z10), .ref z11, .ref z12, .ref z13, .ref z14, .ref z15, .int (nI z16), .ref z17, .int z18, .ref z19]))] ++ va_pl L M) H_1 := hP
  have hD : va_D A ([(za, .inr (13, [.int 0, .ref z1, .int (nI z2), .int (nI z3), .int z4, .int z5, .ref z6, .ref z7, .ref z8, .ref z9, .int (nI z10), .ref z11, .ref z12, .ref z13, .ref z14, .ref z15, .int (nI z16), .ref z17, .int z18, .ref z19]))] ++ va_pl L M) := hD
  refine lv_aload_n hx hb dX13_move_5 rfl (lv_at hl 0 rfl) ?_
  refine lv_iload_n hx hb dX13_move_6 rfl (lv_at hl 1 rfl) ?_
  refine lv_iload_n hx hb dX13_move_7 rfl (lv_at hl 2 rfl) ?_
  have hPc : va_P D vwCl ([(za, .inr (13, [.int 0, .ref z1, .int (nI z2), .int (nI z3), .int z4, .int z5, .ref z6, .ref z7, .ref z8, .ref z9, .int (nI z10), .ref z11, .ref z12, .ref z13, .ref z14, .ref z15, .int (nI z16), .ref z17, .int z18, .ref z19]))] ++ va_pl L M) H_1 := hP
  have hDc : va_D A ([(za, .inr (13, [.int 0, .ref z1, .int (nI z2), .int (nI z3), .int z4, .int z5, .ref z6, .ref z7, .ref z8, .ref z9, .int (nI z10), .ref z11, .ref z12, .ref z13, .ref z14, .ref z15, .int (nI z16), .ref z17, .int z18, .ref z19]))] ++ va_pl L M) := hD
  have hFc : ∀ q, va_A ([(za, .inr (13, [.int 0, .ref z1, .int (nI z2), .int (nI z3), .int z4, .int z5, .ref z6, .ref z7, .ref z8, .ref z9, .int (nI z10), .ref z11, .ref z12, .ref z13, .ref z14, .ref z15, .int (nI z16), .ref z17, .int z18, .ref z19]))] ++ va_pl L M) H_1.size q → A q := pg_free hDc hS hA
  refine va_calli (va_runV (As := [.int k1, .int k2]) (rest := []) ⟨hx, hb, hml, hown, hg⟩ (r_X13_isTenure l D cy K L M H_1.size za 0 z1 z2 z3 z4 z5 z6 z7 z8 z9 z10 z11 z12 z13 z14 z15 z16 z17 z18 z19 k1 k2  hW i1 b2 b3 i6 i7 i8 i9 b10 i11 i12 i13 i14 i15 b16 i17 i19) (cwV 2 hg (gV wd_740 wd_741 wd_742 wd_717 wd_743) rfl rfl rfl (by decide +kernel) ⟨(Nat.le_trans (Nat.le_of_ble_eq_true rfl) hRf), (Nat.le_trans (Nat.le_of_ble_eq_true rfl) hRl)⟩) ⟨PG.blind, va_recv hK hP (ci := 13) (q0 := 0) rfl rfl, fun U hU hW => ⟨rfl, PG.at hPc hK hDc hN hU hW⟩⟩ rfl rfl hl.1 rfl (lv_room (Nat.le_of_ble_eq_true rfl)) dX13_move_8 ⟨(Nat.le_trans (Nat.le_of_ble_eq_true rfl) hRc), (Nat.le_trans (Nat.le_of_ble_eq_true rfl) hRs)⟩) hS (fun q _ h => hFc q h) hFc (fun r_3 M_4 t H_2 locs ht hvm hw hB hz1 hk1 hS => ?_)
  have hp_5 := hw
  obtain ⟨hP1, hD1⟩ := hB
  rw [ht] at hP1
  have hP : va_P D vwCl ([(za, .inr (13, [.int 0, .ref z1, .int (nI z2), .int (nI z3), .int z4, .int z5, .ref z6, .ref z7, .ref z8, .ref z9, .int (nI z10), .ref z11, .ref z12, .ref z13, .ref z14, .ref z15, .int (nI z16), .ref z17, .int z18, .ref z19]))] ++ va_pl L M) H_2 := hP1
  have hD : va_D A ([(za, .inr (13, [.int 0, .ref z1, .int (nI z2), .int (nI z3), .int z4, .int z5, .ref z6, .ref z7, .ref z8, .ref z9, .int (nI z10), .ref z11, .ref z12, .ref z13, .ref z14, .ref z15, .int (nI z16), .ref z17, .int z18, .ref z19]))] ++ va_pl L M) := hD1.mono hFc
  rcases hp_5 with ⟨rfl, c_6, c_7, c_8, c_9⟩ | rfl
  · have hz := rfl (a := 0)
    refine lv_if_ne (tgt := 20) hx hb dX13_move_11 (by decide) (fun _ => ?_) (fun c_10 => absurd c_10 (by decide))
    refine lv_iload hx hb dX13_move_20 (lv_at hl 4 rfl) ?_
    have hPc : va_P D vwCl ([] ++ va_pl L M) H_2 := hP.part (cx := []) [] rfl
    have hDc : va_D A ([] ++ va_pl L M) := hD.part (cx := []) [] (by decide) rfl
    have hFc : ∀ q, va_A ([] ++ va_pl L M) H_2.size q → A q := pg_free hDc hS hA
    refine va_calli (va_runS (As := [.int k4]) (rest := []) ⟨hx, hb, hml, hown, hg⟩ (r_X13_isSum l D cy K L M H_2.size k4  hW ) (va_cwS 1 hg (gS wd_774 wd_775 wd_717 wd_776) rfl rfl rfl (by decide +kernel) ⟨(Nat.le_trans (Nat.le_of_ble_eq_true rfl) hRf), (Nat.le_trans (Nat.le_of_ble_eq_true rfl) hRl)⟩) ⟨PG.blind, fun U hU hW => ⟨rfl, PG.at hPc hK hDc hN hU hW⟩⟩ rfl rfl hl.1 rfl (lv_room (Nat.le_of_ble_eq_true rfl)) dX13_move_22 ⟨(Nat.le_trans (Nat.le_of_ble_eq_true rfl) hRc), (Nat.le_trans (Nat.le_of_ble_eq_true rfl) hRs)⟩) hS (fun q _ h => hFc q h) hFc (fun r_12 M_13 t H_11 locs ht hvm hw hB hz1 hk1 hS => ?_)
    have hp_14 := hw
    obtain ⟨hP1, hD1⟩ := hB
    rw [ht] at hP1
    obtain ⟨hP, hD⟩ := va_joinP (X := [(za, .inr (13, [.int 0, .ref z1, .int (nI z2), .int (nI z3), .int z4, .int z5, .ref z6, .ref z7, .ref z8, .ref z9, .int (nI z10), .ref z11, .ref z12, .ref z13, .ref z14, .ref z15, .int (nI z16), .ref z17, .int z18, .ref z19]))]) (cx := []) (wr := [(za, .inr (13, [.int 0, .ref z1, .int (nI z2), .int (nI z3), .int z4, .int z5, .ref z6, .ref z7, .ref z8, .ref z9, .int (nI z10), .ref z11, .ref z12, .ref z13, .ref z14, .ref z15, .int (nI z16), .ref z17, .int z18, .ref z19]))]) (rx := []) (pl := va_pl L M) (pl1 := va_pl L M) hP hD [] [0] rfl rfl (by decide) (by decide) hk1 hFc hP1 hD1
    have hP : va_P D vwCl ([(za, .inr (13, [.int 0, .ref z1, .int (nI z2), .int (nI z3), .int z4, .int z5, .ref z6, .ref z7, .ref z8, .ref z9, .int (nI z10), .ref z11, .ref z12, .ref z13, .ref z14, .ref z15, .int (nI z16), .ref z17, .int z18, .ref z19]))] ++ va_pl L M) H_11 := hP
    have hD : va_D A ([(za, .inr (13, [.int 0, .ref z1, .int (nI z2), .int (nI z3), .int z4, .int z5, .ref z6, .ref z7, .ref z8, .ref z9, .int (nI z10), .ref z11, .ref z12, .ref z13, .ref z14, .ref z15, .int (nI z16), .ref z17, .int z18, .ref z19]))] ++ va_pl L M) := hD
    rcases hp_14 with rfl | rfl
    · have hz := rfl (a := 0)
      refine lv_if_ne (tgt := 34) hx hb dX13_move_25 (by decide) (fun _ => ?_) (fun c_15 => absurd c_15 (by decide))
      refine lv_aload_n hx hb dX13_move_34 rfl (lv_at hl 0 rfl) ?_
      refine va_get (D := D) (ci := 13) (v := .ref z1) (C := RX13) (T := TX13) (N := 20) hx hb hg inG13 hown hK hP 0 rfl rfl 1 (by decide) (hg _ wd_739) (fun _ h9 => h9) rfl dX13_move_35 ?_
      refine lv_iload_n hx hb dX13_move_38 rfl (lv_at hl 1 rfl) ?_
      obtain ⟨f16, hM16, hf16⟩ := hW.open_23 i1
      have hi_17 : vp_in k1 8 := (inbW (a := z2) (by omega) (inb k1 z2 (by omega) c_6 c_7))
      refine pg_aldq hx hb hK hP i1.1 9 hM16 rfl hi_17 dX13_move_39 ?_
      obtain ⟨b18, eb_19, hb_20⟩ := hf16 _ (vp_lt hi_17)
      rw [eb_19]
      have hact : ACT z1 z2 b18 M := ⟨(k1 : Int32).toNatClampNeg, vp_lt (inb k1 z2 (by omega) c_6 c_7), by rw [show RFc (M z1) = f16 from by rw [hM16]; rfl]; exact eb_19⟩
      have hAT := GI.at hGI hact
      have hV : VW K L M M b18 (fx M b18) (ax M b18) := VW.rf b18 hGI.2.2.2
      refine lv_astore (lv' := [(6, .ref b18), (0, .ref za), (1, .int k1), (2, .int k2), (3, .int k3), (4, .int k4), (5, .int k5)]) hx hb dX13_move_40 hl (by decide) rfl (fun ls hl => ?_)
      refine lv_aload hx hb dX13_move_42 (lv_at hl 0 rfl) ?_
      refine lv_iload_n hx hb dX13_move_44 rfl (lv_at hl 4 rfl) ?_
      obtain ⟨fs21, hM21, hn21, hl21⟩ := hW.open_12 hb_20
      have hPc : va_P D vwCl ([] ++ va_pl L M) H_11 := hP.part (cx := []) [] rfl
      have hDc : va_D A ([] ++ va_pl L M) := hD.part (cx := []) [] (by decide) rfl
      have hFc : ∀ q, va_A ([] ++ va_pl L M) H_11.size q → A q := pg_free hDc hS hA
      refine va_calli (va_runV (As := [.int k3]) (rest := []) ⟨hx, hb, hml, hown, hg⟩ (r_X12_isFree l D cy K L M H_11.size b18 k3  hW hb_20) (cwV 1 hg (gV wd_807 wd_808 wd_809 wd_737 wd_810) rfl rfl rfl (by decide +kernel) ⟨(Nat.le_trans (Nat.le_of_ble_eq_true rfl) hRf), (Nat.le_trans (Nat.le_of_ble_eq_true rfl) hRl)⟩) ⟨PG.blind, pg_recv hK hP hb_20.1 hM21 rfl, fun U hU hW => ⟨rfl, PG.at hPc hK hDc hN hU hW⟩⟩ rfl rfl hl.1 rfl (lv_room (Nat.le_of_ble_eq_true rfl)) dX13_move_45 ⟨(Nat.le_trans (Nat.le_of_ble_eq_true rfl) hRc), (Nat.le_trans (Nat.le_of_ble_eq_true rfl) hRs)⟩) hS (fun q _ h => hFc q h) hFc (fun r_23 M_24 t H_22 locs ht hvm hw hB hz1 hk1 hS => ?_)
      have hp_25 := hw
      obtain ⟨hP1, hD1⟩ := hB
      rw [ht] at hP1
      obtain ⟨hP, hD⟩ := va_joinP (X := [(za, .inr (13, [.int 0, .ref z1, .int (nI z2), .int (nI z3), .int z4, .int z5, .ref z6, .ref z7, .ref z8, .ref z9, .int (nI z10), .ref z11, .ref z12, .ref z13, .ref z14, .ref z15, .int (nI z16), .ref z17, .int z18, .ref z19]))]) (cx := []) (wr := [(za, .inr (13, [.int 0, .ref z1, .int (nI z2), .int (nI z3), .int z4, .int z5, .ref z6, .ref z7, .ref z8, .ref z9, .int (nI z10), .ref z11, .ref z12, .ref z13, .ref z14, .ref z15, .int (nI z16), .ref z17, .int z18, .ref z19]))]) (rx := []) (pl := va_pl L M) (pl1 := va_pl L M) hP hD [] [0] rfl rfl (by decide) (by decide) hk1 hFc hP1 hD1
      have hP : va_P D vwCl ([(za, .inr (13, [.int 0, .ref z1, .int (nI z2), .int (nI z3), .int z4, .int z5, .ref z6, .ref z7, .ref z8, .ref z9, .int (nI z10), .ref z11, .ref z12, .ref z13, .ref z14, .ref z15, .int (nI z16), .ref z17, .int z18, .ref z19]))] ++ va_pl L M) H_22 := hP
      have hD : va_D A ([(za, .inr (13, [.int 0, .ref z1, .int (nI z2), .int (nI z3), .int z4, .int z5, .ref z6, .ref z7, .ref z8, .ref z9, .int (nI z10), .ref z11, .ref z12, .ref z13, .ref z14, .ref z15, .int (nI z16), .ref z17, .int z18, .ref z19]))] ++ va_pl L M) := hD
      rcases hp_25 with ⟨rfl, c_26, c_27⟩ | rfl
      · have hz := rfl (a := 0)
        refine lv_if_eq (tgt := 61) hx hb dX13_move_48 (by decide) (fun c_28 => absurd c_28 (by decide)) (fun _ => ?_)
        refine lv_aload hx hb dX13_move_51 (lv_at hl 0 rfl) ?_
        refine lv_iload_n hx hb dX13_move_53 rfl (lv_at hl 3 rfl) ?_
        refine lv_iload_n hx hb dX13_move_54 rfl (lv_at hl 4 rfl) ?_
        obtain ⟨j_29, hj_30, rfl⟩ := i32nat 24 (by decide) c_8 c_9
        have hPc : va_P D vwCl ([] ++ va_pl L M) H_22 := hP.part (cx := []) [] rfl
        have hDc : va_D A ([] ++ va_pl L M) := hD.part (cx := []) [] (by decide) rfl
        have hFc : ∀ q, va_A ([] ++ va_pl L M) H_22.size q → A q := pg_free hDc hS hA
        refine va_calli (va_runV (As := [.int (nI j_29), .int k3]) (rest := []) ⟨hx, hb, hml, hown, hg⟩ (r_X12_isIn l D cy K L M H_22.size b18 j_29 k3  hW hb_20 (by omega)) (cwV 2 hg (gV wd_748 wd_749 wd_750 wd_737 wd_751) rfl rfl rfl (by decide +kernel) ⟨(Nat.le_trans (Nat.le_of_ble_eq_true rfl) hRf), (Nat.le_trans (Nat.le_of_ble_eq_true rfl) hRl)⟩) ⟨PG.blind, pg_recv hK hP hb_20.1 hM21 rfl, fun U hU hW => ⟨rfl, PG.at hPc hK hDc hN hU hW⟩⟩ rfl rfl hl.1 rfl (lv_room (Nat.le_of_ble_eq_true rfl)) dX13_move_55 ⟨(Nat.le_trans (Nat.le_of_ble_eq_true rfl) hRc), (Nat.le_trans (Nat.le_of_ble_eq_true rfl) hRs)⟩) hS (fun q _ h => hFc q h) hFc (fun r_32 M_33 t H_31 locs ht hvm hw hB hz1 hk1 hS => ?_)
        have hp_34 := hw
        obtain ⟨hP1, hD1⟩ := hB
        rw [ht] at hP1
        obtain ⟨hP, hD⟩ := va_joinP (X := [(za, .inr (13, [.int 0, .ref z1, .int (nI z2), .int (nI z3), .int z4, .int z5, .ref z6, .ref z7, .ref z8, .ref z9, .int (nI z10), .ref z11, .ref z12, .ref z13, .ref z14, .ref z15, .int (nI z16), .ref z17, .int z18, .ref z19]))]) (cx := []) (wr := [(za, .inr (13, [.int 0, .ref z1, .int (nI z2), .int (nI z3), .int z4, .int z5, .ref z6, .ref z7, .ref z8, .ref z9, .int (nI z10), .ref z11, .ref z12, .ref z13, .ref z14, .ref z15, .int (nI z16), .ref z17, .int z18, .ref z19]))]) (rx := []) (pl := va_pl L M) (pl1 := va_pl L M) hP hD [] [0] rfl rfl (by decide) (by decide) hk1 hFc hP1 hD1
        have hP : va_P D vwCl ([(za, .inr (13, [.int 0, .ref z1, .int (nI z2), .int (nI z3), .int z4, .int z5, .ref z6, .ref z7, .ref z8, .ref z9, .int (nI z10), .ref z11, .ref z12, .ref z13, .ref z14, .ref z15, .int (nI z16), .ref z17, .int z18, .ref z19]))] ++ va_pl L M) H_31 := hP
        have hD : va_D A ([(za, .inr (13, [.int 0, .ref z1, .int (nI z2), .int (nI z3), .int z4, .int z5, .ref z6, .ref z7, .ref z8, .ref z9, .int (nI z10), .ref z11, .ref z12, .ref z13, .ref z14, .ref z15, .int (nI z16), .ref z17, .int z18, .ref z19]))] ++ va_pl L M) := hD
        rcases hp_34 with rfl | rfl
        · have hz := rfl (a := 0)
          refine lv_if_ne (tgt := 67) hx hb dX13_move_58 (by decide) (fun _ => ?_) (fun c_35 => absurd c_35 (by decide))
          refine lv_aload hx hb dX13_move_67 (lv_at hl 0 rfl) ?_
          obtain ⟨v36, hv36, hc36⟩ : ∃ v : Nat, fs21[14]? = some (.int (nI v) : Value) ∧ v ≤ 120 := hl21 14 (by decide)
          refine pg_getN (D := D) (ci := 12) (v := .int (nI v36)) (C := RX12) (T := TX12) (N := 51) hx hb hg inG12 hown hK hP hb_20.1 hM21 rfl 14 (by decide) (hN.use (Cond.fieldLinkNest RX13 193 RX12 "moves" "I" RX13) 23 rfl rfl) (fun _ h9 => h9) hv36 dX13_move_69 ?_
          refine lv_bipush (v := 120) hx hb dX13_move_72 (by decide) ?_
          refine lv_icmp_ne (tgt := 84) hx hb dX13_move_74 (by decide) (fun c_37 => ?_) (fun c_37 => ?_)
          · have hz := rfl (a := 0)
            have n_38 : ¬ (v36 = 120) := fun q => c_37 ((iEQ (a := v36) (b := 120) (by omega) (by omega)).mpr q)
            refine lv_aload hx hb dX13_move_84 (lv_at hl 0 rfl) ?_
            obtain ⟨v39, hv39, hc39⟩ : ∃ v : Nat, fs21[38]? = some (.ref v : Value) ∧ isk K L v 79 120 := hl21 38 (by decide)
            refine pg_getN (D := D) (ci := 12) (v := .ref v39) (C := RX12) (T := TX12) (N := 51) hx hb hg inG12 hown hK hP hb_20.1 hM21 rfl 38 (by decide) (hN.use (Cond.fieldLinkNest RX13 196 RX12 "moveOf" "[I" RX13) 47 rfl rfl) (fun _ h9 => h9) hv39 dX13_move_86 ?_
            refine lv_aload hx hb dX13_move_89 (lv_at hl 0 rfl) ?_
            refine pg_getN (D := D) (ci := 12) (v := .int (nI v36)) (C := RX12) (T := TX12) (N := 51) hx hb hg inG12 hown hK hP hb_20.1 hM21 rfl 14 (by decide) (hN.use (Cond.fieldLinkNest RX13 193 RX12 "moves" "I" RX13) 23 rfl rfl) (fun _ h9 => h9) hv36 dX13_move_91 ?_
            refine lv_iload_n hx hb dX13_move_94 rfl (lv_at hl 3 rfl) ?_
            obtain ⟨f40, hM40, hf40⟩ := hW.open_79 hc39
            refine pg_iast hx hb hK hP hD hS hc39.1 0 hM40 rfl (inbN v36 120 (by omega) (by omega)) dX13_move_95 (fun H_41 locs hP hD hS => ?_)
            obtain ⟨M_42, eM_42⟩ : ∃ M1 : Hp, M1 = va_up M v39 (.inl (cy 14, 120, .inl (upd f40 ((nI v36) : Int32).toNatClampNeg (nI j_29)))) := ⟨_, rfl⟩
            have hy38 : (ax M b18 38) = f40 := (congrFun hV.2.2.1 38).symm.trans (ax_of hM21 (by decide) hv39 hM40)
            have hV : VW K L M M_42 b18 (fx M b18) (va_up (ax M b18) 38 (upd (ax M b18 38) ((nI v36) : Int32).toNatClampNeg (nI j_29))) := by rw [eM_42]; exact hV.ast (j := 38) hW hb_20 hM21 (by decide) hv39 hc39 hM40
            have hP : va_P D vwCl ([(za, .inr (13, [.int 0, .ref z1, .int (nI z2), .int (nI z3), .int z4, .int z5, .ref z6, .ref z7, .ref z8, .ref z9, .int (nI z10), .ref z11, .ref z12, .ref z13, .ref z14, .ref z15, .int (nI z16), .ref z17, .int z18, .ref z19]))] ++ va_pl L M_42) H_41 := by rw [eM_42]; exact hP
            have hD : va_D A ([(za, .inr (13, [.int 0, .ref z1, .int (nI z2), .int (nI z3), .int z4, .int z5, .ref z6, .ref z7, .ref z8, .ref z9, .int (nI z10), .ref z11, .ref z12, .ref z13, .ref z14, .ref z15, .int (nI z16), .ref z17, .int z18, .ref z19]))] ++ va_pl L M_42) := by rw [eM_42]; exact hD
            have hW : WOM cy K L M_42 := by rw [eM_42]; exact hW.up_79 hc39 ⟨_, rfl, (updP (P := fun z => ∃ c : Nat, c < 24 ∧ z = nI c) hf40 ⟨j_29, by omega, rfl⟩)⟩
            have hF : fr K L [12, 14, 32, 36, 79, 80, 81] M M_42 := by rw [eM_42]; exact hF.up hc39 (by decide)
            have hG : fG K L [14, 16] M M_42 := by rw [eM_42]; exact hG.arr hc39 (by decide)
            have hM_43 : M_42 v39 = .inl (cy 14, 120, .inl (upd f40 ((nI v36) : Int32).toNatClampNeg (nI j_29))) := by rw [eM_42]; exact va_up_self _ _ _
            have hM_44 : M_42 z1 = .inl (cy 23, 8, .inr (.inr (.inr (.inr (f16))))) := by rw [eM_42, va_up_ne _ _ (i1.neT hc39 (by decide))]; exact hM16
            have hM_45 : M_42 b18 = .inr (12, fs21) := by rw [eM_42, va_up_ne _ _ (hb_20.neT hc39 (by decide))]; exact hM21
            have hf_47 : ∀ j, j < 120 → ∃ c : Nat, c < 24 ∧ (upd f40 ((nI v36) : Int32).toNatClampNeg (nI j_29)) j = nI c := (updP (P := fun z => ∃ c : Nat, c < 24 ∧ z = nI c) hf40 ⟨j_29, by omega, rfl⟩)
            obtain ⟨f_46, ef_46⟩ : ∃ f : Nat → Int32, f = upd f40 ((nI v36) : Int32).toNatClampNeg (nI j_29) := ⟨_, rfl⟩
            rw [← ef_46] at hM_43 hf_47
            refine lv_aload hx hb dX13_move_96 (lv_at hl 0 rfl) ?_
            obtain ⟨v48, hv48, hc48⟩ : ∃ v : Nat, fs21[39]? = some (.ref v : Value) ∧ isk K L v 80 120 := hl21 39 (by decide)
            refine pg_getN (D := D) (ci := 12) (v := .ref v48) (C := RX12) (T := TX12) (N := 51) hx hb hg inG12 hown hK hP hb_20.1 hM_45 rfl 39 (by decide) (hN.use (Cond.fieldLinkNest RX13 199 RX12 "moveDay" "[I" RX13) 48 rfl rfl) (fun _ h9 => h9) hv48 dX13_move_98 ?_
            refine lv_aload hx hb dX13_move_101 (lv_at hl 0 rfl) ?_
            refine pg_getN (D := D) (ci := 12) (v := .int (nI v36)) (C := RX12) (T := TX12) (N := 51) hx hb hg inG12 hown hK hP hb_20.1 hM_45 rfl 14 (by decide) (hN.use (Cond.fieldLinkNest RX13 193 RX12 "moves" "I" RX13) 23 rfl rfl) (fun _ h9 => h9) hv36 dX13_move_103 ?_
            refine lv_iload_n hx hb dX13_move_106 rfl (lv_at hl 4 rfl) ?_
            obtain ⟨f49, hM49⟩ := hW.open_80 hc48
            refine pg_iast hx hb hK hP hD hS hc48.1 0 hM49 rfl (inbN v36 120 (by omega) (by omega)) dX13_move_107 (fun H_50 locs hP hD hS => ?_)
            obtain ⟨M_51, eM_51⟩ : ∃ M1 : Hp, M1 = va_up M_42 v48 (.inl (cy 14, 120, .inl (upd f49 ((nI v36) : Int32).toNatClampNeg k3))) := ⟨_, rfl⟩
            have hy39 : (ax M b18 39) = f49 := (congrFun hV.2.2.1 39).symm.trans (ax_of hM_45 (by decide) hv48 hM49)
            have hV : VW K L M M_51 b18 (fx M b18) (va_up (va_up (ax M b18) 38 (upd (ax M b18 38) ((nI v36) : Int32).toNatClampNeg (nI j_29))) 39 (upd (ax M b18 39) ((nI v36) : Int32).toNatClampNeg k3)) := by rw [eM_51]; exact hV.ast (j := 39) hW hb_20 hM_45 (by decide) hv48 hc48 hM49
            have hP : va_P D vwCl ([(za, .inr (13, [.int 0, .ref z1, .int (nI z2), .int (nI z3), .int z4, .int z5, .ref z6, .ref z7, .ref z8, .ref z9, .int (nI z10), .ref z11, .ref z12, .ref z13, .ref z14, .ref z15, .int (nI z16), .ref z17, .int z18, .ref z19]))] ++ va_pl L M_51) H_50 := by rw [eM_51]; exact hP
            have hD : va_D A ([(za, .inr (13, [.int 0, .ref z1, .int (nI z2), .int (nI z3), .int z4, .int z5, .ref z6, .ref z7, .ref z8, .ref z9, .int (nI z10), .ref z11, .ref z12, .ref z13, .ref z14, .ref z15, .int (nI z16), .ref z17, .int z18, .ref z19]))] ++ va_pl L M_51) := by rw [eM_51]; exact hD
            have hW : WOM cy K L M_51 := by rw [eM_51]; exact hW.up_80 hc48 ⟨_, rfl⟩
            have hF : fr K L [12, 14, 32, 36, 79, 80, 81] M M_51 := by rw [eM_51]; exact hF.up hc48 (by decide)
            have hG : fG K L [14, 16] M M_51 := by rw [eM_51]; exact hG.arr hc48 (by decide)
            have hM_52 : M_51 v48 = .inl (cy 14, 120, .inl (upd f49 ((nI v36) : Int32).toNatClampNeg k3)) := by rw [eM_51]; exact va_up_self _ _ _
            have hM_53 : M_51 v39 = .inl (cy 14, 120, .inl (f_46)) := by rw [eM_51, va_up_ne _ _ (hc39.neT hc48 (by decide))]; exact hM_43
            have hM_54 : M_51 z1 = .inl (cy 23, 8, .inr (.inr (.inr (.inr (f16))))) := by rw [eM_51, va_up_ne _ _ (i1.neT hc48 (by decide))]; exact hM_44
            have hM_55 : M_51 b18 = .inr (12, fs21) := by rw [eM_51, va_up_ne _ _ (hb_20.neT hc48 (by decide))]; exact hM_45
            obtain ⟨f_56, ef_56⟩ : ∃ f : Nat → Int32, f = upd f49 ((nI v36) : Int32).toNatClampNeg k3 := ⟨_, rfl⟩
            rw [← ef_56] at hM_52
            refine lv_aload hx hb dX13_move_108 (lv_at hl 0 rfl) ?_
            obtain ⟨v57, hv57, hc57⟩ : ∃ v : Nat, fs21[40]? = some (.ref v : Value) ∧ isk K L v 81 120 := hl21 40 (by decide)
            refine pg_getN (D := D) (ci := 12) (v := .ref v57) (C := RX12) (T := TX12) (N := 51) hx hb hg inG12 hown hK hP hb_20.1 hM_55 rfl 40 (by decide) (hN.use (Cond.fieldLinkNest RX13 202 RX12 "moveSum" "[I" RX13) 49 rfl rfl) (fun _ h9 => h9) hv57 dX13_move_110 ?_
            refine lv_aload hx hb dX13_move_113 (lv_at hl 0 rfl) ?_
            refine pg_getN (D := D) (ci := 12) (v := .int (nI v36)) (C := RX12) (T := TX12) (N := 51) hx hb hg inG12 hown hK hP hb_20.1 hM_55 rfl 14 (by decide) (hN.use (Cond.fieldLinkNest RX13 193 RX12 "moves" "I" RX13) 23 rfl rfl) (fun _ h9 => h9) hv36 dX13_move_115 ?_
            refine lv_iload hx hb dX13_move_118 (lv_at hl 6 rfl) ?_
            refine lv_if_eq (tgt := 129) hx hb dX13_move_120 (by decide) (fun c_58 => ?_) (fun c_58 => ?_)
            · have hz := rfl (a := 0)
              refine lv_iload hx hb dX13_move_129 (lv_at hl 5 rfl) ?_
              obtain ⟨f59, hM59⟩ := hW.open_81 hc57
              refine pg_iast hx hb hK hP hD hS hc57.1 0 hM59 rfl (inbN v36 120 (by omega) (by omega)) dX13_move_131 (fun H_60 locs hP hD hS => ?_)
              obtain ⟨M_61, eM_61⟩ : ∃ M1 : Hp, M1 = va_up M_51 v57 (.inl (cy 14, 120, .inl (upd f59 ((nI v36) : Int32).toNatClampNeg k4))) := ⟨_, rfl⟩
              have hy40 : (ax M b18 40) = f59 := (congrFun hV.2.2.1 40).symm.trans (ax_of hM_55 (by decide) hv57 hM59)
              have hV : VW K L M M_61 b18 (fx M b18) (va_up (va_up (va_up (ax M b18) 38 (upd (ax M b18 38) ((nI v36) : Int32).toNatClampNeg (nI j_29))) 39 (upd (ax M b18 39) ((nI v36) : Int32).toNatClampNeg k3)) 40 (upd (ax M b18 40) ((nI v36) : Int32).toNatClampNeg k4)) := by rw [eM_61]; exact hV.ast (j := 40) hW hb_20 hM_55 (by decide) hv57 hc57 hM59
              have hP : va_P D vwCl ([(za, .inr (13, [.int 0, .ref z1, .int (nI z2), .int (nI z3), .int z4, .int z5, .ref z6, .ref z7, .ref z8, .ref z9, .int (nI z10), .ref z11, .ref z12, .ref z13, .ref z14, .ref z15, .int (nI z16), .ref z17, .int z18, .ref z19]))] ++ va_pl L M_61) H_60 := by rw [eM_61]; exact hP
              have hD : va_D A ([(za, .inr (13, [.int 0, .ref z1, .int (nI z2), .int (nI z3), .int z4, .int z5, .ref z6, .ref z7, .ref z8, .ref z9, .int (nI z10), .ref z11, .ref z12, .ref z13, .ref z14, .ref z15, .int (nI z16), .ref z17, .int z18, .ref z19]))] ++ va_pl L M_61) := by rw [eM_61]; exact hD
              have hW : WOM cy K L M_61 := by rw [eM_61]; exact hW.up_81 hc57 ⟨_, rfl⟩
              have hF : fr K L [12, 14, 32, 36, 79, 80, 81] M M_61 := by rw [eM_61]; exact hF.up hc57 (by decide)
              have hG : fG K L [14, 16] M M_61 := by rw [eM_61]; exact hG.arr hc57 (by decide)
              have hM_62 : M_61 v57 = .inl (cy 14, 120, .inl (upd f59 ((nI v36) : Int32).toNatClampNeg k4)) := by rw [eM_61]; exact va_up_self _ _ _
              have hM_63 : M_61 v48 = .inl (cy 14, 120, .inl (f_56)) := by rw [eM_61, va_up_ne _ _ (hc48.neT hc57 (by decide))]; exact hM_52
              have hM_64 : M_61 v39 = .inl (cy 14, 120, .inl (f_46)) := by rw [eM_61, va_up_ne _ _ (hc39.neT hc57 (by decide))]; exact hM_53
              have hM_65 : M_61 z1 = .inl (cy 23, 8, .inr (.inr (.inr (.inr (f16))))) := by rw [eM_61, va_up_ne _ _ (i1.neT hc57 (by decide))]; exact hM_54
              have hM_66 : M_61 b18 = .inr (12, fs21) := by rw [eM_61, va_up_ne _ _ (hb_20.neT hc57 (by decide))]; exact hM_55
              obtain ⟨f_67, ef_67⟩ : ∃ f : Nat → Int32, f = upd f59 ((nI v36) : Int32).toNatClampNeg k4 := ⟨_, rfl⟩
              rw [← ef_67] at hM_62
              refine lv_aload hx hb dX13_move_132 (lv_at hl 0 rfl) ?_
              refine lv_dup hx hb dX13_move_134 rfl ?_
              refine pg_getN (D := D) (ci := 12) (v := .int (nI v36)) (C := RX12) (T := TX12) (N := 51) hx hb hg inG12 hown hK hP hb_20.1 hM_66 rfl 14 (by decide) (hN.use (Cond.fieldLinkNest RX13 193 RX12 "moves" "I" RX13) 23 rfl rfl) (fun _ h9 => h9) hv36 dX13_move_135 ?_
              refine lv_iconst (v := 1) hx hb dX13_move_138 (by decide) ?_
              refine lv_iadd hx hb dX13_move_139 ?_
              refine lv_topi (fun f_68 ef_68 => ?_)
              obtain rfl : f_68 = (nI (v36 + 1)) := ef_68.trans (nI_add v36 1)
              refine pg_putN (D := D) (ci := 12) (v := .int (nI (v36 + 1))) (ty := .int) (C := RX12) (T := TX12) (N := 51) hx hb hg inG12 tyX12 tyX12_ok nmX12 hown hK hP hD hS hb_20.1 hM_66 rfl 14 (by decide) (hN.use (Cond.fieldLinkNest RX13 193 RX12 "moves" "I" RX13) 23 rfl rfl) (fun _ h9 => h9) rfl (by decide +kernel) rfl rfl (by rw [hn21]; decide) dX13_move_140 (fun H_69 locs hP hD hS => ?_)
              have hs_72 : (fs21.set 14 (.int (nI (v36 + 1))))[14]? = some (.int (nI (v36 + 1))) := List.getElem?_set_self (by rw [hn21]; decide)
              have hk_71 := fld12_set (k := 14) (w := .int (nI (v36 + 1))) hl21 (show fld12 K L 14 (fs21.set 14 (.int (nI (v36 + 1)))) from ⟨(v36 + 1), hs_72, by omega⟩)
              have hn_73 : (fs21.set 14 (.int (nI (v36 + 1)))).length = 51 := by rw [List.length_set]; exact hn21
              have hv_74 : (fs21.set 14 (.int (nI (v36 + 1))))[38]? = some (.ref v39) := by rw [List.getElem?_set_ne (by decide)]; exact hv39
              have hv_75 : (fs21.set 14 (.int (nI (v36 + 1))))[39]? = some (.ref v48) := by rw [List.getElem?_set_ne (by decide)]; exact hv48
              have hv_76 : (fs21.set 14 (.int (nI (v36 + 1))))[40]? = some (.ref v57) := by rw [List.getElem?_set_ne (by decide)]; exact hv57
              have hb_77 : (v36 + 1) ≤ 120 := by omega
              obtain ⟨M_78, eM_78⟩ : ∃ M1 : Hp, M1 = va_up M_61 b18 (.inr (12, fs21.set 14 (.int (nI (v36 + 1))))) := ⟨_, rfl⟩
              have hx14 : (fx M b18 14) = ((v36 : Nat) : Int) := (congrFun hV.2.1 14).symm.trans ((fx_of hM_66 rfl hv36).trans (nI_toInt (by omega)))
              have hV : VW K L M M_78 b18 (va_up (fx M b18) 14 (((v36 + 1) : Nat) : Int)) (va_up (va_up (va_up (ax M b18) 38 (upd (ax M b18 38) ((nI v36) : Int32).toNatClampNeg (nI j_29))) 39 (upd (ax M b18 39) ((nI v36) : Int32).toNatClampNeg k3)) 40 (upd (ax M b18 40) ((nI v36) : Int32).toNatClampNeg k4)) := by rw [eM_78]; exact hV.put hW hb_20 hM_66 hn21 rfl (by decide) rfl (nI_toInt (by omega))
              have hP : va_P D vwCl ([(za, .inr (13, [.int 0, .ref z1, .int (nI z2), .int (nI z3), .int z4, .int z5, .ref z6, .ref z7, .ref z8, .ref z9, .int (nI z10), .ref z11, .ref z12, .ref z13, .ref z14, .ref z15, .int (nI z16), .ref z17, .int z18, .ref z19]))] ++ va_pl L M_78) H_69 := by rw [eM_78]; exact hP
              have hD : va_D A ([(za, .inr (13, [.int 0, .ref z1, .int (nI z2), .int (nI z3), .int z4, .int z5, .ref z6, .ref z7, .ref z8, .ref z9, .int (nI z10), .ref z11, .ref z12, .ref z13, .ref z14, .ref z15, .int (nI z16), .ref z17, .int z18, .ref z19]))] ++ va_pl L M_78) := by rw [eM_78]; exact hD
              have hW : WOM cy K L M_78 := by rw [eM_78]; exact hW.up_12 hb_20 ⟨_, rfl, hn_73, hk_71⟩
              have hF : fr K L [12, 14, 32, 36, 79, 80, 81] M M_78 := by rw [eM_78]; exact hF.up hb_20 (by decide)
              have hG : fG K L [14, 16] M M_78 := by rw [eM_78]; exact hG.up hM_66 (by decide)
              have hM_79 : M_78 b18 = .inr (12, fs21.set 14 (.int (nI (v36 + 1)))) := by rw [eM_78]; exact va_up_self _ _ _
              have hM_80 : M_78 v57 = .inl (cy 14, 120, .inl (f_67)) := by rw [eM_78, va_up_ne _ _ (hc57.neT hb_20 (by decide))]; exact hM_62
              have hM_81 : M_78 v48 = .inl (cy 14, 120, .inl (f_56)) := by rw [eM_78, va_up_ne _ _ (hc48.neT hb_20 (by decide))]; exact hM_63
              have hM_82 : M_78 v39 = .inl (cy 14, 120, .inl (f_46)) := by rw [eM_78, va_up_ne _ _ (hc39.neT hb_20 (by decide))]; exact hM_64
              have hM_83 : M_78 z1 = .inl (cy 23, 8, .inr (.inr (.inr (.inr (f16))))) := by rw [eM_78, va_up_ne _ _ (i1.neT hb_20 (by decide))]; exact hM_65
              refine lv_aload hx hb dX13_move_143 (lv_at hl 0 rfl) ?_
              refine lv_iconst (v := (-1)) hx hb dX13_move_145 (by decide) ?_
              have hPc : va_P D vwCl ([] ++ va_pl L M_78) H_69 := hP.part (cx := []) [] rfl
              have hDc : va_D A ([] ++ va_pl L M_78) := hD.part (cx := []) [] (by decide) rfl
              have hFc : ∀ q, va_A ([] ++ va_pl L M_78) H_69.size q → A q := pg_free hDc hS hA
              refine va_callv (va_runV (As := [.int (-1)]) (rest := []) ⟨hx, hb, hml, hown, hg⟩ (r_remM l D cy K L M_78 H_69.size b18  hW hb_20 hV.2.2.2) (cwV 1 hg (gV wd_827 wd_828 wd_829 wd_737 wd_830) rfl rfl rfl (by decide +kernel) ⟨(Nat.le_trans (Nat.le_of_ble_eq_true rfl) hRf), (Nat.le_trans (Nat.le_of_ble_eq_true rfl) hRl)⟩) ⟨PG.blind, pg_recv hK hP hb_20.1 hM_79 rfl, fun U hU hW => ⟨rfl, PG.at hPc hK hDc hN hU hW⟩⟩ rfl rfl hl.1 rfl (lv_room (Nat.le_of_ble_eq_true rfl)) dX13_move_146 ⟨(Nat.le_trans (Nat.le_of_ble_eq_true rfl) hRc), (Nat.le_trans (Nat.le_of_ble_eq_true rfl) hRs)⟩) hS (fun q _ h => hFc q h) hFc (fun M_86 t H_84 locs ht hvm hw hB hz1 hk1 hS => ?_)
              have hWb := hW
              obtain ⟨hW, hF2, hG2, hVP, hp_87⟩ := hw
              obtain ⟨hP1, hD1⟩ := hB
              rw [ht] at hP1
              obtain ⟨hP, hD⟩ := va_joinP (X := [(za, .inr (13, [.int 0, .ref z1, .int (nI z2), .int (nI z3), .int z4, .int z5, .ref z6, .ref z7, .ref z8, .ref z9, .int (nI z10), .ref z11, .ref z12, .ref z13, .ref z14, .ref z15, .int (nI z16), .ref z17, .int z18, .ref z19]))]) (cx := []) (wr := [(za, .inr (13, [.int 0, .ref z1, .int (nI z2), .int (nI z3), .int z4, .int z5, .ref z6, .ref z7, .ref z8, .ref z9, .int (nI z10), .ref z11, .ref z12, .ref z13, .ref z14, .ref z15, .int (nI z16), .ref z17, .int z18, .ref z19]))]) (rx := []) (pl := va_pl L M_78) (pl1 := va_pl L M_86) hP hD [] [0] rfl rfl (by decide) (by decide) hk1 hFc hP1 hD1
              have hP : va_P D vwCl ([(za, .inr (13, [.int 0, .ref z1, .int (nI z2), .int (nI z3), .int z4, .int z5, .ref z6, .ref z7, .ref z8, .ref z9, .int (nI z10), .ref z11, .ref z12, .ref z13, .ref z14, .ref z15, .int (nI z16), .ref z17, .int z18, .ref z19]))] ++ va_pl L M_86) H_84 := hP
              have hD : va_D A ([(za, .inr (13, [.int 0, .ref z1, .int (nI z2), .int (nI z3), .int z4, .int z5, .ref z6, .ref z7, .ref z8, .ref z9, .int (nI z10), .ref z11, .ref z12, .ref z13, .ref z14, .ref z15, .int (nI z16), .ref z17, .int z18, .ref z19]))] ++ va_pl L M_86) := hD
              obtain ⟨fs88, hM88, hn88, hl88⟩ := hW.open_12 hb_20
              have hv_89 : fs88[38]? = some (.ref v39 : Value) := (hG2 _ hb_20 _ _ hM_79 hM88 38 (by decide)).trans hv_74
              have hv_90 : fs88[39]? = some (.ref v48 : Value) := (hG2 _ hb_20 _ _ hM_79 hM88 39 (by decide)).trans hv_75
              have hv_91 : fs88[40]? = some (.ref v57 : Value) := (hG2 _ hb_20 _ _ hM_79 hM88 40 (by decide)).trans hv_76
              have hv_92 : fs88[14]? = some (.int (nI (v36 + 1)) : Value) := (hG2 _ hb_20 _ _ hM_79 hM88 14 (by decide)).trans hs_72
              have hM_93 : M_86 v57 = .inl (cy 14, 120, .inl (f_67)) := (hF2.at hc57 (by decide)).trans hM_80
              have hM_94 : M_86 v48 = .inl (cy 14, 120, .inl (f_56)) := (hF2.at hc48 (by decide)).trans hM_81
              have hM_95 : M_86 v39 = .inl (cy 14, 120, .inl (f_46)) := (hF2.at hc39 (by decide)).trans hM_82
              have hM_96 : M_86 z1 = .inl (cy 23, 8, .inr (.inr (.inr (.inr (f16))))) := (hF2.at i1 (by decide)).trans hM_83
              have hF : fr K L [12, 14, 32, 36, 79, 80, 81] M M_86 := hF.tr hF2 (by decide)
              have hG : fG K L [14, 16] M M_86 := hG.tr hWb hG2 (by decide)
              obtain ⟨n_97, g_98, hRF, hV2⟩ := hVP
              rw [hV.2.1, hV.2.2.1] at hRF hV2
              have hRF : REMF (fx M b18 16) (ax M b18 43) (-1) n_97 g_98 := hRF
              have hV : VW K L M M_86 b18 (va_up (va_up (fx M b18) 14 (((v36 + 1) : Nat) : Int)) 16 n_97) (va_up (va_up (va_up (va_up (ax M b18) 38 (upd (ax M b18 38) ((nI v36) : Int32).toNatClampNeg (nI j_29))) 39 (upd (ax M b18 39) ((nI v36) : Int32).toNatClampNeg k3)) 40 (upd (ax M b18 40) ((nI v36) : Int32).toNatClampNeg k4)) 43 g_98) := hV.tr hV2
              refine lv_aload_n hx hb dX13_move_149 rfl (lv_at hl 1 rfl) ?_
              refine lv_aload hx hb dX13_move_150 (lv_at hl 0 rfl) ?_
              refine pg_getN (D := D) (ci := 12) (v := .int (nI (v36 + 1))) (C := RX12) (T := TX12) (N := 51) hx hb hg inG12 hown hK hP hb_20.1 hM88 rfl 14 (by decide) (hN.use (Cond.fieldLinkNest RX13 193 RX12 "moves" "I" RX13) 23 rfl rfl) (fun _ h9 => h9) hv_92 dX13_move_152 ?_
              have hPc := hP.sub (ws' := [(za, .inr (13, [.int 0, .ref z1, .int (nI z2), .int (nI z3), .int z4, .int z5, .ref z6, .ref z7, .ref z8, .ref z9, .int (nI z10), .ref z11, .ref z12, .ref z13, .ref z14, .ref z15, .int (nI z16), .ref z17, .int z18, .ref z19]))]) [0] rfl
              have hDc := hD.sub (ws' := [(za, .inr (13, [.int 0, .ref z1, .int (nI z2), .int (nI z3), .int z4, .int z5, .ref z6, .ref z7, .ref z8, .ref z9, .int (nI z10), .ref z11, .ref z12, .ref z13, .ref z14, .ref z15, .int (nI z16), .ref z17, .int z18, .ref z19]))]) [0] (by decide) rfl
              have hKc := hK.sub (tys' := []) [] rfl
              have hFc := va_free (wc := [(za, .inr (13, [.int 0, .ref z1, .int (nI z2), .int (nI z3), .int z4, .int z5, .ref z6, .ref z7, .ref z8, .ref z9, .int (nI z10), .ref z11, .ref z12, .ref z13, .ref z14, .ref z15, .int (nI z16), .ref z17, .int z18, .ref z19]))]) hD hS hA [0] rfl
              refine va_calli (va_runV (As := [.int (nI (v36 + 1))]) (rest := []) ⟨hx, hb, hml, hown, hg⟩ (m_done l D H_84.size za 0 z1 (nI z2) (nI z3) z4 z5 z6 z7 z8 z9 (nI z10) z11 z12 z13 z14 z15 (nI z16) z17 z18 z19 (nI (v36 + 1))) (cwV 1 hg (gV wd_730 wd_731 wd_732 wd_717 wd_733) rfl rfl rfl (by decide +kernel) ⟨(Nat.le_trans (Nat.le_of_ble_eq_true rfl) hRf), (Nat.le_trans (Nat.le_of_ble_eq_true rfl) hRl)⟩) ⟨Pr.blind, va_recv hK hP (ci := 13) (q0 := 0) rfl rfl, fun U hU hW => ⟨rfl, Pr.at hPc hKc hDc hN hU hW⟩⟩ rfl rfl hl.1 rfl (lv_room (Nat.le_of_ble_eq_true rfl)) dX13_move_155 ⟨(Nat.le_trans (Nat.le_of_ble_eq_true rfl) hRc), (Nat.le_trans (Nat.le_of_ble_eq_true rfl) hRs)⟩) hS (fun q _ h => hFc q h) hFc (fun r_100 M_101 t H_99 locs ht hvm hw hB hz1 hk1 hS => ?_)
              have hp_102 := hw
              obtain ⟨hP1, hK1, hD1⟩ := hB
              rw [ht] at hP1
              obtain ⟨hP, hD⟩ := va_joinQ (X := [(za, .inr (13, [.int 0, .ref z1, .int (nI z2), .int (nI z3), .int z4, .int z5, .ref z6, .ref z7, .ref z8, .ref z9, .int (nI z10), .ref z11, .ref z12, .ref z13, .ref z14, .ref z15, .int (nI z16), .ref z17, .int z18, .ref z19]))]) (cx := [(za, .inr (13, [.int 0, .ref z1, .int (nI z2), .int (nI z3), .int z4, .int z5, .ref z6, .ref z7, .ref z8, .ref z9, .int (nI z10), .ref z11, .ref z12, .ref z13, .ref z14, .ref z15, .int (nI z16), .ref z17, .int z18, .ref z19]))]) (wr := []) (w1 := [(za, .inr (13, [.int 0, .ref z1, .int (nI z2), .int (nI z3), .int 0, .int (-1), .ref z6, .ref z7, .ref z8, .ref z9, .int (nI z10), .ref z11, .ref z12, .ref z13, .ref z14, .ref z15, .int (nI z16), .ref z17, .int z18, .ref z19]))]) (pl := va_pl L M_86) hP hD [0] [] rfl rfl (by decide) (by decide) hk1 hFc hP1 hD1
              have hP : va_P D vwCl ([(za, .inr (13, [.int 0, .ref z1, .int (nI z2), .int (nI z3), .int 0, .int (-1), .ref z6, .ref z7, .ref z8, .ref z9, .int (nI z10), .ref z11, .ref z12, .ref z13, .ref z14, .ref z15, .int (nI z16), .ref z17, .int z18, .ref z19]))] ++ va_pl L M_86) H_99 := hP
              have hD : va_D A ([(za, .inr (13, [.int 0, .ref z1, .int (nI z2), .int (nI z3), .int 0, .int (-1), .ref z6, .ref z7, .ref z8, .ref z9, .int (nI z10), .ref z11, .ref z12, .ref z13, .ref z14, .ref z15, .int (nI z16), .ref z17, .int z18, .ref z19]))] ++ va_pl L M_86) := hD
              have hq := Eq.symm hp_102
              subst hq
              have hA9 : HA (ax M b18 2) (ax M b18 3) := hAT.1
              have hB9 : HB n_97 (((v36 + 1) : Nat) : Int) (ax M b18 3) g_98 := HB.remM hAT.2.1 hRF (by omega)
              have hC9 : HC (fx M b18 10) (ax M b18 22) (ax M b18 23) := hAT.2.2.1
              have hD9 : HD (fx M b18 0) (fx M b18 11) (fx M b18 15) (ax M b18 34) (ax M b18 41) := hAT.2.2.2.1
              have hE9 : HE (fx M b18 0) (fx M b18 1) (fx M b18 12) (fx M b18 13) (ax M b18 37) := hAT.2.2.2.2
              have hH9 : HI (va_up (va_up (fx M b18) 14 (((v36 + 1) : Nat) : Int)) 16 n_97) (va_up (va_up (va_up (va_up (ax M b18) 38 (upd (ax M b18 38) ((nI v36) : Int32).toNatClampNeg (nI j_29))) 39 (upd (ax M b18 39) ((nI v36) : Int32).toNatClampNeg k3)) 40 (upd (ax M b18 40) ((nI v36) : Int32).toNatClampNeg k4)) 43 g_98) := ⟨hA9, hB9, hC9, hD9, hE9⟩
              have hGI9 : GI K L z1 z2 M_86 := GI.fin hW0 i1 b2 hGI hact hV (hF.at i1 (by decide)) hH9
              rw [hQ]
              exact W.iret (v := (nI (v36 + 1))) hx hb hr (fun t ht hW9 => ⟨⟨(nI (v36 + 1)), M_86, rfl, ⟨hW, hF, hG, hGI9, trivial⟩, ⟨0, (-1), by rw [ht]; exact hP, hD⟩⟩, hS.F ht⟩) hS.2.2 dX13_move_158
            · have hz := rfl (a := 0)
              refine lv_iload hx hb dX13_move_123 (lv_at hl 5 rfl) ?_
              refine lv_ineg hx hb dX13_move_125 ?_
              refine lv_topi (fun f_103 ef_103 => ?_)
              refine lv_goto (tgt := 131) hx hb dX13_move_126 (by decide) ?_
              obtain ⟨f104, hM104⟩ := hW.open_81 hc57
              refine pg_iast hx hb hK hP hD hS hc57.1 0 hM104 rfl (inbN v36 120 (by omega) (by omega)) dX13_move_131 (fun H_105 locs hP hD hS => ?_)
              obtain ⟨M_106, eM_106⟩ : ∃ M1 : Hp, M1 = va_up M_51 v57 (.inl (cy 14, 120, .inl (upd f104 ((nI v36) : Int32).toNatClampNeg f_103))) := ⟨_, rfl⟩
              have hy40 : (ax M b18 40) = f104 := (congrFun hV.2.2.1 40).symm.trans (ax_of hM_55 (by decide) hv57 hM104)
              have hV : VW K L M M_106 b18 (fx M b18) (va_up (va_up (va_up (ax M b18) 38 (upd (ax M b18 38) ((nI v36) : Int32).toNatClampNeg (nI j_29))) 39 (upd (ax M b18 39) ((nI v36) : Int32).toNatClampNeg k3)) 40 (upd (ax M b18 40) ((nI v36) : Int32).toNatClampNeg f_103)) := by rw [eM_106]; exact hV.ast (j := 40) hW hb_20 hM_55 (by decide) hv57 hc57 hM104
              have hP : va_P D vwCl ([(za, .inr (13, [.int 0, .ref z1, .int (nI z2), .int (nI z3), .int z4, .int z5, .ref z6, .ref z7, .ref z8, .ref z9, .int (nI z10), .ref z11, .ref z12, .ref z13, .ref z14, .ref z15, .int (nI z16), .ref z17, .int z18, .ref z19]))] ++ va_pl L M_106) H_105 := by rw [eM_106]; exact hP
              have hD : va_D A ([(za, .inr (13, [.int 0, .ref z1, .int (nI z2), .int (nI z3), .int z4, .int z5, .ref z6, .ref z7, .ref z8, .ref z9, .int (nI z10), .ref z11, .ref z12, .ref z13, .ref z14, .ref z15, .int (nI z16), .ref z17, .int z18, .ref z19]))] ++ va_pl L M_106) := by rw [eM_106]; exact hD
              have hW : WOM cy K L M_106 := by rw [eM_106]; exact hW.up_81 hc57 ⟨_, rfl⟩
              have hF : fr K L [12, 14, 32, 36, 79, 80, 81] M M_106 := by rw [eM_106]; exact hF.up hc57 (by decide)
              have hG : fG K L [14, 16] M M_106 := by rw [eM_106]; exact hG.arr hc57 (by decide)
              have hM_107 : M_106 v57 = .inl (cy 14, 120, .inl (upd f104 ((nI v36) : Int32).toNatClampNeg f_103)) := by rw [eM_106]; exact va_up_self _ _ _
              have hM_108 : M_106 v48 = .inl (cy 14, 120, .inl (f_56)) := by rw [eM_106, va_up_ne _ _ (hc48.neT hc57 (by decide))]; exact hM_52
              have hM_109 : M_106 v39 = .inl (cy 14, 120, .inl (f_46)) := by rw [eM_106, va_up_ne _ _ (hc39.neT hc57 (by decide))]; exact hM_53
              have hM_110 : M_106 z1 = .inl (cy 23, 8, .inr (.inr (.inr (.inr (f16))))) := by rw [eM_106, va_up_ne _ _ (i1.neT hc57 (by decide))]; exact hM_54
              have hM_111 : M_106 b18 = .inr (12, fs21) := by rw [eM_106, va_up_ne _ _ (hb_20.neT hc57 (by decide))]; exact hM_55
              obtain ⟨f_112, ef_112⟩ : ∃ f : Nat → Int32, f = upd f104 ((nI v36) : Int32).toNatClampNeg f_103 := ⟨_, rfl⟩
              rw [← ef_112] at hM_107
              refine lv_aload hx hb dX13_move_132 (lv_at hl 0 rfl) ?_
              refine lv_dup hx hb dX13_move_134 rfl ?_
              refine pg_getN (D := D) (ci := 12) (v := .int (nI v36)) (C := RX12) (T := TX12) (N := 51) hx hb hg inG12 hown hK hP hb_20.1 hM_111 rfl 14 (by decide) (hN.use (Cond.fieldLinkNest RX13 193 RX12 "moves" "I" RX13) 23 rfl rfl) (fun _ h9 => h9) hv36 dX13_move_135 ?_
              refine lv_iconst (v := 1) hx hb dX13_move_138 (by decide) ?_
              refine lv_iadd hx hb dX13_move_139 ?_
              refine lv_topi (fun f_113 ef_113 => ?_)
              obtain rfl : f_113 = (nI (v36 + 1)) := ef_113.trans (nI_add v36 1)
              refine pg_putN (D := D) (ci := 12) (v := .int (nI (v36 + 1))) (ty := .int) (C := RX12) (T := TX12) (N := 51) hx hb hg inG12 tyX12 tyX12_ok nmX12 hown hK hP hD hS hb_20.1 hM_111 rfl 14 (by decide) (hN.use (Cond.fieldLinkNest RX13 193 RX12 "moves" "I" RX13) 23 rfl rfl) (fun _ h9 => h9) rfl (by decide +kernel) rfl rfl (by rw [hn21]; decide) dX13_move_140 (fun H_114 locs hP hD hS => ?_)
              have hs_117 : (fs21.set 14 (.int (nI (v36 + 1))))[14]? = some (.int (nI (v36 + 1))) := List.getElem?_set_self (by rw [hn21]; decide)
              have hk_116 := fld12_set (k := 14) (w := .int (nI (v36 + 1))) hl21 (show fld12 K L 14 (fs21.set 14 (.int (nI (v36 + 1)))) from ⟨(v36 + 1), hs_117, by omega⟩)
              have hn_118 : (fs21.set 14 (.int (nI (v36 + 1)))).length = 51 := by rw [List.length_set]; exact hn21
              have hv_119 : (fs21.set 14 (.int (nI (v36 + 1))))[38]? = some (.ref v39) := by rw [List.getElem?_set_ne (by decide)]; exact hv39
              have hv_120 : (fs21.set 14 (.int (nI (v36 + 1))))[39]? = some (.ref v48) := by rw [List.getElem?_set_ne (by decide)]; exact hv48
              have hv_121 : (fs21.set 14 (.int (nI (v36 + 1))))[40]? = some (.ref v57) := by rw [List.getElem?_set_ne (by decide)]; exact hv57
              have hb_122 : (v36 + 1) ≤ 120 := by omega
              obtain ⟨M_123, eM_123⟩ : ∃ M1 : Hp, M1 = va_up M_106 b18 (.inr (12, fs21.set 14 (.int (nI (v36 + 1))))) := ⟨_, rfl⟩
              have hx14 : (fx M b18 14) = ((v36 : Nat) : Int) := (congrFun hV.2.1 14).symm.trans ((fx_of hM_111 rfl hv36).trans (nI_toInt (by omega)))
              have hV : VW K L M M_123 b18 (va_up (fx M b18) 14 (((v36 + 1) : Nat) : Int)) (va_up (va_up (va_up (ax M b18) 38 (upd (ax M b18 38) ((nI v36) : Int32).toNatClampNeg (nI j_29))) 39 (upd (ax M b18 39) ((nI v36) : Int32).toNatClampNeg k3)) 40 (upd (ax M b18 40) ((nI v36) : Int32).toNatClampNeg f_103)) := by rw [eM_123]; exact hV.put hW hb_20 hM_111 hn21 rfl (by decide) rfl (nI_toInt (by omega))
              have hP : va_P D vwCl ([(za, .inr (13, [.int 0, .ref z1, .int (nI z2), .int (nI z3), .int z4, .int z5, .ref z6, .ref z7, .ref z8, .ref z9, .int (nI z10), .ref z11, .ref z12, .ref z13, .ref z14, .ref z15, .int (nI z16), .ref z17, .int z18, .ref z19]))] ++ va_pl L M_123) H_114 := by rw [eM_123]; exact hP
              have hD : va_D A ([(za, .inr (13, [.int 0, .ref z1, .int (nI z2), .int (nI z3), .int z4, .int z5, .ref z6, .ref z7, .ref z8, .ref z9, .int (nI z10), .ref z11, .ref z12, .ref z13, .ref z14, .ref z15, .int (nI z16), .ref z17, .int z18, .ref z19]))] ++ va_pl L M_123) := by rw [eM_123]; exact hD
              have hW : WOM cy K L M_123 := by rw [eM_123]; exact hW.up_12 hb_20 ⟨_, rfl, hn_118, hk_116⟩
              have hF : fr K L [12, 14, 32, 36, 79, 80, 81] M M_123 := by rw [eM_123]; exact hF.up hb_20 (by decide)
              have hG : fG K L [14, 16] M M_123 := by rw [eM_123]; exact hG.up hM_111 (by decide)
              have hM_124 : M_123 b18 = .inr (12, fs21.set 14 (.int (nI (v36 + 1)))) := by rw [eM_123]; exact va_up_self _ _ _
              have hM_125 : M_123 v57 = .inl (cy 14, 120, .inl (f_112)) := by rw [eM_123, va_up_ne _ _ (hc57.neT hb_20 (by decide))]; exact hM_107
              have hM_126 : M_123 v48 = .inl (cy 14, 120, .inl (f_56)) := by rw [eM_123, va_up_ne _ _ (hc48.neT hb_20 (by decide))]; exact hM_108
              have hM_127 : M_123 v39 = .inl (cy 14, 120, .inl (f_46)) := by rw [eM_123, va_up_ne _ _ (hc39.neT hb_20 (by decide))]; exact hM_109
              have hM_128 : M_123 z1 = .inl (cy 23, 8, .inr (.inr (.inr (.inr (f16))))) := by rw [eM_123, va_up_ne _ _ (i1.neT hb_20 (by decide))]; exact hM_110
              refine lv_aload hx hb dX13_move_143 (lv_at hl 0 rfl) ?_
              refine lv_iconst (v := (-1)) hx hb dX13_move_145 (by decide) ?_
              have hPc : va_P D vwCl ([] ++ va_pl L M_123) H_114 := hP.part (cx := []) [] rfl
              have hDc : va_D A ([] ++ va_pl L M_123) := hD.part (cx := []) [] (by decide) rfl
              have hFc : ∀ q, va_A ([] ++ va_pl L M_123) H_114.size q → A q := pg_free hDc hS hA
              refine va_callv (va_runV (As := [.int (-1)]) (rest := []) ⟨hx, hb, hml, hown, hg⟩ (r_remM l D cy K L M_123 H_114.size b18  hW hb_20 hV.2.2.2) (cwV 1 hg (gV wd_827 wd_828 wd_829 wd_737 wd_830) rfl rfl rfl (by decide +kernel) ⟨(Nat.le_trans (Nat.le_of_ble_eq_true rfl) hRf), (Nat.le_trans (Nat.le_of_ble_eq_true rfl) hRl)⟩) ⟨PG.blind, pg_recv hK hP hb_20.1 hM_124 rfl, fun U hU hW => ⟨rfl, PG.at hPc hK hDc hN hU hW⟩⟩ rfl rfl hl.1 rfl (lv_room (Nat.le_of_ble_eq_true rfl)) dX13_move_146 ⟨(Nat.le_trans (Nat.le_of_ble_eq_true rfl) hRc), (Nat.le_trans (Nat.le_of_ble_eq_true rfl) hRs)⟩) hS (fun q _ h => hFc q h) hFc (fun M_131 t H_129 locs ht hvm hw hB hz1 hk1 hS => ?_)
              have hWb := hW
              obtain ⟨hW, hF2, hG2, hVP, hp_132⟩ := hw
              obtain ⟨hP1, hD1⟩ := hB
              rw [ht] at hP1
              obtain ⟨hP, hD⟩ := va_joinP (X := [(za, .inr (13, [.int 0, .ref z1, .int (nI z2), .int (nI z3), .int z4, .int z5, .ref z6, .ref z7, .ref z8, .ref z9, .int (nI z10), .ref z11, .ref z12, .ref z13, .ref z14, .ref z15, .int (nI z16), .ref z17, .int z18, .ref z19]))]) (cx := []) (wr := [(za, .inr (13, [.int 0, .ref z1, .int (nI z2), .int (nI z3), .int z4, .int z5, .ref z6, .ref z7, .ref z8, .ref z9, .int (nI z10), .ref z11, .ref z12, .ref z13, .ref z14, .ref z15, .int (nI z16), .ref z17, .int z18, .ref z19]))]) (rx := []) (pl := va_pl L M_123) (pl1 := va_pl L M_131) hP hD [] [0] rfl rfl (by decide) (by decide) hk1 hFc hP1 hD1
              have hP : va_P D vwCl ([(za, .inr (13, [.int 0, .ref z1, .int (nI z2), .int (nI z3), .int z4, .int z5, .ref z6, .ref z7, .ref z8, .ref z9, .int (nI z10), .ref z11, .ref z12, .ref z13, .ref z14, .ref z15, .int (nI z16), .ref z17, .int z18, .ref z19]))] ++ va_pl L M_131) H_129 := hP
              have hD : va_D A ([(za, .inr (13, [.int 0, .ref z1, .int (nI z2), .int (nI z3), .int z4, .int z5, .ref z6, .ref z7, .ref z8, .ref z9, .int (nI z10), .ref z11, .ref z12, .ref z13, .ref z14, .ref z15, .int (nI z16), .ref z17, .int z18, .ref z19]))] ++ va_pl L M_131) := hD
              obtain ⟨fs133, hM133, hn133, hl133⟩ := hW.open_12 hb_20
              have hv_134 : fs133[38]? = some (.ref v39 : Value) := (hG2 _ hb_20 _ _ hM_124 hM133 38 (by decide)).trans hv_119
              have hv_135 : fs133[39]? = some (.ref v48 : Value) := (hG2 _ hb_20 _ _ hM_124 hM133 39 (by decide)).trans hv_120
              have hv_136 : fs133[40]? = some (.ref v57 : Value) := (hG2 _ hb_20 _ _ hM_124 hM133 40 (by decide)).trans hv_121
              have hv_137 : fs133[14]? = some (.int (nI (v36 + 1)) : Value) := (hG2 _ hb_20 _ _ hM_124 hM133 14 (by decide)).trans hs_117
              have hM_138 : M_131 v57 = .inl (cy 14, 120, .inl (f_112)) := (hF2.at hc57 (by decide)).trans hM_125
              have hM_139 : M_131 v48 = .inl (cy 14, 120, .inl (f_56)) := (hF2.at hc48 (by decide)).trans hM_126
              have hM_140 : M_131 v39 = .inl (cy 14, 120, .inl (f_46)) := (hF2.at hc39 (by decide)).trans hM_127
              have hM_141 : M_131 z1 = .inl (cy 23, 8, .inr (.inr (.inr (.inr (f16))))) := (hF2.at i1 (by decide)).trans hM_128
              have hF : fr K L [12, 14, 32, 36, 79, 80, 81] M M_131 := hF.tr hF2 (by decide)
              have hG : fG K L [14, 16] M M_131 := hG.tr hWb hG2 (by decide)
              obtain ⟨n_142, g_143, hRF, hV2⟩ := hVP
              rw [hV.2.1, hV.2.2.1] at hRF hV2
              have hRF : REMF (fx M b18 16) (ax M b18 43) (-1) n_142 g_143 := hRF
              have hV : VW K L M M_131 b18 (va_up (va_up (fx M b18) 14 (((v36 + 1) : Nat) : Int)) 16 n_142) (va_up (va_up (va_up (va_up (ax M b18) 38 (upd (ax M b18 38) ((nI v36) : Int32).toNatClampNeg (nI j_29))) 39 (upd (ax M b18 39) ((nI v36) : Int32).toNatClampNeg k3)) 40 (upd (ax M b18 40) ((nI v36) : Int32).toNatClampNeg f_103)) 43 g_143) := hV.tr hV2
              refine lv_aload_n hx hb dX13_move_149 rfl (lv_at hl 1 rfl) ?_
              refine lv_aload hx hb dX13_move_150 (lv_at hl 0 rfl) ?_
              refine pg_getN (D := D) (ci := 12) (v := .int (nI (v36 + 1))) (C := RX12) (T := TX12) (N := 51) hx hb hg inG12 hown hK hP hb_20.1 hM133 rfl 14 (by decide) (hN.use (Cond.fieldLinkNest RX13 193 RX12 "moves" "I" RX13) 23 rfl rfl) (fun _ h9 => h9) hv_137 dX13_move_152 ?_
              have hPc := hP.sub (ws' := [(za, .inr (13, [.int 0, .ref z1, .int (nI z2), .int (nI z3), .int z4, .int z5, .ref z6, .ref z7, .ref z8, .ref z9, .int (nI z10), .ref z11, .ref z12, .ref z13, .ref z14, .ref z15, .int (nI z16), .ref z17, .int z18, .ref z19]))]) [0] rfl
              have hDc := hD.sub (ws' := [(za, .inr (13, [.int 0, .ref z1, .int (nI z2), .int (nI z3), .int z4, .int z5, .ref z6, .ref z7, .ref z8, .ref z9, .int (nI z10), .ref z11, .ref z12, .ref z13, .ref z14, .ref z15, .int (nI z16), .ref z17, .int z18, .ref z19]))]) [0] (by decide) rfl
              have hKc := hK.sub (tys' := []) [] rfl
              have hFc := va_free (wc := [(za, .inr (13, [.int 0, .ref z1, .int (nI z2), .int (nI z3), .int z4, .int z5, .ref z6, .ref z7, .ref z8, .ref z9, .int (nI z10), .ref z11, .ref z12, .ref z13, .ref z14, .ref z15, .int (nI z16), .ref z17, .int z18, .ref z19]))]) hD hS hA [0] rfl
              refine va_calli (va_runV (As := [.int (nI (v36 + 1))]) (rest := []) ⟨hx, hb, hml, hown, hg⟩ (m_done l D H_129.size za 0 z1 (nI z2) (nI z3) z4 z5 z6 z7 z8 z9 (nI z10) z11 z12 z13 z14 z15 (nI z16) z17 z18 z19 (nI (v36 + 1))) (cwV 1 hg (gV wd_730 wd_731 wd_732 wd_717 wd_733) rfl rfl rfl (by decide +kernel) ⟨(Nat.le_trans (Nat.le_of_ble_eq_true rfl) hRf), (Nat.le_trans (Nat.le_of_ble_eq_true rfl) hRl)⟩) ⟨Pr.blind, va_recv hK hP (ci := 13) (q0 := 0) rfl rfl, fun U hU hW => ⟨rfl, Pr.at hPc hKc hDc hN hU hW⟩⟩ rfl rfl hl.1 rfl (lv_room (Nat.le_of_ble_eq_true rfl)) dX13_move_155 ⟨(Nat.le_trans (Nat.le_of_ble_eq_true rfl) hRc), (Nat.le_trans (Nat.le_of_ble_eq_true rfl) hRs)⟩) hS (fun q _ h => hFc q h) hFc (fun r_145 M_146 t H_144 locs ht hvm hw hB hz1 hk1 hS => ?_)
              have hp_147 := hw
              obtain ⟨hP1, hK1, hD1⟩ := hB
              rw [ht] at hP1
              obtain ⟨hP, hD⟩ := va_joinQ (X := [(za, .inr (13, [.int 0, .ref z1, .int (nI z2), .int (nI z3), .int z4, .int z5, .ref z6, .ref z7, .ref z8, .ref z9, .int (nI z10), .ref z11, .ref z12, .ref z13, .ref z14, .ref z15, .int (nI z16), .ref z17, .int z18, .ref z19]))]) (cx := [(za, .inr (13, [.int 0, .ref z1, .int (nI z2), .int (nI z3), .int z4, .int z5, .ref z6, .ref z7, .ref z8, .ref z9, .int (nI z10), .ref z11, .ref z12, .ref z13, .ref z14, .ref z15, .int (nI z16), .ref z17, .int z18, .ref z19]))]) (wr := []) (w1 := [(za, .inr (13, [.int 0, .ref z1, .int (nI z2), .int (nI z3), .int 0, .int (-1), .ref z6, .ref z7, .ref z8, .ref z9, .int (nI z10), .ref z11, .ref z12, .ref z13, .ref z14, .ref z15, .int (nI z16), .ref z17, .int z18, .ref z19]))]) (pl := va_pl L M_131) hP hD [0] [] rfl rfl (by decide) (by decide) hk1 hFc hP1 hD1
              have hP : va_P D vwCl ([(za, .inr (13, [.int 0, .ref z1, .int (nI z2), .int (nI z3), .int 0, .int (-1), .ref z6, .ref z7, .ref z8, .ref z9, .int (nI z10), .ref z11, .ref z12, .ref z13, .ref z14, .ref z15, .int (nI z16), .ref z17, .int z18, .ref z19]))] ++ va_pl L M_131) H_144 := hP
              have hD : va_D A ([(za, .inr (13, [.int 0, .ref z1, .int (nI z2), .int (nI z3), .int 0, .int (-1), .ref z6, .ref z7, .ref z8, .ref z9, .int (nI z10), .ref z11, .ref z12, .ref z13, .ref z14, .ref z15, .int (nI z16), .ref z17, .int z18, .ref z19]))] ++ va_pl L M_131) := hD
              have hq := Eq.symm hp_147
              subst hq
              have hA9 : HA (ax M b18 2) (ax M b18 3) := hAT.1
              have hB9 : HB n_142 (((v36 + 1) : Nat) : Int) (ax M b18 3) g_143 := HB.remM hAT.2.1 hRF (by omega)
              have hC9 : HC (fx M b18 10) (ax M b18 22) (ax M b18 23) := hAT.2.2.1
              have hD9 : HD (fx M b18 0) (fx M b18 11) (fx M b18 15) (ax M b18 34) (ax M b18 41) := hAT.2.2.2.1
              have hE9 : HE (fx M b18 0) (fx M b18 1) (fx M b18 12) (fx M b18 13) (ax M b18 37) := hAT.2.2.2.2
              have hH9 : HI (va_up (va_up (fx M b18) 14 (((v36 + 1) : Nat) : Int)) 16 n_142) (va_up (va_up (va_up (va_up (ax M b18) 38 (upd (ax M b18 38) ((nI v36) : Int32).toNatClampNeg (nI j_29))) 39 (upd (ax M b18 39) ((nI v36) : Int32).toNatClampNeg k3)) 40 (upd (ax M b18 40) ((nI v36) : Int32).toNatClampNeg f_103)) 43 g_143) := ⟨hA9, hB9, hC9, hD9, hE9⟩
              have hGI9 : GI K L z1 z2 M_131 := GI.fin hW0 i1 b2 hGI hact hV (hF.at i1 (by decide)) hH9
              rw [hQ]
              exact W.iret (v := (nI (v36 + 1))) hx hb hr (fun t ht hW9 => ⟨⟨(nI (v36 + 1)), M_131, rfl, ⟨hW, hF, hG, hGI9, trivial⟩, ⟨0, (-1), by rw [ht]; exact hP, hD⟩⟩, hS.F ht⟩) hS.2.2 dX13_move_158
          · have hz := rfl (a := 0)
            have n_148 : v36 = 120 := (iEQ (a := v36) (b := 120) (by omega) (by omega)).mp c_37
            refine lv_aload_n hx hb dX13_move_77 rfl (lv_at hl 1 rfl) ?_
            refine lv_bipush (v := 9) hx hb dX13_move_78 (by decide) ?_
            have hPc := hP.sub (ws' := [(za, .inr (13, [.int 0, .ref z1, .int (nI z2), .int (nI z3), .int z4, .int z5, .ref z6, .ref z7, .ref z8, .ref z9, .int (nI z10), .ref z11, .ref z12, .ref z13, .ref z14, .ref z15, .int (nI z16), .ref z17, .int z18, .ref z19]))]) [0] rfl
            have hDc := hD.sub (ws' := [(za, .inr (13, [.int 0, .ref z1, .int (nI z2), .int (nI z3), .int z4, .int z5, .ref z6, .ref z7, .ref z8, .ref z9, .int (nI z10), .ref z11, .ref z12, .ref z13, .ref z14, .ref z15, .int (nI z16), .ref z17, .int z18, .ref z19]))]) [0] (by decide) rfl
            have hKc := hK.sub (tys' := []) [] rfl
            have hFc := va_free (wc := [(za, .inr (13, [.int 0, .ref z1, .int (nI z2), .int (nI z3), .int z4, .int z5, .ref z6, .ref z7, .ref z8, .ref z9, .int (nI z10), .ref z11, .ref z12, .ref z13, .ref z14, .ref z15, .int (nI z16), .ref z17, .int z18, .ref z19]))]) hD hS hA [0] rfl
            refine va_calli (va_runV (As := [.int 9]) (rest := []) ⟨hx, hb, hml, hown, hg⟩ (m_refused l D H_31.size za 0 z1 (nI z2) (nI z3) z4 z5 z6 z7 z8 z9 (nI z10) z11 z12 z13 z14 z15 (nI z16) z17 z18 z19 9) (cwV 1 hg (gV wd_725 wd_726 wd_727 wd_717 wd_728) rfl rfl rfl (by decide +kernel) ⟨(Nat.le_trans (Nat.le_of_ble_eq_true rfl) hRf), (Nat.le_trans (Nat.le_of_ble_eq_true rfl) hRl)⟩) ⟨Pr.blind, va_recv hK hP (ci := 13) (q0 := 0) rfl rfl, fun U hU hW => ⟨rfl, Pr.at hPc hKc hDc hN hU hW⟩⟩ rfl rfl hl.1 rfl (lv_room (Nat.le_of_ble_eq_true rfl)) dX13_move_80 ⟨(Nat.le_trans (Nat.le_of_ble_eq_true rfl) hRc), (Nat.le_trans (Nat.le_of_ble_eq_true rfl) hRs)⟩) hS (fun q _ h => hFc q h) hFc (fun r_150 M_151 t H_149 locs ht hvm hw hB hz1 hk1 hS => ?_)
            have hp_152 := hw
            obtain ⟨hP1, hK1, hD1⟩ := hB
            rw [ht] at hP1
            obtain ⟨hP, hD⟩ := va_joinQ (X := [(za, .inr (13, [.int 0, .ref z1, .int (nI z2), .int (nI z3), .int z4, .int z5, .ref z6, .ref z7, .ref z8, .ref z9, .int (nI z10), .ref z11, .ref z12, .ref z13, .ref z14, .ref z15, .int (nI z16), .ref z17, .int z18, .ref z19]))]) (cx := [(za, .inr (13, [.int 0, .ref z1, .int (nI z2), .int (nI z3), .int z4, .int z5, .ref z6, .ref z7, .ref z8, .ref z9, .int (nI z10), .ref z11, .ref z12, .ref z13, .ref z14, .ref z15, .int (nI z16), .ref z17, .int z18, .ref z19]))]) (wr := []) (w1 := [(za, .inr (13, [.int 0, .ref z1, .int (nI z2), .int (nI z3), .int 9, .int (-1), .ref z6, .ref z7, .ref z8, .ref z9, .int (nI z10), .ref z11, .ref z12, .ref z13, .ref z14, .ref z15, .int (nI z16), .ref z17, .int z18, .ref z19]))]) (pl := va_pl L M) hP hD [0] [] rfl rfl (by decide) (by decide) hk1 hFc hP1 hD1
            have hP : va_P D vwCl ([(za, .inr (13, [.int 0, .ref z1, .int (nI z2), .int (nI z3), .int 9, .int (-1), .ref z6, .ref z7, .ref z8, .ref z9, .int (nI z10), .ref z11, .ref z12, .ref z13, .ref z14, .ref z15, .int (nI z16), .ref z17, .int z18, .ref z19]))] ++ va_pl L M) H_149 := hP
            have hD : va_D A ([(za, .inr (13, [.int 0, .ref z1, .int (nI z2), .int (nI z3), .int 9, .int (-1), .ref z6, .ref z7, .ref z8, .ref z9, .int (nI z10), .ref z11, .ref z12, .ref z13, .ref z14, .ref z15, .int (nI z16), .ref z17, .int z18, .ref z19]))] ++ va_pl L M) := hD
            have hq := Eq.symm hp_152
            subst hq
            rw [hQ]
            exact W.iret (v := (-1)) hx hb hr (fun t ht hW9 => ⟨⟨(-1), M, rfl, ⟨hW, hF, hG, hGI, trivial⟩, ⟨9, (-1), by rw [ht]; exact hP, hD⟩⟩, hS.F ht⟩) hS.2.2 dX13_move_83
        · have hz := rfl (a := 0)
          refine lv_if_ne (tgt := 67) hx hb dX13_move_58 (by decide) (fun c_153 => absurd c_153 (by decide)) (fun _ => ?_)
          refine lv_aload_n hx hb dX13_move_61 rfl (lv_at hl 1 rfl) ?_
          refine lv_iconst (v := 3) hx hb dX13_move_62 (by decide) ?_
          have hPc := hP.sub (ws' := [(za, .inr (13, [.int 0, .ref z1, .int (nI z2), .int (nI z3), .int z4, .int z5, .ref z6, .ref z7, .ref z8, .ref z9, .int (nI z10), .ref z11, .ref z12, .ref z13, .ref z14, .ref z15, .int (nI z16), .ref z17, .int z18, .ref z19]))]) [0] rfl
          have hDc := hD.sub (ws' := [(za, .inr (13, [.int 0, .ref z1, .int (nI z2), .int (nI z3), .int z4, .int z5, .ref z6, .ref z7, .ref z8, .ref z9, .int (nI z10), .ref z11, .ref z12, .ref z13, .ref z14, .ref z15, .int (nI z16), .ref z17, .int z18, .ref z19]))]) [0] (by decide) rfl
          have hKc := hK.sub (tys' := []) [] rfl
          have hFc := va_free (wc := [(za, .inr (13, [.int 0, .ref z1, .int (nI z2), .int (nI z3), .int z4, .int z5, .ref z6, .ref z7, .ref z8, .ref z9, .int (nI z10), .ref z11, .ref z12, .ref z13, .ref z14, .ref z15, .int (nI z16), .ref z17, .int z18, .ref z19]))]) hD hS hA [0] rfl
          refine va_calli (va_runV (As := [.int 3]) (rest := []) ⟨hx, hb, hml, hown, hg⟩ (m_refused l D H_31.size za 0 z1 (nI z2) (nI z3) z4 z5 z6 z7 z8 z9 (nI z10) z11 z12 z13 z14 z15 (nI z16) z17 z18 z19 3) (cwV 1 hg (gV wd_725 wd_726 wd_727 wd_717 wd_728) rfl rfl rfl (by decide +kernel) ⟨(Nat.le_trans (Nat.le_of_ble_eq_true rfl) hRf), (Nat.le_trans (Nat.le_of_ble_eq_true rfl) hRl)⟩) ⟨Pr.blind, va_recv hK hP (ci := 13) (q0 := 0) rfl rfl, fun U hU hW => ⟨rfl, Pr.at hPc hKc hDc hN hU hW⟩⟩ rfl rfl hl.1 rfl (lv_room (Nat.le_of_ble_eq_true rfl)) dX13_move_63 ⟨(Nat.le_trans (Nat.le_of_ble_eq_true rfl) hRc), (Nat.le_trans (Nat.le_of_ble_eq_true rfl) hRs)⟩) hS (fun q _ h => hFc q h) hFc (fun r_155 M_156 t H_154 locs ht hvm hw hB hz1 hk1 hS => ?_)
          have hp_157 := hw
          obtain ⟨hP1, hK1, hD1⟩ := hB
          rw [ht] at hP1
          obtain ⟨hP, hD⟩ := va_joinQ (X := [(za, .inr (13, [.int 0, .ref z1, .int (nI z2), .int (nI z3), .int z4, .int z5, .ref z6, .ref z7, .ref z8, .ref z9, .int (nI z10), .ref z11, .ref z12, .ref z13, .ref z14, .ref z15, .int (nI z16), .ref z17, .int z18, .ref z19]))]) (cx := [(za, .inr (13, [.int 0, .ref z1, .int (nI z2), .int (nI z3), .int z4, .int z5, .ref z6, .ref z7, .ref z8, .ref z9, .int (nI z10), .ref z11, .ref z12, .ref z13, .ref z14, .ref z15, .int (nI z16), .ref z17, .int z18, .ref z19]))]) (wr := []) (w1 := [(za, .inr (13, [.int 0, .ref z1, .int (nI z2), .int (nI z3), .int 3, .int (-1), .ref z6, .ref z7, .ref z8, .ref z9, .int (nI z10), .ref z11, .ref z12, .ref z13, .ref z14, .ref z15, .int (nI z16), .ref z17, .int z18, .ref z19]))]) (pl := va_pl L M) hP hD [0] [] rfl rfl (by decide) (by decide) hk1 hFc hP1 hD1
          have hP : va_P D vwCl ([(za, .inr (13, [.int 0, .ref z1, .int (nI z2), .int (nI z3), .int 3, .int (-1), .ref z6, .ref z7, .ref z8, .ref z9, .int (nI z10), .ref z11, .ref z12, .ref z13, .ref z14, .ref z15, .int (nI z16), .ref z17, .int z18, .ref z19]))] ++ va_pl L M) H_154 := hP
          have hD : va_D A ([(za, .inr (13, [.int 0, .ref z1, .int (nI z2), .int (nI z3), .int 3, .int (-1), .ref z6, .ref z7, .ref z8, .ref z9, .int (nI z10), .ref z11, .ref z12, .ref z13, .ref z14, .ref z15, .int (nI z16), .ref z17, .int z18, .ref z19]))] ++ va_pl L M) := hD
          have hq := Eq.symm hp_157
          subst hq
          rw [hQ]
          exact W.iret (v := (-1)) hx hb hr (fun t ht hW9 => ⟨⟨(-1), M, rfl, ⟨hW, hF, hG, hGI, trivial⟩, ⟨3, (-1), by rw [ht]; exact hP, hD⟩⟩, hS.F ht⟩) hS.2.2 dX13_move_66
      · have hz := rfl (a := 0)
        refine lv_if_eq (tgt := 61) hx hb dX13_move_48 (by decide) (fun _ => ?_) (fun c_158 => absurd c_158 (by decide))
        refine lv_aload_n hx hb dX13_move_61 rfl (lv_at hl 1 rfl) ?_
        refine lv_iconst (v := 3) hx hb dX13_move_62 (by decide) ?_
        have hPc := hP.sub (ws' := [(za, .inr (13, [.int 0, .ref z1, .int (nI z2), .int (nI z3), .int z4, .int z5, .ref z6, .ref z7, .ref z8, .ref z9, .int (nI z10), .ref z11, .ref z12, .ref z13, .ref z14, .ref z15, .int (nI z16), .ref z17, .int z18, .ref z19]))]) [0] rfl
        have hDc := hD.sub (ws' := [(za, .inr (13, [.int 0, .ref z1, .int (nI z2), .int (nI z3), .int z4, .int z5, .ref z6, .ref z7, .ref z8, .ref z9, .int (nI z10), .ref z11, .ref z12, .ref z13, .ref z14, .ref z15, .int (nI z16), .ref z17, .int z18, .ref z19]))]) [0] (by decide) rfl
        have hKc := hK.sub (tys' := []) [] rfl
        have hFc := va_free (wc := [(za, .inr (13, [.int 0, .ref z1, .int (nI z2), .int (nI z3), .int z4, .int z5, .ref z6, .ref z7, .ref z8, .ref z9, .int (nI z10), .ref z11, .ref z12, .ref z13, .ref z14, .ref z15, .int (nI z16), .ref z17, .int z18, .ref z19]))]) hD hS hA [0] rfl
        refine va_calli (va_runV (As := [.int 3]) (rest := []) ⟨hx, hb, hml, hown, hg⟩ (m_refused l D H_22.size za 0 z1 (nI z2) (nI z3) z4 z5 z6 z7 z8 z9 (nI z10) z11 z12 z13 z14 z15 (nI z16) z17 z18 z19 3) (cwV 1 hg (gV wd_725 wd_726 wd_727 wd_717 wd_728) rfl rfl rfl (by decide +kernel) ⟨(Nat.le_trans (Nat.le_of_ble_eq_true rfl) hRf), (Nat.le_trans (Nat.le_of_ble_eq_true rfl) hRl)⟩) ⟨Pr.blind, va_recv hK hP (ci := 13) (q0 := 0) rfl rfl, fun U hU hW => ⟨rfl, Pr.at hPc hKc hDc hN hU hW⟩⟩ rfl rfl hl.1 rfl (lv_room (Nat.le_of_ble_eq_true rfl)) dX13_move_63 ⟨(Nat.le_trans (Nat.le_of_ble_eq_true rfl) hRc), (Nat.le_trans (Nat.le_of_ble_eq_true rfl) hRs)⟩) hS (fun q _ h => hFc q h) hFc (fun r_160 M_161 t H_159 locs ht hvm hw hB hz1 hk1 hS => ?_)
        have hp_162 := hw
        obtain ⟨hP1, hK1, hD1⟩ := hB
        rw [ht] at hP1
        obtain ⟨hP, hD⟩ := va_joinQ (X := [(za, .inr (13, [.int 0, .ref z1, .int (nI z2), .int (nI z3), .int z4, .int z5, .ref z6, .ref z7, .ref z8, .ref z9, .int (nI z10), .ref z11, .ref z12, .ref z13, .ref z14, .ref z15, .int (nI z16), .ref z17, .int z18, .ref z19]))]) (cx := [(za, .inr (13, [.int 0, .ref z1, .int (nI z2), .int (nI z3), .int z4, .int z5, .ref z6, .ref z7, .ref z8, .ref z9, .int (nI z10), .ref z11, .ref z12, .ref z13, .ref z14, .ref z15, .int (nI z16), .ref z17, .int z18, .ref z19]))]) (wr := []) (w1 := [(za, .inr (13, [.int 0, .ref z1, .int (nI z2), .int (nI z3), .int 3, .int (-1), .ref z6, .ref z7, .ref z8, .ref z9, .int (nI z10), .ref z11, .ref z12, .ref z13, .ref z14, .ref z15, .int (nI z16), .ref z17, .int z18, .ref z19]))]) (pl := va_pl L M) hP hD [0] [] rfl rfl (by decide) (by decide) hk1 hFc hP1 hD1
        have hP : va_P D vwCl ([(za, .inr (13, [.int 0, .ref z1, .int (nI z2), .int (nI z3), .int 3, .int (-1), .ref z6, .ref z7, .ref z8, .ref z9, .int (nI z10), .ref z11, .ref z12, .ref z13, .ref z14, .ref z15, .int (nI z16), .ref z17, .int z18, .ref z19]))] ++ va_pl L M) H_159 := hP
        have hD : va_D A ([(za, .inr (13, [.int 0, .ref z1, .int (nI z2), .int (nI z3), .int 3, .int (-1), .ref z6, .ref z7, .ref z8, .ref z9, .int (nI z10), .ref z11, .ref z12, .ref z13, .ref z14, .ref z15, .int (nI z16), .ref z17, .int z18, .ref z19]))] ++ va_pl L M) := hD
        have hq := Eq.symm hp_162
        subst hq
        rw [hQ]
        exact W.iret (v := (-1)) hx hb hr (fun t ht hW9 => ⟨⟨(-1), M, rfl, ⟨hW, hF, hG, hGI, trivial⟩, ⟨3, (-1), by rw [ht]; exact hP, hD⟩⟩, hS.F ht⟩) hS.2.2 dX13_move_66
    · have hz := rfl (a := 0)
      refine lv_if_ne (tgt := 34) hx hb dX13_move_25 (by decide) (fun c_163 => absurd c_163 (by decide)) (fun _ => ?_)
      refine lv_aload_n hx hb dX13_move_28 rfl (lv_at hl 0 rfl) ?_
      refine lv_iconst (v := 2) hx hb dX13_move_29 (by decide) ?_
      have hPc := hP.sub (ws' := [(za, .inr (13, [.int 0, .ref z1, .int (nI z2), .int (nI z3), .int z4, .int z5, .ref z6, .ref z7, .ref z8, .ref z9, .int (nI z10), .ref z11, .ref z12, .ref z13, .ref z14, .ref z15, .int (nI z16), .ref z17, .int z18, .ref z19]))]) [0] rfl
      have hDc := hD.sub (ws' := [(za, .inr (13, [.int 0, .ref z1, .int (nI z2), .int (nI z3), .int z4, .int z5, .ref z6, .ref z7, .ref z8, .ref z9, .int (nI z10), .ref z11, .ref z12, .ref z13, .ref z14, .ref z15, .int (nI z16), .ref z17, .int z18, .ref z19]))]) [0] (by decide) rfl
      have hKc := hK.sub (tys' := []) [] rfl
      have hFc := va_free (wc := [(za, .inr (13, [.int 0, .ref z1, .int (nI z2), .int (nI z3), .int z4, .int z5, .ref z6, .ref z7, .ref z8, .ref z9, .int (nI z10), .ref z11, .ref z12, .ref z13, .ref z14, .ref z15, .int (nI z16), .ref z17, .int z18, .ref z19]))]) hD hS hA [0] rfl
      refine va_calli (va_runV (As := [.int 2]) (rest := []) ⟨hx, hb, hml, hown, hg⟩ (m_refused l D H_11.size za 0 z1 (nI z2) (nI z3) z4 z5 z6 z7 z8 z9 (nI z10) z11 z12 z13 z14 z15 (nI z16) z17 z18 z19 2) (cwV 1 hg (gV wd_725 wd_726 wd_727 wd_717 wd_728) rfl rfl rfl (by decide +kernel) ⟨(Nat.le_trans (Nat.le_of_ble_eq_true rfl) hRf), (Nat.le_trans (Nat.le_of_ble_eq_true rfl) hRl)⟩) ⟨Pr.blind, va_recv hK hP (ci := 13) (q0 := 0) rfl rfl, fun U hU hW => ⟨rfl, Pr.at hPc hKc hDc hN hU hW⟩⟩ rfl rfl hl.1 rfl (lv_room (Nat.le_of_ble_eq_true rfl)) dX13_move_30 ⟨(Nat.le_trans (Nat.le_of_ble_eq_true rfl) hRc), (Nat.le_trans (Nat.le_of_ble_eq_true rfl) hRs)⟩) hS (fun q _ h => hFc q h) hFc (fun r_165 M_166 t H_164 locs ht hvm hw hB hz1 hk1 hS => ?_)
      have hp_167 := hw
      obtain ⟨hP1, hK1, hD1⟩ := hB
      rw [ht] at hP1
      obtain ⟨hP, hD⟩ := va_joinQ (X := [(za, .inr (13, [.int 0, .ref z1, .int (nI z2), .int (nI z3), .int z4, .int z5, .ref z6, .ref z7, .ref z8, .ref z9, .int (nI z10), .ref z11, .ref z12, .ref z13, .ref z14, .ref z15, .int (nI z16), .ref z17, .int z18, .ref z19]))]) (cx := [(za, .inr (13, [.int 0, .ref z1, .int (nI z2), .int (nI z3), .int z4, .int z5, .ref z6, .ref z7, .ref z8, .ref z9, .int (nI z10), .ref z11, .ref z12, .ref z13, .ref z14, .ref z15, .int (nI z16), .ref z17, .int z18, .ref z19]))]) (wr := []) (w1 := [(za, .inr (13, [.int 0, .ref z1, .int (nI z2), .int (nI z3), .int 2, .int (-1), .ref z6, .ref z7, .ref z8, .ref z9, .int (nI z10), .ref z11, .ref z12, .ref z13, .ref z14, .ref z15, .int (nI z16), .ref z17, .int z18, .ref z19]))]) (pl := va_pl L M) hP hD [0] [] rfl rfl (by decide) (by decide) hk1 hFc hP1 hD1
      have hP : va_P D vwCl ([(za, .inr (13, [.int 0, .ref z1, .int (nI z2), .int (nI z3), .int 2, .int (-1), .ref z6, .ref z7, .ref z8, .ref z9, .int (nI z10), .ref z11, .ref z12, .ref z13, .ref z14, .ref z15, .int (nI z16), .ref z17, .int z18, .ref z19]))] ++ va_pl L M) H_164 := hP
      have hD : va_D A ([(za, .inr (13, [.int 0, .ref z1, .int (nI z2), .int (nI z3), .int 2, .int (-1), .ref z6, .ref z7, .ref z8, .ref z9, .int (nI z10), .ref z11, .ref z12, .ref z13, .ref z14, .ref z15, .int (nI z16), .ref z17, .int z18, .ref z19]))] ++ va_pl L M) := hD
      have hq := Eq.symm hp_167
      subst hq
      rw [hQ]
      exact W.iret (v := (-1)) hx hb hr (fun t ht hW9 => ⟨⟨(-1), M, rfl, ⟨hW, hF, hG, hGI, trivial⟩, ⟨2, (-1), by rw [ht]; exact hP, hD⟩⟩, hS.F ht⟩) hS.2.2 dX13_move_33
  · have hz := rfl (a := 0)
    refine lv_if_ne (tgt := 20) hx hb dX13_move_11 (by decide) (fun c_168 => absurd c_168 (by decide)) (fun _ => ?_)
    refine lv_aload_n hx hb dX13_move_14 rfl (lv_at hl 0 rfl) ?_
    refine lv_iconst (v := 1) hx hb dX13_move_15 (by decide) ?_
    have hPc := hP.sub (ws' := [(za, .inr (13, [.int 0, .ref z1, .int (nI z2), .int (nI z3), .int z4, .int z5, .ref z6, .ref z7, .ref z8, .ref z9, .int (nI z10), .ref z11, .ref z12, .ref z13, .ref z14, .ref z15, .int (nI z16), .ref z17, .int z18, .ref z19]))]) [0] rfl
    have hDc := hD.sub (ws' := [(za, .inr (13, [.int 0, .ref z1, .int (nI z2), .int (nI z3), .int z4, .int z5, .ref z6, .ref z7, .ref z8, .ref z9, .int (nI z10), .ref z11, .ref z12, .ref z13, .ref z14, .ref z15, .int (nI z16), .ref z17, .int z18, .ref z19]))]) [0] (by decide) rfl
    have hKc := hK.sub (tys' := []) [] rfl
    have hFc := va_free (wc := [(za, .inr (13, [.int 0, .ref z1, .int (nI z2), .int (nI z3), .int z4, .int z5, .ref z6, .ref z7, .ref z8, .ref z9, .int (nI z10), .ref z11, .ref z12, .ref z13, .ref z14, .ref z15, .int (nI z16), .ref z17, .int z18, .ref z19]))]) hD hS hA [0] rfl
    refine va_calli (va_runV (As := [.int 1]) (rest := []) ⟨hx, hb, hml, hown, hg⟩ (m_refused l D H_2.size za 0 z1 (nI z2) (nI z3) z4 z5 z6 z7 z8 z9 (nI z10) z11 z12 z13 z14 z15 (nI z16) z17 z18 z19 1) (cwV 1 hg (gV wd_725 wd_726 wd_727 wd_717 wd_728) rfl rfl rfl (by decide +kernel) ⟨(Nat.le_trans (Nat.le_of_ble_eq_true rfl) hRf), (Nat.le_trans (Nat.le_of_ble_eq_true rfl) hRl)⟩) ⟨Pr.blind, va_recv hK hP (ci := 13) (q0 := 0) rfl rfl, fun U hU hW => ⟨rfl, Pr.at hPc hKc hDc hN hU hW⟩⟩ rfl rfl hl.1 rfl (lv_room (Nat.le_of_ble_eq_true rfl)) dX13_move_16 ⟨(Nat.le_trans (Nat.le_of_ble_eq_true rfl) hRc), (Nat.le_trans (Nat.le_of_ble_eq_true rfl) hRs)⟩) hS (fun q _ h => hFc q h) hFc (fun r_170 M_171 t H_169 locs ht hvm hw hB hz1 hk1 hS => ?_)
    have hp_172 := hw
    obtain ⟨hP1, hK1, hD1⟩ := hB
    rw [ht] at hP1
    obtain ⟨hP, hD⟩ := va_joinQ (X := [(za, .inr (13, [.int 0, .ref z1, .int (nI z2), .int (nI z3), .int z4, .int z5, .ref z6, .ref z7, .ref z8, .ref z9, .int (nI z10), .ref z11, .ref z12, .ref z13, .ref z14, .ref z15, .int (nI z16), .ref z17, .int z18, .ref z19]))]) (cx := [(za, .inr (13, [.int 0, .ref z1, .int (nI z2), .int (nI z3), .int z4, .int z5, .ref z6, .ref z7, .ref z8, .ref z9, .int (nI z10), .ref z11, .ref z12, .ref z13, .ref z14, .ref z15, .int (nI z16), .ref z17, .int z18, .ref z19]))]) (wr := []) (w1 := [(za, .inr (13, [.int 0, .ref z1, .int (nI z2), .int (nI z3), .int 1, .int (-1), .ref z6, .ref z7, .ref z8, .ref z9, .int (nI z10), .ref z11, .ref z12, .ref z13, .ref z14, .ref z15, .int (nI z16), .ref z17, .int z18, .ref z19]))]) (pl := va_pl L M) hP hD [0] [] rfl rfl (by decide) (by decide) hk1 hFc hP1 hD1
    have hP : va_P D vwCl ([(za, .inr (13, [.int 0, .ref z1, .int (nI z2), .int (nI z3), .int 1, .int (-1), .ref z6, .ref z7, .ref z8, .ref z9, .int (nI z10), .ref z11, .ref z12, .ref z13, .ref z14, .ref z15, .int (nI z16), .ref z17, .int z18, .ref z19]))] ++ va_pl L M) H_169 := hP
    have hD : va_D A ([(za, .inr (13, [.int 0, .ref z1, .int (nI z2), .int (nI z3), .int 1, .int (-1), .ref z6, .ref z7, .ref z8, .ref z9, .int (nI z10), .ref z11, .ref z12, .ref z13, .ref z14, .ref z15, .int (nI z16), .ref z17, .int z18, .ref z19]))] ++ va_pl L M) := hD
    have hq := Eq.symm hp_172
    subst hq
    rw [hQ]
    exact W.iret (v := (-1)) hx hb hr (fun t ht hW9 => ⟨⟨(-1), M, rfl, ⟨hW, hF, hG, hGI, trivial⟩, ⟨1, (-1), by rw [ht]; exact hP, hD⟩⟩, hS.F ht⟩) hS.2.2 dX13_move_19
