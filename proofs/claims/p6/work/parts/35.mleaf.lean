theorem dX13_enters_0 : decode cX13_enters 0 = .ok (.aload_n 0, 1) := by decide +kernel
theorem dX13_enters_1 : decode cX13_enters 1 = .ok (.iconst 0, 1) := by decide +kernel
theorem dX13_enters_2 : decode cX13_enters 2 = .ok (.putfield 55, 3) := by decide +kernel
theorem dX13_enters_5 : decode cX13_enters 5 = .ok (.aload_n 0, 1) := by decide +kernel
theorem dX13_enters_6 : decode cX13_enters 6 = .ok (.iload_n 1, 1) := by decide +kernel
theorem dX13_enters_7 : decode cX13_enters 7 = .ok (.invokevirtual 64, 3) := by decide +kernel
theorem dX13_enters_10 : decode cX13_enters 10 = .ok (.ifCond .ne 9, 3) := by decide +kernel
theorem dX13_enters_13 : decode cX13_enters 13 = .ok (.aload_n 0, 1) := by decide +kernel
theorem dX13_enters_14 : decode cX13_enters 14 = .ok (.iconst 1, 1) := by decide +kernel
theorem dX13_enters_15 : decode cX13_enters 15 = .ok (.invokevirtual 73, 3) := by decide +kernel
theorem dX13_enters_18 : decode cX13_enters 18 = .ok (.ireturn, 1) := by decide +kernel
theorem dX13_enters_19 : decode cX13_enters 19 = .ok (.iload_n 3, 1) := by decide +kernel
theorem dX13_enters_20 : decode cX13_enters 20 = .ok (.invokestatic 164, 3) := by decide +kernel
theorem dX13_enters_23 : decode cX13_enters 23 = .ok (.ifCond .ne 9, 3) := by decide +kernel
theorem dX13_enters_26 : decode cX13_enters 26 = .ok (.aload_n 0, 1) := by decide +kernel
theorem dX13_enters_27 : decode cX13_enters 27 = .ok (.iconst 2, 1) := by decide +kernel
theorem dX13_enters_28 : decode cX13_enters 28 = .ok (.invokevirtual 73, 3) := by decide +kernel
theorem dX13_enters_31 : decode cX13_enters 31 = .ok (.ireturn, 1) := by decide +kernel
theorem dX13_enters_32 : decode cX13_enters 32 = .ok (.aload_n 0, 1) := by decide +kernel
theorem dX13_enters_33 : decode cX13_enters 33 = .ok (.getfield 12, 3) := by decide +kernel
theorem dX13_enters_36 : decode cX13_enters 36 = .ok (.iload_n 1, 1) := by decide +kernel
theorem dX13_enters_37 : decode cX13_enters 37 = .ok (.aaload, 1) := by decide +kernel
theorem dX13_enters_38 : decode cX13_enters 38 = .ok (.astore 5, 2) := by decide +kernel
theorem dX13_enters_40 : decode cX13_enters 40 = .ok (.aload 5, 2) := by decide +kernel
theorem dX13_enters_42 : decode cX13_enters 42 = .ok (.iload_n 2, 1) := by decide +kernel
theorem dX13_enters_43 : decode cX13_enters 43 = .ok (.invokevirtual 131, 3) := by decide +kernel
theorem dX13_enters_46 : decode cX13_enters 46 = .ok (.ifCond .ne 9, 3) := by decide +kernel
theorem dX13_enters_49 : decode cX13_enters 49 = .ok (.aload_n 0, 1) := by decide +kernel
theorem dX13_enters_50 : decode cX13_enters 50 = .ok (.iconst 3, 1) := by decide +kernel
theorem dX13_enters_51 : decode cX13_enters 51 = .ok (.invokevirtual 73, 3) := by decide +kernel
theorem dX13_enters_54 : decode cX13_enters 54 = .ok (.ireturn, 1) := by decide +kernel
theorem dX13_enters_55 : decode cX13_enters 55 = .ok (.aload 5, 2) := by decide +kernel
theorem dX13_enters_57 : decode cX13_enters 57 = .ok (.getfield 83, 3) := by decide +kernel
theorem dX13_enters_60 : decode cX13_enters 60 = .ok (.iload_n 2, 1) := by decide +kernel
theorem dX13_enters_61 : decode cX13_enters 61 = .ok (.iaload, 1) := by decide +kernel
theorem dX13_enters_62 : decode cX13_enters 62 = .ok (.iconst (-1), 1) := by decide +kernel
theorem dX13_enters_63 : decode cX13_enters 63 = .ok (.if_icmp .eq 20, 3) := by decide +kernel
theorem dX13_enters_66 : decode cX13_enters 66 = .ok (.aload 5, 2) := by decide +kernel
theorem dX13_enters_68 : decode cX13_enters 68 = .ok (.getfield 157, 3) := by decide +kernel
theorem dX13_enters_71 : decode cX13_enters 71 = .ok (.iload_n 2, 1) := by decide +kernel
theorem dX13_enters_72 : decode cX13_enters 72 = .ok (.iaload, 1) := by decide +kernel
theorem dX13_enters_73 : decode cX13_enters 73 = .ok (.aload 5, 2) := by decide +kernel
theorem dX13_enters_75 : decode cX13_enters 75 = .ok (.getfield 83, 3) := by decide +kernel
theorem dX13_enters_78 : decode cX13_enters 78 = .ok (.iload_n 2, 1) := by decide +kernel
theorem dX13_enters_79 : decode cX13_enters 79 = .ok (.iaload, 1) := by decide +kernel
theorem dX13_enters_80 : decode cX13_enters 80 = .ok (.if_icmp .ne 10, 3) := by decide +kernel
theorem dX13_enters_83 : decode cX13_enters 83 = .ok (.aload_n 0, 1) := by decide +kernel
theorem dX13_enters_84 : decode cX13_enters 84 = .ok (.bipush 10, 2) := by decide +kernel
theorem dX13_enters_86 : decode cX13_enters 86 = .ok (.invokevirtual 73, 3) := by decide +kernel
theorem dX13_enters_89 : decode cX13_enters 89 = .ok (.ireturn, 1) := by decide +kernel
theorem dX13_enters_90 : decode cX13_enters 90 = .ok (.iload 4, 2) := by decide +kernel
theorem dX13_enters_92 : decode cX13_enters 92 = .ok (.iload_n 3, 1) := by decide +kernel
theorem dX13_enters_93 : decode cX13_enters 93 = .ok (.imul, 1) := by decide +kernel
theorem dX13_enters_94 : decode cX13_enters 94 = .ok (.istore 6, 2) := by decide +kernel
theorem dX13_enters_96 : decode cX13_enters 96 = .ok (.aload 5, 2) := by decide +kernel
theorem dX13_enters_98 : decode cX13_enters 98 = .ok (.getfield 158, 3) := by decide +kernel
theorem dX13_enters_101 : decode cX13_enters 101 = .ok (.iload_n 2, 1) := by decide +kernel
theorem dX13_enters_102 : decode cX13_enters 102 = .ok (.iaload, 1) := by decide +kernel
theorem dX13_enters_103 : decode cX13_enters 103 = .ok (.ifCond .ne 25, 3) := by decide +kernel
theorem dX13_enters_106 : decode cX13_enters 106 = .ok (.iload 6, 2) := by decide +kernel
theorem dX13_enters_108 : decode cX13_enters 108 = .ok (.sipush 32767, 3) := by decide +kernel
theorem dX13_enters_111 : decode cX13_enters 111 = .ok (.if_icmp .gt 11, 3) := by decide +kernel
theorem dX13_enters_114 : decode cX13_enters 114 = .ok (.iload 6, 2) := by decide +kernel
theorem dX13_enters_116 : decode cX13_enters 116 = .ok (.sipush (-32768), 3) := by decide +kernel
theorem dX13_enters_119 : decode cX13_enters 119 = .ok (.if_icmp .ge 9, 3) := by decide +kernel
theorem dX13_enters_122 : decode cX13_enters 122 = .ok (.aload_n 0, 1) := by decide +kernel
theorem dX13_enters_123 : decode cX13_enters 123 = .ok (.iconst 2, 1) := by decide +kernel
theorem dX13_enters_124 : decode cX13_enters 124 = .ok (.invokevirtual 73, 3) := by decide +kernel
theorem dX13_enters_127 : decode cX13_enters 127 = .ok (.ireturn, 1) := by decide +kernel
theorem dX13_enters_128 : decode cX13_enters 128 = .ok (.aload 5, 2) := by decide +kernel
theorem dX13_enters_130 : decode cX13_enters 130 = .ok (.getfield 167, 3) := by decide +kernel
theorem dX13_enters_133 : decode cX13_enters 133 = .ok (.bipush 6, 2) := by decide +kernel
theorem dX13_enters_135 : decode cX13_enters 135 = .ok (.iload_n 2, 1) := by decide +kernel
theorem dX13_enters_136 : decode cX13_enters 136 = .ok (.imul, 1) := by decide +kernel
theorem dX13_enters_137 : decode cX13_enters 137 = .ok (.aload 5, 2) := by decide +kernel
theorem dX13_enters_139 : decode cX13_enters 139 = .ok (.getfield 157, 3) := by decide +kernel
theorem dX13_enters_142 : decode cX13_enters 142 = .ok (.iload_n 2, 1) := by decide +kernel
theorem dX13_enters_143 : decode cX13_enters 143 = .ok (.iaload, 1) := by decide +kernel
theorem dX13_enters_144 : decode cX13_enters 144 = .ok (.iadd, 1) := by decide +kernel
theorem dX13_enters_145 : decode cX13_enters 145 = .ok (.iload 6, 2) := by decide +kernel
theorem dX13_enters_147 : decode cX13_enters 147 = .ok (.i2l, 1) := by decide +kernel
theorem dX13_enters_148 : decode cX13_enters 148 = .ok (.lastore, 1) := by decide +kernel
theorem dX13_enters_149 : decode cX13_enters 149 = .ok (.aload 5, 2) := by decide +kernel
theorem dX13_enters_151 : decode cX13_enters 151 = .ok (.getfield 157, 3) := by decide +kernel
theorem dX13_enters_154 : decode cX13_enters 154 = .ok (.iload_n 2, 1) := by decide +kernel
theorem dX13_enters_155 : decode cX13_enters 155 = .ok (.dup2, 1) := by decide +kernel
theorem dX13_enters_156 : decode cX13_enters 156 = .ok (.iaload, 1) := by decide +kernel
theorem dX13_enters_157 : decode cX13_enters 157 = .ok (.iconst 1, 1) := by decide +kernel
theorem dX13_enters_158 : decode cX13_enters 158 = .ok (.iadd, 1) := by decide +kernel
theorem dX13_enters_159 : decode cX13_enters 159 = .ok (.iastore, 1) := by decide +kernel
theorem dX13_enters_160 : decode cX13_enters 160 = .ok (.aload 5, 2) := by decide +kernel
theorem dX13_enters_162 : decode cX13_enters 162 = .ok (.iload_n 2, 1) := by decide +kernel
theorem dX13_enters_163 : decode cX13_enters 163 = .ok (.invokevirtual 170, 3) := by decide +kernel
theorem dX13_enters_166 : decode cX13_enters 166 = .ok (.aload_n 0, 1) := by decide +kernel
theorem dX13_enters_167 : decode cX13_enters 167 = .ok (.aload 5, 2) := by decide +kernel
theorem dX13_enters_169 : decode cX13_enters 169 = .ok (.getfield 157, 3) := by decide +kernel
theorem dX13_enters_172 : decode cX13_enters 172 = .ok (.iload_n 2, 1) := by decide +kernel
theorem dX13_enters_173 : decode cX13_enters 173 = .ok (.iaload, 1) := by decide +kernel
theorem dX13_enters_174 : decode cX13_enters 174 = .ok (.invokevirtual 86, 3) := by decide +kernel
theorem dX13_enters_177 : decode cX13_enters 177 = .ok (.ireturn, 1) := by decide +kernel
theorem dX13_earn_0 : decode cX13_earn 0 = .ok (.aload_n 0, 1) := by decide +kernel
theorem dX13_earn_1 : decode cX13_earn 1 = .ok (.iload_n 1, 1) := by decide +kernel
theorem dX13_earn_2 : decode cX13_earn 2 = .ok (.iload_n 2, 1) := by decide +kernel
theorem dX13_earn_3 : decode cX13_earn 3 = .ok (.iload_n 3, 1) := by decide +kernel
theorem dX13_earn_4 : decode cX13_earn 4 = .ok (.iconst 1, 1) := by decide +kernel
theorem dX13_earn_5 : decode cX13_earn 5 = .ok (.invokevirtual 174, 3) := by decide +kernel
theorem dX13_earn_8 : decode cX13_earn 8 = .ok (.ireturn, 1) := by decide +kernel
theorem dX13_spend_0 : decode cX13_spend 0 = .ok (.aload_n 0, 1) := by decide +kernel
theorem dX13_spend_1 : decode cX13_spend 1 = .ok (.iload_n 1, 1) := by decide +kernel
theorem dX13_spend_2 : decode cX13_spend 2 = .ok (.iload_n 2, 1) := by decide +kernel
theorem dX13_spend_3 : decode cX13_spend 3 = .ok (.iload_n 3, 1) := by decide +kernel
theorem dX13_spend_4 : decode cX13_spend 4 = .ok (.iconst (-1), 1) := by decide +kernel
theorem dX13_spend_5 : decode cX13_spend 5 = .ok (.invokevirtual 174, 3) := by decide +kernel
theorem dX13_spend_8 : decode cX13_spend 8 = .ok (.ireturn, 1) := by decide +kernel
theorem dX13_undo_0 : decode cX13_undo 0 = .ok (.aload_n 0, 1) := by decide +kernel
theorem dX13_undo_1 : decode cX13_undo 1 = .ok (.iconst 0, 1) := by decide +kernel
theorem dX13_undo_2 : decode cX13_undo 2 = .ok (.putfield 55, 3) := by decide +kernel
theorem dX13_undo_5 : decode cX13_undo 5 = .ok (.aload_n 0, 1) := by decide +kernel
theorem dX13_undo_6 : decode cX13_undo 6 = .ok (.iload_n 1, 1) := by decide +kernel
theorem dX13_undo_7 : decode cX13_undo 7 = .ok (.invokevirtual 64, 3) := by decide +kernel
theorem dX13_undo_10 : decode cX13_undo 10 = .ok (.ifCond .ne 9, 3) := by decide +kernel
theorem dX13_undo_13 : decode cX13_undo 13 = .ok (.aload_n 0, 1) := by decide +kernel
theorem dX13_undo_14 : decode cX13_undo 14 = .ok (.iconst 1, 1) := by decide +kernel
theorem dX13_undo_15 : decode cX13_undo 15 = .ok (.invokevirtual 73, 3) := by decide +kernel
theorem dX13_undo_18 : decode cX13_undo 18 = .ok (.ireturn, 1) := by decide +kernel
theorem dX13_undo_19 : decode cX13_undo 19 = .ok (.aload_n 0, 1) := by decide +kernel
theorem dX13_undo_20 : decode cX13_undo 20 = .ok (.getfield 12, 3) := by decide +kernel
theorem dX13_undo_23 : decode cX13_undo 23 = .ok (.iload_n 1, 1) := by decide +kernel
theorem dX13_undo_24 : decode cX13_undo 24 = .ok (.aaload, 1) := by decide +kernel
theorem dX13_undo_25 : decode cX13_undo 25 = .ok (.astore_n 2, 1) := by decide +kernel
theorem dX13_undo_26 : decode cX13_undo 26 = .ok (.aload_n 2, 1) := by decide +kernel
theorem dX13_undo_27 : decode cX13_undo 27 = .ok (.getfield 161, 3) := by decide +kernel
theorem dX13_undo_30 : decode cX13_undo 30 = .ok (.ifCond .ne 9, 3) := by decide +kernel
theorem dX13_undo_33 : decode cX13_undo 33 = .ok (.aload_n 0, 1) := by decide +kernel
theorem dX13_undo_34 : decode cX13_undo 34 = .ok (.iconst 0, 1) := by decide +kernel
theorem dX13_undo_35 : decode cX13_undo 35 = .ok (.invokevirtual 86, 3) := by decide +kernel
theorem dX13_undo_38 : decode cX13_undo 38 = .ok (.ireturn, 1) := by decide +kernel
theorem dX13_undo_39 : decode cX13_undo 39 = .ok (.aload_n 2, 1) := by decide +kernel
theorem dX13_undo_40 : decode cX13_undo 40 = .ok (.dup, 1) := by decide +kernel
theorem dX13_undo_41 : decode cX13_undo 41 = .ok (.getfield 161, 3) := by decide +kernel
theorem dX13_undo_44 : decode cX13_undo 44 = .ok (.iconst 1, 1) := by decide +kernel
theorem dX13_undo_45 : decode cX13_undo 45 = .ok (.isub, 1) := by decide +kernel
theorem dX13_undo_46 : decode cX13_undo 46 = .ok (.putfield 161, 3) := by decide +kernel
theorem dX13_undo_49 : decode cX13_undo 49 = .ok (.aload_n 2, 1) := by decide +kernel
theorem dX13_undo_50 : decode cX13_undo 50 = .ok (.getfield 210, 3) := by decide +kernel
theorem dX13_undo_53 : decode cX13_undo 53 = .ok (.aload_n 2, 1) := by decide +kernel
theorem dX13_undo_54 : decode cX13_undo 54 = .ok (.getfield 161, 3) := by decide +kernel
theorem dX13_undo_57 : decode cX13_undo 57 = .ok (.iaload, 1) := by decide +kernel
theorem dX13_undo_58 : decode cX13_undo 58 = .ok (.istore_n 3, 1) := by decide +kernel
theorem dX13_undo_59 : decode cX13_undo 59 = .ok (.iload_n 3, 1) := by decide +kernel
theorem dX13_undo_60 : decode cX13_undo 60 = .ok (.iconst (-1), 1) := by decide +kernel
theorem dX13_undo_61 : decode cX13_undo 61 = .ok (.if_icmp .ne 16, 3) := by decide +kernel
theorem dX13_undo_64 : decode cX13_undo 64 = .ok (.aload_n 2, 1) := by decide +kernel
theorem dX13_undo_65 : decode cX13_undo 65 = .ok (.dup, 1) := by decide +kernel
theorem dX13_undo_66 : decode cX13_undo 66 = .ok (.getfield 193, 3) := by decide +kernel
theorem dX13_undo_69 : decode cX13_undo 69 = .ok (.iconst 1, 1) := by decide +kernel
theorem dX13_undo_70 : decode cX13_undo 70 = .ok (.isub, 1) := by decide +kernel
theorem dX13_undo_71 : decode cX13_undo 71 = .ok (.putfield 193, 3) := by decide +kernel
theorem dX13_undo_74 : decode cX13_undo 74 = .ok (.goto 13, 3) := by decide +kernel
theorem dX13_undo_77 : decode cX13_undo 77 = .ok (.aload_n 2, 1) := by decide +kernel
theorem dX13_undo_78 : decode cX13_undo 78 = .ok (.getfield 157, 3) := by decide +kernel
theorem dX13_undo_81 : decode cX13_undo 81 = .ok (.iload_n 3, 1) := by decide +kernel
theorem dX13_undo_82 : decode cX13_undo 82 = .ok (.dup2, 1) := by decide +kernel
theorem dX13_undo_83 : decode cX13_undo 83 = .ok (.iaload, 1) := by decide +kernel
theorem dX13_undo_84 : decode cX13_undo 84 = .ok (.iconst 1, 1) := by decide +kernel
theorem dX13_undo_85 : decode cX13_undo 85 = .ok (.isub, 1) := by decide +kernel
theorem dX13_undo_86 : decode cX13_undo 86 = .ok (.iastore, 1) := by decide +kernel
theorem dX13_undo_87 : decode cX13_undo 87 = .ok (.aload_n 0, 1) := by decide +kernel
theorem dX13_undo_88 : decode cX13_undo 88 = .ok (.iconst 1, 1) := by decide +kernel
theorem dX13_undo_89 : decode cX13_undo 89 = .ok (.invokevirtual 86, 3) := by decide +kernel
theorem dX13_undo_92 : decode cX13_undo 92 = .ok (.ireturn, 1) := by decide +kernel
theorem wd_836 : Cond.methodLink RX13 174 yX13_enters ∈ lw_good := mem_t6 220 (by decide +kernel) rfl
theorem wd_837 : Cond.instanceMethod yX13_enters ∈ lw_good := mem_t6 222 (by decide +kernel) rfl
theorem wd_838 : Cond.selects RX13 yX13_enters yX13_enters ∈ lw_good := mem_p 34 (by decide +kernel) rfl
theorem wd_839 : Cond.code yX13_enters cX13_enters 7 (some .int) ∈ lw_good := mem_t6 223 rfl rfl
set_option maxHeartbeats 4000000 in
set_option maxRecDepth 100000 in
theorem r_remN (l : Launch) (D : va_G) (cy : Nat → ClassId) (K : Kp) (L : List Nat) (M : Hp) (sz : Nat) (oa : Nat) (k1 : Nat) (hW : WOM cy K L M) (ia : isk K L oa 12 0) (nk1 : k1 < 1000) (hO : OWN K L M) : Met l yX12_remember (wsM yX12_remember cX12_remember 3 none) ({ frames := 0, cells := 0, slots := 0, locals := 0 }) (va_Pc [.ref oa, .int (nI k1)] (PG D cy [] L M sz)) (va_Qv (fun (M9 : Hp) => WOM cy K L M9 ∧ fr K L [12, 36] M M9 ∧ fG K L [16] M M9 ∧ (∃ (n9 : Int) (g9 : Nat → Int32), REMF (fx M oa 16) (ax M oa 43) (nI k1) n9 g9 ∧ VW K L M M9 oa (va_up (fx M oa) 16 n9) (va_up (ax M oa) 43 g9)) ∧ (True)) (fun M9 t => PQ D [] L M9 (va_A ([] ++ va_pl L M) sz) t) (va_A ([] ++ va_pl L M) sz)) 0 0 (va_A ([] ++ va_pl L M) sz) := by
  refine Met.ofW (cc := cX12_remember) (maxL := 3) (ret := none) (by decide) rfl ?_
  intro p e s m args below meth c s₁ B hml hv
  obtain ⟨rfl, hsz, hP, hK, hD0, hN⟩ := hv
  have hx := B.exec
  have hb := B.bytes
  have hr := B.returns
  have hts := atoms_spec (ws := (wsM yX12_remember cX12_remember 3 none)) B.pre
  have hg : ∀ w ∈ lw_good, w.before _ s = true := fun w h => hts w (List.mem_cons_of_mem _ h)
  have hown : s.vm.findClass RX12 = some m.cls := findClass_of_methodNamed B.named
  have hlocks := B.notSynchronized
  subst hsz
  have hD := hD0.self (sz := s.heap.size)
  generalize hAe : va_A ([] ++ va_pl L M) s.heap.size = A at hD ⊢
  have hA : ∀ q : Nat, s.heap.size ≤ q → A q := fun q h => by rw [← hAe]; exact Or.inr h
  have hS : va_S A s.heap s.heap [] := va_S.rf
  have hl := lv_entry ([.ref oa, .int (nI k1)]) (n := 3) (Nat.le_of_ble_eq_true rfl)
  rw [lg_entry_eq]
  generalize (lg_sl ([.ref oa, .int (nI k1)]) ++ List.replicate (3 - (lg_sl ([.ref oa, .int (nI k1)])).length) Slot.unset).toArray = ls at hl ⊢
  refine W.nameQ (fun Q hQ => ?_)
  refine W.nameR (fun R hR => ?_)
  have hRf : 0 ≤ R.frames := by rw [hR]; exact Nat.le_of_ble_eq_true rfl
  have hRl : 0 ≤ R.locals := by rw [hR]; exact Nat.le_of_ble_eq_true rfl
  have hRc : 0 ≤ R.cells := by rw [hR]; exact Nat.le_of_ble_eq_true rfl
  have hRs : 0 ≤ R.slots := by rw [hR]; exact Nat.le_of_ble_eq_true rfl
  have hF : fr K L [12, 36] M M := fr.rf
  have hG : fG K L [16] M M := fG.rf
  have hl : lv_has ls 3 [(0, .ref oa), (1, .int (nI k1))] := hl
  have hV : VW K L M M oa (fx M oa) (ax M oa) := VW.rf oa hO
  refine lv_aload_n hx hb dX12_remember_0 rfl (lv_at hl 0 rfl) ?_
  obtain ⟨fs1, hM1, hn1, hl1⟩ := hW.open_12 ia
  obtain ⟨v2, hv2, hc2⟩ : ∃ v : Nat, fs1[16]? = some (.int (nI v) : Value) ∧ v ≤ 60 := hl1 16 (by decide)
  refine pg_get (D := D) (ci := 12) (v := .int (nI v2)) (C := RX12) (T := TX12) (N := 51) hx hb hg inG12 hown hK hP ia.1 hM1 rfl 16 (by decide) (hg _ wd_825) (fun _ h9 => h9) hv2 dX12_remember_1 ?_
  refine lv_bipush (v := 60) hx hb dX12_remember_4 (by decide) ?_
  refine lv_icmp_ne (tgt := 47) hx hb dX12_remember_6 (by decide) (fun c_3 => ?_) (fun c_3 => ?_)
  · have hz := rfl (a := 0)
    have n_4 : ¬ (v2 = 60) := fun q => c_3 ((iEQ (a := v2) (b := 60) (by omega) (by omega)).mpr q)
    refine lv_aload_n hx hb dX12_remember_47 rfl (lv_at hl 0 rfl) ?_
    obtain ⟨v5, hv5, hc5⟩ : ∃ v : Nat, fs1[43]? = some (.ref v : Value) ∧ isk K L v 36 60 := hl1 43 (by decide)
    refine pg_get (D := D) (ci := 12) (v := .ref v5) (C := RX12) (T := TX12) (N := 51) hx hb hg inG12 hown hK hP ia.1 hM1 rfl 43 (by decide) (hg _ wd_826) (fun _ h9 => h9) hv5 dX12_remember_48 ?_
    refine lv_aload_n hx hb dX12_remember_51 rfl (lv_at hl 0 rfl) ?_
    refine pg_get (D := D) (ci := 12) (v := .int (nI v2)) (C := RX12) (T := TX12) (N := 51) hx hb hg inG12 hown hK hP ia.1 hM1 rfl 16 (by decide) (hg _ wd_825) (fun _ h9 => h9) hv2 dX12_remember_52 ?_
    refine lv_iload_n hx hb dX12_remember_55 rfl (lv_at hl 1 rfl) ?_
    obtain ⟨f6, hM6, hf6⟩ := hW.open_36 hc5
    refine pg_iast hx hb hK hP hD hS hc5.1 0 hM6 rfl (inbN v2 60 (by omega) (by omega)) dX12_remember_56 (fun H_7 locs hP hD hS => ?_)
    obtain ⟨M_8, eM_8⟩ : ∃ M1 : Hp, M1 = va_up M v5 (.inl (cy 14, 60, .inl (upd f6 ((nI v2) : Int32).toNatClampNeg (nI k1)))) := ⟨_, rfl⟩
    have hy43 : (ax M oa 43) = f6 := (congrFun hV.2.2.1 43).symm.trans (ax_of hM1 (by decide) hv5 hM6)
    have hV : VW K L M M_8 oa (fx M oa) (va_up (ax M oa) 43 (upd (ax M oa 43) ((nI v2) : Int32).toNatClampNeg (nI k1))) := by rw [eM_8]; exact hV.ast (j := 43) hW ia hM1 (by decide) hv5 hc5 hM6
    have hP : va_P D vwCl ([] ++ va_pl L M_8) H_7 := by rw [eM_8]; exact hP
    have hD : va_D A ([] ++ va_pl L M_8) := by rw [eM_8]; exact hD
    have hW : WOM cy K L M_8 := by rw [eM_8]; exact hW.up_36 hc5 ⟨_, rfl, (updP (P := fun z => (z = -1 ∨ ∃ c : Nat, c < 1000 ∧ z = nI c)) hf6 (Or.inr ⟨k1, by omega, rfl⟩))⟩
    have hF : fr K L [12, 36] M M_8 := by rw [eM_8]; exact hF.up hc5 (by decide)
    have hG : fG K L [16] M M_8 := by rw [eM_8]; exact hG.arr hc5 (by decide)
    have hM_9 : M_8 v5 = .inl (cy 14, 60, .inl (upd f6 ((nI v2) : Int32).toNatClampNeg (nI k1))) := by rw [eM_8]; exact va_up_self _ _ _
    have hM_10 : M_8 oa = .inr (12, fs1) := by rw [eM_8, va_up_ne _ _ (ia.neT hc5 (by decide))]; exact hM1
    have hf_12 : ∀ j, j < 60 → ((upd f6 ((nI v2) : Int32).toNatClampNeg (nI k1)) j = -1 ∨ ∃ c : Nat, c < 1000 ∧ (upd f6 ((nI v2) : Int32).toNatClampNeg (nI k1)) j = nI c) := (updP (P := fun z => (z = -1 ∨ ∃ c : Nat, c < 1000 ∧ z = nI c)) hf6 (Or.inr ⟨k1, by omega, rfl⟩))
    obtain ⟨f_11, ef_11⟩ : ∃ f : Nat → Int32, f = upd f6 ((nI v2) : Int32).toNatClampNeg (nI k1) := ⟨_, rfl⟩
    rw [← ef_11] at hM_9 hf_12
    refine lv_aload_n hx hb dX12_remember_57 rfl (lv_at hl 0 rfl) ?_
    refine lv_dup hx hb dX12_remember_58 rfl ?_
    refine pg_get (D := D) (ci := 12) (v := .int (nI v2)) (C := RX12) (T := TX12) (N := 51) hx hb hg inG12 hown hK hP ia.1 hM_10 rfl 16 (by decide) (hg _ wd_825) (fun _ h9 => h9) hv2 dX12_remember_59 ?_
    refine lv_iconst (v := 1) hx hb dX12_remember_62 (by decide) ?_
    refine lv_iadd hx hb dX12_remember_63 ?_
    refine lv_topi (fun f_13 ef_13 => ?_)
    obtain rfl : f_13 = (nI (v2 + 1)) := ef_13.trans (nI_add v2 1)
    refine pg_put (D := D) (ci := 12) (v := .int (nI (v2 + 1))) (ty := .int) (C := RX12) (T := TX12) (N := 51) hx hb hg inG12 tyX12 tyX12_ok nmX12 hown hK hP hD hS ia.1 hM_10 rfl 16 (by decide) (hg _ wd_825) (fun _ h9 => h9) rfl (by decide +kernel) rfl rfl (by rw [hn1]; decide) dX12_remember_64 (fun H_14 locs hP hD hS => ?_)
    have hs_17 : (fs1.set 16 (.int (nI (v2 + 1))))[16]? = some (.int (nI (v2 + 1))) := List.getElem?_set_self (by rw [hn1]; decide)
    have hk_16 := fld12_set (k := 16) (w := .int (nI (v2 + 1))) hl1 (show fld12 K L 16 (fs1.set 16 (.int (nI (v2 + 1)))) from ⟨(v2 + 1), hs_17, by omega⟩)
    have hn_18 : (fs1.set 16 (.int (nI (v2 + 1)))).length = 51 := by rw [List.length_set]; exact hn1
    have hv_19 : (fs1.set 16 (.int (nI (v2 + 1))))[43]? = some (.ref v5) := by rw [List.getElem?_set_ne (by decide)]; exact hv5
    have hb_20 : (v2 + 1) ≤ 60 := by omega
    obtain ⟨M_21, eM_21⟩ : ∃ M1 : Hp, M1 = va_up M_8 oa (.inr (12, fs1.set 16 (.int (nI (v2 + 1))))) := ⟨_, rfl⟩
    have hx16 : (fx M oa 16) = ((v2 : Nat) : Int) := (congrFun hV.2.1 16).symm.trans ((fx_of hM_10 rfl hv2).trans (nI_toInt (by omega)))
    have hV : VW K L M M_21 oa (va_up (fx M oa) 16 (((v2 + 1) : Nat) : Int)) (va_up (ax M oa) 43 (upd (ax M oa 43) ((nI v2) : Int32).toNatClampNeg (nI k1))) := by rw [eM_21]; exact hV.put hW ia hM_10 hn1 rfl (by decide) rfl (nI_toInt (by omega))
    have hP : va_P D vwCl ([] ++ va_pl L M_21) H_14 := by rw [eM_21]; exact hP
    have hD : va_D A ([] ++ va_pl L M_21) := by rw [eM_21]; exact hD
    have hW : WOM cy K L M_21 := by rw [eM_21]; exact hW.up_12 ia ⟨_, rfl, hn_18, hk_16⟩
    have hF : fr K L [12, 36] M M_21 := by rw [eM_21]; exact hF.up ia (by decide)
    have hG : fG K L [16] M M_21 := by rw [eM_21]; exact hG.up hM_10 (by decide)
    have hM_22 : M_21 oa = .inr (12, fs1.set 16 (.int (nI (v2 + 1)))) := by rw [eM_21]; exact va_up_self _ _ _
    have hM_23 : M_21 v5 = .inl (cy 14, 60, .inl (f_11)) := by rw [eM_21, va_up_ne _ _ (hc5.neT ia (by decide))]; exact hM_9
    have hRM : REMF (fx M oa 16) (ax M oa 43) (nI k1) (((v2 + 1) : Nat) : Int) (upd (ax M oa 43) ((nI v2) : Int32).toNatClampNeg (nI k1)) := remf1 hx16 (by omega) (nI_cl (by omega))
    rw [hQ]
    exact W.vret hx hb hr (fun t ht hW9 => ⟨⟨M_21, rfl, ⟨hW, hF, hG, ⟨_, _, hRM, hV⟩, trivial⟩, ⟨by rw [ht]; exact hP, hD⟩⟩, hS.F ht⟩) hS.2.2 dX12_remember_67
  · have hz := rfl (a := 0)
    have n_24 : v2 = 60 := (iEQ (a := v2) (b := 60) (by omega) (by omega)).mp c_3
    refine lv_iconst (v := 1) hx hb dX12_remember_9 (by decide) ?_
    refine lv_istore_n (lv' := [(2, .int 1), (0, .ref oa), (1, .int (nI k1))]) hx hb dX12_remember_10 rfl hl (by decide) rfl (fun ls hl => ?_)
    have key_25 : ∀ (fu_27 : Nat) (v2w28 : Nat) (gw28 : Nat → Int32) (M_33 : Hp) (H_34 : Heap) (locs : List Loc) (ls : Array Slot), 60 - v2w28 < fu_27 → M_33 oa = .inr (12, fs1) → 1 ≤ v2w28 → v2w28 ≤ 60 → (∀ i : Nat, i + 1 < v2w28 → gw28 i = ax M oa 43 (i + 1)) → (∀ i : Nat, v2w28 ≤ i + 1 → gw28 i = ax M oa 43 i) → WOM cy K L M_33 → fr K L [12, 36] M M_33 → fG K L [16] M M_33 → VW K L M M_33 oa (fx M oa) (va_up (ax M oa) 43 gw28) → va_P D vwCl ([] ++ va_pl L M_33) H_34 → va_D A ([] ++ va_pl L M_33) → va_S A s.heap H_34 locs → lv_has ls 3 [(2, .int (nI v2w28)), (0, .ref oa), (1, .int (nI k1))] → W p l e R s m ([.ref oa, .int (nI k1)] : List Value).toArray below meth c H_34 locs 0 0 Q (F0 m 11 ls []) := by
      intro fu_27
      induction fu_27 with
      | zero => intro v2w28 gw28 M_33 H_34 locs ls h; exact absurd h (Nat.not_lt_zero _)
      | succ fu_27 ih_26 =>
        intro v2w28 gw28 M_33 H_34 locs ls hfu hM_35 hx_29 hx_30 hx_31 hx_32 hW hF hG hV hP hD hS hl
        refine lv_iload_n hx hb dX12_remember_11 rfl (lv_at hl 0 rfl) ?_
        refine lv_bipush (v := 60) hx hb dX12_remember_12 (by decide) ?_
        refine lv_icmp_ge (tgt := 37) hx hb dX12_remember_14 (by decide) (fun c_36 => ?_) (fun c_36 => ?_)
        · have hz := rfl (a := 0)
          have n_37 : 60 ≤ v2w28 := (iLE (a := 60) (b := v2w28) (by omega) (by omega)).mp c_36
          have hg1 := hx_31
          refine lv_aload_n hx hb dX12_remember_37 rfl (lv_at hl 1 rfl) ?_
          refine lv_dup hx hb dX12_remember_38 rfl ?_
          refine pg_get (D := D) (ci := 12) (v := .int (nI v2)) (C := RX12) (T := TX12) (N := 51) hx hb hg inG12 hown hK hP ia.1 hM_35 rfl 16 (by decide) (hg _ wd_825) (fun _ h9 => h9) hv2 dX12_remember_39 ?_
          refine lv_iconst (v := 1) hx hb dX12_remember_42 (by decide) ?_
          refine lv_isub hx hb dX12_remember_43 ?_
          refine lv_topi (fun f_38 ef_38 => ?_)
          obtain rfl : f_38 = (nI (v2 - 1)) := ef_38.trans (nI_prd (by omega))
          refine pg_put (D := D) (ci := 12) (v := .int (nI (v2 - 1))) (ty := .int) (C := RX12) (T := TX12) (N := 51) hx hb hg inG12 tyX12 tyX12_ok nmX12 hown hK hP hD hS ia.1 hM_35 rfl 16 (by decide) (hg _ wd_825) (fun _ h9 => h9) rfl (by decide +kernel) rfl rfl (by rw [hn1]; decide) dX12_remember_44 (fun H_39 locs hP hD hS => ?_)
          have hs_42 : (fs1.set 16 (.int (nI (v2 - 1))))[16]? = some (.int (nI (v2 - 1))) := List.getElem?_set_self (by rw [hn1]; decide)
          have hk_41 := fld12_set (k := 16) (w := .int (nI (v2 - 1))) hl1 (show fld12 K L 16 (fs1.set 16 (.int (nI (v2 - 1)))) from ⟨(v2 - 1), hs_42, by omega⟩)
          have hn_43 : (fs1.set 16 (.int (nI (v2 - 1)))).length = 51 := by rw [List.length_set]; exact hn1
          have hb_44 : (v2 - 1) ≤ 60 := by omega
          obtain ⟨M_45, eM_45⟩ : ∃ M1 : Hp, M1 = va_up M_33 oa (.inr (12, fs1.set 16 (.int (nI (v2 - 1))))) := ⟨_, rfl⟩
          have hx16 : (fx M oa 16) = ((v2 : Nat) : Int) := (congrFun hV.2.1 16).symm.trans ((fx_of hM_35 rfl hv2).trans (nI_toInt (by omega)))
          have hV : VW K L M M_45 oa (va_up (fx M oa) 16 (((v2 - 1) : Nat) : Int)) (va_up (ax M oa) 43 gw28) := by rw [eM_45]; exact hV.put hW ia hM_35 hn1 rfl (by decide) rfl (nI_toInt (by omega))
          have hP : va_P D vwCl ([] ++ va_pl L M_45) H_39 := by rw [eM_45]; exact hP
          have hD : va_D A ([] ++ va_pl L M_45) := by rw [eM_45]; exact hD
          have hW : WOM cy K L M_45 := by rw [eM_45]; exact hW.up_12 ia ⟨_, rfl, hn_43, hk_41⟩
          have hF : fr K L [12, 36] M M_45 := by rw [eM_45]; exact hF.up ia (by decide)
          have hG : fG K L [16] M M_45 := by rw [eM_45]; exact hG.up hM_35 (by decide)
          have hM_46 : M_45 oa = .inr (12, fs1.set 16 (.int (nI (v2 - 1)))) := by rw [eM_45]; exact va_up_self _ _ _
          refine lv_aload_n hx hb dX12_remember_47 rfl (lv_at hl 1 rfl) ?_
          obtain ⟨v47, hv47, hc47⟩ : ∃ v : Nat, (fs1.set 16 (.int (nI (v2 - 1))))[43]? = some (.ref v : Value) ∧ isk K L v 36 60 := hk_41 43 (by decide)
          refine pg_get (D := D) (ci := 12) (v := .ref v47) (C := RX12) (T := TX12) (N := 51) hx hb hg inG12 hown hK hP ia.1 hM_46 rfl 43 (by decide) (hg _ wd_826) (fun _ h9 => h9) hv47 dX12_remember_48 ?_
          refine lv_aload_n hx hb dX12_remember_51 rfl (lv_at hl 1 rfl) ?_
          refine pg_get (D := D) (ci := 12) (v := .int (nI (v2 - 1))) (C := RX12) (T := TX12) (N := 51) hx hb hg inG12 hown hK hP ia.1 hM_46 rfl 16 (by decide) (hg _ wd_825) (fun _ h9 => h9) hs_42 dX12_remember_52 ?_
          refine lv_iload_n hx hb dX12_remember_55 rfl (lv_at hl 2 rfl) ?_
          obtain ⟨f48, hM48, hf48⟩ := hW.open_36 hc47
          refine pg_iast hx hb hK hP hD hS hc47.1 0 hM48 rfl (inbN (v2 - 1) 60 (by omega) (by omega)) dX12_remember_56 (fun H_49 locs hP hD hS => ?_)
          obtain ⟨M_50, eM_50⟩ : ∃ M1 : Hp, M1 = va_up M_45 v47 (.inl (cy 14, 60, .inl (upd f48 ((nI (v2 - 1)) : Int32).toNatClampNeg (nI k1)))) := ⟨_, rfl⟩
          have hy43 : gw28 = f48 := (congrFun hV.2.2.1 43).symm.trans (ax_of hM_46 (by decide) hv47 hM48)
          have hV : VW K L M M_50 oa (va_up (fx M oa) 16 (((v2 - 1) : Nat) : Int)) (va_up (va_up (ax M oa) 43 gw28) 43 (upd gw28 ((nI (v2 - 1)) : Int32).toNatClampNeg (nI k1))) := by rw [eM_50]; exact hV.ast (j := 43) hW ia hM_46 (by decide) hv47 hc47 hM48
          have hP : va_P D vwCl ([] ++ va_pl L M_50) H_49 := by rw [eM_50]; exact hP
          have hD : va_D A ([] ++ va_pl L M_50) := by rw [eM_50]; exact hD
          have hW : WOM cy K L M_50 := by rw [eM_50]; exact hW.up_36 hc47 ⟨_, rfl, (updP (P := fun z => (z = -1 ∨ ∃ c : Nat, c < 1000 ∧ z = nI c)) hf48 (Or.inr ⟨k1, by omega, rfl⟩))⟩
          have hF : fr K L [12, 36] M M_50 := by rw [eM_50]; exact hF.up hc47 (by decide)
          have hG : fG K L [16] M M_50 := by rw [eM_50]; exact hG.arr hc47 (by decide)
          have hM_51 : M_50 v47 = .inl (cy 14, 60, .inl (upd f48 ((nI (v2 - 1)) : Int32).toNatClampNeg (nI k1))) := by rw [eM_50]; exact va_up_self _ _ _
          have hM_52 : M_50 oa = .inr (12, fs1.set 16 (.int (nI (v2 - 1)))) := by rw [eM_50, va_up_ne _ _ (ia.neT hc47 (by decide))]; exact hM_46
          have hf_54 : ∀ j, j < 60 → ((upd f48 ((nI (v2 - 1)) : Int32).toNatClampNeg (nI k1)) j = -1 ∨ ∃ c : Nat, c < 1000 ∧ (upd f48 ((nI (v2 - 1)) : Int32).toNatClampNeg (nI k1)) j = nI c) := (updP (P := fun z => (z = -1 ∨ ∃ c : Nat, c < 1000 ∧ z = nI c)) hf48 (Or.inr ⟨k1, by omega, rfl⟩))
          obtain ⟨f_53, ef_53⟩ : ∃ f : Nat → Int32, f = upd f48 ((nI (v2 - 1)) : Int32).toNatClampNeg (nI k1) := ⟨_, rfl⟩
          rw [← ef_53] at hM_51 hf_54
          refine lv_aload_n hx hb dX12_remember_57 rfl (lv_at hl 1 rfl) ?_
          refine lv_dup hx hb dX12_remember_58 rfl ?_
          refine pg_get (D := D) (ci := 12) (v := .int (nI (v2 - 1))) (C := RX12) (T := TX12) (N := 51) hx hb hg inG12 hown hK hP ia.1 hM_52 rfl 16 (by decide) (hg _ wd_825) (fun _ h9 => h9) hs_42 dX12_remember_59 ?_
          refine lv_iconst (v := 1) hx hb dX12_remember_62 (by decide) ?_
          refine lv_iadd hx hb dX12_remember_63 ?_
          refine lv_topi (fun f_55 ef_55 => ?_)
          obtain rfl : f_55 = (nI ((v2 - 1) + 1)) := ef_55.trans (nI_add (v2 - 1) 1)
          refine pg_put (D := D) (ci := 12) (v := .int (nI ((v2 - 1) + 1))) (ty := .int) (C := RX12) (T := TX12) (N := 51) hx hb hg inG12 tyX12 tyX12_ok nmX12 hown hK hP hD hS ia.1 hM_52 rfl 16 (by decide) (hg _ wd_825) (fun _ h9 => h9) rfl (by decide +kernel) rfl rfl (by rw [hn_43]; decide) dX12_remember_64 (fun H_56 locs hP hD hS => ?_)
          have hs_59 : ((fs1.set 16 (.int (nI (v2 - 1)))).set 16 (.int (nI ((v2 - 1) + 1))))[16]? = some (.int (nI ((v2 - 1) + 1))) := List.getElem?_set_self (by rw [hn_43]; decide)
          have hk_58 := fld12_set (k := 16) (w := .int (nI ((v2 - 1) + 1))) hk_41 (show fld12 K L 16 ((fs1.set 16 (.int (nI (v2 - 1)))).set 16 (.int (nI ((v2 - 1) + 1)))) from ⟨((v2 - 1) + 1), hs_59, by omega⟩)
          have hn_60 : ((fs1.set 16 (.int (nI (v2 - 1)))).set 16 (.int (nI ((v2 - 1) + 1)))).length = 51 := by rw [List.length_set]; exact hn_43
          have hv_61 : ((fs1.set 16 (.int (nI (v2 - 1)))).set 16 (.int (nI ((v2 - 1) + 1))))[43]? = some (.ref v47) := by rw [List.getElem?_set_ne (by decide)]; exact hv47
          have hb_62 : ((v2 - 1) + 1) ≤ 60 := by omega
          obtain ⟨M_63, eM_63⟩ : ∃ M1 : Hp, M1 = va_up M_50 oa (.inr (12, (fs1.set 16 (.int (nI (v2 - 1)))).set 16 (.int (nI ((v2 - 1) + 1))))) := ⟨_, rfl⟩
          have hx16 : (((v2 - 1) : Nat) : Int) = (((v2 - 1) : Nat) : Int) := (congrFun hV.2.1 16).symm.trans ((fx_of hM_52 rfl hs_42).trans (nI_toInt (by omega)))
          have hV : VW K L M M_63 oa (va_up (va_up (fx M oa) 16 (((v2 - 1) : Nat) : Int)) 16 ((((v2 - 1) + 1) : Nat) : Int)) (va_up (va_up (ax M oa) 43 gw28) 43 (upd gw28 ((nI (v2 - 1)) : Int32).toNatClampNeg (nI k1))) := by rw [eM_63]; exact hV.put hW ia hM_52 hn_43 rfl (by decide) rfl (nI_toInt (by omega))
          have hP : va_P D vwCl ([] ++ va_pl L M_63) H_56 := by rw [eM_63]; exact hP
          have hD : va_D A ([] ++ va_pl L M_63) := by rw [eM_63]; exact hD
          have hW : WOM cy K L M_63 := by rw [eM_63]; exact hW.up_12 ia ⟨_, rfl, hn_60, hk_58⟩
          have hF : fr K L [12, 36] M M_63 := by rw [eM_63]; exact hF.up ia (by decide)
          have hG : fG K L [16] M M_63 := by rw [eM_63]; exact hG.up hM_52 (by decide)
          have hM_64 : M_63 oa = .inr (12, (fs1.set 16 (.int (nI (v2 - 1)))).set 16 (.int (nI ((v2 - 1) + 1)))) := by rw [eM_63]; exact va_up_self _ _ _
          have hM_65 : M_63 v47 = .inl (cy 14, 60, .inl (f_53)) := by rw [eM_63, va_up_ne _ _ (hc47.neT ia (by decide))]; exact hM_51
          have hRM : REMF (fx M oa 16) (ax M oa 43) (nI k1) ((((v2 - 1) + 1) : Nat) : Int) (upd gw28 ((nI (v2 - 1)) : Int32).toNatClampNeg (nI k1)) := remf2 (by omega) (by omega) (fun i hi => hg1 i (by omega)) ((nI_cl (by omega)).trans (by omega))
          have hV9 : VW K L M M_63 oa (va_up (fx M oa) 16 ((((v2 - 1) + 1) : Nat) : Int)) (va_up (ax M oa) 43 (upd gw28 ((nI (v2 - 1)) : Int32).toNatClampNeg (nI k1))) := by have h := hV; simp only [va_up_up] at h; exact h
          rw [hQ]
          exact W.vret hx hb hr (fun t ht hW9 => ⟨⟨M_63, rfl, ⟨hW, hF, hG, ⟨_, _, hRM, hV9⟩, trivial⟩, ⟨by rw [ht]; exact hP, hD⟩⟩, hS.F ht⟩) hS.2.2 dX12_remember_67
        · have hz := rfl (a := 0)
          have n_66 : ¬ (60 ≤ v2w28) := fun q => c_36 ((iLE (a := 60) (b := v2w28) (by omega) (by omega)).mpr q)
          refine lv_aload_n hx hb dX12_remember_17 rfl (lv_at hl 1 rfl) ?_
          obtain ⟨v67, hv67, hc67⟩ : ∃ v : Nat, fs1[43]? = some (.ref v : Value) ∧ isk K L v 36 60 := hl1 43 (by decide)
          refine pg_get (D := D) (ci := 12) (v := .ref v67) (C := RX12) (T := TX12) (N := 51) hx hb hg inG12 hown hK hP ia.1 hM_35 rfl 43 (by decide) (hg _ wd_826) (fun _ h9 => h9) hv67 dX12_remember_18 ?_
          refine lv_iload_n hx hb dX12_remember_21 rfl (lv_at hl 0 rfl) ?_
          refine lv_iconst (v := 1) hx hb dX12_remember_22 (by decide) ?_
          refine lv_isub hx hb dX12_remember_23 ?_
          refine lv_topi (fun f_68 ef_68 => ?_)
          obtain rfl : f_68 = (nI (v2w28 - 1)) := ef_68.trans (nI_prd (by omega))
          refine lv_aload_n hx hb dX12_remember_24 rfl (lv_at hl 1 rfl) ?_
          refine pg_get (D := D) (ci := 12) (v := .ref v67) (C := RX12) (T := TX12) (N := 51) hx hb hg inG12 hown hK hP ia.1 hM_35 rfl 43 (by decide) (hg _ wd_826) (fun _ h9 => h9) hv67 dX12_remember_25 ?_
          refine lv_iload_n hx hb dX12_remember_28 rfl (lv_at hl 0 rfl) ?_
          obtain ⟨f69, hM69, hf69⟩ := hW.open_36 hc67
          have hi_70 : vp_in (nI v2w28) 60 := (inbN v2w28 60 (by omega) (by omega))
          refine pg_iald hx hb hK hP hc67.1 0 hM69 rfl hi_70 dX12_remember_29 ?_
          have hp_71 := hf69 _ (vp_lt hi_70)
          rcases hp_71 with ec_74 | ⟨c_72, hc_73, ec_74⟩
          · rw [ec_74]
            have hy43 : gw28 = f69 := (congrFun hV.2.2.1 43).symm.trans (ax_of hM_35 (by decide) hv67 hM69)
            have hgv : (-1) = gw28 v2w28 := by rw [show v2w28 = ((nI v2w28) : Int32).toNatClampNeg from (nI_cl (by omega)).symm, hy43]; exact ec_74.symm
            refine pg_iast hx hb hK hP hD hS hc67.1 0 hM69 rfl (inbN (v2w28 - 1) 60 (by omega) (by omega)) dX12_remember_30 (fun H_75 locs hP hD hS => ?_)
            obtain ⟨M_76, eM_76⟩ : ∃ M1 : Hp, M1 = va_up M_33 v67 (.inl (cy 14, 60, .inl (upd f69 ((nI (v2w28 - 1)) : Int32).toNatClampNeg (-1)))) := ⟨_, rfl⟩
            have hy43 : gw28 = f69 := (congrFun hV.2.2.1 43).symm.trans (ax_of hM_35 (by decide) hv67 hM69)
            have hV : VW K L M M_76 oa (fx M oa) (va_up (va_up (ax M oa) 43 gw28) 43 (upd gw28 ((nI (v2w28 - 1)) : Int32).toNatClampNeg (-1))) := by rw [eM_76]; exact hV.ast (j := 43) hW ia hM_35 (by decide) hv67 hc67 hM69
            have hP : va_P D vwCl ([] ++ va_pl L M_76) H_75 := by rw [eM_76]; exact hP
            have hD : va_D A ([] ++ va_pl L M_76) := by rw [eM_76]; exact hD
            have hW : WOM cy K L M_76 := by rw [eM_76]; exact hW.up_36 hc67 ⟨_, rfl, (updP (P := fun z => (z = -1 ∨ ∃ c : Nat, c < 1000 ∧ z = nI c)) hf69 (Or.inl rfl))⟩
            have hF : fr K L [12, 36] M M_76 := by rw [eM_76]; exact hF.up hc67 (by decide)
            have hG : fG K L [16] M M_76 := by rw [eM_76]; exact hG.arr hc67 (by decide)
            have hM_77 : M_76 v67 = .inl (cy 14, 60, .inl (upd f69 ((nI (v2w28 - 1)) : Int32).toNatClampNeg (-1))) := by rw [eM_76]; exact va_up_self _ _ _
            have hM_78 : M_76 oa = .inr (12, fs1) := by rw [eM_76, va_up_ne _ _ (ia.neT hc67 (by decide))]; exact hM_35
            have hf_80 : ∀ j, j < 60 → ((upd f69 ((nI (v2w28 - 1)) : Int32).toNatClampNeg (-1)) j = -1 ∨ ∃ c : Nat, c < 1000 ∧ (upd f69 ((nI (v2w28 - 1)) : Int32).toNatClampNeg (-1)) j = nI c) := (updP (P := fun z => (z = -1 ∨ ∃ c : Nat, c < 1000 ∧ z = nI c)) hf69 (Or.inl rfl))
            obtain ⟨f_79, ef_79⟩ : ∃ f : Nat → Int32, f = upd f69 ((nI (v2w28 - 1)) : Int32).toNatClampNeg (-1) := ⟨_, rfl⟩
            rw [← ef_79] at hM_77 hf_80
            refine lv_iinc (v := (nI (v2w28 + 1))) (lv' := [(2, .int (nI (v2w28 + 1))), (0, .ref oa), (1, .int (nI k1))]) hx hb dX12_remember_31 hl (k := 0) rfl (nI_1 v2w28) (by decide) rfl (fun ls hl => ?_)
            refine lv_goto (tgt := 11) hx hb dX12_remember_34 (by decide) ?_
            exact ih_26 (v2w28 + 1) (upd gw28 ((nI (v2w28 - 1)) : Int32).toNatClampNeg (-1)) M_76 H_75 _ _ (by omega) hM_78 (by omega) (by omega) (sh1 hx_31 hx_32 (by omega) (nI_cl (by omega)) hgv) (sh2 hx_32 (by omega) (nI_cl (by omega))) hW hF hG (by have h := hV; simp only [va_up_up] at h; exact h) hP hD hS (lv_sub hl [0, 1, 2] rfl)
          · rw [ec_74]
            have hy43 : gw28 = f69 := (congrFun hV.2.2.1 43).symm.trans (ax_of hM_35 (by decide) hv67 hM69)
            have hgv : (nI c_72) = gw28 v2w28 := by rw [show v2w28 = ((nI v2w28) : Int32).toNatClampNeg from (nI_cl (by omega)).symm, hy43]; exact ec_74.symm
            refine pg_iast hx hb hK hP hD hS hc67.1 0 hM69 rfl (inbN (v2w28 - 1) 60 (by omega) (by omega)) dX12_remember_30 (fun H_81 locs hP hD hS => ?_)
            obtain ⟨M_82, eM_82⟩ : ∃ M1 : Hp, M1 = va_up M_33 v67 (.inl (cy 14, 60, .inl (upd f69 ((nI (v2w28 - 1)) : Int32).toNatClampNeg (nI c_72)))) := ⟨_, rfl⟩
            have hy43 : gw28 = f69 := (congrFun hV.2.2.1 43).symm.trans (ax_of hM_35 (by decide) hv67 hM69)
            have hV : VW K L M M_82 oa (fx M oa) (va_up (va_up (ax M oa) 43 gw28) 43 (upd gw28 ((nI (v2w28 - 1)) : Int32).toNatClampNeg (nI c_72))) := by rw [eM_82]; exact hV.ast (j := 43) hW ia hM_35 (by decide) hv67 hc67 hM69
            have hP : va_P D vwCl ([] ++ va_pl L M_82) H_81 := by rw [eM_82]; exact hP
            have hD : va_D A ([] ++ va_pl L M_82) := by rw [eM_82]; exact hD
            have hW : WOM cy K L M_82 := by rw [eM_82]; exact hW.up_36 hc67 ⟨_, rfl, (updP (P := fun z => (z = -1 ∨ ∃ c : Nat, c < 1000 ∧ z = nI c)) hf69 (Or.inr ⟨c_72, by omega, rfl⟩))⟩
            have hF : fr K L [12, 36] M M_82 := by rw [eM_82]; exact hF.up hc67 (by decide)
            have hG : fG K L [16] M M_82 := by rw [eM_82]; exact hG.arr hc67 (by decide)
            have hM_83 : M_82 v67 = .inl (cy 14, 60, .inl (upd f69 ((nI (v2w28 - 1)) : Int32).toNatClampNeg (nI c_72))) := by rw [eM_82]; exact va_up_self _ _ _
            have hM_84 : M_82 oa = .inr (12, fs1) := by rw [eM_82, va_up_ne _ _ (ia.neT hc67 (by decide))]; exact hM_35
            have hf_86 : ∀ j, j < 60 → ((upd f69 ((nI (v2w28 - 1)) : Int32).toNatClampNeg (nI c_72)) j = -1 ∨ ∃ c : Nat, c < 1000 ∧ (upd f69 ((nI (v2w28 - 1)) : Int32).toNatClampNeg (nI c_72)) j = nI c) := (updP (P := fun z => (z = -1 ∨ ∃ c : Nat, c < 1000 ∧ z = nI c)) hf69 (Or.inr ⟨c_72, by omega, rfl⟩))
            obtain ⟨f_85, ef_85⟩ : ∃ f : Nat → Int32, f = upd f69 ((nI (v2w28 - 1)) : Int32).toNatClampNeg (nI c_72) := ⟨_, rfl⟩
            rw [← ef_85] at hM_83 hf_86
            refine lv_iinc (v := (nI (v2w28 + 1))) (lv' := [(2, .int (nI (v2w28 + 1))), (0, .ref oa), (1, .int (nI k1))]) hx hb dX12_remember_31 hl (k := 0) rfl (nI_1 v2w28) (by decide) rfl (fun ls hl => ?_)
            refine lv_goto (tgt := 11) hx hb dX12_remember_34 (by decide) ?_
            exact ih_26 (v2w28 + 1) (upd gw28 ((nI (v2w28 - 1)) : Int32).toNatClampNeg (nI c_72)) M_82 H_81 _ _ (by omega) hM_84 (by omega) (by omega) (sh1 hx_31 hx_32 (by omega) (nI_cl (by omega)) hgv) (sh2 hx_32 (by omega) (nI_cl (by omega))) hW hF hG (by have h := hV; simp only [va_up_up] at h; exact h) hP hD hS (lv_sub hl [0, 1, 2] rfl)
    exact key_25 (60 - 1 + 1) 1 (ax M oa 43) M s.heap _ _ (by omega) hM1 (by omega) (by omega) (fun i h => absurd h (by omega)) (fun _ _ => rfl) hW hF hG (by rw [va_up_id]; exact hV) hP hD hS (lv_sub hl [0, 1, 2] rfl)
set_option maxHeartbeats 4000000 in
set_option maxRecDepth 100000 in
theorem r_remM (l : Launch) (D : va_G) (cy : Nat → ClassId) (K : Kp) (L : List Nat) (M : Hp) (sz : Nat) (oa : Nat) (hW : WOM cy K L M) (ia : isk K L oa 12 0) (hO : OWN K L M) : Met l yX12_remember (wsM yX12_remember cX12_remember 3 none) ({ frames := 0, cells := 0, slots := 0, locals := 0 }) (va_Pc [.ref oa, .int (-1)] (PG D cy [] L M sz)) (va_Qv (fun (M9 : Hp) => WOM cy K L M9 ∧ fr K L [12, 36] M M9 ∧ fG K L [16] M M9 ∧ (∃ (n9 : Int) (g9 : Nat → Int32), REMF (fx M oa 16) (ax M oa 43) (-1) n9 g9 ∧ VW K L M M9 oa (va_up (fx M oa) 16 n9) (va_up (ax M oa) 43 g9)) ∧ (True)) (fun M9 t => PQ D [] L M9 (va_A ([] ++ va_pl L M) sz) t) (va_A ([] ++ va_pl L M) sz)) 0 0 (va_A ([] ++ va_pl L M) sz) := by
  refine Met.ofW (cc := cX12_remember) (maxL := 3) (ret := none) (by decide) rfl ?_
  intro p e s m args below meth c s₁ B hml hv
  obtain ⟨rfl, hsz, hP, hK, hD0, hN⟩ := hv
  have hx := B.exec
  have hb := B.bytes
  have hr := B.returns
  have hts := atoms_spec (ws := (wsM yX12_remember cX12_remember 3 none)) B.pre
  have hg : ∀ w ∈ lw_good, w.before _ s = true := fun w h => hts w (List.mem_cons_of_mem _ h)
  have hown : s.vm.findClass RX12 = some m.cls := findClass_of_methodNamed B.named
  have hlocks := B.notSynchronized
  subst hsz
  have hD := hD0.self (sz := s.heap.size)
  generalize hAe : va_A ([] ++ va_pl L M) s.heap.size = A at hD ⊢
  have hA : ∀ q : Nat, s.heap.size ≤ q → A q := fun q h => by rw [← hAe]; exact Or.inr h
  have hS : va_S A s.heap s.heap [] := va_S.rf
  have hl := lv_entry ([.ref oa, .int (-1)]) (n := 3) (Nat.le_of_ble_eq_true rfl)
  rw [lg_entry_eq]
  generalize (lg_sl ([.ref oa, .int (-1)]) ++ List.replicate (3 - (lg_sl ([.ref oa, .int (-1)])).length) Slot.unset).toArray = ls at hl ⊢
  refine W.nameQ (fun Q hQ => ?_)
  refine W.nameR (fun R hR => ?_)
  have hRf : 0 ≤ R.frames := by rw [hR]; exact Nat.le_of_ble_eq_true rfl
  have hRl : 0 ≤ R.locals := by rw [hR]; exact Nat.le_of_ble_eq_true rfl
  have hRc : 0 ≤ R.cells := by rw [hR]; exact Nat.le_of_ble_eq_true rfl
  have hRs : 0 ≤ R.slots := by rw [hR]; exact Nat.le_of_ble_eq_true rfl
  have hF : fr K L [12, 36] M M := fr.rf
  have hG : fG K L [16] M M := fG.rf
  have hl : lv_has ls 3 [(0, .ref oa), (1, .int (-1))] := hl
  have hV : VW K L M M oa (fx M oa) (ax M oa) := VW.rf oa hO
  refine lv_aload_n hx hb dX12_remember_0 rfl (lv_at hl 0 rfl) ?_
  obtain ⟨fs1, hM1, hn1, hl1⟩ := hW.open_12 ia
  obtain ⟨v2, hv2, hc2⟩ : ∃ v : Nat, fs1[16]? = some (.int (nI v) : Value) ∧ v ≤ 60 := hl1 16 (by decide)
  refine pg_get (D := D) (ci := 12) (v := .int (nI v2)) (C := RX12) (T := TX12) (N := 51) hx hb hg inG12 hown hK hP ia.1 hM1 rfl 16 (by decide) (hg _ wd_825) (fun _ h9 => h9) hv2 dX12_remember_1 ?_
  refine lv_bipush (v := 60) hx hb dX12_remember_4 (by decide) ?_
  refine lv_icmp_ne (tgt := 47) hx hb dX12_remember_6 (by decide) (fun c_3 => ?_) (fun c_3 => ?_)
  · have hz := rfl (a := 0)
    have n_4 : ¬ (v2 = 60) := fun q => c_3 ((iEQ (a := v2) (b := 60) (by omega) (by omega)).mpr q)
    refine lv_aload_n hx hb dX12_remember_47 rfl (lv_at hl 0 rfl) ?_
    obtain ⟨v5, hv5, hc5⟩ : ∃ v : Nat, fs1[43]? = some (.ref v : Value) ∧ isk K L v 36 60 := hl1 43 (by decide)
    refine pg_get (D := D) (ci := 12) (v := .ref v5) (C := RX12) (T := TX12) (N := 51) hx hb hg inG12 hown hK hP ia.1 hM1 rfl 43 (by decide) (hg _ wd_826) (fun _ h9 => h9) hv5 dX12_remember_48 ?_
    refine lv_aload_n hx hb dX12_remember_51 rfl (lv_at hl 0 rfl) ?_
    refine pg_get (D := D) (ci := 12) (v := .int (nI v2)) (C := RX12) (T := TX12) (N := 51) hx hb hg inG12 hown hK hP ia.1 hM1 rfl 16 (by decide) (hg _ wd_825) (fun _ h9 => h9) hv2 dX12_remember_52 ?_
    refine lv_iload_n hx hb dX12_remember_55 rfl (lv_at hl 1 rfl) ?_
    obtain ⟨f6, hM6, hf6⟩ := hW.open_36 hc5
    refine pg_iast hx hb hK hP hD hS hc5.1 0 hM6 rfl (inbN v2 60 (by omega) (by omega)) dX12_remember_56 (fun H_7 locs hP hD hS => ?_)
    obtain ⟨M_8, eM_8⟩ : ∃ M1 : Hp, M1 = va_up M v5 (.inl (cy 14, 60, .inl (upd f6 ((nI v2) : Int32).toNatClampNeg (-1)))) := ⟨_, rfl⟩
    have hy43 : (ax M oa 43) = f6 := (congrFun hV.2.2.1 43).symm.trans (ax_of hM1 (by decide) hv5 hM6)
    have hV : VW K L M M_8 oa (fx M oa) (va_up (ax M oa) 43 (upd (ax M oa 43) ((nI v2) : Int32).toNatClampNeg (-1))) := by rw [eM_8]; exact hV.ast (j := 43) hW ia hM1 (by decide) hv5 hc5 hM6
    have hP : va_P D vwCl ([] ++ va_pl L M_8) H_7 := by rw [eM_8]; exact hP
    have hD : va_D A ([] ++ va_pl L M_8) := by rw [eM_8]; exact hD
    have hW : WOM cy K L M_8 := by rw [eM_8]; exact hW.up_36 hc5 ⟨_, rfl, (updP (P := fun z => (z = -1 ∨ ∃ c : Nat, c < 1000 ∧ z = nI c)) hf6 (Or.inl rfl))⟩
    have hF : fr K L [12, 36] M M_8 := by rw [eM_8]; exact hF.up hc5 (by decide)
    have hG : fG K L [16] M M_8 := by rw [eM_8]; exact hG.arr hc5 (by decide)
    have hM_9 : M_8 v5 = .inl (cy 14, 60, .inl (upd f6 ((nI v2) : Int32).toNatClampNeg (-1))) := by rw [eM_8]; exact va_up_self _ _ _
    have hM_10 : M_8 oa = .inr (12, fs1) := by rw [eM_8, va_up_ne _ _ (ia.neT hc5 (by decide))]; exact hM1
    have hf_12 : ∀ j, j < 60 → ((upd f6 ((nI v2) : Int32).toNatClampNeg (-1)) j = -1 ∨ ∃ c : Nat, c < 1000 ∧ (upd f6 ((nI v2) : Int32).toNatClampNeg (-1)) j = nI c) := (updP (P := fun z => (z = -1 ∨ ∃ c : Nat, c < 1000 ∧ z = nI c)) hf6 (Or.inl rfl))
    obtain ⟨f_11, ef_11⟩ : ∃ f : Nat → Int32, f = upd f6 ((nI v2) : Int32).toNatClampNeg (-1) := ⟨_, rfl⟩
    rw [← ef_11] at hM_9 hf_12
    refine lv_aload_n hx hb dX12_remember_57 rfl (lv_at hl 0 rfl) ?_
    refine lv_dup hx hb dX12_remember_58 rfl ?_
    refine pg_get (D := D) (ci := 12) (v := .int (nI v2)) (C := RX12) (T := TX12) (N := 51) hx hb hg inG12 hown hK hP ia.1 hM_10 rfl 16 (by decide) (hg _ wd_825) (fun _ h9 => h9) hv2 dX12_remember_59 ?_
    refine lv_iconst (v := 1) hx hb dX12_remember_62 (by decide) ?_
    refine lv_iadd hx hb dX12_remember_63 ?_
    refine lv_topi (fun f_13 ef_13 => ?_)
    obtain rfl : f_13 = (nI (v2 + 1)) := ef_13.trans (nI_add v2 1)
    refine pg_put (D := D) (ci := 12) (v := .int (nI (v2 + 1))) (ty := .int) (C := RX12) (T := TX12) (N := 51) hx hb hg inG12 tyX12 tyX12_ok nmX12 hown hK hP hD hS ia.1 hM_10 rfl 16 (by decide) (hg _ wd_825) (fun _ h9 => h9) rfl (by decide +kernel) rfl rfl (by rw [hn1]; decide) dX12_remember_64 (fun H_14 locs hP hD hS => ?_)
    have hs_17 : (fs1.set 16 (.int (nI (v2 + 1))))[16]? = some (.int (nI (v2 + 1))) := List.getElem?_set_self (by rw [hn1]; decide)
    have hk_16 := fld12_set (k := 16) (w := .int (nI (v2 + 1))) hl1 (show fld12 K L 16 (fs1.set 16 (.int (nI (v2 + 1)))) from ⟨(v2 + 1), hs_17, by omega⟩)
    have hn_18 : (fs1.set 16 (.int (nI (v2 + 1)))).length = 51 := by rw [List.length_set]; exact hn1
    have hv_19 : (fs1.set 16 (.int (nI (v2 + 1))))[43]? = some (.ref v5) := by rw [List.getElem?_set_ne (by decide)]; exact hv5
    have hb_20 : (v2 + 1) ≤ 60 := by omega
    obtain ⟨M_21, eM_21⟩ : ∃ M1 : Hp, M1 = va_up M_8 oa (.inr (12, fs1.set 16 (.int (nI (v2 + 1))))) := ⟨_, rfl⟩
    have hx16 : (fx M oa 16) = ((v2 : Nat) : Int) := (congrFun hV.2.1 16).symm.trans ((fx_of hM_10 rfl hv2).trans (nI_toInt (by omega)))
    have hV : VW K L M M_21 oa (va_up (fx M oa) 16 (((v2 + 1) : Nat) : Int)) (va_up (ax M oa) 43 (upd (ax M oa 43) ((nI v2) : Int32).toNatClampNeg (-1))) := by rw [eM_21]; exact hV.put hW ia hM_10 hn1 rfl (by decide) rfl (nI_toInt (by omega))
    have hP : va_P D vwCl ([] ++ va_pl L M_21) H_14 := by rw [eM_21]; exact hP
    have hD : va_D A ([] ++ va_pl L M_21) := by rw [eM_21]; exact hD
    have hW : WOM cy K L M_21 := by rw [eM_21]; exact hW.up_12 ia ⟨_, rfl, hn_18, hk_16⟩
    have hF : fr K L [12, 36] M M_21 := by rw [eM_21]; exact hF.up ia (by decide)
    have hG : fG K L [16] M M_21 := by rw [eM_21]; exact hG.up hM_10 (by decide)
    have hM_22 : M_21 oa = .inr (12, fs1.set 16 (.int (nI (v2 + 1)))) := by rw [eM_21]; exact va_up_self _ _ _
    have hM_23 : M_21 v5 = .inl (cy 14, 60, .inl (f_11)) := by rw [eM_21, va_up_ne _ _ (hc5.neT ia (by decide))]; exact hM_9
    have hRM : REMF (fx M oa 16) (ax M oa 43) (-1) (((v2 + 1) : Nat) : Int) (upd (ax M oa 43) ((nI v2) : Int32).toNatClampNeg (-1)) := remf1 hx16 (by omega) (nI_cl (by omega))
    rw [hQ]
    exact W.vret hx hb hr (fun t ht hW9 => ⟨⟨M_21, rfl, ⟨hW, hF, hG, ⟨_, _, hRM, hV⟩, trivial⟩, ⟨by rw [ht]; exact hP, hD⟩⟩, hS.F ht⟩) hS.2.2 dX12_remember_67
  · have hz := rfl (a := 0)
    have n_24 : v2 = 60 := (iEQ (a := v2) (b := 60) (by omega) (by omega)).mp c_3
    refine lv_iconst (v := 1) hx hb dX12_remember_9 (by decide) ?_
    refine lv_istore_n (lv' := [(2, .int 1), (0, .ref oa), (1, .int (-1))]) hx hb dX12_remember_10 rfl hl (by decide) rfl (fun ls hl => ?_)
    have key_25 : ∀ (fu_27 : Nat) (v2w28 : Nat) (gw28 : Nat → Int32) (M_33 : Hp) (H_34 : Heap) (locs : List Loc) (ls : Array Slot), 60 - v2w28 < fu_27 → M_33 oa = .inr (12, fs1) → 1 ≤ v2w28 → v2w28 ≤ 60 → (∀ i : Nat, i + 1 < v2w28 → gw28 i = ax M oa 43 (i + 1)) → (∀ i : Nat, v2w28 ≤ i + 1 → gw28 i = ax M oa 43 i) → WOM cy K L M_33 → fr K L [12, 36] M M_33 → fG K L [16] M M_33 → VW K L M M_33 oa (fx M oa) (va_up (ax M oa) 43 gw28) → va_P D vwCl ([] ++ va_pl L M_33) H_34 → va_D A ([] ++ va_pl L M_33) → va_S A s.heap H_34 locs → lv_has ls 3 [(2, .int (nI v2w28)), (0, .ref oa), (1, .int (-1))] → W p l e R s m ([.ref oa, .int (-1)] : List Value).toArray below meth c H_34 locs 0 0 Q (F0 m 11 ls []) := by
      intro fu_27
      induction fu_27 with
      | zero => intro v2w28 gw28 M_33 H_34 locs ls h; exact absurd h (Nat.not_lt_zero _)
      | succ fu_27 ih_26 =>
        intro v2w28 gw28 M_33 H_34 locs ls hfu hM_35 hx_29 hx_30 hx_31 hx_32 hW hF hG hV hP hD hS hl
        refine lv_iload_n hx hb dX12_remember_11 rfl (lv_at hl 0 rfl) ?_
        refine lv_bipush (v := 60) hx hb dX12_remember_12 (by decide) ?_
        refine lv_icmp_ge (tgt := 37) hx hb dX12_remember_14 (by decide) (fun c_36 => ?_) (fun c_36 => ?_)
        · have hz := rfl (a := 0)
          have n_37 : 60 ≤ v2w28 := (iLE (a := 60) (b := v2w28) (by omega) (by omega)).mp c_36
          have hg1 := hx_31
          refine lv_aload_n hx hb dX12_remember_37 rfl (lv_at hl 1 rfl) ?_
          refine lv_dup hx hb dX12_remember_38 rfl ?_
          refine pg_get (D := D) (ci := 12) (v := .int (nI v2)) (C := RX12) (T := TX12) (N := 51) hx hb hg inG12 hown hK hP ia.1 hM_35 rfl 16 (by decide) (hg _ wd_825) (fun _ h9 => h9) hv2 dX12_remember_39 ?_
          refine lv_iconst (v := 1) hx hb dX12_remember_42 (by decide) ?_
          refine lv_isub hx hb dX12_remember_43 ?_
          refine lv_topi (fun f_38 ef_38 => ?_)
          obtain rfl : f_38 = (nI (v2 - 1)) := ef_38.trans (nI_prd (by omega))
          refine pg_put (D := D) (ci := 12) (v := .int (nI (v2 - 1))) (ty := .int) (C := RX12) (T := TX12) (N := 51) hx hb hg inG12 tyX12 tyX12_ok nmX12 hown hK hP hD hS ia.1 hM_35 rfl 16 (by decide) (hg _ wd_825) (fun _ h9 => h9) rfl (by decide +kernel) rfl rfl (by rw [hn1]; decide) dX12_remember_44 (fun H_39 locs hP hD hS => ?_)
          have hs_42 : (fs1.set 16 (.int (nI (v2 - 1))))[16]? = some (.int (nI (v2 - 1))) := List.getElem?_set_self (by rw [hn1]; decide)
          have hk_41 := fld12_set (k := 16) (w := .int (nI (v2 - 1))) hl1 (show fld12 K L 16 (fs1.set 16 (.int (nI (v2 - 1)))) from ⟨(v2 - 1), hs_42, by omega⟩)
          have hn_43 : (fs1.set 16 (.int (nI (v2 - 1)))).length = 51 := by rw [List.length_set]; exact hn1
          have hb_44 : (v2 - 1) ≤ 60 := by omega
          obtain ⟨M_45, eM_45⟩ : ∃ M1 : Hp, M1 = va_up M_33 oa (.inr (12, fs1.set 16 (.int (nI (v2 - 1))))) := ⟨_, rfl⟩
          have hx16 : (fx M oa 16) = ((v2 : Nat) : Int) := (congrFun hV.2.1 16).symm.trans ((fx_of hM_35 rfl hv2).trans (nI_toInt (by omega)))
          have hV : VW K L M M_45 oa (va_up (fx M oa) 16 (((v2 - 1) : Nat) : Int)) (va_up (ax M oa) 43 gw28) := by rw [eM_45]; exact hV.put hW ia hM_35 hn1 rfl (by decide) rfl (nI_toInt (by omega))
          have hP : va_P D vwCl ([] ++ va_pl L M_45) H_39 := by rw [eM_45]; exact hP
          have hD : va_D A ([] ++ va_pl L M_45) := by rw [eM_45]; exact hD
          have hW : WOM cy K L M_45 := by rw [eM_45]; exact hW.up_12 ia ⟨_, rfl, hn_43, hk_41⟩
          have hF : fr K L [12, 36] M M_45 := by rw [eM_45]; exact hF.up ia (by decide)
          have hG : fG K L [16] M M_45 := by rw [eM_45]; exact hG.up hM_35 (by decide)
          have hM_46 : M_45 oa = .inr (12, fs1.set 16 (.int (nI (v2 - 1)))) := by rw [eM_45]; exact va_up_self _ _ _
          refine lv_aload_n hx hb dX12_remember_47 rfl (lv_at hl 1 rfl) ?_
          obtain ⟨v47, hv47, hc47⟩ : ∃ v : Nat, (fs1.set 16 (.int (nI (v2 - 1))))[43]? = some (.ref v : Value) ∧ isk K L v 36 60 := hk_41 43 (by decide)
          refine pg_get (D := D) (ci := 12) (v := .ref v47) (C := RX12) (T := TX12) (N := 51) hx hb hg inG12 hown hK hP ia.1 hM_46 rfl 43 (by decide) (hg _ wd_826) (fun _ h9 => h9) hv47 dX12_remember_48 ?_
          refine lv_aload_n hx hb dX12_remember_51 rfl (lv_at hl 1 rfl) ?_
          refine pg_get (D := D) (ci := 12) (v := .int (nI (v2 - 1))) (C := RX12) (T := TX12) (N := 51) hx hb hg inG12 hown hK hP ia.1 hM_46 rfl 16 (by decide) (hg _ wd_825) (fun _ h9 => h9) hs_42 dX12_remember_52 ?_
          refine lv_iload_n hx hb dX12_remember_55 rfl (lv_at hl 2 rfl) ?_
          obtain ⟨f48, hM48, hf48⟩ := hW.open_36 hc47
          refine pg_iast hx hb hK hP hD hS hc47.1 0 hM48 rfl (inbN (v2 - 1) 60 (by omega) (by omega)) dX12_remember_56 (fun H_49 locs hP hD hS => ?_)
          obtain ⟨M_50, eM_50⟩ : ∃ M1 : Hp, M1 = va_up M_45 v47 (.inl (cy 14, 60, .inl (upd f48 ((nI (v2 - 1)) : Int32).toNatClampNeg (-1)))) := ⟨_, rfl⟩
          have hy43 : gw28 = f48 := (congrFun hV.2.2.1 43).symm.trans (ax_of hM_46 (by decide) hv47 hM48)
          have hV : VW K L M M_50 oa (va_up (fx M oa) 16 (((v2 - 1) : Nat) : Int)) (va_up (va_up (ax M oa) 43 gw28) 43 (upd gw28 ((nI (v2 - 1)) : Int32).toNatClampNeg (-1))) := by rw [eM_50]; exact hV.ast (j := 43) hW ia hM_46 (by decide) hv47 hc47 hM48
          have hP : va_P D vwCl ([] ++ va_pl L M_50) H_49 := by rw [eM_50]; exact hP
          have hD : va_D A ([] ++ va_pl L M_50) := by rw [eM_50]; exact hD
          have hW : WOM cy K L M_50 := by rw [eM_50]; exact hW.up_36 hc47 ⟨_, rfl, (updP (P := fun z => (z = -1 ∨ ∃ c : Nat, c < 1000 ∧ z = nI c)) hf48 (Or.inl rfl))⟩
          have hF : fr K L [12, 36] M M_50 := by rw [eM_50]; exact hF.up hc47 (by decide)
          have hG : fG K L [16] M M_50 := by rw [eM_50]; exact hG.arr hc47 (by decide)
          have hM_51 : M_50 v47 = .inl (cy 14, 60, .inl (upd f48 ((nI (v2 - 1)) : Int32).toNatClampNeg (-1))) := by rw [eM_50]; exact va_up_self _ _ _
          have hM_52 : M_50 oa = .inr (12, fs1.set 16 (.int (nI (v2 - 1)))) := by rw [eM_50, va_up_ne _ _ (ia.neT hc47 (by decide))]; exact hM_46
          have hf_54 : ∀ j, j < 60 → ((upd f48 ((nI (v2 - 1)) : Int32).toNatClampNeg (-1)) j = -1 ∨ ∃ c : Nat, c < 1000 ∧ (upd f48 ((nI (v2 - 1)) : Int32).toNatClampNeg (-1)) j = nI c) := (updP (P := fun z => (z = -1 ∨ ∃ c : Nat, c < 1000 ∧ z = nI c)) hf48 (Or.inl rfl))
          obtain ⟨f_53, ef_53⟩ : ∃ f : Nat → Int32, f = upd f48 ((nI (v2 - 1)) : Int32).toNatClampNeg (-1) := ⟨_, rfl⟩
          rw [← ef_53] at hM_51 hf_54
          refine lv_aload_n hx hb dX12_remember_57 rfl (lv_at hl 1 rfl) ?_
          refine lv_dup hx hb dX12_remember_58 rfl ?_
          refine pg_get (D := D) (ci := 12) (v := .int (nI (v2 - 1))) (C := RX12) (T := TX12) (N := 51) hx hb hg inG12 hown hK hP ia.1 hM_52 rfl 16 (by decide) (hg _ wd_825) (fun _ h9 => h9) hs_42 dX12_remember_59 ?_
          refine lv_iconst (v := 1) hx hb dX12_remember_62 (by decide) ?_
          refine lv_iadd hx hb dX12_remember_63 ?_
          refine lv_topi (fun f_55 ef_55 => ?_)
          obtain rfl : f_55 = (nI ((v2 - 1) + 1)) := ef_55.trans (nI_add (v2 - 1) 1)
          refine pg_put (D := D) (ci := 12) (v := .int (nI ((v2 - 1) + 1))) (ty := .int) (C := RX12) (T := TX12) (N := 51) hx hb hg inG12 tyX12 tyX12_ok nmX12 hown hK hP hD hS ia.1 hM_52 rfl 16 (by decide) (hg _ wd_825) (fun _ h9 => h9) rfl (by decide +kernel) rfl rfl (by rw [hn_43]; decide) dX12_remember_64 (fun H_56 locs hP hD hS => ?_)
          have hs_59 : ((fs1.set 16 (.int (nI (v2 - 1)))).set 16 (.int (nI ((v2 - 1) + 1))))[16]? = some (.int (nI ((v2 - 1) + 1))) := List.getElem?_set_self (by rw [hn_43]; decide)
          have hk_58 := fld12_set (k := 16) (w := .int (nI ((v2 - 1) + 1))) hk_41 (show fld12 K L 16 ((fs1.set 16 (.int (nI (v2 - 1)))).set 16 (.int (nI ((v2 - 1) + 1)))) from ⟨((v2 - 1) + 1), hs_59, by omega⟩)
          have hn_60 : ((fs1.set 16 (.int (nI (v2 - 1)))).set 16 (.int (nI ((v2 - 1) + 1)))).length = 51 := by rw [List.length_set]; exact hn_43
          have hv_61 : ((fs1.set 16 (.int (nI (v2 - 1)))).set 16 (.int (nI ((v2 - 1) + 1))))[43]? = some (.ref v47) := by rw [List.getElem?_set_ne (by decide)]; exact hv47
          have hb_62 : ((v2 - 1) + 1) ≤ 60 := by omega
          obtain ⟨M_63, eM_63⟩ : ∃ M1 : Hp, M1 = va_up M_50 oa (.inr (12, (fs1.set 16 (.int (nI (v2 - 1)))).set 16 (.int (nI ((v2 - 1) + 1))))) := ⟨_, rfl⟩
          have hx16 : (((v2 - 1) : Nat) : Int) = (((v2 - 1) : Nat) : Int) := (congrFun hV.2.1 16).symm.trans ((fx_of hM_52 rfl hs_42).trans (nI_toInt (by omega)))
          have hV : VW K L M M_63 oa (va_up (va_up (fx M oa) 16 (((v2 - 1) : Nat) : Int)) 16 ((((v2 - 1) + 1) : Nat) : Int)) (va_up (va_up (ax M oa) 43 gw28) 43 (upd gw28 ((nI (v2 - 1)) : Int32).toNatClampNeg (-1))) := by rw [eM_63]; exact hV.put hW ia hM_52 hn_43 rfl (by decide) rfl (nI_toInt (by omega))
          have hP : va_P D vwCl ([] ++ va_pl L M_63) H_56 := by rw [eM_63]; exact hP
          have hD : va_D A ([] ++ va_pl L M_63) := by rw [eM_63]; exact hD
          have hW : WOM cy K L M_63 := by rw [eM_63]; exact hW.up_12 ia ⟨_, rfl, hn_60, hk_58⟩
          have hF : fr K L [12, 36] M M_63 := by rw [eM_63]; exact hF.up ia (by decide)
          have hG : fG K L [16] M M_63 := by rw [eM_63]; exact hG.up hM_52 (by decide)
          have hM_64 : M_63 oa = .inr (12, (fs1.set 16 (.int (nI (v2 - 1)))).set 16 (.int (nI ((v2 - 1) + 1)))) := by rw [eM_63]; exact va_up_self _ _ _
          have hM_65 : M_63 v47 = .inl (cy 14, 60, .inl (f_53)) := by rw [eM_63, va_up_ne _ _ (hc47.neT ia (by decide))]; exact hM_51
          have hRM : REMF (fx M oa 16) (ax M oa 43) (-1) ((((v2 - 1) + 1) : Nat) : Int) (upd gw28 ((nI (v2 - 1)) : Int32).toNatClampNeg (-1)) := remf2 (by omega) (by omega) (fun i hi => hg1 i (by omega)) ((nI_cl (by omega)).trans (by omega))
          have hV9 : VW K L M M_63 oa (va_up (fx M oa) 16 ((((v2 - 1) + 1) : Nat) : Int)) (va_up (ax M oa) 43 (upd gw28 ((nI (v2 - 1)) : Int32).toNatClampNeg (-1))) := by have h := hV; simp only [va_up_up] at h; exact h
          rw [hQ]
          exact W.vret hx hb hr (fun t ht hW9 => ⟨⟨M_63, rfl, ⟨hW, hF, hG, ⟨_, _, hRM, hV9⟩, trivial⟩, ⟨by rw [ht]; exact hP, hD⟩⟩, hS.F ht⟩) hS.2.2 dX12_remember_67
        · have hz := rfl (a := 0)
          have n_66 : ¬ (60 ≤ v2w28) := fun q => c_36 ((iLE (a := 60) (b := v2w28) (by omega) (by omega)).mpr q)
          refine lv_aload_n hx hb dX12_remember_17 rfl (lv_at hl 1 rfl) ?_
          obtain ⟨v67, hv67, hc67⟩ : ∃ v : Nat, fs1[43]? = some (.ref v : Value) ∧ isk K L v 36 60 := hl1 43 (by decide)
          refine pg_get (D := D) (ci := 12) (v := .ref v67) (C := RX12) (T := TX12) (N := 51) hx hb hg inG12 hown hK hP ia.1 hM_35 rfl 43 (by decide) (hg _ wd_826) (fun _ h9 => h9) hv67 dX12_remember_18 ?_
          refine lv_iload_n hx hb dX12_remember_21 rfl (lv_at hl 0 rfl) ?_
          refine lv_iconst (v := 1) hx hb dX12_remember_22 (by decide) ?_
          refine lv_isub hx hb dX12_remember_23 ?_
          refine lv_topi (fun f_68 ef_68 => ?_)
          obtain rfl : f_68 = (nI (v2w28 - 1)) := ef_68.trans (nI_prd (by omega))
          refine lv_aload_n hx hb dX12_remember_24 rfl (lv_at hl 1 rfl) ?_
          refine pg_get (D := D) (ci := 12) (v := .ref v67) (C := RX12) (T := TX12) (N := 51) hx hb hg inG12 hown hK hP ia.1 hM_35 rfl 43 (by decide) (hg _ wd_826) (fun _ h9 => h9) hv67 dX12_remember_25 ?_
          refine lv_iload_n hx hb dX12_remember_28 rfl (lv_at hl 0 rfl) ?_
          obtain ⟨f69, hM69, hf69⟩ := hW.open_36 hc67
          have hi_70 : vp_in (nI v2w28) 60 := (inbN v2w28 60 (by omega) (by omega))
          refine pg_iald hx hb hK hP hc67.1 0 hM69 rfl hi_70 dX12_remember_29 ?_
          have hp_71 := hf69 _ (vp_lt hi_70)
          rcases hp_71 with ec_74 | ⟨c_72, hc_73, ec_74⟩
          · rw [ec_74]
            have hy43 : gw28 = f69 := (congrFun hV.2.2.1 43).symm.trans (ax_of hM_35 (by decide) hv67 hM69)
            have hgv : (-1) = gw28 v2w28 := by rw [show v2w28 = ((nI v2w28) : Int32).toNatClampNeg from (nI_cl (by omega)).symm, hy43]; exact ec_74.symm
            refine pg_iast hx hb hK hP hD hS hc67.1 0 hM69 rfl (inbN (v2w28 - 1) 60 (by omega) (by omega)) dX12_remember_30 (fun H_75 locs hP hD hS => ?_)
            obtain ⟨M_76, eM_76⟩ : ∃ M1 : Hp, M1 = va_up M_33 v67 (.inl (cy 14, 60, .inl (upd f69 ((nI (v2w28 - 1)) : Int32).toNatClampNeg (-1)))) := ⟨_, rfl⟩
            have hy43 : gw28 = f69 := (congrFun hV.2.2.1 43).symm.trans (ax_of hM_35 (by decide) hv67 hM69)
            have hV : VW K L M M_76 oa (fx M oa) (va_up (va_up (ax M oa) 43 gw28) 43 (upd gw28 ((nI (v2w28 - 1)) : Int32).toNatClampNeg (-1))) := by rw [eM_76]; exact hV.ast (j := 43) hW ia hM_35 (by decide) hv67 hc67 hM69
            have hP : va_P D vwCl ([] ++ va_pl L M_76) H_75 := by rw [eM_76]; exact hP
            have hD : va_D A ([] ++ va_pl L M_76) := by rw [eM_76]; exact hD
            have hW : WOM cy K L M_76 := by rw [eM_76]; exact hW.up_36 hc67 ⟨_, rfl, (updP (P := fun z => (z = -1 ∨ ∃ c : Nat, c < 1000 ∧ z = nI c)) hf69 (Or.inl rfl))⟩
            have hF : fr K L [12, 36] M M_76 := by rw [eM_76]; exact hF.up hc67 (by decide)
            have hG : fG K L [16] M M_76 := by rw [eM_76]; exact hG.arr hc67 (by decide)
            have hM_77 : M_76 v67 = .inl (cy 14, 60, .inl (upd f69 ((nI (v2w28 - 1)) : Int32).toNatClampNeg (-1))) := by rw [eM_76]; exact va_up_self _ _ _
            have hM_78 : M_76 oa = .inr (12, fs1) := by rw [eM_76, va_up_ne _ _ (ia.neT hc67 (by decide))]; exact hM_35
            have hf_80 : ∀ j, j < 60 → ((upd f69 ((nI (v2w28 - 1)) : Int32).toNatClampNeg (-1)) j = -1 ∨ ∃ c : Nat, c < 1000 ∧ (upd f69 ((nI (v2w28 - 1)) : Int32).toNatClampNeg (-1)) j = nI c) := (updP (P := fun z => (z = -1 ∨ ∃ c : Nat, c < 1000 ∧ z = nI c)) hf69 (Or.inl rfl))
            obtain ⟨f_79, ef_79⟩ : ∃ f : Nat → Int32, f = upd f69 ((nI (v2w28 - 1)) : Int32).toNatClampNeg (-1) := ⟨_, rfl⟩
            rw [← ef_79] at hM_77 hf_80
            refine lv_iinc (v := (nI (v2w28 + 1))) (lv' := [(2, .int (nI (v2w28 + 1))), (0, .ref oa), (1, .int (-1))]) hx hb dX12_remember_31 hl (k := 0) rfl (nI_1 v2w28) (by decide) rfl (fun ls hl => ?_)
            refine lv_goto (tgt := 11) hx hb dX12_remember_34 (by decide) ?_
            exact ih_26 (v2w28 + 1) (upd gw28 ((nI (v2w28 - 1)) : Int32).toNatClampNeg (-1)) M_76 H_75 _ _ (by omega) hM_78 (by omega) (by omega) (sh1 hx_31 hx_32 (by omega) (nI_cl (by omega)) hgv) (sh2 hx_32 (by omega) (nI_cl (by omega))) hW hF hG (by have h := hV; simp only [va_up_up] at h; exact h) hP hD hS (lv_sub hl [0, 1, 2] rfl)
          · rw [ec_74]
            have hy43 : gw28 = f69 := (congrFun hV.2.2.1 43).symm.trans (ax_of hM_35 (by decide) hv67 hM69)
            have hgv : (nI c_72) = gw28 v2w28 := by rw [show v2w28 = ((nI v2w28) : Int32).toNatClampNeg from (nI_cl (by omega)).symm, hy43]; exact ec_74.symm
            refine pg_iast hx hb hK hP hD hS hc67.1 0 hM69 rfl (inbN (v2w28 - 1) 60 (by omega) (by omega)) dX12_remember_30 (fun H_81 locs hP hD hS => ?_)
            obtain ⟨M_82, eM_82⟩ : ∃ M1 : Hp, M1 = va_up M_33 v67 (.inl (cy 14, 60, .inl (upd f69 ((nI (v2w28 - 1)) : Int32).toNatClampNeg (nI c_72)))) := ⟨_, rfl⟩
            have hy43 : gw28 = f69 := (congrFun hV.2.2.1 43).symm.trans (ax_of hM_35 (by decide) hv67 hM69)
            have hV : VW K L M M_82 oa (fx M oa) (va_up (va_up (ax M oa) 43 gw28) 43 (upd gw28 ((nI (v2w28 - 1)) : Int32).toNatClampNeg (nI c_72))) := by rw [eM_82]; exact hV.ast (j := 43) hW ia hM_35 (by decide) hv67 hc67 hM69
            have hP : va_P D vwCl ([] ++ va_pl L M_82) H_81 := by rw [eM_82]; exact hP
            have hD : va_D A ([] ++ va_pl L M_82) := by rw [eM_82]; exact hD
            have hW : WOM cy K L M_82 := by rw [eM_82]; exact hW.up_36 hc67 ⟨_, rfl, (updP (P := fun z => (z = -1 ∨ ∃ c : Nat, c < 1000 ∧ z = nI c)) hf69 (Or.inr ⟨c_72, by omega, rfl⟩))⟩
            have hF : fr K L [12, 36] M M_82 := by rw [eM_82]; exact hF.up hc67 (by decide)
            have hG : fG K L [16] M M_82 := by rw [eM_82]; exact hG.arr hc67 (by decide)
            have hM_83 : M_82 v67 = .inl (cy 14, 60, .inl (upd f69 ((nI (v2w28 - 1)) : Int32).toNatClampNeg (nI c_72))) := by rw [eM_82]; exact va_up_self _ _ _
            have hM_84 : M_82 oa = .inr (12, fs1) := by rw [eM_82, va_up_ne _ _ (ia.neT hc67 (by decide))]; exact hM_35
            have hf_86 : ∀ j, j < 60 → ((upd f69 ((nI (v2w28 - 1)) : Int32).toNatClampNeg (nI c_72)) j = -1 ∨ ∃ c : Nat, c < 1000 ∧ (upd f69 ((nI (v2w28 - 1)) : Int32).toNatClampNeg (nI c_72)) j = nI c) := (updP (P := fun z => (z = -1 ∨ ∃ c : Nat, c < 1000 ∧ z = nI c)) hf69 (Or.inr ⟨c_72, by omega, rfl⟩))
            obtain ⟨f_85, ef_85⟩ : ∃ f : Nat → Int32, f = upd f69 ((nI (v2w28 - 1)) : Int32).toNatClampNeg (nI c_72) := ⟨_, rfl⟩
            rw [← ef_85] at hM_83 hf_86
            refine lv_iinc (v := (nI (v2w28 + 1))) (lv' := [(2, .int (nI (v2w28 + 1))), (0, .ref oa), (1, .int (-1))]) hx hb dX12_remember_31 hl (k := 0) rfl (nI_1 v2w28) (by decide) rfl (fun ls hl => ?_)
            refine lv_goto (tgt := 11) hx hb dX12_remember_34 (by decide) ?_
            exact ih_26 (v2w28 + 1) (upd gw28 ((nI (v2w28 - 1)) : Int32).toNatClampNeg (nI c_72)) M_82 H_81 _ _ (by omega) hM_84 (by omega) (by omega) (sh1 hx_31 hx_32 (by omega) (nI_cl (by omega)) hgv) (sh2 hx_32 (by omega) (nI_cl (by omega))) hW hF hG (by have h := hV; simp only [va_up_up] at h; exact h) hP hD hS (lv_sub hl [0, 1, 2] rfl)
    exact key_25 (60 - 1 + 1) 1 (ax M oa 43) M s.heap _ _ (by omega) hM1 (by omega) (by omega) (fun i h => absurd h (by omega)) (fun _ _ => rfl) hW hF hG (by rw [va_up_id]; exact hV) hP hD hS (lv_sub hl [0, 1, 2] rfl)
