theorem dX13_house_0 : decode cX13_house 0 = .ok (.aload_n 0, 1) := by decide +kernel
theorem dX13_house_1 : decode cX13_house 1 = .ok (.iconst 0, 1) := by decide +kernel
theorem dX13_house_2 : decode cX13_house 2 = .ok (.putfield 55, 3) := by decide +kernel
theorem dX13_house_5 : decode cX13_house 5 = .ok (.iload_n 1, 1) := by decide +kernel
theorem dX13_house_6 : decode cX13_house 6 = .ok (.ifCond .lt 10, 3) := by decide +kernel
theorem dX13_house_9 : decode cX13_house 9 = .ok (.iload_n 1, 1) := by decide +kernel
theorem dX13_house_10 : decode cX13_house 10 = .ok (.sipush 900, 3) := by decide +kernel
theorem dX13_house_13 : decode cX13_house 13 = .ok (.if_icmp .le 9, 3) := by decide +kernel
theorem dX13_house_16 : decode cX13_house 16 = .ok (.aload_n 0, 1) := by decide +kernel
theorem dX13_house_17 : decode cX13_house 17 = .ok (.iconst 2, 1) := by decide +kernel
theorem dX13_house_18 : decode cX13_house 18 = .ok (.invokevirtual 73, 3) := by decide +kernel
theorem dX13_house_21 : decode cX13_house 21 = .ok (.ireturn, 1) := by decide +kernel
theorem dX13_house_22 : decode cX13_house 22 = .ok (.aload_n 0, 1) := by decide +kernel
theorem dX13_house_23 : decode cX13_house 23 = .ok (.getfield 61, 3) := by decide +kernel
theorem dX13_house_26 : decode cX13_house 26 = .ok (.bipush 8, 2) := by decide +kernel
theorem dX13_house_28 : decode cX13_house 28 = .ok (.if_icmp .ne 10, 3) := by decide +kernel
theorem dX13_house_31 : decode cX13_house 31 = .ok (.aload_n 0, 1) := by decide +kernel
theorem dX13_house_32 : decode cX13_house 32 = .ok (.bipush 9, 2) := by decide +kernel
theorem dX13_house_34 : decode cX13_house 34 = .ok (.invokevirtual 73, 3) := by decide +kernel
theorem dX13_house_37 : decode cX13_house 37 = .ok (.ireturn, 1) := by decide +kernel
theorem dX13_house_38 : decode cX13_house 38 = .ok (.aload_n 0, 1) := by decide +kernel
theorem dX13_house_39 : decode cX13_house 39 = .ok (.getfield 12, 3) := by decide +kernel
theorem dX13_house_42 : decode cX13_house 42 = .ok (.aload_n 0, 1) := by decide +kernel
theorem dX13_house_43 : decode cX13_house 43 = .ok (.getfield 61, 3) := by decide +kernel
theorem dX13_house_46 : decode cX13_house 46 = .ok (.aaload, 1) := by decide +kernel
theorem dX13_house_47 : decode cX13_house 47 = .ok (.astore_n 2, 1) := by decide +kernel
theorem dX13_house_48 : decode cX13_house 48 = .ok (.aload_n 2, 1) := by decide +kernel
theorem dX13_house_49 : decode cX13_house 49 = .ok (.iload_n 1, 1) := by decide +kernel
theorem dX13_house_50 : decode cX13_house 50 = .ok (.putfield 77, 3) := by decide +kernel
theorem dX13_house_53 : decode cX13_house 53 = .ok (.aload_n 2, 1) := by decide +kernel
theorem dX13_house_54 : decode cX13_house 54 = .ok (.iload_n 1, 1) := by decide +kernel
theorem dX13_house_55 : decode cX13_house 55 = .ok (.iconst 1, 1) := by decide +kernel
theorem dX13_house_56 : decode cX13_house 56 = .ok (.isub, 1) := by decide +kernel
theorem dX13_house_57 : decode cX13_house 57 = .ok (.putfield 80, 3) := by decide +kernel
theorem dX13_house_60 : decode cX13_house 60 = .ok (.iconst 0, 1) := by decide +kernel
theorem dX13_house_61 : decode cX13_house 61 = .ok (.istore_n 3, 1) := by decide +kernel
theorem dX13_house_62 : decode cX13_house 62 = .ok (.iload_n 3, 1) := by decide +kernel
theorem dX13_house_63 : decode cX13_house 63 = .ok (.sipush 1000, 3) := by decide +kernel
theorem dX13_house_66 : decode cX13_house 66 = .ok (.if_icmp .ge 16, 3) := by decide +kernel
theorem dX13_house_69 : decode cX13_house 69 = .ok (.aload_n 2, 1) := by decide +kernel
theorem dX13_house_70 : decode cX13_house 70 = .ok (.getfield 83, 3) := by decide +kernel
theorem dX13_house_73 : decode cX13_house 73 = .ok (.iload_n 3, 1) := by decide +kernel
theorem dX13_house_74 : decode cX13_house 74 = .ok (.iconst (-1), 1) := by decide +kernel
theorem dX13_house_75 : decode cX13_house 75 = .ok (.iastore, 1) := by decide +kernel
theorem dX13_house_76 : decode cX13_house 76 = .ok (.iinc 3 1, 3) := by decide +kernel
theorem dX13_house_79 : decode cX13_house 79 = .ok (.goto (-17), 3) := by decide +kernel
theorem dX13_house_82 : decode cX13_house 82 = .ok (.aload_n 0, 1) := by decide +kernel
theorem dX13_house_83 : decode cX13_house 83 = .ok (.dup, 1) := by decide +kernel
theorem dX13_house_84 : decode cX13_house 84 = .ok (.getfield 61, 3) := by decide +kernel
theorem dX13_house_87 : decode cX13_house 87 = .ok (.iconst 1, 1) := by decide +kernel
theorem dX13_house_88 : decode cX13_house 88 = .ok (.iadd, 1) := by decide +kernel
theorem dX13_house_89 : decode cX13_house 89 = .ok (.putfield 61, 3) := by decide +kernel
theorem dX13_house_92 : decode cX13_house 92 = .ok (.aload_n 0, 1) := by decide +kernel
theorem dX13_house_93 : decode cX13_house 93 = .ok (.aload_n 0, 1) := by decide +kernel
theorem dX13_house_94 : decode cX13_house 94 = .ok (.getfield 61, 3) := by decide +kernel
theorem dX13_house_97 : decode cX13_house 97 = .ok (.iconst 1, 1) := by decide +kernel
theorem dX13_house_98 : decode cX13_house 98 = .ok (.isub, 1) := by decide +kernel
theorem dX13_house_99 : decode cX13_house 99 = .ok (.invokevirtual 86, 3) := by decide +kernel
theorem dX13_house_102 : decode cX13_house 102 = .ok (.ireturn, 1) := by decide +kernel
/-- what a new rule's row holds -/
def trm (y : Nat → Int32) (r i : Nat) : Int32 := if r = 0 then 0 else y (24 * (r - 1) + i)
theorem trm1 {g y : Nat → Int32} {k n r : Nat} {v : Int32} (h : ∀ i : Nat, i < 24 * r → g i = y i) (hk : k = 24 * r + n) : ∀ i : Nat, i < 24 * r → upd g k v i = y i := fun i hi => by
  rw [upd_ne _ _ (show i ≠ k by omega)]
  exact h i hi
theorem trm2 {g y : Nat → Int32} {k n r : Nat} {v : Int32} (h : ∀ i : Nat, i < n → g (24 * r + i) = trm y r i) (hk : k = 24 * r + n) (hv : v = trm y r n) : ∀ i : Nat, i < n + 1 → upd g k v (24 * r + i) = trm y r i := fun i hi => by
  by_cases z : i = n
  · rw [z, hk, upd_self]
    exact hv
  · rw [upd_ne _ _ (by omega)]
    exact h i (by omega)
/-- a partner that is a House names one -/
def R5 (z6 z7 : Nat) (M : Hp) : Prop := ∀ p, p < 40 → IFc (M z6) p = 5 → ∃ j : Nat, j < 8 ∧ IFc (M z7) p = nI j
theorem R5.mv {K : Kp} {L ts : List Nat} {z6 z7 : Nat} {M M1 : Hp} (h : R5 z6 z7 M) (i6 : isk K L z6 47 40) (i7 : isk K L z7 48 40) (hF : fr K L ts M M1) (h1 : 47 ∉ ts) (h2 : 48 ∉ ts) : R5 z6 z7 M1 := by
  unfold R5
  rw [hF.at i6 h1, hF.at i7 h2]
  exact h
theorem R5.put {z6 z7 k n6 n7 : Nat} {c6 c7 : ClassId} {f6 f7 : Nat → Int32} {v w : Int32} {M M1 : Hp} (h : R5 z6 z7 M) (e6 : M z6 = .inl (c6, n6, .inl f6)) (e7 : M z7 = .inl (c7, n7, .inl f7)) (g6 : M1 z6 = .inl (c6, n6, .inl (upd f6 k v))) (g7 : M1 z7 = .inl (c7, n7, .inl (upd f7 k w))) (hv : v = 5 → ∃ j : Nat, j < 8 ∧ w = nI j) : R5 z6 z7 M1 := fun p hp q => by
  have h0 := h p hp
  rw [e6, e7] at h0
  rw [g6] at q
  rw [g7]
  show ∃ j : Nat, j < 8 ∧ upd f7 k w p = nI j
  have q : upd f6 k v p = 5 := q
  by_cases z : p = k
  · subst z
    rw [upd_self] at q ⊢
    exact hv q
  · rw [upd_ne _ _ z] at q ⊢
    exact h0 q
theorem i8n {x : Int32} {z : Nat} (hz : z ≤ 8) (h0 : ¬ x < 0) (h1 : ¬ nI z ≤ x) : ∃ j : Nat, j < 8 ∧ x = nI j := by
  obtain ⟨j, hj, e⟩ := i32nat z (by omega) h0 h1
  exact ⟨j, by omega, e⟩
