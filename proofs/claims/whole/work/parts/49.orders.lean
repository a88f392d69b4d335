/-! ===== own: the reference: nextOrder ===== -/
theorem dX7_nextOrder_0 : decode cX7_nextOrder 0 = .ok (.aload_n 0, 1) := by decide +kernel
theorem dX7_nextOrder_1 : decode cX7_nextOrder 1 = .ok (.getfield 89, 3) := by decide +kernel
theorem dX7_nextOrder_4 : decode cX7_nextOrder 4 = .ok (.iconst 2, 1) := by decide +kernel
theorem dX7_nextOrder_5 : decode cX7_nextOrder 5 = .ok (.isub, 1) := by decide +kernel
theorem dX7_nextOrder_6 : decode cX7_nextOrder 6 = .ok (.istore_n 1, 1) := by decide +kernel
theorem dX7_nextOrder_7 : decode cX7_nextOrder 7 = .ok (.iload_n 1, 1) := by decide +kernel
theorem dX7_nextOrder_8 : decode cX7_nextOrder 8 = .ok (.ifCond .lt 26, 3) := by decide +kernel
theorem dX7_nextOrder_11 : decode cX7_nextOrder 11 = .ok (.aload_n 0, 1) := by decide +kernel
theorem dX7_nextOrder_12 : decode cX7_nextOrder 12 = .ok (.getfield 43, 3) := by decide +kernel
theorem dX7_nextOrder_15 : decode cX7_nextOrder 15 = .ok (.iload_n 1, 1) := by decide +kernel
theorem dX7_nextOrder_16 : decode cX7_nextOrder 16 = .ok (.iaload, 1) := by decide +kernel
theorem dX7_nextOrder_17 : decode cX7_nextOrder 17 = .ok (.aload_n 0, 1) := by decide +kernel
theorem dX7_nextOrder_18 : decode cX7_nextOrder 18 = .ok (.getfield 43, 3) := by decide +kernel
theorem dX7_nextOrder_21 : decode cX7_nextOrder 21 = .ok (.iload_n 1, 1) := by decide +kernel
theorem dX7_nextOrder_22 : decode cX7_nextOrder 22 = .ok (.iconst 1, 1) := by decide +kernel
theorem dX7_nextOrder_23 : decode cX7_nextOrder 23 = .ok (.iadd, 1) := by decide +kernel
theorem dX7_nextOrder_24 : decode cX7_nextOrder 24 = .ok (.iaload, 1) := by decide +kernel
theorem dX7_nextOrder_25 : decode cX7_nextOrder 25 = .ok (.if_icmp .le 9, 3) := by decide +kernel
theorem dX7_nextOrder_28 : decode cX7_nextOrder 28 = .ok (.iinc 1 (-1), 3) := by decide +kernel
theorem dX7_nextOrder_31 : decode cX7_nextOrder 31 = .ok (.goto (-24), 3) := by decide +kernel
theorem dX7_nextOrder_34 : decode cX7_nextOrder 34 = .ok (.iload_n 1, 1) := by decide +kernel
theorem dX7_nextOrder_35 : decode cX7_nextOrder 35 = .ok (.ifCond .ge 5, 3) := by decide +kernel
theorem dX7_nextOrder_38 : decode cX7_nextOrder 38 = .ok (.iconst 0, 1) := by decide +kernel
theorem dX7_nextOrder_39 : decode cX7_nextOrder 39 = .ok (.ireturn, 1) := by decide +kernel
theorem dX7_nextOrder_40 : decode cX7_nextOrder 40 = .ok (.aload_n 0, 1) := by decide +kernel
theorem dX7_nextOrder_41 : decode cX7_nextOrder 41 = .ok (.getfield 89, 3) := by decide +kernel
theorem dX7_nextOrder_44 : decode cX7_nextOrder 44 = .ok (.iconst 1, 1) := by decide +kernel
theorem dX7_nextOrder_45 : decode cX7_nextOrder 45 = .ok (.isub, 1) := by decide +kernel
theorem dX7_nextOrder_46 : decode cX7_nextOrder 46 = .ok (.istore_n 2, 1) := by decide +kernel
theorem dX7_nextOrder_47 : decode cX7_nextOrder 47 = .ok (.aload_n 0, 1) := by decide +kernel
theorem dX7_nextOrder_48 : decode cX7_nextOrder 48 = .ok (.getfield 43, 3) := by decide +kernel
theorem dX7_nextOrder_51 : decode cX7_nextOrder 51 = .ok (.iload_n 2, 1) := by decide +kernel
theorem dX7_nextOrder_52 : decode cX7_nextOrder 52 = .ok (.iaload, 1) := by decide +kernel
theorem dX7_nextOrder_53 : decode cX7_nextOrder 53 = .ok (.aload_n 0, 1) := by decide +kernel
theorem dX7_nextOrder_54 : decode cX7_nextOrder 54 = .ok (.getfield 43, 3) := by decide +kernel
theorem dX7_nextOrder_57 : decode cX7_nextOrder 57 = .ok (.iload_n 1, 1) := by decide +kernel
theorem dX7_nextOrder_58 : decode cX7_nextOrder 58 = .ok (.iaload, 1) := by decide +kernel
theorem dX7_nextOrder_59 : decode cX7_nextOrder 59 = .ok (.if_icmp .ge 9, 3) := by decide +kernel
theorem dX7_nextOrder_62 : decode cX7_nextOrder 62 = .ok (.iinc 2 (-1), 3) := by decide +kernel
theorem dX7_nextOrder_65 : decode cX7_nextOrder 65 = .ok (.goto (-18), 3) := by decide +kernel
theorem dX7_nextOrder_68 : decode cX7_nextOrder 68 = .ok (.aload_n 0, 1) := by decide +kernel
theorem dX7_nextOrder_69 : decode cX7_nextOrder 69 = .ok (.getfield 43, 3) := by decide +kernel
theorem dX7_nextOrder_72 : decode cX7_nextOrder 72 = .ok (.iload_n 1, 1) := by decide +kernel
theorem dX7_nextOrder_73 : decode cX7_nextOrder 73 = .ok (.iaload, 1) := by decide +kernel
theorem dX7_nextOrder_74 : decode cX7_nextOrder 74 = .ok (.istore_n 3, 1) := by decide +kernel
theorem dX7_nextOrder_75 : decode cX7_nextOrder 75 = .ok (.aload_n 0, 1) := by decide +kernel
theorem dX7_nextOrder_76 : decode cX7_nextOrder 76 = .ok (.getfield 43, 3) := by decide +kernel
theorem dX7_nextOrder_79 : decode cX7_nextOrder 79 = .ok (.iload_n 1, 1) := by decide +kernel
theorem dX7_nextOrder_80 : decode cX7_nextOrder 80 = .ok (.aload_n 0, 1) := by decide +kernel
theorem dX7_nextOrder_81 : decode cX7_nextOrder 81 = .ok (.getfield 43, 3) := by decide +kernel
theorem dX7_nextOrder_84 : decode cX7_nextOrder 84 = .ok (.iload_n 2, 1) := by decide +kernel
theorem dX7_nextOrder_85 : decode cX7_nextOrder 85 = .ok (.iaload, 1) := by decide +kernel
theorem dX7_nextOrder_86 : decode cX7_nextOrder 86 = .ok (.iastore, 1) := by decide +kernel
theorem dX7_nextOrder_87 : decode cX7_nextOrder 87 = .ok (.aload_n 0, 1) := by decide +kernel
theorem dX7_nextOrder_88 : decode cX7_nextOrder 88 = .ok (.getfield 43, 3) := by decide +kernel
theorem dX7_nextOrder_91 : decode cX7_nextOrder 91 = .ok (.iload_n 2, 1) := by decide +kernel
theorem dX7_nextOrder_92 : decode cX7_nextOrder 92 = .ok (.iload_n 3, 1) := by decide +kernel
theorem dX7_nextOrder_93 : decode cX7_nextOrder 93 = .ok (.iastore, 1) := by decide +kernel
theorem dX7_nextOrder_94 : decode cX7_nextOrder 94 = .ok (.aload_n 0, 1) := by decide +kernel
theorem dX7_nextOrder_95 : decode cX7_nextOrder 95 = .ok (.getfield 89, 3) := by decide +kernel
theorem dX7_nextOrder_98 : decode cX7_nextOrder 98 = .ok (.iconst 1, 1) := by decide +kernel
theorem dX7_nextOrder_99 : decode cX7_nextOrder 99 = .ok (.isub, 1) := by decide +kernel
theorem dX7_nextOrder_100 : decode cX7_nextOrder 100 = .ok (.istore 4, 2) := by decide +kernel
theorem dX7_nextOrder_102 : decode cX7_nextOrder 102 = .ok (.iload_n 1, 1) := by decide +kernel
theorem dX7_nextOrder_103 : decode cX7_nextOrder 103 = .ok (.iconst 1, 1) := by decide +kernel
theorem dX7_nextOrder_104 : decode cX7_nextOrder 104 = .ok (.iadd, 1) := by decide +kernel
theorem dX7_nextOrder_105 : decode cX7_nextOrder 105 = .ok (.istore 5, 2) := by decide +kernel
theorem dX7_nextOrder_107 : decode cX7_nextOrder 107 = .ok (.iload 5, 2) := by decide +kernel
theorem dX7_nextOrder_109 : decode cX7_nextOrder 109 = .ok (.iload 4, 2) := by decide +kernel
theorem dX7_nextOrder_111 : decode cX7_nextOrder 111 = .ok (.if_icmp .ge 42, 3) := by decide +kernel
theorem dX7_nextOrder_114 : decode cX7_nextOrder 114 = .ok (.aload_n 0, 1) := by decide +kernel
theorem dX7_nextOrder_115 : decode cX7_nextOrder 115 = .ok (.getfield 43, 3) := by decide +kernel
theorem dX7_nextOrder_118 : decode cX7_nextOrder 118 = .ok (.iload 5, 2) := by decide +kernel
theorem dX7_nextOrder_120 : decode cX7_nextOrder 120 = .ok (.iaload, 1) := by decide +kernel
theorem dX7_nextOrder_121 : decode cX7_nextOrder 121 = .ok (.istore_n 3, 1) := by decide +kernel
theorem dX7_nextOrder_122 : decode cX7_nextOrder 122 = .ok (.aload_n 0, 1) := by decide +kernel
theorem dX7_nextOrder_123 : decode cX7_nextOrder 123 = .ok (.getfield 43, 3) := by decide +kernel
theorem dX7_nextOrder_126 : decode cX7_nextOrder 126 = .ok (.iload 5, 2) := by decide +kernel
theorem dX7_nextOrder_128 : decode cX7_nextOrder 128 = .ok (.aload_n 0, 1) := by decide +kernel
theorem dX7_nextOrder_129 : decode cX7_nextOrder 129 = .ok (.getfield 43, 3) := by decide +kernel
theorem dX7_nextOrder_132 : decode cX7_nextOrder 132 = .ok (.iload 4, 2) := by decide +kernel
theorem dX7_nextOrder_134 : decode cX7_nextOrder 134 = .ok (.iaload, 1) := by decide +kernel
theorem dX7_nextOrder_135 : decode cX7_nextOrder 135 = .ok (.iastore, 1) := by decide +kernel
theorem dX7_nextOrder_136 : decode cX7_nextOrder 136 = .ok (.aload_n 0, 1) := by decide +kernel
theorem dX7_nextOrder_137 : decode cX7_nextOrder 137 = .ok (.getfield 43, 3) := by decide +kernel
theorem dX7_nextOrder_140 : decode cX7_nextOrder 140 = .ok (.iload 4, 2) := by decide +kernel
theorem dX7_nextOrder_142 : decode cX7_nextOrder 142 = .ok (.iload_n 3, 1) := by decide +kernel
theorem dX7_nextOrder_143 : decode cX7_nextOrder 143 = .ok (.iastore, 1) := by decide +kernel
theorem dX7_nextOrder_144 : decode cX7_nextOrder 144 = .ok (.iinc 4 (-1), 3) := by decide +kernel
theorem dX7_nextOrder_147 : decode cX7_nextOrder 147 = .ok (.iinc 5 1, 3) := by decide +kernel
theorem dX7_nextOrder_150 : decode cX7_nextOrder 150 = .ok (.goto (-43), 3) := by decide +kernel
theorem dX7_nextOrder_153 : decode cX7_nextOrder 153 = .ok (.iconst 1, 1) := by decide +kernel
theorem dX7_nextOrder_154 : decode cX7_nextOrder 154 = .ok (.ireturn, 1) := by decide +kernel
theorem l_X7_nx107 {d : List Nat} {T : vT} {M : vM} {i j : Int} (hB : vB T) : ∀ (k : Nat) (g : Int → Int) (l r : Int) (x3 : Option vA), 0 ≤ l → l ≤ 9 → r ≤ 5 → -5 ≤ r → r - l ≤ 2 * k →
    vV m_X7_nextOrder d d (vPi fun y T1 M1 => y = 1 ∧ T = T1 ∧ M1 = vRow M 227 (nRv k g l r)) 107 [some (vR 200), some (vI i), some (vI j), x3, some (vI r), some (vI l)] [] d T (vRow M 227 g) := by
  intro k
  induction k with
  | zero =>
    intro g l r x3 h1 h1' h2 h2' h3
    refine vV.iload dX7_nextOrder_107 rfl ?_
    refine vV.iload dX7_nextOrder_109 rfl ?_
    refine vV.icmp_ge (tgt := 153) dX7_nextOrder_111 (by decide) (fun h111 => ?_) (fun h111 => ?_)
    · skip
      refine vV.iconst dX7_nextOrder_153 (by decide) ?_
      refine vV.rz dX7_nextOrder_154 rfl (by first | exact Or.inl rfl | exact Or.inr rfl | assumption) ?_
      exact ⟨rfl, rfl, rfl⟩
    · skip
      omega
  | succ k ih =>
    intro g l r x3 h1 h1' h2 h2' h3
    refine vV.iload dX7_nextOrder_107 rfl ?_
    refine vV.iload dX7_nextOrder_109 rfl ?_
    refine vV.icmp_ge (tgt := 153) dX7_nextOrder_111 (by decide) (fun h111 => ?_) (fun h111 => ?_)
    · skip
      refine vV.iconst dX7_nextOrder_153 (by decide) ?_
      refine vV.rz dX7_nextOrder_154 rfl (by first | exact Or.inl rfl | exact Or.inr rfl | assumption) ?_
      rw [nRv_f (by omega)]; exact ⟨rfl, rfl, rfl⟩
    · skip
      rw [nRv_t (by omega)]
      refine vV.aload_n dX7_nextOrder_114 rfl ?_
      refine vV.getr dX7_nextOrder_115 fl_X7_43 (by first | rfl | assumption) rfl (by first | assumption | exact hB _ _ _ rfl) ?_
      refine vV.iload dX7_nextOrder_118 rfl ?_
      refine vV.iald dX7_nextOrder_120 (by first | rfl | assumption) (by omega) (by omega) ?_
      refine vV.istore_n (L' := [_, _, _, _, _, _]) dX7_nextOrder_121 (by decide) rfl ?_
      refine vV.aload_n dX7_nextOrder_122 rfl ?_
      refine vV.getr dX7_nextOrder_123 fl_X7_43 (by first | rfl | assumption) rfl (by first | assumption | exact hB _ _ _ rfl) ?_
      refine vV.iload dX7_nextOrder_126 rfl ?_
      refine vV.aload_n dX7_nextOrder_128 rfl ?_
      refine vV.getr dX7_nextOrder_129 fl_X7_43 (by first | rfl | assumption) rfl (by first | assumption | exact hB _ _ _ rfl) ?_
      refine vV.iload dX7_nextOrder_132 rfl ?_
      refine vV.iald dX7_nextOrder_134 (by first | rfl | assumption) (by omega) (by omega) ?_
      refine vV.iast dX7_nextOrder_135 (by first | rfl | assumption) (by omega) (by omega) ?_
      refine vV.aload_n dX7_nextOrder_136 rfl ?_
      refine vV.getr dX7_nextOrder_137 fl_X7_43 (by first | rfl | assumption) rfl (by first | assumption | exact hB _ _ _ rfl) ?_
      refine vV.iload dX7_nextOrder_140 rfl ?_
      refine vV.iload_n dX7_nextOrder_142 rfl ?_
      refine vV.iast dX7_nextOrder_143 (by first | rfl | assumption) (by omega) (by omega) ?_
      rw [vUpd_sw, vRow_s, vRow_vRow]
      refine vV.iinc (L' := [_, _, _, _, _, _]) dX7_nextOrder_144 (by decide) rfl (⟨by omega, by omega⟩) rfl ?_
      refine vV.iinc (L' := [_, _, _, _, _, _]) dX7_nextOrder_147 (by decide) rfl (⟨by omega, by omega⟩) rfl ?_
      refine vV.goto (tgt := 107) dX7_nextOrder_150 (by decide) ?_
      exact ih _ _ _ _ (by omega) (by omega) (by omega) (by omega) (by omega)
theorem l_X7_nx47 {d : List Nat} {T : vT} {M : vM} {n i : Nat} {x3 x4 x5 : Option vA} (hB : vB T) (hc : M 200 4 = n) (hi : i < n) (hn : n ≤ 6) : ∀ j : Nat, i ≤ j → j < n →
    vV m_X7_nextOrder d d (vPi fun y T1 M1 => y = 1 ∧ T = T1 ∧ M1 = vRow M 227 (nRv 3 (fSw (M 227) i (nLst (M 227) i j)) (i + 1) (n - 1))) 47 [some (vR 200), some (vI i), some (vI j), x3, x4, x5] [] d T M := by
  intro j
  induction j with
  | zero =>
    intro h1 h2
    obtain rfl : i = 0 := by omega
    have e : nLst (M 227) 0 0 = 0 := rfl
    rw [e]
    refine vV.aload_n dX7_nextOrder_47 rfl ?_
    refine vV.getr dX7_nextOrder_48 fl_X7_43 (by first | rfl | assumption) rfl (by first | assumption | exact hB _ _ _ rfl) ?_
    refine vV.iload_n dX7_nextOrder_51 rfl ?_
    refine vV.iald dX7_nextOrder_52 (by first | rfl | assumption) (by omega) (by omega) ?_
    refine vV.aload_n dX7_nextOrder_53 rfl ?_
    refine vV.getr dX7_nextOrder_54 fl_X7_43 (by first | rfl | assumption) rfl (by first | assumption | exact hB _ _ _ rfl) ?_
    refine vV.iload_n dX7_nextOrder_57 rfl ?_
    refine vV.iald dX7_nextOrder_58 (by first | rfl | assumption) (by omega) (by omega) ?_
    refine vV.icmp_ge (tgt := 68) dX7_nextOrder_59 (by decide) (fun h59 => ?_) (fun h59 => ?_)
    · skip
      refine vV.aload_n dX7_nextOrder_68 rfl ?_
      refine vV.getr dX7_nextOrder_69 fl_X7_43 (by first | rfl | assumption) rfl (by first | assumption | exact hB _ _ _ rfl) ?_
      refine vV.iload_n dX7_nextOrder_72 rfl ?_
      refine vV.iald dX7_nextOrder_73 (by first | rfl | assumption) (by omega) (by omega) ?_
      refine vV.istore_n (L' := [_, _, _, _, _, _]) dX7_nextOrder_74 (by decide) rfl ?_
      refine vV.aload_n dX7_nextOrder_75 rfl ?_
      refine vV.getr dX7_nextOrder_76 fl_X7_43 (by first | rfl | assumption) rfl (by first | assumption | exact hB _ _ _ rfl) ?_
      refine vV.iload_n dX7_nextOrder_79 rfl ?_
      refine vV.aload_n dX7_nextOrder_80 rfl ?_
      refine vV.getr dX7_nextOrder_81 fl_X7_43 (by first | rfl | assumption) rfl (by first | assumption | exact hB _ _ _ rfl) ?_
      refine vV.iload_n dX7_nextOrder_84 rfl ?_
      refine vV.iald dX7_nextOrder_85 (by first | rfl | assumption) (by omega) (by omega) ?_
      refine vV.iast dX7_nextOrder_86 (by first | rfl | assumption) (by omega) (by omega) ?_
      refine vV.aload_n dX7_nextOrder_87 rfl ?_
      refine vV.getr dX7_nextOrder_88 fl_X7_43 (by first | rfl | assumption) rfl (by first | assumption | exact hB _ _ _ rfl) ?_
      refine vV.iload_n dX7_nextOrder_91 rfl ?_
      refine vV.iload_n dX7_nextOrder_92 rfl ?_
      refine vV.iast dX7_nextOrder_93 (by first | rfl | assumption) (by omega) (by omega) ?_
      rw [vUpd_sw]
      refine vV.aload_n dX7_nextOrder_94 rfl ?_
      refine vV.geti (z := 4) dX7_nextOrder_95 fl_X7_89 (by first | rfl | assumption) rfl rfl ?_
      rw [vRow_n (by decide), hc]
      refine vV.iconst dX7_nextOrder_98 (by decide) ?_
      refine vV.isub dX7_nextOrder_99 (⟨by omega, by omega⟩) ?_
      refine vV.istore (L' := [_, _, _, _, _, _]) dX7_nextOrder_100 (by decide) rfl ?_
      refine vV.iload_n dX7_nextOrder_102 rfl ?_
      refine vV.iconst dX7_nextOrder_103 (by decide) ?_
      refine vV.iadd dX7_nextOrder_104 (⟨by omega, by omega⟩) ?_
      refine vV.istore (L' := [_, _, _, _, _, _]) dX7_nextOrder_105 (by decide) rfl ?_
      exact l_X7_nx107 hB 3 _ _ _ _ (by omega) (by omega) (by omega) (by omega) (by omega)
    · skip
      omega
  | succ j ih =>
    intro h1 h2
    refine vV.aload_n dX7_nextOrder_47 rfl ?_
    refine vV.getr dX7_nextOrder_48 fl_X7_43 (by first | rfl | assumption) rfl (by first | assumption | exact hB _ _ _ rfl) ?_
    refine vV.iload_n dX7_nextOrder_51 rfl ?_
    refine vV.iald dX7_nextOrder_52 (by first | rfl | assumption) (by omega) (by omega) ?_
    refine vV.aload_n dX7_nextOrder_53 rfl ?_
    refine vV.getr dX7_nextOrder_54 fl_X7_43 (by first | rfl | assumption) rfl (by first | assumption | exact hB _ _ _ rfl) ?_
    refine vV.iload_n dX7_nextOrder_57 rfl ?_
    refine vV.iald dX7_nextOrder_58 (by first | rfl | assumption) (by omega) (by omega) ?_
    refine vV.icmp_ge (tgt := 68) dX7_nextOrder_59 (by decide) (fun h59 => ?_) (fun h59 => ?_)
    · skip
      rw [nLst_f (j := j + 1) (by omega)]
      refine vV.aload_n dX7_nextOrder_68 rfl ?_
      refine vV.getr dX7_nextOrder_69 fl_X7_43 (by first | rfl | assumption) rfl (by first | assumption | exact hB _ _ _ rfl) ?_
      refine vV.iload_n dX7_nextOrder_72 rfl ?_
      refine vV.iald dX7_nextOrder_73 (by first | rfl | assumption) (by omega) (by omega) ?_
      refine vV.istore_n (L' := [_, _, _, _, _, _]) dX7_nextOrder_74 (by decide) rfl ?_
      refine vV.aload_n dX7_nextOrder_75 rfl ?_
      refine vV.getr dX7_nextOrder_76 fl_X7_43 (by first | rfl | assumption) rfl (by first | assumption | exact hB _ _ _ rfl) ?_
      refine vV.iload_n dX7_nextOrder_79 rfl ?_
      refine vV.aload_n dX7_nextOrder_80 rfl ?_
      refine vV.getr dX7_nextOrder_81 fl_X7_43 (by first | rfl | assumption) rfl (by first | assumption | exact hB _ _ _ rfl) ?_
      refine vV.iload_n dX7_nextOrder_84 rfl ?_
      refine vV.iald dX7_nextOrder_85 (by first | rfl | assumption) (by omega) (by omega) ?_
      refine vV.iast dX7_nextOrder_86 (by first | rfl | assumption) (by omega) (by omega) ?_
      refine vV.aload_n dX7_nextOrder_87 rfl ?_
      refine vV.getr dX7_nextOrder_88 fl_X7_43 (by first | rfl | assumption) rfl (by first | assumption | exact hB _ _ _ rfl) ?_
      refine vV.iload_n dX7_nextOrder_91 rfl ?_
      refine vV.iload_n dX7_nextOrder_92 rfl ?_
      refine vV.iast dX7_nextOrder_93 (by first | rfl | assumption) (by omega) (by omega) ?_
      rw [vUpd_sw]
      refine vV.aload_n dX7_nextOrder_94 rfl ?_
      refine vV.geti (z := 4) dX7_nextOrder_95 fl_X7_89 (by first | rfl | assumption) rfl rfl ?_
      rw [vRow_n (by decide), hc]
      refine vV.iconst dX7_nextOrder_98 (by decide) ?_
      refine vV.isub dX7_nextOrder_99 (⟨by omega, by omega⟩) ?_
      refine vV.istore (L' := [_, _, _, _, _, _]) dX7_nextOrder_100 (by decide) rfl ?_
      refine vV.iload_n dX7_nextOrder_102 rfl ?_
      refine vV.iconst dX7_nextOrder_103 (by decide) ?_
      refine vV.iadd dX7_nextOrder_104 (⟨by omega, by omega⟩) ?_
      refine vV.istore (L' := [_, _, _, _, _, _]) dX7_nextOrder_105 (by decide) rfl ?_
      exact l_X7_nx107 hB 3 _ _ _ _ (by omega) (by omega) (by omega) (by omega) (by omega)
    · skip
      have hij : i < j + 1 := (Nat.lt_or_ge i (j + 1)).resolve_right (fun z => absurd h59 (by rw [show ((j + 1 : Nat) : Int) = i by omega]; omega))
      rw [nLst_t hij h59]
      have e9 : ((j + 1 : Nat) : Int) + -1 = j := by omega
      refine vV.iinc (L' := [_, _, _, _, _, _]) dX7_nextOrder_62 (by decide) rfl (⟨by omega, by omega⟩) rfl ?_
      rw [e9]
      refine vV.goto (tgt := 47) dX7_nextOrder_65 (by decide) ?_
      exact ih (by omega) (by omega)
theorem l_X7_nx7 {d : List Nat} {T : vT} {M : vM} {n : Nat} {x3 x4 x5 x2 : Option vA} (hB : vB T) (hc : M 200 4 = n) (hn : n ≤ 6) : ∀ (k : Nat) (i : Int), i = k - 1 → k < n →
    vV m_X7_nextOrder d d (vPi fun y T1 M1 => T = T1 ∧ nQ M M1 227 y ((nDes (M 227) k).map (nTo n (M 227)))) 7 [some (vR 200), some (vI i), x2, x3, x4, x5] [] d T M := by
  intro k
  induction k with
  | zero =>
    intro i h1 h2
    have e : nDes (M 227) 0 = none := rfl
    rw [e]
    refine vV.iload_n dX7_nextOrder_7 rfl ?_
    refine vV.if_lt (tgt := 34) dX7_nextOrder_8 (by decide) (fun h8 => ?_) (fun h8 => ?_)
    · skip
      refine vV.iload_n dX7_nextOrder_34 rfl ?_
      refine vV.if_ge (tgt := 40) dX7_nextOrder_35 (by decide) (fun h35 => ?_) (fun h35 => ?_)
      · skip
        omega
      · skip
        refine vV.iconst dX7_nextOrder_38 (by decide) ?_
        refine vV.rz dX7_nextOrder_39 rfl (by first | exact Or.inl rfl | exact Or.inr rfl | assumption) ?_
        exact ⟨rfl, rfl, rfl⟩
    · skip
      omega
  | succ k ih =>
    intro i h1 h2
    obtain rfl : i = (k : Int) := by omega
    refine vV.iload_n dX7_nextOrder_7 rfl ?_
    refine vV.if_lt (tgt := 34) dX7_nextOrder_8 (by decide) (fun h8 => ?_) (fun h8 => ?_)
    · skip
      omega
    · skip
      refine vV.aload_n dX7_nextOrder_11 rfl ?_
      refine vV.getr dX7_nextOrder_12 fl_X7_43 (by first | rfl | assumption) rfl (by first | assumption | exact hB _ _ _ rfl) ?_
      refine vV.iload_n dX7_nextOrder_15 rfl ?_
      refine vV.iald dX7_nextOrder_16 (by first | rfl | assumption) (by omega) (by omega) ?_
      refine vV.aload_n dX7_nextOrder_17 rfl ?_
      refine vV.getr dX7_nextOrder_18 fl_X7_43 (by first | rfl | assumption) rfl (by first | assumption | exact hB _ _ _ rfl) ?_
      refine vV.iload_n dX7_nextOrder_21 rfl ?_
      refine vV.iconst dX7_nextOrder_22 (by decide) ?_
      refine vV.iadd dX7_nextOrder_23 (⟨by omega, by omega⟩) ?_
      refine vV.iald dX7_nextOrder_24 (by first | rfl | assumption) (by omega) (by omega) ?_
      refine vV.icmp_le (tgt := 34) dX7_nextOrder_25 (by decide) (fun h25 => ?_) (fun h25 => ?_)
      · skip
        rw [nDes_f (by omega)]
        refine vV.iload_n dX7_nextOrder_34 rfl ?_
        refine vV.if_ge (tgt := 40) dX7_nextOrder_35 (by decide) (fun h35 => ?_) (fun h35 => ?_)
        · skip
          refine vV.aload_n dX7_nextOrder_40 rfl ?_
          refine vV.geti (z := 4) dX7_nextOrder_41 fl_X7_89 (by first | rfl | assumption) rfl rfl ?_
          rw [hc]
          refine vV.iconst dX7_nextOrder_44 (by decide) ?_
          refine vV.isub dX7_nextOrder_45 (⟨by omega, by omega⟩) ?_
          rw [show (n : Int) - 1 = ((n - 1 : Nat) : Int) by omega]
          refine vV.istore_n (L' := [_, _, _, _, _, _]) dX7_nextOrder_46 (by decide) rfl ?_
          exact vV.imp (l_X7_nx47 hB hc (by omega) hn (n - 1) (by omega) (by omega)) (fun r T1 M1 ⟨x, hx1, hx2, hx3, hx4, hx5⟩ => ⟨x, hx1, hx2, hx4, hx3, hx5⟩)
        · skip
          omega
      · skip
        rw [nDes_t (by omega)]
        refine vV.iinc (L' := [_, _, _, _, _, _]) dX7_nextOrder_28 (by decide) rfl (⟨by omega, by omega⟩) rfl ?_
        refine vV.goto (tgt := 7) dX7_nextOrder_31 (by decide) ?_
        exact ih _ (by omega) (by omega)
theorem c_X7_nextOrder {d : List Nat} {T : vT} {M : vM} {n : Nat} (hB : vB T) (hc : M 200 4 = n) (h1 : 1 ≤ n) (hn : n ≤ 6) : vCon m_X7_nextOrder d d [vR 200] T M (vPi fun y T1 M1 => T = T1 ∧ nQ M M1 227 y (nNx n (M 227))) := by
  refine vCon.of (by decide) rfl rfl (Nat.le_of_ble_eq_true rfl) ?_
  refine vV.aload_n dX7_nextOrder_0 rfl ?_
  refine vV.geti (z := 4) dX7_nextOrder_1 fl_X7_89 (by first | rfl | assumption) rfl rfl ?_
  rw [hc]
  refine vV.iconst dX7_nextOrder_4 (by decide) ?_
  refine vV.isub dX7_nextOrder_5 (⟨by omega, by omega⟩) ?_
  refine vV.istore_n (L' := [_, _, _, _, _, _]) dX7_nextOrder_6 (by decide) rfl ?_
  exact l_X7_nx7 hB hc hn (n - 1) _ (by omega) (by omega)
