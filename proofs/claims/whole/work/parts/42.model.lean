/-! ===== own: the reference: plate, turn, about, set ===== -/
def mAdd (M : vM) (n : Nat) (x y z : Int) : vM := vUpd (vUpd (vUpd (vUpd (vUpd (vUpd M 201 n x) 202 n y) 203 n z) 204 n y) 200 4 (n + 1)) 200 31 (-6)
theorem dX7_plate_0 : decode cX7_plate 0 = .ok (.iload_n 1, 1) := by decide +kernel
theorem dX7_plate_1 : decode cX7_plate 1 = .ok (.i2l, 1) := by decide +kernel
theorem dX7_plate_2 : decode cX7_plate 2 = .ok (.lconst 0, 1) := by decide +kernel
theorem dX7_plate_3 : decode cX7_plate 3 = .ok (.ldc2_w 96, 3) := by decide +kernel
theorem dX7_plate_6 : decode cX7_plate 6 = .ok (.invokestatic 92, 3) := by decide +kernel
theorem dX7_plate_9 : decode cX7_plate 9 = .ok (.ifCond .eq 29, 3) := by decide +kernel
theorem dX7_plate_12 : decode cX7_plate 12 = .ok (.iload_n 2, 1) := by decide +kernel
theorem dX7_plate_13 : decode cX7_plate 13 = .ok (.i2l, 1) := by decide +kernel
theorem dX7_plate_14 : decode cX7_plate 14 = .ok (.ldc2_w 98, 3) := by decide +kernel
theorem dX7_plate_17 : decode cX7_plate 17 = .ok (.ldc2_w 100, 3) := by decide +kernel
theorem dX7_plate_20 : decode cX7_plate 20 = .ok (.invokestatic 92, 3) := by decide +kernel
theorem dX7_plate_23 : decode cX7_plate 23 = .ok (.ifCond .eq 15, 3) := by decide +kernel
theorem dX7_plate_26 : decode cX7_plate 26 = .ok (.iload_n 3, 1) := by decide +kernel
theorem dX7_plate_27 : decode cX7_plate 27 = .ok (.i2l, 1) := by decide +kernel
theorem dX7_plate_28 : decode cX7_plate 28 = .ok (.lconst 1, 1) := by decide +kernel
theorem dX7_plate_29 : decode cX7_plate 29 = .ok (.ldc2_w 102, 3) := by decide +kernel
theorem dX7_plate_32 : decode cX7_plate 32 = .ok (.invokestatic 92, 3) := by decide +kernel
theorem dX7_plate_35 : decode cX7_plate 35 = .ok (.ifCond .ne 6, 3) := by decide +kernel
theorem dX7_plate_38 : decode cX7_plate 38 = .ok (.bipush (-2), 2) := by decide +kernel
theorem dX7_plate_40 : decode cX7_plate 40 = .ok (.ireturn, 1) := by decide +kernel
theorem dX7_plate_41 : decode cX7_plate 41 = .ok (.aload_n 0, 1) := by decide +kernel
theorem dX7_plate_42 : decode cX7_plate 42 = .ok (.iload_n 1, 1) := by decide +kernel
theorem dX7_plate_43 : decode cX7_plate 43 = .ok (.invokevirtual 104, 3) := by decide +kernel
theorem dX7_plate_46 : decode cX7_plate 46 = .ok (.ifCond .lt 6, 3) := by decide +kernel
theorem dX7_plate_49 : decode cX7_plate 49 = .ok (.bipush (-5), 2) := by decide +kernel
theorem dX7_plate_51 : decode cX7_plate 51 = .ok (.ireturn, 1) := by decide +kernel
theorem dX7_plate_52 : decode cX7_plate 52 = .ok (.aload_n 0, 1) := by decide +kernel
theorem dX7_plate_53 : decode cX7_plate 53 = .ok (.getfield 89, 3) := by decide +kernel
theorem dX7_plate_56 : decode cX7_plate 56 = .ok (.bipush 6, 2) := by decide +kernel
theorem dX7_plate_58 : decode cX7_plate 58 = .ok (.if_icmp .ne 6, 3) := by decide +kernel
theorem dX7_plate_61 : decode cX7_plate 61 = .ok (.bipush (-4), 2) := by decide +kernel
theorem dX7_plate_63 : decode cX7_plate 63 = .ok (.ireturn, 1) := by decide +kernel
theorem dX7_plate_64 : decode cX7_plate 64 = .ok (.aload_n 0, 1) := by decide +kernel
theorem dX7_plate_65 : decode cX7_plate 65 = .ok (.getfield 7, 3) := by decide +kernel
theorem dX7_plate_68 : decode cX7_plate 68 = .ok (.aload_n 0, 1) := by decide +kernel
theorem dX7_plate_69 : decode cX7_plate 69 = .ok (.getfield 89, 3) := by decide +kernel
theorem dX7_plate_72 : decode cX7_plate 72 = .ok (.iload_n 1, 1) := by decide +kernel
theorem dX7_plate_73 : decode cX7_plate 73 = .ok (.iastore, 1) := by decide +kernel
theorem dX7_plate_74 : decode cX7_plate 74 = .ok (.aload_n 0, 1) := by decide +kernel
theorem dX7_plate_75 : decode cX7_plate 75 = .ok (.getfield 13, 3) := by decide +kernel
theorem dX7_plate_78 : decode cX7_plate 78 = .ok (.aload_n 0, 1) := by decide +kernel
theorem dX7_plate_79 : decode cX7_plate 79 = .ok (.getfield 89, 3) := by decide +kernel
theorem dX7_plate_82 : decode cX7_plate 82 = .ok (.iload_n 2, 1) := by decide +kernel
theorem dX7_plate_83 : decode cX7_plate 83 = .ok (.iastore, 1) := by decide +kernel
theorem dX7_plate_84 : decode cX7_plate 84 = .ok (.aload_n 0, 1) := by decide +kernel
theorem dX7_plate_85 : decode cX7_plate 85 = .ok (.getfield 16, 3) := by decide +kernel
theorem dX7_plate_88 : decode cX7_plate 88 = .ok (.aload_n 0, 1) := by decide +kernel
theorem dX7_plate_89 : decode cX7_plate 89 = .ok (.getfield 89, 3) := by decide +kernel
theorem dX7_plate_92 : decode cX7_plate 92 = .ok (.iload_n 3, 1) := by decide +kernel
theorem dX7_plate_93 : decode cX7_plate 93 = .ok (.iastore, 1) := by decide +kernel
theorem dX7_plate_94 : decode cX7_plate 94 = .ok (.aload_n 0, 1) := by decide +kernel
theorem dX7_plate_95 : decode cX7_plate 95 = .ok (.getfield 19, 3) := by decide +kernel
theorem dX7_plate_98 : decode cX7_plate 98 = .ok (.aload_n 0, 1) := by decide +kernel
theorem dX7_plate_99 : decode cX7_plate 99 = .ok (.getfield 89, 3) := by decide +kernel
theorem dX7_plate_102 : decode cX7_plate 102 = .ok (.iload_n 2, 1) := by decide +kernel
theorem dX7_plate_103 : decode cX7_plate 103 = .ok (.iastore, 1) := by decide +kernel
theorem dX7_plate_104 : decode cX7_plate 104 = .ok (.aload_n 0, 1) := by decide +kernel
theorem dX7_plate_105 : decode cX7_plate 105 = .ok (.dup, 1) := by decide +kernel
theorem dX7_plate_106 : decode cX7_plate 106 = .ok (.getfield 89, 3) := by decide +kernel
theorem dX7_plate_109 : decode cX7_plate 109 = .ok (.iconst 1, 1) := by decide +kernel
theorem dX7_plate_110 : decode cX7_plate 110 = .ok (.iadd, 1) := by decide +kernel
theorem dX7_plate_111 : decode cX7_plate 111 = .ok (.putfield 89, 3) := by decide +kernel
theorem dX7_plate_114 : decode cX7_plate 114 = .ok (.aload_n 0, 1) := by decide +kernel
theorem dX7_plate_115 : decode cX7_plate 115 = .ok (.bipush (-6), 2) := by decide +kernel
theorem dX7_plate_117 : decode cX7_plate 117 = .ok (.putfield 56, 3) := by decide +kernel
theorem dX7_plate_120 : decode cX7_plate 120 = .ok (.aload_n 0, 1) := by decide +kernel
theorem dX7_plate_121 : decode cX7_plate 121 = .ok (.getfield 89, 3) := by decide +kernel
theorem dX7_plate_124 : decode cX7_plate 124 = .ok (.iconst 1, 1) := by decide +kernel
theorem dX7_plate_125 : decode cX7_plate 125 = .ok (.isub, 1) := by decide +kernel
theorem dX7_plate_126 : decode cX7_plate 126 = .ok (.ireturn, 1) := by decide +kernel
theorem c_X7_plate {d : List Nat} {T : vT} {M : vM} {n : Nat} {x y z : Int} (hB : vB T) (hc : M 200 4 = n) (hn : n ≤ 6) : vCon m_X7_plate d d [vR 200, vI x, vI y, vI z] T M (vPi fun r T1 M1 => T = T1 ∧ r = pPlateR n (M 201) x y z ∧ M1 = (if 0 ≤ pPlateR n (M 201) x y z then mAdd M n x y z else M)) := by
  refine vCon.of (by decide) rfl rfl (Nat.le_of_ble_eq_true rfl) ?_
  refine vV.iload_n dX7_plate_0 rfl ?_
  refine vV.i2l dX7_plate_1 ?_
  refine vV.lconst (v := 0) dX7_plate_2 (by decide) (by decide) ?_
  refine vV.ldc2 (v := 7) dX7_plate_3 kl_X7_96 (by decide) (by decide) ?_
  refine vV.cSi dX7_plate_6 ml_X7_92 cw_X7_in sw_X7_in (by unfold vRoom; decide) c_X7_in rfl rfl (Nat.le_of_ble_eq_true rfl) ?_
  rintro x6 _ _ hx6 ⟨hy6, rfl, rfl⟩
  unfold pIn at hy6
  refine vV.if_eq (tgt := 38) dX7_plate_9 (by decide) (fun h9 => ?_) (fun h9 => ?_)
  · skip
    have e2 : pPlateR n (M 201) x y z = -2 := pPlate_2 (fun c => no01 hy6 h9 c.1)
    refine vV.bipush (v := (-2)) dX7_plate_38 (by decide) (by decide) ?_
    refine vV.ri dX7_plate_40 rfl ?_
    exact ⟨rfl, e2.symm, by rw [e2]; rfl⟩
  · skip
    have g1 := yes01 hy6 h9
    refine vV.iload_n dX7_plate_12 rfl ?_
    refine vV.i2l dX7_plate_13 ?_
    refine vV.ldc2 (v := 2) dX7_plate_14 kl_X7_98 (by decide) (by decide) ?_
    refine vV.ldc2 (v := 15) dX7_plate_17 kl_X7_100 (by decide) (by decide) ?_
    refine vV.cSi dX7_plate_20 ml_X7_92 cw_X7_in sw_X7_in (by unfold vRoom; decide) c_X7_in rfl rfl (Nat.le_of_ble_eq_true rfl) ?_
    rintro x20 _ _ hx20 ⟨hy20, rfl, rfl⟩
    unfold pIn at hy20
    refine vV.if_eq (tgt := 38) dX7_plate_23 (by decide) (fun h23 => ?_) (fun h23 => ?_)
    · skip
      have e2 : pPlateR n (M 201) x y z = -2 := pPlate_2 (fun c => no01 hy20 h23 c.2.1)
      refine vV.bipush (v := (-2)) dX7_plate_38 (by decide) (by decide) ?_
      refine vV.ri dX7_plate_40 rfl ?_
      exact ⟨rfl, e2.symm, by rw [e2]; rfl⟩
    · skip
      have g2 := yes01 hy20 h23
      refine vV.iload_n dX7_plate_26 rfl ?_
      refine vV.i2l dX7_plate_27 ?_
      refine vV.lconst (v := 1) dX7_plate_28 (by decide) (by decide) ?_
      refine vV.ldc2 (v := 3) dX7_plate_29 kl_X7_102 (by decide) (by decide) ?_
      refine vV.cSi dX7_plate_32 ml_X7_92 cw_X7_in sw_X7_in (by unfold vRoom; decide) c_X7_in rfl rfl (Nat.le_of_ble_eq_true rfl) ?_
      rintro x32 _ _ hx32 ⟨hy32, rfl, rfl⟩
      unfold pIn at hy32
      refine vV.if_ne (tgt := 41) dX7_plate_35 (by decide) (fun h35 => ?_) (fun h35 => ?_)
      · skip
        have g3 := yes01 hy32 h35
        refine vV.aload_n dX7_plate_41 rfl ?_
        refine vV.iload_n dX7_plate_42 rfl ?_
        refine vV.cVi dX7_plate_43 ml_X7_104 cw_X7_plateAt iw_X7_plateAt (by first | rfl | assumption) rfl (by unfold vRoom; decide) (c_X7_plateAt hB hc hn) rfl rfl (Nat.le_of_ble_eq_true rfl) ?_
        rintro x43 _ _ hx43 ⟨hy43, rfl, rfl⟩
        rw [hy43]
        refine vV.if_lt (tgt := 52) dX7_plate_46 (by decide) (fun h46 => ?_) (fun h46 => ?_)
        · skip
          have g4 : pAt n (M 201) x = none := pOr6_none h46
          refine vV.aload_n dX7_plate_52 rfl ?_
          refine vV.geti (z := 4) dX7_plate_53 fl_X7_89 (by first | rfl | assumption) rfl rfl ?_
          try simp (decide := true) only [vUpd_s, vUpd_nk, vUpd_ni, vRow_s, vRow_n, fSet_s, fSet_n, ne_eq, not_false_eq_true]
          refine vV.bipush (v := 6) dX7_plate_56 (by decide) (by decide) ?_
          refine vV.icmp_ne (tgt := 64) dX7_plate_58 (by decide) (fun h58 => ?_) (fun h58 => ?_)
          · skip
            have e2 : pPlateR n (M 201) x y z = n := pPlate_0 ⟨g1, g2, g3⟩ g4 (by omega)
            have hn5 : n < 6 := by omega
            refine vV.aload_n dX7_plate_64 rfl ?_
            refine vV.getr dX7_plate_65 fl_X7_7 (by first | rfl | assumption) rfl (by first | assumption | exact hB _ _ _ rfl) ?_
            try simp (decide := true) only [vUpd_s, vUpd_nk, vUpd_ni, vRow_s, vRow_n, fSet_s, fSet_n, ne_eq, not_false_eq_true]
            refine vV.aload_n dX7_plate_68 rfl ?_
            refine vV.geti (z := 4) dX7_plate_69 fl_X7_89 (by first | rfl | assumption) rfl rfl ?_
            try simp (decide := true) only [vUpd_s, vUpd_nk, vUpd_ni, vRow_s, vRow_n, fSet_s, fSet_n, ne_eq, not_false_eq_true]
            refine vV.iload_n dX7_plate_72 rfl ?_
            rw [hc]
            refine vV.iast dX7_plate_73 (by first | rfl | assumption) (by omega) (by omega) ?_
            refine vV.aload_n dX7_plate_74 rfl ?_
            refine vV.getr dX7_plate_75 fl_X7_13 (by first | rfl | assumption) rfl (by first | assumption | exact hB _ _ _ rfl) ?_
            try simp (decide := true) only [vUpd_s, vUpd_nk, vUpd_ni, vRow_s, vRow_n, fSet_s, fSet_n, ne_eq, not_false_eq_true]
            refine vV.aload_n dX7_plate_78 rfl ?_
            refine vV.geti (z := 4) dX7_plate_79 fl_X7_89 (by first | rfl | assumption) rfl rfl ?_
            try simp (decide := true) only [vUpd_s, vUpd_nk, vUpd_ni, vRow_s, vRow_n, fSet_s, fSet_n, ne_eq, not_false_eq_true]
            refine vV.iload_n dX7_plate_82 rfl ?_
            rw [hc]
            refine vV.iast dX7_plate_83 (by first | rfl | assumption) (by omega) (by omega) ?_
            refine vV.aload_n dX7_plate_84 rfl ?_
            refine vV.getr dX7_plate_85 fl_X7_16 (by first | rfl | assumption) rfl (by first | assumption | exact hB _ _ _ rfl) ?_
            try simp (decide := true) only [vUpd_s, vUpd_nk, vUpd_ni, vRow_s, vRow_n, fSet_s, fSet_n, ne_eq, not_false_eq_true]
            refine vV.aload_n dX7_plate_88 rfl ?_
            refine vV.geti (z := 4) dX7_plate_89 fl_X7_89 (by first | rfl | assumption) rfl rfl ?_
            try simp (decide := true) only [vUpd_s, vUpd_nk, vUpd_ni, vRow_s, vRow_n, fSet_s, fSet_n, ne_eq, not_false_eq_true]
            refine vV.iload_n dX7_plate_92 rfl ?_
            rw [hc]
            refine vV.iast dX7_plate_93 (by first | rfl | assumption) (by omega) (by omega) ?_
            refine vV.aload_n dX7_plate_94 rfl ?_
            refine vV.getr dX7_plate_95 fl_X7_19 (by first | rfl | assumption) rfl (by first | assumption | exact hB _ _ _ rfl) ?_
            try simp (decide := true) only [vUpd_s, vUpd_nk, vUpd_ni, vRow_s, vRow_n, fSet_s, fSet_n, ne_eq, not_false_eq_true]
            refine vV.aload_n dX7_plate_98 rfl ?_
            refine vV.geti (z := 4) dX7_plate_99 fl_X7_89 (by first | rfl | assumption) rfl rfl ?_
            try simp (decide := true) only [vUpd_s, vUpd_nk, vUpd_ni, vRow_s, vRow_n, fSet_s, fSet_n, ne_eq, not_false_eq_true]
            refine vV.iload_n dX7_plate_102 rfl ?_
            rw [hc]
            refine vV.iast dX7_plate_103 (by first | rfl | assumption) (by omega) (by omega) ?_
            refine vV.aload_n dX7_plate_104 rfl ?_
            refine vV.dup dX7_plate_105 rfl ?_
            refine vV.geti (z := 4) dX7_plate_106 fl_X7_89 (by first | rfl | assumption) rfl rfl ?_
            try simp (decide := true) only [vUpd_s, vUpd_nk, vUpd_ni, vRow_s, vRow_n, fSet_s, fSet_n, ne_eq, not_false_eq_true]
            refine vV.iconst dX7_plate_109 (by decide) ?_
            rw [hc]
            refine vV.iadd dX7_plate_110 (⟨by omega, by omega⟩) ?_
            refine vV.puti (z := 4) dX7_plate_111 fl_X7_89 (by first | rfl | assumption) rfl rfl ?_
            refine vV.aload_n dX7_plate_114 rfl ?_
            refine vV.bipush (v := (-6)) dX7_plate_115 (by decide) (by decide) ?_
            refine vV.puti (z := 31) dX7_plate_117 fl_X7_56 (by first | rfl | assumption) rfl rfl ?_
            refine vV.aload_n dX7_plate_120 rfl ?_
            refine vV.geti (z := 4) dX7_plate_121 fl_X7_89 (by first | rfl | assumption) rfl rfl ?_
            try simp (decide := true) only [vUpd_s, vUpd_nk, vUpd_ni, vRow_s, vRow_n, fSet_s, fSet_n, ne_eq, not_false_eq_true]
            refine vV.iconst dX7_plate_124 (by decide) ?_
            refine vV.isub dX7_plate_125 (⟨by omega, by omega⟩) ?_
            refine vV.ri dX7_plate_126 rfl ?_
            refine ⟨rfl, ?_, by rw [e2, if_pos (by omega)]; rfl⟩; rw [e2]; omega
          · skip
            have e2 : pPlateR n (M 201) x y z = -4 := pPlate_4 ⟨g1, g2, g3⟩ g4 (by omega)
            refine vV.bipush (v := (-4)) dX7_plate_61 (by decide) (by decide) ?_
            refine vV.ri dX7_plate_63 rfl ?_
            exact ⟨rfl, e2.symm, by rw [e2]; rfl⟩
        · skip
          have e2 : pPlateR n (M 201) x y z = -5 := pPlate_5 ⟨g1, g2, g3⟩ (pOr6_some h46)
          refine vV.bipush (v := (-5)) dX7_plate_49 (by decide) (by decide) ?_
          refine vV.ri dX7_plate_51 rfl ?_
          exact ⟨rfl, e2.symm, by rw [e2]; rfl⟩
      · skip
        have e2 : pPlateR n (M 201) x y z = -2 := pPlate_2 (fun c => no01 hy32 h35 c.2.2)
        refine vV.bipush (v := (-2)) dX7_plate_38 (by decide) (by decide) ?_
        refine vV.ri dX7_plate_40 rfl ?_
        exact ⟨rfl, e2.symm, by rw [e2]; rfl⟩
theorem dX7_turn_0 : decode cX7_turn 0 = .ok (.aload_n 0, 1) := by decide +kernel
theorem dX7_turn_1 : decode cX7_turn 1 = .ok (.iload_n 1, 1) := by decide +kernel
theorem dX7_turn_2 : decode cX7_turn 2 = .ok (.invokevirtual 108, 3) := by decide +kernel
theorem dX7_turn_5 : decode cX7_turn 5 = .ok (.ifCond .ne 5, 3) := by decide +kernel
theorem dX7_turn_8 : decode cX7_turn 8 = .ok (.iconst (-1), 1) := by decide +kernel
theorem dX7_turn_9 : decode cX7_turn 9 = .ok (.ireturn, 1) := by decide +kernel
theorem dX7_turn_10 : decode cX7_turn 10 = .ok (.iload_n 2, 1) := by decide +kernel
theorem dX7_turn_11 : decode cX7_turn 11 = .ok (.i2l, 1) := by decide +kernel
theorem dX7_turn_12 : decode cX7_turn 12 = .ok (.lconst 0, 1) := by decide +kernel
theorem dX7_turn_13 : decode cX7_turn 13 = .ok (.aload_n 0, 1) := by decide +kernel
theorem dX7_turn_14 : decode cX7_turn 14 = .ok (.getfield 13, 3) := by decide +kernel
theorem dX7_turn_17 : decode cX7_turn 17 = .ok (.iload_n 1, 1) := by decide +kernel
theorem dX7_turn_18 : decode cX7_turn 18 = .ok (.iaload, 1) := by decide +kernel
theorem dX7_turn_19 : decode cX7_turn 19 = .ok (.i2l, 1) := by decide +kernel
theorem dX7_turn_20 : decode cX7_turn 20 = .ok (.invokestatic 92, 3) := by decide +kernel
theorem dX7_turn_23 : decode cX7_turn 23 = .ok (.ifCond .ne 6, 3) := by decide +kernel
theorem dX7_turn_26 : decode cX7_turn 26 = .ok (.bipush (-2), 2) := by decide +kernel
theorem dX7_turn_28 : decode cX7_turn 28 = .ok (.ireturn, 1) := by decide +kernel
theorem dX7_turn_29 : decode cX7_turn 29 = .ok (.aload_n 0, 1) := by decide +kernel
theorem dX7_turn_30 : decode cX7_turn 30 = .ok (.getfield 19, 3) := by decide +kernel
theorem dX7_turn_33 : decode cX7_turn 33 = .ok (.iload_n 1, 1) := by decide +kernel
theorem dX7_turn_34 : decode cX7_turn 34 = .ok (.iaload, 1) := by decide +kernel
theorem dX7_turn_35 : decode cX7_turn 35 = .ok (.istore_n 3, 1) := by decide +kernel
theorem dX7_turn_36 : decode cX7_turn 36 = .ok (.aload_n 0, 1) := by decide +kernel
theorem dX7_turn_37 : decode cX7_turn 37 = .ok (.getfield 19, 3) := by decide +kernel
theorem dX7_turn_40 : decode cX7_turn 40 = .ok (.iload_n 1, 1) := by decide +kernel
theorem dX7_turn_41 : decode cX7_turn 41 = .ok (.iload_n 2, 1) := by decide +kernel
theorem dX7_turn_42 : decode cX7_turn 42 = .ok (.iastore, 1) := by decide +kernel
theorem dX7_turn_43 : decode cX7_turn 43 = .ok (.iload_n 3, 1) := by decide +kernel
theorem dX7_turn_44 : decode cX7_turn 44 = .ok (.ireturn, 1) := by decide +kernel
theorem c_X7_turn {d : List Nat} {T : vT} {M : vM} {n : Nat} {p v : Int} (hB : vB T) (hc : M 200 4 = n) (hn : n ≤ 6) (htu : 0 ≤ M 204 p) : vCon m_X7_turn d d [vR 200, vI p, vI v] T M (vPi fun r T1 M1 => T = T1 ∧ r = pTurnR n (M 202) (M 204) p v ∧ M1 = (if 0 ≤ pTurnR n (M 202) (M 204) p v then vUpd M 204 p v else M)) := by
  refine vCon.of (by decide) rfl rfl (Nat.le_of_ble_eq_true rfl) ?_
  refine vV.aload_n dX7_turn_0 rfl ?_
  refine vV.iload_n dX7_turn_1 rfl ?_
  refine vV.cVi dX7_turn_2 ml_X7_108 cw_X7_isPlate iw_X7_isPlate (by first | rfl | assumption) rfl (by unfold vRoom; decide) (c_X7_isPlate hc hn) rfl rfl (Nat.le_of_ble_eq_true rfl) ?_
  rintro x2 _ _ hx2 ⟨hy2, rfl, rfl⟩
  refine vV.if_ne (tgt := 10) dX7_turn_5 (by decide) (fun h5 => ?_) (fun h5 => ?_)
  · skip
    have g1 := yes01 hy2 h5
    refine vV.iload_n dX7_turn_10 rfl ?_
    refine vV.i2l dX7_turn_11 ?_
    refine vV.lconst (v := 0) dX7_turn_12 (by decide) (by decide) ?_
    refine vV.aload_n dX7_turn_13 rfl ?_
    refine vV.getr dX7_turn_14 fl_X7_13 (by first | rfl | assumption) rfl (by first | assumption | exact hB _ _ _ rfl) ?_
    refine vV.iload_n dX7_turn_17 rfl ?_
    refine vV.iald dX7_turn_18 (by first | rfl | assumption) (by omega) (by omega) ?_
    refine vV.i2l dX7_turn_19 ?_
    refine vV.cSi dX7_turn_20 ml_X7_92 cw_X7_in sw_X7_in (by unfold vRoom; decide) c_X7_in rfl rfl (Nat.le_of_ble_eq_true rfl) ?_
    rintro x20 _ _ hx20 ⟨hy20, rfl, rfl⟩
    unfold pIn at hy20
    refine vV.if_ne (tgt := 29) dX7_turn_23 (by decide) (fun h23 => ?_) (fun h23 => ?_)
    · skip
      have e2 : pTurnR n (M 202) (M 204) p v = M 204 p := by { unfold pTurnR; rw [if_neg (fun c => c g1), if_neg (fun c => c (yes01 hy20 h23))] }
      refine vV.aload_n dX7_turn_29 rfl ?_
      refine vV.getr dX7_turn_30 fl_X7_19 (by first | rfl | assumption) rfl (by first | assumption | exact hB _ _ _ rfl) ?_
      refine vV.iload_n dX7_turn_33 rfl ?_
      refine vV.iald dX7_turn_34 (by first | rfl | assumption) (by omega) (by omega) ?_
      refine vV.istore_n (L' := [_, _, _, _]) dX7_turn_35 (by decide) rfl ?_
      refine vV.aload_n dX7_turn_36 rfl ?_
      refine vV.getr dX7_turn_37 fl_X7_19 (by first | rfl | assumption) rfl (by first | assumption | exact hB _ _ _ rfl) ?_
      refine vV.iload_n dX7_turn_40 rfl ?_
      refine vV.iload_n dX7_turn_41 rfl ?_
      refine vV.iast dX7_turn_42 (by first | rfl | assumption) (by omega) (by omega) ?_
      refine vV.iload_n dX7_turn_43 rfl ?_
      refine vV.ri dX7_turn_44 rfl ?_
      exact ⟨rfl, e2.symm, by rw [e2, if_pos htu]⟩
    · skip
      have e2 : pTurnR n (M 202) (M 204) p v = -2 := by { unfold pTurnR; rw [if_neg (fun c => c g1), if_pos (no01 hy20 h23)] }
      refine vV.bipush (v := (-2)) dX7_turn_26 (by decide) (by decide) ?_
      refine vV.ri dX7_turn_28 rfl ?_
      exact ⟨rfl, e2.symm, by rw [e2]; rfl⟩
  · skip
    have e2 : pTurnR n (M 202) (M 204) p v = -1 := if_pos (no01 hy2 h5)
    refine vV.iconst dX7_turn_8 (by decide) ?_
    refine vV.ri dX7_turn_9 rfl ?_
    exact ⟨rfl, e2.symm, by rw [e2]; rfl⟩
theorem dX7_about_0 : decode cX7_about 0 = .ok (.aload_n 0, 1) := by decide +kernel
theorem dX7_about_1 : decode cX7_about 1 = .ok (.iload_n 1, 1) := by decide +kernel
theorem dX7_about_2 : decode cX7_about 2 = .ok (.invokevirtual 108, 3) := by decide +kernel
theorem dX7_about_5 : decode cX7_about 5 = .ok (.ifCond .ne 5, 3) := by decide +kernel
theorem dX7_about_8 : decode cX7_about 8 = .ok (.iconst (-1), 1) := by decide +kernel
theorem dX7_about_9 : decode cX7_about 9 = .ok (.ireturn, 1) := by decide +kernel
theorem dX7_about_10 : decode cX7_about 10 = .ok (.iload_n 2, 1) := by decide +kernel
theorem dX7_about_11 : decode cX7_about 11 = .ok (.tableswitch 57 0 3 #[29, 36, 43, 50], 29) := by decide +kernel
theorem dX7_about_40 : decode cX7_about 40 = .ok (.aload_n 0, 1) := by decide +kernel
theorem dX7_about_41 : decode cX7_about 41 = .ok (.getfield 7, 3) := by decide +kernel
theorem dX7_about_44 : decode cX7_about 44 = .ok (.iload_n 1, 1) := by decide +kernel
theorem dX7_about_45 : decode cX7_about 45 = .ok (.iaload, 1) := by decide +kernel
theorem dX7_about_46 : decode cX7_about 46 = .ok (.ireturn, 1) := by decide +kernel
theorem dX7_about_47 : decode cX7_about 47 = .ok (.aload_n 0, 1) := by decide +kernel
theorem dX7_about_48 : decode cX7_about 48 = .ok (.getfield 13, 3) := by decide +kernel
theorem dX7_about_51 : decode cX7_about 51 = .ok (.iload_n 1, 1) := by decide +kernel
theorem dX7_about_52 : decode cX7_about 52 = .ok (.iaload, 1) := by decide +kernel
theorem dX7_about_53 : decode cX7_about 53 = .ok (.ireturn, 1) := by decide +kernel
theorem dX7_about_54 : decode cX7_about 54 = .ok (.aload_n 0, 1) := by decide +kernel
theorem dX7_about_55 : decode cX7_about 55 = .ok (.getfield 16, 3) := by decide +kernel
theorem dX7_about_58 : decode cX7_about 58 = .ok (.iload_n 1, 1) := by decide +kernel
theorem dX7_about_59 : decode cX7_about 59 = .ok (.iaload, 1) := by decide +kernel
theorem dX7_about_60 : decode cX7_about 60 = .ok (.ireturn, 1) := by decide +kernel
theorem dX7_about_61 : decode cX7_about 61 = .ok (.aload_n 0, 1) := by decide +kernel
theorem dX7_about_62 : decode cX7_about 62 = .ok (.getfield 19, 3) := by decide +kernel
theorem dX7_about_65 : decode cX7_about 65 = .ok (.iload_n 1, 1) := by decide +kernel
theorem dX7_about_66 : decode cX7_about 66 = .ok (.iaload, 1) := by decide +kernel
theorem dX7_about_67 : decode cX7_about 67 = .ok (.ireturn, 1) := by decide +kernel
theorem dX7_about_68 : decode cX7_about 68 = .ok (.bipush (-2), 2) := by decide +kernel
theorem dX7_about_70 : decode cX7_about 70 = .ok (.ireturn, 1) := by decide +kernel
theorem c_X7_about {d : List Nat} {T : vT} {M : vM} {n : Nat} {p w : Int} (hB : vB T) (hc : M 200 4 = n) (hn : n ≤ 6) : vCon m_X7_about d d [vR 200, vI p, vI w] T M (vPi fun r T1 M1 => r = pAboutR n (M 201) (M 202) (M 203) (M 204) p w ∧ T = T1 ∧ M = M1) := by
  unfold pAboutR
  refine vCon.of (by decide) rfl rfl (Nat.le_of_ble_eq_true rfl) ?_
  refine vV.aload_n dX7_about_0 rfl ?_
  refine vV.iload_n dX7_about_1 rfl ?_
  refine vV.cVi dX7_about_2 ml_X7_108 cw_X7_isPlate iw_X7_isPlate (by first | rfl | assumption) rfl (by unfold vRoom; decide) (c_X7_isPlate hc hn) rfl rfl (Nat.le_of_ble_eq_true rfl) ?_
  rintro x2 _ _ hx2 ⟨hy2, rfl, rfl⟩
  refine vV.if_ne (tgt := 10) dX7_about_5 (by decide) (fun h5 => ?_) (fun h5 => ?_)
  · skip
    have g1 := yes01 hy2 h5
    rw [if_neg (fun c => c g1)]
    refine vV.iload_n dX7_about_10 rfl ?_
    have hs11 : (w < 0 ∨ 3 < w) ∨ w = 0 ∨ w = 1 ∨ w = 2 ∨ w = 3 := by omega
    rcases hs11 with h11 | h11 | h11 | h11 | h11
    · refine vV.tswD (tgt := 68) dX7_about_11 h11 (by decide) ?_
      refine vV.bipush (v := (-2)) dX7_about_68 (by decide) (by decide) ?_
      refine vV.ri dX7_about_70 rfl ?_
      exact ⟨by rw [if_neg (by omega), if_neg (by omega), if_neg (by omega), if_neg (by omega)], rfl, rfl⟩
    · refine vV.tsw (tgt := 40) dX7_about_11 (0) h11 (by decide) (by decide) rfl (by decide) ?_
      refine vV.aload_n dX7_about_40 rfl ?_
      refine vV.getr dX7_about_41 fl_X7_7 (by first | rfl | assumption) rfl (by first | assumption | exact hB _ _ _ rfl) ?_
      refine vV.iload_n dX7_about_44 rfl ?_
      refine vV.iald dX7_about_45 (by first | rfl | assumption) (by omega) (by omega) ?_
      refine vV.ri dX7_about_46 rfl ?_
      exact ⟨by rw [if_pos h11], rfl, rfl⟩
    · refine vV.tsw (tgt := 47) dX7_about_11 (1) h11 (by decide) (by decide) rfl (by decide) ?_
      refine vV.aload_n dX7_about_47 rfl ?_
      refine vV.getr dX7_about_48 fl_X7_13 (by first | rfl | assumption) rfl (by first | assumption | exact hB _ _ _ rfl) ?_
      refine vV.iload_n dX7_about_51 rfl ?_
      refine vV.iald dX7_about_52 (by first | rfl | assumption) (by omega) (by omega) ?_
      refine vV.ri dX7_about_53 rfl ?_
      exact ⟨by rw [if_neg (by omega), if_pos h11], rfl, rfl⟩
    · refine vV.tsw (tgt := 54) dX7_about_11 (2) h11 (by decide) (by decide) rfl (by decide) ?_
      refine vV.aload_n dX7_about_54 rfl ?_
      refine vV.getr dX7_about_55 fl_X7_16 (by first | rfl | assumption) rfl (by first | assumption | exact hB _ _ _ rfl) ?_
      refine vV.iload_n dX7_about_58 rfl ?_
      refine vV.iald dX7_about_59 (by first | rfl | assumption) (by omega) (by omega) ?_
      refine vV.ri dX7_about_60 rfl ?_
      exact ⟨by rw [if_neg (by omega), if_neg (by omega), if_pos h11], rfl, rfl⟩
    · refine vV.tsw (tgt := 61) dX7_about_11 (3) h11 (by decide) (by decide) rfl (by decide) ?_
      refine vV.aload_n dX7_about_61 rfl ?_
      refine vV.getr dX7_about_62 fl_X7_19 (by first | rfl | assumption) rfl (by first | assumption | exact hB _ _ _ rfl) ?_
      refine vV.iload_n dX7_about_65 rfl ?_
      refine vV.iald dX7_about_66 (by first | rfl | assumption) (by omega) (by omega) ?_
      refine vV.ri dX7_about_67 rfl ?_
      exact ⟨by rw [if_neg (by omega), if_neg (by omega), if_neg (by omega), if_pos h11], rfl, rfl⟩
  · skip
    rw [if_pos (no01 hy2 h5)]
    refine vV.iconst dX7_about_8 (by decide) ?_
    refine vV.ri dX7_about_9 rfl ?_
    exact ⟨rfl, rfl, rfl⟩
theorem dX7_setNow_0 : decode cX7_setNow 0 = .ok (.iload_n 1, 1) := by decide +kernel
theorem dX7_setNow_1 : decode cX7_setNow 1 = .ok (.ifCond .ne 10, 3) := by decide +kernel
theorem dX7_setNow_4 : decode cX7_setNow 4 = .ok (.aload_n 0, 1) := by decide +kernel
theorem dX7_setNow_5 : decode cX7_setNow 5 = .ok (.getfield 117, 3) := by decide +kernel
theorem dX7_setNow_8 : decode cX7_setNow 8 = .ok (.goto 43, 3) := by decide +kernel
theorem dX7_setNow_11 : decode cX7_setNow 11 = .ok (.iload_n 1, 1) := by decide +kernel
theorem dX7_setNow_12 : decode cX7_setNow 12 = .ok (.iconst 1, 1) := by decide +kernel
theorem dX7_setNow_13 : decode cX7_setNow 13 = .ok (.if_icmp .ne 10, 3) := by decide +kernel
theorem dX7_setNow_16 : decode cX7_setNow 16 = .ok (.aload_n 0, 1) := by decide +kernel
theorem dX7_setNow_17 : decode cX7_setNow 17 = .ok (.getfield 80, 3) := by decide +kernel
theorem dX7_setNow_20 : decode cX7_setNow 20 = .ok (.goto 31, 3) := by decide +kernel
theorem dX7_setNow_23 : decode cX7_setNow 23 = .ok (.iload_n 1, 1) := by decide +kernel
theorem dX7_setNow_24 : decode cX7_setNow 24 = .ok (.iconst 2, 1) := by decide +kernel
theorem dX7_setNow_25 : decode cX7_setNow 25 = .ok (.if_icmp .ne 10, 3) := by decide +kernel
theorem dX7_setNow_28 : decode cX7_setNow 28 = .ok (.aload_n 0, 1) := by decide +kernel
theorem dX7_setNow_29 : decode cX7_setNow 29 = .ok (.getfield 83, 3) := by decide +kernel
theorem dX7_setNow_32 : decode cX7_setNow 32 = .ok (.goto 19, 3) := by decide +kernel
theorem dX7_setNow_35 : decode cX7_setNow 35 = .ok (.iload_n 1, 1) := by decide +kernel
theorem dX7_setNow_36 : decode cX7_setNow 36 = .ok (.iconst 3, 1) := by decide +kernel
theorem dX7_setNow_37 : decode cX7_setNow 37 = .ok (.if_icmp .ne 10, 3) := by decide +kernel
theorem dX7_setNow_40 : decode cX7_setNow 40 = .ok (.aload_n 0, 1) := by decide +kernel
theorem dX7_setNow_41 : decode cX7_setNow 41 = .ok (.getfield 120, 3) := by decide +kernel
theorem dX7_setNow_44 : decode cX7_setNow 44 = .ok (.goto 7, 3) := by decide +kernel
theorem dX7_setNow_47 : decode cX7_setNow 47 = .ok (.aload_n 0, 1) := by decide +kernel
theorem dX7_setNow_48 : decode cX7_setNow 48 = .ok (.getfield 86, 3) := by decide +kernel
theorem dX7_setNow_51 : decode cX7_setNow 51 = .ok (.ireturn, 1) := by decide +kernel
theorem c_X7_setNow {d : List Nat} {T : vT} {M : vM} {w : Int} (hB : vB T) (hw : 0 ≤ w ∧ w ≤ 4) : vCon m_X7_setNow d d [vR 200, vI w] T M (vPi fun r T1 M1 => r = seM M w ∧ T = T1 ∧ M = M1) := by
  unfold seM
  refine vCon.of (by decide) rfl rfl (Nat.le_of_ble_eq_true rfl) ?_
  refine vV.iload_n dX7_setNow_0 rfl ?_
  refine vV.if_ne (tgt := 11) dX7_setNow_1 (by decide) (fun h1 => ?_) (fun h1 => ?_)
  · skip
    rw [if_neg h1]
    refine vV.iload_n dX7_setNow_11 rfl ?_
    refine vV.iconst dX7_setNow_12 (by decide) ?_
    refine vV.icmp_ne (tgt := 23) dX7_setNow_13 (by decide) (fun h13 => ?_) (fun h13 => ?_)
    · skip
      rw [if_neg h13]
      refine vV.iload_n dX7_setNow_23 rfl ?_
      refine vV.iconst dX7_setNow_24 (by decide) ?_
      refine vV.icmp_ne (tgt := 35) dX7_setNow_25 (by decide) (fun h25 => ?_) (fun h25 => ?_)
      · skip
        rw [if_neg h25]
        refine vV.iload_n dX7_setNow_35 rfl ?_
        refine vV.iconst dX7_setNow_36 (by decide) ?_
        refine vV.icmp_ne (tgt := 47) dX7_setNow_37 (by decide) (fun h37 => ?_) (fun h37 => ?_)
        · skip
          rw [if_neg h37, if_pos (by omega)]
          refine vV.aload_n dX7_setNow_47 rfl ?_
          refine vV.geti (z := 9) dX7_setNow_48 fl_X7_86 (by first | rfl | assumption) rfl rfl ?_
          refine vV.ri dX7_setNow_51 rfl ?_
          exact ⟨rfl, rfl, rfl⟩
        · skip
          rw [if_pos h37]
          refine vV.aload_n dX7_setNow_40 rfl ?_
          refine vV.geti (z := 8) dX7_setNow_41 fl_X7_120 (by first | rfl | assumption) rfl rfl ?_
          refine vV.goto (tgt := 51) dX7_setNow_44 (by decide) ?_
          refine vV.ri dX7_setNow_51 rfl ?_
          exact ⟨rfl, rfl, rfl⟩
      · skip
        rw [if_pos h25]
        refine vV.aload_n dX7_setNow_28 rfl ?_
        refine vV.geti (z := 7) dX7_setNow_29 fl_X7_83 (by first | rfl | assumption) rfl rfl ?_
        refine vV.goto (tgt := 51) dX7_setNow_32 (by decide) ?_
        refine vV.ri dX7_setNow_51 rfl ?_
        exact ⟨rfl, rfl, rfl⟩
    · skip
      rw [if_pos h13]
      refine vV.aload_n dX7_setNow_16 rfl ?_
      refine vV.geti (z := 6) dX7_setNow_17 fl_X7_80 (by first | rfl | assumption) rfl rfl ?_
      refine vV.goto (tgt := 51) dX7_setNow_20 (by decide) ?_
      refine vV.ri dX7_setNow_51 rfl ?_
      exact ⟨rfl, rfl, rfl⟩
  · skip
    rw [if_pos h1]
    refine vV.aload_n dX7_setNow_4 rfl ?_
    refine vV.geti (z := 5) dX7_setNow_5 fl_X7_117 (by first | rfl | assumption) rfl rfl ?_
    refine vV.goto (tgt := 51) dX7_setNow_8 (by decide) ?_
    refine vV.ri dX7_setNow_51 rfl ?_
    exact ⟨rfl, rfl, rfl⟩
