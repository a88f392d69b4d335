/-! ===== own: the class: at, round ===== -/
theorem dX6_at_0 : decode cX6_at 0 = .ok (.iload_n 3, 1) := by decide +kernel
theorem dX6_at_1 : decode cX6_at 1 = .ok (.iconst (-1), 1) := by decide +kernel
theorem dX6_at_2 : decode cX6_at 2 = .ok (.if_icmp .eq 22, 3) := by decide +kernel
theorem dX6_at_5 : decode cX6_at 5 = .ok (.iload_n 3, 1) := by decide +kernel
theorem dX6_at_6 : decode cX6_at 6 = .ok (.bipush (-2), 2) := by decide +kernel
theorem dX6_at_8 : decode cX6_at 8 = .ok (.if_icmp .eq 16, 3) := by decide +kernel
theorem dX6_at_11 : decode cX6_at 11 = .ok (.aload_n 0, 1) := by decide +kernel
theorem dX6_at_12 : decode cX6_at 12 = .ok (.getfield 10, 3) := by decide +kernel
theorem dX6_at_15 : decode cX6_at 15 = .ok (.iload_n 3, 1) := by decide +kernel
theorem dX6_at_16 : decode cX6_at 16 = .ok (.invokevirtual 74, 3) := by decide +kernel
theorem dX6_at_19 : decode cX6_at 19 = .ok (.ifCond .ne 5, 3) := by decide +kernel
theorem dX6_at_22 : decode cX6_at 22 = .ok (.iconst (-1), 1) := by decide +kernel
theorem dX6_at_23 : decode cX6_at 23 = .ok (.ireturn, 1) := by decide +kernel
theorem dX6_at_24 : decode cX6_at 24 = .ok (.iload_n 1, 1) := by decide +kernel
theorem dX6_at_25 : decode cX6_at 25 = .ok (.invokestatic 132, 3) := by decide +kernel
theorem dX6_at_28 : decode cX6_at 28 = .ok (.ifCond .eq 14, 3) := by decide +kernel
theorem dX6_at_31 : decode cX6_at 31 = .ok (.iload_n 2, 1) := by decide +kernel
theorem dX6_at_32 : decode cX6_at 32 = .ok (.iconst 0, 1) := by decide +kernel
theorem dX6_at_33 : decode cX6_at 33 = .ok (.sipush 600, 3) := by decide +kernel
theorem dX6_at_36 : decode cX6_at 36 = .ok (.invokestatic 58, 3) := by decide +kernel
theorem dX6_at_39 : decode cX6_at 39 = .ok (.ifCond .ne 6, 3) := by decide +kernel
theorem dX6_at_42 : decode cX6_at 42 = .ok (.bipush (-2), 2) := by decide +kernel
theorem dX6_at_44 : decode cX6_at 44 = .ok (.ireturn, 1) := by decide +kernel
theorem dX6_at_45 : decode cX6_at 45 = .ok (.aload_n 0, 1) := by decide +kernel
theorem dX6_at_46 : decode cX6_at 46 = .ok (.getfield 33, 3) := by decide +kernel
theorem dX6_at_49 : decode cX6_at 49 = .ok (.aload_n 0, 1) := by decide +kernel
theorem dX6_at_50 : decode cX6_at 50 = .ok (.getfield 10, 3) := by decide +kernel
theorem dX6_at_53 : decode cX6_at 53 = .ok (.invokevirtual 135, 3) := by decide +kernel
theorem dX6_at_56 : decode cX6_at 56 = .ok (.iconst 0, 1) := by decide +kernel
theorem dX6_at_57 : decode cX6_at 57 = .ok (.istore 4, 2) := by decide +kernel
theorem dX6_at_59 : decode cX6_at 59 = .ok (.iload 4, 2) := by decide +kernel
theorem dX6_at_61 : decode cX6_at 61 = .ok (.iload_n 2, 1) := by decide +kernel
theorem dX6_at_62 : decode cX6_at 62 = .ok (.if_icmp .ge 24, 3) := by decide +kernel
theorem dX6_at_65 : decode cX6_at 65 = .ok (.aload_n 0, 1) := by decide +kernel
theorem dX6_at_66 : decode cX6_at 66 = .ok (.getfield 33, 3) := by decide +kernel
theorem dX6_at_69 : decode cX6_at 69 = .ok (.aload_n 0, 1) := by decide +kernel
theorem dX6_at_70 : decode cX6_at 70 = .ok (.getfield 33, 3) := by decide +kernel
theorem dX6_at_73 : decode cX6_at 73 = .ok (.iload_n 1, 1) := by decide +kernel
theorem dX6_at_74 : decode cX6_at 74 = .ok (.invokevirtual 144, 3) := by decide +kernel
theorem dX6_at_77 : decode cX6_at 77 = .ok (.invokevirtual 147, 3) := by decide +kernel
theorem dX6_at_80 : decode cX6_at 80 = .ok (.iinc 4 1, 3) := by decide +kernel
theorem dX6_at_83 : decode cX6_at 83 = .ok (.goto (-24), 3) := by decide +kernel
theorem dX6_at_86 : decode cX6_at 86 = .ok (.iload_n 3, 1) := by decide +kernel
theorem dX6_at_87 : decode cX6_at 87 = .ok (.iconst (-1), 1) := by decide +kernel
theorem dX6_at_88 : decode cX6_at 88 = .ok (.if_icmp .ne 16, 3) := by decide +kernel
theorem dX6_at_91 : decode cX6_at 91 = .ok (.aload_n 0, 1) := by decide +kernel
theorem dX6_at_92 : decode cX6_at 92 = .ok (.getfield 33, 3) := by decide +kernel
theorem dX6_at_95 : decode cX6_at 95 = .ok (.getfield 148, 3) := by decide +kernel
theorem dX6_at_98 : decode cX6_at 98 = .ok (.getfield 91, 3) := by decide +kernel
theorem dX6_at_101 : decode cX6_at 101 = .ok (.iconst 0, 1) := by decide +kernel
theorem dX6_at_102 : decode cX6_at 102 = .ok (.iaload, 1) := by decide +kernel
theorem dX6_at_103 : decode cX6_at 103 = .ok (.ireturn, 1) := by decide +kernel
theorem dX6_at_104 : decode cX6_at 104 = .ok (.iload_n 3, 1) := by decide +kernel
theorem dX6_at_105 : decode cX6_at 105 = .ok (.bipush (-2), 2) := by decide +kernel
theorem dX6_at_107 : decode cX6_at 107 = .ok (.if_icmp .ne 26, 3) := by decide +kernel
theorem dX6_at_110 : decode cX6_at 110 = .ok (.aload_n 0, 1) := by decide +kernel
theorem dX6_at_111 : decode cX6_at 111 = .ok (.getfield 33, 3) := by decide +kernel
theorem dX6_at_114 : decode cX6_at 114 = .ok (.getfield 151, 3) := by decide +kernel
theorem dX6_at_117 : decode cX6_at 117 = .ok (.ifCond .ge 8, 3) := by decide +kernel
theorem dX6_at_120 : decode cX6_at 120 = .ok (.bipush (-6), 2) := by decide +kernel
theorem dX6_at_122 : decode cX6_at 122 = .ok (.goto 10, 3) := by decide +kernel
theorem dX6_at_125 : decode cX6_at 125 = .ok (.aload_n 0, 1) := by decide +kernel
theorem dX6_at_126 : decode cX6_at 126 = .ok (.getfield 33, 3) := by decide +kernel
theorem dX6_at_129 : decode cX6_at 129 = .ok (.getfield 151, 3) := by decide +kernel
theorem dX6_at_132 : decode cX6_at 132 = .ok (.ireturn, 1) := by decide +kernel
theorem dX6_at_133 : decode cX6_at 133 = .ok (.aload_n 0, 1) := by decide +kernel
theorem dX6_at_134 : decode cX6_at 134 = .ok (.getfield 33, 3) := by decide +kernel
theorem dX6_at_137 : decode cX6_at 137 = .ok (.getfield 148, 3) := by decide +kernel
theorem dX6_at_140 : decode cX6_at 140 = .ok (.getfield 82, 3) := by decide +kernel
theorem dX6_at_143 : decode cX6_at 143 = .ok (.iload_n 3, 1) := by decide +kernel
theorem dX6_at_144 : decode cX6_at 144 = .ok (.iaload, 1) := by decide +kernel
theorem dX6_at_145 : decode cX6_at 145 = .ok (.ireturn, 1) := by decide +kernel
theorem l_X6_at {d : List Nat} {T : vT} {M : vM} {rule plate : Int} {P : pP} {lag m : Nat} {s0 : pS} (hB : vB T) (hr0 : 0 ≤ rule) (hr3 : rule ≤ 3) (hm : m ≤ 600) (hpl : plate = -1 ∨ plate = -2 ∨ (0 ≤ plate ∧ plate < P.1)) : ∀ t, t ≤ m → ∀ N, cKeepW M N → wTj N rule P lag s0 t →
    vV m_X6_at d d (vPi fun r T1 M1 => T = T1 ∧ cKeepW M M1 ∧ r = (if plate = -1 then (pTr rule P lag s0 m).1 else if plate = -2 then pOr (-6) (pTr rule P lag s0 m).2.2.1 else (pTr rule P lag s0 m).2.1 plate)) 59 [some (vR 0), some (vI rule), some (vI m), some (vI plate), some (vI t)] [] d T N := by
  refine vUp ?_
  intro t ht ih N hk hj
  have hS := hj.S
  have hn := hS.1.le
  have hg := hS.2.1
  have htu := hj.tu
  have hman := hj.man
  refine vV.iload dX6_at_59 rfl ?_
  refine vV.iload_n dX6_at_61 rfl ?_
  refine vV.icmp_ge (tgt := 86) dX6_at_62 (by decide) (fun h62 => ?_) (fun h62 => ?_)
  · skip
    have htm : t = m := by omega
    subst htm
    refine vV.iload_n dX6_at_86 rfl ?_
    refine vV.iconst dX6_at_87 (by decide) ?_
    refine vV.icmp_ne (tgt := 104) dX6_at_88 (by decide) (fun h88 => ?_) (fun h88 => ?_)
    · skip
      refine vV.iload_n dX6_at_104 rfl ?_
      refine vV.bipush (v := (-2)) dX6_at_105 (by decide) (by decide) ?_
      refine vV.icmp_ne (tgt := 133) dX6_at_107 (by decide) (fun h107 => ?_) (fun h107 => ?_)
      · skip
        refine vV.aload_n dX6_at_133 rfl ?_
        refine vV.getr dX6_at_134 fl_X6_33 (by first | rfl | assumption) rfl (by first | assumption | exact hB _ _ _ rfl) ?_
        refine vV.getr dX6_at_137 fl_X6_148 (by first | rfl | assumption) rfl (by first | assumption | exact hB _ _ _ rfl) ?_
        refine vV.getr dX6_at_140 fl_X6_82 (by first | rfl | assumption) rfl (by first | assumption | exact hB _ _ _ rfl) ?_
        refine vV.iload_n dX6_at_143 rfl ?_
        refine vV.iald dX6_at_144 (by first | rfl | assumption) (by omega) (by omega) ?_
        refine vV.ri dX6_at_145 rfl ?_
        exact ⟨rfl, hk, by rw [if_neg h88, if_neg h107, ← htu]⟩
      · skip
        refine vV.aload_n dX6_at_110 rfl ?_
        refine vV.getr dX6_at_111 fl_X6_33 (by first | rfl | assumption) rfl (by first | assumption | exact hB _ _ _ rfl) ?_
        refine vV.geti (z := 2) dX6_at_114 fl_X6_151 (by first | rfl | assumption) rfl rfl ?_
        refine vV.if_ge (tgt := 125) dX6_at_117 (by decide) (fun h117 => ?_) (fun h117 => ?_)
        · skip
          have hgo : pOr (-6) (pTr rule P lag s0 t).2.2.1 = N 70 2 := by { rw [hg] at h117 ⊢; cases hq : (pTr rule P lag s0 t).2.2.1 with | none => (rw [hq, pOr_n] at h117; omega) | some q => rfl }
          refine vV.aload_n dX6_at_125 rfl ?_
          refine vV.getr dX6_at_126 fl_X6_33 (by first | rfl | assumption) rfl (by first | assumption | exact hB _ _ _ rfl) ?_
          refine vV.geti (z := 2) dX6_at_129 fl_X6_151 (by first | rfl | assumption) rfl rfl ?_
          refine vV.ri dX6_at_132 rfl ?_
          exact ⟨rfl, hk, by rw [if_neg h88, if_pos h107, hgo]⟩
        · skip
          have hgo : pOr (-6) (pTr rule P lag s0 t).2.2.1 = -6 := by { rw [hg] at h117; cases hq : (pTr rule P lag s0 t).2.2.1 with | none => rfl | some q => (rw [hq, pOr_s] at h117; omega) }
          refine vV.bipush (v := (-6)) dX6_at_120 (by decide) (by decide) ?_
          refine vV.goto (tgt := 132) dX6_at_122 (by decide) ?_
          refine vV.ri dX6_at_132 rfl ?_
          exact ⟨rfl, hk, by rw [if_neg h88, if_pos h107, hgo]⟩
    · skip
      refine vV.aload_n dX6_at_91 rfl ?_
      refine vV.getr dX6_at_92 fl_X6_33 (by first | rfl | assumption) rfl (by first | assumption | exact hB _ _ _ rfl) ?_
      refine vV.getr dX6_at_95 fl_X6_148 (by first | rfl | assumption) rfl (by first | assumption | exact hB _ _ _ rfl) ?_
      refine vV.getr dX6_at_98 fl_X6_91 (by first | rfl | assumption) rfl (by first | assumption | exact hB _ _ _ rfl) ?_
      refine vV.iconst dX6_at_101 (by decide) ?_
      refine vV.iald dX6_at_102 (by first | rfl | assumption) (by omega) (by omega) ?_
      refine vV.ri dX6_at_103 rfl ?_
      exact ⟨rfl, hk, by rw [if_pos h88]; exact hman⟩
  · skip
    refine vV.aload_n dX6_at_65 rfl ?_
    refine vV.getr dX6_at_66 fl_X6_33 (by first | rfl | assumption) rfl (by first | assumption | exact hB _ _ _ rfl) ?_
    refine vV.aload_n dX6_at_69 rfl ?_
    refine vV.getr dX6_at_70 fl_X6_33 (by first | rfl | assumption) rfl (by first | assumption | exact hB _ _ _ rfl) ?_
    refine vV.iload_n dX6_at_73 rfl ?_
    refine vV.cVi dX6_at_74 ml_X6_144 cw_X5_choose iw_X5_choose (by first | rfl | assumption) rfl (by unfold vRoom; decide) (c_X5_chooseT hB hj (by omega) hr0 hr3) rfl rfl (Nat.le_of_ble_eq_true rfl) ?_
    rintro x74 _ N0 hx74 ⟨rfl, hch⟩
    refine vV.cVv dX6_at_77 ml_X6_147 cw_X5_act iw_X5_act (by first | rfl | assumption) rfl (by unfold vRoom; decide) (c_X5_actT hB hj (by omega) hch) rfl rfl (Nat.le_of_ble_eq_true rfl) ?_
    rintro _ N1 ⟨rfl, hk1, hj1⟩
    refine vV.iinc (L' := [_, _, _, _, _]) dX6_at_80 (by decide) rfl (⟨by omega, by omega⟩) rfl ?_
    refine vV.goto (tgt := 59) dX6_at_83 (by decide) ?_
    exact ih (by omega) N1 (hk.w hk1) hj1
theorem c_X6_at {d : List Nat} {T : vT} {M : vM} {n lag : Nat} {rule ticks plate : Int} (hB : vB T) (hW : sgW M 10 n) (hZ : sgZ M 30) (hlag : M 15 3 = lag) : vCon m_X6_at d d [vR 0, vI rule, vI ticks, vI plate] T M (vPi fun r T1 M1 => T = T1 ∧ cKeepW M M1 ∧ r = rAt rule ticks plate (cP M n) lag (cS0 M)) := by
  unfold rAt
  have hn := hW.le
  have hPn : ((cP M n).1 : Int) = (n : Int) := rfl
  have hc : M 10 0 = n := hW.cnt
  refine vCon.of (by decide) rfl rfl (Nat.le_of_ble_eq_true rfl) ?_
  have hgo : (plate = -1 ∨ plate = -2 ∨ (0 ≤ plate ∧ plate < n)) → vV m_X6_at d d (vPi fun r T1 M1 => T = T1 ∧ cKeepW M M1 ∧ r = (if plate ≠ -1 ∧ plate ≠ -2 ∧ ¬ (0 ≤ plate ∧ plate < (cP M n).1) then -1 else if ¬ (0 ≤ rule ∧ rule ≤ 3) ∨ ¬ (0 ≤ ticks ∧ ticks ≤ 600) then -2 else if plate = -1 then (pTr rule (cP M n) lag (cS0 M) ticks.toNat).1 else if plate = -2 then pOr (-6) (pTr rule (cP M n) lag (cS0 M) ticks.toNat).2.2.1 else (pTr rule (cP M n) lag (cS0 M) ticks.toNat).2.1 plate)) 24 [some (vR 0), some (vI rule), some (vI ticks), some (vI plate), none] [] d T M := by
    intro hpl
    rw [if_neg (by rw [hPn]; omega)]
    refine vV.iload_n dX6_at_24 rfl ?_
    refine vV.cSi dX6_at_25 ml_X6_132 cw_X6_isRule sw_X6_isRule (by unfold vRoom; decide) c_X6_isRule rfl rfl (Nat.le_of_ble_eq_true rfl) ?_
    rintro x25 _ _ hx25 ⟨hxe, rfl, rfl⟩
    refine vV.if_eq (tgt := 42) dX6_at_28 (by decide) (fun h28 => ?_) (fun h28 => ?_)
    · skip
      have hnr : ¬ (0 ≤ rule ∧ rule ≤ 3) := by { intro z; rw [hxe, if_pos z] at h28; omega }
      rw [if_pos (Or.inl hnr)]
      refine vV.bipush (v := (-2)) dX6_at_42 (by decide) (by decide) ?_
      refine vV.ri dX6_at_44 rfl ?_
      exact ⟨rfl, cKeepW.rf M, rfl⟩
    · skip
      have hir : 0 ≤ rule ∧ rule ≤ 3 := by { rcases Decidable.em (0 ≤ rule ∧ rule ≤ 3) with z | z; exact z; rw [hxe, if_neg z] at h28; omega }
      refine vV.iload_n dX6_at_31 rfl ?_
      refine vV.iconst dX6_at_32 (by decide) ?_
      refine vV.sipush (v := 600) dX6_at_33 (by decide) (by decide) ?_
      refine vV.cSi dX6_at_36 ml_X6_58 cw_X6_within sw_X6_within (by unfold vRoom; decide) c_X6_within rfl rfl (Nat.le_of_ble_eq_true rfl) ?_
      rintro x36 _ _ hx36 ⟨rfl, rfl, rfl⟩
      refine vV.if_ne (tgt := 45) dX6_at_39 (by decide) (fun h39 => ?_) (fun h39 => ?_)
      · skip
        have hti : 0 ≤ ticks ∧ ticks ≤ 600 := by { rcases Decidable.em (0 ≤ ticks ∧ ticks ≤ 600) with z | z; exact z; rw [if_neg z] at h39; omega }
        rw [if_neg (by omega)]
        refine vV.aload_n dX6_at_45 rfl ?_
        refine vV.getr dX6_at_46 fl_X6_33 (by first | rfl | assumption) rfl (by first | assumption | exact hB _ _ _ rfl) ?_
        refine vV.aload_n dX6_at_49 rfl ?_
        refine vV.getr dX6_at_50 fl_X6_10 (by first | rfl | assumption) rfl (by first | assumption | exact hB _ _ _ rfl) ?_
        refine vV.cVv dX6_at_53 ml_X6_135 cw_X5_begin iw_X5_begin (by first | rfl | assumption) rfl (by unfold vRoom; decide) (c_X5_begin hB hZ hW) rfl rfl (Nat.le_of_ble_eq_true rfl) ?_
        rintro _ N ⟨rfl, hb⟩
        obtain ⟨hj, hk⟩ := wTj_begin (rule := rule) hW hlag hb
        obtain ⟨m, hm⟩ : ∃ m : Nat, (m : Int) = ticks := ⟨ticks.toNat, by omega⟩
        subst hm
        rw [Int.toNat_natCast]
        refine vV.iconst dX6_at_56 (by decide) ?_
        refine vV.istore (L' := [_, _, _, _, _]) dX6_at_57 (by decide) rfl ?_
        exact l_X6_at hB hir.1 hir.2 (by omega) (by rw [hPn]; exact hpl) 0 (by omega) N hk hj
      · skip
        have hti : ¬ (0 ≤ ticks ∧ ticks ≤ 600) := by { intro z; rw [if_pos z] at h39; omega }
        rw [if_pos (Or.inr hti)]
        refine vV.bipush (v := (-2)) dX6_at_42 (by decide) (by decide) ?_
        refine vV.ri dX6_at_44 rfl ?_
        exact ⟨rfl, cKeepW.rf M, rfl⟩
  refine vV.iload_n dX6_at_0 rfl ?_
  refine vV.iconst dX6_at_1 (by decide) ?_
  refine vV.icmp_eq (tgt := 24) dX6_at_2 (by decide) (fun h2 => ?_) (fun h2 => ?_)
  · skip
    exact hgo (by omega)
  · skip
    refine vV.iload_n dX6_at_5 rfl ?_
    refine vV.bipush (v := (-2)) dX6_at_6 (by decide) (by decide) ?_
    refine vV.icmp_eq (tgt := 24) dX6_at_8 (by decide) (fun h8 => ?_) (fun h8 => ?_)
    · skip
      exact hgo (by omega)
    · skip
      refine vV.aload_n dX6_at_11 rfl ?_
      refine vV.getr dX6_at_12 fl_X6_10 (by first | rfl | assumption) rfl (by first | assumption | exact hB _ _ _ rfl) ?_
      refine vV.iload_n dX6_at_15 rfl ?_
      refine vV.cVi dX6_at_16 ml_X6_74 cw_X3_has iw_X3_has (by first | rfl | assumption) rfl (by unfold vRoom; decide) (c_X3_has sgK_10) rfl rfl (Nat.le_of_ble_eq_true rfl) ?_
      rintro x16 _ _ hx16 ⟨hxe, rfl, rfl⟩
      rw [hc] at hxe
      refine vV.if_ne (tgt := 24) dX6_at_19 (by decide) (fun h19 => ?_) (fun h19 => ?_)
      · skip
        have hip : 0 ≤ plate ∧ plate < n := by { rcases Decidable.em (0 ≤ plate ∧ plate < (n : Int)) with z | z; exact z; rw [hxe, if_neg z] at h19; omega }
        exact hgo (by omega)
      · skip
        have hip : ¬ (0 ≤ plate ∧ plate < n) := by { intro z; rw [hxe, if_pos z] at h19; omega }
        refine vV.iconst dX6_at_22 (by decide) ?_
        refine vV.ri dX6_at_23 rfl ?_
        exact ⟨rfl, cKeepW.rf M, by rw [if_pos (by rw [hPn]; exact ⟨h2, h8, hip⟩)]⟩
theorem dX6_round_0 : decode cX6_round 0 = .ok (.iload_n 1, 1) := by decide +kernel
theorem dX6_round_1 : decode cX6_round 1 = .ok (.invokestatic 132, 3) := by decide +kernel
theorem dX6_round_4 : decode cX6_round 4 = .ok (.ifCond .eq 12, 3) := by decide +kernel
theorem dX6_round_7 : decode cX6_round 7 = .ok (.iload_n 2, 1) := by decide +kernel
theorem dX6_round_8 : decode cX6_round 8 = .ok (.iconst 0, 1) := by decide +kernel
theorem dX6_round_9 : decode cX6_round 9 = .ok (.iconst 1, 1) := by decide +kernel
theorem dX6_round_10 : decode cX6_round 10 = .ok (.invokestatic 58, 3) := by decide +kernel
theorem dX6_round_13 : decode cX6_round 13 = .ok (.ifCond .ne 6, 3) := by decide +kernel
theorem dX6_round_16 : decode cX6_round 16 = .ok (.bipush (-2), 2) := by decide +kernel
theorem dX6_round_18 : decode cX6_round 18 = .ok (.ireturn, 1) := by decide +kernel
theorem dX6_round_19 : decode cX6_round 19 = .ok (.aload_n 0, 1) := by decide +kernel
theorem dX6_round_20 : decode cX6_round 20 = .ok (.getfield 10, 3) := by decide +kernel
theorem dX6_round_23 : decode cX6_round 23 = .ok (.invokevirtual 107, 3) := by decide +kernel
theorem dX6_round_26 : decode cX6_round 26 = .ok (.ifCond .ne 6, 3) := by decide +kernel
theorem dX6_round_29 : decode cX6_round 29 = .ok (.bipush (-3), 2) := by decide +kernel
theorem dX6_round_31 : decode cX6_round 31 = .ok (.ireturn, 1) := by decide +kernel
theorem dX6_round_32 : decode cX6_round 32 = .ok (.aload_n 0, 1) := by decide +kernel
theorem dX6_round_33 : decode cX6_round 33 = .ok (.getfield 33, 3) := by decide +kernel
theorem dX6_round_36 : decode cX6_round 36 = .ok (.aload_n 0, 1) := by decide +kernel
theorem dX6_round_37 : decode cX6_round 37 = .ok (.getfield 10, 3) := by decide +kernel
theorem dX6_round_40 : decode cX6_round 40 = .ok (.invokevirtual 135, 3) := by decide +kernel
theorem dX6_round_43 : decode cX6_round 43 = .ok (.aload_n 0, 1) := by decide +kernel
theorem dX6_round_44 : decode cX6_round 44 = .ok (.getfield 33, 3) := by decide +kernel
theorem dX6_round_47 : decode cX6_round 47 = .ok (.iload_n 1, 1) := by decide +kernel
theorem dX6_round_48 : decode cX6_round 48 = .ok (.invokevirtual 154, 3) := by decide +kernel
theorem dX6_round_51 : decode cX6_round 51 = .ok (.istore_n 3, 1) := by decide +kernel
theorem dX6_round_52 : decode cX6_round 52 = .ok (.iload_n 3, 1) := by decide +kernel
theorem dX6_round_53 : decode cX6_round 53 = .ok (.ifCond .ge 6, 3) := by decide +kernel
theorem dX6_round_56 : decode cX6_round 56 = .ok (.bipush (-6), 2) := by decide +kernel
theorem dX6_round_58 : decode cX6_round 58 = .ok (.ireturn, 1) := by decide +kernel
theorem dX6_round_59 : decode cX6_round 59 = .ok (.iload_n 2, 1) := by decide +kernel
theorem dX6_round_60 : decode cX6_round 60 = .ok (.ifCond .ne 7, 3) := by decide +kernel
theorem dX6_round_63 : decode cX6_round 63 = .ok (.iload_n 3, 1) := by decide +kernel
theorem dX6_round_64 : decode cX6_round 64 = .ok (.goto 12, 3) := by decide +kernel
theorem dX6_round_67 : decode cX6_round 67 = .ok (.aload_n 0, 1) := by decide +kernel
theorem dX6_round_68 : decode cX6_round 68 = .ok (.getfield 33, 3) := by decide +kernel
theorem dX6_round_71 : decode cX6_round 71 = .ok (.getfield 157, 3) := by decide +kernel
theorem dX6_round_74 : decode cX6_round 74 = .ok (.iload_n 3, 1) := by decide +kernel
theorem dX6_round_75 : decode cX6_round 75 = .ok (.isub, 1) := by decide +kernel
theorem dX6_round_76 : decode cX6_round 76 = .ok (.ireturn, 1) := by decide +kernel
def pRe (what : Int) : Option (Nat × Nat) → Int
  | none => -6
  | some (e, u) => if what = 0 then e else (u : Int) - e
def sRound (rule what : Int) (P : pP) (lag : Nat) (s0 : pS) (bits : Int) : Int := if ¬ (0 ≤ rule ∧ rule ≤ 3) ∨ ¬ (0 ≤ what ∧ what ≤ 1) then -2 else if bits = 0 then -3 else pRe what (pGr rule P lag s0)
theorem pGr_rg {rule : Int} {P : pP} {lag : Nat} {s0 : pS} {e u : Nat} (h : pGr rule P lag s0 = some (e, u)) : e < u ∧ u ≤ 600 := by
  unfold pGr at h
  cases hz : pFind (pGx rule P lag s0) 600 with
  | none => rw [hz] at h; cases h
  | some t =>
    have h1 := (pFind_some hz).1
    rw [hz] at h; simp only at h
    split at h
    · cases h
    · cases hy : pFe rule P lag s0 (t + 1) with
      | none => rw [hy] at h; cases h
      | some z => rw [hy] at h; cases h; have := (pFind_some hy).1; omega
theorem l_X6_round51 {d : List Nat} {T : vT} {M N1 : vM} {rule what x48 : Int} {o : Option (Nat × Nat)} (hB : vB T) (hk : cKeepW M N1) (hre : pGq x48 N1 o) (hrg : ∀ e u, o = some (e, u) → e < u ∧ u ≤ 600) : vV m_X6_round d d (vPi fun r T1 M1 => T = T1 ∧ cKeepW M M1 ∧ r = pRe what o) 51 [some (vR 0), some (vI rule), some (vI what), none] [vI x48] d T N1 := by
  cases o with
  | none =>
    have hre2 : x48 = -1 := hre
    subst hre2
    clear hrg
    refine vV.istore_n (L' := [_, _, _, _]) dX6_round_51 (by decide) rfl ?_
    refine vV.iload_n dX6_round_52 rfl ?_
    refine vV.if_ge (tgt := 59) dX6_round_53 (by decide) (fun h53 => ?_) (fun h53 => ?_)
    · skip
      omega
    · skip
      refine vV.bipush (v := (-6)) dX6_round_56 (by decide) (by decide) ?_
      refine vV.ri dX6_round_58 rfl ?_
      exact ⟨rfl, hk, rfl⟩
  | some z =>
    obtain ⟨e, u⟩ := z
    obtain ⟨hre2, hu⟩ : x48 = (e : Int) ∧ N1 70 1 = (u : Int) := hre
    subst hre2
    have heu := hrg e u rfl
    clear hrg
    refine vV.istore_n (L' := [_, _, _, _]) dX6_round_51 (by decide) rfl ?_
    refine vV.iload_n dX6_round_52 rfl ?_
    refine vV.if_ge (tgt := 59) dX6_round_53 (by decide) (fun h53 => ?_) (fun h53 => ?_)
    · skip
      refine vV.iload_n dX6_round_59 rfl ?_
      refine vV.if_ne (tgt := 67) dX6_round_60 (by decide) (fun h60 => ?_) (fun h60 => ?_)
      · skip
        refine vV.aload_n dX6_round_67 rfl ?_
        refine vV.getr dX6_round_68 fl_X6_33 (by first | rfl | assumption) rfl (by first | assumption | exact hB _ _ _ rfl) ?_
        refine vV.geti (z := 1) dX6_round_71 fl_X6_157 (by first | rfl | assumption) rfl rfl ?_
        refine vV.iload_n dX6_round_74 rfl ?_
        refine vV.isub dX6_round_75 (⟨by omega, by omega⟩) ?_
        refine vV.ri dX6_round_76 rfl ?_
        refine ⟨rfl, hk, ?_⟩; unfold pRe; simp only; first | rw [if_pos h60] | rw [if_neg h60, hu]
      · skip
        refine vV.iload_n dX6_round_63 rfl ?_
        refine vV.goto (tgt := 76) dX6_round_64 (by decide) ?_
        refine vV.ri dX6_round_76 rfl ?_
        refine ⟨rfl, hk, ?_⟩; unfold pRe; simp only; first | rw [if_pos h60] | rw [if_neg h60, hu]
    · skip
      omega
theorem c_X6_round {d : List Nat} {T : vT} {M : vM} {n lag : Nat} {rule what : Int} (hB : vB T) (hW : sgW M 10 n) (hZ : sgZ M 30) (hlag : M 15 3 = lag) : vCon m_X6_round d d [vR 0, vI rule, vI what] T M (vPi fun r T1 M1 => T = T1 ∧ cKeepW M M1 ∧ r = sRound rule what (cP M n) lag (cS0 M) (pBits (M 14) n)) := by
  unfold sRound
  obtain ⟨o, ho⟩ : ∃ o, o = pGr rule (cP M n) lag (cS0 M) := ⟨_, rfl⟩
  have hrg : ∀ e u, o = some (e, u) → e < u ∧ u ≤ 600 := fun e u h => pGr_rg (ho.symm.trans h)
  rw [← ho]
  refine vCon.of (by decide) rfl rfl (Nat.le_of_ble_eq_true rfl) ?_
  refine vV.iload_n dX6_round_0 rfl ?_
  refine vV.cSi dX6_round_1 ml_X6_132 cw_X6_isRule sw_X6_isRule (by unfold vRoom; decide) c_X6_isRule rfl rfl (Nat.le_of_ble_eq_true rfl) ?_
  rintro x1 _ _ hx1 ⟨hxe, rfl, rfl⟩
  refine vV.if_eq (tgt := 16) dX6_round_4 (by decide) (fun h4 => ?_) (fun h4 => ?_)
  · skip
    have hnr : ¬ (0 ≤ rule ∧ rule ≤ 3) := by { intro z; rw [hxe, if_pos z] at h4; omega }
    rw [if_pos (Or.inl hnr)]
    refine vV.bipush (v := (-2)) dX6_round_16 (by decide) (by decide) ?_
    refine vV.ri dX6_round_18 rfl ?_
    exact ⟨rfl, cKeepW.rf M, rfl⟩
  · skip
    have hir : 0 ≤ rule ∧ rule ≤ 3 := by { rcases Decidable.em (0 ≤ rule ∧ rule ≤ 3) with z | z; exact z; rw [hxe, if_neg z] at h4; omega }
    refine vV.iload_n dX6_round_7 rfl ?_
    refine vV.iconst dX6_round_8 (by decide) ?_
    refine vV.iconst dX6_round_9 (by decide) ?_
    refine vV.cSi dX6_round_10 ml_X6_58 cw_X6_within sw_X6_within (by unfold vRoom; decide) c_X6_within rfl rfl (Nat.le_of_ble_eq_true rfl) ?_
    rintro x10 _ _ hx10 ⟨rfl, rfl, rfl⟩
    refine vV.if_ne (tgt := 19) dX6_round_13 (by decide) (fun h13 => ?_) (fun h13 => ?_)
    · skip
      have hti : 0 ≤ what ∧ what ≤ 1 := by { rcases Decidable.em (0 ≤ what ∧ what ≤ 1) with z | z; exact z; rw [if_neg z] at h13; omega }
      rw [if_neg (by omega)]
      refine vV.aload_n dX6_round_19 rfl ?_
      refine vV.getr dX6_round_20 fl_X6_10 (by first | rfl | assumption) rfl (by first | assumption | exact hB _ _ _ rfl) ?_
      refine vV.cVi dX6_round_23 ml_X6_107 cw_X3_standing iw_X3_standing (by first | rfl | assumption) rfl (by unfold vRoom; decide) (c_X3_standing sgK_10 (sgT_10 hB) hW.cnt hW.le) rfl rfl (Nat.le_of_ble_eq_true rfl) ?_
      rintro x23 _ _ hx23 ⟨rfl, rfl, rfl⟩
      rw [show (10 : Nat) + 4 = 14 from rfl]
      refine vV.if_ne (tgt := 32) dX6_round_26 (by decide) (fun h26 => ?_) (fun h26 => ?_)
      · skip
        rw [if_neg h26]
        refine vV.aload_n dX6_round_32 rfl ?_
        refine vV.getr dX6_round_33 fl_X6_33 (by first | rfl | assumption) rfl (by first | assumption | exact hB _ _ _ rfl) ?_
        refine vV.aload_n dX6_round_36 rfl ?_
        refine vV.getr dX6_round_37 fl_X6_10 (by first | rfl | assumption) rfl (by first | assumption | exact hB _ _ _ rfl) ?_
        refine vV.cVv dX6_round_40 ml_X6_135 cw_X5_begin iw_X5_begin (by first | rfl | assumption) rfl (by unfold vRoom; decide) (c_X5_begin hB hZ hW) rfl rfl (Nat.le_of_ble_eq_true rfl) ?_
        rintro _ N ⟨rfl, hb⟩
        obtain ⟨hj, hk⟩ := wTj_begin (rule := rule) hW hlag hb
        refine vV.aload_n dX6_round_43 rfl ?_
        refine vV.getr dX6_round_44 fl_X6_33 (by first | rfl | assumption) rfl (by first | assumption | exact hB _ _ _ rfl) ?_
        refine vV.iload_n dX6_round_47 rfl ?_
        refine vV.cVi dX6_round_48 ml_X6_154 cw_X5_goUntilItComesAgain iw_X5_goUntilItComesAgain (by first | rfl | assumption) rfl (by unfold vRoom; decide) (c_X5_goUntilItComesAgain hB hir.1 hir.2 hj) rfl rfl (Nat.le_of_ble_eq_true rfl) ?_
        rintro x48 _ N1 hx48 ⟨rfl, hk1, o', ho', hre⟩
        rw [← ho] at ho'
        subst ho'
        exact l_X6_round51 hB (hk.w hk1) hre hrg
      · skip
        rw [if_pos h26]
        refine vV.bipush (v := (-3)) dX6_round_29 (by decide) (by decide) ?_
        refine vV.ri dX6_round_31 rfl ?_
        exact ⟨rfl, cKeepW.rf M, rfl⟩
    · skip
      have hti : ¬ (0 ≤ what ∧ what ≤ 1) := by { intro z; rw [if_pos z] at h13; omega }
      rw [if_pos (Or.inr hti)]
      refine vV.bipush (v := (-2)) dX6_round_16 (by decide) (by decide) ?_
      refine vV.ri dX6_round_18 rfl ?_
      exact ⟨rfl, cKeepW.rf M, rfl⟩
