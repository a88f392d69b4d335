/-! ===== own: load: the reference ===== -/
theorem dX7_load_0 : decode cX7_load 0 = .ok (.iload_n 1, 1) := by decide +kernel
theorem dX7_load_1 : decode cX7_load 1 = .ok (.i2l, 1) := by decide +kernel
theorem dX7_load_2 : decode cX7_load 2 = .ok (.lconst 0, 1) := by decide +kernel
theorem dX7_load_3 : decode cX7_load 3 = .ok (.lconst 1, 1) := by decide +kernel
theorem dX7_load_4 : decode cX7_load 4 = .ok (.invokestatic 92, 3) := by decide +kernel
theorem dX7_load_7 : decode cX7_load 7 = .ok (.ifCond .ne 6, 3) := by decide +kernel
theorem dX7_load_10 : decode cX7_load 10 = .ok (.bipush (-2), 2) := by decide +kernel
theorem dX7_load_12 : decode cX7_load 12 = .ok (.ireturn, 1) := by decide +kernel
theorem dX7_load_13 : decode cX7_load 13 = .ok (.iconst 0, 1) := by decide +kernel
theorem dX7_load_14 : decode cX7_load 14 = .ok (.istore_n 2, 1) := by decide +kernel
theorem dX7_load_15 : decode cX7_load 15 = .ok (.iconst 0, 1) := by decide +kernel
theorem dX7_load_16 : decode cX7_load 16 = .ok (.istore_n 3, 1) := by decide +kernel
theorem dX7_load_17 : decode cX7_load 17 = .ok (.iload_n 3, 1) := by decide +kernel
theorem dX7_load_18 : decode cX7_load 18 = .ok (.aload_n 0, 1) := by decide +kernel
theorem dX7_load_19 : decode cX7_load 19 = .ok (.getfield 89, 3) := by decide +kernel
theorem dX7_load_22 : decode cX7_load 22 = .ok (.if_icmp .ge 31, 3) := by decide +kernel
theorem dX7_load_25 : decode cX7_load 25 = .ok (.iload_n 2, 1) := by decide +kernel
theorem dX7_load_26 : decode cX7_load 26 = .ok (.aload_n 0, 1) := by decide +kernel
theorem dX7_load_27 : decode cX7_load 27 = .ok (.getfield 19, 3) := by decide +kernel
theorem dX7_load_30 : decode cX7_load 30 = .ok (.iload_n 3, 1) := by decide +kernel
theorem dX7_load_31 : decode cX7_load 31 = .ok (.iaload, 1) := by decide +kernel
theorem dX7_load_32 : decode cX7_load 32 = .ok (.ifCond .le 12, 3) := by decide +kernel
theorem dX7_load_35 : decode cX7_load 35 = .ok (.aload_n 0, 1) := by decide +kernel
theorem dX7_load_36 : decode cX7_load 36 = .ok (.getfield 16, 3) := by decide +kernel
theorem dX7_load_39 : decode cX7_load 39 = .ok (.iload_n 3, 1) := by decide +kernel
theorem dX7_load_40 : decode cX7_load 40 = .ok (.iaload, 1) := by decide +kernel
theorem dX7_load_41 : decode cX7_load 41 = .ok (.goto 4, 3) := by decide +kernel
theorem dX7_load_44 : decode cX7_load 44 = .ok (.iconst 0, 1) := by decide +kernel
theorem dX7_load_45 : decode cX7_load 45 = .ok (.iadd, 1) := by decide +kernel
theorem dX7_load_46 : decode cX7_load 46 = .ok (.istore_n 2, 1) := by decide +kernel
theorem dX7_load_47 : decode cX7_load 47 = .ok (.iinc 3 1, 3) := by decide +kernel
theorem dX7_load_50 : decode cX7_load 50 = .ok (.goto (-33), 3) := by decide +kernel
theorem dX7_load_53 : decode cX7_load 53 = .ok (.iload_n 2, 1) := by decide +kernel
theorem dX7_load_54 : decode cX7_load 54 = .ok (.ifCond .ne 5, 3) := by decide +kernel
theorem dX7_load_57 : decode cX7_load 57 = .ok (.iload_n 1, 1) := by decide +kernel
theorem dX7_load_58 : decode cX7_load 58 = .ok (.ireturn, 1) := by decide +kernel
theorem dX7_load_59 : decode cX7_load 59 = .ok (.iload_n 2, 1) := by decide +kernel
theorem dX7_load_60 : decode cX7_load 60 = .ok (.istore_n 3, 1) := by decide +kernel
theorem dX7_load_61 : decode cX7_load 61 = .ok (.aload_n 0, 1) := by decide +kernel
theorem dX7_load_62 : decode cX7_load 62 = .ok (.getfield 80, 3) := by decide +kernel
theorem dX7_load_65 : decode cX7_load 65 = .ok (.istore 4, 2) := by decide +kernel
theorem dX7_load_67 : decode cX7_load 67 = .ok (.iload 4, 2) := by decide +kernel
theorem dX7_load_69 : decode cX7_load 69 = .ok (.ifCond .eq 19, 3) := by decide +kernel
theorem dX7_load_72 : decode cX7_load 72 = .ok (.iload_n 3, 1) := by decide +kernel
theorem dX7_load_73 : decode cX7_load 73 = .ok (.iload 4, 2) := by decide +kernel
theorem dX7_load_75 : decode cX7_load 75 = .ok (.irem, 1) := by decide +kernel
theorem dX7_load_76 : decode cX7_load 76 = .ok (.istore 5, 2) := by decide +kernel
theorem dX7_load_78 : decode cX7_load 78 = .ok (.iload 4, 2) := by decide +kernel
theorem dX7_load_80 : decode cX7_load 80 = .ok (.istore_n 3, 1) := by decide +kernel
theorem dX7_load_81 : decode cX7_load 81 = .ok (.iload 5, 2) := by decide +kernel
theorem dX7_load_83 : decode cX7_load 83 = .ok (.istore 4, 2) := by decide +kernel
theorem dX7_load_85 : decode cX7_load 85 = .ok (.goto (-18), 3) := by decide +kernel
theorem dX7_load_88 : decode cX7_load 88 = .ok (.iload_n 1, 1) := by decide +kernel
theorem dX7_load_89 : decode cX7_load 89 = .ok (.ifCond .ne 9, 3) := by decide +kernel
theorem dX7_load_92 : decode cX7_load 92 = .ok (.iload_n 2, 1) := by decide +kernel
theorem dX7_load_93 : decode cX7_load 93 = .ok (.iload_n 3, 1) := by decide +kernel
theorem dX7_load_94 : decode cX7_load 94 = .ok (.idiv, 1) := by decide +kernel
theorem dX7_load_95 : decode cX7_load 95 = .ok (.goto 9, 3) := by decide +kernel
theorem dX7_load_98 : decode cX7_load 98 = .ok (.aload_n 0, 1) := by decide +kernel
theorem dX7_load_99 : decode cX7_load 99 = .ok (.getfield 80, 3) := by decide +kernel
theorem dX7_load_102 : decode cX7_load 102 = .ok (.iload_n 3, 1) := by decide +kernel
theorem dX7_load_103 : decode cX7_load 103 = .ok (.idiv, 1) := by decide +kernel
theorem dX7_load_104 : decode cX7_load 104 = .ok (.ireturn, 1) := by decide +kernel
theorem l_X7_ld67 {d : List Nat} {T : vT} {M : vM} {D u g : Nat} {w : Int} {Q : Int → vT → vM → Prop} (hB : vB T) (hg : M 200 6 = g) (hu : u ≤ 100) (hg6 : g ≤ 100) (hD0 : 0 < D) (hQ : Q (if w = 0 then ((u / D : Nat) : Int) else ((g / D : Nat) : Int)) T M) : ∀ y : Nat, ∀ (x : Nat) (x5 : Option vA), x ≤ 100 → y ≤ 100 → Nat.gcd x y = D → vV m_X7_load d d (vPi Q) 67 [some (vR 200), some (vI w), some (vI u), some (vI x), some (vI y), x5] [] d T M := by
  intro y
  induction y using Nat.strongRecOn with
  | ind y ih =>
    intro x x5 hx hy hD
    have hdiv : x / y ≤ x := Nat.div_le_self x y
    obtain ⟨q, hq⟩ : ∃ q : Nat, x / y = q := ⟨_, rfl⟩
    rw [hq] at hdiv
    have hd1 : u / D ≤ u := Nat.div_le_self _ _
    have hd2 : g / D ≤ g := Nat.div_le_self _ _
    obtain ⟨q1, hq1⟩ : ∃ q1 : Nat, u / D = q1 := ⟨_, rfl⟩
    obtain ⟨q2, hq2⟩ : ∃ q2 : Nat, g / D = q2 := ⟨_, rfl⟩
    rw [hq1] at hd1
    rw [hq2] at hd2
    rw [hq1, hq2] at hQ
    refine vV.iload dX7_load_67 rfl ?_
    refine vV.if_eq (tgt := 88) dX7_load_69 (by decide) (fun h69 => ?_) (fun h69 => ?_)
    · skip
      have hy0 : y = 0 := by omega
      subst hy0
      rw [Nat.gcd_zero_right] at hD
      subst hD
      refine vV.iload_n dX7_load_88 rfl ?_
      refine vV.if_ne (tgt := 98) dX7_load_89 (by decide) (fun h89 => ?_) (fun h89 => ?_)
      · skip
        rw [if_neg h89] at hQ
        refine vV.aload_n dX7_load_98 rfl ?_
        refine vV.geti (z := 6) dX7_load_99 fl_X7_80 (by first | rfl | assumption) rfl rfl ?_
        rw [hg]
        refine vV.iload_n dX7_load_102 rfl ?_
        refine vV.idiv dX7_load_103 (by omega) (by rw [td_nat]; (first | rw [hq] | rw [hq1] | rw [hq2]); exact ⟨by omega, by omega⟩) ?_
        rw [td_nat]
        (first | rw [hq1] | rw [hq2])
        refine vV.ri dX7_load_104 rfl ?_
        exact hQ
      · skip
        rw [if_pos h89] at hQ
        refine vV.iload_n dX7_load_92 rfl ?_
        refine vV.iload_n dX7_load_93 rfl ?_
        refine vV.idiv dX7_load_94 (by omega) (by rw [td_nat]; (first | rw [hq] | rw [hq1] | rw [hq2]); exact ⟨by omega, by omega⟩) ?_
        refine vV.goto (tgt := 104) dX7_load_95 (by decide) ?_
        rw [td_nat]
        (first | rw [hq1] | rw [hq2])
        refine vV.ri dX7_load_104 rfl ?_
        exact hQ
    · skip
      have hlt : x % y < y := Nat.mod_lt x (by omega)
      refine vV.iload_n dX7_load_72 rfl ?_
      refine vV.iload dX7_load_73 rfl ?_
      refine vV.irem dX7_load_75 (by omega) (by rw [td_nat]; (first | rw [hq] | rw [hq1] | rw [hq2]); exact ⟨by omega, by omega⟩) ?_
      rw [tm_nat]
      refine vV.istore (L' := [_, _, _, _, _, _]) dX7_load_76 (by decide) rfl ?_
      refine vV.iload dX7_load_78 rfl ?_
      refine vV.istore_n (L' := [_, _, _, _, _, _]) dX7_load_80 (by decide) rfl ?_
      refine vV.iload dX7_load_81 rfl ?_
      refine vV.istore (L' := [_, _, _, _, _, _]) dX7_load_83 (by decide) rfl ?_
      refine vV.goto (tgt := 67) dX7_load_85 (by decide) ?_
      exact ih (x % y) hlt y _ (by omega) (by omega) ((gcd_st x y).trans hD)
theorem l_X7_load {d : List Nat} {T : vT} {M : vM} {n g : Nat} {w : Int} (hB : vB T) (hc : M 200 4 = n) (hn : n ≤ 6) (hw : 0 ≤ w ∧ w ≤ 1) (hfa3 : ∀ j : Nat, 0 ≤ M 203 j ∧ M 203 j ≤ 3) (hg : M 200 6 = g) (hg6 : 1 ≤ g ∧ g ≤ 6) : ∀ p, p ≤ n →
    vV m_X7_load d d (vPi fun r T1 M1 => r = pLoadR (pFl (M 203) (M 204) n) g w ∧ T = T1 ∧ M = M1) 17 [some (vR 200), some (vI w), some (vI (pFl (M 203) (M 204) p : Nat)), some (vI p), none, none] [] d T M := by
  have hall := pFl_le (tu := M 204) hfa3 n
  refine vUp ?_
  intro p hp ih
  have h3 := pFl_le (tu := M 204) hfa3 p
  have h4 := hfa3 p
  refine vV.iload_n dX7_load_17 rfl ?_
  refine vV.aload_n dX7_load_18 rfl ?_
  refine vV.geti (z := 4) dX7_load_19 fl_X7_89 (by first | rfl | assumption) rfl rfl ?_
  refine vV.icmp_ge (tgt := 53) dX7_load_22 (by decide) (fun h22 => ?_) (fun h22 => ?_)
  · skip
    rw [show p = n by omega]
    refine vV.iload_n dX7_load_53 rfl ?_
    refine vV.if_ne (tgt := 59) dX7_load_54 (by decide) (fun h54 => ?_) (fun h54 => ?_)
    · skip
      refine vV.iload_n dX7_load_59 rfl ?_
      refine vV.istore_n (L' := [_, _, _, _, _, _]) dX7_load_60 (by decide) rfl ?_
      refine vV.aload_n dX7_load_61 rfl ?_
      refine vV.geti (z := 6) dX7_load_62 fl_X7_80 (by first | rfl | assumption) rfl rfl ?_
      rw [hg]
      refine vV.istore (L' := [_, _, _, _, _, _]) dX7_load_65 (by decide) rfl ?_
      refine l_X7_ld67 (D := Nat.gcd (pFl (M 203) (M 204) n) g) hB hg (by omega) (by omega) (Nat.gcd_pos_of_pos_right _ (by omega)) ⟨?_, rfl, rfl⟩ g _ _ (by omega) (by omega) rfl
      symm
      unfold pLoadR
      rw [if_neg (fun c => c hw), if_neg (by omega)]
    · skip
      refine vV.iload_n dX7_load_57 rfl ?_
      refine vV.ri dX7_load_58 rfl ?_
      have hu0 : pFl (M 203) (M 204) n = 0 := by omega
      refine ⟨?_, rfl, rfl⟩; unfold pLoadR; rw [if_neg (fun c => c hw), if_pos hu0]
  · skip
    refine vV.iload_n dX7_load_25 rfl ?_
    refine vV.aload_n dX7_load_26 rfl ?_
    refine vV.getr dX7_load_27 fl_X7_19 (by first | rfl | assumption) rfl (by first | assumption | exact hB _ _ _ rfl) ?_
    refine vV.iload_n dX7_load_30 rfl ?_
    refine vV.iald dX7_load_31 (by first | rfl | assumption) (by omega) (by omega) ?_
    refine vV.if_le (tgt := 44) dX7_load_32 (by decide) (fun h32 => ?_) (fun h32 => ?_)
    · skip
      rw [pFl_n (by omega)] at ih
      refine vV.iconst dX7_load_44 (by decide) ?_
      refine vV.iadd dX7_load_45 (⟨by omega, by omega⟩) ?_
      refine vV.istore_n (L' := [_, _, _, _, _, _]) dX7_load_46 (by decide) rfl ?_
      refine vV.iinc (L' := [_, _, _, _, _, _]) dX7_load_47 (by decide) rfl (⟨by omega, by omega⟩) rfl ?_
      refine vV.goto (tgt := 17) dX7_load_50 (by decide) ?_
      first | exact ih (by omega) | (rw [Int.add_zero]; exact ih (by omega))
    · skip
      rw [pFl_y (by omega) h4.1] at ih
      refine vV.aload_n dX7_load_35 rfl ?_
      refine vV.getr dX7_load_36 fl_X7_16 (by first | rfl | assumption) rfl (by first | assumption | exact hB _ _ _ rfl) ?_
      refine vV.iload_n dX7_load_39 rfl ?_
      refine vV.iald dX7_load_40 (by first | rfl | assumption) (by omega) (by omega) ?_
      refine vV.goto (tgt := 45) dX7_load_41 (by decide) ?_
      refine vV.iadd dX7_load_45 (⟨by omega, by omega⟩) ?_
      refine vV.istore_n (L' := [_, _, _, _, _, _]) dX7_load_46 (by decide) rfl ?_
      refine vV.iinc (L' := [_, _, _, _, _, _]) dX7_load_47 (by decide) rfl (⟨by omega, by omega⟩) rfl ?_
      refine vV.goto (tgt := 17) dX7_load_50 (by decide) ?_
      first | exact ih (by omega) | (rw [Int.add_zero]; exact ih (by omega))
theorem c_X7_load {d : List Nat} {T : vT} {M : vM} {n g : Nat} {w : Int} (hB : vB T) (hc : M 200 4 = n) (hn : n ≤ 6) (hfa3 : ∀ j : Nat, 0 ≤ M 203 j ∧ M 203 j ≤ 3) (hg : M 200 6 = g) (hg6 : 1 ≤ g ∧ g ≤ 6) : vCon m_X7_load d d [vR 200, vI w] T M (vPi fun r T1 M1 => r = pLoadR (pFl (M 203) (M 204) n) g w ∧ T = T1 ∧ M = M1) := by
  refine vCon.of (by decide) rfl rfl (Nat.le_of_ble_eq_true rfl) ?_
  refine vV.iload_n dX7_load_0 rfl ?_
  refine vV.i2l dX7_load_1 ?_
  refine vV.lconst (v := 0) dX7_load_2 (by decide) (by decide) ?_
  refine vV.lconst (v := 1) dX7_load_3 (by decide) (by decide) ?_
  refine vV.cSi dX7_load_4 ml_X7_92 cw_X7_in sw_X7_in (by unfold vRoom; decide) c_X7_in rfl rfl (Nat.le_of_ble_eq_true rfl) ?_
  rintro x4 _ _ hx4 ⟨hy4, rfl, rfl⟩
  unfold pIn at hy4
  refine vV.if_ne (tgt := 13) dX7_load_7 (by decide) (fun h7 => ?_) (fun h7 => ?_)
  · skip
    have hw := yes01 hy4 h7
    refine vV.iconst dX7_load_13 (by decide) ?_
    refine vV.istore_n (L' := [_, _, _, _, _, _]) dX7_load_14 (by decide) rfl ?_
    refine vV.iconst dX7_load_15 (by decide) ?_
    refine vV.istore_n (L' := [_, _, _, _, _, _]) dX7_load_16 (by decide) rfl ?_
    exact l_X7_load hB hc hn hw hfa3 hg hg6 0 (by omega)
  · skip
    have e2 : pLoadR (pFl (M 203) (M 204) n) g w = -2 := if_pos (no01 hy4 h7)
    refine vV.bipush (v := (-2)) dX7_load_10 (by decide) (by decide) ?_
    refine vV.ri dX7_load_12 rfl ?_
    exact ⟨e2.symm, rfl, rfl⟩
