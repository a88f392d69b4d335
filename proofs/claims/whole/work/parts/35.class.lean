/-! ===== own: the class: tick, say, wipe, fault ===== -/
def pTickR (P : pP) (s : pPos) (y : Int) : Int := if ¬ (0 ≤ y ∧ y ≤ 3) then -2 else if pCn P y s = false then -5 else pBits (pT1 P y s).2 P.1
theorem dX6_tick_0 : decode cX6_tick 0 = .ok (.iload_n 1, 1) := by decide +kernel
theorem dX6_tick_1 : decode cX6_tick 1 = .ok (.iconst 0, 1) := by decide +kernel
theorem dX6_tick_2 : decode cX6_tick 2 = .ok (.iconst 3, 1) := by decide +kernel
theorem dX6_tick_3 : decode cX6_tick 3 = .ok (.invokestatic 58, 3) := by decide +kernel
theorem dX6_tick_6 : decode cX6_tick 6 = .ok (.ifCond .ne 6, 3) := by decide +kernel
theorem dX6_tick_9 : decode cX6_tick 9 = .ok (.bipush (-2), 2) := by decide +kernel
theorem dX6_tick_11 : decode cX6_tick 11 = .ok (.ireturn, 1) := by decide +kernel
theorem dX6_tick_12 : decode cX6_tick 12 = .ok (.aload_n 0, 1) := by decide +kernel
theorem dX6_tick_13 : decode cX6_tick 13 = .ok (.getfield 10, 3) := by decide +kernel
theorem dX6_tick_16 : decode cX6_tick 16 = .ok (.iload_n 1, 1) := by decide +kernel
theorem dX6_tick_17 : decode cX6_tick 17 = .ok (.invokevirtual 100, 3) := by decide +kernel
theorem dX6_tick_20 : decode cX6_tick 20 = .ok (.ifCond .ne 6, 3) := by decide +kernel
theorem dX6_tick_23 : decode cX6_tick 23 = .ok (.bipush (-5), 2) := by decide +kernel
theorem dX6_tick_25 : decode cX6_tick 25 = .ok (.ireturn, 1) := by decide +kernel
theorem dX6_tick_26 : decode cX6_tick 26 = .ok (.aload_n 0, 1) := by decide +kernel
theorem dX6_tick_27 : decode cX6_tick 27 = .ok (.getfield 10, 3) := by decide +kernel
theorem dX6_tick_30 : decode cX6_tick 30 = .ok (.iload_n 1, 1) := by decide +kernel
theorem dX6_tick_31 : decode cX6_tick 31 = .ok (.invokevirtual 103, 3) := by decide +kernel
theorem dX6_tick_34 : decode cX6_tick 34 = .ok (.aload_n 0, 1) := by decide +kernel
theorem dX6_tick_35 : decode cX6_tick 35 = .ok (.getfield 10, 3) := by decide +kernel
theorem dX6_tick_38 : decode cX6_tick 38 = .ok (.invokevirtual 107, 3) := by decide +kernel
theorem dX6_tick_41 : decode cX6_tick 41 = .ok (.ireturn, 1) := by decide +kernel
theorem c_X6_tick {d : List Nat} {T : vT} {M : vM} {n : Nat} {y : Int} (hB : vB T) (hW : sgW M 10 n) : vCon m_X6_tick d d [vR 0, vI y] T M (vPi fun r T1 M1 => T = T1 ∧ r = pTickR (cP M n) (M 15 0, M 14) y ∧ M1 = (if 0 ≤ pTickR (cP M n) (M 15 0, M 14) y then sgAct M 10 n y else M) ∧ sgW M1 10 n) := by
  refine vCon.of (by decide) rfl rfl (Nat.le_of_ble_eq_true rfl) ?_
  refine vV.iload_n dX6_tick_0 rfl ?_
  refine vV.iconst dX6_tick_1 (by decide) ?_
  refine vV.iconst dX6_tick_2 (by decide) ?_
  refine vV.cSi dX6_tick_3 ml_X6_58 cw_X6_within sw_X6_within (by unfold vRoom; decide) c_X6_within rfl rfl (Nat.le_of_ble_eq_true rfl) ?_
  rintro x3 _ _ hx3 ⟨hy3, rfl, rfl⟩
  refine vV.if_ne (tgt := 12) dX6_tick_6 (by decide) (fun h6 => ?_) (fun h6 => ?_)
  · skip
    have g1 := yes01 hy3 h6
    refine vV.aload_n dX6_tick_12 rfl ?_
    refine vV.getr dX6_tick_13 fl_X6_10 (by first | rfl | assumption) rfl (by first | assumption | exact hB _ _ _ rfl) ?_
    refine vV.iload_n dX6_tick_16 rfl ?_
    refine vV.cVi dX6_tick_17 ml_X6_100 cw_X3_can iw_X3_can (by first | rfl | assumption) rfl (by unfold vRoom; decide) (c_X3_can sgK_10 (sgT_10 hB) hW g1.1 g1.2) rfl rfl (Nat.le_of_ble_eq_true rfl) ?_
    rintro x17 _ _ hx17 ⟨hy17, rfl, rfl⟩
    subst hy17
    refine vV.if_ne (tgt := 26) dX6_tick_20 (by decide) (fun h20 => ?_) (fun h20 => ?_)
    · skip
      have hye := bI_ne h20
      have hA := sgW_act hW hye
      refine vV.aload_n dX6_tick_26 rfl ?_
      refine vV.getr dX6_tick_27 fl_X6_10 (by first | rfl | assumption) rfl (by first | assumption | exact hB _ _ _ rfl) ?_
      refine vV.iload_n dX6_tick_30 rfl ?_
      refine vV.cVv dX6_tick_31 ml_X6_103 cw_X3_act iw_X3_act (by first | rfl | assumption) rfl (by unfold vRoom; decide) (c_X3_act sgK_10 (sgT_10 hB) hW) rfl rfl (Nat.le_of_ble_eq_true rfl) ?_
      rintro _ _ ⟨rfl, rfl⟩
      refine vV.aload_n dX6_tick_34 rfl ?_
      refine vV.getr dX6_tick_35 fl_X6_10 (by first | rfl | assumption) rfl (by first | assumption | exact hB _ _ _ rfl) ?_
      refine vV.cVi dX6_tick_38 ml_X6_107 cw_X3_standing iw_X3_standing (by first | rfl | assumption) rfl (by unfold vRoom; decide) (c_X3_standing sgK_10 (sgT_10 hB) hA.cnt hA.le) rfl rfl (Nat.le_of_ble_eq_true rfl) ?_
      rintro x38 _ _ hx38 ⟨hy38, rfl, rfl⟩
      have e2 : pTickR (cP M n) (M 15 0, M 14) y = x38 := by { unfold pTickR; rw [if_neg (fun c => c g1), if_neg (by rw [show pCn (cP M n) y (M 15 0, M 14) = true from hye]; simp), hy38]; rfl }
      have hp0 := (pBits_rg (sgAct M 10 n y (10 + 4)) n).1
      rw [← hy38] at hp0
      refine vV.ri dX6_tick_41 rfl ?_
      exact ⟨rfl, e2.symm, by rw [e2, if_pos hp0], hA⟩
    · skip
      have e2 : pTickR (cP M n) (M 15 0, M 14) y = -5 := by { unfold pTickR; rw [if_neg (fun c => c g1), if_pos (show pCn (cP M n) y (M 15 0, M 14) = false from bI_eq h20)] }
      refine vV.bipush (v := (-5)) dX6_tick_23 (by decide) (by decide) ?_
      refine vV.ri dX6_tick_25 rfl ?_
      exact ⟨rfl, e2.symm, by rw [e2]; rfl, hW⟩
  · skip
    have e2 : pTickR (cP M n) (M 15 0, M 14) y = -2 := if_pos (no01 hy3 h6)
    refine vV.bipush (v := (-2)) dX6_tick_9 (by decide) (by decide) ?_
    refine vV.ri dX6_tick_11 rfl ?_
    exact ⟨rfl, e2.symm, by rw [e2]; rfl, hW⟩
def pSayR (m : Nat) (c : Int) : Int := if ¬ (33 ≤ c ∧ c ≤ 126) then -2 else if m < 40 then (m : Int) + 1 else -4
theorem dX6_say_0 : decode cX6_say 0 = .ok (.iload_n 1, 1) := by decide +kernel
theorem dX6_say_1 : decode cX6_say 1 = .ok (.bipush 33, 2) := by decide +kernel
theorem dX6_say_3 : decode cX6_say 3 = .ok (.bipush 126, 2) := by decide +kernel
theorem dX6_say_5 : decode cX6_say 5 = .ok (.invokestatic 58, 3) := by decide +kernel
theorem dX6_say_8 : decode cX6_say 8 = .ok (.ifCond .ne 6, 3) := by decide +kernel
theorem dX6_say_11 : decode cX6_say 11 = .ok (.bipush (-2), 2) := by decide +kernel
theorem dX6_say_13 : decode cX6_say 13 = .ok (.ireturn, 1) := by decide +kernel
theorem dX6_say_14 : decode cX6_say 14 = .ok (.aload_n 0, 1) := by decide +kernel
theorem dX6_say_15 : decode cX6_say 15 = .ok (.getfield 26, 3) := by decide +kernel
theorem dX6_say_18 : decode cX6_say 18 = .ok (.iload_n 1, 1) := by decide +kernel
theorem dX6_say_19 : decode cX6_say 19 = .ok (.invokevirtual 111, 3) := by decide +kernel
theorem dX6_say_22 : decode cX6_say 22 = .ok (.ifCond .eq 13, 3) := by decide +kernel
theorem dX6_say_25 : decode cX6_say 25 = .ok (.aload_n 0, 1) := by decide +kernel
theorem dX6_say_26 : decode cX6_say 26 = .ok (.getfield 26, 3) := by decide +kernel
theorem dX6_say_29 : decode cX6_say 29 = .ok (.getfield 113, 3) := by decide +kernel
theorem dX6_say_32 : decode cX6_say 32 = .ok (.goto 5, 3) := by decide +kernel
theorem dX6_say_35 : decode cX6_say 35 = .ok (.bipush (-4), 2) := by decide +kernel
theorem dX6_say_37 : decode cX6_say 37 = .ok (.ireturn, 1) := by decide +kernel
theorem c_X6_say {d : List Nat} {T : vT} {M : vM} {m : Nat} {c : Int} (hB : vB T) (hm : M 60 0 = m) (hle : m ≤ 40) : vCon m_X6_say d d [vR 0, vI c] T M (vPi fun r T1 M1 => T = T1 ∧ r = pSayR m c ∧ M1 = (if 0 ≤ pSayR m c then vUpd (vUpd M 61 m c) 60 0 (m + 1) else M)) := by
  refine vCon.of (by decide) rfl rfl (Nat.le_of_ble_eq_true rfl) ?_
  refine vV.iload_n dX6_say_0 rfl ?_
  refine vV.bipush (v := 33) dX6_say_1 (by decide) (by decide) ?_
  refine vV.bipush (v := 126) dX6_say_3 (by decide) (by decide) ?_
  refine vV.cSi dX6_say_5 ml_X6_58 cw_X6_within sw_X6_within (by unfold vRoom; decide) c_X6_within rfl rfl (Nat.le_of_ble_eq_true rfl) ?_
  rintro x5 _ _ hx5 ⟨hy5, rfl, rfl⟩
  refine vV.if_ne (tgt := 14) dX6_say_8 (by decide) (fun h8 => ?_) (fun h8 => ?_)
  · skip
    have g1 := yes01 hy5 h8
    refine vV.aload_n dX6_say_14 rfl ?_
    refine vV.getr dX6_say_15 fl_X6_26 (by first | rfl | assumption) rfl (by first | assumption | exact hB _ _ _ rfl) ?_
    refine vV.iload_n dX6_say_18 rfl ?_
    refine vV.cVi dX6_say_19 ml_X6_111 cw_X1_add iw_X1_add (by first | rfl | assumption) rfl (by unfold vRoom; decide) (c_X1_add hB hm hle) rfl rfl (Nat.le_of_ble_eq_true rfl) ?_
    rintro x19 _ _ hx19 ⟨hy19, rfl, rfl⟩
    refine vV.if_eq (tgt := 35) dX6_say_22 (by decide) (fun h22 => ?_) (fun h22 => ?_)
    · skip
      have hlt := no01 hy19 h22
      have e2 : pSayR m c = -4 := by { unfold pSayR; rw [if_neg (fun c => c g1), if_neg hlt] }
      rw [if_neg hlt]
      refine vV.bipush (v := (-4)) dX6_say_35 (by decide) (by decide) ?_
      refine vV.ri dX6_say_37 rfl ?_
      first | exact ⟨rfl, by rw [e2, vUpd_s], by rw [e2, if_pos (by omega)]⟩ | exact ⟨rfl, e2.symm, by rw [e2]; rfl⟩
    · skip
      have hlt := yes01 hy19 h22
      have e2 : pSayR m c = (m : Int) + 1 := by { unfold pSayR; rw [if_neg (fun c => c g1), if_pos hlt] }
      rw [if_pos hlt]
      refine vV.aload_n dX6_say_25 rfl ?_
      refine vV.getr dX6_say_26 fl_X6_26 (by first | rfl | assumption) rfl (by first | assumption | exact hB _ _ _ rfl) ?_
      refine vV.geti (z := 0) dX6_say_29 fl_X6_113 (by first | rfl | assumption) rfl rfl ?_
      refine vV.goto (tgt := 37) dX6_say_32 (by decide) ?_
      refine vV.ri dX6_say_37 rfl ?_
      first | exact ⟨rfl, by rw [e2, vUpd_s], by rw [e2, if_pos (by omega)]⟩ | exact ⟨rfl, e2.symm, by rw [e2]; rfl⟩
  · skip
    have e2 : pSayR m c = -2 := if_pos (no01 hy5 h8)
    refine vV.bipush (v := (-2)) dX6_say_11 (by decide) (by decide) ?_
    refine vV.ri dX6_say_13 rfl ?_
    exact ⟨rfl, e2.symm, by rw [e2]; rfl⟩
theorem dX6_wipe_0 : decode cX6_wipe 0 = .ok (.aload_n 0, 1) := by decide +kernel
theorem dX6_wipe_1 : decode cX6_wipe 1 = .ok (.getfield 26, 3) := by decide +kernel
theorem dX6_wipe_4 : decode cX6_wipe 4 = .ok (.getfield 113, 3) := by decide +kernel
theorem dX6_wipe_7 : decode cX6_wipe 7 = .ok (.istore_n 1, 1) := by decide +kernel
theorem dX6_wipe_8 : decode cX6_wipe 8 = .ok (.aload_n 0, 1) := by decide +kernel
theorem dX6_wipe_9 : decode cX6_wipe 9 = .ok (.getfield 26, 3) := by decide +kernel
theorem dX6_wipe_12 : decode cX6_wipe 12 = .ok (.iconst 0, 1) := by decide +kernel
theorem dX6_wipe_13 : decode cX6_wipe 13 = .ok (.putfield 113, 3) := by decide +kernel
theorem dX6_wipe_16 : decode cX6_wipe 16 = .ok (.iload_n 1, 1) := by decide +kernel
theorem dX6_wipe_17 : decode cX6_wipe 17 = .ok (.ireturn, 1) := by decide +kernel
theorem c_X6_wipe {d : List Nat} {T : vT} {M : vM} (hB : vB T) : vCon m_X6_wipe d d [vR 0] T M (vPi fun r T1 M1 => T = T1 ∧ r = M 60 0 ∧ M1 = vUpd M 60 0 0) := by
  refine vCon.of (by decide) rfl rfl (Nat.le_of_ble_eq_true rfl) ?_
  refine vV.aload_n dX6_wipe_0 rfl ?_
  refine vV.getr dX6_wipe_1 fl_X6_26 (by first | rfl | assumption) rfl (by first | assumption | exact hB _ _ _ rfl) ?_
  refine vV.geti (z := 0) dX6_wipe_4 fl_X6_113 (by first | rfl | assumption) rfl rfl ?_
  refine vV.istore_n (L' := [_, _]) dX6_wipe_7 (by decide) rfl ?_
  refine vV.aload_n dX6_wipe_8 rfl ?_
  refine vV.getr dX6_wipe_9 fl_X6_26 (by first | rfl | assumption) rfl (by first | assumption | exact hB _ _ _ rfl) ?_
  refine vV.iconst dX6_wipe_12 (by decide) ?_
  refine vV.puti (z := 0) dX6_wipe_13 fl_X6_113 (by first | rfl | assumption) rfl rfl ?_
  refine vV.iload_n dX6_wipe_16 rfl ?_
  refine vV.ri dX6_wipe_17 rfl ?_
  exact ⟨rfl, rfl, rfl⟩
theorem dX6_fault_0 : decode cX6_fault 0 = .ok (.aload_n 0, 1) := by decide +kernel
theorem dX6_fault_1 : decode cX6_fault 1 = .ok (.getfield 26, 3) := by decide +kernel
theorem dX6_fault_4 : decode cX6_fault 4 = .ok (.invokevirtual 116, 3) := by decide +kernel
theorem dX6_fault_7 : decode cX6_fault 7 = .ok (.istore_n 1, 1) := by decide +kernel
theorem dX6_fault_8 : decode cX6_fault 8 = .ok (.iload_n 1, 1) := by decide +kernel
theorem dX6_fault_9 : decode cX6_fault 9 = .ok (.ifCond .ge 8, 3) := by decide +kernel
theorem dX6_fault_12 : decode cX6_fault 12 = .ok (.bipush (-6), 2) := by decide +kernel
theorem dX6_fault_14 : decode cX6_fault 14 = .ok (.goto 4, 3) := by decide +kernel
theorem dX6_fault_17 : decode cX6_fault 17 = .ok (.iload_n 1, 1) := by decide +kernel
theorem dX6_fault_18 : decode cX6_fault 18 = .ok (.ireturn, 1) := by decide +kernel
theorem c_X6_fault {d : List Nat} {T : vT} {M : vM} {m : Nat} (hB : vB T) (hm : M 60 0 = m) (hle : m ≤ 40) : vCon m_X6_fault d d [vR 0] T M (vPi fun r T1 M1 => r = pOr (-6) (pFind (pBad (M 61)) m) ∧ T = T1 ∧ M = M1) := by
  refine vCon.of (by decide) rfl rfl (Nat.le_of_ble_eq_true rfl) ?_
  refine vV.aload_n dX6_fault_0 rfl ?_
  refine vV.getr dX6_fault_1 fl_X6_26 (by first | rfl | assumption) rfl (by first | assumption | exact hB _ _ _ rfl) ?_
  refine vV.cVi dX6_fault_4 ml_X6_116 cw_X1_firstFault iw_X1_firstFault (by first | rfl | assumption) rfl (by unfold vRoom; decide) (c_X1_firstFault hB hm hle) rfl rfl (Nat.le_of_ble_eq_true rfl) ?_
  rintro x4 _ _ hx4 ⟨hy4, rfl, rfl⟩
  subst hy4
  refine vV.istore_n (L' := [_, _]) dX6_fault_7 (by decide) rfl ?_
  refine vV.iload_n dX6_fault_8 rfl ?_
  refine vV.if_ge (tgt := 17) dX6_fault_9 (by decide) (fun h9 => ?_) (fun h9 => ?_)
  · skip
    obtain ⟨q, hq⟩ := Option.isSome_iff_exists.mp (pOr_some h9)
    rw [hq]
    refine vV.iload_n dX6_fault_17 rfl ?_
    refine vV.ri dX6_fault_18 rfl ?_
    exact ⟨rfl, rfl, rfl⟩
  · skip
    rw [pOr_none h9]
    refine vV.bipush (v := (-6)) dX6_fault_12 (by decide) (by decide) ?_
    refine vV.goto (tgt := 18) dX6_fault_14 (by decide) ?_
    refine vV.ri dX6_fault_18 rfl ?_
    exact ⟨rfl, rfl, rfl⟩
