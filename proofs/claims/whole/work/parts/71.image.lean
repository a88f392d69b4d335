/-! ===== own: the class: image, restore ===== -/
theorem stT_o {T : vT} {a k : Nat} (h : k < a ∨ a + 5 < k) : stT T a k = T k := by
  funext j
  unfold stT vUpT vClT
  simp only [show ¬ k = a by omega, show ¬ k = a + 1 by omega, show ¬ k = a + 2 by omega, show ¬ k = a + 3 by omega, show ¬ k = a + 4 by omega, show ¬ k = a + 5 by omega, if_false, false_and]
theorem stT_a {T : vT} {a : Nat} : sgT (stT T a) a := by
  unfold sgT stT vUpT vClT
  refine ⟨?_, ?_, ?_, ?_, ?_⟩ <;> simp
theorem stM_o {M : vM} {a k : Nat} (h : k < a + 1 ∨ a + 5 < k) : stM M a k = M k := by
  unfold stM
  rw [vRow_n (by omega)]
  funext j
  unfold vClr
  simp only [show ¬ k = a + 1 by omega, show ¬ k = a + 2 by omega, show ¬ k = a + 3 by omega, show ¬ k = a + 4 by omega, if_false]
theorem vClr_s (M : vM) (k : Nat) (j : Int) : vClr M k k j = 0 := if_pos rfl
theorem vClr_n {M : vM} {k a : Nat} {j : Int} (h : a ≠ k) : vClr M k a j = M a j := if_neg h
theorem stM_z (M : vM) (a : Nat) : sgZ (stM M a) a := by
  unfold sgZ stM
  refine ⟨fun j _ => ⟨?_, ?_, ?_, ?_⟩, fun j hj => ?_⟩
  · rw [vRow_n (by omega), vClr_n (by omega), vClr_n (by omega), vClr_n (by omega), vClr_s]
  · rw [vRow_n (by omega), vClr_n (by omega), vClr_n (by omega), vClr_s]
  · rw [vRow_n (by omega), vClr_n (by omega), vClr_s]
  · rw [vRow_n (by omega), vClr_s]
  · rw [vRow_s]; unfold vFi; rw [if_neg (by omega)]
def imT (T : vT) (a n : Nat) : vT := vUpT (stT (vClT T a) a) 1 n (some a)
def imM (M : vM) (a : Nat) : vM := sgCp (stM (vClr M a) a) a 10
theorem sgZ_o {M N : vM} {a : Nat} (h1 : N (a + 1) = M (a + 1)) (h2 : N (a + 2) = M (a + 2)) (h3 : N (a + 3) = M (a + 3)) (h4 : N (a + 4) = M (a + 4)) (h5 : N (a + 5) = M (a + 5)) (h : sgZ M a) : sgZ N a := by
  unfold sgZ at h ⊢; rw [h1, h2, h3, h4, h5]; exact h
theorem dX6_image_0 : decode cX6_image 0 = .ok (.iload_n 1, 1) := by decide +kernel
theorem dX6_image_1 : decode cX6_image 1 = .ok (.iconst 0, 1) := by decide +kernel
theorem dX6_image_2 : decode cX6_image 2 = .ok (.iconst 1, 1) := by decide +kernel
theorem dX6_image_3 : decode cX6_image 3 = .ok (.invokestatic 58, 3) := by decide +kernel
theorem dX6_image_6 : decode cX6_image 6 = .ok (.ifCond .ne 6, 3) := by decide +kernel
theorem dX6_image_9 : decode cX6_image 9 = .ok (.bipush (-2), 2) := by decide +kernel
theorem dX6_image_11 : decode cX6_image 11 = .ok (.ireturn, 1) := by decide +kernel
theorem dX6_image_12 : decode cX6_image 12 = .ok (.aload_n 0, 1) := by decide +kernel
theorem dX6_image_13 : decode cX6_image 13 = .ok (.getfield 19, 3) := by decide +kernel
theorem dX6_image_16 : decode cX6_image 16 = .ok (.iload_n 1, 1) := by decide +kernel
theorem dX6_image_17 : decode cX6_image 17 = .ok (.aaload, 1) := by decide +kernel
theorem dX6_image_18 : decode cX6_image 18 = .ok (.ifnonnull 16, 3) := by decide +kernel
theorem dX6_image_21 : decode cX6_image 21 = .ok (.aload_n 0, 1) := by decide +kernel
theorem dX6_image_22 : decode cX6_image 22 = .ok (.getfield 19, 3) := by decide +kernel
theorem dX6_image_25 : decode cX6_image 25 = .ok (.iload_n 1, 1) := by decide +kernel
theorem dX6_image_26 : decode cX6_image 26 = .ok (.new 7, 3) := by decide +kernel
theorem dX6_image_29 : decode cX6_image 29 = .ok (.dup, 1) := by decide +kernel
theorem dX6_image_30 : decode cX6_image 30 = .ok (.invokespecial 9, 3) := by decide +kernel
theorem dX6_image_33 : decode cX6_image 33 = .ok (.aastore, 1) := by decide +kernel
theorem dX6_image_34 : decode cX6_image 34 = .ok (.aload_n 0, 1) := by decide +kernel
theorem dX6_image_35 : decode cX6_image 35 = .ok (.getfield 19, 3) := by decide +kernel
theorem dX6_image_38 : decode cX6_image 38 = .ok (.iload_n 1, 1) := by decide +kernel
theorem dX6_image_39 : decode cX6_image 39 = .ok (.aaload, 1) := by decide +kernel
theorem dX6_image_40 : decode cX6_image 40 = .ok (.aload_n 0, 1) := by decide +kernel
theorem dX6_image_41 : decode cX6_image 41 = .ok (.getfield 10, 3) := by decide +kernel
theorem dX6_image_44 : decode cX6_image 44 = .ok (.invokevirtual 119, 3) := by decide +kernel
theorem dX6_image_47 : decode cX6_image 47 = .ok (.iconst 1, 1) := by decide +kernel
theorem dX6_image_48 : decode cX6_image 48 = .ok (.ireturn, 1) := by decide +kernel
theorem dX6_restore_0 : decode cX6_restore 0 = .ok (.iload_n 1, 1) := by decide +kernel
theorem dX6_restore_1 : decode cX6_restore 1 = .ok (.iconst 0, 1) := by decide +kernel
theorem dX6_restore_2 : decode cX6_restore 2 = .ok (.iconst 1, 1) := by decide +kernel
theorem dX6_restore_3 : decode cX6_restore 3 = .ok (.invokestatic 58, 3) := by decide +kernel
theorem dX6_restore_6 : decode cX6_restore 6 = .ok (.ifCond .ne 6, 3) := by decide +kernel
theorem dX6_restore_9 : decode cX6_restore 9 = .ok (.bipush (-2), 2) := by decide +kernel
theorem dX6_restore_11 : decode cX6_restore 11 = .ok (.ireturn, 1) := by decide +kernel
theorem dX6_restore_12 : decode cX6_restore 12 = .ok (.aload_n 0, 1) := by decide +kernel
theorem dX6_restore_13 : decode cX6_restore 13 = .ok (.getfield 19, 3) := by decide +kernel
theorem dX6_restore_16 : decode cX6_restore 16 = .ok (.iload_n 1, 1) := by decide +kernel
theorem dX6_restore_17 : decode cX6_restore 17 = .ok (.aaload, 1) := by decide +kernel
theorem dX6_restore_18 : decode cX6_restore 18 = .ok (.ifnonnull 6, 3) := by decide +kernel
theorem dX6_restore_21 : decode cX6_restore 21 = .ok (.bipush (-3), 2) := by decide +kernel
theorem dX6_restore_23 : decode cX6_restore 23 = .ok (.ireturn, 1) := by decide +kernel
theorem dX6_restore_24 : decode cX6_restore 24 = .ok (.aload_n 0, 1) := by decide +kernel
theorem dX6_restore_25 : decode cX6_restore 25 = .ok (.getfield 10, 3) := by decide +kernel
theorem dX6_restore_28 : decode cX6_restore 28 = .ok (.aload_n 0, 1) := by decide +kernel
theorem dX6_restore_29 : decode cX6_restore 29 = .ok (.getfield 19, 3) := by decide +kernel
theorem dX6_restore_32 : decode cX6_restore 32 = .ok (.iload_n 1, 1) := by decide +kernel
theorem dX6_restore_33 : decode cX6_restore 33 = .ok (.aaload, 1) := by decide +kernel
theorem dX6_restore_34 : decode cX6_restore 34 = .ok (.invokevirtual 119, 3) := by decide +kernel
theorem dX6_restore_37 : decode cX6_restore 37 = .ok (.iconst 1, 1) := by decide +kernel
theorem dX6_restore_38 : decode cX6_restore 38 = .ok (.ireturn, 1) := by decide +kernel
theorem c_X6_image_o {d : List Nat} {T : vT} {M : vM} {n : Int} (h : ¬ (0 ≤ n ∧ n ≤ 1)) : vCon m_X6_image d d [vR 0, vI n] T M (vPi fun r T1 M1 => r = -2 ∧ T = T1 ∧ M = M1) := by
  refine vCon.of (by decide) rfl rfl (Nat.le_of_ble_eq_true rfl) ?_
  refine vV.iload_n dX6_image_0 rfl ?_
  refine vV.iconst dX6_image_1 (by decide) ?_
  refine vV.iconst dX6_image_2 (by decide) ?_
  refine vV.cSi dX6_image_3 ml_X6_58 cw_X6_within sw_X6_within (by unfold vRoom; decide) c_X6_within rfl rfl (Nat.le_of_ble_eq_true rfl) ?_
  rintro x3 _ _ hx3 ⟨hy3, rfl, rfl⟩
  refine vV.if_ne (tgt := 12) dX6_image_6 (by decide) (fun h6 => ?_) (fun h6 => ?_)
  · skip
    exact absurd (yes01 hy3 h6) h
  · skip
    refine vV.bipush (v := (-2)) dX6_image_9 (by decide) (by decide) ?_
    refine vV.ri dX6_image_11 rfl ?_
    exact ⟨rfl, rfl, rfl⟩
theorem c_X6_restore_o {d : List Nat} {T : vT} {M : vM} {n : Int} (h : ¬ (0 ≤ n ∧ n ≤ 1)) : vCon m_X6_restore d d [vR 0, vI n] T M (vPi fun r T1 M1 => r = -2 ∧ T = T1 ∧ M = M1) := by
  refine vCon.of (by decide) rfl rfl (Nat.le_of_ble_eq_true rfl) ?_
  refine vV.iload_n dX6_restore_0 rfl ?_
  refine vV.iconst dX6_restore_1 (by decide) ?_
  refine vV.iconst dX6_restore_2 (by decide) ?_
  refine vV.cSi dX6_restore_3 ml_X6_58 cw_X6_within sw_X6_within (by unfold vRoom; decide) c_X6_within rfl rfl (Nat.le_of_ble_eq_true rfl) ?_
  rintro x3 _ _ hx3 ⟨hy3, rfl, rfl⟩
  refine vV.if_ne (tgt := 12) dX6_restore_6 (by decide) (fun h6 => ?_) (fun h6 => ?_)
  · skip
    exact absurd (yes01 hy3 h6) h
  · skip
    refine vV.bipush (v := (-2)) dX6_restore_9 (by decide) (by decide) ?_
    refine vV.ri dX6_restore_11 rfl ?_
    exact ⟨rfl, rfl, rfl⟩
theorem c_X6_image_n0 {d : List Nat} {T : vT} {M : vM} {m : Nat} (hB : vB T) (hW : sgW M 10 m) (hT : T 1 0 = none) (h0 : 40 ∉ d) (h1 : 41 ∉ d) (h2 : 42 ∉ d) (h3 : 43 ∉ d) (h4 : 44 ∉ d) (h5 : 45 ∉ d) : vCon m_X6_image d (d ++ [40] ++ [41] ++ [42] ++ [43] ++ [44] ++ [45]) [vR 0, vI 0] T M (vPi fun r T1 M1 => r = 1 ∧ T1 = imT T 40 0 ∧ M1 = imM M 40) := by
  have e0 : stT (vClT T 40) 40 0 = T 0 := by rw [stT_o (by omega)]; rfl
  have e1 : stT (vClT T 40) 40 1 = T 1 := by rw [stT_o (by omega)]; rfl
  have e10 : stT (vClT T 40) 40 10 = T 10 := by rw [stT_o (by omega)]; rfl
  have t2 : T 0 2 = some 1 := hB _ _ _ rfl
  have t0 : T 0 0 = some 10 := hB _ _ _ rfl
  have s10 := sgT_10 hB
  have hz10 : sgZ (stM (vClr M 40) 40) 10 := sgZ_o (stM_o (by omega)) (stM_o (by omega)) (stM_o (by omega)) (stM_o (by omega)) (stM_o (by omega)) hW.z
  refine vCon.of (by decide) rfl rfl (Nat.le_of_ble_eq_true rfl) ?_
  refine vV.iload_n dX6_image_0 rfl ?_
  refine vV.iconst dX6_image_1 (by decide) ?_
  refine vV.iconst dX6_image_2 (by decide) ?_
  refine vV.cSi dX6_image_3 ml_X6_58 cw_X6_within sw_X6_within (by unfold vRoom; decide) c_X6_within rfl rfl (Nat.le_of_ble_eq_true rfl) ?_
  rintro x3 _ _ hx3 ⟨hy3, rfl, rfl⟩
  refine vV.if_ne (tgt := 12) dX6_image_6 (by decide) (fun h6 => ?_) (fun h6 => ?_)
  · skip
    refine vV.aload_n dX6_image_12 rfl ?_
    refine vV.getr dX6_image_13 fl_X6_19 (by first | rfl | assumption) rfl (by first | exact t2 | exact t0 | exact hT) ?_
    refine vV.iload_n dX6_image_16 rfl ?_
    refine vV.aald (j := 0) dX6_image_17 (by first | rfl | assumption) (rfl) (by decide) (by first | exact t2 | exact t0 | exact hT) ?_
    refine vV.nn0 dX6_image_18 ?_
    refine vV.aload_n dX6_image_21 rfl ?_
    refine vV.getr dX6_image_22 fl_X6_19 (by first | rfl | assumption) rfl (by first | exact t2 | exact t0 | exact hT) ?_
    refine vV.iload_n dX6_image_25 rfl ?_
    refine vV.newO (k := 40) (ci := 3) dX6_image_26 rfl cl_X6_7 (by first | rfl | assumption) (h0) (vLe_s (vLe_s (vLe_s (vLe_s (vLe_s (vLe_m (vLe_rf _))))))) ?_
    refine vV.dup dX6_image_29 rfl ?_
    refine vV.cIv dX6_image_30 ml_X6_9 cw_X3_init rfl iw_X3_init (c_X3_init (a := 40) sgK_40 (by simp; exact h1) (by simp; exact h2) (by simp; exact h3) (by simp; exact h4) (by simp; exact h5)) rfl (by unfold vRoom; decide) (Nat.le_of_ble_eq_true rfl) (vLe_m (vLe_m (vLe_m (vLe_m (vLe_m (vLe_rf _)))))) ?_
    rintro _ _ ⟨rfl, rfl⟩
    refine vV.aast (j := 0) dX6_image_33 (by first | rfl | assumption) (by first | rfl | assumption) (rfl) (by decide) ?_
    refine vV.aload_n dX6_image_34 rfl ?_
    refine vV.getr dX6_image_35 fl_X6_19 (by first | rfl | assumption) rfl ((show imT T 40 0 0 2 = some 1 from by unfold imT; rw [vUpT_row (by decide), e0]; exact t2)) ?_
    refine vV.iload_n dX6_image_38 rfl ?_
    refine vV.aald (j := 0) dX6_image_39 (by first | rfl | assumption) (rfl) (by decide) ((show imT T 40 0 1 0 = some 40 from by unfold imT vUpT; rw [if_pos ⟨rfl, rfl⟩])) ?_
    refine vV.aload_n dX6_image_40 rfl ?_
    refine vV.getr dX6_image_41 fl_X6_10 (by first | rfl | assumption) rfl ((show imT T 40 0 0 0 = some 10 from by unfold imT; rw [vUpT_row (by decide), e0]; exact t0)) ?_
    refine vV.cVv dX6_image_44 ml_X6_119 cw_X3_copyFrom iw_X3_copyFrom (by first | rfl | assumption) rfl (by unfold vRoom; decide) (c_X3_copyFrom (a := 40) (b := 10) sgK_40 (show sgT (imT T 40 0) 40 from by unfold sgT imT; rw [vUpT_row (by decide)]; exact stT_a) sgK_10 (show sgT (imT T 40 0) 10 from by unfold sgT imT; rw [vUpT_row (by decide), e10]; exact s10) (by omega) (stM_z _ _) hz10) rfl rfl (Nat.le_of_ble_eq_true rfl) ?_
    rintro _ _ ⟨rfl, rfl⟩
    refine vV.iconst dX6_image_47 (by decide) ?_
    refine vV.ri dX6_image_48 rfl ?_
    exact ⟨rfl, rfl, rfl⟩
  · skip
    exact absurd ⟨by decide, by decide⟩ (no01 hy3 h6)
theorem c_X6_image_s0 {d : List Nat} {T : vT} {M : vM} {m : Nat} (hB : vB T) (hW : sgW M 10 m) (hT : T 1 0 = some 40) (hTa : sgT T 40) (hZ : sgZ M 40) : vCon m_X6_image d d [vR 0, vI 0] T M (vPi fun r T1 M1 => r = 1 ∧ T = T1 ∧ M1 = sgCp M 40 10) := by
  refine vCon.of (by decide) rfl rfl (Nat.le_of_ble_eq_true rfl) ?_
  refine vV.iload_n dX6_image_0 rfl ?_
  refine vV.iconst dX6_image_1 (by decide) ?_
  refine vV.iconst dX6_image_2 (by decide) ?_
  refine vV.cSi dX6_image_3 ml_X6_58 cw_X6_within sw_X6_within (by unfold vRoom; decide) c_X6_within rfl rfl (Nat.le_of_ble_eq_true rfl) ?_
  rintro x3 _ _ hx3 ⟨hy3, rfl, rfl⟩
  refine vV.if_ne (tgt := 12) dX6_image_6 (by decide) (fun h6 => ?_) (fun h6 => ?_)
  · skip
    refine vV.aload_n dX6_image_12 rfl ?_
    refine vV.getr dX6_image_13 fl_X6_19 (by first | rfl | assumption) rfl (by first | assumption | exact hB _ _ _ rfl) ?_
    refine vV.iload_n dX6_image_16 rfl ?_
    refine vV.aald (j := 0) dX6_image_17 (by first | rfl | assumption) (rfl) (by decide) (by first | assumption | exact hB _ _ _ rfl) ?_
    refine vV.nn1 (tgt := 34) dX6_image_18 (by decide) ?_
    refine vV.aload_n dX6_image_34 rfl ?_
    refine vV.getr dX6_image_35 fl_X6_19 (by first | rfl | assumption) rfl (by first | assumption | exact hB _ _ _ rfl) ?_
    refine vV.iload_n dX6_image_38 rfl ?_
    refine vV.aald (j := 0) dX6_image_39 (by first | rfl | assumption) (rfl) (by decide) (by first | assumption | exact hB _ _ _ rfl) ?_
    refine vV.aload_n dX6_image_40 rfl ?_
    refine vV.getr dX6_image_41 fl_X6_10 (by first | rfl | assumption) rfl (by first | assumption | exact hB _ _ _ rfl) ?_
    refine vV.cVv dX6_image_44 ml_X6_119 cw_X3_copyFrom iw_X3_copyFrom (by first | rfl | assumption) rfl (by unfold vRoom; decide) (c_X3_copyFrom (a := 40) (b := 10) sgK_40 hTa sgK_10 (sgT_10 hB) (by omega) hZ hW.z) rfl rfl (Nat.le_of_ble_eq_true rfl) ?_
    rintro _ _ ⟨rfl, rfl⟩
    refine vV.iconst dX6_image_47 (by decide) ?_
    refine vV.ri dX6_image_48 rfl ?_
    exact ⟨rfl, rfl, rfl⟩
  · skip
    exact absurd ⟨by decide, by decide⟩ (no01 hy3 h6)
theorem c_X6_restore_n0 {d : List Nat} {T : vT} {M : vM} (hB : vB T) (hT : T 1 0 = none) : vCon m_X6_restore d d [vR 0, vI 0] T M (vPi fun r T1 M1 => r = -3 ∧ T = T1 ∧ M = M1) := by
  refine vCon.of (by decide) rfl rfl (Nat.le_of_ble_eq_true rfl) ?_
  refine vV.iload_n dX6_restore_0 rfl ?_
  refine vV.iconst dX6_restore_1 (by decide) ?_
  refine vV.iconst dX6_restore_2 (by decide) ?_
  refine vV.cSi dX6_restore_3 ml_X6_58 cw_X6_within sw_X6_within (by unfold vRoom; decide) c_X6_within rfl rfl (Nat.le_of_ble_eq_true rfl) ?_
  rintro x3 _ _ hx3 ⟨hy3, rfl, rfl⟩
  refine vV.if_ne (tgt := 12) dX6_restore_6 (by decide) (fun h6 => ?_) (fun h6 => ?_)
  · skip
    refine vV.aload_n dX6_restore_12 rfl ?_
    refine vV.getr dX6_restore_13 fl_X6_19 (by first | rfl | assumption) rfl (by first | assumption | exact hB _ _ _ rfl) ?_
    refine vV.iload_n dX6_restore_16 rfl ?_
    refine vV.aald (j := 0) dX6_restore_17 (by first | rfl | assumption) (rfl) (by decide) (by first | assumption | exact hB _ _ _ rfl) ?_
    refine vV.nn0 dX6_restore_18 ?_
    refine vV.bipush (v := (-3)) dX6_restore_21 (by decide) (by decide) ?_
    refine vV.ri dX6_restore_23 rfl ?_
    exact ⟨rfl, rfl, rfl⟩
  · skip
    exact absurd ⟨by decide, by decide⟩ (no01 hy3 h6)
theorem c_X6_restore_s0 {d : List Nat} {T : vT} {M : vM} (hB : vB T) (hT : T 1 0 = some 40) (hTa : sgT T 40) (hZ : sgZ M 40) (hZ0 : sgZ M 10) : vCon m_X6_restore d d [vR 0, vI 0] T M (vPi fun r T1 M1 => r = 1 ∧ T = T1 ∧ M1 = sgCp M 10 40) := by
  refine vCon.of (by decide) rfl rfl (Nat.le_of_ble_eq_true rfl) ?_
  refine vV.iload_n dX6_restore_0 rfl ?_
  refine vV.iconst dX6_restore_1 (by decide) ?_
  refine vV.iconst dX6_restore_2 (by decide) ?_
  refine vV.cSi dX6_restore_3 ml_X6_58 cw_X6_within sw_X6_within (by unfold vRoom; decide) c_X6_within rfl rfl (Nat.le_of_ble_eq_true rfl) ?_
  rintro x3 _ _ hx3 ⟨hy3, rfl, rfl⟩
  refine vV.if_ne (tgt := 12) dX6_restore_6 (by decide) (fun h6 => ?_) (fun h6 => ?_)
  · skip
    refine vV.aload_n dX6_restore_12 rfl ?_
    refine vV.getr dX6_restore_13 fl_X6_19 (by first | rfl | assumption) rfl (by first | assumption | exact hB _ _ _ rfl) ?_
    refine vV.iload_n dX6_restore_16 rfl ?_
    refine vV.aald (j := 0) dX6_restore_17 (by first | rfl | assumption) (rfl) (by decide) (by first | assumption | exact hB _ _ _ rfl) ?_
    refine vV.nn1 (tgt := 24) dX6_restore_18 (by decide) ?_
    refine vV.aload_n dX6_restore_24 rfl ?_
    refine vV.getr dX6_restore_25 fl_X6_10 (by first | rfl | assumption) rfl (by first | assumption | exact hB _ _ _ rfl) ?_
    refine vV.aload_n dX6_restore_28 rfl ?_
    refine vV.getr dX6_restore_29 fl_X6_19 (by first | rfl | assumption) rfl (by first | assumption | exact hB _ _ _ rfl) ?_
    refine vV.iload_n dX6_restore_32 rfl ?_
    refine vV.aald (j := 0) dX6_restore_33 (by first | rfl | assumption) (rfl) (by decide) (by first | assumption | exact hB _ _ _ rfl) ?_
    refine vV.cVv dX6_restore_34 ml_X6_119 cw_X3_copyFrom iw_X3_copyFrom (by first | rfl | assumption) rfl (by unfold vRoom; decide) (c_X3_copyFrom (a := 10) (b := 40) sgK_10 (sgT_10 hB) sgK_40 hTa (by omega) hZ0 hZ) rfl rfl (Nat.le_of_ble_eq_true rfl) ?_
    rintro _ _ ⟨rfl, rfl⟩
    refine vV.iconst dX6_restore_37 (by decide) ?_
    refine vV.ri dX6_restore_38 rfl ?_
    exact ⟨rfl, rfl, rfl⟩
  · skip
    exact absurd ⟨by decide, by decide⟩ (no01 hy3 h6)
theorem c_X6_image_n1 {d : List Nat} {T : vT} {M : vM} {m : Nat} (hB : vB T) (hW : sgW M 10 m) (hT : T 1 1 = none) (h0 : 50 ∉ d) (h1 : 51 ∉ d) (h2 : 52 ∉ d) (h3 : 53 ∉ d) (h4 : 54 ∉ d) (h5 : 55 ∉ d) : vCon m_X6_image d (d ++ [50] ++ [51] ++ [52] ++ [53] ++ [54] ++ [55]) [vR 0, vI 1] T M (vPi fun r T1 M1 => r = 1 ∧ T1 = imT T 50 1 ∧ M1 = imM M 50) := by
  have e0 : stT (vClT T 50) 50 0 = T 0 := by rw [stT_o (by omega)]; rfl
  have e1 : stT (vClT T 50) 50 1 = T 1 := by rw [stT_o (by omega)]; rfl
  have e10 : stT (vClT T 50) 50 10 = T 10 := by rw [stT_o (by omega)]; rfl
  have t2 : T 0 2 = some 1 := hB _ _ _ rfl
  have t0 : T 0 0 = some 10 := hB _ _ _ rfl
  have s10 := sgT_10 hB
  have hz10 : sgZ (stM (vClr M 50) 50) 10 := sgZ_o (stM_o (by omega)) (stM_o (by omega)) (stM_o (by omega)) (stM_o (by omega)) (stM_o (by omega)) hW.z
  refine vCon.of (by decide) rfl rfl (Nat.le_of_ble_eq_true rfl) ?_
  refine vV.iload_n dX6_image_0 rfl ?_
  refine vV.iconst dX6_image_1 (by decide) ?_
  refine vV.iconst dX6_image_2 (by decide) ?_
  refine vV.cSi dX6_image_3 ml_X6_58 cw_X6_within sw_X6_within (by unfold vRoom; decide) c_X6_within rfl rfl (Nat.le_of_ble_eq_true rfl) ?_
  rintro x3 _ _ hx3 ⟨hy3, rfl, rfl⟩
  refine vV.if_ne (tgt := 12) dX6_image_6 (by decide) (fun h6 => ?_) (fun h6 => ?_)
  · skip
    refine vV.aload_n dX6_image_12 rfl ?_
    refine vV.getr dX6_image_13 fl_X6_19 (by first | rfl | assumption) rfl (by first | exact t2 | exact t0 | exact hT) ?_
    refine vV.iload_n dX6_image_16 rfl ?_
    refine vV.aald (j := 1) dX6_image_17 (by first | rfl | assumption) (rfl) (by decide) (by first | exact t2 | exact t0 | exact hT) ?_
    refine vV.nn0 dX6_image_18 ?_
    refine vV.aload_n dX6_image_21 rfl ?_
    refine vV.getr dX6_image_22 fl_X6_19 (by first | rfl | assumption) rfl (by first | exact t2 | exact t0 | exact hT) ?_
    refine vV.iload_n dX6_image_25 rfl ?_
    refine vV.newO (k := 50) (ci := 3) dX6_image_26 rfl cl_X6_7 (by first | rfl | assumption) (h0) (vLe_s (vLe_s (vLe_s (vLe_s (vLe_s (vLe_m (vLe_rf _))))))) ?_
    refine vV.dup dX6_image_29 rfl ?_
    refine vV.cIv dX6_image_30 ml_X6_9 cw_X3_init rfl iw_X3_init (c_X3_init (a := 50) sgK_50 (by simp; exact h1) (by simp; exact h2) (by simp; exact h3) (by simp; exact h4) (by simp; exact h5)) rfl (by unfold vRoom; decide) (Nat.le_of_ble_eq_true rfl) (vLe_m (vLe_m (vLe_m (vLe_m (vLe_m (vLe_rf _)))))) ?_
    rintro _ _ ⟨rfl, rfl⟩
    refine vV.aast (j := 1) dX6_image_33 (by first | rfl | assumption) (by first | rfl | assumption) (rfl) (by decide) ?_
    refine vV.aload_n dX6_image_34 rfl ?_
    refine vV.getr dX6_image_35 fl_X6_19 (by first | rfl | assumption) rfl ((show imT T 50 1 0 2 = some 1 from by unfold imT; rw [vUpT_row (by decide), e0]; exact t2)) ?_
    refine vV.iload_n dX6_image_38 rfl ?_
    refine vV.aald (j := 1) dX6_image_39 (by first | rfl | assumption) (rfl) (by decide) ((show imT T 50 1 1 1 = some 50 from by unfold imT vUpT; rw [if_pos ⟨rfl, rfl⟩])) ?_
    refine vV.aload_n dX6_image_40 rfl ?_
    refine vV.getr dX6_image_41 fl_X6_10 (by first | rfl | assumption) rfl ((show imT T 50 1 0 0 = some 10 from by unfold imT; rw [vUpT_row (by decide), e0]; exact t0)) ?_
    refine vV.cVv dX6_image_44 ml_X6_119 cw_X3_copyFrom iw_X3_copyFrom (by first | rfl | assumption) rfl (by unfold vRoom; decide) (c_X3_copyFrom (a := 50) (b := 10) sgK_50 (show sgT (imT T 50 1) 50 from by unfold sgT imT; rw [vUpT_row (by decide)]; exact stT_a) sgK_10 (show sgT (imT T 50 1) 10 from by unfold sgT imT; rw [vUpT_row (by decide), e10]; exact s10) (by omega) (stM_z _ _) hz10) rfl rfl (Nat.le_of_ble_eq_true rfl) ?_
    rintro _ _ ⟨rfl, rfl⟩
    refine vV.iconst dX6_image_47 (by decide) ?_
    refine vV.ri dX6_image_48 rfl ?_
    exact ⟨rfl, rfl, rfl⟩
  · skip
    exact absurd ⟨by decide, by decide⟩ (no01 hy3 h6)
theorem c_X6_image_s1 {d : List Nat} {T : vT} {M : vM} {m : Nat} (hB : vB T) (hW : sgW M 10 m) (hT : T 1 1 = some 50) (hTa : sgT T 50) (hZ : sgZ M 50) : vCon m_X6_image d d [vR 0, vI 1] T M (vPi fun r T1 M1 => r = 1 ∧ T = T1 ∧ M1 = sgCp M 50 10) := by
  refine vCon.of (by decide) rfl rfl (Nat.le_of_ble_eq_true rfl) ?_
  refine vV.iload_n dX6_image_0 rfl ?_
  refine vV.iconst dX6_image_1 (by decide) ?_
  refine vV.iconst dX6_image_2 (by decide) ?_
  refine vV.cSi dX6_image_3 ml_X6_58 cw_X6_within sw_X6_within (by unfold vRoom; decide) c_X6_within rfl rfl (Nat.le_of_ble_eq_true rfl) ?_
  rintro x3 _ _ hx3 ⟨hy3, rfl, rfl⟩
  refine vV.if_ne (tgt := 12) dX6_image_6 (by decide) (fun h6 => ?_) (fun h6 => ?_)
  · skip
    refine vV.aload_n dX6_image_12 rfl ?_
    refine vV.getr dX6_image_13 fl_X6_19 (by first | rfl | assumption) rfl (by first | assumption | exact hB _ _ _ rfl) ?_
    refine vV.iload_n dX6_image_16 rfl ?_
    refine vV.aald (j := 1) dX6_image_17 (by first | rfl | assumption) (rfl) (by decide) (by first | assumption | exact hB _ _ _ rfl) ?_
    refine vV.nn1 (tgt := 34) dX6_image_18 (by decide) ?_
    refine vV.aload_n dX6_image_34 rfl ?_
    refine vV.getr dX6_image_35 fl_X6_19 (by first | rfl | assumption) rfl (by first | assumption | exact hB _ _ _ rfl) ?_
    refine vV.iload_n dX6_image_38 rfl ?_
    refine vV.aald (j := 1) dX6_image_39 (by first | rfl | assumption) (rfl) (by decide) (by first | assumption | exact hB _ _ _ rfl) ?_
    refine vV.aload_n dX6_image_40 rfl ?_
    refine vV.getr dX6_image_41 fl_X6_10 (by first | rfl | assumption) rfl (by first | assumption | exact hB _ _ _ rfl) ?_
    refine vV.cVv dX6_image_44 ml_X6_119 cw_X3_copyFrom iw_X3_copyFrom (by first | rfl | assumption) rfl (by unfold vRoom; decide) (c_X3_copyFrom (a := 50) (b := 10) sgK_50 hTa sgK_10 (sgT_10 hB) (by omega) hZ hW.z) rfl rfl (Nat.le_of_ble_eq_true rfl) ?_
    rintro _ _ ⟨rfl, rfl⟩
    refine vV.iconst dX6_image_47 (by decide) ?_
    refine vV.ri dX6_image_48 rfl ?_
    exact ⟨rfl, rfl, rfl⟩
  · skip
    exact absurd ⟨by decide, by decide⟩ (no01 hy3 h6)
theorem c_X6_restore_n1 {d : List Nat} {T : vT} {M : vM} (hB : vB T) (hT : T 1 1 = none) : vCon m_X6_restore d d [vR 0, vI 1] T M (vPi fun r T1 M1 => r = -3 ∧ T = T1 ∧ M = M1) := by
  refine vCon.of (by decide) rfl rfl (Nat.le_of_ble_eq_true rfl) ?_
  refine vV.iload_n dX6_restore_0 rfl ?_
  refine vV.iconst dX6_restore_1 (by decide) ?_
  refine vV.iconst dX6_restore_2 (by decide) ?_
  refine vV.cSi dX6_restore_3 ml_X6_58 cw_X6_within sw_X6_within (by unfold vRoom; decide) c_X6_within rfl rfl (Nat.le_of_ble_eq_true rfl) ?_
  rintro x3 _ _ hx3 ⟨hy3, rfl, rfl⟩
  refine vV.if_ne (tgt := 12) dX6_restore_6 (by decide) (fun h6 => ?_) (fun h6 => ?_)
  · skip
    refine vV.aload_n dX6_restore_12 rfl ?_
    refine vV.getr dX6_restore_13 fl_X6_19 (by first | rfl | assumption) rfl (by first | assumption | exact hB _ _ _ rfl) ?_
    refine vV.iload_n dX6_restore_16 rfl ?_
    refine vV.aald (j := 1) dX6_restore_17 (by first | rfl | assumption) (rfl) (by decide) (by first | assumption | exact hB _ _ _ rfl) ?_
    refine vV.nn0 dX6_restore_18 ?_
    refine vV.bipush (v := (-3)) dX6_restore_21 (by decide) (by decide) ?_
    refine vV.ri dX6_restore_23 rfl ?_
    exact ⟨rfl, rfl, rfl⟩
  · skip
    exact absurd ⟨by decide, by decide⟩ (no01 hy3 h6)
theorem c_X6_restore_s1 {d : List Nat} {T : vT} {M : vM} (hB : vB T) (hT : T 1 1 = some 50) (hTa : sgT T 50) (hZ : sgZ M 50) (hZ0 : sgZ M 10) : vCon m_X6_restore d d [vR 0, vI 1] T M (vPi fun r T1 M1 => r = 1 ∧ T = T1 ∧ M1 = sgCp M 10 50) := by
  refine vCon.of (by decide) rfl rfl (Nat.le_of_ble_eq_true rfl) ?_
  refine vV.iload_n dX6_restore_0 rfl ?_
  refine vV.iconst dX6_restore_1 (by decide) ?_
  refine vV.iconst dX6_restore_2 (by decide) ?_
  refine vV.cSi dX6_restore_3 ml_X6_58 cw_X6_within sw_X6_within (by unfold vRoom; decide) c_X6_within rfl rfl (Nat.le_of_ble_eq_true rfl) ?_
  rintro x3 _ _ hx3 ⟨hy3, rfl, rfl⟩
  refine vV.if_ne (tgt := 12) dX6_restore_6 (by decide) (fun h6 => ?_) (fun h6 => ?_)
  · skip
    refine vV.aload_n dX6_restore_12 rfl ?_
    refine vV.getr dX6_restore_13 fl_X6_19 (by first | rfl | assumption) rfl (by first | assumption | exact hB _ _ _ rfl) ?_
    refine vV.iload_n dX6_restore_16 rfl ?_
    refine vV.aald (j := 1) dX6_restore_17 (by first | rfl | assumption) (rfl) (by decide) (by first | assumption | exact hB _ _ _ rfl) ?_
    refine vV.nn1 (tgt := 24) dX6_restore_18 (by decide) ?_
    refine vV.aload_n dX6_restore_24 rfl ?_
    refine vV.getr dX6_restore_25 fl_X6_10 (by first | rfl | assumption) rfl (by first | assumption | exact hB _ _ _ rfl) ?_
    refine vV.aload_n dX6_restore_28 rfl ?_
    refine vV.getr dX6_restore_29 fl_X6_19 (by first | rfl | assumption) rfl (by first | assumption | exact hB _ _ _ rfl) ?_
    refine vV.iload_n dX6_restore_32 rfl ?_
    refine vV.aald (j := 1) dX6_restore_33 (by first | rfl | assumption) (rfl) (by decide) (by first | assumption | exact hB _ _ _ rfl) ?_
    refine vV.cVv dX6_restore_34 ml_X6_119 cw_X3_copyFrom iw_X3_copyFrom (by first | rfl | assumption) rfl (by unfold vRoom; decide) (c_X3_copyFrom (a := 10) (b := 50) sgK_10 (sgT_10 hB) sgK_50 hTa (by omega) hZ0 hZ) rfl rfl (Nat.le_of_ble_eq_true rfl) ?_
    rintro _ _ ⟨rfl, rfl⟩
    refine vV.iconst dX6_restore_37 (by decide) ?_
    refine vV.ri dX6_restore_38 rfl ?_
    exact ⟨rfl, rfl, rfl⟩
  · skip
    exact absurd ⟨by decide, by decide⟩ (no01 hy3 h6)
