/-! ===== own: the constructors of Walker, SpunPlates, the reference ===== -/
def iT_X5 (T : vT) : vT := vUpT (vClT (vUpT (vClT (vUpT (stT (vClT (T) 30) 30) 70 0 (some 30)) 76) 70 6 (some 76)) 77) 70 7 (some 77)
def iM_X5 (M : vM) : vM := vClr (vClr (stM (vClr (M) 30) 30) 76) 77
theorem dX5_init_0 : decode cX5_init 0 = .ok (.aload_n 0, 1) := by decide +kernel
theorem dX5_init_1 : decode cX5_init 1 = .ok (.invokespecial 3, 3) := by decide +kernel
theorem dX5_init_4 : decode cX5_init 4 = .ok (.aload_n 0, 1) := by decide +kernel
theorem dX5_init_5 : decode cX5_init 5 = .ok (.new 9, 3) := by decide +kernel
theorem dX5_init_8 : decode cX5_init 8 = .ok (.dup, 1) := by decide +kernel
theorem dX5_init_9 : decode cX5_init 9 = .ok (.invokespecial 11, 3) := by decide +kernel
theorem dX5_init_12 : decode cX5_init 12 = .ok (.putfield 12, 3) := by decide +kernel
theorem dX5_init_15 : decode cX5_init 15 = .ok (.aload_n 0, 1) := by decide +kernel
theorem dX5_init_16 : decode cX5_init 16 = .ok (.sipush 601, 3) := by decide +kernel
theorem dX5_init_19 : decode cX5_init 19 = .ok (.newarray .int, 2) := by decide +kernel
theorem dX5_init_21 : decode cX5_init 21 = .ok (.putfield 18, 3) := by decide +kernel
theorem dX5_init_24 : decode cX5_init 24 = .ok (.aload_n 0, 1) := by decide +kernel
theorem dX5_init_25 : decode cX5_init 25 = .ok (.sipush 601, 3) := by decide +kernel
theorem dX5_init_28 : decode cX5_init 28 = .ok (.newarray .int, 2) := by decide +kernel
theorem dX5_init_30 : decode cX5_init 30 = .ok (.putfield 22, 3) := by decide +kernel
theorem dX5_init_33 : decode cX5_init 33 = .ok (.return_, 1) := by decide +kernel
theorem c_X5_init {d : List Nat} {T : vT} {M : vM} (h1030 : 30 ∉ d) (h1031 : 31 ∉ d) (h1032 : 32 ∉ d) (h1033 : 33 ∉ d) (h1034 : 34 ∉ d) (h1035 : 35 ∉ d) (h1076 : 76 ∉ d) (h1077 : 77 ∉ d) : vCon m_X5_init (d) (d ++ [30] ++ [31] ++ [32] ++ [33] ++ [34] ++ [35] ++ [76] ++ [77]) [vR 70] T M (vPv fun T1 M1 => T1 = iT_X5 T ∧ M1 = iM_X5 M) := by
  refine vCon.of (by decide) rfl rfl (Nat.le_of_ble_eq_true rfl) ?_
  refine vV.aload_n dX5_init_0 rfl ?_
  refine vV.objInit dX5_init_1 ml_X5_3 mm_oi (by decide) (Nat.le_of_ble_eq_true rfl) ?_
  refine vV.aload_n dX5_init_4 rfl ?_
  refine vV.newO (k := 30) (ci := 3) dX5_init_5 rfl cl_X5_9 (by first | rfl | assumption) (by first | assumption | (simp; assumption)) (vLe_s (vLe_s (vLe_s (vLe_s (vLe_s (vLe_s (vLe_s (vLe_m (vLe_rf _))))))))) ?_
  refine vV.dup dX5_init_8 rfl ?_
  refine vV.cIv dX5_init_9 ml_X5_11 cw_X3_init rfl iw_X3_init (c_X3_init (a := 30) sgK_30 (by first | assumption | (simp; assumption)) (by first | assumption | (simp; assumption)) (by first | assumption | (simp; assumption)) (by first | assumption | (simp; assumption)) (by first | assumption | (simp; assumption))) rfl (by unfold vRoom; decide) (Nat.le_of_ble_eq_true rfl) (vLe_s (vLe_s (vLe_m (vLe_m (vLe_m (vLe_m (vLe_m (vLe_rf _)))))))) ?_
  rintro _ _ ⟨rfl, rfl⟩
  refine vV.putF dX5_init_12 fl_X5_12 rfl (fun C T N h => by cases h; rfl) (by first | rfl | assumption) rfl ?_
  refine vV.aload_n dX5_init_15 rfl ?_
  refine vV.sipush (v := 601) dX5_init_16 (by decide) (by decide) ?_
  refine vV.newI (k := 76) dX5_init_19 rfl (by first | rfl | assumption) (by first | assumption | (simp; assumption)) (by decide) (vLe_s (vLe_m (vLe_rf _))) ac_int ?_
  refine vV.putF dX5_init_21 fl_X5_18 rfl (fun C T N h => by cases h; rfl) (by first | rfl | assumption) rfl ?_
  refine vV.aload_n dX5_init_24 rfl ?_
  refine vV.sipush (v := 601) dX5_init_25 (by decide) (by decide) ?_
  refine vV.newI (k := 77) dX5_init_28 rfl (by first | rfl | assumption) (by first | assumption | (simp; assumption)) (by decide) (vLe_m (vLe_rf _)) ac_int ?_
  refine vV.putF dX5_init_30 fl_X5_22 rfl (fun C T N h => by cases h; rfl) (by first | rfl | assumption) rfl ?_
  refine vV.rv dX5_init_33 rfl ?_
  exact ⟨rfl, rfl⟩
def iT_X6 (T : vT) : vT := vUpT (vUpT (vClT (vUpT (vClT (vUpT (vClT (vClT (vUpT (vUpT (vClT (vUpT (vClT (vClT (vUpT (vUpT (vClT (vUpT (vClT (vUpT (vClT (vClT (vUpT (vUpT (vClT (vUpT (vClT (vUpT (stT (vClT (vClT (vUpT (vUpT (vClT (vUpT (vClT (vClT (vUpT (vClT (vUpT (stT (vClT (vUpT (stT (vClT (T) 10) 10) 0 0 (some 10)) 20) 20) 0 1 (some 20)) 1) 0 2 (some 1)) 60) 61) 60 1 (some 61)) 62) 60 2 (some 62)) 0 3 (some 60)) 70) 30) 30) 70 0 (some 30)) 76) 70 6 (some 76)) 77) 70 7 (some 77)) 0 4 (some 70)) 80) 81) 80 1 (some 81)) 82) 80 2 (some 82)) 83) 80 3 (some 83)) 0 5 (some 80)) 90) 91) 90 0 (some 91)) 92) 90 1 (some 92)) 0 6 (some 90)) 100) 102) 100 2 (some 102)) 103) 100 3 (some 103)) 104) 100 4 (some 104)) 0 7 (some 100)
def iM_X6 (M : vM) : vM := vClr (vClr (vClr (vClr (vClr (vClr (vClr (vClr (vClr (vClr (vClr (vClr (vClr (stM (vClr (vClr (vClr (vClr (vClr (vClr (stM (vClr (stM (vClr (M) 10) 10) 20) 20) 1) 60) 61) 62) 70) 30) 30) 76) 77) 80) 81) 82) 83) 90) 91) 92) 100) 102) 103) 104
def iD_X6 : List Nat := [0] ++ [10] ++ [11] ++ [12] ++ [13] ++ [14] ++ [15] ++ [20] ++ [21] ++ [22] ++ [23] ++ [24] ++ [25] ++ [1] ++ [60] ++ [61] ++ [62] ++ [70] ++ [30] ++ [31] ++ [32] ++ [33] ++ [34] ++ [35] ++ [76] ++ [77] ++ [80] ++ [81] ++ [82] ++ [83] ++ [90] ++ [91] ++ [92] ++ [100] ++ [102] ++ [103] ++ [104]
theorem dX6_init_0 : decode cX6_init 0 = .ok (.aload_n 0, 1) := by decide +kernel
theorem dX6_init_1 : decode cX6_init 1 = .ok (.invokespecial 1, 3) := by decide +kernel
theorem dX6_init_4 : decode cX6_init 4 = .ok (.aload_n 0, 1) := by decide +kernel
theorem dX6_init_5 : decode cX6_init 5 = .ok (.new 7, 3) := by decide +kernel
theorem dX6_init_8 : decode cX6_init 8 = .ok (.dup, 1) := by decide +kernel
theorem dX6_init_9 : decode cX6_init 9 = .ok (.invokespecial 9, 3) := by decide +kernel
theorem dX6_init_12 : decode cX6_init 12 = .ok (.putfield 10, 3) := by decide +kernel
theorem dX6_init_15 : decode cX6_init 15 = .ok (.aload_n 0, 1) := by decide +kernel
theorem dX6_init_16 : decode cX6_init 16 = .ok (.new 7, 3) := by decide +kernel
theorem dX6_init_19 : decode cX6_init 19 = .ok (.dup, 1) := by decide +kernel
theorem dX6_init_20 : decode cX6_init 20 = .ok (.invokespecial 9, 3) := by decide +kernel
theorem dX6_init_23 : decode cX6_init 23 = .ok (.putfield 16, 3) := by decide +kernel
theorem dX6_init_26 : decode cX6_init 26 = .ok (.aload_n 0, 1) := by decide +kernel
theorem dX6_init_27 : decode cX6_init 27 = .ok (.iconst 2, 1) := by decide +kernel
theorem dX6_init_28 : decode cX6_init 28 = .ok (.anewarray 7, 3) := by decide +kernel
theorem dX6_init_31 : decode cX6_init 31 = .ok (.putfield 19, 3) := by decide +kernel
theorem dX6_init_34 : decode cX6_init 34 = .ok (.aload_n 0, 1) := by decide +kernel
theorem dX6_init_35 : decode cX6_init 35 = .ok (.new 23, 3) := by decide +kernel
theorem dX6_init_38 : decode cX6_init 38 = .ok (.dup, 1) := by decide +kernel
theorem dX6_init_39 : decode cX6_init 39 = .ok (.invokespecial 25, 3) := by decide +kernel
theorem dX6_init_42 : decode cX6_init 42 = .ok (.putfield 26, 3) := by decide +kernel
theorem dX6_init_45 : decode cX6_init 45 = .ok (.aload_n 0, 1) := by decide +kernel
theorem dX6_init_46 : decode cX6_init 46 = .ok (.new 30, 3) := by decide +kernel
theorem dX6_init_49 : decode cX6_init 49 = .ok (.dup, 1) := by decide +kernel
theorem dX6_init_50 : decode cX6_init 50 = .ok (.invokespecial 32, 3) := by decide +kernel
theorem dX6_init_53 : decode cX6_init 53 = .ok (.putfield 33, 3) := by decide +kernel
theorem dX6_init_56 : decode cX6_init 56 = .ok (.aload_n 0, 1) := by decide +kernel
theorem dX6_init_57 : decode cX6_init 57 = .ok (.new 37, 3) := by decide +kernel
theorem dX6_init_60 : decode cX6_init 60 = .ok (.dup, 1) := by decide +kernel
theorem dX6_init_61 : decode cX6_init 61 = .ok (.invokespecial 39, 3) := by decide +kernel
theorem dX6_init_64 : decode cX6_init 64 = .ok (.putfield 40, 3) := by decide +kernel
theorem dX6_init_67 : decode cX6_init 67 = .ok (.aload_n 0, 1) := by decide +kernel
theorem dX6_init_68 : decode cX6_init 68 = .ok (.new 44, 3) := by decide +kernel
theorem dX6_init_71 : decode cX6_init 71 = .ok (.dup, 1) := by decide +kernel
theorem dX6_init_72 : decode cX6_init 72 = .ok (.invokespecial 46, 3) := by decide +kernel
theorem dX6_init_75 : decode cX6_init 75 = .ok (.putfield 47, 3) := by decide +kernel
theorem dX6_init_78 : decode cX6_init 78 = .ok (.aload_n 0, 1) := by decide +kernel
theorem dX6_init_79 : decode cX6_init 79 = .ok (.new 51, 3) := by decide +kernel
theorem dX6_init_82 : decode cX6_init 82 = .ok (.dup, 1) := by decide +kernel
theorem dX6_init_83 : decode cX6_init 83 = .ok (.invokespecial 53, 3) := by decide +kernel
theorem dX6_init_86 : decode cX6_init 86 = .ok (.putfield 54, 3) := by decide +kernel
theorem dX6_init_89 : decode cX6_init 89 = .ok (.return_, 1) := by decide +kernel
theorem c_X6_init {T : vT} {M : vM}  : vCon m_X6_init ([0]) ([0] ++ [10] ++ [11] ++ [12] ++ [13] ++ [14] ++ [15] ++ [20] ++ [21] ++ [22] ++ [23] ++ [24] ++ [25] ++ [1] ++ [60] ++ [61] ++ [62] ++ [70] ++ [30] ++ [31] ++ [32] ++ [33] ++ [34] ++ [35] ++ [76] ++ [77] ++ [80] ++ [81] ++ [82] ++ [83] ++ [90] ++ [91] ++ [92] ++ [100] ++ [102] ++ [103] ++ [104]) [vR 0] T M (vPv fun T1 M1 => T1 = iT_X6 T ∧ M1 = iM_X6 M) := by
  refine vCon.of (by decide) rfl rfl (Nat.le_of_ble_eq_true rfl) ?_
  refine vV.aload_n dX6_init_0 rfl ?_
  refine vV.objInit dX6_init_1 ml_X6_1 mm_oi (by decide) (Nat.le_of_ble_eq_true rfl) ?_
  refine vV.aload_n dX6_init_4 rfl ?_
  refine vV.newO (k := 10) (ci := 3) dX6_init_5 rfl cl_X6_7 (by first | rfl | assumption) (by decide) (vLe_s (vLe_s (vLe_s (vLe_s (vLe_s (vLe_s (vLe_s (vLe_s (vLe_s (vLe_s (vLe_s (vLe_s (vLe_s (vLe_s (vLe_s (vLe_s (vLe_s (vLe_s (vLe_s (vLe_s (vLe_s (vLe_s (vLe_s (vLe_s (vLe_s (vLe_s (vLe_s (vLe_s (vLe_s (vLe_s (vLe_s (vLe_s (vLe_s (vLe_s (vLe_s (vLe_m (vLe_rf _))))))))))))))))))))))))))))))))))))) ?_
  refine vV.dup dX6_init_8 rfl ?_
  refine vV.cIv dX6_init_9 ml_X6_9 cw_X3_init rfl iw_X3_init (c_X3_init (a := 10) sgK_10 (by decide) (by decide) (by decide) (by decide) (by decide)) rfl (by unfold vRoom; decide) (Nat.le_of_ble_eq_true rfl) (vLe_s (vLe_s (vLe_s (vLe_s (vLe_s (vLe_s (vLe_s (vLe_s (vLe_s (vLe_s (vLe_s (vLe_s (vLe_s (vLe_s (vLe_s (vLe_s (vLe_s (vLe_s (vLe_s (vLe_s (vLe_s (vLe_s (vLe_s (vLe_s (vLe_s (vLe_s (vLe_s (vLe_s (vLe_s (vLe_s (vLe_m (vLe_m (vLe_m (vLe_m (vLe_m (vLe_rf _)))))))))))))))))))))))))))))))))))) ?_
  rintro _ _ ⟨rfl, rfl⟩
  refine vV.putF dX6_init_12 fl_X6_10 rfl (fun C T N h => by cases h; rfl) (by first | rfl | assumption) rfl ?_
  refine vV.aload_n dX6_init_15 rfl ?_
  refine vV.newO (k := 20) (ci := 3) dX6_init_16 rfl cl_X6_7 (by first | rfl | assumption) (by decide) (vLe_s (vLe_s (vLe_s (vLe_s (vLe_s (vLe_s (vLe_s (vLe_s (vLe_s (vLe_s (vLe_s (vLe_s (vLe_s (vLe_s (vLe_s (vLe_s (vLe_s (vLe_s (vLe_s (vLe_s (vLe_s (vLe_s (vLe_s (vLe_s (vLe_s (vLe_s (vLe_s (vLe_s (vLe_s (vLe_m (vLe_rf _))))))))))))))))))))))))))))))) ?_
  refine vV.dup dX6_init_19 rfl ?_
  refine vV.cIv dX6_init_20 ml_X6_9 cw_X3_init rfl iw_X3_init (c_X3_init (a := 20) sgK_20 (by decide) (by decide) (by decide) (by decide) (by decide)) rfl (by unfold vRoom; decide) (Nat.le_of_ble_eq_true rfl) (vLe_s (vLe_s (vLe_s (vLe_s (vLe_s (vLe_s (vLe_s (vLe_s (vLe_s (vLe_s (vLe_s (vLe_s (vLe_s (vLe_s (vLe_s (vLe_s (vLe_s (vLe_s (vLe_s (vLe_s (vLe_s (vLe_s (vLe_s (vLe_s (vLe_m (vLe_m (vLe_m (vLe_m (vLe_m (vLe_rf _)))))))))))))))))))))))))))))) ?_
  rintro _ _ ⟨rfl, rfl⟩
  refine vV.putF dX6_init_23 fl_X6_16 rfl (fun C T N h => by cases h; rfl) (by first | rfl | assumption) rfl ?_
  refine vV.aload_n dX6_init_26 rfl ?_
  refine vV.iconst dX6_init_27 (by decide) ?_
  refine vV.newQ (k := 1) dX6_init_28 rfl (by first | rfl | assumption) (by decide) (by decide) (vLe_s (vLe_s (vLe_s (vLe_s (vLe_s (vLe_s (vLe_s (vLe_s (vLe_s (vLe_s (vLe_s (vLe_s (vLe_s (vLe_s (vLe_s (vLe_s (vLe_s (vLe_s (vLe_s (vLe_s (vLe_s (vLe_s (vLe_s (vLe_m (vLe_rf _))))))))))))))))))))))))) cl_X6_7 ?_
  refine vV.putF dX6_init_31 fl_X6_19 rfl (fun C T N h => by cases h; rfl) (by first | rfl | assumption) rfl ?_
  refine vV.aload_n dX6_init_34 rfl ?_
  refine vV.newO (k := 60) (ci := 1) dX6_init_35 rfl cl_X6_23 (by first | rfl | assumption) (by decide) (vLe_s (vLe_s (vLe_s (vLe_s (vLe_s (vLe_s (vLe_s (vLe_s (vLe_s (vLe_s (vLe_s (vLe_s (vLe_s (vLe_s (vLe_s (vLe_s (vLe_s (vLe_s (vLe_s (vLe_s (vLe_s (vLe_s (vLe_m (vLe_rf _)))))))))))))))))))))))) ?_
  refine vV.dup dX6_init_38 rfl ?_
  refine vV.cIv dX6_init_39 ml_X6_25 cw_X1_init rfl iw_X1_init (c_X1_init (by decide) (by decide)) rfl (by unfold vRoom; decide) (Nat.le_of_ble_eq_true rfl) (vLe_s (vLe_s (vLe_s (vLe_s (vLe_s (vLe_s (vLe_s (vLe_s (vLe_s (vLe_s (vLe_s (vLe_s (vLe_s (vLe_s (vLe_s (vLe_s (vLe_s (vLe_s (vLe_s (vLe_s (vLe_m (vLe_m (vLe_rf _))))))))))))))))))))))) ?_
  rintro _ _ ⟨rfl, rfl⟩
  refine vV.putF dX6_init_42 fl_X6_26 rfl (fun C T N h => by cases h; rfl) (by first | rfl | assumption) rfl ?_
  refine vV.aload_n dX6_init_45 rfl ?_
  refine vV.newO (k := 70) (ci := 5) dX6_init_46 rfl cl_X6_30 (by first | rfl | assumption) (by decide) (vLe_s (vLe_s (vLe_s (vLe_s (vLe_s (vLe_s (vLe_s (vLe_s (vLe_s (vLe_s (vLe_s (vLe_s (vLe_s (vLe_s (vLe_s (vLe_s (vLe_s (vLe_s (vLe_s (vLe_m (vLe_rf _))))))))))))))))))))) ?_
  refine vV.dup dX6_init_49 rfl ?_
  refine vV.cIv dX6_init_50 ml_X6_32 cw_X5_init rfl iw_X5_init (c_X5_init (by decide) (by decide) (by decide) (by decide) (by decide) (by decide) (by decide) (by decide)) rfl (by unfold vRoom; decide) (Nat.le_of_ble_eq_true rfl) (vLe_s (vLe_s (vLe_s (vLe_s (vLe_s (vLe_s (vLe_s (vLe_s (vLe_s (vLe_s (vLe_s (vLe_m (vLe_m (vLe_m (vLe_m (vLe_m (vLe_m (vLe_m (vLe_m (vLe_rf _)))))))))))))))))))) ?_
  rintro _ _ ⟨rfl, rfl⟩
  refine vV.putF dX6_init_53 fl_X6_33 rfl (fun C T N h => by cases h; rfl) (by first | rfl | assumption) rfl ?_
  refine vV.aload_n dX6_init_56 rfl ?_
  refine vV.newO (k := 80) (ci := 4) dX6_init_57 rfl cl_X6_37 (by first | rfl | assumption) (by decide) (vLe_s (vLe_s (vLe_s (vLe_s (vLe_s (vLe_s (vLe_s (vLe_s (vLe_s (vLe_s (vLe_m (vLe_rf _)))))))))))) ?_
  refine vV.dup dX6_init_60 rfl ?_
  refine vV.cIv dX6_init_61 ml_X6_39 cw_X4_init rfl iw_X4_init (c_X4_init (by decide) (by decide) (by decide)) rfl (by unfold vRoom; decide) (Nat.le_of_ble_eq_true rfl) (vLe_s (vLe_s (vLe_s (vLe_s (vLe_s (vLe_s (vLe_s (vLe_m (vLe_m (vLe_m (vLe_rf _))))))))))) ?_
  rintro _ _ ⟨rfl, rfl⟩
  refine vV.putF dX6_init_64 fl_X6_40 rfl (fun C T N h => by cases h; rfl) (by first | rfl | assumption) rfl ?_
  refine vV.aload_n dX6_init_67 rfl ?_
  refine vV.newO (k := 90) (ci := 2) dX6_init_68 rfl cl_X6_44 (by first | rfl | assumption) (by decide) (vLe_s (vLe_s (vLe_s (vLe_s (vLe_s (vLe_s (vLe_m (vLe_rf _)))))))) ?_
  refine vV.dup dX6_init_71 rfl ?_
  refine vV.cIv dX6_init_72 ml_X6_46 cw_X2_init rfl iw_X2_init (c_X2_init (by decide) (by decide)) rfl (by unfold vRoom; decide) (Nat.le_of_ble_eq_true rfl) (vLe_s (vLe_s (vLe_s (vLe_s (vLe_m (vLe_m (vLe_rf _))))))) ?_
  rintro _ _ ⟨rfl, rfl⟩
  refine vV.putF dX6_init_75 fl_X6_47 rfl (fun C T N h => by cases h; rfl) (by first | rfl | assumption) rfl ?_
  refine vV.aload_n dX6_init_78 rfl ?_
  refine vV.newO (k := 100) (ci := 0) dX6_init_79 rfl cl_X6_51 (by first | rfl | assumption) (by decide) (vLe_s (vLe_s (vLe_s (vLe_m (vLe_rf _))))) ?_
  refine vV.dup dX6_init_82 rfl ?_
  refine vV.cIv dX6_init_83 ml_X6_53 cw_X0_init rfl iw_X0_init (c_X0_init (by decide) (by decide) (by decide)) rfl (by unfold vRoom; decide) (Nat.le_of_ble_eq_true rfl) (vLe_m (vLe_m (vLe_m (vLe_rf _)))) ?_
  rintro _ _ ⟨rfl, rfl⟩
  refine vV.putF dX6_init_86 fl_X6_54 rfl (fun C T N h => by cases h; rfl) (by first | rfl | assumption) rfl ?_
  refine vV.rv dX6_init_89 rfl ?_
  exact ⟨rfl, rfl⟩
def iT_X7 (T : vT) : vT := vUpT (vClT (vUpT (vClT (vUpT (vClT (vUpT (vClT (vUpT (vClT (vUpT (vClT (vUpT (vClT (vUpT (vClT (vUpT (vClT (vUpT (vClT (vUpT (vClT (vUpT (vClT (vUpT (vClT (vUpT (vClT (vUpT (vClT (vUpT (vClT (vUpT (vClT (vUpT (vClT (vUpT (vClT (vUpT (vClT (vUpT (vClT (T) 201) 200 0 (some 201)) 202) 200 1 (some 202)) 203) 200 2 (some 203)) 204) 200 3 (some 204)) 211) 200 10 (some 211)) 212) 200 11 (some 212)) 218) 200 17 (some 218)) 219) 200 18 (some 219)) 220) 200 19 (some 220)) 222) 200 21 (some 222)) 226) 200 25 (some 226)) 227) 200 26 (some 227)) 228) 200 27 (some 228)) 229) 200 28 (some 229)) 231) 200 30 (some 231)) 233) 200 32 (some 233)) 234) 200 33 (some 234)) 235) 200 34 (some 235)) 236) 200 35 (some 236)) 237) 200 36 (some 237)) 238) 200 37 (some 238)
def iM_X7 (M : vM) : vM := vUpd (vUpd (vUpd (vClr (vClr (vClr (vClr (vClr (vClr (vUpd (vClr (vClr (vClr (vClr (vClr (vClr (vClr (vClr (vClr (vClr (vClr (vClr (vClr (vClr (vClr (M) 201) 202) 203) 204) 211) 212) 218) 219) 220) 222) 226) 227) 228) 229) 231) 200 31 (-6)) 233) 234) 235) 236) 237) 238) 200 6 (3)) 200 7 (4)) 200 9 (2)
theorem dX7_init_0 : decode cX7_init 0 = .ok (.aload_n 0, 1) := by decide +kernel
theorem dX7_init_1 : decode cX7_init 1 = .ok (.invokespecial 1, 3) := by decide +kernel
theorem dX7_init_4 : decode cX7_init 4 = .ok (.aload_n 0, 1) := by decide +kernel
theorem dX7_init_5 : decode cX7_init 5 = .ok (.bipush 6, 2) := by decide +kernel
theorem dX7_init_7 : decode cX7_init 7 = .ok (.newarray .int, 2) := by decide +kernel
theorem dX7_init_9 : decode cX7_init 9 = .ok (.putfield 7, 3) := by decide +kernel
theorem dX7_init_12 : decode cX7_init 12 = .ok (.aload_n 0, 1) := by decide +kernel
theorem dX7_init_13 : decode cX7_init 13 = .ok (.bipush 6, 2) := by decide +kernel
theorem dX7_init_15 : decode cX7_init 15 = .ok (.newarray .int, 2) := by decide +kernel
theorem dX7_init_17 : decode cX7_init 17 = .ok (.putfield 13, 3) := by decide +kernel
theorem dX7_init_20 : decode cX7_init 20 = .ok (.aload_n 0, 1) := by decide +kernel
theorem dX7_init_21 : decode cX7_init 21 = .ok (.bipush 6, 2) := by decide +kernel
theorem dX7_init_23 : decode cX7_init 23 = .ok (.newarray .int, 2) := by decide +kernel
theorem dX7_init_25 : decode cX7_init 25 = .ok (.putfield 16, 3) := by decide +kernel
theorem dX7_init_28 : decode cX7_init 28 = .ok (.aload_n 0, 1) := by decide +kernel
theorem dX7_init_29 : decode cX7_init 29 = .ok (.bipush 6, 2) := by decide +kernel
theorem dX7_init_31 : decode cX7_init 31 = .ok (.newarray .int, 2) := by decide +kernel
theorem dX7_init_33 : decode cX7_init 33 = .ok (.putfield 19, 3) := by decide +kernel
theorem dX7_init_36 : decode cX7_init 36 = .ok (.aload_n 0, 1) := by decide +kernel
theorem dX7_init_37 : decode cX7_init 37 = .ok (.bipush 6, 2) := by decide +kernel
theorem dX7_init_39 : decode cX7_init 39 = .ok (.newarray .int, 2) := by decide +kernel
theorem dX7_init_41 : decode cX7_init 41 = .ok (.putfield 22, 3) := by decide +kernel
theorem dX7_init_44 : decode cX7_init 44 = .ok (.aload_n 0, 1) := by decide +kernel
theorem dX7_init_45 : decode cX7_init 45 = .ok (.bipush 6, 2) := by decide +kernel
theorem dX7_init_47 : decode cX7_init 47 = .ok (.newarray .int, 2) := by decide +kernel
theorem dX7_init_49 : decode cX7_init 49 = .ok (.putfield 25, 3) := by decide +kernel
theorem dX7_init_52 : decode cX7_init 52 = .ok (.aload_n 0, 1) := by decide +kernel
theorem dX7_init_53 : decode cX7_init 53 = .ok (.sipush 601, 3) := by decide +kernel
theorem dX7_init_56 : decode cX7_init 56 = .ok (.newarray .int, 2) := by decide +kernel
theorem dX7_init_58 : decode cX7_init 58 = .ok (.putfield 28, 3) := by decide +kernel
theorem dX7_init_61 : decode cX7_init 61 = .ok (.aload_n 0, 1) := by decide +kernel
theorem dX7_init_62 : decode cX7_init 62 = .ok (.sipush 601, 3) := by decide +kernel
theorem dX7_init_65 : decode cX7_init 65 = .ok (.newarray .int, 2) := by decide +kernel
theorem dX7_init_67 : decode cX7_init 67 = .ok (.putfield 31, 3) := by decide +kernel
theorem dX7_init_70 : decode cX7_init 70 = .ok (.aload_n 0, 1) := by decide +kernel
theorem dX7_init_71 : decode cX7_init 71 = .ok (.bipush 40, 2) := by decide +kernel
theorem dX7_init_73 : decode cX7_init 73 = .ok (.newarray .int, 2) := by decide +kernel
theorem dX7_init_75 : decode cX7_init 75 = .ok (.putfield 34, 3) := by decide +kernel
theorem dX7_init_78 : decode cX7_init 78 = .ok (.aload_n 0, 1) := by decide +kernel
theorem dX7_init_79 : decode cX7_init 79 = .ok (.sipush 400, 3) := by decide +kernel
theorem dX7_init_82 : decode cX7_init 82 = .ok (.newarray .int, 2) := by decide +kernel
theorem dX7_init_84 : decode cX7_init 84 = .ok (.putfield 37, 3) := by decide +kernel
theorem dX7_init_87 : decode cX7_init 87 = .ok (.aload_n 0, 1) := by decide +kernel
theorem dX7_init_88 : decode cX7_init 88 = .ok (.bipush 6, 2) := by decide +kernel
theorem dX7_init_90 : decode cX7_init 90 = .ok (.newarray .int, 2) := by decide +kernel
theorem dX7_init_92 : decode cX7_init 92 = .ok (.putfield 40, 3) := by decide +kernel
theorem dX7_init_95 : decode cX7_init 95 = .ok (.aload_n 0, 1) := by decide +kernel
theorem dX7_init_96 : decode cX7_init 96 = .ok (.bipush 6, 2) := by decide +kernel
theorem dX7_init_98 : decode cX7_init 98 = .ok (.newarray .int, 2) := by decide +kernel
theorem dX7_init_100 : decode cX7_init 100 = .ok (.putfield 43, 3) := by decide +kernel
theorem dX7_init_103 : decode cX7_init 103 = .ok (.aload_n 0, 1) := by decide +kernel
theorem dX7_init_104 : decode cX7_init 104 = .ok (.bipush 6, 2) := by decide +kernel
theorem dX7_init_106 : decode cX7_init 106 = .ok (.newarray .int, 2) := by decide +kernel
theorem dX7_init_108 : decode cX7_init 108 = .ok (.putfield 46, 3) := by decide +kernel
theorem dX7_init_111 : decode cX7_init 111 = .ok (.aload_n 0, 1) := by decide +kernel
theorem dX7_init_112 : decode cX7_init 112 = .ok (.iconst 3, 1) := by decide +kernel
theorem dX7_init_113 : decode cX7_init 113 = .ok (.newarray .int, 2) := by decide +kernel
theorem dX7_init_115 : decode cX7_init 115 = .ok (.putfield 49, 3) := by decide +kernel
theorem dX7_init_118 : decode cX7_init 118 = .ok (.aload_n 0, 1) := by decide +kernel
theorem dX7_init_119 : decode cX7_init 119 = .ok (.ldc 52, 2) := by decide +kernel
theorem dX7_init_121 : decode cX7_init 121 = .ok (.newarray .int, 2) := by decide +kernel
theorem dX7_init_123 : decode cX7_init 123 = .ok (.putfield 53, 3) := by decide +kernel
theorem dX7_init_126 : decode cX7_init 126 = .ok (.aload_n 0, 1) := by decide +kernel
theorem dX7_init_127 : decode cX7_init 127 = .ok (.bipush (-6), 2) := by decide +kernel
theorem dX7_init_129 : decode cX7_init 129 = .ok (.putfield 56, 3) := by decide +kernel
theorem dX7_init_132 : decode cX7_init 132 = .ok (.aload_n 0, 1) := by decide +kernel
theorem dX7_init_133 : decode cX7_init 133 = .ok (.ldc 52, 2) := by decide +kernel
theorem dX7_init_135 : decode cX7_init 135 = .ok (.newarray .int, 2) := by decide +kernel
theorem dX7_init_137 : decode cX7_init 137 = .ok (.putfield 60, 3) := by decide +kernel
theorem dX7_init_140 : decode cX7_init 140 = .ok (.aload_n 0, 1) := by decide +kernel
theorem dX7_init_141 : decode cX7_init 141 = .ok (.ldc 52, 2) := by decide +kernel
theorem dX7_init_143 : decode cX7_init 143 = .ok (.newarray .int, 2) := by decide +kernel
theorem dX7_init_145 : decode cX7_init 145 = .ok (.putfield 63, 3) := by decide +kernel
theorem dX7_init_148 : decode cX7_init 148 = .ok (.aload_n 0, 1) := by decide +kernel
theorem dX7_init_149 : decode cX7_init 149 = .ok (.ldc 66, 2) := by decide +kernel
theorem dX7_init_151 : decode cX7_init 151 = .ok (.newarray .int, 2) := by decide +kernel
theorem dX7_init_153 : decode cX7_init 153 = .ok (.putfield 67, 3) := by decide +kernel
theorem dX7_init_156 : decode cX7_init 156 = .ok (.aload_n 0, 1) := by decide +kernel
theorem dX7_init_157 : decode cX7_init 157 = .ok (.bipush 6, 2) := by decide +kernel
theorem dX7_init_159 : decode cX7_init 159 = .ok (.newarray .int, 2) := by decide +kernel
theorem dX7_init_161 : decode cX7_init 161 = .ok (.putfield 70, 3) := by decide +kernel
theorem dX7_init_164 : decode cX7_init 164 = .ok (.aload_n 0, 1) := by decide +kernel
theorem dX7_init_165 : decode cX7_init 165 = .ok (.bipush 80, 2) := by decide +kernel
theorem dX7_init_167 : decode cX7_init 167 = .ok (.newarray .int, 2) := by decide +kernel
theorem dX7_init_169 : decode cX7_init 169 = .ok (.putfield 73, 3) := by decide +kernel
theorem dX7_init_172 : decode cX7_init 172 = .ok (.aload_n 0, 1) := by decide +kernel
theorem dX7_init_173 : decode cX7_init 173 = .ok (.iconst 2, 1) := by decide +kernel
theorem dX7_init_174 : decode cX7_init 174 = .ok (.newarray .boolean, 2) := by decide +kernel
theorem dX7_init_176 : decode cX7_init 176 = .ok (.putfield 76, 3) := by decide +kernel
theorem dX7_init_179 : decode cX7_init 179 = .ok (.aload_n 0, 1) := by decide +kernel
theorem dX7_init_180 : decode cX7_init 180 = .ok (.iconst 3, 1) := by decide +kernel
theorem dX7_init_181 : decode cX7_init 181 = .ok (.putfield 80, 3) := by decide +kernel
theorem dX7_init_184 : decode cX7_init 184 = .ok (.aload_n 0, 1) := by decide +kernel
theorem dX7_init_185 : decode cX7_init 185 = .ok (.iconst 4, 1) := by decide +kernel
theorem dX7_init_186 : decode cX7_init 186 = .ok (.putfield 83, 3) := by decide +kernel
theorem dX7_init_189 : decode cX7_init 189 = .ok (.aload_n 0, 1) := by decide +kernel
theorem dX7_init_190 : decode cX7_init 190 = .ok (.iconst 2, 1) := by decide +kernel
theorem dX7_init_191 : decode cX7_init 191 = .ok (.putfield 86, 3) := by decide +kernel
theorem dX7_init_194 : decode cX7_init 194 = .ok (.return_, 1) := by decide +kernel
theorem c_X7_init {d : List Nat} {T : vT} {M : vM} (h1201 : 201 ∉ d) (h1202 : 202 ∉ d) (h1203 : 203 ∉ d) (h1204 : 204 ∉ d) (h1211 : 211 ∉ d) (h1212 : 212 ∉ d) (h1218 : 218 ∉ d) (h1219 : 219 ∉ d) (h1220 : 220 ∉ d) (h1222 : 222 ∉ d) (h1226 : 226 ∉ d) (h1227 : 227 ∉ d) (h1228 : 228 ∉ d) (h1229 : 229 ∉ d) (h1231 : 231 ∉ d) (h1233 : 233 ∉ d) (h1234 : 234 ∉ d) (h1235 : 235 ∉ d) (h1236 : 236 ∉ d) (h1237 : 237 ∉ d) (h1238 : 238 ∉ d) : vCon m_X7_init (d) (d ++ [201] ++ [202] ++ [203] ++ [204] ++ [211] ++ [212] ++ [218] ++ [219] ++ [220] ++ [222] ++ [226] ++ [227] ++ [228] ++ [229] ++ [231] ++ [233] ++ [234] ++ [235] ++ [236] ++ [237] ++ [238]) [vR 200] T M (vPv fun T1 M1 => T1 = iT_X7 T ∧ M1 = iM_X7 M) := by
  refine vCon.of (by decide) rfl rfl (Nat.le_of_ble_eq_true rfl) ?_
  refine vV.aload_n dX7_init_0 rfl ?_
  refine vV.objInit dX7_init_1 ml_X7_1 mm_oi (by decide) (Nat.le_of_ble_eq_true rfl) ?_
  refine vV.aload_n dX7_init_4 rfl ?_
  refine vV.bipush (v := 6) dX7_init_5 (by decide) (by decide) ?_
  refine vV.newI (k := 201) dX7_init_7 rfl (by first | rfl | assumption) (by first | assumption | (simp; assumption)) (by decide) (vLe_s (vLe_s (vLe_s (vLe_s (vLe_s (vLe_s (vLe_s (vLe_s (vLe_s (vLe_s (vLe_s (vLe_s (vLe_s (vLe_s (vLe_s (vLe_s (vLe_s (vLe_s (vLe_s (vLe_s (vLe_m (vLe_rf _)))))))))))))))))))))) ac_int ?_
  refine vV.putF dX7_init_9 fl_X7_7 rfl (fun C T N h => by cases h; rfl) (by first | rfl | assumption) rfl ?_
  refine vV.aload_n dX7_init_12 rfl ?_
  refine vV.bipush (v := 6) dX7_init_13 (by decide) (by decide) ?_
  refine vV.newI (k := 202) dX7_init_15 rfl (by first | rfl | assumption) (by first | assumption | (simp; assumption)) (by decide) (vLe_s (vLe_s (vLe_s (vLe_s (vLe_s (vLe_s (vLe_s (vLe_s (vLe_s (vLe_s (vLe_s (vLe_s (vLe_s (vLe_s (vLe_s (vLe_s (vLe_s (vLe_s (vLe_s (vLe_m (vLe_rf _))))))))))))))))))))) ac_int ?_
  refine vV.putF dX7_init_17 fl_X7_13 rfl (fun C T N h => by cases h; rfl) (by first | rfl | assumption) rfl ?_
  refine vV.aload_n dX7_init_20 rfl ?_
  refine vV.bipush (v := 6) dX7_init_21 (by decide) (by decide) ?_
  refine vV.newI (k := 203) dX7_init_23 rfl (by first | rfl | assumption) (by first | assumption | (simp; assumption)) (by decide) (vLe_s (vLe_s (vLe_s (vLe_s (vLe_s (vLe_s (vLe_s (vLe_s (vLe_s (vLe_s (vLe_s (vLe_s (vLe_s (vLe_s (vLe_s (vLe_s (vLe_s (vLe_s (vLe_m (vLe_rf _)))))))))))))))))))) ac_int ?_
  refine vV.putF dX7_init_25 fl_X7_16 rfl (fun C T N h => by cases h; rfl) (by first | rfl | assumption) rfl ?_
  refine vV.aload_n dX7_init_28 rfl ?_
  refine vV.bipush (v := 6) dX7_init_29 (by decide) (by decide) ?_
  refine vV.newI (k := 204) dX7_init_31 rfl (by first | rfl | assumption) (by first | assumption | (simp; assumption)) (by decide) (vLe_s (vLe_s (vLe_s (vLe_s (vLe_s (vLe_s (vLe_s (vLe_s (vLe_s (vLe_s (vLe_s (vLe_s (vLe_s (vLe_s (vLe_s (vLe_s (vLe_s (vLe_m (vLe_rf _))))))))))))))))))) ac_int ?_
  refine vV.putF dX7_init_33 fl_X7_19 rfl (fun C T N h => by cases h; rfl) (by first | rfl | assumption) rfl ?_
  refine vV.aload_n dX7_init_36 rfl ?_
  refine vV.bipush (v := 6) dX7_init_37 (by decide) (by decide) ?_
  refine vV.newI (k := 211) dX7_init_39 rfl (by first | rfl | assumption) (by first | assumption | (simp; assumption)) (by decide) (vLe_s (vLe_s (vLe_s (vLe_s (vLe_s (vLe_s (vLe_s (vLe_s (vLe_s (vLe_s (vLe_s (vLe_s (vLe_s (vLe_s (vLe_s (vLe_s (vLe_m (vLe_rf _)))))))))))))))))) ac_int ?_
  refine vV.putF dX7_init_41 fl_X7_22 rfl (fun C T N h => by cases h; rfl) (by first | rfl | assumption) rfl ?_
  refine vV.aload_n dX7_init_44 rfl ?_
  refine vV.bipush (v := 6) dX7_init_45 (by decide) (by decide) ?_
  refine vV.newI (k := 212) dX7_init_47 rfl (by first | rfl | assumption) (by first | assumption | (simp; assumption)) (by decide) (vLe_s (vLe_s (vLe_s (vLe_s (vLe_s (vLe_s (vLe_s (vLe_s (vLe_s (vLe_s (vLe_s (vLe_s (vLe_s (vLe_s (vLe_s (vLe_m (vLe_rf _))))))))))))))))) ac_int ?_
  refine vV.putF dX7_init_49 fl_X7_25 rfl (fun C T N h => by cases h; rfl) (by first | rfl | assumption) rfl ?_
  refine vV.aload_n dX7_init_52 rfl ?_
  refine vV.sipush (v := 601) dX7_init_53 (by decide) (by decide) ?_
  refine vV.newI (k := 218) dX7_init_56 rfl (by first | rfl | assumption) (by first | assumption | (simp; assumption)) (by decide) (vLe_s (vLe_s (vLe_s (vLe_s (vLe_s (vLe_s (vLe_s (vLe_s (vLe_s (vLe_s (vLe_s (vLe_s (vLe_s (vLe_s (vLe_m (vLe_rf _)))))))))))))))) ac_int ?_
  refine vV.putF dX7_init_58 fl_X7_28 rfl (fun C T N h => by cases h; rfl) (by first | rfl | assumption) rfl ?_
  refine vV.aload_n dX7_init_61 rfl ?_
  refine vV.sipush (v := 601) dX7_init_62 (by decide) (by decide) ?_
  refine vV.newI (k := 219) dX7_init_65 rfl (by first | rfl | assumption) (by first | assumption | (simp; assumption)) (by decide) (vLe_s (vLe_s (vLe_s (vLe_s (vLe_s (vLe_s (vLe_s (vLe_s (vLe_s (vLe_s (vLe_s (vLe_s (vLe_s (vLe_m (vLe_rf _))))))))))))))) ac_int ?_
  refine vV.putF dX7_init_67 fl_X7_31 rfl (fun C T N h => by cases h; rfl) (by first | rfl | assumption) rfl ?_
  refine vV.aload_n dX7_init_70 rfl ?_
  refine vV.bipush (v := 40) dX7_init_71 (by decide) (by decide) ?_
  refine vV.newI (k := 220) dX7_init_73 rfl (by first | rfl | assumption) (by first | assumption | (simp; assumption)) (by decide) (vLe_s (vLe_s (vLe_s (vLe_s (vLe_s (vLe_s (vLe_s (vLe_s (vLe_s (vLe_s (vLe_s (vLe_s (vLe_m (vLe_rf _)))))))))))))) ac_int ?_
  refine vV.putF dX7_init_75 fl_X7_34 rfl (fun C T N h => by cases h; rfl) (by first | rfl | assumption) rfl ?_
  refine vV.aload_n dX7_init_78 rfl ?_
  refine vV.sipush (v := 400) dX7_init_79 (by decide) (by decide) ?_
  refine vV.newI (k := 222) dX7_init_82 rfl (by first | rfl | assumption) (by first | assumption | (simp; assumption)) (by decide) (vLe_s (vLe_s (vLe_s (vLe_s (vLe_s (vLe_s (vLe_s (vLe_s (vLe_s (vLe_s (vLe_s (vLe_m (vLe_rf _))))))))))))) ac_int ?_
  refine vV.putF dX7_init_84 fl_X7_37 rfl (fun C T N h => by cases h; rfl) (by first | rfl | assumption) rfl ?_
  refine vV.aload_n dX7_init_87 rfl ?_
  refine vV.bipush (v := 6) dX7_init_88 (by decide) (by decide) ?_
  refine vV.newI (k := 226) dX7_init_90 rfl (by first | rfl | assumption) (by first | assumption | (simp; assumption)) (by decide) (vLe_s (vLe_s (vLe_s (vLe_s (vLe_s (vLe_s (vLe_s (vLe_s (vLe_s (vLe_s (vLe_m (vLe_rf _)))))))))))) ac_int ?_
  refine vV.putF dX7_init_92 fl_X7_40 rfl (fun C T N h => by cases h; rfl) (by first | rfl | assumption) rfl ?_
  refine vV.aload_n dX7_init_95 rfl ?_
  refine vV.bipush (v := 6) dX7_init_96 (by decide) (by decide) ?_
  refine vV.newI (k := 227) dX7_init_98 rfl (by first | rfl | assumption) (by first | assumption | (simp; assumption)) (by decide) (vLe_s (vLe_s (vLe_s (vLe_s (vLe_s (vLe_s (vLe_s (vLe_s (vLe_s (vLe_m (vLe_rf _))))))))))) ac_int ?_
  refine vV.putF dX7_init_100 fl_X7_43 rfl (fun C T N h => by cases h; rfl) (by first | rfl | assumption) rfl ?_
  refine vV.aload_n dX7_init_103 rfl ?_
  refine vV.bipush (v := 6) dX7_init_104 (by decide) (by decide) ?_
  refine vV.newI (k := 228) dX7_init_106 rfl (by first | rfl | assumption) (by first | assumption | (simp; assumption)) (by decide) (vLe_s (vLe_s (vLe_s (vLe_s (vLe_s (vLe_s (vLe_s (vLe_s (vLe_m (vLe_rf _)))))))))) ac_int ?_
  refine vV.putF dX7_init_108 fl_X7_46 rfl (fun C T N h => by cases h; rfl) (by first | rfl | assumption) rfl ?_
  refine vV.aload_n dX7_init_111 rfl ?_
  refine vV.iconst dX7_init_112 (by decide) ?_
  refine vV.newI (k := 229) dX7_init_113 rfl (by first | rfl | assumption) (by first | assumption | (simp; assumption)) (by decide) (vLe_s (vLe_s (vLe_s (vLe_s (vLe_s (vLe_s (vLe_s (vLe_m (vLe_rf _))))))))) ac_int ?_
  refine vV.putF dX7_init_115 fl_X7_49 rfl (fun C T N h => by cases h; rfl) (by first | rfl | assumption) rfl ?_
  refine vV.aload_n dX7_init_118 rfl ?_
  refine vV.ldc (v := 32768) dX7_init_119 kc_X7_52 (by decide) (by decide) ?_
  refine vV.newI (k := 231) dX7_init_121 rfl (by first | rfl | assumption) (by first | assumption | (simp; assumption)) (by decide) (vLe_s (vLe_s (vLe_s (vLe_s (vLe_s (vLe_s (vLe_m (vLe_rf _)))))))) ac_int ?_
  refine vV.putF dX7_init_123 fl_X7_53 rfl (fun C T N h => by cases h; rfl) (by first | rfl | assumption) rfl ?_
  refine vV.aload_n dX7_init_126 rfl ?_
  refine vV.bipush (v := (-6)) dX7_init_127 (by decide) (by decide) ?_
  refine vV.puti (z := 31) dX7_init_129 fl_X7_56 (by first | rfl | assumption) rfl rfl ?_
  refine vV.aload_n dX7_init_132 rfl ?_
  refine vV.ldc (v := 32768) dX7_init_133 kc_X7_52 (by decide) (by decide) ?_
  refine vV.newI (k := 233) dX7_init_135 rfl (by first | rfl | assumption) (by first | assumption | (simp; assumption)) (by decide) (vLe_s (vLe_s (vLe_s (vLe_s (vLe_s (vLe_m (vLe_rf _))))))) ac_int ?_
  refine vV.putF dX7_init_137 fl_X7_60 rfl (fun C T N h => by cases h; rfl) (by first | rfl | assumption) rfl ?_
  refine vV.aload_n dX7_init_140 rfl ?_
  refine vV.ldc (v := 32768) dX7_init_141 kc_X7_52 (by decide) (by decide) ?_
  refine vV.newI (k := 234) dX7_init_143 rfl (by first | rfl | assumption) (by first | assumption | (simp; assumption)) (by decide) (vLe_s (vLe_s (vLe_s (vLe_s (vLe_m (vLe_rf _)))))) ac_int ?_
  refine vV.putF dX7_init_145 fl_X7_63 rfl (fun C T N h => by cases h; rfl) (by first | rfl | assumption) rfl ?_
  refine vV.aload_n dX7_init_148 rfl ?_
  refine vV.ldc (v := 65536) dX7_init_149 kc_X7_66 (by decide) (by decide) ?_
  refine vV.newI (k := 235) dX7_init_151 rfl (by first | rfl | assumption) (by first | assumption | (simp; assumption)) (by decide) (vLe_s (vLe_s (vLe_s (vLe_m (vLe_rf _))))) ac_int ?_
  refine vV.putF dX7_init_153 fl_X7_67 rfl (fun C T N h => by cases h; rfl) (by first | rfl | assumption) rfl ?_
  refine vV.aload_n dX7_init_156 rfl ?_
  refine vV.bipush (v := 6) dX7_init_157 (by decide) (by decide) ?_
  refine vV.newI (k := 236) dX7_init_159 rfl (by first | rfl | assumption) (by first | assumption | (simp; assumption)) (by decide) (vLe_s (vLe_s (vLe_m (vLe_rf _)))) ac_int ?_
  refine vV.putF dX7_init_161 fl_X7_70 rfl (fun C T N h => by cases h; rfl) (by first | rfl | assumption) rfl ?_
  refine vV.aload_n dX7_init_164 rfl ?_
  refine vV.bipush (v := 80) dX7_init_165 (by decide) (by decide) ?_
  refine vV.newI (k := 237) dX7_init_167 rfl (by first | rfl | assumption) (by first | assumption | (simp; assumption)) (by decide) (vLe_s (vLe_m (vLe_rf _))) ac_int ?_
  refine vV.putF dX7_init_169 fl_X7_73 rfl (fun C T N h => by cases h; rfl) (by first | rfl | assumption) rfl ?_
  refine vV.aload_n dX7_init_172 rfl ?_
  refine vV.iconst dX7_init_173 (by decide) ?_
  refine vV.newZ (k := 238) dX7_init_174 rfl (by first | rfl | assumption) (by first | assumption | (simp; assumption)) (by decide) (vLe_m (vLe_rf _)) ac_bool ?_
  refine vV.putF dX7_init_176 fl_X7_76 rfl (fun C T N h => by cases h; rfl) (by first | rfl | assumption) rfl ?_
  refine vV.aload_n dX7_init_179 rfl ?_
  refine vV.iconst dX7_init_180 (by decide) ?_
  refine vV.puti (z := 6) dX7_init_181 fl_X7_80 (by first | rfl | assumption) rfl rfl ?_
  refine vV.aload_n dX7_init_184 rfl ?_
  refine vV.iconst dX7_init_185 (by decide) ?_
  refine vV.puti (z := 7) dX7_init_186 fl_X7_83 (by first | rfl | assumption) rfl rfl ?_
  refine vV.aload_n dX7_init_189 rfl ?_
  refine vV.iconst dX7_init_190 (by decide) ?_
  refine vV.puti (z := 9) dX7_init_191 fl_X7_86 (by first | rfl | assumption) rfl rfl ?_
  refine vV.rv dX7_init_194 rfl ?_
  exact ⟨rfl, rfl⟩
