/-! ===== own: the constructors ===== -/
def stT (T : vT) (a : Nat) : vT := vUpT (vClT (vUpT (vClT (vUpT (vClT (vUpT (vClT (vUpT (vClT T (a + 1)) a 1 (some (a + 1))) (a + 2)) a 2 (some (a + 2))) (a + 3)) a 3 (some (a + 3))) (a + 4)) a 4 (some (a + 4))) (a + 5)) a 5 (some (a + 5))
def stM (M : vM) (a : Nat) : vM := vRow (vClr (vClr (vClr (vClr M (a + 1)) (a + 2)) (a + 3)) (a + 4)) (a + 5) vFi
def stD (d : List Nat) (a : Nat) : List Nat := d ++ [a + 1] ++ [a + 2] ++ [a + 3] ++ [a + 4] ++ [a + 5]
theorem dX3_init_0 : decode cX3_init 0 = .ok (.aload_n 0, 1) := by decide +kernel
theorem dX3_init_1 : decode cX3_init 1 = .ok (.invokespecial 3, 3) := by decide +kernel
theorem dX3_init_4 : decode cX3_init 4 = .ok (.aload_n 0, 1) := by decide +kernel
theorem dX3_init_5 : decode cX3_init 5 = .ok (.bipush 6, 2) := by decide +kernel
theorem dX3_init_7 : decode cX3_init 7 = .ok (.newarray .int, 2) := by decide +kernel
theorem dX3_init_9 : decode cX3_init 9 = .ok (.putfield 9, 3) := by decide +kernel
theorem dX3_init_12 : decode cX3_init 12 = .ok (.aload_n 0, 1) := by decide +kernel
theorem dX3_init_13 : decode cX3_init 13 = .ok (.bipush 6, 2) := by decide +kernel
theorem dX3_init_15 : decode cX3_init 15 = .ok (.newarray .int, 2) := by decide +kernel
theorem dX3_init_17 : decode cX3_init 17 = .ok (.putfield 15, 3) := by decide +kernel
theorem dX3_init_20 : decode cX3_init 20 = .ok (.aload_n 0, 1) := by decide +kernel
theorem dX3_init_21 : decode cX3_init 21 = .ok (.bipush 6, 2) := by decide +kernel
theorem dX3_init_23 : decode cX3_init 23 = .ok (.newarray .int, 2) := by decide +kernel
theorem dX3_init_25 : decode cX3_init 25 = .ok (.putfield 18, 3) := by decide +kernel
theorem dX3_init_28 : decode cX3_init 28 = .ok (.aload_n 0, 1) := by decide +kernel
theorem dX3_init_29 : decode cX3_init 29 = .ok (.bipush 6, 2) := by decide +kernel
theorem dX3_init_31 : decode cX3_init 31 = .ok (.newarray .int, 2) := by decide +kernel
theorem dX3_init_33 : decode cX3_init 33 = .ok (.putfield 21, 3) := by decide +kernel
theorem dX3_init_36 : decode cX3_init 36 = .ok (.aload_n 0, 1) := by decide +kernel
theorem dX3_init_37 : decode cX3_init 37 = .ok (.getstatic 24, 3) := by decide +kernel
theorem dX3_init_40 : decode cX3_init 40 = .ok (.invokevirtual 27, 3) := by decide +kernel
theorem dX3_init_43 : decode cX3_init 43 = .ok (.checkcast 28, 3) := by decide +kernel
theorem dX3_init_46 : decode cX3_init 46 = .ok (.putfield 32, 3) := by decide +kernel
theorem dX3_init_49 : decode cX3_init 49 = .ok (.return_, 1) := by decide +kernel
theorem c_X3_init {d : List Nat} {T : vT} {M : vM} {a : Nat} (hK : sgK a) (h1 : a + 1 ∉ d) (h2 : a + 2 ∉ d) (h3 : a + 3 ∉ d) (h4 : a + 4 ∉ d) (h5 : a + 5 ∉ d) : vCon m_X3_init d (d ++ [a + 1] ++ [a + 2] ++ [a + 3] ++ [a + 4] ++ [a + 5]) [vR a] T M (vPv fun T1 M1 => T1 = stT T a ∧ M1 = stM M a) := by
  obtain ⟨k0, k1, k2, k3, k4, k5⟩ := hK
  have g2 : a + 2 ∉ d ++ [a + 1] := by simp; exact h2
  have g3 : a + 3 ∉ d ++ [a + 1] ++ [a + 2] := by simp; exact h3
  have g4 : a + 4 ∉ d ++ [a + 1] ++ [a + 2] ++ [a + 3] := by simp; exact h4
  have g5 : a + 5 ∉ d ++ [a + 1] ++ [a + 2] ++ [a + 3] ++ [a + 4] := by simp; exact h5
  refine vCon.of (by decide) rfl rfl (Nat.le_of_ble_eq_true rfl) ?_
  refine vV.aload_n dX3_init_0 rfl ?_
  refine vV.objInit dX3_init_1 ml_X3_3 mm_oi (by decide) (Nat.le_of_ble_eq_true rfl) ?_
  refine vV.aload_n dX3_init_4 rfl ?_
  refine vV.bipush (v := 6) dX3_init_5 (by decide) (by decide) ?_
  refine vV.newI (k := a + 1) dX3_init_7 rfl (by first | rfl | assumption) (by assumption) (by decide) (by repeat (first | exact vLe_rf _ | refine vLe_m ?_ | refine vLe_s ?_)) ac_int ?_
  refine vV.putF dX3_init_9 fl_X3_9 rfl (fun C T N h => by cases h; rfl) (by first | rfl | assumption) rfl ?_
  refine vV.aload_n dX3_init_12 rfl ?_
  refine vV.bipush (v := 6) dX3_init_13 (by decide) (by decide) ?_
  refine vV.newI (k := a + 2) dX3_init_15 rfl (by first | rfl | assumption) (by assumption) (by decide) (by repeat (first | exact vLe_rf _ | refine vLe_m ?_ | refine vLe_s ?_)) ac_int ?_
  refine vV.putF dX3_init_17 fl_X3_15 rfl (fun C T N h => by cases h; rfl) (by first | rfl | assumption) rfl ?_
  refine vV.aload_n dX3_init_20 rfl ?_
  refine vV.bipush (v := 6) dX3_init_21 (by decide) (by decide) ?_
  refine vV.newI (k := a + 3) dX3_init_23 rfl (by first | rfl | assumption) (by assumption) (by decide) (by repeat (first | exact vLe_rf _ | refine vLe_m ?_ | refine vLe_s ?_)) ac_int ?_
  refine vV.putF dX3_init_25 fl_X3_18 rfl (fun C T N h => by cases h; rfl) (by first | rfl | assumption) rfl ?_
  refine vV.aload_n dX3_init_28 rfl ?_
  refine vV.bipush (v := 6) dX3_init_29 (by decide) (by decide) ?_
  refine vV.newI (k := a + 4) dX3_init_31 rfl (by first | rfl | assumption) (by assumption) (by decide) (by repeat (first | exact vLe_rf _ | refine vLe_m ?_ | refine vLe_s ?_)) ac_int ?_
  refine vV.putF dX3_init_33 fl_X3_21 rfl (fun C T N h => by cases h; rfl) (by first | rfl | assumption) rfl ?_
  refine vV.aload_n dX3_init_36 rfl ?_
  refine vV.cloneF (k := a + 5) dX3_init_37 dX3_init_40 dX3_init_43 rfl (by first | rfl | assumption) (by assumption) (by repeat (first | exact vLe_rf _ | refine vLe_m ?_ | refine vLe_s ?_)) (by decide) (Nat.le_of_ble_eq_true rfl) ?_
  refine vV.putF dX3_init_46 fl_X3_32 rfl (fun C T N h => by cases h; rfl) (by first | rfl | assumption) rfl ?_
  refine vV.rv dX3_init_49 rfl ?_
  exact ⟨rfl, rfl⟩
theorem dX1_init_0 : decode cX1_init 0 = .ok (.aload_n 0, 1) := by decide +kernel
theorem dX1_init_1 : decode cX1_init 1 = .ok (.invokespecial 5, 3) := by decide +kernel
theorem dX1_init_4 : decode cX1_init 4 = .ok (.aload_n 0, 1) := by decide +kernel
theorem dX1_init_5 : decode cX1_init 5 = .ok (.bipush 40, 2) := by decide +kernel
theorem dX1_init_7 : decode cX1_init 7 = .ok (.newarray .int, 2) := by decide +kernel
theorem dX1_init_9 : decode cX1_init 9 = .ok (.putfield 11, 3) := by decide +kernel
theorem dX1_init_12 : decode cX1_init 12 = .ok (.aload_n 0, 1) := by decide +kernel
theorem dX1_init_13 : decode cX1_init 13 = .ok (.sipush 180, 3) := by decide +kernel
theorem dX1_init_16 : decode cX1_init 16 = .ok (.newarray .int, 2) := by decide +kernel
theorem dX1_init_18 : decode cX1_init 18 = .ok (.putfield 15, 3) := by decide +kernel
theorem dX1_init_21 : decode cX1_init 21 = .ok (.return_, 1) := by decide +kernel
theorem c_X1_init {d : List Nat} {T : vT} {M : vM} (h1061 : 61 ∉ d) (h1062 : 62 ∉ d) : vCon m_X1_init d (d ++ [61] ++ [62]) [vR 60] T M (vPv fun T1 M1 => T1 = vUpT (vClT (vUpT (vClT (T) 61) 60 1 (some 61)) 62) 60 2 (some 62) ∧ M1 = vClr (vClr (M) 61) 62) := by
  refine vCon.of (by decide) rfl rfl (Nat.le_of_ble_eq_true rfl) ?_
  refine vV.aload_n dX1_init_0 rfl ?_
  refine vV.objInit dX1_init_1 ml_X1_5 mm_oi (by decide) (Nat.le_of_ble_eq_true rfl) ?_
  refine vV.aload_n dX1_init_4 rfl ?_
  refine vV.bipush (v := 40) dX1_init_5 (by decide) (by decide) ?_
  refine vV.newI (k := 61) dX1_init_7 rfl (by first | rfl | assumption) (by first | assumption | (simp; assumption)) (by decide) (by repeat (first | exact vLe_rf _ | refine vLe_m ?_ | refine vLe_s ?_)) ac_int ?_
  refine vV.putF dX1_init_9 fl_X1_11 rfl (fun C T N h => by cases h; rfl) (by first | rfl | assumption) rfl ?_
  refine vV.aload_n dX1_init_12 rfl ?_
  refine vV.sipush (v := 180) dX1_init_13 (by decide) (by decide) ?_
  refine vV.newI (k := 62) dX1_init_16 rfl (by first | rfl | assumption) (by first | assumption | (simp; assumption)) (by decide) (by repeat (first | exact vLe_rf _ | refine vLe_m ?_ | refine vLe_s ?_)) ac_int ?_
  refine vV.putF dX1_init_18 fl_X1_15 rfl (fun C T N h => by cases h; rfl) (by first | rfl | assumption) rfl ?_
  refine vV.rv dX1_init_21 rfl ?_
  exact ⟨rfl, rfl⟩
theorem dX2_init_0 : decode cX2_init 0 = .ok (.aload_n 0, 1) := by decide +kernel
theorem dX2_init_1 : decode cX2_init 1 = .ok (.invokespecial 3, 3) := by decide +kernel
theorem dX2_init_4 : decode cX2_init 4 = .ok (.aload_n 0, 1) := by decide +kernel
theorem dX2_init_5 : decode cX2_init 5 = .ok (.bipush 6, 2) := by decide +kernel
theorem dX2_init_7 : decode cX2_init 7 = .ok (.newarray .int, 2) := by decide +kernel
theorem dX2_init_9 : decode cX2_init 9 = .ok (.putfield 9, 3) := by decide +kernel
theorem dX2_init_12 : decode cX2_init 12 = .ok (.aload_n 0, 1) := by decide +kernel
theorem dX2_init_13 : decode cX2_init 13 = .ok (.bipush 6, 2) := by decide +kernel
theorem dX2_init_15 : decode cX2_init 15 = .ok (.newarray .int, 2) := by decide +kernel
theorem dX2_init_17 : decode cX2_init 17 = .ok (.putfield 15, 3) := by decide +kernel
theorem dX2_init_20 : decode cX2_init 20 = .ok (.return_, 1) := by decide +kernel
theorem c_X2_init {d : List Nat} {T : vT} {M : vM} (h1091 : 91 ∉ d) (h1092 : 92 ∉ d) : vCon m_X2_init d (d ++ [91] ++ [92]) [vR 90] T M (vPv fun T1 M1 => T1 = vUpT (vClT (vUpT (vClT (T) 91) 90 0 (some 91)) 92) 90 1 (some 92) ∧ M1 = vClr (vClr (M) 91) 92) := by
  refine vCon.of (by decide) rfl rfl (Nat.le_of_ble_eq_true rfl) ?_
  refine vV.aload_n dX2_init_0 rfl ?_
  refine vV.objInit dX2_init_1 ml_X2_3 mm_oi (by decide) (Nat.le_of_ble_eq_true rfl) ?_
  refine vV.aload_n dX2_init_4 rfl ?_
  refine vV.bipush (v := 6) dX2_init_5 (by decide) (by decide) ?_
  refine vV.newI (k := 91) dX2_init_7 rfl (by first | rfl | assumption) (by first | assumption | (simp; assumption)) (by decide) (by repeat (first | exact vLe_rf _ | refine vLe_m ?_ | refine vLe_s ?_)) ac_int ?_
  refine vV.putF dX2_init_9 fl_X2_9 rfl (fun C T N h => by cases h; rfl) (by first | rfl | assumption) rfl ?_
  refine vV.aload_n dX2_init_12 rfl ?_
  refine vV.bipush (v := 6) dX2_init_13 (by decide) (by decide) ?_
  refine vV.newI (k := 92) dX2_init_15 rfl (by first | rfl | assumption) (by first | assumption | (simp; assumption)) (by decide) (by repeat (first | exact vLe_rf _ | refine vLe_m ?_ | refine vLe_s ?_)) ac_int ?_
  refine vV.putF dX2_init_17 fl_X2_15 rfl (fun C T N h => by cases h; rfl) (by first | rfl | assumption) rfl ?_
  refine vV.rv dX2_init_20 rfl ?_
  exact ⟨rfl, rfl⟩
theorem dX4_init_0 : decode cX4_init 0 = .ok (.aload_n 0, 1) := by decide +kernel
theorem dX4_init_1 : decode cX4_init 1 = .ok (.invokespecial 3, 3) := by decide +kernel
theorem dX4_init_4 : decode cX4_init 4 = .ok (.aload_n 0, 1) := by decide +kernel
theorem dX4_init_5 : decode cX4_init 5 = .ok (.bipush 6, 2) := by decide +kernel
theorem dX4_init_7 : decode cX4_init 7 = .ok (.newarray .int, 2) := by decide +kernel
theorem dX4_init_9 : decode cX4_init 9 = .ok (.putfield 9, 3) := by decide +kernel
theorem dX4_init_12 : decode cX4_init 12 = .ok (.aload_n 0, 1) := by decide +kernel
theorem dX4_init_13 : decode cX4_init 13 = .ok (.bipush 6, 2) := by decide +kernel
theorem dX4_init_15 : decode cX4_init 15 = .ok (.newarray .int, 2) := by decide +kernel
theorem dX4_init_17 : decode cX4_init 17 = .ok (.putfield 15, 3) := by decide +kernel
theorem dX4_init_20 : decode cX4_init 20 = .ok (.aload_n 0, 1) := by decide +kernel
theorem dX4_init_21 : decode cX4_init 21 = .ok (.bipush 6, 2) := by decide +kernel
theorem dX4_init_23 : decode cX4_init 23 = .ok (.newarray .int, 2) := by decide +kernel
theorem dX4_init_25 : decode cX4_init 25 = .ok (.putfield 18, 3) := by decide +kernel
theorem dX4_init_28 : decode cX4_init 28 = .ok (.return_, 1) := by decide +kernel
theorem c_X4_init {d : List Nat} {T : vT} {M : vM} (h1081 : 81 ∉ d) (h1082 : 82 ∉ d) (h1083 : 83 ∉ d) : vCon m_X4_init d (d ++ [81] ++ [82] ++ [83]) [vR 80] T M (vPv fun T1 M1 => T1 = vUpT (vClT (vUpT (vClT (vUpT (vClT (T) 81) 80 1 (some 81)) 82) 80 2 (some 82)) 83) 80 3 (some 83) ∧ M1 = vClr (vClr (vClr (M) 81) 82) 83) := by
  refine vCon.of (by decide) rfl rfl (Nat.le_of_ble_eq_true rfl) ?_
  refine vV.aload_n dX4_init_0 rfl ?_
  refine vV.objInit dX4_init_1 ml_X4_3 mm_oi (by decide) (Nat.le_of_ble_eq_true rfl) ?_
  refine vV.aload_n dX4_init_4 rfl ?_
  refine vV.bipush (v := 6) dX4_init_5 (by decide) (by decide) ?_
  refine vV.newI (k := 81) dX4_init_7 rfl (by first | rfl | assumption) (by first | assumption | (simp; assumption)) (by decide) (by repeat (first | exact vLe_rf _ | refine vLe_m ?_ | refine vLe_s ?_)) ac_int ?_
  refine vV.putF dX4_init_9 fl_X4_9 rfl (fun C T N h => by cases h; rfl) (by first | rfl | assumption) rfl ?_
  refine vV.aload_n dX4_init_12 rfl ?_
  refine vV.bipush (v := 6) dX4_init_13 (by decide) (by decide) ?_
  refine vV.newI (k := 82) dX4_init_15 rfl (by first | rfl | assumption) (by first | assumption | (simp; assumption)) (by decide) (by repeat (first | exact vLe_rf _ | refine vLe_m ?_ | refine vLe_s ?_)) ac_int ?_
  refine vV.putF dX4_init_17 fl_X4_15 rfl (fun C T N h => by cases h; rfl) (by first | rfl | assumption) rfl ?_
  refine vV.aload_n dX4_init_20 rfl ?_
  refine vV.bipush (v := 6) dX4_init_21 (by decide) (by decide) ?_
  refine vV.newI (k := 83) dX4_init_23 rfl (by first | rfl | assumption) (by first | assumption | (simp; assumption)) (by decide) (by repeat (first | exact vLe_rf _ | refine vLe_m ?_ | refine vLe_s ?_)) ac_int ?_
  refine vV.putF dX4_init_25 fl_X4_18 rfl (fun C T N h => by cases h; rfl) (by first | rfl | assumption) rfl ?_
  refine vV.rv dX4_init_28 rfl ?_
  exact ⟨rfl, rfl⟩
theorem dX0_init_0 : decode cX0_init 0 = .ok (.aload_n 0, 1) := by decide +kernel
theorem dX0_init_1 : decode cX0_init 1 = .ok (.invokespecial 5, 3) := by decide +kernel
theorem dX0_init_4 : decode cX0_init 4 = .ok (.aload_n 0, 1) := by decide +kernel
theorem dX0_init_5 : decode cX0_init 5 = .ok (.iconst 3, 1) := by decide +kernel
theorem dX0_init_6 : decode cX0_init 6 = .ok (.newarray .int, 2) := by decide +kernel
theorem dX0_init_8 : decode cX0_init 8 = .ok (.putfield 11, 3) := by decide +kernel
theorem dX0_init_11 : decode cX0_init 11 = .ok (.aload_n 0, 1) := by decide +kernel
theorem dX0_init_12 : decode cX0_init 12 = .ok (.iconst 3, 1) := by decide +kernel
theorem dX0_init_13 : decode cX0_init 13 = .ok (.newarray .int, 2) := by decide +kernel
theorem dX0_init_15 : decode cX0_init 15 = .ok (.putfield 15, 3) := by decide +kernel
theorem dX0_init_18 : decode cX0_init 18 = .ok (.aload_n 0, 1) := by decide +kernel
theorem dX0_init_19 : decode cX0_init 19 = .ok (.bipush 8, 2) := by decide +kernel
theorem dX0_init_21 : decode cX0_init 21 = .ok (.newarray .int, 2) := by decide +kernel
theorem dX0_init_23 : decode cX0_init 23 = .ok (.putfield 18, 3) := by decide +kernel
theorem dX0_init_26 : decode cX0_init 26 = .ok (.return_, 1) := by decide +kernel
theorem c_X0_init {d : List Nat} {T : vT} {M : vM} (h1102 : 102 ∉ d) (h1103 : 103 ∉ d) (h1104 : 104 ∉ d) : vCon m_X0_init d (d ++ [102] ++ [103] ++ [104]) [vR 100] T M (vPv fun T1 M1 => T1 = vUpT (vClT (vUpT (vClT (vUpT (vClT (T) 102) 100 2 (some 102)) 103) 100 3 (some 103)) 104) 100 4 (some 104) ∧ M1 = vClr (vClr (vClr (M) 102) 103) 104) := by
  refine vCon.of (by decide) rfl rfl (Nat.le_of_ble_eq_true rfl) ?_
  refine vV.aload_n dX0_init_0 rfl ?_
  refine vV.objInit dX0_init_1 ml_X0_5 mm_oi (by decide) (Nat.le_of_ble_eq_true rfl) ?_
  refine vV.aload_n dX0_init_4 rfl ?_
  refine vV.iconst dX0_init_5 (by decide) ?_
  refine vV.newI (k := 102) dX0_init_6 rfl (by first | rfl | assumption) (by first | assumption | (simp; assumption)) (by decide) (by repeat (first | exact vLe_rf _ | refine vLe_m ?_ | refine vLe_s ?_)) ac_int ?_
  refine vV.putF dX0_init_8 fl_X0_11 rfl (fun C T N h => by cases h; rfl) (by first | rfl | assumption) rfl ?_
  refine vV.aload_n dX0_init_11 rfl ?_
  refine vV.iconst dX0_init_12 (by decide) ?_
  refine vV.newI (k := 103) dX0_init_13 rfl (by first | rfl | assumption) (by first | assumption | (simp; assumption)) (by decide) (by repeat (first | exact vLe_rf _ | refine vLe_m ?_ | refine vLe_s ?_)) ac_int ?_
  refine vV.putF dX0_init_15 fl_X0_15 rfl (fun C T N h => by cases h; rfl) (by first | rfl | assumption) rfl ?_
  refine vV.aload_n dX0_init_18 rfl ?_
  refine vV.bipush (v := 8) dX0_init_19 (by decide) (by decide) ?_
  refine vV.newI (k := 104) dX0_init_21 rfl (by first | rfl | assumption) (by first | assumption | (simp; assumption)) (by decide) (by repeat (first | exact vLe_rf _ | refine vLe_m ?_ | refine vLe_s ?_)) ac_int ?_
  refine vV.putF dX0_init_23 fl_X0_18 rfl (fun C T N h => by cases h; rfl) (by first | rfl | assumption) rfl ?_
  refine vV.rv dX0_init_26 rfl ?_
  exact ⟨rfl, rfl⟩
