/-! ===== own: the exact part: bitCount, fill, small methods of AllWays ===== -/
def bb1 (k : Nat) : Int := (k : Int) - vAnd (vUsh k 1) 1431655765
def bb2 (k : Nat) : Int := vAnd (bb1 k) 858993459 + vAnd (vUsh (bb1 k) 2) 858993459
def bb3 (k : Nat) : Int := bb2 k + vUsh (bb2 k) 4
def bb4 (k : Nat) : Int := vAnd (bb3 k) 252645135 + vUsh (vAnd (bb3 k) 252645135) 8
def bb5 (k : Nat) : Int := bb4 k + vUsh (bb4 k) 16
def bcN (k : Nat) : Nat := k % 2 + k / 2 % 2 + k / 4 % 2 + k / 8 % 2 + k / 16 % 2 + k / 32 % 2
theorem bb_ok : ∀ k : Nat, k < 64 → (-2147483648 ≤ bb1 k ∧ bb1 k < 2147483648) ∧ (-2147483648 ≤ bb2 k ∧ bb2 k < 2147483648) ∧ (-2147483648 ≤ bb3 k ∧ bb3 k < 2147483648) ∧ (-2147483648 ≤ bb4 k ∧ bb4 k < 2147483648) ∧ (-2147483648 ≤ bb5 k ∧ bb5 k < 2147483648) ∧ vAnd (bb5 k) 63 = (bcN k : Nat) := by decide +kernel
theorem dJ6_bitCount_0f7a4_0 : decode cJ6_bitCount_0f7a4 0 = .ok (.iload_n 0, 1) := by decide +kernel
theorem dJ6_bitCount_0f7a4_1 : decode cJ6_bitCount_0f7a4 1 = .ok (.iload_n 0, 1) := by decide +kernel
theorem dJ6_bitCount_0f7a4_2 : decode cJ6_bitCount_0f7a4 2 = .ok (.iconst 1, 1) := by decide +kernel
theorem dJ6_bitCount_0f7a4_3 : decode cJ6_bitCount_0f7a4 3 = .ok (.iushr, 1) := by decide +kernel
theorem dJ6_bitCount_0f7a4_4 : decode cJ6_bitCount_0f7a4 4 = .ok (.ldc_w 265, 3) := by decide +kernel
theorem dJ6_bitCount_0f7a4_7 : decode cJ6_bitCount_0f7a4 7 = .ok (.iand, 1) := by decide +kernel
theorem dJ6_bitCount_0f7a4_8 : decode cJ6_bitCount_0f7a4 8 = .ok (.isub, 1) := by decide +kernel
theorem dJ6_bitCount_0f7a4_9 : decode cJ6_bitCount_0f7a4 9 = .ok (.istore_n 0, 1) := by decide +kernel
theorem dJ6_bitCount_0f7a4_10 : decode cJ6_bitCount_0f7a4 10 = .ok (.iload_n 0, 1) := by decide +kernel
theorem dJ6_bitCount_0f7a4_11 : decode cJ6_bitCount_0f7a4 11 = .ok (.ldc_w 266, 3) := by decide +kernel
theorem dJ6_bitCount_0f7a4_14 : decode cJ6_bitCount_0f7a4 14 = .ok (.iand, 1) := by decide +kernel
theorem dJ6_bitCount_0f7a4_15 : decode cJ6_bitCount_0f7a4 15 = .ok (.iload_n 0, 1) := by decide +kernel
theorem dJ6_bitCount_0f7a4_16 : decode cJ6_bitCount_0f7a4 16 = .ok (.iconst 2, 1) := by decide +kernel
theorem dJ6_bitCount_0f7a4_17 : decode cJ6_bitCount_0f7a4 17 = .ok (.iushr, 1) := by decide +kernel
theorem dJ6_bitCount_0f7a4_18 : decode cJ6_bitCount_0f7a4 18 = .ok (.ldc_w 266, 3) := by decide +kernel
theorem dJ6_bitCount_0f7a4_21 : decode cJ6_bitCount_0f7a4 21 = .ok (.iand, 1) := by decide +kernel
theorem dJ6_bitCount_0f7a4_22 : decode cJ6_bitCount_0f7a4 22 = .ok (.iadd, 1) := by decide +kernel
theorem dJ6_bitCount_0f7a4_23 : decode cJ6_bitCount_0f7a4 23 = .ok (.istore_n 0, 1) := by decide +kernel
theorem dJ6_bitCount_0f7a4_24 : decode cJ6_bitCount_0f7a4 24 = .ok (.iload_n 0, 1) := by decide +kernel
theorem dJ6_bitCount_0f7a4_25 : decode cJ6_bitCount_0f7a4 25 = .ok (.iload_n 0, 1) := by decide +kernel
theorem dJ6_bitCount_0f7a4_26 : decode cJ6_bitCount_0f7a4 26 = .ok (.iconst 4, 1) := by decide +kernel
theorem dJ6_bitCount_0f7a4_27 : decode cJ6_bitCount_0f7a4 27 = .ok (.iushr, 1) := by decide +kernel
theorem dJ6_bitCount_0f7a4_28 : decode cJ6_bitCount_0f7a4 28 = .ok (.iadd, 1) := by decide +kernel
theorem dJ6_bitCount_0f7a4_29 : decode cJ6_bitCount_0f7a4 29 = .ok (.ldc_w 267, 3) := by decide +kernel
theorem dJ6_bitCount_0f7a4_32 : decode cJ6_bitCount_0f7a4 32 = .ok (.iand, 1) := by decide +kernel
theorem dJ6_bitCount_0f7a4_33 : decode cJ6_bitCount_0f7a4 33 = .ok (.istore_n 0, 1) := by decide +kernel
theorem dJ6_bitCount_0f7a4_34 : decode cJ6_bitCount_0f7a4 34 = .ok (.iload_n 0, 1) := by decide +kernel
theorem dJ6_bitCount_0f7a4_35 : decode cJ6_bitCount_0f7a4 35 = .ok (.iload_n 0, 1) := by decide +kernel
theorem dJ6_bitCount_0f7a4_36 : decode cJ6_bitCount_0f7a4 36 = .ok (.bipush 8, 2) := by decide +kernel
theorem dJ6_bitCount_0f7a4_38 : decode cJ6_bitCount_0f7a4 38 = .ok (.iushr, 1) := by decide +kernel
theorem dJ6_bitCount_0f7a4_39 : decode cJ6_bitCount_0f7a4 39 = .ok (.iadd, 1) := by decide +kernel
theorem dJ6_bitCount_0f7a4_40 : decode cJ6_bitCount_0f7a4 40 = .ok (.istore_n 0, 1) := by decide +kernel
theorem dJ6_bitCount_0f7a4_41 : decode cJ6_bitCount_0f7a4 41 = .ok (.iload_n 0, 1) := by decide +kernel
theorem dJ6_bitCount_0f7a4_42 : decode cJ6_bitCount_0f7a4 42 = .ok (.iload_n 0, 1) := by decide +kernel
theorem dJ6_bitCount_0f7a4_43 : decode cJ6_bitCount_0f7a4 43 = .ok (.bipush 16, 2) := by decide +kernel
theorem dJ6_bitCount_0f7a4_45 : decode cJ6_bitCount_0f7a4 45 = .ok (.iushr, 1) := by decide +kernel
theorem dJ6_bitCount_0f7a4_46 : decode cJ6_bitCount_0f7a4 46 = .ok (.iadd, 1) := by decide +kernel
theorem dJ6_bitCount_0f7a4_47 : decode cJ6_bitCount_0f7a4 47 = .ok (.istore_n 0, 1) := by decide +kernel
theorem dJ6_bitCount_0f7a4_48 : decode cJ6_bitCount_0f7a4 48 = .ok (.iload_n 0, 1) := by decide +kernel
theorem dJ6_bitCount_0f7a4_49 : decode cJ6_bitCount_0f7a4 49 = .ok (.bipush 63, 2) := by decide +kernel
theorem dJ6_bitCount_0f7a4_51 : decode cJ6_bitCount_0f7a4 51 = .ok (.iand, 1) := by decide +kernel
theorem dJ6_bitCount_0f7a4_52 : decode cJ6_bitCount_0f7a4 52 = .ok (.ireturn, 1) := by decide +kernel
theorem c_J6_bitCount {d : List Nat} {T : vT} {M : vM} {k : Nat} (hk : k < 64) : vCon m_J6_bitCount_0f7a4 d d [vI k] T M (vPi fun r T1 M1 => r = (bcN k : Nat) ∧ T = T1 ∧ M = M1) := by
  obtain ⟨b1, b2, b3, b4, b5, b6⟩ := bb_ok k hk
  refine vCon.of (by decide) rfl rfl (Nat.le_of_ble_eq_true rfl) ?_
  refine vV.iload_n dJ6_bitCount_0f7a4_0 rfl ?_
  refine vV.iload_n dJ6_bitCount_0f7a4_1 rfl ?_
  refine vV.iconst dJ6_bitCount_0f7a4_2 (by decide) ?_
  refine vV.iushr dJ6_bitCount_0f7a4_3 ?_
  refine vV.ldcw (v := 1431655765) dJ6_bitCount_0f7a4_4 kc_J6_265 (by decide) (by decide) ?_
  refine vV.iand dJ6_bitCount_0f7a4_7 ?_
  refine vV.isub dJ6_bitCount_0f7a4_8 (b1) ?_
  refine vV.istore_n (L' := [_]) dJ6_bitCount_0f7a4_9 (by decide) rfl ?_
  refine vV.iload_n dJ6_bitCount_0f7a4_10 rfl ?_
  refine vV.ldcw (v := 858993459) dJ6_bitCount_0f7a4_11 kc_J6_266 (by decide) (by decide) ?_
  refine vV.iand dJ6_bitCount_0f7a4_14 ?_
  refine vV.iload_n dJ6_bitCount_0f7a4_15 rfl ?_
  refine vV.iconst dJ6_bitCount_0f7a4_16 (by decide) ?_
  refine vV.iushr dJ6_bitCount_0f7a4_17 ?_
  refine vV.ldcw (v := 858993459) dJ6_bitCount_0f7a4_18 kc_J6_266 (by decide) (by decide) ?_
  refine vV.iand dJ6_bitCount_0f7a4_21 ?_
  refine vV.iadd dJ6_bitCount_0f7a4_22 (b2) ?_
  refine vV.istore_n (L' := [_]) dJ6_bitCount_0f7a4_23 (by decide) rfl ?_
  refine vV.iload_n dJ6_bitCount_0f7a4_24 rfl ?_
  refine vV.iload_n dJ6_bitCount_0f7a4_25 rfl ?_
  refine vV.iconst dJ6_bitCount_0f7a4_26 (by decide) ?_
  refine vV.iushr dJ6_bitCount_0f7a4_27 ?_
  refine vV.iadd dJ6_bitCount_0f7a4_28 (b3) ?_
  refine vV.ldcw (v := 252645135) dJ6_bitCount_0f7a4_29 kc_J6_267 (by decide) (by decide) ?_
  refine vV.iand dJ6_bitCount_0f7a4_32 ?_
  refine vV.istore_n (L' := [_]) dJ6_bitCount_0f7a4_33 (by decide) rfl ?_
  refine vV.iload_n dJ6_bitCount_0f7a4_34 rfl ?_
  refine vV.iload_n dJ6_bitCount_0f7a4_35 rfl ?_
  refine vV.bipush (v := 8) dJ6_bitCount_0f7a4_36 (by decide) (by decide) ?_
  refine vV.iushr dJ6_bitCount_0f7a4_38 ?_
  refine vV.iadd dJ6_bitCount_0f7a4_39 (b4) ?_
  refine vV.istore_n (L' := [_]) dJ6_bitCount_0f7a4_40 (by decide) rfl ?_
  refine vV.iload_n dJ6_bitCount_0f7a4_41 rfl ?_
  refine vV.iload_n dJ6_bitCount_0f7a4_42 rfl ?_
  refine vV.bipush (v := 16) dJ6_bitCount_0f7a4_43 (by decide) (by decide) ?_
  refine vV.iushr dJ6_bitCount_0f7a4_45 ?_
  refine vV.iadd dJ6_bitCount_0f7a4_46 (b5) ?_
  refine vV.istore_n (L' := [_]) dJ6_bitCount_0f7a4_47 (by decide) rfl ?_
  refine vV.iload_n dJ6_bitCount_0f7a4_48 rfl ?_
  refine vV.bipush (v := 63) dJ6_bitCount_0f7a4_49 (by decide) (by decide) ?_
  refine vV.iand dJ6_bitCount_0f7a4_51 ?_
  refine vV.ri dJ6_bitCount_0f7a4_52 rfl ?_
  exact ⟨b6, rfl, rfl⟩
theorem dJ7_fill_53178_0 : decode cJ7_fill_53178 0 = .ok (.iconst 0, 1) := by decide +kernel
theorem dJ7_fill_53178_1 : decode cJ7_fill_53178 1 = .ok (.istore_n 2, 1) := by decide +kernel
theorem dJ7_fill_53178_2 : decode cJ7_fill_53178 2 = .ok (.aload_n 0, 1) := by decide +kernel
theorem dJ7_fill_53178_3 : decode cJ7_fill_53178 3 = .ok (.arraylength, 1) := by decide +kernel
theorem dJ7_fill_53178_4 : decode cJ7_fill_53178 4 = .ok (.istore_n 3, 1) := by decide +kernel
theorem dJ7_fill_53178_5 : decode cJ7_fill_53178 5 = .ok (.iload_n 2, 1) := by decide +kernel
theorem dJ7_fill_53178_6 : decode cJ7_fill_53178 6 = .ok (.iload_n 3, 1) := by decide +kernel
theorem dJ7_fill_53178_7 : decode cJ7_fill_53178 7 = .ok (.if_icmp .ge 13, 3) := by decide +kernel
theorem dJ7_fill_53178_10 : decode cJ7_fill_53178 10 = .ok (.aload_n 0, 1) := by decide +kernel
theorem dJ7_fill_53178_11 : decode cJ7_fill_53178 11 = .ok (.iload_n 2, 1) := by decide +kernel
theorem dJ7_fill_53178_12 : decode cJ7_fill_53178 12 = .ok (.iload_n 1, 1) := by decide +kernel
theorem dJ7_fill_53178_13 : decode cJ7_fill_53178 13 = .ok (.iastore, 1) := by decide +kernel
theorem dJ7_fill_53178_14 : decode cJ7_fill_53178 14 = .ok (.iinc 2 1, 3) := by decide +kernel
theorem dJ7_fill_53178_17 : decode cJ7_fill_53178 17 = .ok (.goto (-12), 3) := by decide +kernel
theorem dJ7_fill_53178_20 : decode cJ7_fill_53178 20 = .ok (.return_, 1) := by decide +kernel
theorem l_J7_fill {d : List Nat} {T : vT} {M : vM} {a n : Nat} {v : Int} (hk : vKK a = (1, n)) (hn : n ≤ 40000) : ∀ p : Nat, p ≤ n →
    vV m_J7_fill_53178 d d (vPv fun T1 M1 => T = T1 ∧ M1 = vRow M a (pMix n (fun _ => v) (M a))) 5 [some (vR a), some (vI v), some (vI p), some (vI n)] [] d T (vRow M a (pMix p (fun _ => v) (M a))) := by
  refine vUp ?_
  intro p hp ih
  have e : vUpd (vRow M a (pMix p (fun _ => v) (M a))) a p v = vRow M a (pMix (p + 1) (fun _ => v) (M a)) := by rw [vUpd_vRow, ← pMix_s]
  refine vV.iload_n dJ7_fill_53178_5 rfl ?_
  refine vV.iload_n dJ7_fill_53178_6 rfl ?_
  refine vV.icmp_ge (tgt := 20) dJ7_fill_53178_7 (by decide) (fun h7 => ?_) (fun h7 => ?_)
  · skip
    refine vV.rv dJ7_fill_53178_20 rfl ?_
    rw [show p = n by omega]; exact ⟨rfl, rfl⟩
  · skip
    refine vV.aload_n dJ7_fill_53178_10 rfl ?_
    refine vV.iload_n dJ7_fill_53178_11 rfl ?_
    refine vV.iload_n dJ7_fill_53178_12 rfl ?_
    refine vV.iast dJ7_fill_53178_13 (by first | rfl | assumption) (by omega) (by omega) ?_
    rw [e]
    refine vV.iinc (L' := [_, _, _, _]) dJ7_fill_53178_14 (by decide) rfl (⟨by omega, by omega⟩) rfl ?_
    refine vV.goto (tgt := 5) dJ7_fill_53178_17 (by decide) ?_
    exact ih (by omega)
theorem c_J7_fill {d : List Nat} {T : vT} {M : vM} {a n : Nat} {v : Int} (hk : vKK a = (1, n)) (hn : n ≤ 40000) : vCon m_J7_fill_53178 d d [vR a, vI v] T M (vPv fun T1 M1 => T = T1 ∧ M1 = vRow M a (pMix n (fun _ => v) (M a))) := by
  refine vCon.of (by decide) rfl rfl (Nat.le_of_ble_eq_true rfl) ?_
  have h := l_J7_fill (d := d) (T := T) (M := M) (v := v) hk hn 0 (by omega)
  rw [pMix_0, vRow_id] at h
  have hin : vIn (n : Int) := ⟨by omega, by omega⟩
  refine vV.iconst dJ7_fill_53178_0 (by decide) ?_
  refine vV.istore_n (L' := [_, _, _, _]) dJ7_fill_53178_1 (by decide) rfl ?_
  refine vV.aload_n dJ7_fill_53178_2 rfl ?_
  refine vV.alen (v := n) dJ7_fill_53178_3 hk rfl hin ?_
  refine vV.istore_n (L' := [_, _, _, _]) dJ7_fill_53178_4 (by decide) rfl ?_
  exact h
theorem dX0_shiftOf_0 : decode cX0_shiftOf 0 = .ok (.iconst 3, 1) := by decide +kernel
theorem dX0_shiftOf_1 : decode cX0_shiftOf 1 = .ok (.iconst 4, 1) := by decide +kernel
theorem dX0_shiftOf_2 : decode cX0_shiftOf 2 = .ok (.iload_n 0, 1) := by decide +kernel
theorem dX0_shiftOf_3 : decode cX0_shiftOf 3 = .ok (.imul, 1) := by decide +kernel
theorem dX0_shiftOf_4 : decode cX0_shiftOf 4 = .ok (.iadd, 1) := by decide +kernel
theorem dX0_shiftOf_5 : decode cX0_shiftOf 5 = .ok (.ireturn, 1) := by decide +kernel
theorem c_X0_shiftOf {d : List Nat} {T : vT} {M : vM} {k : Int} (h : 0 ≤ k ∧ k ≤ 9) : vCon m_X0_shiftOf d d [vI k] T M (vPi fun r T1 M1 => r = 3 + 4 * k ∧ T = T1 ∧ M = M1) := by
  refine vCon.of (by decide) rfl rfl (Nat.le_of_ble_eq_true rfl) ?_
  refine vV.iconst dX0_shiftOf_0 (by decide) ?_
  refine vV.iconst dX0_shiftOf_1 (by decide) ?_
  refine vV.iload_n dX0_shiftOf_2 rfl ?_
  refine vV.imul dX0_shiftOf_3 (⟨by omega, by omega⟩) ?_
  refine vV.iadd dX0_shiftOf_4 (⟨by omega, by omega⟩) ?_
  refine vV.ri dX0_shiftOf_5 rfl ?_
  exact ⟨rfl, rfl, rfl⟩
/-- the large rows are there -/
def awT (T : vT) : Prop := T 100 6 = some 106 ∧ T 100 7 = some 107 ∧ T 100 8 = some 108
/-- the marks are of this page or older ones -/
def awM (M : vM) : Prop := (0 ≤ M 100 5 ∧ M 100 5 < 16000) ∧ ∀ p : Nat, p < 32768 → 0 ≤ M 106 p ∧ M 106 p < (M 100 5 + 1) * 131072
def awN (T : vT) : vT := vUpT (vClT (vUpT (vClT (vUpT (vClT T 106) 100 6 (some 106)) 107) 100 7 (some 107)) 108) 100 8 (some 108)
def awZ (M : vM) : vM := vClr (vClr (vClr M 106) 107) 108
theorem dX0_makeRows_0 : decode cX0_makeRows 0 = .ok (.aload_n 0, 1) := by decide +kernel
theorem dX0_makeRows_1 : decode cX0_makeRows 1 = .ok (.getfield 64, 3) := by decide +kernel
theorem dX0_makeRows_4 : decode cX0_makeRows 4 = .ok (.ifnonnull 27, 3) := by decide +kernel
theorem dX0_makeRows_7 : decode cX0_makeRows 7 = .ok (.aload_n 0, 1) := by decide +kernel
theorem dX0_makeRows_8 : decode cX0_makeRows 8 = .ok (.ldc 67, 2) := by decide +kernel
theorem dX0_makeRows_10 : decode cX0_makeRows 10 = .ok (.newarray .int, 2) := by decide +kernel
theorem dX0_makeRows_12 : decode cX0_makeRows 12 = .ok (.putfield 64, 3) := by decide +kernel
theorem dX0_makeRows_15 : decode cX0_makeRows 15 = .ok (.aload_n 0, 1) := by decide +kernel
theorem dX0_makeRows_16 : decode cX0_makeRows 16 = .ok (.ldc 67, 2) := by decide +kernel
theorem dX0_makeRows_18 : decode cX0_makeRows 18 = .ok (.newarray .int, 2) := by decide +kernel
theorem dX0_makeRows_20 : decode cX0_makeRows 20 = .ok (.putfield 68, 3) := by decide +kernel
theorem dX0_makeRows_23 : decode cX0_makeRows 23 = .ok (.aload_n 0, 1) := by decide +kernel
theorem dX0_makeRows_24 : decode cX0_makeRows 24 = .ok (.ldc 67, 2) := by decide +kernel
theorem dX0_makeRows_26 : decode cX0_makeRows 26 = .ok (.newarray .int, 2) := by decide +kernel
theorem dX0_makeRows_28 : decode cX0_makeRows 28 = .ok (.putfield 71, 3) := by decide +kernel
theorem dX0_makeRows_31 : decode cX0_makeRows 31 = .ok (.return_, 1) := by decide +kernel
theorem c_X0_makeRows_s {d : List Nat} {T : vT} {M : vM} (hA : awT T) : vCon m_X0_makeRows d d [vR 100] T M (vPv fun T1 M1 => T = T1 ∧ M = M1) := by
  obtain ⟨a1, a2, a3⟩ := hA
  refine vCon.of (by decide) rfl rfl (Nat.le_of_ble_eq_true rfl) ?_
  refine vV.aload_n dX0_makeRows_0 rfl ?_
  refine vV.getr dX0_makeRows_1 fl_X0_64 (by first | rfl | assumption) rfl (by first | assumption | exact hB _ _ _ rfl) ?_
  refine vV.nn1 (tgt := 31) dX0_makeRows_4 (by decide) ?_
  refine vV.rv dX0_makeRows_31 rfl ?_
  exact ⟨rfl, rfl⟩
theorem c_X0_makeRows_n {d : List Nat} {T : vT} {M : vM} (hA : T 100 6 = none) (h1 : 106 ∉ d) (h2 : 107 ∉ d) (h3 : 108 ∉ d) : vCon m_X0_makeRows d (d ++ [106] ++ [107] ++ [108]) [vR 100] T M (vPv fun T1 M1 => T1 = awN T ∧ M1 = awZ M) := by
  refine vCon.of (by decide) rfl rfl (Nat.le_of_ble_eq_true rfl) ?_
  refine vV.aload_n dX0_makeRows_0 rfl ?_
  refine vV.getr dX0_makeRows_1 fl_X0_64 (by first | rfl | assumption) rfl (by first | assumption | exact hB _ _ _ rfl) ?_
  refine vV.nn0 dX0_makeRows_4 ?_
  refine vV.aload_n dX0_makeRows_7 rfl ?_
  refine vV.ldc (v := 32768) dX0_makeRows_8 kc_X0_67 (by decide) (by decide) ?_
  refine vV.newI (k := 106) dX0_makeRows_10 rfl (by first | rfl | assumption) (by first | assumption | (simp; assumption)) (by decide) (vLe_s (vLe_s (vLe_m (vLe_rf _)))) ac_int ?_
  refine vV.putr dX0_makeRows_12 fl_X0_64 (by first | rfl | assumption) rfl ?_
  refine vV.aload_n dX0_makeRows_15 rfl ?_
  refine vV.ldc (v := 32768) dX0_makeRows_16 kc_X0_67 (by decide) (by decide) ?_
  refine vV.newI (k := 107) dX0_makeRows_18 rfl (by first | rfl | assumption) (by first | assumption | (simp; assumption)) (by decide) (vLe_s (vLe_m (vLe_rf _))) ac_int ?_
  refine vV.putr dX0_makeRows_20 fl_X0_68 (by first | rfl | assumption) rfl ?_
  refine vV.aload_n dX0_makeRows_23 rfl ?_
  refine vV.ldc (v := 32768) dX0_makeRows_24 kc_X0_67 (by decide) (by decide) ?_
  refine vV.newI (k := 108) dX0_makeRows_26 rfl (by first | rfl | assumption) (by first | assumption | (simp; assumption)) (by decide) (vLe_m (vLe_rf _)) ac_int ?_
  refine vV.putr dX0_makeRows_28 fl_X0_71 (by first | rfl | assumption) rfl ?_
  refine vV.rv dX0_makeRows_31 rfl ?_
  exact ⟨rfl, rfl⟩
theorem dX0_openPage_0 : decode cX0_openPage 0 = .ok (.aload_n 0, 1) := by decide +kernel
theorem dX0_openPage_1 : decode cX0_openPage 1 = .ok (.dup, 1) := by decide +kernel
theorem dX0_openPage_2 : decode cX0_openPage 2 = .ok (.getfield 74, 3) := by decide +kernel
theorem dX0_openPage_5 : decode cX0_openPage 5 = .ok (.iconst 1, 1) := by decide +kernel
theorem dX0_openPage_6 : decode cX0_openPage 6 = .ok (.iadd, 1) := by decide +kernel
theorem dX0_openPage_7 : decode cX0_openPage 7 = .ok (.putfield 74, 3) := by decide +kernel
theorem dX0_openPage_10 : decode cX0_openPage 10 = .ok (.aload_n 0, 1) := by decide +kernel
theorem dX0_openPage_11 : decode cX0_openPage 11 = .ok (.getfield 74, 3) := by decide +kernel
theorem dX0_openPage_14 : decode cX0_openPage 14 = .ok (.sipush 16000, 3) := by decide +kernel
theorem dX0_openPage_17 : decode cX0_openPage 17 = .ok (.if_icmp .lt 16, 3) := by decide +kernel
theorem dX0_openPage_20 : decode cX0_openPage 20 = .ok (.aload_n 0, 1) := by decide +kernel
theorem dX0_openPage_21 : decode cX0_openPage 21 = .ok (.getfield 64, 3) := by decide +kernel
theorem dX0_openPage_24 : decode cX0_openPage 24 = .ok (.iconst 0, 1) := by decide +kernel
theorem dX0_openPage_25 : decode cX0_openPage 25 = .ok (.invokestatic 33, 3) := by decide +kernel
theorem dX0_openPage_28 : decode cX0_openPage 28 = .ok (.aload_n 0, 1) := by decide +kernel
theorem dX0_openPage_29 : decode cX0_openPage 29 = .ok (.iconst 1, 1) := by decide +kernel
theorem dX0_openPage_30 : decode cX0_openPage 30 = .ok (.putfield 74, 3) := by decide +kernel
theorem dX0_openPage_33 : decode cX0_openPage 33 = .ok (.return_, 1) := by decide +kernel
/-- a new page: nothing is marked on it -/
def awO (M M1 : vM) : Prop := mSame [100, 106] M M1 ∧ (∀ j, j ≠ 5 → M1 100 j = M 100 j) ∧ awM M1 ∧ 1 ≤ M1 100 5 ∧ ∀ p : Nat, p < 32768 → M1 106 p < M1 100 5 * 131072
theorem c_X0_openPage {d : List Nat} {T : vT} {M : vM} (hA : awT T) (hM : awM M) : vCon m_X0_openPage d d [vR 100] T M (vPv fun T1 M1 => T = T1 ∧ awO M M1) := by
  obtain ⟨a1, a2, a3⟩ := hA
  obtain ⟨m1, m2⟩ := hM
  refine vCon.of (by decide) rfl rfl (Nat.le_of_ble_eq_true rfl) ?_
  refine vV.aload_n dX0_openPage_0 rfl ?_
  refine vV.dup dX0_openPage_1 rfl ?_
  refine vV.geti (z := 5) dX0_openPage_2 fl_X0_74 (by first | rfl | assumption) rfl rfl ?_
  refine vV.iconst dX0_openPage_5 (by decide) ?_
  refine vV.iadd dX0_openPage_6 (⟨by omega, by omega⟩) ?_
  refine vV.puti (z := 5) dX0_openPage_7 fl_X0_74 (by first | rfl | assumption) rfl rfl ?_
  refine vV.aload_n dX0_openPage_10 rfl ?_
  refine vV.geti (z := 5) dX0_openPage_11 fl_X0_74 (by first | rfl | assumption) rfl rfl ?_
  rw [vUpd_s]
  refine vV.sipush (v := 16000) dX0_openPage_14 (by decide) (by decide) ?_
  refine vV.icmp_lt (tgt := 33) dX0_openPage_17 (by decide) (fun h17 => ?_) (fun h17 => ?_)
  · skip
    refine vV.rv dX0_openPage_33 rfl ?_
    first
    | (refine ⟨rfl, fun k hk => ?_, fun j hj => ?_, ⟨?_, fun p hp => ?_⟩, ?_, fun p hp => ?_⟩
       · simp at hk; rw [vUpd_row hk.1]
       · rw [vUpd_ni hj]
       · rw [vUpd_s]; omega
       · rw [vUpd_s, vUpd_nk (by decide)]; have := m2 p hp; omega
       · rw [vUpd_s]; omega
       · rw [vUpd_s, vUpd_nk (by decide)]; have := m2 p hp; omega)
    | (refine ⟨rfl, fun k hk => ?_, fun j hj => ?_, ⟨?_, fun p hp => ?_⟩, ?_, fun p hp => ?_⟩
       · simp at hk; rw [vUpd_row hk.1, vRow_n hk.2, vUpd_row hk.1]
       · rw [vUpd_ni hj, vRow_n (by decide), vUpd_ni hj]
       · rw [vUpd_s]; omega
       · rw [vUpd_s, vUpd_nk (by decide), vRow_s, pMix_lt hp]; omega
       · rw [vUpd_s]; omega
       · rw [vUpd_s, vUpd_nk (by decide), vRow_s, pMix_lt hp]; omega)
  · skip
    refine vV.aload_n dX0_openPage_20 rfl ?_
    refine vV.getr dX0_openPage_21 fl_X0_64 (by first | rfl | assumption) rfl (by first | assumption | exact hB _ _ _ rfl) ?_
    refine vV.iconst dX0_openPage_24 (by decide) ?_
    refine vV.cSv dX0_openPage_25 ml_X0_33 cw_J7_fill_53178 sw_J7_fill_53178 (by unfold vRoom; decide) (c_J7_fill (a := 106) (n := 32768) rfl (by decide)) rfl rfl (Nat.le_of_ble_eq_true rfl) ?_
    rintro _ _ ⟨rfl, rfl⟩
    refine vV.aload_n dX0_openPage_28 rfl ?_
    refine vV.iconst dX0_openPage_29 (by decide) ?_
    refine vV.puti (z := 5) dX0_openPage_30 fl_X0_74 (by first | rfl | assumption) rfl rfl ?_
    refine vV.rv dX0_openPage_33 rfl ?_
    first
    | (refine ⟨rfl, fun k hk => ?_, fun j hj => ?_, ⟨?_, fun p hp => ?_⟩, ?_, fun p hp => ?_⟩
       · simp at hk; rw [vUpd_row hk.1]
       · rw [vUpd_ni hj]
       · rw [vUpd_s]; omega
       · rw [vUpd_s, vUpd_nk (by decide)]; have := m2 p hp; omega
       · rw [vUpd_s]; omega
       · rw [vUpd_s, vUpd_nk (by decide)]; have := m2 p hp; omega)
    | (refine ⟨rfl, fun k hk => ?_, fun j hj => ?_, ⟨?_, fun p hp => ?_⟩, ?_, fun p hp => ?_⟩
       · simp at hk; rw [vUpd_row hk.1, vRow_n hk.2, vUpd_row hk.1]
       · rw [vUpd_ni hj, vRow_n (by decide), vUpd_ni hj]
       · rw [vUpd_s]; omega
       · rw [vUpd_s, vUpd_nk (by decide), vRow_s, pMix_lt hp]; omega
       · rw [vUpd_s]; omega
       · rw [vUpd_s, vUpd_nk (by decide), vRow_s, pMix_lt hp]; omega)
/-- what a code is marked with on this page -/
def awK (M : vM) (p : Nat) : Option Nat := if M 106 p / 131072 = M 100 5 then some (M 106 p % 131072).toNat else none
theorem dX0_isMarked_0 : decode cX0_isMarked 0 = .ok (.aload_n 0, 1) := by decide +kernel
theorem dX0_isMarked_1 : decode cX0_isMarked 1 = .ok (.getfield 64, 3) := by decide +kernel
theorem dX0_isMarked_4 : decode cX0_isMarked 4 = .ok (.iload_n 1, 1) := by decide +kernel
theorem dX0_isMarked_5 : decode cX0_isMarked 5 = .ok (.iaload, 1) := by decide +kernel
theorem dX0_isMarked_6 : decode cX0_isMarked 6 = .ok (.ldc 77, 2) := by decide +kernel
theorem dX0_isMarked_8 : decode cX0_isMarked 8 = .ok (.idiv, 1) := by decide +kernel
theorem dX0_isMarked_9 : decode cX0_isMarked 9 = .ok (.aload_n 0, 1) := by decide +kernel
theorem dX0_isMarked_10 : decode cX0_isMarked 10 = .ok (.getfield 74, 3) := by decide +kernel
theorem dX0_isMarked_13 : decode cX0_isMarked 13 = .ok (.if_icmp .ne 7, 3) := by decide +kernel
theorem dX0_isMarked_16 : decode cX0_isMarked 16 = .ok (.iconst 1, 1) := by decide +kernel
theorem dX0_isMarked_17 : decode cX0_isMarked 17 = .ok (.goto 4, 3) := by decide +kernel
theorem dX0_isMarked_20 : decode cX0_isMarked 20 = .ok (.iconst 0, 1) := by decide +kernel
theorem dX0_isMarked_21 : decode cX0_isMarked 21 = .ok (.ireturn, 1) := by decide +kernel
theorem c_X0_isMarked {d : List Nat} {T : vT} {M : vM} {p : Nat} (hA : awT T) (hM : awM M) (hp : p < 32768) : vCon m_X0_isMarked d d [vR 100, vI p] T M (vPi fun r T1 M1 => r = bI (awK M p).isSome ∧ T = T1 ∧ M = M1) := by
  obtain ⟨a1, a2, a3⟩ := hA
  obtain ⟨m1, m2⟩ := hM
  have h := m2 p hp
  refine vCon.of (by decide) rfl rfl (Nat.le_of_ble_eq_true rfl) ?_
  refine vV.aload_n dX0_isMarked_0 rfl ?_
  refine vV.getr dX0_isMarked_1 fl_X0_64 (by first | rfl | assumption) rfl (by first | assumption | exact hB _ _ _ rfl) ?_
  refine vV.iload_n dX0_isMarked_4 rfl ?_
  refine vV.iald dX0_isMarked_5 (by first | rfl | assumption) (by omega) (by omega) ?_
  refine vV.ldc (v := 131072) dX0_isMarked_6 kc_X0_77 (by decide) (by decide) ?_
  refine vV.idiv dX0_isMarked_8 (by omega) (by rw [Int.tdiv_eq_ediv_of_nonneg h.1]; exact ⟨by omega, by omega⟩) ?_
  rw [Int.tdiv_eq_ediv_of_nonneg h.1]
  refine vV.aload_n dX0_isMarked_9 rfl ?_
  refine vV.geti (z := 5) dX0_isMarked_10 fl_X0_74 (by first | rfl | assumption) rfl rfl ?_
  refine vV.icmp_ne (tgt := 20) dX0_isMarked_13 (by decide) (fun h13 => ?_) (fun h13 => ?_)
  · skip
    refine vV.iconst dX0_isMarked_20 (by decide) ?_
    refine vV.rz dX0_isMarked_21 rfl (by first | exact Or.inl rfl | exact Or.inr rfl | assumption) ?_
    first | exact ⟨by unfold awK; rw [if_pos h13]; rfl, rfl, rfl⟩ | exact ⟨by unfold awK; rw [if_neg h13]; rfl, rfl, rfl⟩
  · skip
    refine vV.iconst dX0_isMarked_16 (by decide) ?_
    refine vV.goto (tgt := 21) dX0_isMarked_17 (by decide) ?_
    refine vV.rz dX0_isMarked_21 rfl (by first | exact Or.inl rfl | exact Or.inr rfl | assumption) ?_
    first | exact ⟨by unfold awK; rw [if_pos h13]; rfl, rfl, rfl⟩ | exact ⟨by unfold awK; rw [if_neg h13]; rfl, rfl, rfl⟩
theorem dX0_mark_0 : decode cX0_mark 0 = .ok (.aload_n 0, 1) := by decide +kernel
theorem dX0_mark_1 : decode cX0_mark 1 = .ok (.getfield 64, 3) := by decide +kernel
theorem dX0_mark_4 : decode cX0_mark 4 = .ok (.iload_n 1, 1) := by decide +kernel
theorem dX0_mark_5 : decode cX0_mark 5 = .ok (.aload_n 0, 1) := by decide +kernel
theorem dX0_mark_6 : decode cX0_mark 6 = .ok (.getfield 74, 3) := by decide +kernel
theorem dX0_mark_9 : decode cX0_mark 9 = .ok (.ldc 77, 2) := by decide +kernel
theorem dX0_mark_11 : decode cX0_mark 11 = .ok (.imul, 1) := by decide +kernel
theorem dX0_mark_12 : decode cX0_mark 12 = .ok (.iload_n 2, 1) := by decide +kernel
theorem dX0_mark_13 : decode cX0_mark 13 = .ok (.iadd, 1) := by decide +kernel
theorem dX0_mark_14 : decode cX0_mark 14 = .ok (.iastore, 1) := by decide +kernel
theorem dX0_mark_15 : decode cX0_mark 15 = .ok (.return_, 1) := by decide +kernel
theorem c_X0_mark {d : List Nat} {T : vT} {M : vM} {p : Nat} {v : Int} (hA : awT T) (hM : awM M) (hp : p < 32768) (hv : 0 ≤ v ∧ v < 131072) : vCon m_X0_mark d d [vR 100, vI p, vI v] T M (vPv fun T1 M1 => T = T1 ∧ M1 = vUpd M 106 p (M 100 5 * 131072 + v)) := by
  obtain ⟨a1, a2, a3⟩ := hA
  obtain ⟨m1, m2⟩ := hM
  refine vCon.of (by decide) rfl rfl (Nat.le_of_ble_eq_true rfl) ?_
  refine vV.aload_n dX0_mark_0 rfl ?_
  refine vV.getr dX0_mark_1 fl_X0_64 (by first | rfl | assumption) rfl (by first | assumption | exact hB _ _ _ rfl) ?_
  refine vV.iload_n dX0_mark_4 rfl ?_
  refine vV.aload_n dX0_mark_5 rfl ?_
  refine vV.geti (z := 5) dX0_mark_6 fl_X0_74 (by first | rfl | assumption) rfl rfl ?_
  refine vV.ldc (v := 131072) dX0_mark_9 kc_X0_77 (by decide) (by decide) ?_
  refine vV.imul dX0_mark_11 (⟨by omega, by omega⟩) ?_
  refine vV.iload_n dX0_mark_12 rfl ?_
  refine vV.iadd dX0_mark_13 (⟨by omega, by omega⟩) ?_
  refine vV.iast dX0_mark_14 (by first | rfl | assumption) (by omega) (by omega) ?_
  refine vV.rv dX0_mark_15 rfl ?_
  exact ⟨rfl, rfl⟩
theorem awK_mark {M : vM} {p : Nat} {v : Int} (hv : 0 ≤ v ∧ v < 131072) (q : Nat) : awK (vUpd M 106 p (M 100 5 * 131072 + v)) q = if q = p then some v.toNat else awK M q := by
  unfold awK
  rw [vUpd_nk (show (100 : Nat) ≠ 106 by decide)]
  by_cases h : q = p
  · subst h
    rw [vUpd_s, if_pos rfl, if_pos (by omega)]
    congr 2; omega
  · rw [vUpd_ni (by omega), if_neg h]
theorem awM_mark {M : vM} {p : Nat} {v : Int} (hM : awM M) (hv : 0 ≤ v ∧ v < 131072) : awM (vUpd M 106 p (M 100 5 * 131072 + v)) := by
  obtain ⟨m1, m2⟩ := hM
  refine ⟨by rw [vUpd_nk (by decide)]; exact m1, fun q hq => ?_⟩
  rw [vUpd_nk (show (100 : Nat) ≠ 106 by decide)]
  by_cases h : q = p
  · subst h; rw [vUpd_s]; omega
  · rw [vUpd_ni (by omega)]; exact m2 q hq
theorem dX0_valueOf_0 : decode cX0_valueOf 0 = .ok (.aload_n 0, 1) := by decide +kernel
theorem dX0_valueOf_1 : decode cX0_valueOf 1 = .ok (.getfield 64, 3) := by decide +kernel
theorem dX0_valueOf_4 : decode cX0_valueOf 4 = .ok (.iload_n 1, 1) := by decide +kernel
theorem dX0_valueOf_5 : decode cX0_valueOf 5 = .ok (.iaload, 1) := by decide +kernel
theorem dX0_valueOf_6 : decode cX0_valueOf 6 = .ok (.ldc 78, 2) := by decide +kernel
theorem dX0_valueOf_8 : decode cX0_valueOf 8 = .ok (.iand, 1) := by decide +kernel
theorem dX0_valueOf_9 : decode cX0_valueOf 9 = .ok (.ireturn, 1) := by decide +kernel
theorem c_X0_valueOf {d : List Nat} {T : vT} {M : vM} {p w : Nat} (hA : awT T) (hM : awM M) (hp : p < 32768) (hw : awK M p = some w) : vCon m_X0_valueOf d d [vR 100, vI p] T M (vPi fun r T1 M1 => r = (w % 65536 : Nat) ∧ T = T1 ∧ M = M1) := by
  obtain ⟨a1, a2, a3⟩ := hA
  obtain ⟨m1, m2⟩ := hM
  have h := m2 p hp
  obtain ⟨z, hz⟩ : ∃ z : Nat, M 106 p = z := ⟨(M 106 p).toNat, by omega⟩
  have hw2 : w = z % 131072 := by
    unfold awK at hw; rw [hz] at hw; split at hw
    · cases hw; omega
    · cases hw
  refine vCon.of (by decide) rfl rfl (Nat.le_of_ble_eq_true rfl) ?_
  refine vV.aload_n dX0_valueOf_0 rfl ?_
  refine vV.getr dX0_valueOf_1 fl_X0_64 (by first | rfl | assumption) rfl (by first | assumption | exact hB _ _ _ rfl) ?_
  refine vV.iload_n dX0_valueOf_4 rfl ?_
  refine vV.iald dX0_valueOf_5 (by first | rfl | assumption) (by omega) (by omega) ?_
  refine vV.ldc (v := 65535) dX0_valueOf_6 kc_X0_78 (by decide) (by decide) ?_
  refine vV.iand dX0_valueOf_8 ?_
  refine vV.ri dX0_valueOf_9 rfl ?_
  exact ⟨by rw [hz, show (65535 : Int) = ((2 ^ 16 - 1 : Nat) : Int) from rfl, vAnd_nat 16 (by decide) (by omega), hw2, show (2 : Nat) ^ 16 = 65536 from rfl]; omega, rfl, rfl⟩
