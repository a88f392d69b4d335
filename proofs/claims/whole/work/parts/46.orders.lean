/-! ===== own: the class: orders ===== -/
theorem dX6_swap_0 : decode cX6_swap 0 = .ok (.aload_n 0, 1) := by decide +kernel
theorem dX6_swap_1 : decode cX6_swap 1 = .ok (.iload_n 1, 1) := by decide +kernel
theorem dX6_swap_2 : decode cX6_swap 2 = .ok (.iaload, 1) := by decide +kernel
theorem dX6_swap_3 : decode cX6_swap 3 = .ok (.istore_n 3, 1) := by decide +kernel
theorem dX6_swap_4 : decode cX6_swap 4 = .ok (.aload_n 0, 1) := by decide +kernel
theorem dX6_swap_5 : decode cX6_swap 5 = .ok (.iload_n 1, 1) := by decide +kernel
theorem dX6_swap_6 : decode cX6_swap 6 = .ok (.aload_n 0, 1) := by decide +kernel
theorem dX6_swap_7 : decode cX6_swap 7 = .ok (.iload_n 2, 1) := by decide +kernel
theorem dX6_swap_8 : decode cX6_swap 8 = .ok (.iaload, 1) := by decide +kernel
theorem dX6_swap_9 : decode cX6_swap 9 = .ok (.iastore, 1) := by decide +kernel
theorem dX6_swap_10 : decode cX6_swap 10 = .ok (.aload_n 0, 1) := by decide +kernel
theorem dX6_swap_11 : decode cX6_swap 11 = .ok (.iload_n 2, 1) := by decide +kernel
theorem dX6_swap_12 : decode cX6_swap 12 = .ok (.iload_n 3, 1) := by decide +kernel
theorem dX6_swap_13 : decode cX6_swap 13 = .ok (.iastore, 1) := by decide +kernel
theorem dX6_swap_14 : decode cX6_swap 14 = .ok (.return_, 1) := by decide +kernel
theorem c_X6_swap {d : List Nat} {T : vT} {M : vM} {a i j : Nat} (hk : vKK a = (1, 6)) (hi : i < 6) (hj : j < 6) : vCon m_X6_swap d d [vR a, vI i, vI j] T M (vPv fun T1 M1 => T = T1 ∧ M1 = vUpd (vUpd M a i (M a j)) a j (M a i)) := by
  refine vCon.of (by decide) rfl rfl (Nat.le_of_ble_eq_true rfl) ?_
  refine vV.aload_n dX6_swap_0 rfl ?_
  refine vV.iload_n dX6_swap_1 rfl ?_
  refine vV.iald dX6_swap_2 (by first | rfl | assumption) (by omega) (by omega) ?_
  refine vV.istore_n (L' := [_, _, _, _]) dX6_swap_3 (by decide) rfl ?_
  refine vV.aload_n dX6_swap_4 rfl ?_
  refine vV.iload_n dX6_swap_5 rfl ?_
  refine vV.aload_n dX6_swap_6 rfl ?_
  refine vV.iload_n dX6_swap_7 rfl ?_
  refine vV.iald dX6_swap_8 (by first | rfl | assumption) (by omega) (by omega) ?_
  refine vV.iast dX6_swap_9 (by first | rfl | assumption) (by omega) (by omega) ?_
  refine vV.aload_n dX6_swap_10 rfl ?_
  refine vV.iload_n dX6_swap_11 rfl ?_
  refine vV.iload_n dX6_swap_12 rfl ?_
  refine vV.iast dX6_swap_13 (by first | rfl | assumption) (by omega) (by omega) ?_
  refine vV.rv dX6_swap_14 rfl ?_
  exact ⟨rfl, rfl⟩
