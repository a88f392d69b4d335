/-! ===== own: the class: orders ===== -/
theorem dX6_swap_0 : decode cX6_swap 0 = .ok (.aload_n 0, 1) := by decide +kernel
theorem dX6_swap_1 : decode cX6_swap 1 = .ok (.iload_n 1, 1) := by decide +kernel
theorem dX6_swap_2 : decode cX6_swap 2 = .ok (.iaload, 1) := by decide +kernel
theorem dX6_swap_3 : decode cX6_swap 3 = .ok (.istore_n 3, 1) := by decide +kernel
theorem dX6_swap_4 : decode cX6_swap 4 = .ok (.aload_n 0, 1) := by decide +kernel
theorem dX6_swap_5 : decode cX6_swap 5 = .ok (.iload_n 1, 1) := by decide +kernel
theorem dX6_swap_6 : decode cX6_swap 6 = .ok (.aload_n 0, 1) := by decide +kernel
theorem dX6_swap_7 : decode cX6_swap 7 = .ok (.iload_n 2, 1) := by decide +kernel
theorem dX6_swap_8 : decode cX6_swap 8 = .ok (.iaload, 1) := by decide +kernel
theorem dX6_swap_9 : decode cX6_swap 9 = .ok (.iastore, 1) := by decide +kernel
theorem dX6_swap_10 : decode cX6_swap 10 = .ok (.aload_n 0, 1) := by decide +kernel
theorem dX6_swap_11 : decode cX6_swap 11 = .ok (.iload_n 2, 1) := by decide +kernel
theorem dX6_swap_12 : decode cX6_swap 12 = .ok (.iload_n 3, 1) := by decide +kernel
theorem dX6_swap_13 : decode cX6_swap 13 = .ok (.iastore, 1) := by decide +kernel
theorem dX6_swap_14 : decode cX6_swap 14 = .ok (.return_, 1) := by decide +kernel
theorem c_X6_swap {d : List Nat} {T : vT} {M : vM} {a i j : Nat} (hk : vKK a = (1, 6)) (hi : i < 6) (hj : j < 6) : vCon m_X6_swap d d [vR a, vI i, vI j] T M (vPv fun T1 M1 => T = T1 ∧ M1 = vUpd (vUpd M a i (M a j)) a j (M a i)) := by
  refine vCon.of (by decide) rfl rfl (Nat.le_of_ble_eq_true rfl) ?_
  refine vV.aload_n dX6_swap_0 rfl ?_
  refine vV.iload_n dX6_swap_1 rfl ?_
  refine vV.iald dX6_swap_2 (by first | rfl | assumption) (by omega) (by omega) ?_
  refine vV.istore_n (L' := [_, _, _, _]) dX6_swap_3 (by decide) rfl ?_
  refine vV.aload_n dX6_swap_4 rfl ?_
  refine vV.iload_n dX6_swap_5 rfl ?_
  refine vV.aload_n dX6_swap_6 rfl ?_
  refine vV.iload_n dX6_swap_7 rfl ?_
  refine vV.iald dX6_swap_8 (by first | rfl | assumption) (by omega) (by omega) ?_
  refine vV.iast dX6_swap_9 (by first | rfl | assumption) (by omega) (by omega) ?_
  refine vV.aload_n dX6_swap_10 rfl ?_
  refine vV.iload_n dX6_swap_11 rfl ?_
  refine vV.iload_n dX6_swap_12 rfl ?_
  refine vV.iast dX6_swap_13 (by first | rfl | assumption) (by omega) (by omega) ?_
  refine vV.rv dX6_swap_14 rfl ?_
  exact ⟨rfl, rfl⟩
theorem dX6_firstOrder_0 : decode cX6_firstOrder 0 = .ok (.iconst 0, 1) := by decide +kernel
theorem dX6_firstOrder_1 : decode cX6_firstOrder 1 = .ok (.istore_n 1, 1) := by decide +kernel
theorem dX6_firstOrder_2 : decode cX6_firstOrder 2 = .ok (.iload_n 1, 1) := by decide +kernel
theorem dX6_firstOrder_3 : decode cX6_firstOrder 3 = .ok (.aload_n 0, 1) := by decide +kernel
theorem dX6_firstOrder_4 : decode cX6_firstOrder 4 = .ok (.arraylength, 1) := by decide +kernel
theorem dX6_firstOrder_5 : decode cX6_firstOrder 5 = .ok (.if_icmp .ge 13, 3) := by decide +kernel
theorem dX6_firstOrder_8 : decode cX6_firstOrder 8 = .ok (.aload_n 0, 1) := by decide +kernel
theorem dX6_firstOrder_9 : decode cX6_firstOrder 9 = .ok (.iload_n 1, 1) := by decide +kernel
theorem dX6_firstOrder_10 : decode cX6_firstOrder 10 = .ok (.iload_n 1, 1) := by decide +kernel
theorem dX6_firstOrder_11 : decode cX6_firstOrder 11 = .ok (.iastore, 1) := by decide +kernel
theorem dX6_firstOrder_12 : decode cX6_firstOrder 12 = .ok (.iinc 1 1, 3) := by decide +kernel
theorem dX6_firstOrder_15 : decode cX6_firstOrder 15 = .ok (.goto (-13), 3) := by decide +kernel
theorem dX6_firstOrder_18 : decode cX6_firstOrder 18 = .ok (.return_, 1) := by decide +kernel
theorem l_X6_firstOrder {d : List Nat} {T : vT} {M : vM} {a : Nat} (hk : vKK a = (1, 6)) : ∀ p : Nat, p ≤ 6 →
    vV m_X6_firstOrder d d (vPv fun T1 M1 => T = T1 ∧ M1 = vRow M a (pMix 6 (fun j => j) (M a))) 2 [some (vR a), some (vI p)] [] d T (vRow M a (pMix p (fun j => j) (M a))) := by
  refine vUp ?_
  intro p hp ih
  have e : vUpd (vRow M a (pMix p (fun j => j) (M a))) a p p = vRow M a (pMix (p + 1) (fun j => j) (M a)) := by rw [vUpd_vRow, ← pMix_s]
  refine vV.iload_n dX6_firstOrder_2 rfl ?_
  refine vV.aload_n dX6_firstOrder_3 rfl ?_
  refine vV.alen (v := 6) dX6_firstOrder_4 (by first | rfl | assumption) rfl (by decide) ?_
  refine vV.icmp_ge (tgt := 18) dX6_firstOrder_5 (by decide) (fun h5 => ?_) (fun h5 => ?_)
  · skip
    refine vV.rv dX6_firstOrder_18 rfl ?_
    rw [show p = 6 by omega]; exact ⟨rfl, rfl⟩
  · skip
    refine vV.aload_n dX6_firstOrder_8 rfl ?_
    refine vV.iload_n dX6_firstOrder_9 rfl ?_
    refine vV.iload_n dX6_firstOrder_10 rfl ?_
    refine vV.iast dX6_firstOrder_11 (by first | rfl | assumption) (by omega) (by omega) ?_
    rw [e]
    refine vV.iinc (L' := [_, _]) dX6_firstOrder_12 (by decide) rfl (⟨by omega, by omega⟩) rfl ?_
    refine vV.goto (tgt := 2) dX6_firstOrder_15 (by decide) ?_
    exact ih (by omega)
theorem c_X6_firstOrder {d : List Nat} {T : vT} {M : vM} {a : Nat} (hk : vKK a = (1, 6)) : vCon m_X6_firstOrder d d [vR a] T M (vPv fun T1 M1 => T = T1 ∧ M1 = vRow M a (pMix 6 (fun j => j) (M a))) := by
  refine vCon.of (by decide) rfl rfl (Nat.le_of_ble_eq_true rfl) ?_
  have h := l_X6_firstOrder (d := d) (T := T) (M := M) hk 0 (by omega)
  rw [pMix_0, vRow_id] at h
  refine vV.iconst dX6_firstOrder_0 (by decide) ?_
  refine vV.istore_n (L' := [_, _]) dX6_firstOrder_1 (by decide) rfl ?_
  exact h
