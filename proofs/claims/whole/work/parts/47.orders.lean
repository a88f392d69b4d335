/-! ===== own: the reference: layOrder ===== -/
theorem dX7_layOrder_0 : decode cX7_layOrder 0 = .ok (.iconst 0, 1) := by decide +kernel
theorem dX7_layOrder_1 : decode cX7_layOrder 1 = .ok (.istore_n 1, 1) := by decide +kernel
theorem dX7_layOrder_2 : decode cX7_layOrder 2 = .ok (.iload_n 1, 1) := by decide +kernel
theorem dX7_layOrder_3 : decode cX7_layOrder 3 = .ok (.aload_n 0, 1) := by decide +kernel
theorem dX7_layOrder_4 : decode cX7_layOrder 4 = .ok (.getfield 89, 3) := by decide +kernel
theorem dX7_layOrder_7 : decode cX7_layOrder 7 = .ok (.if_icmp .ge 16, 3) := by decide +kernel
theorem dX7_layOrder_10 : decode cX7_layOrder 10 = .ok (.aload_n 0, 1) := by decide +kernel
theorem dX7_layOrder_11 : decode cX7_layOrder 11 = .ok (.getfield 43, 3) := by decide +kernel
theorem dX7_layOrder_14 : decode cX7_layOrder 14 = .ok (.iload_n 1, 1) := by decide +kernel
theorem dX7_layOrder_15 : decode cX7_layOrder 15 = .ok (.iload_n 1, 1) := by decide +kernel
theorem dX7_layOrder_16 : decode cX7_layOrder 16 = .ok (.iastore, 1) := by decide +kernel
theorem dX7_layOrder_17 : decode cX7_layOrder 17 = .ok (.iinc 1 1, 3) := by decide +kernel
theorem dX7_layOrder_20 : decode cX7_layOrder 20 = .ok (.goto (-18), 3) := by decide +kernel
theorem dX7_layOrder_23 : decode cX7_layOrder 23 = .ok (.return_, 1) := by decide +kernel
theorem l_X7_layOrder {d : List Nat} {T : vT} {M : vM} {n : Nat} (hB : vB T) (hc : M 200 4 = n) (hn : n ≤ 6) : ∀ p : Nat, p ≤ n →
    vV m_X7_layOrder d d (vPv fun T1 M1 => T = T1 ∧ M1 = vRow M 227 (pMix n (fun j => j) (M 227))) 2 [some (vR 200), some (vI p)] [] d T (vRow M 227 (pMix p (fun j => j) (M 227))) := by
  refine vUp ?_
  intro p hp ih
  have e0 : vRow M 227 (pMix p (fun j => j) (M 227)) 200 = M 200 := vRow_n (by decide)
  have e : vUpd (vRow M 227 (pMix p (fun j => j) (M 227))) 227 p p = vRow M 227 (pMix (p + 1) (fun j => j) (M 227)) := by rw [vUpd_vRow, ← pMix_s]
  refine vV.iload_n dX7_layOrder_2 rfl ?_
  refine vV.aload_n dX7_layOrder_3 rfl ?_
  refine vV.geti (z := 4) dX7_layOrder_4 fl_X7_89 (by first | rfl | assumption) rfl rfl ?_
  rw [e0]
  refine vV.icmp_ge (tgt := 23) dX7_layOrder_7 (by decide) (fun h7 => ?_) (fun h7 => ?_)
  · skip
    refine vV.rv dX7_layOrder_23 rfl ?_
    rw [show p = n by omega]; exact ⟨rfl, rfl⟩
  · skip
    refine vV.aload_n dX7_layOrder_10 rfl ?_
    refine vV.getr dX7_layOrder_11 fl_X7_43 (by first | rfl | assumption) rfl (by first | assumption | exact hB _ _ _ rfl) ?_
    refine vV.iload_n dX7_layOrder_14 rfl ?_
    refine vV.iload_n dX7_layOrder_15 rfl ?_
    refine vV.iast dX7_layOrder_16 (by first | rfl | assumption) (by omega) (by omega) ?_
    rw [e]
    refine vV.iinc (L' := [_, _]) dX7_layOrder_17 (by decide) rfl (⟨by omega, by omega⟩) rfl ?_
    refine vV.goto (tgt := 2) dX7_layOrder_20 (by decide) ?_
    exact ih (by omega)
theorem c_X7_layOrder {d : List Nat} {T : vT} {M : vM} {n : Nat} (hB : vB T) (hc : M 200 4 = n) (hn : n ≤ 6) : vCon m_X7_layOrder d d [vR 200] T M (vPv fun T1 M1 => T = T1 ∧ M1 = vRow M 227 (pMix n (fun j => j) (M 227))) := by
  refine vCon.of (by decide) rfl rfl (Nat.le_of_ble_eq_true rfl) ?_
  have h := l_X7_layOrder (d := d) (T := T) hB hc hn 0 (by omega)
  rw [pMix_0, vRow_id] at h
  refine vV.iconst dX7_layOrder_0 (by decide) ?_
  refine vV.istore_n (L' := [_, _]) dX7_layOrder_1 (by decide) rfl ?_
  exact h
