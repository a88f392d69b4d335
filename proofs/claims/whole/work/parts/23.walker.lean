/-! ===== own: the class's walker: what he sees, goals ===== -/
def wS (M : vM) (n t : Nat) (g l : Option Nat) : Prop := sgW M 30 n ∧ M 70 2 = pOr (-1) g ∧ (∀ k, g = some k → k < n) ∧ M 70 4 = pOr (-1) l ∧ (∀ k, l = some k → k < n) ∧ (0 ≤ M 70 3 ∧ M 70 3 < M 35 2) ∧ M 70 1 = t
def wL (M : vM) (n t : Nat) (hist : Nat → Int → Int) : Prop := (∀ i : Nat, i ≤ t → M 76 i = pPack (hist i) n) ∧ ∀ (i j : Nat), 0 ≤ hist i j ∧ hist i j ≤ 15
theorem dX5_logged_0 : decode cX5_logged 0 = .ok (.iload_n 0, 1) := by decide +kernel
theorem dX5_logged_1 : decode cX5_logged 1 = .ok (.ifCond .ge 5, 3) := by decide +kernel
theorem dX5_logged_4 : decode cX5_logged 4 = .ok (.iconst 0, 1) := by decide +kernel
theorem dX5_logged_5 : decode cX5_logged 5 = .ok (.ireturn, 1) := by decide +kernel
theorem dX5_logged_6 : decode cX5_logged 6 = .ok (.iload_n 0, 1) := by decide +kernel
theorem dX5_logged_7 : decode cX5_logged 7 = .ok (.sipush 600, 3) := by decide +kernel
theorem dX5_logged_10 : decode cX5_logged 10 = .ok (.if_icmp .le 9, 3) := by decide +kernel
theorem dX5_logged_13 : decode cX5_logged 13 = .ok (.sipush 600, 3) := by decide +kernel
theorem dX5_logged_16 : decode cX5_logged 16 = .ok (.goto 4, 3) := by decide +kernel
theorem dX5_logged_19 : decode cX5_logged 19 = .ok (.iload_n 0, 1) := by decide +kernel
theorem dX5_logged_20 : decode cX5_logged 20 = .ok (.ireturn, 1) := by decide +kernel
theorem c_X5_logged {d : List Nat} {T : vT} {M : vM} {y : Int} : vCon m_X5_logged d d [vI y] T M (vPi fun r T1 M1 => r = (if y < 0 then 0 else if 600 < y then 600 else y) ∧ T = T1 ∧ M = M1) := by
  refine vCon.of (by decide) rfl rfl (Nat.le_of_ble_eq_true rfl) ?_
  refine vV.iload_n dX5_logged_0 rfl ?_
  refine vV.if_ge (tgt := 6) dX5_logged_1 (by decide) (fun h1 => ?_) (fun h1 => ?_)
  · skip
    refine vV.iload_n dX5_logged_6 rfl ?_
    refine vV.sipush (v := 600) dX5_logged_7 (by decide) (by decide) ?_
    refine vV.icmp_le (tgt := 19) dX5_logged_10 (by decide) (fun h10 => ?_) (fun h10 => ?_)
    · skip
      rw [if_neg (by omega), if_neg (by omega)]
      refine vV.iload_n dX5_logged_19 rfl ?_
      refine vV.ri dX5_logged_20 rfl ?_
      exact ⟨rfl, rfl, rfl⟩
    · skip
      rw [if_neg (by omega), if_pos h10]
      refine vV.sipush (v := 600) dX5_logged_13 (by decide) (by decide) ?_
      refine vV.goto (tgt := 20) dX5_logged_16 (by decide) ?_
      refine vV.ri dX5_logged_20 rfl ?_
      exact ⟨rfl, rfl, rfl⟩
  · skip
    refine vV.iconst dX5_logged_4 (by decide) ?_
    refine vV.ri dX5_logged_5 rfl ?_
    rw [if_pos h1]; exact ⟨rfl, rfl, rfl⟩
theorem dX5_far_0 : decode cX5_far 0 = .ok (.aload_n 0, 1) := by decide +kernel
theorem dX5_far_1 : decode cX5_far 1 = .ok (.getfield 12, 3) := by decide +kernel
theorem dX5_far_4 : decode cX5_far 4 = .ok (.getfield 62, 3) := by decide +kernel
theorem dX5_far_7 : decode cX5_far 7 = .ok (.iload_n 1, 1) := by decide +kernel
theorem dX5_far_8 : decode cX5_far 8 = .ok (.iaload, 1) := by decide +kernel
theorem dX5_far_9 : decode cX5_far 9 = .ok (.aload_n 0, 1) := by decide +kernel
theorem dX5_far_10 : decode cX5_far 10 = .ok (.getfield 12, 3) := by decide +kernel
theorem dX5_far_13 : decode cX5_far 13 = .ok (.getfield 52, 3) := by decide +kernel
theorem dX5_far_16 : decode cX5_far 16 = .ok (.iconst 0, 1) := by decide +kernel
theorem dX5_far_17 : decode cX5_far 17 = .ok (.iaload, 1) := by decide +kernel
theorem dX5_far_18 : decode cX5_far 18 = .ok (.isub, 1) := by decide +kernel
theorem dX5_far_19 : decode cX5_far 19 = .ok (.istore_n 2, 1) := by decide +kernel
theorem dX5_far_20 : decode cX5_far 20 = .ok (.iload_n 2, 1) := by decide +kernel
theorem dX5_far_21 : decode cX5_far 21 = .ok (.ifCond .ge 8, 3) := by decide +kernel
theorem dX5_far_24 : decode cX5_far 24 = .ok (.iload_n 2, 1) := by decide +kernel
theorem dX5_far_25 : decode cX5_far 25 = .ok (.ineg, 1) := by decide +kernel
theorem dX5_far_26 : decode cX5_far 26 = .ok (.goto 4, 3) := by decide +kernel
theorem dX5_far_29 : decode cX5_far 29 = .ok (.iload_n 2, 1) := by decide +kernel
theorem dX5_far_30 : decode cX5_far 30 = .ok (.ireturn, 1) := by decide +kernel
theorem c_X5_far {d : List Nat} {T : vT} {M : vM} {n p : Nat} (hB : vB T) (hW : sgW M 30 n) (hp : p < n) : vCon m_X5_far d d [vR 70, vI p] T M (vPi fun r T1 M1 => r = pFar (M 31) (M 35 0) p ∧ T = T1 ∧ M = M1) := by
  have hn := hW.le
  obtain ⟨-, -, -, -, hpl, -, -, -, hs0, -⟩ := hW
  have b1 : 0 ≤ M 31 p ∧ M 31 p ≤ 7 := hpl p
  have b2 : 0 ≤ M 35 0 ∧ M 35 0 ≤ 7 := hs0
  unfold pFar pAbs
  refine vCon.of (by decide) rfl rfl (Nat.le_of_ble_eq_true rfl) ?_
  refine vV.aload_n dX5_far_0 rfl ?_
  refine vV.getr dX5_far_1 fl_X5_12 (by first | rfl | assumption) rfl (by first | assumption | exact hB _ _ _ rfl) ?_
  refine vV.getr dX5_far_4 fl_X5_62 (by first | rfl | assumption) rfl (by first | assumption | exact hB _ _ _ rfl) ?_
  refine vV.iload_n dX5_far_7 rfl ?_
  refine vV.iald dX5_far_8 (by first | rfl | assumption) (by omega) (by omega) ?_
  refine vV.aload_n dX5_far_9 rfl ?_
  refine vV.getr dX5_far_10 fl_X5_12 (by first | rfl | assumption) rfl (by first | assumption | exact hB _ _ _ rfl) ?_
  refine vV.getr dX5_far_13 fl_X5_52 (by first | rfl | assumption) rfl (by first | assumption | exact hB _ _ _ rfl) ?_
  refine vV.iconst dX5_far_16 (by decide) ?_
  refine vV.iald dX5_far_17 (by first | rfl | assumption) (by omega) (by omega) ?_
  refine vV.isub dX5_far_18 (⟨by omega, by omega⟩) ?_
  refine vV.istore_n (L' := [_, _, _]) dX5_far_19 (by decide) rfl ?_
  refine vV.iload_n dX5_far_20 rfl ?_
  refine vV.if_ge (tgt := 29) dX5_far_21 (by decide) (fun h21 => ?_) (fun h21 => ?_)
  · skip
    rw [if_neg (by omega)]
    refine vV.iload_n dX5_far_29 rfl ?_
    refine vV.ri dX5_far_30 rfl ?_
    first | exact ⟨rfl, rfl, rfl⟩ | exact ⟨by omega, rfl, rfl⟩
  · skip
    rw [if_pos (by omega)]
    refine vV.iload_n dX5_far_24 rfl ?_
    refine vV.ineg dX5_far_25 (⟨by omega, by omega⟩) ?_
    refine vV.goto (tgt := 30) dX5_far_26 (by decide) ?_
    refine vV.ri dX5_far_30 rfl ?_
    first | exact ⟨rfl, rfl, rfl⟩ | exact ⟨by omega, rfl, rfl⟩
theorem dX5_seen_0 : decode cX5_seen 0 = .ok (.aload_n 0, 1) := by decide +kernel
theorem dX5_seen_1 : decode cX5_seen 1 = .ok (.getfield 12, 3) := by decide +kernel
theorem dX5_seen_4 : decode cX5_seen 4 = .ok (.getfield 62, 3) := by decide +kernel
theorem dX5_seen_7 : decode cX5_seen 7 = .ok (.iload_n 1, 1) := by decide +kernel
theorem dX5_seen_8 : decode cX5_seen 8 = .ok (.iaload, 1) := by decide +kernel
theorem dX5_seen_9 : decode cX5_seen 9 = .ok (.aload_n 0, 1) := by decide +kernel
theorem dX5_seen_10 : decode cX5_seen 10 = .ok (.getfield 12, 3) := by decide +kernel
theorem dX5_seen_13 : decode cX5_seen 13 = .ok (.getfield 52, 3) := by decide +kernel
theorem dX5_seen_16 : decode cX5_seen 16 = .ok (.iconst 0, 1) := by decide +kernel
theorem dX5_seen_17 : decode cX5_seen 17 = .ok (.iaload, 1) := by decide +kernel
theorem dX5_seen_18 : decode cX5_seen 18 = .ok (.if_icmp .ne 13, 3) := by decide +kernel
theorem dX5_seen_21 : decode cX5_seen 21 = .ok (.aload_n 0, 1) := by decide +kernel
theorem dX5_seen_22 : decode cX5_seen 22 = .ok (.getfield 12, 3) := by decide +kernel
theorem dX5_seen_25 : decode cX5_seen 25 = .ok (.getfield 55, 3) := by decide +kernel
theorem dX5_seen_28 : decode cX5_seen 28 = .ok (.iload_n 1, 1) := by decide +kernel
theorem dX5_seen_29 : decode cX5_seen 29 = .ok (.iaload, 1) := by decide +kernel
theorem dX5_seen_30 : decode cX5_seen 30 = .ok (.ireturn, 1) := by decide +kernel
theorem dX5_seen_31 : decode cX5_seen 31 = .ok (.aload_n 0, 1) := by decide +kernel
theorem dX5_seen_32 : decode cX5_seen 32 = .ok (.getfield 78, 3) := by decide +kernel
theorem dX5_seen_35 : decode cX5_seen 35 = .ok (.iconst 4, 1) := by decide +kernel
theorem dX5_seen_36 : decode cX5_seen 36 = .ok (.iload_n 1, 1) := by decide +kernel
theorem dX5_seen_37 : decode cX5_seen 37 = .ok (.imul, 1) := by decide +kernel
theorem dX5_seen_38 : decode cX5_seen 38 = .ok (.ishr, 1) := by decide +kernel
theorem dX5_seen_39 : decode cX5_seen 39 = .ok (.bipush 15, 2) := by decide +kernel
theorem dX5_seen_41 : decode cX5_seen 41 = .ok (.iand, 1) := by decide +kernel
theorem dX5_seen_42 : decode cX5_seen 42 = .ok (.ireturn, 1) := by decide +kernel
theorem c_X5_seen {d : List Nat} {T : vT} {M : vM} {n p : Nat} {f : Int → Int} (hB : vB T) (hW : sgW M 30 n) (hp : p < n) (hl : M 70 5 = pPack f n) (hf : ∀ j : Nat, 0 ≤ f j ∧ f j ≤ 15) : vCon m_X5_seen d d [vR 70, vI p] T M (vPi fun r T1 M1 => r = pSeen (M 31) (M 34) f (M 35 0) p ∧ T = T1 ∧ M = M1) := by
  have hn := hW.le
  have hdig := seen_dig hf hn hp
  unfold pSeen
  refine vCon.of (by decide) rfl rfl (Nat.le_of_ble_eq_true rfl) ?_
  refine vV.aload_n dX5_seen_0 rfl ?_
  refine vV.getr dX5_seen_1 fl_X5_12 (by first | rfl | assumption) rfl (by first | assumption | exact hB _ _ _ rfl) ?_
  refine vV.getr dX5_seen_4 fl_X5_62 (by first | rfl | assumption) rfl (by first | assumption | exact hB _ _ _ rfl) ?_
  refine vV.iload_n dX5_seen_7 rfl ?_
  refine vV.iald dX5_seen_8 (by first | rfl | assumption) (by omega) (by omega) ?_
  refine vV.aload_n dX5_seen_9 rfl ?_
  refine vV.getr dX5_seen_10 fl_X5_12 (by first | rfl | assumption) rfl (by first | assumption | exact hB _ _ _ rfl) ?_
  refine vV.getr dX5_seen_13 fl_X5_52 (by first | rfl | assumption) rfl (by first | assumption | exact hB _ _ _ rfl) ?_
  refine vV.iconst dX5_seen_16 (by decide) ?_
  refine vV.iald dX5_seen_17 (by first | rfl | assumption) (by omega) (by omega) ?_
  refine vV.icmp_ne (tgt := 31) dX5_seen_18 (by decide) (fun h18 => ?_) (fun h18 => ?_)
  · skip
    rw [if_neg h18]
    refine vV.aload_n dX5_seen_31 rfl ?_
    refine vV.geti (z := 5) dX5_seen_32 fl_X5_78 (by first | rfl | assumption) rfl rfl ?_
    rw [hl]
    refine vV.iconst dX5_seen_35 (by decide) ?_
    refine vV.iload_n dX5_seen_36 rfl ?_
    refine vV.imul dX5_seen_37 (⟨by omega, by omega⟩) ?_
    refine vV.ishr dX5_seen_38 ?_
    refine vV.bipush (v := 15) dX5_seen_39 (by decide) (by decide) ?_
    refine vV.iand dX5_seen_41 ?_
    refine vV.ri dX5_seen_42 rfl ?_
    first | exact ⟨rfl, rfl, rfl⟩ | exact ⟨hdig, rfl, rfl⟩
  · skip
    rw [if_pos h18]
    refine vV.aload_n dX5_seen_21 rfl ?_
    refine vV.getr dX5_seen_22 fl_X5_12 (by first | rfl | assumption) rfl (by first | assumption | exact hB _ _ _ rfl) ?_
    refine vV.getr dX5_seen_25 fl_X5_55 (by first | rfl | assumption) rfl (by first | assumption | exact hB _ _ _ rfl) ?_
    refine vV.iload_n dX5_seen_28 rfl ?_
    refine vV.iald dX5_seen_29 (by first | rfl | assumption) (by omega) (by omega) ?_
    refine vV.ri dX5_seen_30 rfl ?_
    first | exact ⟨rfl, rfl, rfl⟩ | exact ⟨hdig, rfl, rfl⟩
theorem dX5_worst_0 : decode cX5_worst 0 = .ok (.iconst (-1), 1) := by decide +kernel
theorem dX5_worst_1 : decode cX5_worst 1 = .ok (.istore_n 1, 1) := by decide +kernel
theorem dX5_worst_2 : decode cX5_worst 2 = .ok (.iconst 0, 1) := by decide +kernel
theorem dX5_worst_3 : decode cX5_worst 3 = .ok (.istore_n 2, 1) := by decide +kernel
theorem dX5_worst_4 : decode cX5_worst 4 = .ok (.iconst 0, 1) := by decide +kernel
theorem dX5_worst_5 : decode cX5_worst 5 = .ok (.istore_n 3, 1) := by decide +kernel
theorem dX5_worst_6 : decode cX5_worst 6 = .ok (.iload_n 3, 1) := by decide +kernel
theorem dX5_worst_7 : decode cX5_worst 7 = .ok (.aload_n 0, 1) := by decide +kernel
theorem dX5_worst_8 : decode cX5_worst 8 = .ok (.getfield 12, 3) := by decide +kernel
theorem dX5_worst_11 : decode cX5_worst 11 = .ok (.getfield 93, 3) := by decide +kernel
theorem dX5_worst_14 : decode cX5_worst 14 = .ok (.if_icmp .ge 42, 3) := by decide +kernel
theorem dX5_worst_17 : decode cX5_worst 17 = .ok (.aload_n 0, 1) := by decide +kernel
theorem dX5_worst_18 : decode cX5_worst 18 = .ok (.getfield 12, 3) := by decide +kernel
theorem dX5_worst_21 : decode cX5_worst 21 = .ok (.getfield 55, 3) := by decide +kernel
theorem dX5_worst_24 : decode cX5_worst 24 = .ok (.iload_n 3, 1) := by decide +kernel
theorem dX5_worst_25 : decode cX5_worst 25 = .ok (.iaload, 1) := by decide +kernel
theorem dX5_worst_26 : decode cX5_worst 26 = .ok (.ifCond .le 24, 3) := by decide +kernel
theorem dX5_worst_29 : decode cX5_worst 29 = .ok (.iload_n 1, 1) := by decide +kernel
theorem dX5_worst_30 : decode cX5_worst 30 = .ok (.ifCond .lt 12, 3) := by decide +kernel
theorem dX5_worst_33 : decode cX5_worst 33 = .ok (.aload_n 0, 1) := by decide +kernel
theorem dX5_worst_34 : decode cX5_worst 34 = .ok (.iload_n 3, 1) := by decide +kernel
theorem dX5_worst_35 : decode cX5_worst 35 = .ok (.invokevirtual 96, 3) := by decide +kernel
theorem dX5_worst_38 : decode cX5_worst 38 = .ok (.iload_n 2, 1) := by decide +kernel
theorem dX5_worst_39 : decode cX5_worst 39 = .ok (.if_icmp .ge 11, 3) := by decide +kernel
theorem dX5_worst_42 : decode cX5_worst 42 = .ok (.iload_n 3, 1) := by decide +kernel
theorem dX5_worst_43 : decode cX5_worst 43 = .ok (.istore_n 1, 1) := by decide +kernel
theorem dX5_worst_44 : decode cX5_worst 44 = .ok (.aload_n 0, 1) := by decide +kernel
theorem dX5_worst_45 : decode cX5_worst 45 = .ok (.iload_n 3, 1) := by decide +kernel
theorem dX5_worst_46 : decode cX5_worst 46 = .ok (.invokevirtual 96, 3) := by decide +kernel
theorem dX5_worst_49 : decode cX5_worst 49 = .ok (.istore_n 2, 1) := by decide +kernel
theorem dX5_worst_50 : decode cX5_worst 50 = .ok (.iinc 3 1, 3) := by decide +kernel
theorem dX5_worst_53 : decode cX5_worst 53 = .ok (.goto (-47), 3) := by decide +kernel
theorem dX5_worst_56 : decode cX5_worst 56 = .ok (.iload_n 1, 1) := by decide +kernel
theorem dX5_worst_57 : decode cX5_worst 57 = .ok (.ireturn, 1) := by decide +kernel
theorem l_X5_worst {d : List Nat} {T : vT} {M : vM} {n : Nat} {f : Int → Int} (hB : vB T) (hW : sgW M 30 n) (hl : M 70 5 = pPack f n) (hf : ∀ j : Nat, 0 ≤ f j ∧ f j ≤ 15) (S : Nat → Bool) (hSd : S = fun j : Nat => decide (0 < M 34 j)) (v : Nat → Int) (hvd : v = pSeen (M 31) (M 34) f (M 35 0)) : ∀ p, p ≤ n → ∀ y : Int, (∀ b, pMin S v p = some b → y = v b) →
    vV m_X5_worst d d (vPi fun r T1 M1 => r = pOr (-1) (pMin S v n) ∧ T = T1 ∧ M = M1) 6 [some (vR 70), some (vI (pOr (-1) (pMin S v p))), some (vI y), some (vI p)] [] d T M := by
  have hn := hW.le
  have hc : M 30 0 = n := hW.cnt
  refine vUp ?_
  intro p hp ih y hy
  obtain ⟨r, hr⟩ : ∃ r, pMin S v p = r := ⟨_, rfl⟩
  rw [hr] at hy ⊢
  have keep : (S p = false ∨ ∃ b, r = some b ∧ v b ≤ v p) → pMin S v (p + 1) = r := fun h => by rw [← hr]; exact pMin_keep (by rw [hr]; exact h)
  have take : S p = true → (∀ b, r = some b → v p < v b) → pMin S v (p + 1) = some p := fun h1 h2 => pMin_take h1 (by rw [hr]; exact h2)
  have hlt : ∀ b, r = some b → b < p := fun b hb => pMin_lt (hr.trans hb)
  cases r with
  | none =>
    rw [pOr_n]
    refine vV.iload_n dX5_worst_6 rfl ?_
    refine vV.aload_n dX5_worst_7 rfl ?_
    refine vV.getr dX5_worst_8 fl_X5_12 (by first | rfl | assumption) rfl (by first | assumption | exact hB _ _ _ rfl) ?_
    refine vV.geti (z := 0) dX5_worst_11 fl_X5_93 (by first | rfl | assumption) rfl rfl ?_
    refine vV.icmp_ge (tgt := 56) dX5_worst_14 (by decide) (fun h14 => ?_) (fun h14 => ?_)
    · skip
      refine vV.iload_n dX5_worst_56 rfl ?_
      refine vV.ri dX5_worst_57 rfl ?_
      rw [show n = p by omega, hr]; exact ⟨rfl, rfl, rfl⟩
    · skip
      refine vV.aload_n dX5_worst_17 rfl ?_
      refine vV.getr dX5_worst_18 fl_X5_12 (by first | rfl | assumption) rfl (by first | assumption | exact hB _ _ _ rfl) ?_
      refine vV.getr dX5_worst_21 fl_X5_55 (by first | rfl | assumption) rfl (by first | assumption | exact hB _ _ _ rfl) ?_
      refine vV.iload_n dX5_worst_24 rfl ?_
      refine vV.iald dX5_worst_25 (by first | rfl | assumption) (by omega) (by omega) ?_
      refine vV.if_le (tgt := 50) dX5_worst_26 (by decide) (fun h26 => ?_) (fun h26 => ?_)
      · skip
        rw [keep (Or.inl (by rw [hSd]; simp; omega)), pOr_n] at ih
        refine vV.iinc (L' := [_, _, _, _]) dX5_worst_50 (by decide) rfl (⟨by omega, by omega⟩) rfl ?_
        refine vV.goto (tgt := 6) dX5_worst_53 (by decide) ?_
        exact ih (by omega) _ (fun b hb => by cases hb <;> (rw [hvd]))
      · skip
        refine vV.iload_n dX5_worst_29 rfl ?_
        refine vV.if_lt (tgt := 42) dX5_worst_30 (by decide) (fun h30 => ?_) (fun h30 => ?_)
        · skip
          rw [take (by rw [hSd]; simp; omega) (fun b hb => nomatch hb), pOr_s] at ih
          refine vV.iload_n dX5_worst_42 rfl ?_
          refine vV.istore_n (L' := [_, _, _, _]) dX5_worst_43 (by decide) rfl ?_
          refine vV.aload_n dX5_worst_44 rfl ?_
          refine vV.iload_n dX5_worst_45 rfl ?_
          refine vV.cVi dX5_worst_46 ml_X5_96 cw_X5_seen iw_X5_seen (by first | rfl | assumption) rfl (by unfold vRoom; decide) (c_X5_seen hB hW (p := p) (by omega) hl hf) rfl rfl (Nat.le_of_ble_eq_true rfl) ?_
          rintro x46 _ _ hx46 ⟨rfl, rfl, rfl⟩
          refine vV.istore_n (L' := [_, _, _, _]) dX5_worst_49 (by decide) rfl ?_
          refine vV.iinc (L' := [_, _, _, _]) dX5_worst_50 (by decide) rfl (⟨by omega, by omega⟩) rfl ?_
          refine vV.goto (tgt := 6) dX5_worst_53 (by decide) ?_
          exact ih (by omega) _ (fun b hb => by cases hb <;> (rw [hvd]))
        · skip
          omega
  | some b =>
    have hbp := hlt b rfl
    have hyb := hy b rfl
    rw [pOr_s]
    refine vV.iload_n dX5_worst_6 rfl ?_
    refine vV.aload_n dX5_worst_7 rfl ?_
    refine vV.getr dX5_worst_8 fl_X5_12 (by first | rfl | assumption) rfl (by first | assumption | exact hB _ _ _ rfl) ?_
    refine vV.geti (z := 0) dX5_worst_11 fl_X5_93 (by first | rfl | assumption) rfl rfl ?_
    refine vV.icmp_ge (tgt := 56) dX5_worst_14 (by decide) (fun h14 => ?_) (fun h14 => ?_)
    · skip
      refine vV.iload_n dX5_worst_56 rfl ?_
      refine vV.ri dX5_worst_57 rfl ?_
      rw [show n = p by omega, hr]; exact ⟨rfl, rfl, rfl⟩
    · skip
      refine vV.aload_n dX5_worst_17 rfl ?_
      refine vV.getr dX5_worst_18 fl_X5_12 (by first | rfl | assumption) rfl (by first | assumption | exact hB _ _ _ rfl) ?_
      refine vV.getr dX5_worst_21 fl_X5_55 (by first | rfl | assumption) rfl (by first | assumption | exact hB _ _ _ rfl) ?_
      refine vV.iload_n dX5_worst_24 rfl ?_
      refine vV.iald dX5_worst_25 (by first | rfl | assumption) (by omega) (by omega) ?_
      refine vV.if_le (tgt := 50) dX5_worst_26 (by decide) (fun h26 => ?_) (fun h26 => ?_)
      · skip
        rw [keep (Or.inl (by rw [hSd]; simp; omega)), pOr_s] at ih
        refine vV.iinc (L' := [_, _, _, _]) dX5_worst_50 (by decide) rfl (⟨by omega, by omega⟩) rfl ?_
        refine vV.goto (tgt := 6) dX5_worst_53 (by decide) ?_
        exact ih (by omega) _ (fun b' hb => by cases hb; first | exact hyb | rw [hvd])
      · skip
        refine vV.iload_n dX5_worst_29 rfl ?_
        refine vV.if_lt (tgt := 42) dX5_worst_30 (by decide) (fun h30 => ?_) (fun h30 => ?_)
        · skip
          omega
        · skip
          refine vV.aload_n dX5_worst_33 rfl ?_
          refine vV.iload_n dX5_worst_34 rfl ?_
          refine vV.cVi dX5_worst_35 ml_X5_96 cw_X5_seen iw_X5_seen (by first | rfl | assumption) rfl (by unfold vRoom; decide) (c_X5_seen hB hW (p := p) (by omega) hl hf) rfl rfl (Nat.le_of_ble_eq_true rfl) ?_
          rintro x46 _ _ hx46 ⟨rfl, rfl, rfl⟩
          refine vV.iload_n dX5_worst_38 rfl ?_
          refine vV.icmp_ge (tgt := 50) dX5_worst_39 (by decide) (fun h39 => ?_) (fun h39 => ?_)
          · skip
            rw [hyb] at h39
            rw [keep (Or.inr ⟨b, rfl, by rw [hvd] at h39 ⊢; exact h39⟩), pOr_s] at ih
            refine vV.iinc (L' := [_, _, _, _]) dX5_worst_50 (by decide) rfl (⟨by omega, by omega⟩) rfl ?_
            refine vV.goto (tgt := 6) dX5_worst_53 (by decide) ?_
            exact ih (by omega) _ (fun b' hb => by cases hb; first | exact hyb | rw [hvd])
          · skip
            rw [hyb] at h39
            rw [take (by rw [hSd]; simp; omega) (fun b' hb => by cases hb; rw [hvd] at h39 ⊢; exact h39), pOr_s] at ih
            refine vV.iload_n dX5_worst_42 rfl ?_
            refine vV.istore_n (L' := [_, _, _, _]) dX5_worst_43 (by decide) rfl ?_
            refine vV.aload_n dX5_worst_44 rfl ?_
            refine vV.iload_n dX5_worst_45 rfl ?_
            refine vV.cVi dX5_worst_46 ml_X5_96 cw_X5_seen iw_X5_seen (by first | rfl | assumption) rfl (by unfold vRoom; decide) (c_X5_seen hB hW (p := p) (by omega) hl hf) rfl rfl (Nat.le_of_ble_eq_true rfl) ?_
            rintro x46 _ _ hx46 ⟨rfl, rfl, rfl⟩
            refine vV.istore_n (L' := [_, _, _, _]) dX5_worst_49 (by decide) rfl ?_
            refine vV.iinc (L' := [_, _, _, _]) dX5_worst_50 (by decide) rfl (⟨by omega, by omega⟩) rfl ?_
            refine vV.goto (tgt := 6) dX5_worst_53 (by decide) ?_
            exact ih (by omega) _ (fun b' hb => by cases hb; first | exact hyb | rw [hvd])
theorem c_X5_worst {d : List Nat} {T : vT} {M : vM} {n : Nat} {f : Int → Int} (hB : vB T) (hW : sgW M 30 n) (hl : M 70 5 = pPack f n) (hf : ∀ j : Nat, 0 ≤ f j ∧ f j ≤ 15) : vCon m_X5_worst d d [vR 70] T M (vPi fun r T1 M1 => r = pOr (-1) (pWorst n (M 31) (M 34) f (M 35 0)) ∧ T = T1 ∧ M = M1) := by
  refine vCon.of (by decide) rfl rfl (Nat.le_of_ble_eq_true rfl) ?_
  have h := l_X5_worst (d := d) hB hW hl hf _ rfl _ rfl 0 (by omega)
  refine vV.iconst dX5_worst_0 (by decide) ?_
  refine vV.istore_n (L' := [_, _, _, _]) dX5_worst_1 (by decide) rfl ?_
  refine vV.iconst dX5_worst_2 (by decide) ?_
  refine vV.istore_n (L' := [_, _, _, _]) dX5_worst_3 (by decide) rfl ?_
  refine vV.iconst dX5_worst_4 (by decide) ?_
  refine vV.istore_n (L' := [_, _, _, _]) dX5_worst_5 (by decide) rfl ?_
  exact h _ (fun b hb => nomatch hb)
theorem dX5_near_0 : decode cX5_near 0 = .ok (.iconst (-1), 1) := by decide +kernel
theorem dX5_near_1 : decode cX5_near 1 = .ok (.istore_n 1, 1) := by decide +kernel
theorem dX5_near_2 : decode cX5_near 2 = .ok (.iconst 0, 1) := by decide +kernel
theorem dX5_near_3 : decode cX5_near 3 = .ok (.istore_n 2, 1) := by decide +kernel
theorem dX5_near_4 : decode cX5_near 4 = .ok (.iload_n 2, 1) := by decide +kernel
theorem dX5_near_5 : decode cX5_near 5 = .ok (.aload_n 0, 1) := by decide +kernel
theorem dX5_near_6 : decode cX5_near 6 = .ok (.getfield 12, 3) := by decide +kernel
theorem dX5_near_9 : decode cX5_near 9 = .ok (.getfield 93, 3) := by decide +kernel
theorem dX5_near_12 : decode cX5_near 12 = .ok (.if_icmp .ge 49, 3) := by decide +kernel
theorem dX5_near_15 : decode cX5_near 15 = .ok (.aload_n 0, 1) := by decide +kernel
theorem dX5_near_16 : decode cX5_near 16 = .ok (.getfield 12, 3) := by decide +kernel
theorem dX5_near_19 : decode cX5_near 19 = .ok (.getfield 55, 3) := by decide +kernel
theorem dX5_near_22 : decode cX5_near 22 = .ok (.iload_n 2, 1) := by decide +kernel
theorem dX5_near_23 : decode cX5_near 23 = .ok (.iaload, 1) := by decide +kernel
theorem dX5_near_24 : decode cX5_near 24 = .ok (.ifCond .le 31, 3) := by decide +kernel
theorem dX5_near_27 : decode cX5_near 27 = .ok (.aload_n 0, 1) := by decide +kernel
theorem dX5_near_28 : decode cX5_near 28 = .ok (.iload_n 2, 1) := by decide +kernel
theorem dX5_near_29 : decode cX5_near 29 = .ok (.invokevirtual 96, 3) := by decide +kernel
theorem dX5_near_32 : decode cX5_near 32 = .ok (.iconst 5, 1) := by decide +kernel
theorem dX5_near_33 : decode cX5_near 33 = .ok (.if_icmp .gt 22, 3) := by decide +kernel
theorem dX5_near_36 : decode cX5_near 36 = .ok (.iload_n 1, 1) := by decide +kernel
theorem dX5_near_37 : decode cX5_near 37 = .ok (.ifCond .lt 16, 3) := by decide +kernel
theorem dX5_near_40 : decode cX5_near 40 = .ok (.aload_n 0, 1) := by decide +kernel
theorem dX5_near_41 : decode cX5_near 41 = .ok (.iload_n 2, 1) := by decide +kernel
theorem dX5_near_42 : decode cX5_near 42 = .ok (.invokevirtual 99, 3) := by decide +kernel
theorem dX5_near_45 : decode cX5_near 45 = .ok (.aload_n 0, 1) := by decide +kernel
theorem dX5_near_46 : decode cX5_near 46 = .ok (.iload_n 1, 1) := by decide +kernel
theorem dX5_near_47 : decode cX5_near 47 = .ok (.invokevirtual 99, 3) := by decide +kernel
theorem dX5_near_50 : decode cX5_near 50 = .ok (.if_icmp .ge 5, 3) := by decide +kernel
theorem dX5_near_53 : decode cX5_near 53 = .ok (.iload_n 2, 1) := by decide +kernel
theorem dX5_near_54 : decode cX5_near 54 = .ok (.istore_n 1, 1) := by decide +kernel
theorem dX5_near_55 : decode cX5_near 55 = .ok (.iinc 2 1, 3) := by decide +kernel
theorem dX5_near_58 : decode cX5_near 58 = .ok (.goto (-54), 3) := by decide +kernel
theorem dX5_near_61 : decode cX5_near 61 = .ok (.iload_n 1, 1) := by decide +kernel
theorem dX5_near_62 : decode cX5_near 62 = .ok (.ireturn, 1) := by decide +kernel
theorem l_X5_near {d : List Nat} {T : vT} {M : vM} {n : Nat} {f : Int → Int} (hB : vB T) (hW : sgW M 30 n) (hl : M 70 5 = pPack f n) (hf : ∀ j : Nat, 0 ≤ f j ∧ f j ≤ 15) (S : Nat → Bool) (hSd : S = fun j : Nat => decide (0 < M 34 j) && decide (pSeen (M 31) (M 34) f (M 35 0) j ≤ 5)) (v : Nat → Int) (hvd : v = pFar (M 31) (M 35 0)) : ∀ p, p ≤ n →
    vV m_X5_near d d (vPi fun r T1 M1 => r = pOr (-1) (pMin S v n) ∧ T = T1 ∧ M = M1) 4 [some (vR 70), some (vI (pOr (-1) (pMin S v p))), some (vI p)] [] d T M := by
  have hn := hW.le
  have hc : M 30 0 = n := hW.cnt
  refine vUp ?_
  intro p hp ih
  obtain ⟨r, hr⟩ : ∃ r, pMin S v p = r := ⟨_, rfl⟩
  rw [hr]
  have keep : (S p = false ∨ ∃ b, r = some b ∧ v b ≤ v p) → pMin S v (p + 1) = r := fun h => by rw [← hr]; exact pMin_keep (by rw [hr]; exact h)
  have take : S p = true → (∀ b, r = some b → v p < v b) → pMin S v (p + 1) = some p := fun h1 h2 => pMin_take h1 (by rw [hr]; exact h2)
  have hlt : ∀ b, r = some b → b < p := fun b hb => pMin_lt (hr.trans hb)
  cases r with
  | none =>
    rw [pOr_n]
    refine vV.iload_n dX5_near_4 rfl ?_
    refine vV.aload_n dX5_near_5 rfl ?_
    refine vV.getr dX5_near_6 fl_X5_12 (by first | rfl | assumption) rfl (by first | assumption | exact hB _ _ _ rfl) ?_
    refine vV.geti (z := 0) dX5_near_9 fl_X5_93 (by first | rfl | assumption) rfl rfl ?_
    refine vV.icmp_ge (tgt := 61) dX5_near_12 (by decide) (fun h12 => ?_) (fun h12 => ?_)
    · skip
      refine vV.iload_n dX5_near_61 rfl ?_
      refine vV.ri dX5_near_62 rfl ?_
      rw [show n = p by omega, hr]; exact ⟨rfl, rfl, rfl⟩
    · skip
      refine vV.aload_n dX5_near_15 rfl ?_
      refine vV.getr dX5_near_16 fl_X5_12 (by first | rfl | assumption) rfl (by first | assumption | exact hB _ _ _ rfl) ?_
      refine vV.getr dX5_near_19 fl_X5_55 (by first | rfl | assumption) rfl (by first | assumption | exact hB _ _ _ rfl) ?_
      refine vV.iload_n dX5_near_22 rfl ?_
      refine vV.iald dX5_near_23 (by first | rfl | assumption) (by omega) (by omega) ?_
      refine vV.if_le (tgt := 55) dX5_near_24 (by decide) (fun h24 => ?_) (fun h24 => ?_)
      · skip
        rw [keep (Or.inl (by rw [hSd]; simp; omega)), pOr_n] at ih
        refine vV.iinc (L' := [_, _, _]) dX5_near_55 (by decide) rfl (⟨by omega, by omega⟩) rfl ?_
        refine vV.goto (tgt := 4) dX5_near_58 (by decide) ?_
        exact ih (by omega)
      · skip
        refine vV.aload_n dX5_near_27 rfl ?_
        refine vV.iload_n dX5_near_28 rfl ?_
        refine vV.cVi dX5_near_29 ml_X5_96 cw_X5_seen iw_X5_seen (by first | rfl | assumption) rfl (by unfold vRoom; decide) (c_X5_seen hB hW (p := p) (by omega) hl hf) rfl rfl (Nat.le_of_ble_eq_true rfl) ?_
        rintro x29 _ _ hx29 ⟨rfl, rfl, rfl⟩
        refine vV.iconst dX5_near_32 (by decide) ?_
        refine vV.icmp_gt (tgt := 55) dX5_near_33 (by decide) (fun h33 => ?_) (fun h33 => ?_)
        · skip
          rw [keep (Or.inl (by rw [hSd]; simp; omega)), pOr_n] at ih
          refine vV.iinc (L' := [_, _, _]) dX5_near_55 (by decide) rfl (⟨by omega, by omega⟩) rfl ?_
          refine vV.goto (tgt := 4) dX5_near_58 (by decide) ?_
          exact ih (by omega)
        · skip
          refine vV.iload_n dX5_near_36 rfl ?_
          refine vV.if_lt (tgt := 53) dX5_near_37 (by decide) (fun h37 => ?_) (fun h37 => ?_)
          · skip
            rw [take (by rw [hSd]; simp; omega) (fun b hb => nomatch hb), pOr_s] at ih
            refine vV.iload_n dX5_near_53 rfl ?_
            refine vV.istore_n (L' := [_, _, _]) dX5_near_54 (by decide) rfl ?_
            refine vV.iinc (L' := [_, _, _]) dX5_near_55 (by decide) rfl (⟨by omega, by omega⟩) rfl ?_
            refine vV.goto (tgt := 4) dX5_near_58 (by decide) ?_
            exact ih (by omega)
          · skip
            omega
  | some b =>
    have hbp := hlt b rfl
    rw [pOr_s]
    refine vV.iload_n dX5_near_4 rfl ?_
    refine vV.aload_n dX5_near_5 rfl ?_
    refine vV.getr dX5_near_6 fl_X5_12 (by first | rfl | assumption) rfl (by first | assumption | exact hB _ _ _ rfl) ?_
    refine vV.geti (z := 0) dX5_near_9 fl_X5_93 (by first | rfl | assumption) rfl rfl ?_
    refine vV.icmp_ge (tgt := 61) dX5_near_12 (by decide) (fun h12 => ?_) (fun h12 => ?_)
    · skip
      refine vV.iload_n dX5_near_61 rfl ?_
      refine vV.ri dX5_near_62 rfl ?_
      rw [show n = p by omega, hr]; exact ⟨rfl, rfl, rfl⟩
    · skip
      refine vV.aload_n dX5_near_15 rfl ?_
      refine vV.getr dX5_near_16 fl_X5_12 (by first | rfl | assumption) rfl (by first | assumption | exact hB _ _ _ rfl) ?_
      refine vV.getr dX5_near_19 fl_X5_55 (by first | rfl | assumption) rfl (by first | assumption | exact hB _ _ _ rfl) ?_
      refine vV.iload_n dX5_near_22 rfl ?_
      refine vV.iald dX5_near_23 (by first | rfl | assumption) (by omega) (by omega) ?_
      refine vV.if_le (tgt := 55) dX5_near_24 (by decide) (fun h24 => ?_) (fun h24 => ?_)
      · skip
        rw [keep (Or.inl (by rw [hSd]; simp; omega)), pOr_s] at ih
        refine vV.iinc (L' := [_, _, _]) dX5_near_55 (by decide) rfl (⟨by omega, by omega⟩) rfl ?_
        refine vV.goto (tgt := 4) dX5_near_58 (by decide) ?_
        exact ih (by omega)
      · skip
        refine vV.aload_n dX5_near_27 rfl ?_
        refine vV.iload_n dX5_near_28 rfl ?_
        refine vV.cVi dX5_near_29 ml_X5_96 cw_X5_seen iw_X5_seen (by first | rfl | assumption) rfl (by unfold vRoom; decide) (c_X5_seen hB hW (p := p) (by omega) hl hf) rfl rfl (Nat.le_of_ble_eq_true rfl) ?_
        rintro x29 _ _ hx29 ⟨rfl, rfl, rfl⟩
        refine vV.iconst dX5_near_32 (by decide) ?_
        refine vV.icmp_gt (tgt := 55) dX5_near_33 (by decide) (fun h33 => ?_) (fun h33 => ?_)
        · skip
          rw [keep (Or.inl (by rw [hSd]; simp; omega)), pOr_s] at ih
          refine vV.iinc (L' := [_, _, _]) dX5_near_55 (by decide) rfl (⟨by omega, by omega⟩) rfl ?_
          refine vV.goto (tgt := 4) dX5_near_58 (by decide) ?_
          exact ih (by omega)
        · skip
          refine vV.iload_n dX5_near_36 rfl ?_
          refine vV.if_lt (tgt := 53) dX5_near_37 (by decide) (fun h37 => ?_) (fun h37 => ?_)
          · skip
            omega
          · skip
            refine vV.aload_n dX5_near_40 rfl ?_
            refine vV.iload_n dX5_near_41 rfl ?_
            refine vV.cVi dX5_near_42 ml_X5_99 cw_X5_far iw_X5_far (by first | rfl | assumption) rfl (by unfold vRoom; decide) (c_X5_far hB hW (p := p) (by omega)) rfl rfl (Nat.le_of_ble_eq_true rfl) ?_
            rintro x42 _ _ hx42 ⟨rfl, rfl, rfl⟩
            refine vV.aload_n dX5_near_45 rfl ?_
            refine vV.iload_n dX5_near_46 rfl ?_
            refine vV.cVi dX5_near_47 ml_X5_99 cw_X5_far iw_X5_far (by first | rfl | assumption) rfl (by unfold vRoom; decide) (c_X5_far hB hW (p := b) (by omega)) rfl rfl (Nat.le_of_ble_eq_true rfl) ?_
            rintro x47 _ _ hx47 ⟨rfl, rfl, rfl⟩
            refine vV.icmp_ge (tgt := 55) dX5_near_50 (by decide) (fun h50 => ?_) (fun h50 => ?_)
            · skip
              rw [keep (Or.inr ⟨b, rfl, by rw [hvd]; exact h50⟩), pOr_s] at ih
              refine vV.iinc (L' := [_, _, _]) dX5_near_55 (by decide) rfl (⟨by omega, by omega⟩) rfl ?_
              refine vV.goto (tgt := 4) dX5_near_58 (by decide) ?_
              exact ih (by omega)
            · skip
              rw [take (by rw [hSd]; simp; omega) (fun b' hb => by cases hb; rw [hvd]; exact h50), pOr_s] at ih
              refine vV.iload_n dX5_near_53 rfl ?_
              refine vV.istore_n (L' := [_, _, _]) dX5_near_54 (by decide) rfl ?_
              refine vV.iinc (L' := [_, _, _]) dX5_near_55 (by decide) rfl (⟨by omega, by omega⟩) rfl ?_
              refine vV.goto (tgt := 4) dX5_near_58 (by decide) ?_
              exact ih (by omega)
def pNearO (n : Nat) (pl tu f : Int → Int) (man : Int) : Option Nat := pMin (fun j => decide (0 < tu j) && decide (pSeen pl tu f man j ≤ 5)) (pFar pl man) n
theorem c_X5_near {d : List Nat} {T : vT} {M : vM} {n : Nat} {f : Int → Int} (hB : vB T) (hW : sgW M 30 n) (hl : M 70 5 = pPack f n) (hf : ∀ j : Nat, 0 ≤ f j ∧ f j ≤ 15) : vCon m_X5_near d d [vR 70] T M (vPi fun r T1 M1 => r = pOr (-1) (pNearO n (M 31) (M 34) f (M 35 0)) ∧ T = T1 ∧ M = M1) := by
  refine vCon.of (by decide) rfl rfl (Nat.le_of_ble_eq_true rfl) ?_
  have h := l_X5_near (d := d) hB hW hl hf _ rfl _ rfl 0 (by omega)
  refine vV.iconst dX5_near_0 (by decide) ?_
  refine vV.istore_n (L' := [_, _, _]) dX5_near_1 (by decide) rfl ?_
  refine vV.iconst dX5_near_2 (by decide) ?_
  refine vV.istore_n (L' := [_, _, _]) dX5_near_3 (by decide) rfl ?_
  exact h
theorem dX5_leastLeft_0 : decode cX5_leastLeft 0 = .ok (.iconst (-1), 1) := by decide +kernel
theorem dX5_leastLeft_1 : decode cX5_leastLeft 1 = .ok (.istore_n 1, 1) := by decide +kernel
theorem dX5_leastLeft_2 : decode cX5_leastLeft 2 = .ok (.iconst 0, 1) := by decide +kernel
theorem dX5_leastLeft_3 : decode cX5_leastLeft 3 = .ok (.istore_n 2, 1) := by decide +kernel
theorem dX5_leastLeft_4 : decode cX5_leastLeft 4 = .ok (.iconst 0, 1) := by decide +kernel
theorem dX5_leastLeft_5 : decode cX5_leastLeft 5 = .ok (.istore_n 3, 1) := by decide +kernel
theorem dX5_leastLeft_6 : decode cX5_leastLeft 6 = .ok (.iload_n 3, 1) := by decide +kernel
theorem dX5_leastLeft_7 : decode cX5_leastLeft 7 = .ok (.aload_n 0, 1) := by decide +kernel
theorem dX5_leastLeft_8 : decode cX5_leastLeft 8 = .ok (.getfield 12, 3) := by decide +kernel
theorem dX5_leastLeft_11 : decode cX5_leastLeft 11 = .ok (.getfield 93, 3) := by decide +kernel
theorem dX5_leastLeft_14 : decode cX5_leastLeft 14 = .ok (.if_icmp .ge 71, 3) := by decide +kernel
theorem dX5_leastLeft_17 : decode cX5_leastLeft 17 = .ok (.aload_n 0, 1) := by decide +kernel
theorem dX5_leastLeft_18 : decode cX5_leastLeft 18 = .ok (.getfield 12, 3) := by decide +kernel
theorem dX5_leastLeft_21 : decode cX5_leastLeft 21 = .ok (.getfield 55, 3) := by decide +kernel
theorem dX5_leastLeft_24 : decode cX5_leastLeft 24 = .ok (.iload_n 3, 1) := by decide +kernel
theorem dX5_leastLeft_25 : decode cX5_leastLeft 25 = .ok (.iaload, 1) := by decide +kernel
theorem dX5_leastLeft_26 : decode cX5_leastLeft 26 = .ok (.ifCond .le 53, 3) := by decide +kernel
theorem dX5_leastLeft_29 : decode cX5_leastLeft 29 = .ok (.aload_n 0, 1) := by decide +kernel
theorem dX5_leastLeft_30 : decode cX5_leastLeft 30 = .ok (.getfield 12, 3) := by decide +kernel
theorem dX5_leastLeft_33 : decode cX5_leastLeft 33 = .ok (.getfield 102, 3) := by decide +kernel
theorem dX5_leastLeft_36 : decode cX5_leastLeft 36 = .ok (.iload_n 3, 1) := by decide +kernel
theorem dX5_leastLeft_37 : decode cX5_leastLeft 37 = .ok (.iaload, 1) := by decide +kernel
theorem dX5_leastLeft_38 : decode cX5_leastLeft 38 = .ok (.ifCond .le 41, 3) := by decide +kernel
theorem dX5_leastLeft_41 : decode cX5_leastLeft 41 = .ok (.aload_n 0, 1) := by decide +kernel
theorem dX5_leastLeft_42 : decode cX5_leastLeft 42 = .ok (.iload_n 3, 1) := by decide +kernel
theorem dX5_leastLeft_43 : decode cX5_leastLeft 43 = .ok (.invokevirtual 96, 3) := by decide +kernel
theorem dX5_leastLeft_46 : decode cX5_leastLeft 46 = .ok (.aload_n 0, 1) := by decide +kernel
theorem dX5_leastLeft_47 : decode cX5_leastLeft 47 = .ok (.getfield 12, 3) := by decide +kernel
theorem dX5_leastLeft_50 : decode cX5_leastLeft 50 = .ok (.getfield 102, 3) := by decide +kernel
theorem dX5_leastLeft_53 : decode cX5_leastLeft 53 = .ok (.iload_n 3, 1) := by decide +kernel
theorem dX5_leastLeft_54 : decode cX5_leastLeft 54 = .ok (.iaload, 1) := by decide +kernel
theorem dX5_leastLeft_55 : decode cX5_leastLeft 55 = .ok (.idiv, 1) := by decide +kernel
theorem dX5_leastLeft_56 : decode cX5_leastLeft 56 = .ok (.aload_n 0, 1) := by decide +kernel
theorem dX5_leastLeft_57 : decode cX5_leastLeft 57 = .ok (.iload_n 3, 1) := by decide +kernel
theorem dX5_leastLeft_58 : decode cX5_leastLeft 58 = .ok (.invokevirtual 99, 3) := by decide +kernel
theorem dX5_leastLeft_61 : decode cX5_leastLeft 61 = .ok (.isub, 1) := by decide +kernel
theorem dX5_leastLeft_62 : decode cX5_leastLeft 62 = .ok (.istore 4, 2) := by decide +kernel
theorem dX5_leastLeft_64 : decode cX5_leastLeft 64 = .ok (.iload_n 1, 1) := by decide +kernel
theorem dX5_leastLeft_65 : decode cX5_leastLeft 65 = .ok (.ifCond .lt 9, 3) := by decide +kernel
theorem dX5_leastLeft_68 : decode cX5_leastLeft 68 = .ok (.iload 4, 2) := by decide +kernel
theorem dX5_leastLeft_70 : decode cX5_leastLeft 70 = .ok (.iload_n 2, 1) := by decide +kernel
theorem dX5_leastLeft_71 : decode cX5_leastLeft 71 = .ok (.if_icmp .ge 8, 3) := by decide +kernel
theorem dX5_leastLeft_74 : decode cX5_leastLeft 74 = .ok (.iload_n 3, 1) := by decide +kernel
theorem dX5_leastLeft_75 : decode cX5_leastLeft 75 = .ok (.istore_n 1, 1) := by decide +kernel
theorem dX5_leastLeft_76 : decode cX5_leastLeft 76 = .ok (.iload 4, 2) := by decide +kernel
theorem dX5_leastLeft_78 : decode cX5_leastLeft 78 = .ok (.istore_n 2, 1) := by decide +kernel
theorem dX5_leastLeft_79 : decode cX5_leastLeft 79 = .ok (.iinc 3 1, 3) := by decide +kernel
theorem dX5_leastLeft_82 : decode cX5_leastLeft 82 = .ok (.goto (-76), 3) := by decide +kernel
theorem dX5_leastLeft_85 : decode cX5_leastLeft 85 = .ok (.iload_n 1, 1) := by decide +kernel
theorem dX5_leastLeft_86 : decode cX5_leastLeft 86 = .ok (.ireturn, 1) := by decide +kernel
theorem l_X5_leastLeft {d : List Nat} {T : vT} {M : vM} {n : Nat} {f : Int → Int} (hB : vB T) (hW : sgW M 30 n) (hl : M 70 5 = pPack f n) (hf : ∀ j : Nat, 0 ≤ f j ∧ f j ≤ 15) (S : Nat → Bool) (hSd : S = fun j : Nat => decide (0 < M 34 j)) (v : Nat → Int) (hvd : v = pLv (M 31) (M 33) (M 34) f (M 35 0)) : ∀ p, p ≤ n → ∀ (y : Int) (x4 : Option vA), (∀ b, pMin S v p = some b → y = v b) →
    vV m_X5_leastLeft d d (vPi fun r T1 M1 => r = pOr (-1) (pMin S v n) ∧ T = T1 ∧ M = M1) 6 [some (vR 70), some (vI (pOr (-1) (pMin S v p))), some (vI y), some (vI p), x4] [] d T M := by
  have hn := hW.le
  have hc : M 30 0 = n := hW.cnt
  have htu := hW.tu
  have hW2 := hW
  obtain ⟨-, -, -, -, hpl, hfu, hfa, -, hs0, -, -, -, -, hmin, -⟩ := hW2
  refine vUp ?_
  intro p hp ih y x4 hy
  have r1 := pSeen_rg (pl := M 31) (tu := M 34) (f := f) (man := M 35 0) htu hf p
  have r2 := pFar_rg (pl := M 31) (man := M 35 0) (fun j => hpl j) hs0 p
  have r0 : 0 ≤ M 33 p ∧ M 33 p ≤ 3 := hfa p
  obtain ⟨r, hr⟩ : ∃ r, pMin S v p = r := ⟨_, rfl⟩
  rw [hr] at hy ⊢
  have keep : (S p = false ∨ ∃ b, r = some b ∧ v b ≤ v p) → pMin S v (p + 1) = r := fun h => by rw [← hr]; exact pMin_keep (by rw [hr]; exact h)
  have take : S p = true → (∀ b, r = some b → v p < v b) → pMin S v (p + 1) = some p := fun h1 h2 => pMin_take h1 (by rw [hr]; exact h2)
  have hlt : ∀ b, r = some b → b < p := fun b hb => pMin_lt (hr.trans hb)
  have hf1 : p < n → 1 ≤ M 33 p := fun h => (hmin p h).2
  cases r with
  | none =>
    rw [pOr_n]
    refine vV.iload_n dX5_leastLeft_6 rfl ?_
    refine vV.aload_n dX5_leastLeft_7 rfl ?_
    refine vV.getr dX5_leastLeft_8 fl_X5_12 (by first | rfl | assumption) rfl (by first | assumption | exact hB _ _ _ rfl) ?_
    refine vV.geti (z := 0) dX5_leastLeft_11 fl_X5_93 (by first | rfl | assumption) rfl rfl ?_
    refine vV.icmp_ge (tgt := 85) dX5_leastLeft_14 (by decide) (fun h14 => ?_) (fun h14 => ?_)
    · skip
      refine vV.iload_n dX5_leastLeft_85 rfl ?_
      refine vV.ri dX5_leastLeft_86 rfl ?_
      rw [show n = p by omega, hr]; exact ⟨rfl, rfl, rfl⟩
    · skip
      have f1 := hf1 (by omega)
      refine vV.aload_n dX5_leastLeft_17 rfl ?_
      refine vV.getr dX5_leastLeft_18 fl_X5_12 (by first | rfl | assumption) rfl (by first | assumption | exact hB _ _ _ rfl) ?_
      refine vV.getr dX5_leastLeft_21 fl_X5_55 (by first | rfl | assumption) rfl (by first | assumption | exact hB _ _ _ rfl) ?_
      refine vV.iload_n dX5_leastLeft_24 rfl ?_
      refine vV.iald dX5_leastLeft_25 (by first | rfl | assumption) (by omega) (by omega) ?_
      refine vV.if_le (tgt := 79) dX5_leastLeft_26 (by decide) (fun h26 => ?_) (fun h26 => ?_)
      · skip
        rw [keep (Or.inl (by rw [hSd]; simp; omega)), pOr_n] at ih
        refine vV.iinc (L' := [_, _, _, _, _]) dX5_leastLeft_79 (by decide) rfl (⟨by omega, by omega⟩) rfl ?_
        refine vV.goto (tgt := 6) dX5_leastLeft_82 (by decide) ?_
        exact ih (by omega) _ _ (fun b hb => by cases hb <;> (rw [hvd]; rfl))
      · skip
        refine vV.aload_n dX5_leastLeft_29 rfl ?_
        refine vV.getr dX5_leastLeft_30 fl_X5_12 (by first | rfl | assumption) rfl (by first | assumption | exact hB _ _ _ rfl) ?_
        refine vV.getr dX5_leastLeft_33 fl_X5_102 (by first | rfl | assumption) rfl (by first | assumption | exact hB _ _ _ rfl) ?_
        refine vV.iload_n dX5_leastLeft_36 rfl ?_
        refine vV.iald dX5_leastLeft_37 (by first | rfl | assumption) (by omega) (by omega) ?_
        refine vV.if_le (tgt := 79) dX5_leastLeft_38 (by decide) (fun h38 => ?_) (fun h38 => ?_)
        · skip
          omega
        · skip
          refine vV.aload_n dX5_leastLeft_41 rfl ?_
          refine vV.iload_n dX5_leastLeft_42 rfl ?_
          refine vV.cVi dX5_leastLeft_43 ml_X5_96 cw_X5_seen iw_X5_seen (by first | rfl | assumption) rfl (by unfold vRoom; decide) (c_X5_seen hB hW (p := p) (by omega) hl hf) rfl rfl (Nat.le_of_ble_eq_true rfl) ?_
          rintro x43 _ _ hx43 ⟨rfl, rfl, rfl⟩
          refine vV.aload_n dX5_leastLeft_46 rfl ?_
          refine vV.getr dX5_leastLeft_47 fl_X5_12 (by first | rfl | assumption) rfl (by first | assumption | exact hB _ _ _ rfl) ?_
          refine vV.getr dX5_leastLeft_50 fl_X5_102 (by first | rfl | assumption) rfl (by first | assumption | exact hB _ _ _ rfl) ?_
          refine vV.iload_n dX5_leastLeft_53 rfl ?_
          refine vV.iald dX5_leastLeft_54 (by first | rfl | assumption) (by omega) (by omega) ?_
          have r3 := ediv_rg (y := M 33 p) r1.1 (by omega)
          refine vV.idiv dX5_leastLeft_55 (by omega) (by rw [tdiv_nn r1.1]; exact ⟨by omega, by omega⟩) ?_
          rw [tdiv_nn r1.1]
          refine vV.aload_n dX5_leastLeft_56 rfl ?_
          refine vV.iload_n dX5_leastLeft_57 rfl ?_
          refine vV.cVi dX5_leastLeft_58 ml_X5_99 cw_X5_far iw_X5_far (by first | rfl | assumption) rfl (by unfold vRoom; decide) (c_X5_far hB hW (p := p) (by omega)) rfl rfl (Nat.le_of_ble_eq_true rfl) ?_
          rintro x58 _ _ hx58 ⟨rfl, rfl, rfl⟩
          refine vV.isub dX5_leastLeft_61 (⟨by omega, by omega⟩) ?_
          refine vV.istore (L' := [_, _, _, _, _]) dX5_leastLeft_62 (by decide) rfl ?_
          refine vV.iload_n dX5_leastLeft_64 rfl ?_
          refine vV.if_lt (tgt := 74) dX5_leastLeft_65 (by decide) (fun h65 => ?_) (fun h65 => ?_)
          · skip
            rw [take (by rw [hSd]; simp; omega) (fun b hb => nomatch hb), pOr_s] at ih
            refine vV.iload_n dX5_leastLeft_74 rfl ?_
            refine vV.istore_n (L' := [_, _, _, _, _]) dX5_leastLeft_75 (by decide) rfl ?_
            refine vV.iload dX5_leastLeft_76 rfl ?_
            refine vV.istore_n (L' := [_, _, _, _, _]) dX5_leastLeft_78 (by decide) rfl ?_
            refine vV.iinc (L' := [_, _, _, _, _]) dX5_leastLeft_79 (by decide) rfl (⟨by omega, by omega⟩) rfl ?_
            refine vV.goto (tgt := 6) dX5_leastLeft_82 (by decide) ?_
            exact ih (by omega) _ _ (fun b hb => by cases hb <;> (rw [hvd]; rfl))
          · skip
            omega
  | some b =>
    have hbp := hlt b rfl
    have hyb := hy b rfl
    rw [pOr_s]
    refine vV.iload_n dX5_leastLeft_6 rfl ?_
    refine vV.aload_n dX5_leastLeft_7 rfl ?_
    refine vV.getr dX5_leastLeft_8 fl_X5_12 (by first | rfl | assumption) rfl (by first | assumption | exact hB _ _ _ rfl) ?_
    refine vV.geti (z := 0) dX5_leastLeft_11 fl_X5_93 (by first | rfl | assumption) rfl rfl ?_
    refine vV.icmp_ge (tgt := 85) dX5_leastLeft_14 (by decide) (fun h14 => ?_) (fun h14 => ?_)
    · skip
      refine vV.iload_n dX5_leastLeft_85 rfl ?_
      refine vV.ri dX5_leastLeft_86 rfl ?_
      rw [show n = p by omega, hr]; exact ⟨rfl, rfl, rfl⟩
    · skip
      have f1 := hf1 (by omega)
      refine vV.aload_n dX5_leastLeft_17 rfl ?_
      refine vV.getr dX5_leastLeft_18 fl_X5_12 (by first | rfl | assumption) rfl (by first | assumption | exact hB _ _ _ rfl) ?_
      refine vV.getr dX5_leastLeft_21 fl_X5_55 (by first | rfl | assumption) rfl (by first | assumption | exact hB _ _ _ rfl) ?_
      refine vV.iload_n dX5_leastLeft_24 rfl ?_
      refine vV.iald dX5_leastLeft_25 (by first | rfl | assumption) (by omega) (by omega) ?_
      refine vV.if_le (tgt := 79) dX5_leastLeft_26 (by decide) (fun h26 => ?_) (fun h26 => ?_)
      · skip
        rw [keep (Or.inl (by rw [hSd]; simp; omega)), pOr_s] at ih
        refine vV.iinc (L' := [_, _, _, _, _]) dX5_leastLeft_79 (by decide) rfl (⟨by omega, by omega⟩) rfl ?_
        refine vV.goto (tgt := 6) dX5_leastLeft_82 (by decide) ?_
        exact ih (by omega) _ _ (fun b' hb => by cases hb; first | exact hyb | (rw [hvd]; rfl))
      · skip
        refine vV.aload_n dX5_leastLeft_29 rfl ?_
        refine vV.getr dX5_leastLeft_30 fl_X5_12 (by first | rfl | assumption) rfl (by first | assumption | exact hB _ _ _ rfl) ?_
        refine vV.getr dX5_leastLeft_33 fl_X5_102 (by first | rfl | assumption) rfl (by first | assumption | exact hB _ _ _ rfl) ?_
        refine vV.iload_n dX5_leastLeft_36 rfl ?_
        refine vV.iald dX5_leastLeft_37 (by first | rfl | assumption) (by omega) (by omega) ?_
        refine vV.if_le (tgt := 79) dX5_leastLeft_38 (by decide) (fun h38 => ?_) (fun h38 => ?_)
        · skip
          omega
        · skip
          refine vV.aload_n dX5_leastLeft_41 rfl ?_
          refine vV.iload_n dX5_leastLeft_42 rfl ?_
          refine vV.cVi dX5_leastLeft_43 ml_X5_96 cw_X5_seen iw_X5_seen (by first | rfl | assumption) rfl (by unfold vRoom; decide) (c_X5_seen hB hW (p := p) (by omega) hl hf) rfl rfl (Nat.le_of_ble_eq_true rfl) ?_
          rintro x43 _ _ hx43 ⟨rfl, rfl, rfl⟩
          refine vV.aload_n dX5_leastLeft_46 rfl ?_
          refine vV.getr dX5_leastLeft_47 fl_X5_12 (by first | rfl | assumption) rfl (by first | assumption | exact hB _ _ _ rfl) ?_
          refine vV.getr dX5_leastLeft_50 fl_X5_102 (by first | rfl | assumption) rfl (by first | assumption | exact hB _ _ _ rfl) ?_
          refine vV.iload_n dX5_leastLeft_53 rfl ?_
          refine vV.iald dX5_leastLeft_54 (by first | rfl | assumption) (by omega) (by omega) ?_
          have r3 := ediv_rg (y := M 33 p) r1.1 (by omega)
          refine vV.idiv dX5_leastLeft_55 (by omega) (by rw [tdiv_nn r1.1]; exact ⟨by omega, by omega⟩) ?_
          rw [tdiv_nn r1.1]
          refine vV.aload_n dX5_leastLeft_56 rfl ?_
          refine vV.iload_n dX5_leastLeft_57 rfl ?_
          refine vV.cVi dX5_leastLeft_58 ml_X5_99 cw_X5_far iw_X5_far (by first | rfl | assumption) rfl (by unfold vRoom; decide) (c_X5_far hB hW (p := p) (by omega)) rfl rfl (Nat.le_of_ble_eq_true rfl) ?_
          rintro x58 _ _ hx58 ⟨rfl, rfl, rfl⟩
          refine vV.isub dX5_leastLeft_61 (⟨by omega, by omega⟩) ?_
          refine vV.istore (L' := [_, _, _, _, _]) dX5_leastLeft_62 (by decide) rfl ?_
          refine vV.iload_n dX5_leastLeft_64 rfl ?_
          refine vV.if_lt (tgt := 74) dX5_leastLeft_65 (by decide) (fun h65 => ?_) (fun h65 => ?_)
          · skip
            omega
          · skip
            refine vV.iload dX5_leastLeft_68 rfl ?_
            refine vV.iload_n dX5_leastLeft_70 rfl ?_
            refine vV.icmp_ge (tgt := 79) dX5_leastLeft_71 (by decide) (fun h71 => ?_) (fun h71 => ?_)
            · skip
              rw [hyb] at h71
              rw [keep (Or.inr ⟨b, rfl, by rw [hvd] at h71 ⊢; exact h71⟩), pOr_s] at ih
              refine vV.iinc (L' := [_, _, _, _, _]) dX5_leastLeft_79 (by decide) rfl (⟨by omega, by omega⟩) rfl ?_
              refine vV.goto (tgt := 6) dX5_leastLeft_82 (by decide) ?_
              exact ih (by omega) _ _ (fun b' hb => by cases hb; first | exact hyb | (rw [hvd]; rfl))
            · skip
              rw [hyb] at h71
              rw [take (by rw [hSd]; simp; omega) (fun b' hb => by cases hb; rw [hvd] at h71 ⊢; exact h71), pOr_s] at ih
              refine vV.iload_n dX5_leastLeft_74 rfl ?_
              refine vV.istore_n (L' := [_, _, _, _, _]) dX5_leastLeft_75 (by decide) rfl ?_
              refine vV.iload dX5_leastLeft_76 rfl ?_
              refine vV.istore_n (L' := [_, _, _, _, _]) dX5_leastLeft_78 (by decide) rfl ?_
              refine vV.iinc (L' := [_, _, _, _, _]) dX5_leastLeft_79 (by decide) rfl (⟨by omega, by omega⟩) rfl ?_
              refine vV.goto (tgt := 6) dX5_leastLeft_82 (by decide) ?_
              exact ih (by omega) _ _ (fun b' hb => by cases hb; first | exact hyb | (rw [hvd]; rfl))
theorem c_X5_leastLeft {d : List Nat} {T : vT} {M : vM} {n : Nat} {f : Int → Int} (hB : vB T) (hW : sgW M 30 n) (hl : M 70 5 = pPack f n) (hf : ∀ j : Nat, 0 ≤ f j ∧ f j ≤ 15) : vCon m_X5_leastLeft d d [vR 70] T M (vPi fun r T1 M1 => r = pOr (-1) (pLeft n (M 31) (M 33) (M 34) f (M 35 0)) ∧ T = T1 ∧ M = M1) := by
  refine vCon.of (by decide) rfl rfl (Nat.le_of_ble_eq_true rfl) ?_
  have h := l_X5_leastLeft (d := d) hB hW hl hf _ rfl _ rfl 0 (by omega)
  refine vV.iconst dX5_leastLeft_0 (by decide) ?_
  refine vV.istore_n (L' := [_, _, _, _, _]) dX5_leastLeft_1 (by decide) rfl ?_
  refine vV.iconst dX5_leastLeft_2 (by decide) ?_
  refine vV.istore_n (L' := [_, _, _, _, _]) dX5_leastLeft_3 (by decide) rfl ?_
  refine vV.iconst dX5_leastLeft_4 (by decide) ?_
  refine vV.istore_n (L' := [_, _, _, _, _]) dX5_leastLeft_5 (by decide) rfl ?_
  exact h _ _ (fun b hb => nomatch hb)
