/-! ===== own: the class's walker: act; the walk by a rule ===== -/
theorem c_X5_act {d : List Nat} {T : vT} {M : vM} {n t : Nat} {g l : Option Nat} {y : Int} (hB : vB T) (hS : wS M n t g l) (htt : t < 600) (hc : pCan n (M 31) (M 34) (M 35 0) y = true) :
    vCon m_X5_act d d [vR 70, vI y] T M (vPv fun T1 M1 => T = T1 ∧ wTick M M1 n t g y ∧ wS M1 n (t + 1) (pGo (M 31) (M 32) (pWind n (M 31) (M 32) (M 34) (M 35 0) (M 35 1) y) (M 35 0) (M 35 2) y g (M 70 3)).1 l) := by
  have hS2 := hS
  obtain ⟨s1, s2, s3, s4, s5, s6, s7⟩ := hS2
  have hn := s1.le
  refine vCon.of (by decide) rfl rfl (Nat.le_of_ble_eq_true rfl) ?_
  refine vV.aload_n dX5_act_0 rfl ?_
  refine vV.getr dX5_act_1 fl_X5_12 (by first | rfl | assumption) rfl (by first | assumption | exact hB _ _ _ rfl) ?_
  refine vV.iload_n dX5_act_4 rfl ?_
  refine vV.cVv dX5_act_5 ml_X5_65 cw_X3_move iw_X3_move (by first | rfl | assumption) rfl (by unfold vRoom; decide) (c_X3_move sgK_30 (sgT_30 hB) s1) rfl rfl (Nat.le_of_ble_eq_true rfl) ?_
  rintro _ _ ⟨rfl, rfl⟩
  obtain ⟨N, hN⟩ : ∃ N, N = sgMv M 30 n y := ⟨_, rfl⟩
  rw [← hN]
  have n34 : N 34 = pWind n (M 31) (M 32) (M 34) (M 35 0) (M 35 1) y := by rw [hN]; unfold sgMv; rw [vRow_s]
  have n35 : N 35 = fSet (M 35) 0 (pMan (M 35 0) y) := by rw [hN]; unfold sgMv; rw [vRow_n (by decide), vRow_s]
  have nk : mSame [34, 35] M N := fun k hk => by simp at hk; rw [hN]; unfold sgMv; rw [vRow_n hk.1, vRow_n hk.2]
  have n70 : N 70 = M 70 := nk 70 (by decide)
  have n31 : N 31 = M 31 := nk 31 (by decide)
  have n32 : N 32 = M 32 := nk 32 (by decide)
  have n3 : y = 3 → N 35 0 = M 35 0 := fun h => by rw [n35, fSet_s, h]; rfl
  have n352 : N 35 2 = M 35 2 := by rw [n35, fSet_n (by decide)]
  have fin : ∀ K, mSame [70] N K → wSlot [2, 3] N K → (∀ q, pGo (M 31) (M 32) (pWind n (M 31) (M 32) (M 34) (M 35 0) (M 35 1) y) (M 35 0) (M 35 2) y g (M 70 3) = q → K 70 2 = pOr (-1) q.1 ∧ K 70 3 = q.2) → vV m_X5_act d d (vPv fun T1 M1 => T = T1 ∧ wTick M M1 n t g y ∧ wS M1 n (t + 1) (pGo (M 31) (M 32) (pWind n (M 31) (M 32) (M 34) (M 35 0) (M 35 1) y) (M 35 0) (M 35 2) y g (M 70 3)).1 l) 107 [some (vR 70), some (vI y)] [] d T K := fun K k1 k2 k3 =>
    l_X5_act107 hB hS htt hc (fun k hk => by rw [k1 k (by simp at hk ⊢; omega), nk k (by simp at hk ⊢; omega)]) (fun j hj => by rw [k2 j hj, n70]) (by rw [k1 34 (by decide), n34]) (by rw [k1 35 (by decide), n35]) (k3 _ rfl).1 (k3 _ rfl).2
  cases g with
  | none =>
    rw [pOr_n] at s2
    refine vV.iload_n dX5_act_8 rfl ?_
    refine vV.iconst dX5_act_9 (by decide) ?_
    refine vV.icmp_ne (tgt := 107) dX5_act_10 (by decide) (fun h10 => ?_) (fun h10 => ?_)
    · skip
      exact fin N (fun _ _ => rfl) (fun _ _ => rfl) (fun q hq => by subst hq; rw [n70]; exact ⟨s2, rfl⟩)
    · skip
      refine vV.aload_n dX5_act_13 rfl ?_
      refine vV.geti (z := 2) dX5_act_14 fl_X5_36 (by first | rfl | assumption) rfl rfl ?_
      refine vV.if_lt (tgt := 107) dX5_act_17 (by decide) (fun h17 => ?_) (fun h17 => ?_)
      · skip
        exact fin N (fun _ _ => rfl) (fun _ _ => rfl) (fun q hq => by subst hq; rw [n70]; exact ⟨s2, rfl⟩)
      · skip
        rw [n70, s2] at h17; omega
  | some p =>
    have hp := s3 p rfl
    rw [pOr_s] at s2
    have e2 : N 70 2 = (p : Int) := by rw [n70]; exact s2
    have e3 : N 70 3 = M 70 3 := by rw [n70]
    have hpat : M 35 2 ≤ 9 := s1.2.2.2.2.2.2.2.2.2.2.1.2
    refine vV.iload_n dX5_act_8 rfl ?_
    refine vV.iconst dX5_act_9 (by decide) ?_
    refine vV.icmp_ne (tgt := 107) dX5_act_10 (by decide) (fun h10 => ?_) (fun h10 => ?_)
    · skip
      refine fin N (fun _ _ => rfl) (fun _ _ => rfl) (fun q hq => ?_)
      rw [pGo_n h10] at hq
      subst hq
      exact ⟨e2, e3⟩
      skip
    · skip
      have hm := n3 h10
      refine vV.aload_n dX5_act_13 rfl ?_
      refine vV.geti (z := 2) dX5_act_14 fl_X5_36 (by first | rfl | assumption) rfl rfl ?_
      try simp (decide := true) only [vUpd_s, vUpd_nk, vUpd_ni, vRow_s, vRow_n, fSet_s, fSet_n, ne_eq, not_false_eq_true]
      refine vV.if_lt (tgt := 107) dX5_act_17 (by decide) (fun h17 => ?_) (fun h17 => ?_)
      · skip
        rw [e2] at h17; omega
      · skip
        refine vV.aload_n dX5_act_20 rfl ?_
        refine vV.getr dX5_act_21 fl_X5_12 (by first | rfl | assumption) rfl (by first | assumption | exact hB _ _ _ rfl) ?_
        try simp (decide := true) only [vUpd_s, vUpd_nk, vUpd_ni, vRow_s, vRow_n, fSet_s, fSet_n, ne_eq, not_false_eq_true]
        refine vV.getr dX5_act_24 fl_X5_62 (by first | rfl | assumption) rfl (by first | assumption | exact hB _ _ _ rfl) ?_
        try simp (decide := true) only [vUpd_s, vUpd_nk, vUpd_ni, vRow_s, vRow_n, fSet_s, fSet_n, ne_eq, not_false_eq_true]
        refine vV.aload_n dX5_act_27 rfl ?_
        refine vV.geti (z := 2) dX5_act_28 fl_X5_36 (by first | rfl | assumption) rfl rfl ?_
        try simp (decide := true) only [vUpd_s, vUpd_nk, vUpd_ni, vRow_s, vRow_n, fSet_s, fSet_n, ne_eq, not_false_eq_true]
        rw [e2]
        refine vV.iald dX5_act_31 (by first | rfl | assumption) (by omega) (by omega) ?_
        try simp (decide := true) only [vUpd_s, vUpd_nk, vUpd_ni, vRow_s, vRow_n, fSet_s, fSet_n, ne_eq, not_false_eq_true]
        refine vV.aload_n dX5_act_32 rfl ?_
        refine vV.getr dX5_act_33 fl_X5_12 (by first | rfl | assumption) rfl (by first | assumption | exact hB _ _ _ rfl) ?_
        try simp (decide := true) only [vUpd_s, vUpd_nk, vUpd_ni, vRow_s, vRow_n, fSet_s, fSet_n, ne_eq, not_false_eq_true]
        refine vV.getr dX5_act_36 fl_X5_52 (by first | rfl | assumption) rfl (by first | assumption | exact hB _ _ _ rfl) ?_
        try simp (decide := true) only [vUpd_s, vUpd_nk, vUpd_ni, vRow_s, vRow_n, fSet_s, fSet_n, ne_eq, not_false_eq_true]
        refine vV.iconst dX5_act_39 (by decide) ?_
        refine vV.iald dX5_act_40 (by first | rfl | assumption) (by omega) (by omega) ?_
        try simp (decide := true) only [vUpd_s, vUpd_nk, vUpd_ni, vRow_s, vRow_n, fSet_s, fSet_n, ne_eq, not_false_eq_true]
        rw [n31, hm]
        refine vV.icmp_ne (tgt := 107) dX5_act_41 (by decide) (fun h41 => ?_) (fun h41 => ?_)
        · skip
          refine fin N (fun _ _ => rfl) (fun _ _ => rfl) (fun q hq => ?_)
          unfold pGo at hq
          simp only at hq
          rw [if_neg (fun z => h41 z.2)] at hq
          subst hq
          exact ⟨e2, e3⟩
          skip
        · skip
          refine vV.aload_n dX5_act_44 rfl ?_
          refine vV.dup dX5_act_45 rfl ?_
          refine vV.geti (z := 3) dX5_act_46 fl_X5_39 (by first | rfl | assumption) rfl rfl ?_
          try simp (decide := true) only [vUpd_s, vUpd_nk, vUpd_ni, vRow_s, vRow_n, fSet_s, fSet_n, ne_eq, not_false_eq_true]
          refine vV.iconst dX5_act_49 (by decide) ?_
          refine vV.iadd dX5_act_50 (⟨by omega, by omega⟩) ?_
          refine vV.puti (z := 3) dX5_act_51 fl_X5_39 (by first | rfl | assumption) rfl rfl ?_
          refine vV.aload_n dX5_act_54 rfl ?_
          refine vV.getr dX5_act_55 fl_X5_12 (by first | rfl | assumption) rfl (by first | assumption | exact hB _ _ _ rfl) ?_
          try simp (decide := true) only [vUpd_s, vUpd_nk, vUpd_ni, vRow_s, vRow_n, fSet_s, fSet_n, ne_eq, not_false_eq_true]
          refine vV.getr dX5_act_58 fl_X5_55 (by first | rfl | assumption) rfl (by first | assumption | exact hB _ _ _ rfl) ?_
          try simp (decide := true) only [vUpd_s, vUpd_nk, vUpd_ni, vRow_s, vRow_n, fSet_s, fSet_n, ne_eq, not_false_eq_true]
          refine vV.aload_n dX5_act_61 rfl ?_
          refine vV.geti (z := 2) dX5_act_62 fl_X5_36 (by first | rfl | assumption) rfl rfl ?_
          try simp (decide := true) only [vUpd_s, vUpd_nk, vUpd_ni, vRow_s, vRow_n, fSet_s, fSet_n, ne_eq, not_false_eq_true]
          rw [e2]
          refine vV.iald dX5_act_65 (by first | rfl | assumption) (by omega) (by omega) ?_
          try simp (decide := true) only [vUpd_s, vUpd_nk, vUpd_ni, vRow_s, vRow_n, fSet_s, fSet_n, ne_eq, not_false_eq_true]
          refine vV.aload_n dX5_act_66 rfl ?_
          refine vV.getr dX5_act_67 fl_X5_12 (by first | rfl | assumption) rfl (by first | assumption | exact hB _ _ _ rfl) ?_
          try simp (decide := true) only [vUpd_s, vUpd_nk, vUpd_ni, vRow_s, vRow_n, fSet_s, fSet_n, ne_eq, not_false_eq_true]
          refine vV.getr dX5_act_70 fl_X5_69 (by first | rfl | assumption) rfl (by first | assumption | exact hB _ _ _ rfl) ?_
          try simp (decide := true) only [vUpd_s, vUpd_nk, vUpd_ni, vRow_s, vRow_n, fSet_s, fSet_n, ne_eq, not_false_eq_true]
          refine vV.aload_n dX5_act_73 rfl ?_
          refine vV.geti (z := 2) dX5_act_74 fl_X5_36 (by first | rfl | assumption) rfl rfl ?_
          try simp (decide := true) only [vUpd_s, vUpd_nk, vUpd_ni, vRow_s, vRow_n, fSet_s, fSet_n, ne_eq, not_false_eq_true]
          rw [e2]
          refine vV.iald dX5_act_77 (by first | rfl | assumption) (by omega) (by omega) ?_
          try simp (decide := true) only [vUpd_s, vUpd_nk, vUpd_ni, vRow_s, vRow_n, fSet_s, fSet_n, ne_eq, not_false_eq_true]
          rw [n34, n32]
          refine vV.icmp_eq (tgt := 97) dX5_act_78 (by decide) (fun h78 => ?_) (fun h78 => ?_)
          · skip
            have hgo : pGo (M 31) (M 32) (pWind n (M 31) (M 32) (M 34) (M 35 0) (M 35 1) y) (M 35 0) (M 35 2) y (some p) (M 70 3) = (none, 0) := by { unfold pGo; simp only; rw [if_pos ⟨h10, h41⟩, if_pos (Or.inl h78)] }
            refine vV.aload_n dX5_act_97 rfl ?_
            refine vV.iconst dX5_act_98 (by decide) ?_
            refine vV.puti (z := 2) dX5_act_99 fl_X5_36 (by first | rfl | assumption) rfl rfl ?_
            refine vV.aload_n dX5_act_102 rfl ?_
            refine vV.iconst dX5_act_103 (by decide) ?_
            refine vV.puti (z := 3) dX5_act_104 fl_X5_39 (by first | rfl | assumption) rfl rfl ?_
            refine fin _ (fun k hk => by simp at hk; funext j; simp [vUpd, hk]) (fun j hj => by simp at hj; simp [vUpd, hj]) (fun q hq => ?_)
            rw [hgo] at hq
            subst hq
            simp [vUpd, e2, e3, pOr]
          · skip
            refine vV.aload_n dX5_act_81 rfl ?_
            refine vV.geti (z := 3) dX5_act_82 fl_X5_39 (by first | rfl | assumption) rfl rfl ?_
            try simp (decide := true) only [vUpd_s, vUpd_nk, vUpd_ni, vRow_s, vRow_n, fSet_s, fSet_n, ne_eq, not_false_eq_true]
            refine vV.aload_n dX5_act_85 rfl ?_
            refine vV.getr dX5_act_86 fl_X5_12 (by first | rfl | assumption) rfl (by first | assumption | exact hB _ _ _ rfl) ?_
            try simp (decide := true) only [vUpd_s, vUpd_nk, vUpd_ni, vRow_s, vRow_n, fSet_s, fSet_n, ne_eq, not_false_eq_true]
            refine vV.getr dX5_act_89 fl_X5_52 (by first | rfl | assumption) rfl (by first | assumption | exact hB _ _ _ rfl) ?_
            try simp (decide := true) only [vUpd_s, vUpd_nk, vUpd_ni, vRow_s, vRow_n, fSet_s, fSet_n, ne_eq, not_false_eq_true]
            refine vV.iconst dX5_act_92 (by decide) ?_
            refine vV.iald dX5_act_93 (by first | rfl | assumption) (by omega) (by omega) ?_
            try simp (decide := true) only [vUpd_s, vUpd_nk, vUpd_ni, vRow_s, vRow_n, fSet_s, fSet_n, ne_eq, not_false_eq_true]
            refine vV.icmp_lt (tgt := 107) dX5_act_94 (by decide) (fun h94 => ?_) (fun h94 => ?_)
            · skip
              rw [e3, n352] at h94
              have hgo : pGo (M 31) (M 32) (pWind n (M 31) (M 32) (M 34) (M 35 0) (M 35 1) y) (M 35 0) (M 35 2) y (some p) (M 70 3) = (some p, M 70 3 + 1) := by { unfold pGo; simp only; rw [if_pos ⟨h10, h41⟩, if_neg (fun z => z.elim h78 (fun z2 => by omega))] }
              refine fin _ (fun k hk => by simp at hk; funext j; simp [vUpd, hk]) (fun j hj => by simp at hj; simp [vUpd, hj]) (fun q hq => ?_)
              rw [hgo] at hq
              subst hq
              simp [vUpd, e2, e3, pOr]
            · skip
              rw [e3, n352] at h94
              have hgo : pGo (M 31) (M 32) (pWind n (M 31) (M 32) (M 34) (M 35 0) (M 35 1) y) (M 35 0) (M 35 2) y (some p) (M 70 3) = (none, 0) := by { unfold pGo; simp only; rw [if_pos ⟨h10, h41⟩, if_pos (Or.inr (by omega))] }
              refine vV.aload_n dX5_act_97 rfl ?_
              refine vV.iconst dX5_act_98 (by decide) ?_
              refine vV.puti (z := 2) dX5_act_99 fl_X5_36 (by first | rfl | assumption) rfl rfl ?_
              refine vV.aload_n dX5_act_102 rfl ?_
              refine vV.iconst dX5_act_103 (by decide) ?_
              refine vV.puti (z := 3) dX5_act_104 fl_X5_39 (by first | rfl | assumption) rfl rfl ?_
              refine fin _ (fun k hk => by simp at hk; funext j; simp [vUpd, hk]) (fun j hj => by simp at hj; simp [vUpd, hj]) (fun q hq => ?_)
              rw [hgo] at hq
              subst hq
              simp [vUpd, e2, e3, pOr]
