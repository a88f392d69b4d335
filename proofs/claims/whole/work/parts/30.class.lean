/-! ===== own: the class: within, isRule, orNone, lasts, at, round ===== -/
theorem dX6_within_0 : decode cX6_within 0 = .ok (.iload_n 0, 1) := by decide +kernel
theorem dX6_within_1 : decode cX6_within 1 = .ok (.iload_n 1, 1) := by decide +kernel
theorem dX6_within_2 : decode cX6_within 2 = .ok (.if_icmp .lt 12, 3) := by decide +kernel
theorem dX6_within_5 : decode cX6_within 5 = .ok (.iload_n 0, 1) := by decide +kernel
theorem dX6_within_6 : decode cX6_within 6 = .ok (.iload_n 2, 1) := by decide +kernel
theorem dX6_within_7 : decode cX6_within 7 = .ok (.if_icmp .gt 7, 3) := by decide +kernel
theorem dX6_within_10 : decode cX6_within 10 = .ok (.iconst 1, 1) := by decide +kernel
theorem dX6_within_11 : decode cX6_within 11 = .ok (.goto 4, 3) := by decide +kernel
theorem dX6_within_14 : decode cX6_within 14 = .ok (.iconst 0, 1) := by decide +kernel
theorem dX6_within_15 : decode cX6_within 15 = .ok (.ireturn, 1) := by decide +kernel
theorem c_X6_within {d : List Nat} {T : vT} {M : vM} {x a b : Int} : vCon m_X6_within d d [vI x, vI a, vI b] T M (vPi fun y T1 M1 => y = (if a ≤ x ∧ x ≤ b then 1 else 0) ∧ T = T1 ∧ M = M1) := by
  refine vCon.of (by decide) rfl rfl (Nat.le_of_ble_eq_true rfl) ?_
  refine vV.iload_n dX6_within_0 rfl ?_
  refine vV.iload_n dX6_within_1 rfl ?_
  refine vV.icmp_lt (tgt := 14) dX6_within_2 (by decide) (fun h2 => ?_) (fun h2 => ?_)
  · skip
    refine vV.iconst dX6_within_14 (by decide) ?_
    refine vV.rz dX6_within_15 rfl (by first | exact Or.inl rfl | exact Or.inr rfl | assumption) ?_
    refine ⟨?_, rfl, rfl⟩
    first | rw [if_pos (by omega)] | rw [if_neg (by omega)]
  · skip
    refine vV.iload_n dX6_within_5 rfl ?_
    refine vV.iload_n dX6_within_6 rfl ?_
    refine vV.icmp_gt (tgt := 14) dX6_within_7 (by decide) (fun h7 => ?_) (fun h7 => ?_)
    · skip
      refine vV.iconst dX6_within_14 (by decide) ?_
      refine vV.rz dX6_within_15 rfl (by first | exact Or.inl rfl | exact Or.inr rfl | assumption) ?_
      refine ⟨?_, rfl, rfl⟩
      first | rw [if_pos (by omega)] | rw [if_neg (by omega)]
    · skip
      refine vV.iconst dX6_within_10 (by decide) ?_
      refine vV.goto (tgt := 15) dX6_within_11 (by decide) ?_
      refine vV.rz dX6_within_15 rfl (by first | exact Or.inl rfl | exact Or.inr rfl | assumption) ?_
      refine ⟨?_, rfl, rfl⟩
      first | rw [if_pos (by omega)] | rw [if_neg (by omega)]
theorem dX6_isRule_0 : decode cX6_isRule 0 = .ok (.iload_n 0, 1) := by decide +kernel
theorem dX6_isRule_1 : decode cX6_isRule 1 = .ok (.iconst 0, 1) := by decide +kernel
theorem dX6_isRule_2 : decode cX6_isRule 2 = .ok (.iconst 3, 1) := by decide +kernel
theorem dX6_isRule_3 : decode cX6_isRule 3 = .ok (.invokestatic 58, 3) := by decide +kernel
theorem dX6_isRule_6 : decode cX6_isRule 6 = .ok (.ireturn, 1) := by decide +kernel
theorem c_X6_isRule {d : List Nat} {T : vT} {M : vM} {r : Int} : vCon m_X6_isRule d d [vI r] T M (vPi fun y T1 M1 => y = (if 0 ≤ r ∧ r ≤ 3 then 1 else 0) ∧ T = T1 ∧ M = M1) := by
  refine vCon.of (by decide) rfl rfl (Nat.le_of_ble_eq_true rfl) ?_
  refine vV.iload_n dX6_isRule_0 rfl ?_
  refine vV.iconst dX6_isRule_1 (by decide) ?_
  refine vV.iconst dX6_isRule_2 (by decide) ?_
  refine vV.cSi dX6_isRule_3 ml_X6_58 cw_X6_within sw_X6_within (by unfold vRoom; decide) c_X6_within rfl rfl (Nat.le_of_ble_eq_true rfl) ?_
  rintro x3 _ _ hx3 ⟨rfl, rfl, rfl⟩
  refine vV.rz dX6_isRule_6 rfl (by split <;> simp) ?_
  exact ⟨rfl, rfl, rfl⟩
theorem dX6_orNone_0 : decode cX6_orNone 0 = .ok (.iload_n 0, 1) := by decide +kernel
theorem dX6_orNone_1 : decode cX6_orNone 1 = .ok (.sipush 600, 3) := by decide +kernel
theorem dX6_orNone_4 : decode cX6_orNone 4 = .ok (.if_icmp .le 8, 3) := by decide +kernel
theorem dX6_orNone_7 : decode cX6_orNone 7 = .ok (.bipush (-6), 2) := by decide +kernel
theorem dX6_orNone_9 : decode cX6_orNone 9 = .ok (.goto 4, 3) := by decide +kernel
theorem dX6_orNone_12 : decode cX6_orNone 12 = .ok (.iload_n 0, 1) := by decide +kernel
theorem dX6_orNone_13 : decode cX6_orNone 13 = .ok (.ireturn, 1) := by decide +kernel
theorem c_X6_orNone {d : List Nat} {T : vT} {M : vM} {r : Int} : vCon m_X6_orNone d d [vI r] T M (vPi fun y T1 M1 => y = (if r ≤ 600 then r else -6) ∧ T = T1 ∧ M = M1) := by
  refine vCon.of (by decide) rfl rfl (Nat.le_of_ble_eq_true rfl) ?_
  refine vV.iload_n dX6_orNone_0 rfl ?_
  refine vV.sipush (v := 600) dX6_orNone_1 (by decide) (by decide) ?_
  refine vV.icmp_le (tgt := 12) dX6_orNone_4 (by decide) (fun h4 => ?_) (fun h4 => ?_)
  · skip
    refine vV.iload_n dX6_orNone_12 rfl ?_
    refine vV.ri dX6_orNone_13 rfl ?_
    refine ⟨?_, rfl, rfl⟩
    first | rw [if_pos (by omega)] | rw [if_neg (by omega)]
  · skip
    refine vV.bipush (v := (-6)) dX6_orNone_7 (by decide) (by decide) ?_
    refine vV.goto (tgt := 13) dX6_orNone_9 (by decide) ?_
    refine vV.ri dX6_orNone_13 rfl ?_
    refine ⟨?_, rfl, rfl⟩
    first | rw [if_pos (by omega)] | rw [if_neg (by omega)]
def cP (M : vM) (n : Nat) : pP := (n, M 11, M 12, M 13, M 15 1, M 15 2)
def cS0 (M : vM) : pS := (M 15 0, M 14, none, 0, none)
def cKeepW (M M1 : vM) : Prop := mSame [30, 31, 32, 33, 34, 35, 70, 76, 77] M M1 ∧ (sgZ M 30 → sgZ M1 30)
theorem cKeepW.rf (M : vM) : cKeepW M M := ⟨fun _ _ => rfl, id⟩
theorem cKeepW.w {M M1 M2 : vM} (h1 : cKeepW M M1) (h2 : wKeep M1 M2) : cKeepW M M2 := ⟨fun k hk => (h2.1 k (by simp at hk ⊢; omega)).trans (h1.1 k hk), fun z => h2.2.2 (h1.2 z)⟩
theorem wTj_begin {M M1 : vM} {n lag : Nat} {rule : Int} (hW : sgW M 10 n) (hlag : M 15 3 = lag) (h : wBeg (sgCp M 30 10) M1 n) : wTj M1 rule (cP M n) lag (cS0 M) 0 ∧ cKeepW M M1 := by
  have hWc : sgW (sgCp M 30 10) 30 n := sgW_cp (by omega) hW
  have hs := wBeg_st hWc h
  obtain ⟨N, hN⟩ : ∃ N, N = sgCp M 30 10 := ⟨_, rfl⟩
  rw [← hN] at h hs hWc
  have n31 : N 31 = M 11 := by rw [hN]; rfl
  have n32 : N 32 = M 12 := by rw [hN]; rfl
  have n33 : N 33 = M 13 := by rw [hN]; rfl
  have n34 : N 34 = M 14 := by rw [hN]; rfl
  have n35 : N 35 = M 15 := by rw [hN]; rfl
  have nk : mSame [30, 31, 32, 33, 34, 35] M N := fun k hk => by
    simp at hk
    rw [hN]; unfold sgCp
    rw [vRow_n hk.2.2.2.2.2, vRow_n hk.2.2.2.2.1, vRow_n hk.2.2.2.1, vRow_n hk.2.2.1, vRow_n hk.2.1, vRow_n hk.1]
  obtain ⟨b1, b2, b3, b4, b5, b6, b7, b8⟩ := h
  rw [n34, n35] at hs
  have e35 : M1 35 = M 15 := by rw [b1 35 (by decide), n35]
  refine ⟨⟨?_, by rw [e35]; exact hlag, ⟨fun _ => M 14, fun i hi => by rw [show i = 0 by omega, pTr_0]; rfl, hs⟩, fun i hi => ?_⟩, fun k hk => ?_, fun _ => hs.1.1.z⟩
  · unfold wP cP; simp only; rw [b1 31 (by decide), b1 32 (by decide), b1 33 (by decide), n31, n32, n33, e35]
  · rw [b8, show (i : Int) = 0 by omega, fSet_s, show i = 0 by omega, pTr_0, n35]; rfl
  · rw [b1 k (by simp at hk ⊢; omega), nk k (by simp at hk ⊢; omega)]
theorem dX6_lasts_0 : decode cX6_lasts 0 = .ok (.iload_n 1, 1) := by decide +kernel
theorem dX6_lasts_1 : decode cX6_lasts 1 = .ok (.invokestatic 132, 3) := by decide +kernel
theorem dX6_lasts_4 : decode cX6_lasts 4 = .ok (.ifCond .ne 6, 3) := by decide +kernel
theorem dX6_lasts_7 : decode cX6_lasts 7 = .ok (.bipush (-2), 2) := by decide +kernel
theorem dX6_lasts_9 : decode cX6_lasts 9 = .ok (.ireturn, 1) := by decide +kernel
theorem dX6_lasts_10 : decode cX6_lasts 10 = .ok (.aload_n 0, 1) := by decide +kernel
theorem dX6_lasts_11 : decode cX6_lasts 11 = .ok (.getfield 10, 3) := by decide +kernel
theorem dX6_lasts_14 : decode cX6_lasts 14 = .ok (.invokevirtual 107, 3) := by decide +kernel
theorem dX6_lasts_17 : decode cX6_lasts 17 = .ok (.ifCond .ne 6, 3) := by decide +kernel
theorem dX6_lasts_20 : decode cX6_lasts 20 = .ok (.bipush (-3), 2) := by decide +kernel
theorem dX6_lasts_22 : decode cX6_lasts 22 = .ok (.ireturn, 1) := by decide +kernel
theorem dX6_lasts_23 : decode cX6_lasts 23 = .ok (.aload_n 0, 1) := by decide +kernel
theorem dX6_lasts_24 : decode cX6_lasts 24 = .ok (.getfield 33, 3) := by decide +kernel
theorem dX6_lasts_27 : decode cX6_lasts 27 = .ok (.aload_n 0, 1) := by decide +kernel
theorem dX6_lasts_28 : decode cX6_lasts 28 = .ok (.getfield 10, 3) := by decide +kernel
theorem dX6_lasts_31 : decode cX6_lasts 31 = .ok (.invokevirtual 135, 3) := by decide +kernel
theorem dX6_lasts_34 : decode cX6_lasts 34 = .ok (.aload_n 0, 1) := by decide +kernel
theorem dX6_lasts_35 : decode cX6_lasts 35 = .ok (.getfield 33, 3) := by decide +kernel
theorem dX6_lasts_38 : decode cX6_lasts 38 = .ok (.iload_n 1, 1) := by decide +kernel
theorem dX6_lasts_39 : decode cX6_lasts 39 = .ok (.invokevirtual 138, 3) := by decide +kernel
theorem dX6_lasts_42 : decode cX6_lasts 42 = .ok (.invokestatic 141, 3) := by decide +kernel
theorem dX6_lasts_45 : decode cX6_lasts 45 = .ok (.ireturn, 1) := by decide +kernel
theorem c_X6_lasts {d : List Nat} {T : vT} {M : vM} {n lag : Nat} {rule : Int} (hB : vB T) (hW : sgW M 10 n) (hZ : sgZ M 30) (hlag : M 15 3 = lag) : vCon m_X6_lasts d d [vR 0, vI rule] T M (vPi fun r T1 M1 => T = T1 ∧ cKeepW M M1 ∧ r = rLasts rule (cP M n) lag (cS0 M) (pBits (M 14) n)) := by
  unfold rLasts
  refine vCon.of (by decide) rfl rfl (Nat.le_of_ble_eq_true rfl) ?_
  refine vV.iload_n dX6_lasts_0 rfl ?_
  refine vV.cSi dX6_lasts_1 ml_X6_132 cw_X6_isRule sw_X6_isRule (by unfold vRoom; decide) c_X6_isRule rfl rfl (Nat.le_of_ble_eq_true rfl) ?_
  rintro x1 _ _ hx1 ⟨hxe, rfl, rfl⟩
  refine vV.if_ne (tgt := 10) dX6_lasts_4 (by decide) (fun h4 => ?_) (fun h4 => ?_)
  · skip
    have hir : 0 ≤ rule ∧ rule ≤ 3 := by { rcases Decidable.em (0 ≤ rule ∧ rule ≤ 3) with z | z; exact z; rw [hxe, if_neg z] at h4; omega }
    rw [if_neg (by omega)]
    refine vV.aload_n dX6_lasts_10 rfl ?_
    refine vV.getr dX6_lasts_11 fl_X6_10 (by first | rfl | assumption) rfl (by first | assumption | exact hB _ _ _ rfl) ?_
    refine vV.cVi dX6_lasts_14 ml_X6_107 cw_X3_standing iw_X3_standing (by first | rfl | assumption) rfl (by unfold vRoom; decide) (c_X3_standing sgK_10 (sgT_10 hB) hW.cnt hW.le) rfl rfl (Nat.le_of_ble_eq_true rfl) ?_
    rintro x14 _ _ hx14 ⟨rfl, rfl, rfl⟩
    rw [show (10 : Nat) + 4 = 14 from rfl]
    refine vV.if_ne (tgt := 23) dX6_lasts_17 (by decide) (fun h17 => ?_) (fun h17 => ?_)
    · skip
      rw [if_neg h17]
      refine vV.aload_n dX6_lasts_23 rfl ?_
      refine vV.getr dX6_lasts_24 fl_X6_33 (by first | rfl | assumption) rfl (by first | assumption | exact hB _ _ _ rfl) ?_
      refine vV.aload_n dX6_lasts_27 rfl ?_
      refine vV.getr dX6_lasts_28 fl_X6_10 (by first | rfl | assumption) rfl (by first | assumption | exact hB _ _ _ rfl) ?_
      refine vV.cVv dX6_lasts_31 ml_X6_135 cw_X5_begin iw_X5_begin (by first | rfl | assumption) rfl (by unfold vRoom; decide) (c_X5_begin hB hZ hW) rfl rfl (Nat.le_of_ble_eq_true rfl) ?_
      rintro _ N ⟨rfl, hb⟩
      obtain ⟨hj, hk⟩ := wTj_begin (rule := rule) hW hlag hb
      refine vV.aload_n dX6_lasts_34 rfl ?_
      refine vV.getr dX6_lasts_35 fl_X6_33 (by first | rfl | assumption) rfl (by first | assumption | exact hB _ _ _ rfl) ?_
      refine vV.iload_n dX6_lasts_38 rfl ?_
      refine vV.cVi dX6_lasts_39 ml_X6_138 cw_X5_ticksToFirstFall iw_X5_ticksToFirstFall (by first | rfl | assumption) rfl (by unfold vRoom; decide) (c_X5_ticksToFirstFall hB hir.1 hir.2 hj) rfl rfl (Nat.le_of_ble_eq_true rfl) ?_
      rintro x39 _ N1 hx39 ⟨rfl, hk1, hre⟩
      refine vV.cSi dX6_lasts_42 ml_X6_141 cw_X6_orNone sw_X6_orNone (by unfold vRoom; decide) c_X6_orNone rfl rfl (Nat.le_of_ble_eq_true rfl) ?_
      rintro x42 _ _ hx42 ⟨hrf, rfl, rfl⟩
      refine vV.ri dX6_lasts_45 rfl ?_
      refine ⟨rfl, hk.w hk1, ?_⟩; rw [hrf, hre]; cases hq : pLasts rule (cP M n) lag (cS0 M) with | none => rfl | some q => (rw [pOr_s, pOr_s, if_pos (by unfold pLasts at hq; cases hz : pFind (pFell rule (cP M n) lag (cS0 M)) 600 with | none => (rw [hz] at hq; cases hq) | some z => (rw [hz] at hq; cases hq; have := (pFind_some hz).1; show ((z + 1 : Nat) : Int) ≤ 600; omega))])
    · skip
      rw [if_pos h17]
      refine vV.bipush (v := (-3)) dX6_lasts_20 (by decide) (by decide) ?_
      refine vV.ri dX6_lasts_22 rfl ?_
      exact ⟨rfl, cKeepW.rf M, rfl⟩
  · skip
    have hnr : ¬ (0 ≤ rule ∧ rule ≤ 3) := by { intro z; rw [hxe, if_pos z] at h4; omega }
    rw [if_pos hnr]
    refine vV.bipush (v := (-2)) dX6_lasts_7 (by decide) (by decide) ?_
    refine vV.ri dX6_lasts_9 rfl ?_
    exact ⟨rfl, cKeepW.rf M, rfl⟩
