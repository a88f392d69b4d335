/-! ===== own: the reference: say, wipe, tick ===== -/
theorem dX7_thingOf_0 : decode cX7_thingOf 0 = .ok (.iload_n 0, 1) := by decide +kernel
theorem dX7_thingOf_1 : decode cX7_thingOf 1 = .ok (.bipush 46, 2) := by decide +kernel
theorem dX7_thingOf_3 : decode cX7_thingOf 3 = .ok (.if_icmp .ne 7, 3) := by decide +kernel
theorem dX7_thingOf_6 : decode cX7_thingOf 6 = .ok (.iconst 0, 1) := by decide +kernel
theorem dX7_thingOf_7 : decode cX7_thingOf 7 = .ok (.goto 35, 3) := by decide +kernel
theorem dX7_thingOf_10 : decode cX7_thingOf 10 = .ok (.iload_n 0, 1) := by decide +kernel
theorem dX7_thingOf_11 : decode cX7_thingOf 11 = .ok (.bipush 60, 2) := by decide +kernel
theorem dX7_thingOf_13 : decode cX7_thingOf 13 = .ok (.if_icmp .ne 7, 3) := by decide +kernel
theorem dX7_thingOf_16 : decode cX7_thingOf 16 = .ok (.iconst 1, 1) := by decide +kernel
theorem dX7_thingOf_17 : decode cX7_thingOf 17 = .ok (.goto 25, 3) := by decide +kernel
theorem dX7_thingOf_20 : decode cX7_thingOf 20 = .ok (.iload_n 0, 1) := by decide +kernel
theorem dX7_thingOf_21 : decode cX7_thingOf 21 = .ok (.bipush 62, 2) := by decide +kernel
theorem dX7_thingOf_23 : decode cX7_thingOf 23 = .ok (.if_icmp .ne 7, 3) := by decide +kernel
theorem dX7_thingOf_26 : decode cX7_thingOf 26 = .ok (.iconst 2, 1) := by decide +kernel
theorem dX7_thingOf_27 : decode cX7_thingOf 27 = .ok (.goto 15, 3) := by decide +kernel
theorem dX7_thingOf_30 : decode cX7_thingOf 30 = .ok (.iload_n 0, 1) := by decide +kernel
theorem dX7_thingOf_31 : decode cX7_thingOf 31 = .ok (.bipush 119, 2) := by decide +kernel
theorem dX7_thingOf_33 : decode cX7_thingOf 33 = .ok (.if_icmp .ne 7, 3) := by decide +kernel
theorem dX7_thingOf_36 : decode cX7_thingOf 36 = .ok (.iconst 3, 1) := by decide +kernel
theorem dX7_thingOf_37 : decode cX7_thingOf 37 = .ok (.goto 5, 3) := by decide +kernel
theorem dX7_thingOf_40 : decode cX7_thingOf 40 = .ok (.bipush (-6), 2) := by decide +kernel
theorem dX7_thingOf_42 : decode cX7_thingOf 42 = .ok (.ireturn, 1) := by decide +kernel
theorem c_X7_thingOf {d : List Nat} {T : vT} {M : vM} {c : Int} : vCon m_X7_thingOf d d [vI c] T M (vPi fun r T1 M1 => r = (if pTh c < 0 then -6 else pTh c) ∧ T = T1 ∧ M = M1) := by
  refine vCon.of (by decide) rfl rfl (Nat.le_of_ble_eq_true rfl) ?_
  refine vV.iload_n dX7_thingOf_0 rfl ?_
  refine vV.bipush (v := 46) dX7_thingOf_1 (by decide) (by decide) ?_
  refine vV.icmp_ne (tgt := 10) dX7_thingOf_3 (by decide) (fun h3 => ?_) (fun h3 => ?_)
  · skip
    refine vV.iload_n dX7_thingOf_10 rfl ?_
    refine vV.bipush (v := 60) dX7_thingOf_11 (by decide) (by decide) ?_
    refine vV.icmp_ne (tgt := 20) dX7_thingOf_13 (by decide) (fun h13 => ?_) (fun h13 => ?_)
    · skip
      refine vV.iload_n dX7_thingOf_20 rfl ?_
      refine vV.bipush (v := 62) dX7_thingOf_21 (by decide) (by decide) ?_
      refine vV.icmp_ne (tgt := 30) dX7_thingOf_23 (by decide) (fun h23 => ?_) (fun h23 => ?_)
      · skip
        refine vV.iload_n dX7_thingOf_30 rfl ?_
        refine vV.bipush (v := 119) dX7_thingOf_31 (by decide) (by decide) ?_
        refine vV.icmp_ne (tgt := 40) dX7_thingOf_33 (by decide) (fun h33 => ?_) (fun h33 => ?_)
        · skip
          have e : pTh c = -1 := by { unfold pTh; rw [if_neg h3, if_neg h13, if_neg h23, if_neg h33] }
          refine vV.bipush (v := (-6)) dX7_thingOf_40 (by decide) (by decide) ?_
          refine vV.ri dX7_thingOf_42 rfl ?_
          refine ⟨?_, rfl, rfl⟩; rw [e]; rfl
        · skip
          have e : pTh c = 3 := by { unfold pTh; rw [if_neg h3, if_neg h13, if_neg h23, if_pos h33] }
          refine vV.iconst dX7_thingOf_36 (by decide) ?_
          refine vV.goto (tgt := 42) dX7_thingOf_37 (by decide) ?_
          refine vV.ri dX7_thingOf_42 rfl ?_
          refine ⟨?_, rfl, rfl⟩; rw [e]; rfl
      · skip
        have e : pTh c = 2 := by { unfold pTh; rw [if_neg h3, if_neg h13, if_pos h23] }
        refine vV.iconst dX7_thingOf_26 (by decide) ?_
        refine vV.goto (tgt := 42) dX7_thingOf_27 (by decide) ?_
        refine vV.ri dX7_thingOf_42 rfl ?_
        refine ⟨?_, rfl, rfl⟩; rw [e]; rfl
    · skip
      have e : pTh c = 1 := by { unfold pTh; rw [if_neg h3, if_pos h13] }
      refine vV.iconst dX7_thingOf_16 (by decide) ?_
      refine vV.goto (tgt := 42) dX7_thingOf_17 (by decide) ?_
      refine vV.ri dX7_thingOf_42 rfl ?_
      refine ⟨?_, rfl, rfl⟩; rw [e]; rfl
  · skip
    have e : pTh c = 0 := by { unfold pTh; rw [if_pos h3] }
    refine vV.iconst dX7_thingOf_6 (by decide) ?_
    refine vV.goto (tgt := 42) dX7_thingOf_7 (by decide) ?_
    refine vV.ri dX7_thingOf_42 rfl ?_
    refine ⟨?_, rfl, rfl⟩; rw [e]; rfl
theorem dX7_say_0 : decode cX7_say 0 = .ok (.iload_n 1, 1) := by decide +kernel
theorem dX7_say_1 : decode cX7_say 1 = .ok (.i2l, 1) := by decide +kernel
theorem dX7_say_2 : decode cX7_say 2 = .ok (.ldc2_w 189, 3) := by decide +kernel
theorem dX7_say_5 : decode cX7_say 5 = .ok (.ldc2_w 191, 3) := by decide +kernel
theorem dX7_say_8 : decode cX7_say 8 = .ok (.invokestatic 92, 3) := by decide +kernel
theorem dX7_say_11 : decode cX7_say 11 = .ok (.ifCond .ne 6, 3) := by decide +kernel
theorem dX7_say_14 : decode cX7_say 14 = .ok (.bipush (-2), 2) := by decide +kernel
theorem dX7_say_16 : decode cX7_say 16 = .ok (.ireturn, 1) := by decide +kernel
theorem dX7_say_17 : decode cX7_say 17 = .ok (.aload_n 0, 1) := by decide +kernel
theorem dX7_say_18 : decode cX7_say 18 = .ok (.getfield 193, 3) := by decide +kernel
theorem dX7_say_21 : decode cX7_say 21 = .ok (.bipush 40, 2) := by decide +kernel
theorem dX7_say_23 : decode cX7_say 23 = .ok (.if_icmp .ne 6, 3) := by decide +kernel
theorem dX7_say_26 : decode cX7_say 26 = .ok (.bipush (-4), 2) := by decide +kernel
theorem dX7_say_28 : decode cX7_say 28 = .ok (.ireturn, 1) := by decide +kernel
theorem dX7_say_29 : decode cX7_say 29 = .ok (.aload_n 0, 1) := by decide +kernel
theorem dX7_say_30 : decode cX7_say 30 = .ok (.getfield 34, 3) := by decide +kernel
theorem dX7_say_33 : decode cX7_say 33 = .ok (.aload_n 0, 1) := by decide +kernel
theorem dX7_say_34 : decode cX7_say 34 = .ok (.getfield 193, 3) := by decide +kernel
theorem dX7_say_37 : decode cX7_say 37 = .ok (.iload_n 1, 1) := by decide +kernel
theorem dX7_say_38 : decode cX7_say 38 = .ok (.iastore, 1) := by decide +kernel
theorem dX7_say_39 : decode cX7_say 39 = .ok (.aload_n 0, 1) := by decide +kernel
theorem dX7_say_40 : decode cX7_say 40 = .ok (.dup, 1) := by decide +kernel
theorem dX7_say_41 : decode cX7_say 41 = .ok (.getfield 193, 3) := by decide +kernel
theorem dX7_say_44 : decode cX7_say 44 = .ok (.iconst 1, 1) := by decide +kernel
theorem dX7_say_45 : decode cX7_say 45 = .ok (.iadd, 1) := by decide +kernel
theorem dX7_say_46 : decode cX7_say 46 = .ok (.putfield 193, 3) := by decide +kernel
theorem dX7_say_49 : decode cX7_say 49 = .ok (.aload_n 0, 1) := by decide +kernel
theorem dX7_say_50 : decode cX7_say 50 = .ok (.getfield 193, 3) := by decide +kernel
theorem dX7_say_53 : decode cX7_say 53 = .ok (.ireturn, 1) := by decide +kernel
theorem c_X7_say {d : List Nat} {T : vT} {M : vM} {m : Nat} {c : Int} (hB : vB T) (hm : M 200 20 = m) (hle : m ≤ 40) : vCon m_X7_say d d [vR 200, vI c] T M (vPi fun r T1 M1 => T = T1 ∧ r = pSayR m c ∧ M1 = (if 0 ≤ pSayR m c then vUpd (vUpd M 220 m c) 200 20 (m + 1) else M)) := by
  refine vCon.of (by decide) rfl rfl (Nat.le_of_ble_eq_true rfl) ?_
  refine vV.iload_n dX7_say_0 rfl ?_
  refine vV.i2l dX7_say_1 ?_
  refine vV.ldc2 (v := 33) dX7_say_2 kl_X7_189 (by decide) (by decide) ?_
  refine vV.ldc2 (v := 126) dX7_say_5 kl_X7_191 (by decide) (by decide) ?_
  refine vV.cSi dX7_say_8 ml_X7_92 cw_X7_in sw_X7_in (by unfold vRoom; decide) c_X7_in rfl rfl (Nat.le_of_ble_eq_true rfl) ?_
  rintro x8 _ _ hx8 ⟨hy8, rfl, rfl⟩
  unfold pIn at hy8
  refine vV.if_ne (tgt := 17) dX7_say_11 (by decide) (fun h11 => ?_) (fun h11 => ?_)
  · skip
    have g1 := yes01 hy8 h11
    refine vV.aload_n dX7_say_17 rfl ?_
    refine vV.geti (z := 20) dX7_say_18 fl_X7_193 (by first | rfl | assumption) rfl rfl ?_
    try simp (decide := true) only [vUpd_s, vUpd_nk, vUpd_ni, vRow_s, vRow_n, fSet_s, fSet_n, ne_eq, not_false_eq_true]
    refine vV.bipush (v := 40) dX7_say_21 (by decide) (by decide) ?_
    refine vV.icmp_ne (tgt := 29) dX7_say_23 (by decide) (fun h23 => ?_) (fun h23 => ?_)
    · skip
      have e2 : pSayR m c = (m : Int) + 1 := by { unfold pSayR; rw [if_neg (fun c => c g1), if_pos (by omega)] }
      refine vV.aload_n dX7_say_29 rfl ?_
      refine vV.getr dX7_say_30 fl_X7_34 (by first | rfl | assumption) rfl (by first | assumption | exact hB _ _ _ rfl) ?_
      try simp (decide := true) only [vUpd_s, vUpd_nk, vUpd_ni, vRow_s, vRow_n, fSet_s, fSet_n, ne_eq, not_false_eq_true]
      refine vV.aload_n dX7_say_33 rfl ?_
      refine vV.geti (z := 20) dX7_say_34 fl_X7_193 (by first | rfl | assumption) rfl rfl ?_
      try simp (decide := true) only [vUpd_s, vUpd_nk, vUpd_ni, vRow_s, vRow_n, fSet_s, fSet_n, ne_eq, not_false_eq_true]
      refine vV.iload_n dX7_say_37 rfl ?_
      rw [hm]
      refine vV.iast dX7_say_38 (by first | rfl | assumption) (by omega) (by omega) ?_
      refine vV.aload_n dX7_say_39 rfl ?_
      refine vV.dup dX7_say_40 rfl ?_
      refine vV.geti (z := 20) dX7_say_41 fl_X7_193 (by first | rfl | assumption) rfl rfl ?_
      try simp (decide := true) only [vUpd_s, vUpd_nk, vUpd_ni, vRow_s, vRow_n, fSet_s, fSet_n, ne_eq, not_false_eq_true]
      refine vV.iconst dX7_say_44 (by decide) ?_
      rw [hm]
      refine vV.iadd dX7_say_45 (⟨by omega, by omega⟩) ?_
      refine vV.puti (z := 20) dX7_say_46 fl_X7_193 (by first | rfl | assumption) rfl rfl ?_
      refine vV.aload_n dX7_say_49 rfl ?_
      refine vV.geti (z := 20) dX7_say_50 fl_X7_193 (by first | rfl | assumption) rfl rfl ?_
      try simp (decide := true) only [vUpd_s, vUpd_nk, vUpd_ni, vRow_s, vRow_n, fSet_s, fSet_n, ne_eq, not_false_eq_true]
      refine vV.ri dX7_say_53 rfl ?_
      exact ⟨rfl, e2.symm, by rw [e2, if_pos (by omega)]⟩
    · skip
      have e2 : pSayR m c = -4 := by { unfold pSayR; rw [if_neg (fun c => c g1), if_neg (by omega)] }
      refine vV.bipush (v := (-4)) dX7_say_26 (by decide) (by decide) ?_
      refine vV.ri dX7_say_28 rfl ?_
      exact ⟨rfl, e2.symm, by rw [e2]; rfl⟩
  · skip
    have e2 : pSayR m c = -2 := if_pos (no01 hy8 h11)
    refine vV.bipush (v := (-2)) dX7_say_14 (by decide) (by decide) ?_
    refine vV.ri dX7_say_16 rfl ?_
    exact ⟨rfl, e2.symm, by rw [e2]; rfl⟩
theorem dX7_wipe_0 : decode cX7_wipe 0 = .ok (.aload_n 0, 1) := by decide +kernel
theorem dX7_wipe_1 : decode cX7_wipe 1 = .ok (.getfield 193, 3) := by decide +kernel
theorem dX7_wipe_4 : decode cX7_wipe 4 = .ok (.istore_n 1, 1) := by decide +kernel
theorem dX7_wipe_5 : decode cX7_wipe 5 = .ok (.aload_n 0, 1) := by decide +kernel
theorem dX7_wipe_6 : decode cX7_wipe 6 = .ok (.iconst 0, 1) := by decide +kernel
theorem dX7_wipe_7 : decode cX7_wipe 7 = .ok (.putfield 193, 3) := by decide +kernel
theorem dX7_wipe_10 : decode cX7_wipe 10 = .ok (.iload_n 1, 1) := by decide +kernel
theorem dX7_wipe_11 : decode cX7_wipe 11 = .ok (.ireturn, 1) := by decide +kernel
theorem c_X7_wipe {d : List Nat} {T : vT} {M : vM} (hB : vB T) : vCon m_X7_wipe d d [vR 200] T M (vPi fun r T1 M1 => T = T1 ∧ r = M 200 20 ∧ M1 = vUpd M 200 20 0) := by
  refine vCon.of (by decide) rfl rfl (Nat.le_of_ble_eq_true rfl) ?_
  refine vV.aload_n dX7_wipe_0 rfl ?_
  refine vV.geti (z := 20) dX7_wipe_1 fl_X7_193 (by first | rfl | assumption) rfl rfl ?_
  refine vV.istore_n (L' := [_, _]) dX7_wipe_4 (by decide) rfl ?_
  refine vV.aload_n dX7_wipe_5 rfl ?_
  refine vV.iconst dX7_wipe_6 (by decide) ?_
  refine vV.puti (z := 20) dX7_wipe_7 fl_X7_193 (by first | rfl | assumption) rfl rfl ?_
  refine vV.iload_n dX7_wipe_10 rfl ?_
  refine vV.ri dX7_wipe_11 rfl ?_
  exact ⟨rfl, rfl, rfl⟩
theorem dX7_sumOfTurns_0 : decode cX7_sumOfTurns 0 = .ok (.iconst 0, 1) := by decide +kernel
theorem dX7_sumOfTurns_1 : decode cX7_sumOfTurns 1 = .ok (.istore_n 1, 1) := by decide +kernel
theorem dX7_sumOfTurns_2 : decode cX7_sumOfTurns 2 = .ok (.iconst 0, 1) := by decide +kernel
theorem dX7_sumOfTurns_3 : decode cX7_sumOfTurns 3 = .ok (.istore_n 2, 1) := by decide +kernel
theorem dX7_sumOfTurns_4 : decode cX7_sumOfTurns 4 = .ok (.iload_n 2, 1) := by decide +kernel
theorem dX7_sumOfTurns_5 : decode cX7_sumOfTurns 5 = .ok (.aload_n 0, 1) := by decide +kernel
theorem dX7_sumOfTurns_6 : decode cX7_sumOfTurns 6 = .ok (.getfield 89, 3) := by decide +kernel
theorem dX7_sumOfTurns_9 : decode cX7_sumOfTurns 9 = .ok (.if_icmp .ge 18, 3) := by decide +kernel
theorem dX7_sumOfTurns_12 : decode cX7_sumOfTurns 12 = .ok (.iload_n 1, 1) := by decide +kernel
theorem dX7_sumOfTurns_13 : decode cX7_sumOfTurns 13 = .ok (.aload_n 0, 1) := by decide +kernel
theorem dX7_sumOfTurns_14 : decode cX7_sumOfTurns 14 = .ok (.getfield 25, 3) := by decide +kernel
theorem dX7_sumOfTurns_17 : decode cX7_sumOfTurns 17 = .ok (.iload_n 2, 1) := by decide +kernel
theorem dX7_sumOfTurns_18 : decode cX7_sumOfTurns 18 = .ok (.iaload, 1) := by decide +kernel
theorem dX7_sumOfTurns_19 : decode cX7_sumOfTurns 19 = .ok (.iadd, 1) := by decide +kernel
theorem dX7_sumOfTurns_20 : decode cX7_sumOfTurns 20 = .ok (.istore_n 1, 1) := by decide +kernel
theorem dX7_sumOfTurns_21 : decode cX7_sumOfTurns 21 = .ok (.iinc 2 1, 3) := by decide +kernel
theorem dX7_sumOfTurns_24 : decode cX7_sumOfTurns 24 = .ok (.goto (-20), 3) := by decide +kernel
theorem dX7_sumOfTurns_27 : decode cX7_sumOfTurns 27 = .ok (.iload_n 1, 1) := by decide +kernel
theorem dX7_sumOfTurns_28 : decode cX7_sumOfTurns 28 = .ok (.ireturn, 1) := by decide +kernel
theorem l_X7_sumOfTurns {d : List Nat} {T : vT} {M : vM} {n : Nat} (hB : vB T) (hc : M 200 4 = n) (hn : n ≤ 6) (ht : ∀ j : Nat, 0 ≤ M 212 j ∧ M 212 j ≤ 15) : ∀ p, p ≤ n →
    vV m_X7_sumOfTurns d d (vPi fun r T1 M1 => r = pSum (M 212) n ∧ T = T1 ∧ M = M1) 4 [some (vR 200), some (vI (pSum (M 212) p)), some (vI p)] [] d T M := by
  refine vUp ?_
  intro p h2 ih
  have h3 := pSum_rg _ ht p
  have h4 := ht p
  refine vV.iload_n dX7_sumOfTurns_4 rfl ?_
  refine vV.aload_n dX7_sumOfTurns_5 rfl ?_
  refine vV.geti (z := 4) dX7_sumOfTurns_6 fl_X7_89 (by first | rfl | assumption) rfl rfl ?_
  refine vV.icmp_ge (tgt := 27) dX7_sumOfTurns_9 (by decide) (fun h9 => ?_) (fun h9 => ?_)
  · skip
    refine vV.iload_n dX7_sumOfTurns_27 rfl ?_
    refine vV.ri dX7_sumOfTurns_28 rfl ?_
    rw [show p = n by omega]; exact ⟨rfl, rfl, rfl⟩
  · skip
    refine vV.iload_n dX7_sumOfTurns_12 rfl ?_
    refine vV.aload_n dX7_sumOfTurns_13 rfl ?_
    refine vV.getr dX7_sumOfTurns_14 fl_X7_25 (by first | rfl | assumption) rfl (by first | assumption | exact hB _ _ _ rfl) ?_
    refine vV.iload_n dX7_sumOfTurns_17 rfl ?_
    refine vV.iald dX7_sumOfTurns_18 (by first | rfl | assumption) (by omega) (by omega) ?_
    refine vV.iadd dX7_sumOfTurns_19 (⟨by omega, by omega⟩) ?_
    refine vV.istore_n (L' := [_, _, _]) dX7_sumOfTurns_20 (by decide) rfl ?_
    refine vV.iinc (L' := [_, _, _]) dX7_sumOfTurns_21 (by decide) rfl (⟨by omega, by omega⟩) rfl ?_
    refine vV.goto (tgt := 4) dX7_sumOfTurns_24 (by decide) ?_
    exact ih (by omega)
theorem c_X7_sumOfTurns {d : List Nat} {T : vT} {M : vM} {n : Nat} (hB : vB T) (hc : M 200 4 = n) (hn : n ≤ 6) (ht : ∀ j : Nat, 0 ≤ M 212 j ∧ M 212 j ≤ 15) : vCon m_X7_sumOfTurns d d [vR 200] T M (vPi fun r T1 M1 => r = pSum (M 212) n ∧ T = T1 ∧ M = M1) := by
  refine vCon.of (by decide) rfl rfl (Nat.le_of_ble_eq_true rfl) ?_
  refine vV.iconst dX7_sumOfTurns_0 (by decide) ?_
  refine vV.istore_n (L' := [_, _, _]) dX7_sumOfTurns_1 (by decide) rfl ?_
  refine vV.iconst dX7_sumOfTurns_2 (by decide) ?_
  refine vV.istore_n (L' := [_, _, _]) dX7_sumOfTurns_3 (by decide) rfl ?_
  exact l_X7_sumOfTurns hB hc hn ht 0 (by omega)
theorem dX7_takeOver_0 : decode cX7_takeOver 0 = .ok (.iconst 0, 1) := by decide +kernel
theorem dX7_takeOver_1 : decode cX7_takeOver 1 = .ok (.istore_n 1, 1) := by decide +kernel
theorem dX7_takeOver_2 : decode cX7_takeOver 2 = .ok (.iload_n 1, 1) := by decide +kernel
theorem dX7_takeOver_3 : decode cX7_takeOver 3 = .ok (.aload_n 0, 1) := by decide +kernel
theorem dX7_takeOver_4 : decode cX7_takeOver 4 = .ok (.getfield 89, 3) := by decide +kernel
theorem dX7_takeOver_7 : decode cX7_takeOver 7 = .ok (.if_icmp .ge 21, 3) := by decide +kernel
theorem dX7_takeOver_10 : decode cX7_takeOver 10 = .ok (.aload_n 0, 1) := by decide +kernel
theorem dX7_takeOver_11 : decode cX7_takeOver 11 = .ok (.getfield 19, 3) := by decide +kernel
theorem dX7_takeOver_14 : decode cX7_takeOver 14 = .ok (.iload_n 1, 1) := by decide +kernel
theorem dX7_takeOver_15 : decode cX7_takeOver 15 = .ok (.aload_n 0, 1) := by decide +kernel
theorem dX7_takeOver_16 : decode cX7_takeOver 16 = .ok (.getfield 25, 3) := by decide +kernel
theorem dX7_takeOver_19 : decode cX7_takeOver 19 = .ok (.iload_n 1, 1) := by decide +kernel
theorem dX7_takeOver_20 : decode cX7_takeOver 20 = .ok (.iaload, 1) := by decide +kernel
theorem dX7_takeOver_21 : decode cX7_takeOver 21 = .ok (.iastore, 1) := by decide +kernel
theorem dX7_takeOver_22 : decode cX7_takeOver 22 = .ok (.iinc 1 1, 3) := by decide +kernel
theorem dX7_takeOver_25 : decode cX7_takeOver 25 = .ok (.goto (-23), 3) := by decide +kernel
theorem dX7_takeOver_28 : decode cX7_takeOver 28 = .ok (.aload_n 0, 1) := by decide +kernel
theorem dX7_takeOver_29 : decode cX7_takeOver 29 = .ok (.aload_n 0, 1) := by decide +kernel
theorem dX7_takeOver_30 : decode cX7_takeOver 30 = .ok (.getfield 123, 3) := by decide +kernel
theorem dX7_takeOver_33 : decode cX7_takeOver 33 = .ok (.putfield 117, 3) := by decide +kernel
theorem dX7_takeOver_36 : decode cX7_takeOver 36 = .ok (.return_, 1) := by decide +kernel
def mTk (M : vM) (p : Nat) : vM := vRow M 204 (pMix p (M 212) (M 204))
theorem l_X7_takeOver {d : List Nat} {T : vT} {M : vM} {n : Nat} (hB : vB T) (hc : M 200 4 = n) (hn : n ≤ 6) : ∀ p, p ≤ n →
    vV m_X7_takeOver d d (vPv fun T1 M1 => T = T1 ∧ M1 = vUpd (mTk M n) 200 5 (M 200 12)) 2 [some (vR 200), some (vI p)] [] d T (mTk M p) := by
  refine vUp ?_
  intro p h2 ih
  have e0 : mTk M p 200 = M 200 := vRow_n (by decide)
  have e1 : mTk M p 212 = M 212 := vRow_n (by decide)
  have e2 : vUpd (mTk M p) 204 p (M 212 p) = mTk M (p + 1) := by unfold mTk; rw [vUpd_vRow, pMix_s]
  refine vV.iload_n dX7_takeOver_2 rfl ?_
  refine vV.aload_n dX7_takeOver_3 rfl ?_
  refine vV.geti (z := 4) dX7_takeOver_4 fl_X7_89 (by first | rfl | assumption) rfl rfl ?_
  rw [e0]
  refine vV.icmp_ge (tgt := 28) dX7_takeOver_7 (by decide) (fun h7 => ?_) (fun h7 => ?_)
  · skip
    refine vV.aload_n dX7_takeOver_28 rfl ?_
    refine vV.aload_n dX7_takeOver_29 rfl ?_
    refine vV.geti (z := 12) dX7_takeOver_30 fl_X7_123 (by first | rfl | assumption) rfl rfl ?_
    refine vV.puti (z := 5) dX7_takeOver_33 fl_X7_117 (by first | rfl | assumption) rfl rfl ?_
    refine vV.rv dX7_takeOver_36 rfl ?_
    rw [e0, show p = n by omega]; exact ⟨rfl, rfl⟩
  · skip
    refine vV.aload_n dX7_takeOver_10 rfl ?_
    refine vV.getr dX7_takeOver_11 fl_X7_19 (by first | rfl | assumption) rfl (by first | assumption | exact hB _ _ _ rfl) ?_
    refine vV.iload_n dX7_takeOver_14 rfl ?_
    refine vV.aload_n dX7_takeOver_15 rfl ?_
    refine vV.getr dX7_takeOver_16 fl_X7_25 (by first | rfl | assumption) rfl (by first | assumption | exact hB _ _ _ rfl) ?_
    refine vV.iload_n dX7_takeOver_19 rfl ?_
    refine vV.iald dX7_takeOver_20 (by first | rfl | assumption) (by omega) (by omega) ?_
    rw [e1]
    refine vV.iast dX7_takeOver_21 (by first | rfl | assumption) (by omega) (by omega) ?_
    rw [e2]
    refine vV.iinc (L' := [_, _]) dX7_takeOver_22 (by decide) rfl (⟨by omega, by omega⟩) rfl ?_
    refine vV.goto (tgt := 2) dX7_takeOver_25 (by decide) ?_
    exact ih (by omega)
theorem c_X7_takeOver {d : List Nat} {T : vT} {M : vM} {n : Nat} (hB : vB T) (hc : M 200 4 = n) (hn : n ≤ 6) : vCon m_X7_takeOver d d [vR 200] T M (vPv fun T1 M1 => T = T1 ∧ M1 = vUpd (mTk M n) 200 5 (M 200 12)) := by
  refine vCon.of (by decide) rfl rfl (Nat.le_of_ble_eq_true rfl) ?_
  have h := l_X7_takeOver (d := d) (T := T) hB hc hn 0 (by omega)
  rw [show mTk M 0 = M from by unfold mTk; rw [pMix_0, vRow_id]] at h
  refine vV.iconst dX7_takeOver_0 (by decide) ?_
  refine vV.istore_n (L' := [_, _]) dX7_takeOver_1 (by decide) rfl ?_
  exact h
