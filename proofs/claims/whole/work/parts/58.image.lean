/-! ===== own: the reference: image, restore ===== -/
def mImg (M M1 : vM) (n : Int) : Prop := mSame [200, 237, 238] M M1 ∧ mSlot [31, 38, 39] M M1 ∧ M1 200 31 = -6 ∧ M1 238 = fSet (M 238) n 1 ∧ M1 237 = fun j => if 40 * n ≤ j ∧ j < 40 * n + 30 then kpI M (j - 40 * n) else M 237 j
def mRst (M M1 : vM) (n : Int) : Prop := mSame [200, 201, 202, 203, 204] M M1 ∧ mSlot [4, 5, 6, 7, 8, 9, 31, 38, 39] M M1 ∧ M1 200 31 = -6 ∧ (∀ j : Int, 0 ≤ j → j < 6 → M1 200 (4 + j) = M 237 (40 * n + j)) ∧
  (∀ j : Int, M1 201 j = if 0 ≤ j ∧ j < 6 then M 237 (40 * n + (6 + 4 * j)) else M 201 j) ∧ (∀ j : Int, M1 202 j = if 0 ≤ j ∧ j < 6 then M 237 (40 * n + (6 + 4 * j + 1)) else M 202 j) ∧
  (∀ j : Int, M1 203 j = if 0 ≤ j ∧ j < 6 then M 237 (40 * n + (6 + 4 * j + 2)) else M 203 j) ∧ (∀ j : Int, M1 204 j = if 0 ≤ j ∧ j < 6 then M 237 (40 * n + (6 + 4 * j + 3)) else M 204 j)
def pImgR (n : Int) : Int := if 0 ≤ n ∧ n ≤ 1 then 1 else -2
def pRstR (n k : Int) : Int := if 0 ≤ n ∧ n ≤ 1 then (if k = 0 then -3 else 1) else -2
theorem dX7_image_0 : decode cX7_image 0 = .ok (.iload_n 1, 1) := by decide +kernel
theorem dX7_image_1 : decode cX7_image 1 = .ok (.i2l, 1) := by decide +kernel
theorem dX7_image_2 : decode cX7_image 2 = .ok (.lconst 0, 1) := by decide +kernel
theorem dX7_image_3 : decode cX7_image 3 = .ok (.lconst 1, 1) := by decide +kernel
theorem dX7_image_4 : decode cX7_image 4 = .ok (.invokestatic 92, 3) := by decide +kernel
theorem dX7_image_7 : decode cX7_image 7 = .ok (.ifCond .ne 6, 3) := by decide +kernel
theorem dX7_image_10 : decode cX7_image 10 = .ok (.bipush (-2), 2) := by decide +kernel
theorem dX7_image_12 : decode cX7_image 12 = .ok (.ireturn, 1) := by decide +kernel
theorem dX7_image_13 : decode cX7_image 13 = .ok (.aload_n 0, 1) := by decide +kernel
theorem dX7_image_14 : decode cX7_image 14 = .ok (.bipush 40, 2) := by decide +kernel
theorem dX7_image_16 : decode cX7_image 16 = .ok (.iload_n 1, 1) := by decide +kernel
theorem dX7_image_17 : decode cX7_image 17 = .ok (.imul, 1) := by decide +kernel
theorem dX7_image_18 : decode cX7_image 18 = .ok (.putfield 305, 3) := by decide +kernel
theorem dX7_image_21 : decode cX7_image 21 = .ok (.aload_n 0, 1) := by decide +kernel
theorem dX7_image_22 : decode cX7_image 22 = .ok (.iconst 1, 1) := by decide +kernel
theorem dX7_image_23 : decode cX7_image 23 = .ok (.putfield 301, 3) := by decide +kernel
theorem dX7_image_26 : decode cX7_image 26 = .ok (.aload_n 0, 1) := by decide +kernel
theorem dX7_image_27 : decode cX7_image 27 = .ok (.invokevirtual 311, 3) := by decide +kernel
theorem dX7_image_30 : decode cX7_image 30 = .ok (.aload_n 0, 1) := by decide +kernel
theorem dX7_image_31 : decode cX7_image 31 = .ok (.getfield 76, 3) := by decide +kernel
theorem dX7_image_34 : decode cX7_image 34 = .ok (.iload_n 1, 1) := by decide +kernel
theorem dX7_image_35 : decode cX7_image 35 = .ok (.iconst 1, 1) := by decide +kernel
theorem dX7_image_36 : decode cX7_image 36 = .ok (.bastore, 1) := by decide +kernel
theorem dX7_image_37 : decode cX7_image 37 = .ok (.iconst 1, 1) := by decide +kernel
theorem dX7_image_38 : decode cX7_image 38 = .ok (.ireturn, 1) := by decide +kernel
theorem c_X7_image {d : List Nat} {T : vT} {M : vM} {n : Int} (hB : vB T) : vCon m_X7_image d d [vR 200, vI n] T M (vPi fun r T1 M1 => T = T1 ∧ r = pImgR n ∧ (0 ≤ pImgR n → mImg M M1 n) ∧ (pImgR n < 0 → M1 = M)) := by
  unfold pImgR
  refine vCon.of (by decide) rfl rfl (Nat.le_of_ble_eq_true rfl) ?_
  refine vV.iload_n dX7_image_0 rfl ?_
  refine vV.i2l dX7_image_1 ?_
  refine vV.lconst (v := 0) dX7_image_2 (by decide) (by decide) ?_
  refine vV.lconst (v := 1) dX7_image_3 (by decide) (by decide) ?_
  refine vV.cSi dX7_image_4 ml_X7_92 cw_X7_in sw_X7_in (by unfold vRoom; decide) c_X7_in rfl rfl (Nat.le_of_ble_eq_true rfl) ?_
  rintro x4 _ _ hx4 ⟨hy4, rfl, rfl⟩
  unfold pIn at hy4
  refine vV.if_ne (tgt := 13) dX7_image_7 (by decide) (fun h7 => ?_) (fun h7 => ?_)
  · skip
    have hin := yes01 hy4 h7
    refine vV.aload_n dX7_image_13 rfl ?_
    refine vV.bipush (v := 40) dX7_image_14 (by decide) (by decide) ?_
    refine vV.iload_n dX7_image_16 rfl ?_
    refine vV.imul dX7_image_17 (⟨by omega, by omega⟩) ?_
    refine vV.puti (z := 38) dX7_image_18 fl_X7_305 (by first | rfl | assumption) rfl rfl ?_
    refine vV.aload_n dX7_image_21 rfl ?_
    refine vV.iconst dX7_image_22 (by decide) ?_
    refine vV.putz (z := 39) dX7_image_23 fl_X7_301 (by first | rfl | assumption) rfl rfl (by first | exact Or.inl rfl | exact Or.inr rfl) ?_
    refine vV.aload_n dX7_image_26 rfl ?_
    refine vV.cVv dX7_image_27 ml_X7_311 cw_X7_passAll iw_X7_passAll (by first | rfl | assumption) rfl (by unfold vRoom; decide) (c_passAllW (b := 40 * n) hB (vUpd_s _ _ _ _) (by rw [vUpd_ni (by decide), vUpd_s]) (by omega) (by omega)) rfl rfl (Nat.le_of_ble_eq_true rfl) ?_
    rintro _ _ ⟨rfl, rfl⟩
    refine vV.aload_n dX7_image_30 rfl ?_
    refine vV.getr dX7_image_31 fl_X7_76 (by first | rfl | assumption) rfl (by first | assumption | exact hB _ _ _ rfl) ?_
    refine vV.iload_n dX7_image_34 rfl ?_
    refine vV.iconst dX7_image_35 (by decide) ?_
    refine vV.zast dX7_image_36 (by first | rfl | assumption) (by omega) (by omega) (by first | exact Or.inl rfl | exact Or.inr rfl) ?_
    refine vV.iconst dX7_image_37 (by decide) ?_
    refine vV.ri dX7_image_38 rfl ?_
    have hq : mImg M (vUpd (vUpd (kpW (vUpd (vUpd M 200 38 (40 * n)) 200 39 1) (40 * n) 30) 200 31 (-6)) 238 n 1) n := by
      obtain ⟨N, hN⟩ : ∃ N, N = vUpd (vUpd M 200 38 (40 * n)) 200 39 1 := ⟨_, rfl⟩
      have hN2 : ∀ j, j ≠ 38 → j ≠ 39 → N 200 j = M 200 j := fun j h1 h2 => by rw [hN, vUpd_ni h2, vUpd_ni h1]
      have hN3 : ∀ k, k ≠ 200 → N k = M k := fun k hk => by rw [hN, vUpd_row hk, vUpd_row hk]
      rw [← hN]
      refine ⟨fun k hk => ?_, fun j hj => ?_, ?_, ?_, ?_⟩
      · simp at hk
        rw [vUpd_row hk.2.2, vUpd_row hk.1]
        funext j
        rw [kpW_id hk.2.1 (fun z => absurd z hk.1), hN3 k hk.1]
      · simp at hj
        rw [vUpd_row (by decide), vUpd_ni hj.1, kpW_id (by decide) (fun _ => hj.2.1), hN2 j hj.2.1 hj.2.2]
      · rw [vUpd_row (by decide), vUpd_s]
      · rw [vUpd_r, vRow_s, vUpd_row (by decide), show kpW N (40 * n) 30 238 = N 238 from by funext j; exact kpW_id (by decide) (fun z => by cases z), hN3 238 (by decide)]
      · rw [vUpd_row (by decide), vUpd_row (by decide)]
        unfold kpW
        rw [vUpd_row (by decide), vRow_s, hN3 237 (by decide)]
        funext j
        have e : ∀ k, 0 ≤ k → kpI N k = kpI M k := fun k hk => by
          unfold kpI
          rw [hN3 201 (by decide), hN3 202 (by decide), hN3 203 (by decide), hN3 204 (by decide)]
          by_cases hk6 : k < 6
          · rw [if_pos hk6, if_pos hk6, hN2 _ (by omega) (by omega)]
          · rw [if_neg hk6, if_neg hk6]
        by_cases hj : 40 * n ≤ j ∧ j < 40 * n + 30
        · rw [if_pos (by omega), if_pos hj, e _ (by omega)]
        · rw [if_neg (by omega), if_neg hj]
    rw [if_pos hin]
    exact ⟨rfl, rfl, fun _ => hq, fun z => absurd z (by decide)⟩
  · skip
    have hin := no01 hy4 h7
    refine vV.bipush (v := (-2)) dX7_image_10 (by decide) (by decide) ?_
    refine vV.ri dX7_image_12 rfl ?_
    rw [if_neg hin]; exact ⟨rfl, rfl, fun z => absurd z (by decide), fun _ => rfl⟩
theorem dX7_restore_0 : decode cX7_restore 0 = .ok (.iload_n 1, 1) := by decide +kernel
theorem dX7_restore_1 : decode cX7_restore 1 = .ok (.i2l, 1) := by decide +kernel
theorem dX7_restore_2 : decode cX7_restore 2 = .ok (.lconst 0, 1) := by decide +kernel
theorem dX7_restore_3 : decode cX7_restore 3 = .ok (.lconst 1, 1) := by decide +kernel
theorem dX7_restore_4 : decode cX7_restore 4 = .ok (.invokestatic 92, 3) := by decide +kernel
theorem dX7_restore_7 : decode cX7_restore 7 = .ok (.ifCond .ne 6, 3) := by decide +kernel
theorem dX7_restore_10 : decode cX7_restore 10 = .ok (.bipush (-2), 2) := by decide +kernel
theorem dX7_restore_12 : decode cX7_restore 12 = .ok (.ireturn, 1) := by decide +kernel
theorem dX7_restore_13 : decode cX7_restore 13 = .ok (.aload_n 0, 1) := by decide +kernel
theorem dX7_restore_14 : decode cX7_restore 14 = .ok (.getfield 76, 3) := by decide +kernel
theorem dX7_restore_17 : decode cX7_restore 17 = .ok (.iload_n 1, 1) := by decide +kernel
theorem dX7_restore_18 : decode cX7_restore 18 = .ok (.baload, 1) := by decide +kernel
theorem dX7_restore_19 : decode cX7_restore 19 = .ok (.ifCond .ne 6, 3) := by decide +kernel
theorem dX7_restore_22 : decode cX7_restore 22 = .ok (.bipush (-3), 2) := by decide +kernel
theorem dX7_restore_24 : decode cX7_restore 24 = .ok (.ireturn, 1) := by decide +kernel
theorem dX7_restore_25 : decode cX7_restore 25 = .ok (.aload_n 0, 1) := by decide +kernel
theorem dX7_restore_26 : decode cX7_restore 26 = .ok (.bipush 40, 2) := by decide +kernel
theorem dX7_restore_28 : decode cX7_restore 28 = .ok (.iload_n 1, 1) := by decide +kernel
theorem dX7_restore_29 : decode cX7_restore 29 = .ok (.imul, 1) := by decide +kernel
theorem dX7_restore_30 : decode cX7_restore 30 = .ok (.putfield 305, 3) := by decide +kernel
theorem dX7_restore_33 : decode cX7_restore 33 = .ok (.aload_n 0, 1) := by decide +kernel
theorem dX7_restore_34 : decode cX7_restore 34 = .ok (.iconst 0, 1) := by decide +kernel
theorem dX7_restore_35 : decode cX7_restore 35 = .ok (.putfield 301, 3) := by decide +kernel
theorem dX7_restore_38 : decode cX7_restore 38 = .ok (.aload_n 0, 1) := by decide +kernel
theorem dX7_restore_39 : decode cX7_restore 39 = .ok (.invokevirtual 311, 3) := by decide +kernel
theorem dX7_restore_42 : decode cX7_restore 42 = .ok (.iconst 1, 1) := by decide +kernel
theorem dX7_restore_43 : decode cX7_restore 43 = .ok (.ireturn, 1) := by decide +kernel
theorem c_X7_restore {d : List Nat} {T : vT} {M : vM} {n : Int} (hB : vB T) : vCon m_X7_restore d d [vR 200, vI n] T M (vPi fun r T1 M1 => T = T1 ∧ r = pRstR n (M 238 n) ∧ (0 ≤ pRstR n (M 238 n) → mRst M M1 n) ∧ (pRstR n (M 238 n) < 0 → M1 = M)) := by
  unfold pRstR
  refine vCon.of (by decide) rfl rfl (Nat.le_of_ble_eq_true rfl) ?_
  refine vV.iload_n dX7_restore_0 rfl ?_
  refine vV.i2l dX7_restore_1 ?_
  refine vV.lconst (v := 0) dX7_restore_2 (by decide) (by decide) ?_
  refine vV.lconst (v := 1) dX7_restore_3 (by decide) (by decide) ?_
  refine vV.cSi dX7_restore_4 ml_X7_92 cw_X7_in sw_X7_in (by unfold vRoom; decide) c_X7_in rfl rfl (Nat.le_of_ble_eq_true rfl) ?_
  rintro x4 _ _ hx4 ⟨hy4, rfl, rfl⟩
  unfold pIn at hy4
  refine vV.if_ne (tgt := 13) dX7_restore_7 (by decide) (fun h7 => ?_) (fun h7 => ?_)
  · skip
    have hin := yes01 hy4 h7
    refine vV.aload_n dX7_restore_13 rfl ?_
    refine vV.getr dX7_restore_14 fl_X7_76 (by first | rfl | assumption) rfl (by first | assumption | exact hB _ _ _ rfl) ?_
    refine vV.iload_n dX7_restore_17 rfl ?_
    refine vV.zald dX7_restore_18 (by first | rfl | assumption) (by omega) (by omega) ?_
    refine vV.if_ne (tgt := 25) dX7_restore_19 (by decide) (fun h19 => ?_) (fun h19 => ?_)
    · skip
      refine vV.aload_n dX7_restore_25 rfl ?_
      refine vV.bipush (v := 40) dX7_restore_26 (by decide) (by decide) ?_
      refine vV.iload_n dX7_restore_28 rfl ?_
      refine vV.imul dX7_restore_29 (⟨by omega, by omega⟩) ?_
      refine vV.puti (z := 38) dX7_restore_30 fl_X7_305 (by first | rfl | assumption) rfl rfl ?_
      refine vV.aload_n dX7_restore_33 rfl ?_
      refine vV.iconst dX7_restore_34 (by decide) ?_
      refine vV.putz (z := 39) dX7_restore_35 fl_X7_301 (by first | rfl | assumption) rfl rfl (by first | exact Or.inl rfl | exact Or.inr rfl) ?_
      refine vV.aload_n dX7_restore_38 rfl ?_
      refine vV.cVv dX7_restore_39 ml_X7_311 cw_X7_passAll iw_X7_passAll (by first | rfl | assumption) rfl (by unfold vRoom; decide) (c_passAllR (b := 40 * n) hB (vUpd_s _ _ _ _) (by rw [vUpd_ni (by decide), vUpd_s]) (by omega) (by omega)) rfl rfl (Nat.le_of_ble_eq_true rfl) ?_
      rintro _ _ ⟨rfl, rfl⟩
      refine vV.iconst dX7_restore_42 (by decide) ?_
      refine vV.ri dX7_restore_43 rfl ?_
      have hq : mRst M (vUpd (kpR (vUpd (vUpd M 200 38 (40 * n)) 200 39 0) (40 * n) 30) 200 31 (-6)) n := by
        obtain ⟨N, hN⟩ : ∃ N, N = vUpd (vUpd M 200 38 (40 * n)) 200 39 0 := ⟨_, rfl⟩
        have hN2 : ∀ j, j ≠ 38 → j ≠ 39 → N 200 j = M 200 j := fun j h1 h2 => by rw [hN, vUpd_ni h2, vUpd_ni h1]
        have hN3 : ∀ k, k ≠ 200 → N k = M k := fun k hk => by rw [hN, vUpd_row hk, vUpd_row hk]
        rw [← hN]
        have hr : ∀ (q : Nat), q < 4 → ∀ j : Int, vUpd (kpR N (40 * n) 30) 200 31 (-6) (201 + q) j = if 0 ≤ j ∧ j < 6 then M 237 (40 * n + (6 + 4 * j + q)) else M (201 + q) j := fun q hq j => by
          rw [vUpd_nk (by omega)]
          unfold kpR
          rw [if_neg (by omega), if_neg (by omega), hN3 237 (by decide), hN3 (201 + q) (by omega)]
          by_cases hj : 0 ≤ j ∧ j < 6
          · rw [if_pos hj, if_pos (by omega)]; congr 1; omega
          · rw [if_neg hj, if_neg (by omega)]
        refine ⟨fun k hk => ?_, fun j hj => ?_, ?_, fun j h1 h2 => ?_, fun j => ?_, fun j => ?_, fun j => ?_, fun j => ?_⟩
        · simp at hk
          rw [vUpd_row hk.1, ← hN3 k hk.1]
          funext j
          unfold kpR
          rw [if_neg (by omega), if_neg (by omega), if_neg (by omega)]
        · simp at hj
          rw [vUpd_ni (by omega), ← hN2 j (by omega) (by omega)]
          unfold kpR
          rw [if_neg (by omega), if_neg (by omega), if_neg (by omega)]
        · rw [vUpd_s]
        · rw [vUpd_ni (by omega)]
          unfold kpR
          rw [if_neg (by omega), if_pos (by omega), hN3 237 (by decide)]
          congr 1; omega
        · have := hr 0 (by decide) j
          simpa using this
        · exact hr 1 (by decide) j
        · exact hr 2 (by decide) j
        · exact hr 3 (by decide) j
      rw [if_pos hin, if_neg h19]
      exact ⟨rfl, rfl, fun _ => hq, fun z => absurd z (by decide)⟩
    · skip
      refine vV.bipush (v := (-3)) dX7_restore_22 (by decide) (by decide) ?_
      refine vV.ri dX7_restore_24 rfl ?_
      rw [if_pos hin, if_pos h19]; exact ⟨rfl, rfl, fun z => absurd z (by decide), fun _ => rfl⟩
  · skip
    have hin := no01 hy4 h7
    refine vV.bipush (v := (-2)) dX7_restore_10 (by decide) (by decide) ?_
    refine vV.ri dX7_restore_12 rfl ?_
    rw [if_neg hin]; exact ⟨rfl, rfl, fun z => absurd z (by decide), fun _ => rfl⟩
