/-! ===== own: the reference: tick ===== -/
theorem pBits_cg {f g : Int → Int} : ∀ {n : Nat}, (∀ j : Nat, j < n → f j = g j) → pBits f n = pBits g n
  | 0, _ => rfl
  | n + 1, h => by rw [pBits_s, pBits_s, pBits_cg (n := n) (fun j hj => h j (by omega)), h n (by omega)]
theorem pSum_cg {f g : Int → Int} : ∀ {n : Nat}, (∀ j : Nat, j < n → f j = g j) → pSum f n = pSum g n
  | 0, _ => rfl
  | n + 1, h => by show pSum f n + f n = pSum g n + g n; rw [pSum_cg (n := n) (fun j hj => h j (by omega)), h n (by omega)]
theorem pPack_cg {f g : Int → Int} : ∀ {n : Nat}, (∀ j : Nat, j < n → f j = g j) → pPack f n = pPack g n
  | 0, _ => rfl
  | n + 1, h => by rw [pPack_s, pPack_s, pPack_cg (n := n) (fun j hj => h j (by omega)), h n (by omega)]
/-- the show's state from what is now -/
def mPos (M : vM) (n : Nat) : pPos := (M 200 5, pMix n (M 204) (M 212))
/-- a show is taken over -/
def mOver (M M1 : vM) (n : Nat) (s : pPos) : Prop := M1 204 = pMix n s.2 (M 204) ∧ M1 200 5 = s.1
theorem dX7_tick_0 : decode cX7_tick 0 = .ok (.iload_n 1, 1) := by decide +kernel
theorem dX7_tick_1 : decode cX7_tick 1 = .ok (.i2l, 1) := by decide +kernel
theorem dX7_tick_2 : decode cX7_tick 2 = .ok (.lconst 0, 1) := by decide +kernel
theorem dX7_tick_3 : decode cX7_tick 3 = .ok (.ldc2_w 102, 3) := by decide +kernel
theorem dX7_tick_6 : decode cX7_tick 6 = .ok (.invokestatic 92, 3) := by decide +kernel
theorem dX7_tick_9 : decode cX7_tick 9 = .ok (.ifCond .ne 6, 3) := by decide +kernel
theorem dX7_tick_12 : decode cX7_tick 12 = .ok (.bipush (-2), 2) := by decide +kernel
theorem dX7_tick_14 : decode cX7_tick 14 = .ok (.ireturn, 1) := by decide +kernel
theorem dX7_tick_15 : decode cX7_tick 15 = .ok (.aload_n 0, 1) := by decide +kernel
theorem dX7_tick_16 : decode cX7_tick 16 = .ok (.invokevirtual 177, 3) := by decide +kernel
theorem dX7_tick_19 : decode cX7_tick 19 = .ok (.aload_n 0, 1) := by decide +kernel
theorem dX7_tick_20 : decode cX7_tick 20 = .ok (.iload_n 1, 1) := by decide +kernel
theorem dX7_tick_21 : decode cX7_tick 21 = .ok (.invokevirtual 180, 3) := by decide +kernel
theorem dX7_tick_24 : decode cX7_tick 24 = .ok (.ifCond .ne 6, 3) := by decide +kernel
theorem dX7_tick_27 : decode cX7_tick 27 = .ok (.bipush (-5), 2) := by decide +kernel
theorem dX7_tick_29 : decode cX7_tick 29 = .ok (.ireturn, 1) := by decide +kernel
theorem dX7_tick_30 : decode cX7_tick 30 = .ok (.aload_n 0, 1) := by decide +kernel
theorem dX7_tick_31 : decode cX7_tick 31 = .ok (.iload_n 1, 1) := by decide +kernel
theorem dX7_tick_32 : decode cX7_tick 32 = .ok (.invokevirtual 174, 3) := by decide +kernel
theorem dX7_tick_35 : decode cX7_tick 35 = .ok (.aload_n 0, 1) := by decide +kernel
theorem dX7_tick_36 : decode cX7_tick 36 = .ok (.invokevirtual 183, 3) := by decide +kernel
theorem dX7_tick_39 : decode cX7_tick 39 = .ok (.aload_n 0, 1) := by decide +kernel
theorem dX7_tick_40 : decode cX7_tick 40 = .ok (.invokevirtual 186, 3) := by decide +kernel
theorem dX7_tick_43 : decode cX7_tick 43 = .ok (.ireturn, 1) := by decide +kernel
theorem c_X7_tick {d : List Nat} {T : vT} {M : vM} {n : Nat} {y : Int} (hB : vB T) (hW : mW M n) : vCon m_X7_tick d d [vR 200, vI y] T M (vPi fun r T1 M1 => T = T1 ∧ r = pTickR (mPb M n) (mPos M n) y ∧ mSame [200, 204, 211, 212, 218, 219] M M1 ∧ mSlot [5, 12, 13, 14, 15, 16] M M1 ∧ (0 ≤ pTickR (mPb M n) (mPos M n) y → mOver M M1 n (pT1 (mPb M n) y (mPos M n))) ∧ (pTickR (mPb M n) (mPos M n) y < 0 → M1 204 = M 204 ∧ M1 200 5 = M 200 5) ∧ mOk M1) := by
  refine vCon.of (by decide) rfl rfl (Nat.le_of_ble_eq_true rfl) ?_
  refine vV.iload_n dX7_tick_0 rfl ?_
  refine vV.i2l dX7_tick_1 ?_
  refine vV.lconst (v := 0) dX7_tick_2 (by decide) (by decide) ?_
  refine vV.ldc2 (v := 3) dX7_tick_3 kl_X7_102 (by decide) (by decide) ?_
  refine vV.cSi dX7_tick_6 ml_X7_92 cw_X7_in sw_X7_in (by unfold vRoom; decide) c_X7_in rfl rfl (Nat.le_of_ble_eq_true rfl) ?_
  rintro x6 _ _ hx6 ⟨hy6, rfl, rfl⟩
  unfold pIn at hy6
  refine vV.if_ne (tgt := 15) dX7_tick_9 (by decide) (fun h9 => ?_) (fun h9 => ?_)
  · skip
    have g1 := yes01 hy6 h9
    refine vV.aload_n dX7_tick_15 rfl ?_
    refine vV.cVv dX7_tick_16 ml_X7_177 cw_X7_begin iw_X7_begin (by first | rfl | assumption) rfl (by unfold vRoom; decide) (c_X7_begin hB hW) rfl rfl (Nat.le_of_ble_eq_true rfl) ?_
    rintro _ N ⟨rfl, hb⟩
    have hS := mS_begin hW hb
    have hb2 := hb
    obtain ⟨b1, b2, b3, b4, b5, b6, b7, b8, b9, b10, b11⟩ := hb2
    refine vV.aload_n dX7_tick_19 rfl ?_
    refine vV.iload_n dX7_tick_20 rfl ?_
    refine vV.cVi dX7_tick_21 ml_X7_180 cw_X7_can iw_X7_can (by first | rfl | assumption) rfl (by unfold vRoom; decide) (c_X7_can hB hS.1 hS.2.1 hS.2.2.2.2.2.2.1 g1.1 g1.2) rfl rfl (Nat.le_of_ble_eq_true rfl) ?_
    rintro x21 _ _ hx21 ⟨hy21, rfl, rfl⟩
    rw [show pCan n (N 211) (N 212) (N 200 12) y = pCn (mPb M n) y (mPos M n) from by rw [b3, b4, b5]; rfl] at hy21
    subst hy21
    refine vV.if_ne (tgt := 30) dX7_tick_24 (by decide) (fun h24 => ?_) (fun h24 => ?_)
    · skip
      have hye := bI_ne h24
      refine vV.aload_n dX7_tick_30 rfl ?_
      refine vV.iload_n dX7_tick_31 rfl ?_
      refine vV.cVv dX7_tick_32 ml_X7_174 cw_X7_doThing iw_X7_doThing (by first | rfl | assumption) rfl (by unfold vRoom; decide) (c_X7_doThing hB hS (by omega) g1.1 g1.2 (by rw [b3, b4, b5]; exact hye)) rfl rfl (Nat.le_of_ble_eq_true rfl) ?_
      rintro _ N1 ⟨rfl, htk, hS1⟩
      obtain ⟨t1, t2, t3, t4, t5, t6, t7, t8, t9⟩ := htk
      rw [b3, b4, b5, b2 6 (by decide), b1 202 (by decide), b1 203 (by decide)] at t3
      rw [b5] at t4
      have hp1 : pT1 (mPb M n) y (mPos M n) = (N1 200 12, N1 212) := by rw [t3, t4]; rfl
      have n4 : N1 200 4 = n := by rw [t2 4 (by decide), b2 4 (by decide)]; exact hW.1
      refine vV.aload_n dX7_tick_35 rfl ?_
      refine vV.cVv dX7_tick_36 ml_X7_183 cw_X7_takeOver iw_X7_takeOver (by first | rfl | assumption) rfl (by unfold vRoom; decide) (c_X7_takeOver hB n4 hS.2.1) rfl rfl (Nat.le_of_ble_eq_true rfl) ?_
      rintro _ _ ⟨rfl, rfl⟩
      obtain ⟨K, hK⟩ : ∃ K, K = vUpd (mTk N1 n) 200 5 (N1 200 12) := ⟨_, rfl⟩
      rw [← hK]
      have k204 : K 204 = pMix n (N1 212) (M 204) := by rw [hK, vUpd_row (by decide)]; unfold mTk; rw [vRow_s, t1 204 (by decide), b1 204 (by decide)]
      have kk : ∀ k, k ≠ 200 → k ≠ 204 → K k = N1 k := fun k h1 h2 => by rw [hK, vUpd_row h1]; unfold mTk; rw [vRow_n h2]
      have kj : ∀ j, j ≠ 5 → K 200 j = N1 200 j := fun j hj => by rw [hK, vUpd_ni hj]; unfold mTk; rw [vRow_n (by decide)]
      have k5 : K 200 5 = N1 200 12 := by rw [hK, vUpd_s]
      have kb : pBits (K 204) n = pBits (N1 212) n := by rw [k204]; exact pBits_cg (fun j hj => pMix_lt hj)
      refine vV.aload_n dX7_tick_39 rfl ?_
      refine vV.cVi dX7_tick_40 ml_X7_186 cw_X7_standing iw_X7_standing (by first | rfl | assumption) rfl (by unfold vRoom; decide) (c_X7_standing hB (n := n) (by rw [kj 4 (by decide)]; exact n4) hS.2.1) rfl rfl (Nat.le_of_ble_eq_true rfl) ?_
      rintro x40 _ _ hx40 ⟨hy40, rfl, rfl⟩
      refine vV.ri dX7_tick_43 rfl ?_
      have e2 : pTickR (mPb M n) (mPos M n) y = x40 := by { unfold pTickR; rw [if_neg (fun c => c g1), if_neg (by rw [hye]; simp), hp1, hy40, kb]; rfl }
      have hp0 := (pBits_rg (K 204) n).1
      rw [← hy40] at hp0
      refine ⟨rfl, e2.symm, fun k hk => ?_, fun j hj => ?_, fun _ => ⟨?_, ?_⟩, fun z => ?_, ?_, ?_⟩
      · simp at hk
        rw [kk k hk.1 hk.2.1, t1 k (by simp; omega), b1 k (by simp; omega)]
      · simp at hj
        rw [kj j hj.1, t2 j (by simp; omega), b2 j (by simp; omega)]
      · rw [k204, hp1]
      · rw [k5, hp1]
      · rw [e2] at z; omega
      · rw [kk 211 (by decide) (by decide)]; exact hS1.2.2.2.1
      · rw [kk 212 (by decide) (by decide)]; exact hS1.2.2.1
    · skip
      have hno := bI_eq h24
      have e2 : pTickR (mPb M n) (mPos M n) y = -5 := by { unfold pTickR; rw [if_neg (fun c => c g1), if_pos hno] }
      refine vV.bipush (v := (-5)) dX7_tick_27 (by decide) (by decide) ?_
      refine vV.ri dX7_tick_29 rfl ?_
      exact ⟨rfl, e2.symm, fun k hk => b1 k (by simp at hk ⊢; omega), fun j hj => b2 j (by simp at hj ⊢; omega), fun z => by rw [e2] at z; omega, fun _ => ⟨b1 204 (by decide), b2 5 (by decide)⟩, hS.2.2.2.1, hS.2.2.1⟩
  · skip
    have e2 : pTickR (mPb M n) (mPos M n) y = -2 := if_pos (no01 hy6 h9)
    refine vV.bipush (v := (-2)) dX7_tick_12 (by decide) (by decide) ?_
    refine vV.ri dX7_tick_14 rfl ?_
    exact ⟨rfl, e2.symm, fun _ _ => rfl, fun _ _ => rfl, fun z => by rw [e2] at z; omega, fun _ => ⟨rfl, rfl⟩, hW.2.2.1, hW.2.2.2⟩
