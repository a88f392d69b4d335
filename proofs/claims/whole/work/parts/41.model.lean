/-! ===== own: the reference: show ===== -/
def mShq (r : Int) (M M1 : vM) (n : Nat) : Option (Nat × pPos) → Prop
  | none => r = -5 ∧ M1 204 = M 204 ∧ M1 200 5 = M 200 5 ∧ M1 200 20 = M 200 20
  | some (a, s) => r = (a : Int) ∧ mOver M M1 n s ∧ M1 200 20 = 0
def mKeepS (M M1 : vM) : Prop := mSame [200, 204, 211, 212, 218, 219, 222] M M1 ∧ mSlot [5, 12, 13, 14, 15, 16, 20, 22, 23, 24] M M1 ∧ (mOk M → mOk M1)
theorem mKeepJ.s {M M1 : vM} (h : mKeepJ M M1) : mKeepS M M1 := ⟨fun k hk => h.1 k (by simp at hk ⊢; omega), fun j hj => h.2.1 j (by simp at hj ⊢; omega), h.2.2⟩
theorem dX7_show_0 : decode cX7_show 0 = .ok (.aload_n 0, 1) := by decide +kernel
theorem dX7_show_1 : decode cX7_show 1 = .ok (.invokevirtual 217, 3) := by decide +kernel
theorem dX7_show_4 : decode cX7_show 4 = .ok (.ifCond .lt 6, 3) := by decide +kernel
theorem dX7_show_7 : decode cX7_show 7 = .ok (.bipush (-5), 2) := by decide +kernel
theorem dX7_show_9 : decode cX7_show 9 = .ok (.ireturn, 1) := by decide +kernel
theorem dX7_show_10 : decode cX7_show 10 = .ok (.aload_n 0, 1) := by decide +kernel
theorem dX7_show_11 : decode cX7_show 11 = .ok (.invokevirtual 220, 3) := by decide +kernel
theorem dX7_show_14 : decode cX7_show 14 = .ok (.aload_n 0, 1) := by decide +kernel
theorem dX7_show_15 : decode cX7_show 15 = .ok (.getfield 206, 3) := by decide +kernel
theorem dX7_show_18 : decode cX7_show 18 = .ok (.ifCond .lt 6, 3) := by decide +kernel
theorem dX7_show_21 : decode cX7_show 21 = .ok (.bipush (-5), 2) := by decide +kernel
theorem dX7_show_23 : decode cX7_show 23 = .ok (.ireturn, 1) := by decide +kernel
theorem dX7_show_24 : decode cX7_show 24 = .ok (.aload_n 0, 1) := by decide +kernel
theorem dX7_show_25 : decode cX7_show 25 = .ok (.invokevirtual 183, 3) := by decide +kernel
theorem dX7_show_28 : decode cX7_show 28 = .ok (.aload_n 0, 1) := by decide +kernel
theorem dX7_show_29 : decode cX7_show 29 = .ok (.iconst 0, 1) := by decide +kernel
theorem dX7_show_30 : decode cX7_show 30 = .ok (.putfield 193, 3) := by decide +kernel
theorem dX7_show_33 : decode cX7_show 33 = .ok (.aload_n 0, 1) := by decide +kernel
theorem dX7_show_34 : decode cX7_show 34 = .ok (.getfield 196, 3) := by decide +kernel
theorem dX7_show_37 : decode cX7_show 37 = .ok (.ireturn, 1) := by decide +kernel
theorem c_X7_show {d : List Nat} {T : vT} {M : vM} {n m : Nat} (hB : vB T) (hW : mW M n) (hm : M 200 20 = m) (hle : m ≤ 40) : vCon m_X7_show d d [vR 200] T M (vPi fun r T1 M1 => T = T1 ∧ mKeepS M M1 ∧ ∃ o, o = pShow (mPb M n) (M 220) m (mPos M n) ∧ mShq r M M1 n o) := by
  obtain ⟨o, ho⟩ : ∃ o, o = pShow (mPb M n) (M 220) m (mPos M n) := ⟨_, rfl⟩
  rw [← ho]
  unfold pShow at ho
  refine vCon.of (by decide) rfl rfl (Nat.le_of_ble_eq_true rfl) ?_
  refine vV.aload_n dX7_show_0 rfl ?_
  refine vV.cVi dX7_show_1 ml_X7_217 cw_X7_fault iw_X7_fault (by first | rfl | assumption) rfl (by unfold vRoom; decide) (c_X7_fault hB hm hle) rfl rfl (Nat.le_of_ble_eq_true rfl) ?_
  rintro x1 _ M1 hx1 ⟨rfl, hy1, f1, f2, f3⟩
  subst hy1
  have hk1 := mKeepJ.f f1 f2
  refine vV.if_lt (tgt := 10) dX7_show_4 (by decide) (fun h4 => ?_) (fun h4 => ?_)
  · skip
    have hnn := pOr6_none h4
    have hno := pNo_of hnn
    rw [hnn, if_neg (by simp)] at ho
    have hlen := pL_len hno m (Nat.le_refl m)
    have hfl := f3 hnn
    obtain ⟨hW1, eP, ePos⟩ := mW_fS f1 f2 hW
    clear f3 hnn
    refine vV.aload_n dX7_show_10 rfl ?_
    refine vV.cVv dX7_show_11 ml_X7_220 cw_X7_judgeAll iw_X7_judgeAll (by first | rfl | assumption) rfl (by unfold vRoom; decide) (c_X7_judgeAll (n := n) (a := (pL (M 220) m).length) (l := pL (M 220) m) hB hW1 rfl (by omega) (fun k => qL_rg k) hfl.2.2.1 hfl.2.2.2) rfl rfl (Nat.le_of_ble_eq_true rfl) ?_
    rintro _ M2 ⟨rfl, e, he, hJS, q23, q24⟩
    have hk2 := hk1.j hJS
    have q22 : M2 200 22 = ((pL (M 220) m).length : Nat) := by rw [hJS.2.1 22 (by decide)]; exact hfl.2.2.1
    obtain ⟨-, -, hm2, -, q12, q212⟩ := hJS
    rw [eP, ePos] at he q23 q12 q212
    obtain ⟨D0, hD⟩ : ∃ D0, D0 = pDn (mPb M n) (qL (pL (M 220) m)) (mPos M n) (pL (M 220) m).length := ⟨_, rfl⟩
    rw [← hD] at he q23 ho
    clear hD q24
    have hc2 := hm2.1
    have hn2 := hm2.2.1
    cases D0 with
    | none =>
      rw [if_neg (by simp)] at ho
      have hee : (pL (M 220) m).length = e := he
      rw [← hee] at q12 q212
      rw [pOr_n] at q23
      refine vV.aload_n dX7_show_14 rfl ?_
      refine vV.geti (z := 23) dX7_show_15 fl_X7_206 (by first | rfl | assumption) rfl rfl ?_
      try simp (decide := true) only [vUpd_s, vUpd_nk, vUpd_ni, vRow_s, vRow_n, fSet_s, fSet_n, ne_eq, not_false_eq_true]
      refine vV.if_lt (tgt := 24) dX7_show_18 (by decide) (fun h18 => ?_) (fun h18 => ?_)
      · skip
        refine vV.aload_n dX7_show_24 rfl ?_
        refine vV.cVv dX7_show_25 ml_X7_183 cw_X7_takeOver iw_X7_takeOver (by first | rfl | assumption) rfl (by unfold vRoom; decide) (c_X7_takeOver hB hc2 hn2) rfl rfl (Nat.le_of_ble_eq_true rfl) ?_
        rintro _ _ ⟨rfl, rfl⟩
        refine vV.aload_n dX7_show_28 rfl ?_
        refine vV.iconst dX7_show_29 (by decide) ?_
        refine vV.puti (z := 20) dX7_show_30 fl_X7_193 (by first | rfl | assumption) rfl rfl ?_
        refine vV.aload_n dX7_show_33 rfl ?_
        refine vV.geti (z := 22) dX7_show_34 fl_X7_196 (by first | rfl | assumption) rfl rfl ?_
        try simp (decide := true) only [vUpd_s, vUpd_nk, vUpd_ni, vRow_s, vRow_n, fSet_s, fSet_n, ne_eq, not_false_eq_true]
        refine vV.ri dX7_show_37 rfl ?_
        obtain ⟨K, hK⟩ : ∃ K, K = vUpd (vUpd (mTk M2 n) 200 5 (M2 200 12)) 200 20 0 := ⟨_, rfl⟩
        rw [← hK]
        have k204 : K 204 = pMix n (M2 212) (M 204) := by rw [hK, vUpd_row (by decide), vUpd_row (by decide)]; unfold mTk; rw [vRow_s, hk2.1 204 (by decide)]
        have kk : ∀ k, k ≠ 200 → k ≠ 204 → K k = M2 k := fun k h1 h2 => by rw [hK, vUpd_row h1, vUpd_row h1]; unfold mTk; rw [vRow_n h2]
        have kj : ∀ j, j ≠ 5 → j ≠ 20 → K 200 j = M2 200 j := fun j h1 h2 => by rw [hK, vUpd_ni h2, vUpd_ni h1]; unfold mTk; rw [vRow_n (by decide)]
        have k5 : K 200 5 = M2 200 12 := by rw [hK, vUpd_ni (by decide), vUpd_s]
        have k20 : K 200 20 = 0 := by rw [hK, vUpd_s]
        refine ⟨rfl, ⟨fun k hk => ?_, fun j hj => ?_, fun z => ?_⟩, _, ho.symm, ?_, ⟨?_, ?_⟩, k20⟩
        · simp at hk; rw [kk k hk.1 hk.2.1]; exact hk2.1 k (by simp; omega)
        · simp at hj; rw [kj j (by omega) (by omega)]; exact hk2.2.1 j (by simp; omega)
        · unfold mOk; rw [kk 211 (by decide) (by decide), kk 212 (by decide) (by decide)]; exact hk2.2.2 z
        · have e22 : mTk M2 n 200 = M2 200 := vRow_n (by decide)
          first | (rw [e22]; exact q22) | exact q22
        · rw [k204, q212]
        · rw [k5, q12]
      · skip
        omega
    | some k =>
      rw [if_pos (show (some k).isSome = true from rfl)] at ho
      rw [pOr_s] at q23
      refine vV.aload_n dX7_show_14 rfl ?_
      refine vV.geti (z := 23) dX7_show_15 fl_X7_206 (by first | rfl | assumption) rfl rfl ?_
      refine vV.if_lt (tgt := 24) dX7_show_18 (by decide) (fun h18 => ?_) (fun h18 => ?_)
      · skip
        omega
      · skip
        refine vV.bipush (v := (-5)) dX7_show_21 (by decide) (by decide) ?_
        refine vV.ri dX7_show_23 rfl ?_
        exact ⟨rfl, hk2.s, none, ho.symm, rfl, hk2.1 204 (by decide), hk2.2.1 5 (by decide), hk2.2.1 20 (by decide)⟩
    skip
  · skip
    rw [if_pos (pOr6_some h4)] at ho
    refine vV.bipush (v := (-5)) dX7_show_7 (by decide) (by decide) ?_
    refine vV.ri dX7_show_9 rfl ?_
    exact ⟨rfl, hk1.s, none, ho.symm, rfl, hk1.1 204 (by decide), hk1.2.1 5 (by decide), hk1.2.1 20 (by decide)⟩
