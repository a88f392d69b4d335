/-! ===== own: the reference: judge, show ===== -/
theorem jS_begin {M N : vM} {n a : Nat} {l : List Int} (hW : mW M n) (h : mBegin M N n) : jS M N n a l 0 := by
  have hS := mS_begin hW h
  obtain ⟨b1, b2, b3, b4, b5, b6, b7, b8, b9, b10, b11⟩ := h
  exact ⟨b1, fun j hj => b2 j (by simp at hj ⊢; omega), hS, b3, b5, b4⟩
theorem c_X7_judgeAll {d : List Nat} {T : vT} {M : vM} {n a : Nat} {l : List Int} (hB : vB T) (hW : mW M n) (ha : l.length = a) (ha2 : a ≤ 180) (hrg : ∀ k, 0 ≤ qL l k ∧ qL l k ≤ 3) (g22 : M 200 22 = a) (hhas : rHas (M 222) l) : vCon m_X7_judgeAll d d [vR 200] T M (vPv fun T1 M1 => T = T1 ∧ jE M M1 n a l) := by
  refine vCon.of (by decide) rfl rfl (Nat.le_of_ble_eq_true rfl) ?_
  refine vV.aload_n dX7_judgeAll_0 rfl ?_
  refine vV.cVv dX7_judgeAll_1 ml_X7_177 cw_X7_begin iw_X7_begin (by first | rfl | assumption) rfl (by unfold vRoom; decide) (c_X7_begin hB hW) rfl rfl (Nat.le_of_ble_eq_true rfl) ?_
  rintro _ N ⟨rfl, hb⟩
  refine vV.aload_n dX7_judgeAll_4 rfl ?_
  refine vV.bipush (v := (-6)) dX7_judgeAll_5 (by decide) (by decide) ?_
  refine vV.puti (z := 23) dX7_judgeAll_7 fl_X7_206 (by first | rfl | assumption) rfl rfl ?_
  refine vV.aload_n dX7_judgeAll_10 rfl ?_
  refine vV.bipush (v := (-6)) dX7_judgeAll_11 (by decide) (by decide) ?_
  refine vV.puti (z := 24) dX7_judgeAll_13 fl_X7_209 (by first | rfl | assumption) rfl rfl ?_
  refine vV.iconst dX7_judgeAll_16 (by decide) ?_
  refine vV.istore_n (L' := [_, _, _]) dX7_judgeAll_17 (by decide) rfl ?_
  exact l_X7_judgeAll hB ha ha2 hrg g22 hhas 0 (by omega) _ _ (jS_23 (Or.inr rfl) (jS_23 (Or.inl rfl) (jS_begin hW hb))) (by rw [vUpd_ni (by decide), vUpd_s]) (by rw [vUpd_s]; rfl) (fun i hi => by omega)
theorem mW_fS {M N : vM} {n : Nat} (h1 : mSame [200, 222] M N) (h2 : mSlot [22] M N) (hW : mW M n) : mW N n ∧ mPb N n = mPb M n ∧ mPos N n = mPos M n := by
  have r : ∀ k, k ∉ [200, 222] → N k = M k := h1
  have s : ∀ j, j ≠ 22 → N 200 j = M 200 j := fun j hj => h2 j (by simp; exact hj)
  have se : seM N = seM M := by unfold seM; rw [s 5 (by decide), s 6 (by decide), s 7 (by decide), s 8 (by decide), s 9 (by decide)]
  refine ⟨?_, ?_, ?_⟩
  · unfold mW; rw [s 4 (by decide), r 201 (by decide), r 202 (by decide), r 203 (by decide), r 204 (by decide), r 211 (by decide), r 212 (by decide), se]; exact hW
  · unfold mPb; rw [r 201 (by decide), r 202 (by decide), r 203 (by decide), r 211 (by decide), s 6 (by decide), s 7 (by decide)]
  · unfold mPos; rw [r 204 (by decide), r 212 (by decide), s 5 (by decide)]
theorem pDn_or (P : pP) (q : Nat → Int) (s : pPos) (a : Nat) : pOr (-6) (pDn P q s a) = if (pDn P q s a).getD a < a then (((pDn P q s a).getD a : Nat) : Int) else -6 := by
  cases hz : pDn P q s a with
  | none => show (-6 : Int) = if a < a then _ else _; rw [if_neg (by omega)]
  | some k => have h := (pFind_some hz).1; show (k : Int) = if k < a then (k : Int) else -6; rw [if_pos h]
def mKeepJ (M M1 : vM) : Prop := mSame [200, 211, 212, 218, 219, 222] M M1 ∧ mSlot [12, 13, 14, 15, 16, 22, 23, 24] M M1 ∧ (mOk M → mOk M1)
theorem mKeepJ.rf (M : vM) : mKeepJ M M := ⟨fun _ _ => rfl, fun _ _ => rfl, id⟩
theorem mKeepJ.f {M M1 : vM} (h1 : mSame [200, 222] M M1) (h2 : mSlot [22] M M1) : mKeepJ M M1 := ⟨fun k hk => h1 k (by simp at hk ⊢; omega), fun j hj => h2 j (by simp at hj ⊢; omega), fun z => by unfold mOk; rw [h1 211 (by decide), h1 212 (by decide)]; exact z⟩
theorem mKeepJ.j {M M1 M2 : vM} {n a k : Nat} {l : List Int} (h : mKeepJ M M1) (h2 : jS M1 M2 n a l k) : mKeepJ M M2 := ⟨fun k hk => (h2.1 k (by simp at hk ⊢; omega)).trans (h.1 k hk), fun j hj => (h2.2.1 j (by simp at hj ⊢; omega)).trans (h.2.1 j hj), fun _ => ⟨h2.2.2.1.2.2.2.1, h2.2.2.1.2.2.1⟩⟩
theorem pOr6_none {o : Option Nat} (h : pOr (-6) o < 0) : o = none := by
  cases o with
  | none => rfl
  | some p => rw [pOr_s] at h; omega
theorem pOr6_some {o : Option Nat} (h : 0 ≤ pOr (-6) o) : o.isSome = true := by
  cases o with
  | none => rw [pOr_n] at h; omega
  | some p => rfl
theorem dX7_judge_0 : decode cX7_judge 0 = .ok (.iload_n 1, 1) := by decide +kernel
theorem dX7_judge_1 : decode cX7_judge 1 = .ok (.i2l, 1) := by decide +kernel
theorem dX7_judge_2 : decode cX7_judge 2 = .ok (.lconst 0, 1) := by decide +kernel
theorem dX7_judge_3 : decode cX7_judge 3 = .ok (.ldc2_w 215, 3) := by decide +kernel
theorem dX7_judge_6 : decode cX7_judge 6 = .ok (.invokestatic 92, 3) := by decide +kernel
theorem dX7_judge_9 : decode cX7_judge 9 = .ok (.ifCond .ne 6, 3) := by decide +kernel
theorem dX7_judge_12 : decode cX7_judge 12 = .ok (.bipush (-2), 2) := by decide +kernel
theorem dX7_judge_14 : decode cX7_judge 14 = .ok (.ireturn, 1) := by decide +kernel
theorem dX7_judge_15 : decode cX7_judge 15 = .ok (.aload_n 0, 1) := by decide +kernel
theorem dX7_judge_16 : decode cX7_judge 16 = .ok (.invokevirtual 217, 3) := by decide +kernel
theorem dX7_judge_19 : decode cX7_judge 19 = .ok (.ifCond .lt 6, 3) := by decide +kernel
theorem dX7_judge_22 : decode cX7_judge 22 = .ok (.bipush (-5), 2) := by decide +kernel
theorem dX7_judge_24 : decode cX7_judge 24 = .ok (.ireturn, 1) := by decide +kernel
theorem dX7_judge_25 : decode cX7_judge 25 = .ok (.aload_n 0, 1) := by decide +kernel
theorem dX7_judge_26 : decode cX7_judge 26 = .ok (.invokevirtual 220, 3) := by decide +kernel
theorem dX7_judge_29 : decode cX7_judge 29 = .ok (.iload_n 1, 1) := by decide +kernel
theorem dX7_judge_30 : decode cX7_judge 30 = .ok (.tableswitch 59 0 4 #[34, 39, 44, 49, 54], 34) := by decide +kernel
theorem dX7_judge_64 : decode cX7_judge 64 = .ok (.aload_n 0, 1) := by decide +kernel
theorem dX7_judge_65 : decode cX7_judge 65 = .ok (.getfield 196, 3) := by decide +kernel
theorem dX7_judge_68 : decode cX7_judge 68 = .ok (.ireturn, 1) := by decide +kernel
theorem dX7_judge_69 : decode cX7_judge 69 = .ok (.aload_n 0, 1) := by decide +kernel
theorem dX7_judge_70 : decode cX7_judge 70 = .ok (.getfield 206, 3) := by decide +kernel
theorem dX7_judge_73 : decode cX7_judge 73 = .ok (.ireturn, 1) := by decide +kernel
theorem dX7_judge_74 : decode cX7_judge 74 = .ok (.aload_n 0, 1) := by decide +kernel
theorem dX7_judge_75 : decode cX7_judge 75 = .ok (.getfield 209, 3) := by decide +kernel
theorem dX7_judge_78 : decode cX7_judge 78 = .ok (.ireturn, 1) := by decide +kernel
theorem dX7_judge_79 : decode cX7_judge 79 = .ok (.aload_n 0, 1) := by decide +kernel
theorem dX7_judge_80 : decode cX7_judge 80 = .ok (.invokevirtual 212, 3) := by decide +kernel
theorem dX7_judge_83 : decode cX7_judge 83 = .ok (.ireturn, 1) := by decide +kernel
theorem dX7_judge_84 : decode cX7_judge 84 = .ok (.aload_n 0, 1) := by decide +kernel
theorem dX7_judge_85 : decode cX7_judge 85 = .ok (.getfield 123, 3) := by decide +kernel
theorem dX7_judge_88 : decode cX7_judge 88 = .ok (.ireturn, 1) := by decide +kernel
theorem dX7_judge_89 : decode cX7_judge 89 = .ok (.aload_n 0, 1) := by decide +kernel
theorem dX7_judge_90 : decode cX7_judge 90 = .ok (.invokevirtual 223, 3) := by decide +kernel
theorem dX7_judge_93 : decode cX7_judge 93 = .ok (.ireturn, 1) := by decide +kernel
theorem c_X7_judge {d : List Nat} {T : vT} {M : vM} {n m : Nat} {w : Int} (hB : vB T) (hW : mW M n) (hm : M 200 20 = m) (hle : m ≤ 40) : vCon m_X7_judge d d [vR 200, vI w] T M (vPi fun r T1 M1 => T = T1 ∧ mKeepJ M M1 ∧ r = rJudge w (mPb M n) (M 220) m (mPos M n)) := by
  obtain ⟨J, hJ⟩ : ∃ J, J = rJudge w (mPb M n) (M 220) m (mPos M n) := ⟨_, rfl⟩
  rw [← hJ]
  unfold rJudge at hJ
  refine vCon.of (by decide) rfl rfl (Nat.le_of_ble_eq_true rfl) ?_
  refine vV.iload_n dX7_judge_0 rfl ?_
  refine vV.i2l dX7_judge_1 ?_
  refine vV.lconst (v := 0) dX7_judge_2 (by decide) (by decide) ?_
  refine vV.ldc2 (v := 5) dX7_judge_3 kl_X7_215 (by decide) (by decide) ?_
  refine vV.cSi dX7_judge_6 ml_X7_92 cw_X7_in sw_X7_in (by unfold vRoom; decide) c_X7_in rfl rfl (Nat.le_of_ble_eq_true rfl) ?_
  rintro x6 _ _ hx6 ⟨hy6, rfl, rfl⟩
  unfold pIn at hy6
  refine vV.if_ne (tgt := 15) dX7_judge_9 (by decide) (fun h9 => ?_) (fun h9 => ?_)
  · skip
    have hw := yes01 hy6 h9
    rw [if_neg (fun c => c hw)] at hJ
    refine vV.aload_n dX7_judge_15 rfl ?_
    refine vV.cVi dX7_judge_16 ml_X7_217 cw_X7_fault iw_X7_fault (by first | rfl | assumption) rfl (by unfold vRoom; decide) (c_X7_fault hB hm hle) rfl rfl (Nat.le_of_ble_eq_true rfl) ?_
    rintro x16 _ M1 hx16 ⟨rfl, hy16, f1, f2, f3⟩
    subst hy16
    have hk1 := mKeepJ.f f1 f2
    refine vV.if_lt (tgt := 25) dX7_judge_19 (by decide) (fun h19 => ?_) (fun h19 => ?_)
    · skip
      have hnn := pOr6_none h19
      have hno := pNo_of hnn
      rw [hnn, if_neg (by simp)] at hJ
      have hlen := pL_len hno m (Nat.le_refl m)
      have hfl := f3 hnn
      obtain ⟨hW1, eP, ePos⟩ := mW_fS f1 f2 hW
      clear f3 hnn
      refine vV.aload_n dX7_judge_25 rfl ?_
      refine vV.cVv dX7_judge_26 ml_X7_220 cw_X7_judgeAll iw_X7_judgeAll (by first | rfl | assumption) rfl (by unfold vRoom; decide) (c_X7_judgeAll (n := n) (a := (pL (M 220) m).length) (l := pL (M 220) m) hB hW1 rfl (by omega) (fun k => qL_rg k) hfl.2.2.1 hfl.2.2.2) rfl rfl (Nat.le_of_ble_eq_true rfl) ?_
      rintro _ M2 ⟨rfl, e, he, hJS, q23, q24⟩
      have hk2 := hk1.j hJS
      have q22 : M2 200 22 = ((pL (M 220) m).length : Nat) := by rw [hJS.2.1 22 (by decide)]; exact hfl.2.2.1
      obtain ⟨-, -, hm2, -, q12, q212⟩ := hJS
      rw [eP, ePos] at he q23 q24 q12 q212
      rw [pDn_or, he] at q23
      unfold pJ at hJ
      rw [he] at hJ
      unfold pJw at hJ
      have hPn : (mPb M n).1 = n := rfl
      rw [hPn, ← q12, ← q212, ← q23, ← q24, ← q22] at hJ
      have hc2 := hm2.1
      have hn2 := hm2.2.1
      have ht2 := hm2.2.2.1
      clear he q12 q212 q23 q24 hm2 hfl
      refine vV.iload_n dX7_judge_29 rfl ?_
      have hs30 : (w < 0 ∨ 4 < w) ∨ w = 0 ∨ w = 1 ∨ w = 2 ∨ w = 3 ∨ w = 4 := by omega
      rcases hs30 with h30 | h30 | h30 | h30 | h30 | h30
      · refine vV.tswD (tgt := 89) dX7_judge_30 h30 (by decide) ?_
        refine vV.aload_n dX7_judge_89 rfl ?_
        refine vV.cVi dX7_judge_90 ml_X7_223 cw_X7_sumOfTurns iw_X7_sumOfTurns (by first | rfl | assumption) rfl (by unfold vRoom; decide) (c_X7_sumOfTurns hB hc2 hn2 ht2) rfl rfl (Nat.le_of_ble_eq_true rfl) ?_
        rintro x90 _ _ hx90 ⟨rfl, rfl, rfl⟩
        refine vV.ri dX7_judge_93 rfl ?_
        exact ⟨rfl, hk2, by rw [hJ, if_neg (by omega), if_neg (by omega), if_neg (by omega), if_neg (by omega), if_neg (by omega)]⟩
      · refine vV.tsw (tgt := 64) dX7_judge_30 (0) h30 (by decide) (by decide) rfl (by decide) ?_
        refine vV.aload_n dX7_judge_64 rfl ?_
        refine vV.geti (z := 22) dX7_judge_65 fl_X7_196 (by first | rfl | assumption) rfl rfl ?_
        refine vV.ri dX7_judge_68 rfl ?_
        exact ⟨rfl, hk2, by rw [hJ, if_pos h30]⟩
      · refine vV.tsw (tgt := 69) dX7_judge_30 (1) h30 (by decide) (by decide) rfl (by decide) ?_
        refine vV.aload_n dX7_judge_69 rfl ?_
        refine vV.geti (z := 23) dX7_judge_70 fl_X7_206 (by first | rfl | assumption) rfl rfl ?_
        refine vV.ri dX7_judge_73 rfl ?_
        exact ⟨rfl, hk2, by rw [hJ, if_neg (by omega), if_pos h30]⟩
      · refine vV.tsw (tgt := 74) dX7_judge_30 (2) h30 (by decide) (by decide) rfl (by decide) ?_
        refine vV.aload_n dX7_judge_74 rfl ?_
        refine vV.geti (z := 24) dX7_judge_75 fl_X7_209 (by first | rfl | assumption) rfl rfl ?_
        refine vV.ri dX7_judge_78 rfl ?_
        exact ⟨rfl, hk2, by rw [hJ, if_neg (by omega), if_neg (by omega), if_pos h30]⟩
      · refine vV.tsw (tgt := 79) dX7_judge_30 (3) h30 (by decide) (by decide) rfl (by decide) ?_
        refine vV.aload_n dX7_judge_79 rfl ?_
        refine vV.cVi dX7_judge_80 ml_X7_212 cw_X7_simStanding iw_X7_simStanding (by first | rfl | assumption) rfl (by unfold vRoom; decide) (c_X7_simStanding hB hc2 hn2) rfl rfl (Nat.le_of_ble_eq_true rfl) ?_
        rintro x80 _ _ hx80 ⟨rfl, rfl, rfl⟩
        refine vV.ri dX7_judge_83 rfl ?_
        exact ⟨rfl, hk2, by rw [hJ, if_neg (by omega), if_neg (by omega), if_neg (by omega), if_pos h30]⟩
      · refine vV.tsw (tgt := 84) dX7_judge_30 (4) h30 (by decide) (by decide) rfl (by decide) ?_
        refine vV.aload_n dX7_judge_84 rfl ?_
        refine vV.geti (z := 12) dX7_judge_85 fl_X7_123 (by first | rfl | assumption) rfl rfl ?_
        refine vV.ri dX7_judge_88 rfl ?_
        exact ⟨rfl, hk2, by rw [hJ, if_neg (by omega), if_neg (by omega), if_neg (by omega), if_neg (by omega), if_pos h30]⟩
      skip
    · skip
      rw [if_pos (pOr6_some h19)] at hJ
      refine vV.bipush (v := (-5)) dX7_judge_22 (by decide) (by decide) ?_
      refine vV.ri dX7_judge_24 rfl ?_
      exact ⟨rfl, hk1, hJ.symm⟩
  · skip
    rw [if_pos (no01 hy6 h9)] at hJ
    refine vV.bipush (v := (-2)) dX7_judge_12 (by decide) (by decide) ?_
    refine vV.ri dX7_judge_14 rfl ?_
    exact ⟨rfl, mKeepJ.rf M, hJ.symm⟩
