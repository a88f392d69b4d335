/-! ===== own: the reference: judgeAll ===== -/
/-- the reference's show stands behind k things -/
def jS (M N : vM) (n a : Nat) (l : List Int) (k : Nat) : Prop := mSame [200, 211, 212, 218, 219] M N ∧ mSlot [12, 13, 14, 15, 16, 23, 24] M N ∧ mS N n k none none ∧ N 211 = pMix n (M 201) (M 211) ∧ N 200 12 = (pRn (mPb M n) (qL l) (mPos M n) k).1 ∧ N 212 = (pRn (mPb M n) (qL l) (mPos M n) k).2
theorem jS.can {M N : vM} {n a k : Nat} {l : List Int} (h : jS M N n a l k) (th : Int) : pCan n (N 211) (N 212) (N 200 12) th = pCn (mPb M n) th (pRn (mPb M n) (qL l) (mPos M n) k) := by
  obtain ⟨-, -, -, h1, h2, h3⟩ := h
  rw [h1, h2, h3]; rfl
theorem jS_23 {M N : vM} {n a k : Nat} {l : List Int} {j y : Int} (hj : j = 23 ∨ j = 24) (h : jS M N n a l k) : jS M (vUpd N 200 j y) n a l k := by
  obtain ⟨h1, h2, h3, h4, h5, h6⟩ := h
  have r : ∀ i, i ≠ 200 → vUpd N 200 j y i = N i := fun i hi => vUpd_row hi
  have s : ∀ i, i ≠ 23 → i ≠ 24 → vUpd N 200 j y 200 i = N 200 i := fun i h1 h2 => vUpd_ni (by omega)
  refine ⟨fun i hi => by rw [r i (by simp at hi; omega)]; exact h1 i hi, fun i hi => by rw [s i (by simp at hi; omega) (by simp at hi; omega)]; exact h2 i hi, ?_, by rw [r _ (by decide)]; exact h4, by rw [s _ (by decide) (by decide)]; exact h5, by rw [r _ (by decide)]; exact h6⟩
  unfold mS
  rw [r 212 (by decide), r 211 (by decide), r 202 (by decide), r 203 (by decide), s 4 (by decide) (by decide), s 13 (by decide) (by decide), s 15 (by decide) (by decide), s 14 (by decide) (by decide), s 7 (by decide) (by decide), s 6 (by decide) (by decide), s 12 (by decide) (by decide), s 16 (by decide) (by decide)]
  exact h3
/-- behind judgeAll -/
def jE (M M1 : vM) (n a : Nat) (l : List Int) : Prop := ∃ e, (pDn (mPb M n) (qL l) (mPos M n) a).getD a = e ∧ jS M M1 n a l e ∧ M1 200 23 = pOr (-6) (pDn (mPb M n) (qL l) (mPos M n) a) ∧ M1 200 24 = pOr (-6) (pFind (pFf (mPb M n) (qL l) (mPos M n)) e)
theorem dX7_judgeAll_0 : decode cX7_judgeAll 0 = .ok (.aload_n 0, 1) := by decide +kernel
theorem dX7_judgeAll_1 : decode cX7_judgeAll 1 = .ok (.invokevirtual 177, 3) := by decide +kernel
theorem dX7_judgeAll_4 : decode cX7_judgeAll 4 = .ok (.aload_n 0, 1) := by decide +kernel
theorem dX7_judgeAll_5 : decode cX7_judgeAll 5 = .ok (.bipush (-6), 2) := by decide +kernel
theorem dX7_judgeAll_7 : decode cX7_judgeAll 7 = .ok (.putfield 206, 3) := by decide +kernel
theorem dX7_judgeAll_10 : decode cX7_judgeAll 10 = .ok (.aload_n 0, 1) := by decide +kernel
theorem dX7_judgeAll_11 : decode cX7_judgeAll 11 = .ok (.bipush (-6), 2) := by decide +kernel
theorem dX7_judgeAll_13 : decode cX7_judgeAll 13 = .ok (.putfield 209, 3) := by decide +kernel
theorem dX7_judgeAll_16 : decode cX7_judgeAll 16 = .ok (.iconst 0, 1) := by decide +kernel
theorem dX7_judgeAll_17 : decode cX7_judgeAll 17 = .ok (.istore_n 1, 1) := by decide +kernel
theorem dX7_judgeAll_18 : decode cX7_judgeAll 18 = .ok (.iload_n 1, 1) := by decide +kernel
theorem dX7_judgeAll_19 : decode cX7_judgeAll 19 = .ok (.aload_n 0, 1) := by decide +kernel
theorem dX7_judgeAll_20 : decode cX7_judgeAll 20 = .ok (.getfield 196, 3) := by decide +kernel
theorem dX7_judgeAll_23 : decode cX7_judgeAll 23 = .ok (.if_icmp .ge 79, 3) := by decide +kernel
theorem dX7_judgeAll_26 : decode cX7_judgeAll 26 = .ok (.aload_n 0, 1) := by decide +kernel
theorem dX7_judgeAll_27 : decode cX7_judgeAll 27 = .ok (.getfield 206, 3) := by decide +kernel
theorem dX7_judgeAll_30 : decode cX7_judgeAll 30 = .ok (.ifCond .ge 72, 3) := by decide +kernel
theorem dX7_judgeAll_33 : decode cX7_judgeAll 33 = .ok (.aload_n 0, 1) := by decide +kernel
theorem dX7_judgeAll_34 : decode cX7_judgeAll 34 = .ok (.aload_n 0, 1) := by decide +kernel
theorem dX7_judgeAll_35 : decode cX7_judgeAll 35 = .ok (.getfield 37, 3) := by decide +kernel
theorem dX7_judgeAll_38 : decode cX7_judgeAll 38 = .ok (.iload_n 1, 1) := by decide +kernel
theorem dX7_judgeAll_39 : decode cX7_judgeAll 39 = .ok (.iaload, 1) := by decide +kernel
theorem dX7_judgeAll_40 : decode cX7_judgeAll 40 = .ok (.invokevirtual 180, 3) := by decide +kernel
theorem dX7_judgeAll_43 : decode cX7_judgeAll 43 = .ok (.ifCond .ne 11, 3) := by decide +kernel
theorem dX7_judgeAll_46 : decode cX7_judgeAll 46 = .ok (.aload_n 0, 1) := by decide +kernel
theorem dX7_judgeAll_47 : decode cX7_judgeAll 47 = .ok (.iload_n 1, 1) := by decide +kernel
theorem dX7_judgeAll_48 : decode cX7_judgeAll 48 = .ok (.putfield 206, 3) := by decide +kernel
theorem dX7_judgeAll_51 : decode cX7_judgeAll 51 = .ok (.goto 45, 3) := by decide +kernel
theorem dX7_judgeAll_54 : decode cX7_judgeAll 54 = .ok (.aload_n 0, 1) := by decide +kernel
theorem dX7_judgeAll_55 : decode cX7_judgeAll 55 = .ok (.invokevirtual 212, 3) := by decide +kernel
theorem dX7_judgeAll_58 : decode cX7_judgeAll 58 = .ok (.istore_n 2, 1) := by decide +kernel
theorem dX7_judgeAll_59 : decode cX7_judgeAll 59 = .ok (.aload_n 0, 1) := by decide +kernel
theorem dX7_judgeAll_60 : decode cX7_judgeAll 60 = .ok (.aload_n 0, 1) := by decide +kernel
theorem dX7_judgeAll_61 : decode cX7_judgeAll 61 = .ok (.getfield 37, 3) := by decide +kernel
theorem dX7_judgeAll_64 : decode cX7_judgeAll 64 = .ok (.iload_n 1, 1) := by decide +kernel
theorem dX7_judgeAll_65 : decode cX7_judgeAll 65 = .ok (.iaload, 1) := by decide +kernel
theorem dX7_judgeAll_66 : decode cX7_judgeAll 66 = .ok (.invokevirtual 174, 3) := by decide +kernel
theorem dX7_judgeAll_69 : decode cX7_judgeAll 69 = .ok (.aload_n 0, 1) := by decide +kernel
theorem dX7_judgeAll_70 : decode cX7_judgeAll 70 = .ok (.aload_n 0, 1) := by decide +kernel
theorem dX7_judgeAll_71 : decode cX7_judgeAll 71 = .ok (.getfield 209, 3) := by decide +kernel
theorem dX7_judgeAll_74 : decode cX7_judgeAll 74 = .ok (.ifCond .ge 15, 3) := by decide +kernel
theorem dX7_judgeAll_77 : decode cX7_judgeAll 77 = .ok (.aload_n 0, 1) := by decide +kernel
theorem dX7_judgeAll_78 : decode cX7_judgeAll 78 = .ok (.invokevirtual 212, 3) := by decide +kernel
theorem dX7_judgeAll_81 : decode cX7_judgeAll 81 = .ok (.iload_n 2, 1) := by decide +kernel
theorem dX7_judgeAll_82 : decode cX7_judgeAll 82 = .ok (.if_icmp .eq 7, 3) := by decide +kernel
theorem dX7_judgeAll_85 : decode cX7_judgeAll 85 = .ok (.iload_n 1, 1) := by decide +kernel
theorem dX7_judgeAll_86 : decode cX7_judgeAll 86 = .ok (.goto 7, 3) := by decide +kernel
theorem dX7_judgeAll_89 : decode cX7_judgeAll 89 = .ok (.aload_n 0, 1) := by decide +kernel
theorem dX7_judgeAll_90 : decode cX7_judgeAll 90 = .ok (.getfield 209, 3) := by decide +kernel
theorem dX7_judgeAll_93 : decode cX7_judgeAll 93 = .ok (.putfield 209, 3) := by decide +kernel
theorem dX7_judgeAll_96 : decode cX7_judgeAll 96 = .ok (.iinc 1 1, 3) := by decide +kernel
theorem dX7_judgeAll_99 : decode cX7_judgeAll 99 = .ok (.goto (-81), 3) := by decide +kernel
theorem dX7_judgeAll_102 : decode cX7_judgeAll 102 = .ok (.return_, 1) := by decide +kernel
theorem l_X7_jaF {d : List Nat} {T : vT} {N : vM} {i : Int} {Q : vT → vM → Prop} (hB : vB T) (h : 0 ≤ N 200 23) (hQ : Q T N) (x2 : Option vA) : vV m_X7_judgeAll d d (vPv Q) 18 [some (vR 200), some (vI i), x2] [] d T N := by
  refine vV.iload_n dX7_judgeAll_18 rfl ?_
  refine vV.aload_n dX7_judgeAll_19 rfl ?_
  refine vV.geti (z := 22) dX7_judgeAll_20 fl_X7_196 (by first | rfl | assumption) rfl rfl ?_
  refine vV.icmp_ge (tgt := 102) dX7_judgeAll_23 (by decide) (fun h23 => ?_) (fun h23 => ?_)
  · skip
    refine vV.rv dX7_judgeAll_102 rfl ?_
    exact hQ
  · skip
    refine vV.aload_n dX7_judgeAll_26 rfl ?_
    refine vV.geti (z := 23) dX7_judgeAll_27 fl_X7_206 (by first | rfl | assumption) rfl rfl ?_
    refine vV.if_ge (tgt := 102) dX7_judgeAll_30 (by decide) (fun h30 => ?_) (fun h30 => ?_)
    · skip
      refine vV.rv dX7_judgeAll_102 rfl ?_
      exact hQ
    · skip
      omega
theorem l_X7_ja93 {d : List Nat} {T : vT} {M N : vM} {n a k : Nat} {l : List Int} {y : Int} {Q : vT → vM → Prop} (x2 : Option vA) (ha2 : k < 180)
    (hS : jS M N n a l (k + 1)) (h23 : N 200 23 = -6) (hy : y = pOr (-6) (pFind (pFf (mPb M n) (qL l) (mPos M n)) (k + 1)))
    (ih : ∀ N1 x2, jS M N1 n a l (k + 1) → N1 200 23 = -6 → N1 200 24 = pOr (-6) (pFind (pFf (mPb M n) (qL l) (mPos M n)) (k + 1)) → vV m_X7_judgeAll d d (vPv Q) 18 [some (vR 200), some (vI ((k + 1 : Nat) : Int)), x2] [] d T N1) :
    vV m_X7_judgeAll d d (vPv Q) 93 [some (vR 200), some (vI k), x2] [vI y, vR 200] d T N := by
  refine vV.puti (z := 24) dX7_judgeAll_93 fl_X7_209 (by first | rfl | assumption) rfl rfl ?_
  refine vV.iinc (L' := [_, _, _]) dX7_judgeAll_96 (by decide) rfl (⟨by omega, by omega⟩) rfl ?_
  refine vV.goto (tgt := 18) dX7_judgeAll_99 (by decide) ?_
  exact ih _ _ (jS_23 (Or.inr rfl) hS) (by rw [vUpd_ni (by decide)]; exact h23) (by rw [vUpd_s]; exact hy)
theorem l_X7_judgeAll {d : List Nat} {T : vT} {M : vM} {n a : Nat} {l : List Int} (hB : vB T) (ha : l.length = a) (ha2 : a ≤ 180) (hrg : ∀ k, 0 ≤ qL l k ∧ qL l k ≤ 3) (h22 : M 200 22 = a) (hhas : rHas (M 222) l) : ∀ k, k ≤ a → ∀ N x2, jS M N n a l k → N 200 23 = -6 → N 200 24 = pOr (-6) (pFind (pFf (mPb M n) (qL l) (mPos M n)) k) → (∀ i, i < k → (!pCn (mPb M n) (qL l i) (pRn (mPb M n) (qL l) (mPos M n) i)) = false) →
    vV m_X7_judgeAll d d (vPv fun T1 M1 => T = T1 ∧ jE M M1 n a l) 18 [some (vR 200), some (vI k), x2] [] d T N := by
  refine vUp ?_
  intro k hk ih N x2 hS g23 g24 hf
  have hq := hrg k
  have hca := hS.can (qL l k)
  have hm := hS.2.2.1
  have e22 : N 200 22 = a := by rw [hS.2.1 22 (by decide)]; exact h22
  have e222 : N 222 = M 222 := hS.1 222 (by decide)
  have h6 := hS.2.2.2.2.2
  obtain ⟨fo, hfo⟩ : ∃ fo, fo = pFind (pFf (mPb M n) (qL l) (mPos M n)) k := ⟨_, rfl⟩
  have hfs1 : ∀ p, fo = some p → pFind (pFf (mPb M n) (qL l) (mPos M n)) (k + 1) = some p := fun p h => pFind_s1 (hfo.symm.trans h)
  have hfs2 : fo = none → pFind (pFf (mPb M n) (qL l) (mPos M n)) (k + 1) = if pFf (mPb M n) (qL l) (mPos M n) k then some k else none := fun h => pFind_s2 (hfo.symm.trans h)
  have hEnd : k = a → jE M N n a l := fun h => ⟨k, by rw [show pDn (mPb M n) (qL l) (mPos M n) a = none from pFind_no (fun i hi => hf i (by omega))]; exact h.symm, hS, by rw [show pDn (mPb M n) (qL l) (mPos M n) a = none from pFind_no (fun i hi => hf i (by omega))]; exact g23, g24⟩
  have hBad : k < a → (!pCn (mPb M n) (qL l k) (pRn (mPb M n) (qL l) (mPos M n) k)) = true → jE M (vUpd N 200 23 k) n a l := fun h1 h2 => by
    have hd : pDn (mPb M n) (qL l) (mPos M n) a = some k := pFind_yes h1 h2 hf
    exact ⟨k, by rw [hd]; rfl, jS_23 (Or.inl rfl) hS, by rw [vUpd_s, hd]; rfl, by rw [vUpd_ni (by decide)]; exact g24⟩
  rw [← hfo] at g24
  refine vV.iload_n dX7_judgeAll_18 rfl ?_
  refine vV.aload_n dX7_judgeAll_19 rfl ?_
  refine vV.geti (z := 22) dX7_judgeAll_20 fl_X7_196 (by first | rfl | assumption) rfl rfl ?_
  refine vV.icmp_ge (tgt := 102) dX7_judgeAll_23 (by decide) (fun h23 => ?_) (fun h23 => ?_)
  · skip
    refine vV.rv dX7_judgeAll_102 rfl ?_
    exact ⟨rfl, hEnd (by omega)⟩
  · skip
    refine vV.aload_n dX7_judgeAll_26 rfl ?_
    refine vV.geti (z := 23) dX7_judgeAll_27 fl_X7_206 (by first | rfl | assumption) rfl rfl ?_
    refine vV.if_ge (tgt := 102) dX7_judgeAll_30 (by decide) (fun h30 => ?_) (fun h30 => ?_)
    · skip
      omega
    · skip
      refine vV.aload_n dX7_judgeAll_33 rfl ?_
      refine vV.aload_n dX7_judgeAll_34 rfl ?_
      refine vV.getr dX7_judgeAll_35 fl_X7_37 (by first | rfl | assumption) rfl (by first | assumption | exact hB _ _ _ rfl) ?_
      refine vV.iload_n dX7_judgeAll_38 rfl ?_
      refine vV.iald dX7_judgeAll_39 (by first | rfl | assumption) (by omega) (by omega) ?_
      rw [e222, qL_has hhas (show k < l.length by omega)]
      refine vV.cVi dX7_judgeAll_40 ml_X7_180 cw_X7_can iw_X7_can (by first | rfl | assumption) rfl (by unfold vRoom; decide) (c_X7_can hB hm.1 hm.2.1 hm.2.2.2.2.2.2.1 hq.1 hq.2) rfl rfl (Nat.le_of_ble_eq_true rfl) ?_
      rintro x40 _ _ hx40 ⟨hy40, rfl, rfl⟩
      rw [hca] at hy40
      subst hy40
      refine vV.if_ne (tgt := 54) dX7_judgeAll_43 (by decide) (fun h43 => ?_) (fun h43 => ?_)
      · skip
        have hye := bI_ne h43
        have ih2 := fun N1 x2 q1 q2 q3 => ih (by omega) N1 x2 q1 q2 q3 (fun i hi => (Nat.lt_succ_iff_lt_or_eq.mp hi).elim (hf i) (fun e => by subst e; rw [hye]; rfl))
        refine vV.aload_n dX7_judgeAll_54 rfl ?_
        refine vV.cVi dX7_judgeAll_55 ml_X7_212 cw_X7_simStanding iw_X7_simStanding (by first | rfl | assumption) rfl (by unfold vRoom; decide) (c_X7_simStanding hB hm.1 hm.2.1) rfl rfl (Nat.le_of_ble_eq_true rfl) ?_
        rintro x55 _ _ hx55 ⟨hy55, rfl, rfl⟩
        rw [h6] at hy55
        subst hy55
        refine vV.istore_n (L' := [_, _, _]) dX7_judgeAll_58 (by decide) rfl ?_
        refine vV.aload_n dX7_judgeAll_59 rfl ?_
        refine vV.aload_n dX7_judgeAll_60 rfl ?_
        refine vV.getr dX7_judgeAll_61 fl_X7_37 (by first | rfl | assumption) rfl (by first | assumption | exact hB _ _ _ rfl) ?_
        refine vV.iload_n dX7_judgeAll_64 rfl ?_
        refine vV.iald dX7_judgeAll_65 (by first | rfl | assumption) (by omega) (by omega) ?_
        rw [e222, qL_has hhas (show k < l.length by omega)]
        refine vV.cVv dX7_judgeAll_66 ml_X7_174 cw_X7_doThing iw_X7_doThing (by first | rfl | assumption) rfl (by unfold vRoom; decide) (c_X7_doThing hB hm (by omega) hq.1 hq.2 (by rw [hca]; exact hye)) rfl rfl (Nat.le_of_ble_eq_true rfl) ?_
        rintro _ N1 ⟨rfl, htk, hS1⟩
        obtain ⟨h1, h2, h3, h4, h5, h6⟩ := hS
        obtain ⟨t1, t2, t3, t4, t5, t6, t7, t8, t9⟩ := htk
        have hJ1 : jS M N1 n a l (k + 1) := by
          refine ⟨fun i hi => by rw [t1 i (by simp at hi ⊢; omega)]; exact h1 i hi, fun i hi => by rw [t2 i (by simp at hi ⊢; omega)]; exact h2 i hi, hS1, by rw [t1 211 (by decide)]; exact h4, ?_, ?_⟩
          · rw [t4, h5]; rfl
          · rw [t3, h4, h5, h6, h1 202 (by decide), h1 203 (by decide), h2 6 (by decide)]; rfl
        have e23 : N1 200 23 = -6 := by rw [t2 23 (by decide)]; exact g23
        have e24 : N1 200 24 = pOr (-6) fo := by rw [t2 24 (by decide)]; exact g24
        have hc1 : N1 200 4 = n := hS1.1
        have e6 := hJ1.2.2.2.2.2
        refine vV.aload_n dX7_judgeAll_69 rfl ?_
        refine vV.aload_n dX7_judgeAll_70 rfl ?_
        refine vV.geti (z := 24) dX7_judgeAll_71 fl_X7_209 (by first | rfl | assumption) rfl rfl ?_
        rw [e24]
        refine vV.if_ge (tgt := 89) dX7_judgeAll_74 (by decide) (fun h74 => ?_) (fun h74 => ?_)
        · skip
          have hfa : N1 200 24 = pOr (-6) (pFind (pFf (mPb M n) (qL l) (mPos M n)) (k + 1)) := by { rw [e24]; cases hq2 : fo with | none => (rw [hq2, pOr_n] at h74; omega) | some p => rw [hfs1 p hq2] }
          refine vV.aload_n dX7_judgeAll_89 rfl ?_
          refine vV.geti (z := 24) dX7_judgeAll_90 fl_X7_209 (by first | rfl | assumption) rfl rfl ?_
          exact l_X7_ja93 _ (by omega) hJ1 e23 hfa ih2
        · skip
          have hfoN : fo = none := by { cases hq2 : fo with | none => rfl | some p => (rw [hq2, pOr_s] at h74; omega) }
          refine vV.aload_n dX7_judgeAll_77 rfl ?_
          refine vV.cVi dX7_judgeAll_78 ml_X7_212 cw_X7_simStanding iw_X7_simStanding (by first | rfl | assumption) rfl (by unfold vRoom; decide) (c_X7_simStanding hB hc1 hm.2.1) rfl rfl (Nat.le_of_ble_eq_true rfl) ?_
          rintro x78 _ _ hx78 ⟨hy78, rfl, rfl⟩
          rw [e6] at hy78
          subst hy78
          refine vV.iload_n dX7_judgeAll_81 rfl ?_
          refine vV.icmp_eq (tgt := 89) dX7_judgeAll_82 (by decide) (fun h82 => ?_) (fun h82 => ?_)
          · skip
            have hfa : N1 200 24 = pOr (-6) (pFind (pFf (mPb M n) (qL l) (mPos M n)) (k + 1)) := by { rw [e24, hfs2 hfoN, hfoN, if_neg (by unfold pFf; simp; exact h82)] }
            refine vV.aload_n dX7_judgeAll_89 rfl ?_
            refine vV.geti (z := 24) dX7_judgeAll_90 fl_X7_209 (by first | rfl | assumption) rfl rfl ?_
            exact l_X7_ja93 _ (by omega) hJ1 e23 hfa ih2
          · skip
            have hfa : (k : Int) = pOr (-6) (pFind (pFf (mPb M n) (qL l) (mPos M n)) (k + 1)) := by { rw [hfs2 hfoN, if_pos (by unfold pFf; simp; exact h82)]; rfl }
            refine vV.iload_n dX7_judgeAll_85 rfl ?_
            refine vV.goto (tgt := 93) dX7_judgeAll_86 (by decide) ?_
            exact l_X7_ja93 _ (by omega) hJ1 e23 hfa ih2
      · skip
        have hno := bI_eq h43
        refine vV.aload_n dX7_judgeAll_46 rfl ?_
        refine vV.iload_n dX7_judgeAll_47 rfl ?_
        refine vV.puti (z := 23) dX7_judgeAll_48 fl_X7_206 (by first | rfl | assumption) rfl rfl ?_
        refine vV.goto (tgt := 96) dX7_judgeAll_51 (by decide) ?_
        refine vV.iinc (L' := [_, _, _]) dX7_judgeAll_96 (by decide) rfl (⟨by omega, by omega⟩) rfl ?_
        refine vV.goto (tgt := 18) dX7_judgeAll_99 (by decide) ?_
        exact l_X7_jaF hB (by rw [vUpd_s]; omega) ⟨rfl, hBad (by omega) (by rw [hno]; rfl)⟩ _
