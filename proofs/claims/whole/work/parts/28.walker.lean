/-! ===== own: the class's walker: the walk by a rule ===== -/
def pLS (s : pS) : Int := pLog s.1 (pOr (-1) s.2.2.1) (pOr (-1) s.2.2.2.2) s.2.2.2.1
/-- what a walk of the walker leaves as it was -/
def wKeep (M M1 : vM) : Prop := mSame [34, 35, 70, 76, 77] M M1 ∧ (∀ j, j ≠ 0 → M1 35 j = M 35 j) ∧ (sgZ M 30 → sgZ M1 30)
theorem wKeep.rf (M : vM) : wKeep M M := ⟨fun _ _ => rfl, fun _ _ => rfl, id⟩
theorem wKeep.tr {M M1 M2 : vM} (h1 : wKeep M M1) (h2 : wKeep M1 M2) : wKeep M M2 := ⟨fun k hk => (h2.1 k hk).trans (h1.1 k hk), fun j hj => (h2.2.1 j hj).trans (h1.2.1 j hj), fun z => h2.2.2 (h1.2.2 z)⟩
def wTj (M : vM) (rule : Int) (P : pP) (lag : Nat) (s0 : pS) (t : Nat) : Prop := wP M P.1 = P ∧ M 35 3 = lag ∧ (∃ hist, (∀ i, i ≤ t → hist i = (pTr rule P lag s0 i).2.1) ∧ wSt M P.1 t hist (pTr rule P lag s0 t)) ∧ ∀ i : Nat, i ≤ t → M 77 i = pLS (pTr rule P lag s0 i)
theorem wTj.S {M : vM} {rule : Int} {P : pP} {lag : Nat} {s0 : pS} {t : Nat} (h : wTj M rule P lag s0 t) : wS M P.1 t (pTr rule P lag s0 t).2.2.1 (pTr rule P lag s0 t).2.2.2.2 := by
  obtain ⟨-, -, ⟨hist, -, h1, -⟩, -⟩ := h; exact h1
theorem wTj.tu {M : vM} {rule : Int} {P : pP} {lag : Nat} {s0 : pS} {t : Nat} (h : wTj M rule P lag s0 t) : M 34 = (pTr rule P lag s0 t).2.1 := by
  obtain ⟨-, -, ⟨hist, -, -, -, -, h1, -⟩, -⟩ := h; exact h1
theorem wTj.man {M : vM} {rule : Int} {P : pP} {lag : Nat} {s0 : pS} {t : Nat} (h : wTj M rule P lag s0 t) : M 35 0 = (pTr rule P lag s0 t).1 := by
  obtain ⟨-, -, ⟨hist, -, -, -, h1, -⟩, -⟩ := h; exact h1
theorem wTj.lag3 {M : vM} {rule : Int} {P : pP} {lag : Nat} {s0 : pS} {t : Nat} (h : wTj M rule P lag s0 t) : lag ≤ 3 := by
  have h1 := h.S.1.2.2.2.2.2.2.2.2.2.2.2.1
  have h2 : M 35 3 ≤ 3 := h1.2
  have h3 := h.2.1
  omega
theorem wTj.log {M : vM} {rule : Int} {P : pP} {lag : Nat} {s0 : pS} {t i : Nat} (h : wTj M rule P lag s0 t) (hi : i ≤ t) : M 76 i = pPack (pTr rule P lag s0 i).2.1 P.1 := by
  obtain ⟨-, -, ⟨hist, h1, -, h2, -⟩, -⟩ := h
  rw [h2.1 i hi, h1 i hi]
/-- behind choose -/
def wCho (M N : vM) (P : pP) (c : pS) (t : Nat) (r : Int) : Prop := r = pThing P.2.1 c.1 c.2.2.1 ∧ mSame [70] M N ∧ wS N P.1 t c.2.2.1 c.2.2.2.2 ∧ N 70 3 = c.2.2.2.1 ∧ pCan P.1 P.2.1 c.2.1 c.1 r = true ∧ M 35 0 = c.1 ∧ M 34 = c.2.1
theorem c_X5_chooseT {d : List Nat} {T : vT} {M : vM} {rule : Int} {P : pP} {lag : Nat} {s0 : pS} {t : Nat} (hB : vB T) (h : wTj M rule P lag s0 t) (ht : t < 600) (hr0 : 0 ≤ rule) (hr3 : rule ≤ 3) : vCon m_X5_choose d d [vR 70, vI rule] T M (vPi fun r T1 N => T = T1 ∧ wCho M N P (pCh rule P (pTr rule P lag s0 (t - lag)).2.1 (pTr rule P lag s0 t)) t r) := by
  have hl3 := h.lag3
  obtain ⟨h1, h2, ⟨hist, h3, hS, hL, m1, m2, m3, m4⟩, h5⟩ := h
  rw [← h3 (t - lag) (by omega)]
  obtain ⟨s, hs⟩ : ∃ s, s = pTr rule P lag s0 t := ⟨_, rfl⟩
  rw [← hs] at hS m1 m2 m3 m4 ⊢
  clear h3 h5 hs
  obtain ⟨n, pl, fu, fa, gv, pt⟩ := P
  simp only [wP, Prod.mk.injEq, true_and] at h1
  obtain ⟨rfl, rfl, rfl, rfl, rfl⟩ := h1
  obtain ⟨s1, s2, s3, s4, s5, s6, s7⟩ := hS
  have hpl := s1.2.2.2.2.1
  have hman := s1.2.2.2.2.2.2.2.2.1
  have hdis := s1.2.2.2.2.2.2.2.2.2.2.2.2.2.2
  refine (c_X5_choose (d := d) hB ⟨s1, s2, s3, s4, s5, s6, s7⟩ hL (by omega) h2 hl3 hr0 hr3).imp ?_
  rintro r T1 N ⟨rfl, a1, a2, a3, a4, a5, a6⟩
  refine ⟨rfl, ?_, a2, ⟨sgW_70 a2 s1, ?_, pG1_lt s3, ?_, pL1_lt s5, ?_, by rw [a3 1 (by decide)]; exact s7⟩, ?_, ?_, m1, m2⟩
  · rw [a1]; unfold pCh; simp only; rw [← m1, ← m2]
  · rw [a4]; unfold pCh; simp only; rw [← m1, ← m2]
  · rw [a6]; unfold pCh; simp only; rw [← m1, ← m2]
  · rw [a5, a2 35 (by decide)]; unfold pW1; split <;> omega
  · rw [a5]; unfold pCh; simp only; rw [← m2, ← m3]
  · rw [a1]; unfold pCh; simp only; rw [← m1, ← m2]
    exact pThing_can hdis (fun j => hpl j) hman (fun k hk => ⟨pG1_lt s3 k hk, pG1_std (fun j => (s1.tu j).1) hk⟩)
theorem c_X5_actT {d : List Nat} {T : vT} {M N : vM} {rule r : Int} {P : pP} {lag : Nat} {s0 : pS} {t : Nat} (hB : vB T) (h : wTj M rule P lag s0 t) (ht : t < 600) (hc : wCho M N P (pCh rule P (pTr rule P lag s0 (t - lag)).2.1 (pTr rule P lag s0 t)) t r) : vCon m_X5_act d d [vR 70, vI r] T N (vPv fun T1 M1 => T = T1 ∧ wKeep M M1 ∧ wTj M1 rule P lag s0 (t + 1)) := by
  have hst := pTr_s rule P lag s0 t
  obtain ⟨h1, h2, ⟨hist, h3, hS, hL, m1, m2, m3, m4⟩, h5⟩ := h
  obtain ⟨c1, c2, c3, c4, c5, c6, c7⟩ := hc
  have hPs : pStep rule P (pTr rule P lag s0 (t - lag)).2.1 (pTr rule P lag s0 t) = pDo P r (pCh rule P (pTr rule P lag s0 (t - lag)).2.1 (pTr rule P lag s0 t)) := by rw [c1]; rfl
  rw [hPs] at hst
  obtain ⟨c, hcd⟩ : ∃ c, c = pCh rule P (pTr rule P lag s0 (t - lag)).2.1 (pTr rule P lag s0 t) := ⟨_, rfl⟩
  rw [← hcd] at hst c1 c3 c4 c5 c6 c7
  clear hPs hcd
  have e0 : P.1 = (wP M P.1).1 := rfl
  have e31 : P.2.1 = M 31 := by rw [← h1]; rfl
  have e32 : P.2.2.1 = M 32 := by rw [← h1]; rfl
  have e33 : P.2.2.2.1 = M 33 := by rw [← h1]; rfl
  have eg : P.2.2.2.2.1 = M 35 1 := by rw [← h1]; rfl
  have ep : P.2.2.2.2.2 = M 35 2 := by rw [← h1]; rfl
  have n31 : N 31 = M 31 := c2 31 (by decide)
  have n32 : N 32 = M 32 := c2 32 (by decide)
  have n33 : N 33 = M 33 := c2 33 (by decide)
  have n34 : N 34 = M 34 := c2 34 (by decide)
  have n35 : N 35 = M 35 := c2 35 (by decide)
  have hA := c_X5_act (d := d) hB c3 ht (by rw [n31, n34, n35, ← e31, c6, c7]; exact c5)
  intro l D q ρ sz hok hle
  intro p e ha hc1 hk s m args below hf hap hP hK
  obtain ⟨k, o, a1, a2, a3, ⟨⟨r', T1, M1, ρ1, b1, ⟨hr, hT, hk2, hS1⟩, b5⟩, b6⟩, a5⟩ := hA l D q ρ sz hok hle p e ha hc1 hk s m args below hf hap hP hK
  refine ⟨k, o, a1, a2, a3, ⟨⟨r', T1, M1, ρ1, b1, ⟨hr, hT, ?_⟩, b5⟩, b6⟩, a5⟩
  obtain ⟨t1, t2, t3, t4, t5, t6, t7, t8, t9⟩ := hk2
  have t35 : ∀ j, j ≠ 0 → M1 35 j = M 35 j := fun j hj => by rw [t4, fSet_n hj, n35]
  have hst1 : (pTr rule P lag s0 (t + 1)).1 = M1 35 0 := by rw [hst, t4, fSet_s, n35, c6]; rfl
  have hst2 : (pTr rule P lag s0 (t + 1)).2.1 = M1 34 := by
    rw [hst, t3, n31, n32, n33, n34, n35, c6, c7, ← e31, ← e32, ← e33, ← eg]; rfl
  have hst3 : (pTr rule P lag s0 (t + 1)).2.2.1 = (pGo (N 31) (N 32) (pWind P.1 (N 31) (N 32) (N 34) (N 35 0) (N 35 1) r) (N 35 0) (N 35 2) r c.2.2.1 (N 70 3)).1 := by
    rw [hst, n31, n32, n34, n35, c6, c7, c4, ← e31, ← e32, ← eg, ← ep]; rfl
  have hst4 : (pTr rule P lag s0 (t + 1)).2.2.2.1 = M1 70 3 := by
    rw [t6, hst, n31, n32, n34, n35, c6, c7, c4, ← e31, ← e32, ← eg, ← ep]; rfl
  have hst5 : (pTr rule P lag s0 (t + 1)).2.2.2.2 = c.2.2.2.2 := by rw [hst]; rfl
  rw [← hst3, ← hst5] at hS1
  rw [← hst3] at t5
  refine ⟨⟨fun k hk => by rw [t1 k hk, c2 k (by simp at hk ⊢; omega)], t35, fun _ => hS1.1.z⟩, ?_, by rw [t35 3 (by decide)]; exact h2, ⟨fun i => if i ≤ t then hist i else M1 34, fun i hi => ?_, hS1, ⟨fun i hi => ?_, fun i j => ?_⟩, hst1.symm, hst2.symm, hst4.symm, ?_⟩, fun i hi => ?_⟩
  · rw [← h1]; unfold wP; simp only; rw [t1 31 (by decide), t1 32 (by decide), t1 33 (by decide), n31, n32, n33, t35 1 (by decide), t35 2 (by decide)]
  · simp only; split
    · rename_i hit; exact h3 i hit
    · rw [show i = t + 1 by omega]; exact hst2.symm
  · simp only
    rw [t8]
    by_cases hit : i ≤ t
    · rw [if_pos hit, fSet_n (by omega), c2 76 (by decide)]; exact hL.1 i hit
    · rw [if_neg hit, show i = t + 1 by omega, fSet_s]
  · simp only; split
    · exact hL.2 i j
    · exact hS1.1.tu j
  · simp only; rw [if_neg (by omega)]; exact hst2.symm
  · rw [t9]
    by_cases hit : i ≤ t
    · rw [fSet_n (by omega), c2 77 (by decide)]; exact h5 i hit
    · rw [show i = t + 1 by omega, fSet_s]
      unfold pLS
      rw [hst1, ← t5, ← hS1.2.2.2.1, hst4]
theorem dX5_ticksToFirstFall_0 : decode cX5_ticksToFirstFall 0 = .ok (.aload_n 0, 1) := by decide +kernel
theorem dX5_ticksToFirstFall_1 : decode cX5_ticksToFirstFall 1 = .ok (.getfield 12, 3) := by decide +kernel
theorem dX5_ticksToFirstFall_4 : decode cX5_ticksToFirstFall 4 = .ok (.invokevirtual 105, 3) := by decide +kernel
theorem dX5_ticksToFirstFall_7 : decode cX5_ticksToFirstFall 7 = .ok (.istore_n 2, 1) := by decide +kernel
theorem dX5_ticksToFirstFall_8 : decode cX5_ticksToFirstFall 8 = .ok (.iconst 1, 1) := by decide +kernel
theorem dX5_ticksToFirstFall_9 : decode cX5_ticksToFirstFall 9 = .ok (.istore_n 3, 1) := by decide +kernel
theorem dX5_ticksToFirstFall_10 : decode cX5_ticksToFirstFall 10 = .ok (.iload_n 3, 1) := by decide +kernel
theorem dX5_ticksToFirstFall_11 : decode cX5_ticksToFirstFall 11 = .ok (.sipush 600, 3) := by decide +kernel
theorem dX5_ticksToFirstFall_14 : decode cX5_ticksToFirstFall 14 = .ok (.if_icmp .gt 31, 3) := by decide +kernel
theorem dX5_ticksToFirstFall_17 : decode cX5_ticksToFirstFall 17 = .ok (.aload_n 0, 1) := by decide +kernel
theorem dX5_ticksToFirstFall_18 : decode cX5_ticksToFirstFall 18 = .ok (.aload_n 0, 1) := by decide +kernel
theorem dX5_ticksToFirstFall_19 : decode cX5_ticksToFirstFall 19 = .ok (.iload_n 1, 1) := by decide +kernel
theorem dX5_ticksToFirstFall_20 : decode cX5_ticksToFirstFall 20 = .ok (.invokevirtual 108, 3) := by decide +kernel
theorem dX5_ticksToFirstFall_23 : decode cX5_ticksToFirstFall 23 = .ok (.invokevirtual 111, 3) := by decide +kernel
theorem dX5_ticksToFirstFall_26 : decode cX5_ticksToFirstFall 26 = .ok (.aload_n 0, 1) := by decide +kernel
theorem dX5_ticksToFirstFall_27 : decode cX5_ticksToFirstFall 27 = .ok (.getfield 12, 3) := by decide +kernel
theorem dX5_ticksToFirstFall_30 : decode cX5_ticksToFirstFall 30 = .ok (.invokevirtual 105, 3) := by decide +kernel
theorem dX5_ticksToFirstFall_33 : decode cX5_ticksToFirstFall 33 = .ok (.iload_n 2, 1) := by decide +kernel
theorem dX5_ticksToFirstFall_34 : decode cX5_ticksToFirstFall 34 = .ok (.if_icmp .eq 5, 3) := by decide +kernel
theorem dX5_ticksToFirstFall_37 : decode cX5_ticksToFirstFall 37 = .ok (.iload_n 3, 1) := by decide +kernel
theorem dX5_ticksToFirstFall_38 : decode cX5_ticksToFirstFall 38 = .ok (.ireturn, 1) := by decide +kernel
theorem dX5_ticksToFirstFall_39 : decode cX5_ticksToFirstFall 39 = .ok (.iinc 3 1, 3) := by decide +kernel
theorem dX5_ticksToFirstFall_42 : decode cX5_ticksToFirstFall 42 = .ok (.goto (-32), 3) := by decide +kernel
theorem dX5_ticksToFirstFall_45 : decode cX5_ticksToFirstFall 45 = .ok (.sipush 601, 3) := by decide +kernel
theorem dX5_ticksToFirstFall_48 : decode cX5_ticksToFirstFall 48 = .ok (.ireturn, 1) := by decide +kernel
theorem l_X5_ttff {d : List Nat} {T : vT} {M : vM} {rule : Int} {P : pP} {lag : Nat} {s0 : pS} (hB : vB T) (hr0 : 0 ≤ rule) (hr3 : rule ≤ 3) : ∀ t, t ≤ 600 → ∀ N, wKeep M N → wTj N rule P lag s0 t → (∀ i, i < t → pFell rule P lag s0 i = false) →
    vV m_X5_ticksToFirstFall d d (vPi fun r T1 M1 => T = T1 ∧ wKeep M M1 ∧ r = pOr 601 (pLasts rule P lag s0)) 10 [some (vR 70), some (vI rule), some (vI (pBits s0.2.1 P.1)), some (vI ((t : Int) + 1))] [] d T N := by
  refine vUp ?_
  intro t ht ih N hk hj hf
  have hnone : t = 600 → pLasts rule P lag s0 = none := fun h => by unfold pLasts; rw [pFind_no (fun j hj' => hf j (by omega))]; rfl
  refine vV.iload_n dX5_ticksToFirstFall_10 rfl ?_
  refine vV.sipush (v := 600) dX5_ticksToFirstFall_11 (by decide) (by decide) ?_
  refine vV.icmp_gt (tgt := 45) dX5_ticksToFirstFall_14 (by decide) (fun h14 => ?_) (fun h14 => ?_)
  · skip
    refine vV.sipush (v := 601) dX5_ticksToFirstFall_45 (by decide) (by decide) ?_
    refine vV.ri dX5_ticksToFirstFall_48 rfl ?_
    have h600 : t = 600 := by omega
    exact ⟨rfl, hk, by rw [hnone h600]; rfl⟩
  · skip
    refine vV.aload_n dX5_ticksToFirstFall_17 rfl ?_
    refine vV.aload_n dX5_ticksToFirstFall_18 rfl ?_
    refine vV.iload_n dX5_ticksToFirstFall_19 rfl ?_
    refine vV.cVi dX5_ticksToFirstFall_20 ml_X5_108 cw_X5_choose iw_X5_choose (by first | rfl | assumption) rfl (by unfold vRoom; decide) (c_X5_chooseT hB hj (by omega) hr0 hr3) rfl rfl (Nat.le_of_ble_eq_true rfl) ?_
    rintro x20 _ N0 hx20 ⟨rfl, hch⟩
    refine vV.cVv dX5_ticksToFirstFall_23 ml_X5_111 cw_X5_act iw_X5_act (by first | rfl | assumption) rfl (by unfold vRoom; decide) (c_X5_actT hB hj (by omega) hch) rfl rfl (Nat.le_of_ble_eq_true rfl) ?_
    rintro _ N1 ⟨rfl, hk1, hj1⟩
    have hS1 := hj1.S
    refine vV.aload_n dX5_ticksToFirstFall_26 rfl ?_
    refine vV.getr dX5_ticksToFirstFall_27 fl_X5_12 (by first | rfl | assumption) rfl (by first | assumption | exact hB _ _ _ rfl) ?_
    refine vV.cVi dX5_ticksToFirstFall_30 ml_X5_105 cw_X3_standing iw_X3_standing (by first | rfl | assumption) rfl (by unfold vRoom; decide) (c_X3_standing sgK_30 (sgT_30 hB) hS1.1.cnt hS1.1.le) rfl rfl (Nat.le_of_ble_eq_true rfl) ?_
    rintro x30 _ _ hx30 ⟨rfl, rfl, rfl⟩
    rw [show (30 : Nat) + 4 = 34 from rfl, hj1.tu]
    refine vV.iload_n dX5_ticksToFirstFall_33 rfl ?_
    refine vV.icmp_eq (tgt := 39) dX5_ticksToFirstFall_34 (by decide) (fun h34 => ?_) (fun h34 => ?_)
    · skip
      refine vV.iinc (L' := [_, _, _, _]) dX5_ticksToFirstFall_39 (by decide) rfl (⟨by omega, by omega⟩) rfl ?_
      refine vV.goto (tgt := 10) dX5_ticksToFirstFall_42 (by decide) ?_
      exact ih (by omega) N1 (hk.tr hk1) hj1 (fun i hi => (Nat.lt_succ_iff_lt_or_eq.mp hi).elim (hf i) (fun e => by subst e; simpa [pFell] using h34))
    · skip
      have hfe : pLasts rule P lag s0 = some (t + 1) := by { unfold pLasts; rw [pFind_yes (p := t) (by omega) (by simpa [pFell] using h34) hf]; rfl }
      refine vV.iload_n dX5_ticksToFirstFall_37 rfl ?_
      refine vV.ri dX5_ticksToFirstFall_38 rfl ?_
      exact ⟨rfl, hk.tr hk1, by rw [hfe]; rfl⟩
theorem c_X5_ticksToFirstFall {d : List Nat} {T : vT} {M : vM} {rule : Int} {P : pP} {lag : Nat} {s0 : pS} (hB : vB T) (hr0 : 0 ≤ rule) (hr3 : rule ≤ 3) (hj : wTj M rule P lag s0 0) : vCon m_X5_ticksToFirstFall d d [vR 70, vI rule] T M (vPi fun r T1 M1 => T = T1 ∧ wKeep M M1 ∧ r = pOr 601 (pLasts rule P lag s0)) := by
  have hS := hj.S
  refine vCon.of (by decide) rfl rfl (Nat.le_of_ble_eq_true rfl) ?_
  have h := l_X5_ttff (d := d) (M := M) hB hr0 hr3 0 (by omega) M (wKeep.rf M) hj (fun i hi => by omega)
  refine vV.aload_n dX5_ticksToFirstFall_0 rfl ?_
  refine vV.getr dX5_ticksToFirstFall_1 fl_X5_12 (by first | rfl | assumption) rfl (by first | assumption | exact hB _ _ _ rfl) ?_
  refine vV.cVi dX5_ticksToFirstFall_4 ml_X5_105 cw_X3_standing iw_X3_standing (by first | rfl | assumption) rfl (by unfold vRoom; decide) (c_X3_standing sgK_30 (sgT_30 hB) hS.1.cnt hS.1.le) rfl rfl (Nat.le_of_ble_eq_true rfl) ?_
  rintro x1 _ _ hx1 ⟨rfl, rfl, rfl⟩
  rw [show (30 : Nat) + 4 = 34 from rfl, hj.tu, pTr_0]
  refine vV.istore_n (L' := [_, _, _, _]) dX5_ticksToFirstFall_7 (by decide) rfl ?_
  refine vV.iconst dX5_ticksToFirstFall_8 (by decide) ?_
  refine vV.istore_n (L' := [_, _, _, _]) dX5_ticksToFirstFall_9 (by decide) rfl ?_
  exact h
