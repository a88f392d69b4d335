/-! ===== own: a film: he has goals by the rule, but does what the show does ===== -/
def fH (rule : Int) (P : pP) (lag : Nat) (s : pS) (q : Nat → Int) : Nat → Nat → pS
  | 0 => fun _ => s
  | t + 1 => fun i => if i ≤ t then fH rule P lag s q t i else pDo P (q t) (pCh rule P (fH rule P lag s q t (t - lag)).2.1 (fH rule P lag s q t t))
def fTr (rule : Int) (P : pP) (lag : Nat) (s : pS) (q : Nat → Int) (t : Nat) : pS := fH rule P lag s q t t
theorem fH_eq (rule : Int) (P : pP) (lag : Nat) (s : pS) (q : Nat → Int) : ∀ t i, i ≤ t → fH rule P lag s q t i = fTr rule P lag s q i
  | 0, i, h => by rw [show i = 0 by omega]; rfl
  | t + 1, i, h => by
    by_cases hi : i ≤ t
    · rw [← fH_eq rule P lag s q t i hi]; show (if _ then _ else _) = _; rw [if_pos hi]
    · rw [show i = t + 1 by omega]; rfl
/-- his goal ahead of the thing t -/
def fCh (rule : Int) (P : pP) (lag : Nat) (s : pS) (q : Nat → Int) (t : Nat) : pS := pCh rule P (fTr rule P lag s q (t - lag)).2.1 (fTr rule P lag s q t)
theorem fTr_s (rule : Int) (P : pP) (lag : Nat) (s : pS) (q : Nat → Int) (t : Nat) : fTr rule P lag s q (t + 1) = pDo P (q t) (fCh rule P lag s q t) := by
  show (if _ then _ else _) = _
  rw [if_neg (by omega), fH_eq _ _ _ _ _ t (t - lag) (by omega), fH_eq _ _ _ _ _ t t (by omega)]
  rfl
def fCn (rule : Int) (P : pP) (lag : Nat) (s : pS) (q : Nat → Int) (t : Nat) : Bool := pCan P.1 P.2.1 (fTr rule P lag s q t).2.1 (fTr rule P lag s q t).1 (q t)
def fEq (rule : Int) (P : pP) (lag : Nat) (s : pS) (q : Nat → Int) (t : Nat) : Bool := decide (pThing P.2.1 (fCh rule P lag s q t).1 (fCh rule P lag s q t).2.2.1 = q t)
/-- how many of the first t things are as the rule has them -/
def fLk (rule : Int) (P : pP) (lag : Nat) (s : pS) (q : Nat → Int) : Nat → Int
  | 0 => 0
  | t + 1 => fLk rule P lag s q t + if fEq rule P lag s q t then 1 else 0
theorem fLk_rg (rule : Int) (P : pP) (lag : Nat) (s : pS) (q : Nat → Int) : ∀ t, 0 ≤ fLk rule P lag s q t ∧ fLk rule P lag s q t ≤ t
  | 0 => ⟨Int.le_refl 0, Int.le_refl 0⟩
  | t + 1 => by have := fLk_rg rule P lag s q t; unfold fLk; split <;> omega
/-- how far the show goes -/
def fEn (rule : Int) (P : pP) (lag : Nat) (s : pS) (q : Nat → Int) (a : Nat) : Nat := (pFind (fun t => !fCn rule P lag s q t) a).getD a
def fLike (rule : Int) (P : pP) (lag : Nat) (s : pS) (q : Nat → Int) (a : Nat) : Int := fLk rule P lag s q (fEn rule P lag s q a)
/-- the walker's rows hold the state f t, and the log all ahead -/
def wG (M : vM) (P : pP) (lag : Nat) (f : Nat → pS) (t : Nat) : Prop := wP M P.1 = P ∧ M 35 3 = lag ∧ ∃ hist, (∀ i, i ≤ t → hist i = (f i).2.1) ∧ wSt M P.1 t hist (f t)
theorem wG.of {M : vM} {rule : Int} {P : pP} {lag : Nat} {s0 : pS} {f : Nat → pS} (h : wTj M rule P lag s0 0) (hf : f 0 = s0) : wG M P lag f 0 := by
  obtain ⟨h1, h2, ⟨hist, h3, h4⟩, -⟩ := h
  rw [pTr_0] at h4
  refine ⟨h1, h2, hist, fun i hi => ?_, by rw [hf]; exact h4⟩
  rw [h3 i hi, show i = 0 by omega, pTr_0, hf]
theorem wG.lag3 {M : vM} {P : pP} {lag : Nat} {f : Nat → pS} {t : Nat} (h : wG M P lag f t) : lag ≤ 3 := by
  obtain ⟨-, h2, hist, -, hS, -⟩ := h
  have h1 := hS.1.2.2.2.2.2.2.2.2.2.2.2.1
  have h3 : M 35 3 ≤ 3 := h1.2
  omega
theorem wG.S {M : vM} {P : pP} {lag : Nat} {f : Nat → pS} {t : Nat} (h : wG M P lag f t) : sgW M 30 P.1 ∧ M 31 = P.2.1 ∧ M 35 0 = (f t).1 ∧ M 34 = (f t).2.1 := by
  obtain ⟨h1, -, hist, -, hS, hL, m1, m2, -⟩ := h
  exact ⟨hS.1, by rw [← h1]; rfl, m1, m2⟩
theorem c_X5_chooseG {d : List Nat} {T : vT} {M : vM} {rule : Int} {P : pP} {lag : Nat} {f : Nat → pS} {t : Nat} (hB : vB T) (h : wG M P lag f t) (ht : t < 600) (hr0 : 0 ≤ rule) (hr3 : rule ≤ 3) : vCon m_X5_choose d d [vR 70, vI rule] T M (vPi fun r T1 N => T = T1 ∧ wCho M N P (pCh rule P (f (t - lag)).2.1 (f t)) t r) := by
  have hl3 := h.lag3
  obtain ⟨h1, h2, hist, h3, hS, hL, m1, m2, m3, m4⟩ := h
  rw [← h3 (t - lag) (by omega)]
  obtain ⟨s, hs⟩ : ∃ s, s = f t := ⟨_, rfl⟩
  rw [← hs] at hS m1 m2 m3 m4 ⊢
  clear h3 hs
  obtain ⟨n, pl, fu, fa, gv, pt⟩ := P
  simp only [wP, Prod.mk.injEq, true_and] at h1
  obtain ⟨rfl, rfl, rfl, rfl, rfl⟩ := h1
  obtain ⟨s1, s2, s3, s4, s5, s6, s7⟩ := hS
  have hpl := s1.2.2.2.2.1
  have hman := s1.2.2.2.2.2.2.2.2.1
  have hdis := s1.2.2.2.2.2.2.2.2.2.2.2.2.2.2
  refine (c_X5_choose (d := d) hB ⟨s1, s2, s3, s4, s5, s6, s7⟩ hL (by omega) h2 hl3 hr0 hr3).imp ?_
  rintro r T1 N ⟨rfl, a1, a2, a3, a4, a5, a6⟩
  refine ⟨rfl, ?_, a2, ⟨sgW_70 a2 s1, ?_, pG1_lt s3, ?_, pL1_lt s5, ?_, by rw [a3 1 (by decide)]; exact s7⟩, ?_, ?_, m1, m2⟩
  · rw [a1]; unfold pCh; simp only; rw [← m1, ← m2]
  · rw [a4]; unfold pCh; simp only; rw [← m1, ← m2]
  · rw [a6]; unfold pCh; simp only; rw [← m1, ← m2]
  · rw [a5, a2 35 (by decide)]; unfold pW1; split <;> omega
  · rw [a5]; unfold pCh; simp only; rw [← m2, ← m3]
  · rw [a1]; unfold pCh; simp only; rw [← m1, ← m2]
    exact pThing_can hdis (fun j => hpl j) hman (fun k hk => ⟨pG1_lt s3 k hk, pG1_std (fun j => (s1.tu j).1) hk⟩)
theorem c_X5_actG {d : List Nat} {T : vT} {M N : vM} {r y : Int} {P : pP} {lag : Nat} {f : Nat → pS} {c : pS} {t : Nat} (hB : vB T) (h : wG M P lag f t) (ht : t < 600) (hc : wCho M N P c t r) (hcy : pCan P.1 P.2.1 c.2.1 c.1 y = true) (hst : f (t + 1) = pDo P y c) : vCon m_X5_act d d [vR 70, vI y] T N (vPv fun T1 M1 => T = T1 ∧ wKeep M M1 ∧ wG M1 P lag f (t + 1)) := by
  obtain ⟨h1, h2, hist, h3, hS, hL, m1, m2, m3, m4⟩ := h
  obtain ⟨c1, c2, c3, c4, c5, c6, c7⟩ := hc
  have e31 : P.2.1 = M 31 := by rw [← h1]; rfl
  have e32 : P.2.2.1 = M 32 := by rw [← h1]; rfl
  have e33 : P.2.2.2.1 = M 33 := by rw [← h1]; rfl
  have eg : P.2.2.2.2.1 = M 35 1 := by rw [← h1]; rfl
  have ep : P.2.2.2.2.2 = M 35 2 := by rw [← h1]; rfl
  have n31 : N 31 = M 31 := c2 31 (by decide)
  have n32 : N 32 = M 32 := c2 32 (by decide)
  have n33 : N 33 = M 33 := c2 33 (by decide)
  have n34 : N 34 = M 34 := c2 34 (by decide)
  have n35 : N 35 = M 35 := c2 35 (by decide)
  refine vCon.impv (c_X5_act (d := d) hB c3 ht (by rw [n31, n34, n35, ← e31, c6, c7]; exact hcy)) ?_
  rintro T1 M1 ⟨hT, hk2, hS1⟩
  refine ⟨hT, ?_⟩
  obtain ⟨t1, t2, t3, t4, t5, t6, t7, t8, t9⟩ := hk2
  have t35 : ∀ j, j ≠ 0 → M1 35 j = M 35 j := fun j hj => by rw [t4, fSet_n hj, n35]
  have hst1 : (f (t + 1)).1 = M1 35 0 := by rw [hst, t4, fSet_s, n35, c6]; rfl
  have hst2 : (f (t + 1)).2.1 = M1 34 := by
    rw [hst, t3, n31, n32, n33, n34, n35, c6, c7, ← e31, ← e32, ← e33, ← eg]; rfl
  have hst3 : (f (t + 1)).2.2.1 = (pGo (N 31) (N 32) (pWind P.1 (N 31) (N 32) (N 34) (N 35 0) (N 35 1) y) (N 35 0) (N 35 2) y c.2.2.1 (N 70 3)).1 := by
    rw [hst, n31, n32, n34, n35, c6, c7, c4, ← e31, ← e32, ← eg, ← ep]; rfl
  have hst4 : (f (t + 1)).2.2.2.1 = M1 70 3 := by
    rw [t6, hst, n31, n32, n34, n35, c6, c7, c4, ← e31, ← e32, ← eg, ← ep]; rfl
  have hst5 : (f (t + 1)).2.2.2.2 = c.2.2.2.2 := by rw [hst]; rfl
  rw [← hst3, ← hst5] at hS1
  rw [← hst3] at t5
  refine ⟨⟨fun k hk => by rw [t1 k hk, c2 k (by simp at hk ⊢; omega)], t35, fun _ => hS1.1.z⟩, ?_, by rw [t35 3 (by decide)]; exact h2, fun i => if i ≤ t then hist i else M1 34, fun i hi => ?_, hS1, ⟨fun i hi => ?_, fun i j => ?_⟩, hst1.symm, hst2.symm, hst4.symm, ?_⟩
  · rw [← h1]; unfold wP; simp only; rw [t1 31 (by decide), t1 32 (by decide), t1 33 (by decide), n31, n32, n33, t35 1 (by decide), t35 2 (by decide)]
  · simp only; split
    · rename_i hit; exact h3 i hit
    · rw [show i = t + 1 by omega]; exact hst2.symm
  · simp only
    rw [t8]
    by_cases hit : i ≤ t
    · rw [if_pos hit, fSet_n (by omega), c2 76 (by decide)]; exact hL.1 i hit
    · rw [if_neg hit, show i = t + 1 by omega, fSet_s]
  · simp only; split
    · exact hL.2 i j
    · exact hS1.1.tu j
  · simp only; rw [if_neg (by omega)]; exact hst2.symm
theorem dX6_ticksLike_0 : decode cX6_ticksLike 0 = .ok (.aload_n 0, 1) := by decide +kernel
theorem dX6_ticksLike_1 : decode cX6_ticksLike 1 = .ok (.getfield 33, 3) := by decide +kernel
theorem dX6_ticksLike_4 : decode cX6_ticksLike 4 = .ok (.aload_n 0, 1) := by decide +kernel
theorem dX6_ticksLike_5 : decode cX6_ticksLike 5 = .ok (.getfield 10, 3) := by decide +kernel
theorem dX6_ticksLike_8 : decode cX6_ticksLike 8 = .ok (.invokevirtual 135, 3) := by decide +kernel
theorem dX6_ticksLike_11 : decode cX6_ticksLike 11 = .ok (.iconst 0, 1) := by decide +kernel
theorem dX6_ticksLike_12 : decode cX6_ticksLike 12 = .ok (.istore_n 3, 1) := by decide +kernel
theorem dX6_ticksLike_13 : decode cX6_ticksLike 13 = .ok (.iconst 0, 1) := by decide +kernel
theorem dX6_ticksLike_14 : decode cX6_ticksLike 14 = .ok (.istore 4, 2) := by decide +kernel
theorem dX6_ticksLike_16 : decode cX6_ticksLike 16 = .ok (.iload 4, 2) := by decide +kernel
theorem dX6_ticksLike_18 : decode cX6_ticksLike 18 = .ok (.iload_n 2, 1) := by decide +kernel
theorem dX6_ticksLike_19 : decode cX6_ticksLike 19 = .ok (.if_icmp .ge 73, 3) := by decide +kernel
theorem dX6_ticksLike_22 : decode cX6_ticksLike 22 = .ok (.aload_n 0, 1) := by decide +kernel
theorem dX6_ticksLike_23 : decode cX6_ticksLike 23 = .ok (.getfield 33, 3) := by decide +kernel
theorem dX6_ticksLike_26 : decode cX6_ticksLike 26 = .ok (.getfield 148, 3) := by decide +kernel
theorem dX6_ticksLike_29 : decode cX6_ticksLike 29 = .ok (.aload_n 0, 1) := by decide +kernel
theorem dX6_ticksLike_30 : decode cX6_ticksLike 30 = .ok (.getfield 26, 3) := by decide +kernel
theorem dX6_ticksLike_33 : decode cX6_ticksLike 33 = .ok (.getfield 126, 3) := by decide +kernel
theorem dX6_ticksLike_36 : decode cX6_ticksLike 36 = .ok (.iload 4, 2) := by decide +kernel
theorem dX6_ticksLike_38 : decode cX6_ticksLike 38 = .ok (.iaload, 1) := by decide +kernel
theorem dX6_ticksLike_39 : decode cX6_ticksLike 39 = .ok (.invokevirtual 100, 3) := by decide +kernel
theorem dX6_ticksLike_42 : decode cX6_ticksLike 42 = .ok (.ifCond .eq 50, 3) := by decide +kernel
theorem dX6_ticksLike_45 : decode cX6_ticksLike 45 = .ok (.aload_n 0, 1) := by decide +kernel
theorem dX6_ticksLike_46 : decode cX6_ticksLike 46 = .ok (.getfield 33, 3) := by decide +kernel
theorem dX6_ticksLike_49 : decode cX6_ticksLike 49 = .ok (.iload_n 1, 1) := by decide +kernel
theorem dX6_ticksLike_50 : decode cX6_ticksLike 50 = .ok (.invokevirtual 144, 3) := by decide +kernel
theorem dX6_ticksLike_53 : decode cX6_ticksLike 53 = .ok (.aload_n 0, 1) := by decide +kernel
theorem dX6_ticksLike_54 : decode cX6_ticksLike 54 = .ok (.getfield 26, 3) := by decide +kernel
theorem dX6_ticksLike_57 : decode cX6_ticksLike 57 = .ok (.getfield 126, 3) := by decide +kernel
theorem dX6_ticksLike_60 : decode cX6_ticksLike 60 = .ok (.iload 4, 2) := by decide +kernel
theorem dX6_ticksLike_62 : decode cX6_ticksLike 62 = .ok (.iaload, 1) := by decide +kernel
theorem dX6_ticksLike_63 : decode cX6_ticksLike 63 = .ok (.if_icmp .ne 6, 3) := by decide +kernel
theorem dX6_ticksLike_66 : decode cX6_ticksLike 66 = .ok (.iinc 3 1, 3) := by decide +kernel
theorem dX6_ticksLike_69 : decode cX6_ticksLike 69 = .ok (.aload_n 0, 1) := by decide +kernel
theorem dX6_ticksLike_70 : decode cX6_ticksLike 70 = .ok (.getfield 33, 3) := by decide +kernel
theorem dX6_ticksLike_73 : decode cX6_ticksLike 73 = .ok (.aload_n 0, 1) := by decide +kernel
theorem dX6_ticksLike_74 : decode cX6_ticksLike 74 = .ok (.getfield 26, 3) := by decide +kernel
theorem dX6_ticksLike_77 : decode cX6_ticksLike 77 = .ok (.getfield 126, 3) := by decide +kernel
theorem dX6_ticksLike_80 : decode cX6_ticksLike 80 = .ok (.iload 4, 2) := by decide +kernel
theorem dX6_ticksLike_82 : decode cX6_ticksLike 82 = .ok (.iaload, 1) := by decide +kernel
theorem dX6_ticksLike_83 : decode cX6_ticksLike 83 = .ok (.invokevirtual 147, 3) := by decide +kernel
theorem dX6_ticksLike_86 : decode cX6_ticksLike 86 = .ok (.iinc 4 1, 3) := by decide +kernel
theorem dX6_ticksLike_89 : decode cX6_ticksLike 89 = .ok (.goto (-73), 3) := by decide +kernel
theorem dX6_ticksLike_92 : decode cX6_ticksLike 92 = .ok (.iload_n 3, 1) := by decide +kernel
theorem dX6_ticksLike_93 : decode cX6_ticksLike 93 = .ok (.ireturn, 1) := by decide +kernel
theorem l_X6_tl16 {d : List Nat} {T : vT} {M : vM} {n lag a : Nat} {rule : Int} {P : pP} {s0 : pS} {q : Nat → Int} (hB : vB T) (hr0 : 0 ≤ rule) (hr3 : rule ≤ 3) (ha : a ≤ 180) (hPn : P.1 = n) (hq : ∀ k : Nat, k < a → M 62 k = q k) (hqr : ∀ k, 0 ≤ q k ∧ q k ≤ 3) : ∀ t, t ≤ a → ∀ N, cKeepW M N → wG N P lag (fTr rule P lag s0 q) t → (∀ i, i < t → fCn rule P lag s0 q i = true) →
    vV m_X6_ticksLike d d (vPi fun r T1 M1 => T = T1 ∧ cKeepW M M1 ∧ r = fLike rule P lag s0 q a) 16 [some (vR 0), some (vI rule), some (vI a), some (vI (fLk rule P lag s0 q t)), some (vI t)] [] d T N := by
  refine vUp ?_
  intro t ht ih N hk hG hf
  obtain ⟨hW, e31, em, etu⟩ := hG.S
  have hrg := fLk_rg rule P lag s0 q t
  have hend : t = a → fLike rule P lag s0 q a = fLk rule P lag s0 q t := fun h => by unfold fLike fEn; rw [pFind_no (fun j hj => by rw [hf j (by omega)]; rfl), h]; rfl
  have hend2 : t < a → fCn rule P lag s0 q t = false → fLike rule P lag s0 q a = fLk rule P lag s0 q t := fun h h2 => by unfold fLike fEn; rw [pFind_yes h (by rw [h2]; rfl) (fun j hj => by rw [hf j hj]; rfl)]; rfl
  have hq2 : t < a → N 62 t = q t := fun h => by rw [hk.1 62 (by decide)]; exact hq t h
  have hqt := hqr t
  have hcan : pCan P.1 (N (30 + 1)) (N (30 + 4)) (N (30 + 5) 0) (q t) = fCn rule P lag s0 q t := by
    rw [show N (30 + 1) = _ from e31, show N (30 + 4) = _ from etu, show N (30 + 5) 0 = _ from em]; rfl
  have hlk : ∀ b : Bool, fEq rule P lag s0 q t = b → fLk rule P lag s0 q (t + 1) = fLk rule P lag s0 q t + if b then 1 else 0 := fun b hb => by rw [← hb]; rfl
  refine vV.iload dX6_ticksLike_16 rfl ?_
  refine vV.iload_n dX6_ticksLike_18 rfl ?_
  refine vV.icmp_ge (tgt := 92) dX6_ticksLike_19 (by decide) (fun h19 => ?_) (fun h19 => ?_)
  · skip
    refine vV.iload_n dX6_ticksLike_92 rfl ?_
    refine vV.ri dX6_ticksLike_93 rfl ?_
    first | exact ⟨rfl, hk, (hend (by omega)).symm⟩ | exact ⟨rfl, hk, (hend2 (by omega) hno).symm⟩
  · skip
    refine vV.aload_n dX6_ticksLike_22 rfl ?_
    refine vV.getr dX6_ticksLike_23 fl_X6_33 (by first | rfl | assumption) rfl (by first | assumption | exact hB _ _ _ rfl) ?_
    refine vV.getr dX6_ticksLike_26 fl_X6_148 (by first | rfl | assumption) rfl (by first | assumption | exact hB _ _ _ rfl) ?_
    refine vV.aload_n dX6_ticksLike_29 rfl ?_
    refine vV.getr dX6_ticksLike_30 fl_X6_26 (by first | rfl | assumption) rfl (by first | assumption | exact hB _ _ _ rfl) ?_
    refine vV.getr dX6_ticksLike_33 fl_X6_126 (by first | rfl | assumption) rfl (by first | assumption | exact hB _ _ _ rfl) ?_
    refine vV.iload dX6_ticksLike_36 rfl ?_
    refine vV.iald dX6_ticksLike_38 (by first | rfl | assumption) (by omega) (by omega) ?_
    rw [hq2 (by omega)]
    refine vV.cVi dX6_ticksLike_39 ml_X6_100 cw_X3_can iw_X3_can (by first | rfl | assumption) rfl (by unfold vRoom; decide) (c_X3_can sgK_30 (sgT_30 hB) hW hqt.1 hqt.2) rfl rfl (Nat.le_of_ble_eq_true rfl) ?_
    rintro x39 _ _ hx39 ⟨hy39, rfl, rfl⟩
    rw [hcan] at hy39
    subst hy39
    refine vV.if_eq (tgt := 92) dX6_ticksLike_42 (by decide) (fun h42 => ?_) (fun h42 => ?_)
    · skip
      have hno := bI_eq h42
      refine vV.iload_n dX6_ticksLike_92 rfl ?_
      refine vV.ri dX6_ticksLike_93 rfl ?_
      first | exact ⟨rfl, hk, (hend (by omega)).symm⟩ | exact ⟨rfl, hk, (hend2 (by omega) hno).symm⟩
    · skip
      have hye := bI_ne h42
      refine vV.aload_n dX6_ticksLike_45 rfl ?_
      refine vV.getr dX6_ticksLike_46 fl_X6_33 (by first | rfl | assumption) rfl (by first | assumption | exact hB _ _ _ rfl) ?_
      refine vV.iload_n dX6_ticksLike_49 rfl ?_
      refine vV.cVi dX6_ticksLike_50 ml_X6_144 cw_X5_choose iw_X5_choose (by first | rfl | assumption) rfl (by unfold vRoom; decide) (c_X5_chooseG hB hG (by omega) hr0 hr3) rfl rfl (Nat.le_of_ble_eq_true rfl) ?_
      rintro x50 _ N0 hx50 ⟨rfl, hch⟩
      have hq3 : N0 62 t = q t := by rw [hch.2.1 62 (by decide)]; exact hq2 (by omega)
      refine vV.aload_n dX6_ticksLike_53 rfl ?_
      refine vV.getr dX6_ticksLike_54 fl_X6_26 (by first | rfl | assumption) rfl (by first | assumption | exact hB _ _ _ rfl) ?_
      refine vV.getr dX6_ticksLike_57 fl_X6_126 (by first | rfl | assumption) rfl (by first | assumption | exact hB _ _ _ rfl) ?_
      refine vV.iload dX6_ticksLike_60 rfl ?_
      refine vV.iald dX6_ticksLike_62 (by first | rfl | assumption) (by omega) (by omega) ?_
      rw [hq3]
      refine vV.icmp_ne (tgt := 69) dX6_ticksLike_63 (by decide) (fun h63 => ?_) (fun h63 => ?_)
      · skip
        have hfe := hlk false (by unfold fEq; rw [show pThing P.2.1 (fCh rule P lag s0 q t).1 (fCh rule P lag s0 q t).2.2.1 = x50 from hch.1.symm]; simpa using h63)
        rw [show fLk rule P lag s0 q t = fLk rule P lag s0 q (t + 1) from by rw [hfe]; simp]
        try rw [show fLk rule P lag s0 q t + 1 = fLk rule P lag s0 q (t + 1) from by rw [hfe]; simp]
        refine vV.aload_n dX6_ticksLike_69 rfl ?_
        refine vV.getr dX6_ticksLike_70 fl_X6_33 (by first | rfl | assumption) rfl (by first | assumption | exact hB _ _ _ rfl) ?_
        refine vV.aload_n dX6_ticksLike_73 rfl ?_
        refine vV.getr dX6_ticksLike_74 fl_X6_26 (by first | rfl | assumption) rfl (by first | assumption | exact hB _ _ _ rfl) ?_
        refine vV.getr dX6_ticksLike_77 fl_X6_126 (by first | rfl | assumption) rfl (by first | assumption | exact hB _ _ _ rfl) ?_
        refine vV.iload dX6_ticksLike_80 rfl ?_
        refine vV.iald dX6_ticksLike_82 (by first | rfl | assumption) (by omega) (by omega) ?_
        rw [hq3]
        refine vV.cVv dX6_ticksLike_83 ml_X6_147 cw_X5_act iw_X5_act (by first | rfl | assumption) rfl (by unfold vRoom; decide) (c_X5_actG hB hG (by omega) hch hye (fTr_s rule P lag s0 q t)) rfl rfl (Nat.le_of_ble_eq_true rfl) ?_
        rintro _ N1 ⟨rfl, hk1, hG1⟩
        refine vV.iinc (L' := [_, _, _, _, _]) dX6_ticksLike_86 (by decide) rfl (⟨by omega, by omega⟩) rfl ?_
        refine vV.goto (tgt := 16) dX6_ticksLike_89 (by decide) ?_
        exact ih (by omega) N1 (hk.w hk1) hG1 (fun i hi => (Nat.lt_succ_iff_lt_or_eq.mp hi).elim (hf i) (fun e => by subst e; exact hye))
      · skip
        have hfe := hlk true (by unfold fEq; rw [show pThing P.2.1 (fCh rule P lag s0 q t).1 (fCh rule P lag s0 q t).2.2.1 = x50 from hch.1.symm]; simpa using h63)
        refine vV.iinc (L' := [_, _, _, _, _]) dX6_ticksLike_66 (by decide) rfl (⟨by omega, by omega⟩) rfl ?_
        try rw [show fLk rule P lag s0 q t + 1 = fLk rule P lag s0 q (t + 1) from by rw [hfe]; simp]
        refine vV.aload_n dX6_ticksLike_69 rfl ?_
        refine vV.getr dX6_ticksLike_70 fl_X6_33 (by first | rfl | assumption) rfl (by first | assumption | exact hB _ _ _ rfl) ?_
        refine vV.aload_n dX6_ticksLike_73 rfl ?_
        refine vV.getr dX6_ticksLike_74 fl_X6_26 (by first | rfl | assumption) rfl (by first | assumption | exact hB _ _ _ rfl) ?_
        refine vV.getr dX6_ticksLike_77 fl_X6_126 (by first | rfl | assumption) rfl (by first | assumption | exact hB _ _ _ rfl) ?_
        refine vV.iload dX6_ticksLike_80 rfl ?_
        refine vV.iald dX6_ticksLike_82 (by first | rfl | assumption) (by omega) (by omega) ?_
        rw [hq3]
        refine vV.cVv dX6_ticksLike_83 ml_X6_147 cw_X5_act iw_X5_act (by first | rfl | assumption) rfl (by unfold vRoom; decide) (c_X5_actG hB hG (by omega) hch hye (fTr_s rule P lag s0 q t)) rfl rfl (Nat.le_of_ble_eq_true rfl) ?_
        rintro _ N1 ⟨rfl, hk1, hG1⟩
        refine vV.iinc (L' := [_, _, _, _, _]) dX6_ticksLike_86 (by decide) rfl (⟨by omega, by omega⟩) rfl ?_
        refine vV.goto (tgt := 16) dX6_ticksLike_89 (by decide) ?_
        exact ih (by omega) N1 (hk.w hk1) hG1 (fun i hi => (Nat.lt_succ_iff_lt_or_eq.mp hi).elim (hf i) (fun e => by subst e; exact hye))
theorem c_X6_ticksLike {d : List Nat} {T : vT} {M : vM} {n lag a : Nat} {rule : Int} {q : Nat → Int} (hB : vB T) (hW : sgW M 10 n) (hZ : sgZ M 30) (hlag : M 15 3 = lag) (hr0 : 0 ≤ rule) (hr3 : rule ≤ 3) (ha : a ≤ 180) (hq : ∀ k : Nat, k < a → M 62 k = q k) (hqr : ∀ k, 0 ≤ q k ∧ q k ≤ 3) : vCon m_X6_ticksLike d d [vR 0, vI rule, vI a] T M (vPi fun r T1 M1 => T = T1 ∧ cKeepW M M1 ∧ r = fLike rule (cP M n) lag (cS0 M) q a) := by
  refine vCon.of (by decide) rfl rfl (Nat.le_of_ble_eq_true rfl) ?_
  refine vV.aload_n dX6_ticksLike_0 rfl ?_
  refine vV.getr dX6_ticksLike_1 fl_X6_33 (by first | rfl | assumption) rfl (by first | assumption | exact hB _ _ _ rfl) ?_
  refine vV.aload_n dX6_ticksLike_4 rfl ?_
  refine vV.getr dX6_ticksLike_5 fl_X6_10 (by first | rfl | assumption) rfl (by first | assumption | exact hB _ _ _ rfl) ?_
  refine vV.cVv dX6_ticksLike_8 ml_X6_135 cw_X5_begin iw_X5_begin (by first | rfl | assumption) rfl (by unfold vRoom; decide) (c_X5_begin hB hZ hW) rfl rfl (Nat.le_of_ble_eq_true rfl) ?_
  rintro _ N ⟨rfl, hb⟩
  obtain ⟨hj, hk⟩ := wTj_begin (rule := rule) hW hlag hb
  refine vV.iconst dX6_ticksLike_11 (by decide) ?_
  refine vV.istore_n (L' := [_, _, _, _, _]) dX6_ticksLike_12 (by decide) rfl ?_
  refine vV.iconst dX6_ticksLike_13 (by decide) ?_
  refine vV.istore (L' := [_, _, _, _, _]) dX6_ticksLike_14 (by decide) rfl ?_
  exact l_X6_tl16 (n := n) hB hr0 hr3 ha rfl hq hqr 0 (by omega) N hk (wG.of hj rfl) (fun i hi => by omega)
