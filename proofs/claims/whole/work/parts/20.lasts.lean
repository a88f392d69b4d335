/-! ===== own: the reference: lasts, at, round ===== -/
def pRS (s : pS) : Int := pRest s.1 (pOr (-6) s.2.2.1) s.2.2.2.1 (pOr (-6) s.2.2.2.2)
/-- the reference stands at tick t of the walk from s0 -/
def mTj (M : vM) (rule : Int) (P : pP) (lag : Nat) (s0 : pS) (t : Nat) : Prop := mP M P.1 = P ∧ M 200 8 = lag ∧ (∃ hist, (∀ i, i ≤ t → hist i = (pTr rule P lag s0 i).2.1) ∧ mSt M P.1 t hist (pTr rule P lag s0 t)) ∧ ∀ i : Nat, i ≤ t → M 219 i = pRS (pTr rule P lag s0 i)
theorem mTj.S {M : vM} {rule : Int} {P : pP} {lag : Nat} {s0 : pS} {t : Nat} (h : mTj M rule P lag s0 t) : mS M P.1 t (pTr rule P lag s0 t).2.2.1 (pTr rule P lag s0 t).2.2.2.2 := by
  obtain ⟨-, -, ⟨hist, -, h1, -⟩, -⟩ := h; exact h1
theorem mTj.tu {M : vM} {rule : Int} {P : pP} {lag : Nat} {s0 : pS} {t : Nat} (h : mTj M rule P lag s0 t) : M 212 = (pTr rule P lag s0 t).2.1 := by
  obtain ⟨-, -, ⟨hist, -, -, -, -, h1, -⟩, -⟩ := h; exact h1
theorem mTj.man {M : vM} {rule : Int} {P : pP} {lag : Nat} {s0 : pS} {t : Nat} (h : mTj M rule P lag s0 t) : M 200 12 = (pTr rule P lag s0 t).1 := by
  obtain ⟨-, -, ⟨hist, -, -, -, h1, -⟩, -⟩ := h; exact h1
theorem c_X7_goByT {d : List Nat} {T : vT} {M : vM} {rule : Int} {P : pP} {lag : Nat} {s0 : pS} {t : Nat} (hB : vB T) (h : mTj M rule P lag s0 t) (ht : t < 600) (hr0 : 0 ≤ rule) (hr3 : rule ≤ 3) : vCon m_X7_goBy d d [vR 200, vI rule] T M (vPv fun T1 M1 => T = T1 ∧ mKeep M M1 ∧ mTj M1 rule P lag s0 (t + 1)) := by
  obtain ⟨h1, h2, ⟨hist, h3, h4⟩, h5⟩ := h
  have hc := c_X7_goBy (d := d) hB h4 ht h2 hr0 hr3
  intro l D q ρ sz hok hle
  intro p e ha hc1 hk s m args below hf hap hP hK
  obtain ⟨k, o, a1, a2, a3, ⟨⟨r, T1, M1, ρ1, b1, ⟨hr, hT, hk2, hist', c1, c2, c3⟩, b5⟩, b6⟩, a5⟩ := hc l D q ρ sz hok hle p e ha hc1 hk s m args below hf hap hP hK
  refine ⟨k, o, a1, a2, a3, ⟨⟨r, T1, M1, ρ1, b1, ⟨hr, hT, hk2, ?_⟩, b5⟩, b6⟩, a5⟩
  rw [h1, h3 (t - lag) (by omega), ← pTr_s] at c2
  refine ⟨(hk2.P P.1).trans h1, by rw [hk2.2.1 8 (by decide)]; exact h2, ⟨hist', fun i hi => ?_, c2⟩, fun i hi => ?_⟩
  · by_cases hit : i ≤ t
    · rw [c1 i hit, h3 i hit]
    · rw [show i = t + 1 by omega]; exact c2.2.2.2.2.2.1
  · rw [c3]
    by_cases hit : i ≤ t
    · rw [fSet_n (by omega)]; exact h5 i hit
    · rw [show (i : Int) = (t : Int) + 1 by omega, fSet_s, show i = t + 1 by omega]
      unfold pRS
      rw [← c2.2.2.1, ← c2.1.2.2.2.2.2.2.2.1, ← c2.2.2.2.2.1, ← c2.1.2.2.2.2.2.2.2.2.2.1]
/-- one more has fallen behind tick t + 1 -/
def pFell (rule : Int) (P : pP) (lag : Nat) (s0 : pS) (t : Nat) : Bool := decide (pBits (pTr rule P lag s0 (t + 1)).2.1 P.1 ≠ pBits s0.2.1 P.1)
def pLasts (rule : Int) (P : pP) (lag : Nat) (s0 : pS) : Option Nat := (pFind (pFell rule P lag s0) 600).map (· + 1)
theorem dX7_lastsOf_0 : decode cX7_lastsOf 0 = .ok (.aload_n 0, 1) := by decide +kernel
theorem dX7_lastsOf_1 : decode cX7_lastsOf 1 = .ok (.invokevirtual 212, 3) := by decide +kernel
theorem dX7_lastsOf_4 : decode cX7_lastsOf 4 = .ok (.istore_n 2, 1) := by decide +kernel
theorem dX7_lastsOf_5 : decode cX7_lastsOf 5 = .ok (.aload_n 0, 1) := by decide +kernel
theorem dX7_lastsOf_6 : decode cX7_lastsOf 6 = .ok (.getfield 135, 3) := by decide +kernel
theorem dX7_lastsOf_9 : decode cX7_lastsOf 9 = .ok (.sipush 600, 3) := by decide +kernel
theorem dX7_lastsOf_12 : decode cX7_lastsOf 12 = .ok (.if_icmp .ge 21, 3) := by decide +kernel
theorem dX7_lastsOf_15 : decode cX7_lastsOf 15 = .ok (.aload_n 0, 1) := by decide +kernel
theorem dX7_lastsOf_16 : decode cX7_lastsOf 16 = .ok (.iload_n 1, 1) := by decide +kernel
theorem dX7_lastsOf_17 : decode cX7_lastsOf 17 = .ok (.invokevirtual 226, 3) := by decide +kernel
theorem dX7_lastsOf_20 : decode cX7_lastsOf 20 = .ok (.aload_n 0, 1) := by decide +kernel
theorem dX7_lastsOf_21 : decode cX7_lastsOf 21 = .ok (.invokevirtual 212, 3) := by decide +kernel
theorem dX7_lastsOf_24 : decode cX7_lastsOf 24 = .ok (.iload_n 2, 1) := by decide +kernel
theorem dX7_lastsOf_25 : decode cX7_lastsOf 25 = .ok (.if_icmp .eq (-20), 3) := by decide +kernel
theorem dX7_lastsOf_28 : decode cX7_lastsOf 28 = .ok (.aload_n 0, 1) := by decide +kernel
theorem dX7_lastsOf_29 : decode cX7_lastsOf 29 = .ok (.getfield 135, 3) := by decide +kernel
theorem dX7_lastsOf_32 : decode cX7_lastsOf 32 = .ok (.ireturn, 1) := by decide +kernel
theorem dX7_lastsOf_33 : decode cX7_lastsOf 33 = .ok (.bipush (-6), 2) := by decide +kernel
theorem dX7_lastsOf_35 : decode cX7_lastsOf 35 = .ok (.ireturn, 1) := by decide +kernel
theorem l_X7_lastsOf {d : List Nat} {T : vT} {M : vM} {rule : Int} {P : pP} {lag : Nat} {s0 : pS} (hB : vB T) (hr0 : 0 ≤ rule) (hr3 : rule ≤ 3) : ∀ t, t ≤ 600 → ∀ N, mKeep M N → mTj N rule P lag s0 t → (∀ i, i < t → pFell rule P lag s0 i = false) →
    vV m_X7_lastsOf d d (vPi fun r T1 M1 => T = T1 ∧ mKeep M M1 ∧ r = pOr (-6) (pLasts rule P lag s0) ∧ (pLasts rule P lag s0 = none → mTj M1 rule P lag s0 600)) 5 [some (vR 200), some (vI rule), some (vI (pBits s0.2.1 P.1))] [] d T N := by
  refine vUp ?_
  intro t ht ih N hk hj hf
  have hS := hj.S
  have h16 := hS.2.2.2.2.2.2.2.2.2.2.2.2.2.2.2
  have hnone : t = 600 → pLasts rule P lag s0 = none := fun h => by unfold pLasts; rw [pFind_no (fun j hj' => hf j (by omega))]; rfl
  refine vV.aload_n dX7_lastsOf_5 rfl ?_
  refine vV.geti (z := 16) dX7_lastsOf_6 fl_X7_135 (by first | rfl | assumption) rfl rfl ?_
  refine vV.sipush (v := 600) dX7_lastsOf_9 (by decide) (by decide) ?_
  refine vV.icmp_ge (tgt := 33) dX7_lastsOf_12 (by decide) (fun h12 => ?_) (fun h12 => ?_)
  · skip
    refine vV.bipush (v := (-6)) dX7_lastsOf_33 (by decide) (by decide) ?_
    refine vV.ri dX7_lastsOf_35 rfl ?_
    have h600 : t = 600 := by omega
    exact ⟨rfl, hk, by rw [hnone h600]; rfl, fun _ => by rw [← h600]; exact hj⟩
  · skip
    refine vV.aload_n dX7_lastsOf_15 rfl ?_
    refine vV.iload_n dX7_lastsOf_16 rfl ?_
    refine vV.cVv dX7_lastsOf_17 ml_X7_226 cw_X7_goBy iw_X7_goBy (by first | rfl | assumption) rfl (by unfold vRoom; decide) (c_X7_goByT hB hj (by omega) hr0 hr3) rfl rfl (Nat.le_of_ble_eq_true rfl) ?_
    rintro _ N1 ⟨rfl, hk1, hj1⟩
    have hS1 := hj1.S
    have h161 := hS1.2.2.2.2.2.2.2.2.2.2.2.2.2.2.2
    refine vV.aload_n dX7_lastsOf_20 rfl ?_
    refine vV.cVi dX7_lastsOf_21 ml_X7_212 cw_X7_simStanding iw_X7_simStanding (by first | rfl | assumption) rfl (by unfold vRoom; decide) (c_X7_simStanding hB hS1.1 hS1.2.1) rfl rfl (Nat.le_of_ble_eq_true rfl) ?_
    rintro x21 _ _ hx21 ⟨rfl, rfl, rfl⟩
    rw [hj1.tu]
    refine vV.iload_n dX7_lastsOf_24 rfl ?_
    refine vV.icmp_eq (tgt := 5) dX7_lastsOf_25 (by decide) (fun h25 => ?_) (fun h25 => ?_)
    · skip
      exact ih (by omega) N1 (hk.tr hk1) hj1 (fun i hi => (Nat.lt_succ_iff_lt_or_eq.mp hi).elim (hf i) (fun e => by subst e; simpa [pFell] using h25))
    · skip
      have hfe : pLasts rule P lag s0 = some (t + 1) := by { unfold pLasts; rw [pFind_yes (p := t) (by omega) (by simpa [pFell] using h25) hf]; rfl }
      refine vV.aload_n dX7_lastsOf_28 rfl ?_
      refine vV.geti (z := 16) dX7_lastsOf_29 fl_X7_135 (by first | rfl | assumption) rfl rfl ?_
      refine vV.ri dX7_lastsOf_32 rfl ?_
      exact ⟨rfl, hk.tr hk1, by rw [h161, hfe]; rfl, fun z => by rw [hfe] at z; cases z⟩
theorem c_X7_lastsOf {d : List Nat} {T : vT} {M : vM} {rule : Int} {P : pP} {lag : Nat} {s0 : pS} (hB : vB T) (hr0 : 0 ≤ rule) (hr3 : rule ≤ 3) (hj : mTj M rule P lag s0 0) : vCon m_X7_lastsOf d d [vR 200, vI rule] T M (vPi fun r T1 M1 => T = T1 ∧ mKeep M M1 ∧ r = pOr (-6) (pLasts rule P lag s0) ∧ (pLasts rule P lag s0 = none → mTj M1 rule P lag s0 600)) := by
  have hS := hj.S
  refine vCon.of (by decide) rfl rfl (Nat.le_of_ble_eq_true rfl) ?_
  have h := l_X7_lastsOf (d := d) (M := M) hB hr0 hr3 0 (by omega) M (mKeep.rf M) hj (fun i hi => by omega)
  refine vV.aload_n dX7_lastsOf_0 rfl ?_
  refine vV.cVi dX7_lastsOf_1 ml_X7_212 cw_X7_simStanding iw_X7_simStanding (by first | rfl | assumption) rfl (by unfold vRoom; decide) (c_X7_simStanding hB hS.1 hS.2.1) rfl rfl (Nat.le_of_ble_eq_true rfl) ?_
  rintro x1 _ _ hx1 ⟨rfl, rfl, rfl⟩
  rw [hj.tu, pTr_0]
  refine vV.istore_n (L' := [_, _, _]) dX7_lastsOf_4 (by decide) rfl ?_
  exact h
/-- behind begin the reference stands at tick 0 -/
def mS0 (M : vM) (n : Nat) : pS := (M 200 5, pMix n (M 204) (M 212), none, 0, none)
def mPb (M : vM) (n : Nat) : pP := (n, pMix n (M 201) (M 211), M 202, M 203, M 200 6, M 200 7)
theorem mTj_begin {M M1 : vM} {n lag : Nat} {rule : Int} (hW : mW M n) (hlag : M 200 8 = lag) (h : mBegin M M1 n) : mTj M1 rule (mPb M n) lag (mS0 M n) 0 := by
  have hS := mS_begin hW h
  obtain ⟨hc, ⟨p1, p2, p3, p4, p5, p6, p7, p8, p9, p10, p11, p12, p13, p14⟩, w1, w2⟩ := hW
  obtain ⟨b1, b2, b3, b4, b5, b6, b7, b8, b9, b10, b11⟩ := h
  refine ⟨?_, by rw [b2 8 (by decide)]; exact hlag, ⟨fun _ => M1 212, fun i hi => by rw [show i = 0 by omega, pTr_0, b4]; rfl, hS, ⟨fun i hi => ?_, fun _ j => hS.2.2.1 j⟩, b5, b4, b7, b4, ?_, ?_⟩, fun i hi => ?_⟩
  · unfold mP mPb; rw [b3, b1 202 (by decide), b1 203 (by decide), b2 6 (by decide), b2 7 (by decide)]
  · rw [b10, show (i : Int) = 0 by omega, fSet_s]; rfl
  · rw [b1 203 (by decide)]; exact fun j hj => (p13 j hj).2
  · rw [b2 8 (by decide)]; exact p11
  · rw [b11, show (i : Int) = 0 by omega, fSet_s, show i = 0 by omega, pTr_0]; rfl
theorem dX7_isRule_0 : decode cX7_isRule 0 = .ok (.iload_n 0, 1) := by decide +kernel
theorem dX7_isRule_1 : decode cX7_isRule 1 = .ok (.i2l, 1) := by decide +kernel
theorem dX7_isRule_2 : decode cX7_isRule 2 = .ok (.lconst 0, 1) := by decide +kernel
theorem dX7_isRule_3 : decode cX7_isRule 3 = .ok (.ldc2_w 102, 3) := by decide +kernel
theorem dX7_isRule_6 : decode cX7_isRule 6 = .ok (.invokestatic 92, 3) := by decide +kernel
theorem dX7_isRule_9 : decode cX7_isRule 9 = .ok (.ireturn, 1) := by decide +kernel
theorem c_X7_isRule {d : List Nat} {T : vT} {M : vM} {r : Int} : vCon m_X7_isRule d d [vI r] T M (vPi fun y T1 M1 => y = (if 0 ≤ r ∧ r ≤ 3 then 1 else 0) ∧ T = T1 ∧ M = M1) := by
  refine vCon.of (by decide) rfl rfl (Nat.le_of_ble_eq_true rfl) ?_
  refine vV.iload_n dX7_isRule_0 rfl ?_
  refine vV.i2l dX7_isRule_1 ?_
  refine vV.lconst (v := 0) dX7_isRule_2 (by decide) (by decide) ?_
  refine vV.ldc2 (v := 3) dX7_isRule_3 kl_X7_102 (by decide) (by decide) ?_
  refine vV.cSi dX7_isRule_6 ml_X7_92 cw_X7_in sw_X7_in (by unfold vRoom; decide) c_X7_in rfl rfl (Nat.le_of_ble_eq_true rfl) ?_
  rintro x6 _ _ hx6 ⟨rfl, rfl, rfl⟩
  refine vV.rz dX7_isRule_9 rfl (by unfold pIn; split <;> simp) ?_
  exact ⟨rfl, rfl, rfl⟩
/-- what a walk from what is now leaves as it was -/
def mKeepB (M M1 : vM) : Prop := mSame [200, 211, 212, 218, 219] M M1 ∧ mSlot [12, 13, 14, 15, 16] M M1 ∧ (mOk M → mOk M1)
theorem mBegin.keep {M M1 : vM} {n : Nat} (h : mBegin M M1 n) (hW : mW M n) : mKeepB M M1 := ⟨h.1, h.2.1, fun _ => ⟨(mS_begin hW h).2.2.2.1, (mS_begin hW h).2.2.1⟩⟩
theorem mKeepB.tr {M M1 M2 : vM} (h1 : mKeepB M M1) (h2 : mKeep M1 M2) : mKeepB M M2 := ⟨fun k hk => (h2.1 k (by simp at hk ⊢; omega)).trans (h1.1 k hk), fun j hj => (h2.2.1 j hj).trans (h1.2.1 j hj), fun z => h2.2.2 (h1.2.2 z)⟩
theorem mKeepB.rf (M : vM) : mKeepB M M := ⟨fun _ _ => rfl, fun _ _ => rfl, id⟩
/-- lasts(rule), as a number of what is now -/
def rLasts (rule : Int) (P : pP) (lag : Nat) (s0 : pS) (bits : Int) : Int := if ¬ (0 ≤ rule ∧ rule ≤ 3) then -2 else if bits = 0 then -3 else pOr (-6) (pLasts rule P lag s0)
theorem dX7_lasts_0 : decode cX7_lasts 0 = .ok (.iload_n 1, 1) := by decide +kernel
theorem dX7_lasts_1 : decode cX7_lasts 1 = .ok (.invokestatic 229, 3) := by decide +kernel
theorem dX7_lasts_4 : decode cX7_lasts 4 = .ok (.ifCond .ne 6, 3) := by decide +kernel
theorem dX7_lasts_7 : decode cX7_lasts 7 = .ok (.bipush (-2), 2) := by decide +kernel
theorem dX7_lasts_9 : decode cX7_lasts 9 = .ok (.ireturn, 1) := by decide +kernel
theorem dX7_lasts_10 : decode cX7_lasts 10 = .ok (.aload_n 0, 1) := by decide +kernel
theorem dX7_lasts_11 : decode cX7_lasts 11 = .ok (.invokevirtual 186, 3) := by decide +kernel
theorem dX7_lasts_14 : decode cX7_lasts 14 = .ok (.ifCond .ne 6, 3) := by decide +kernel
theorem dX7_lasts_17 : decode cX7_lasts 17 = .ok (.bipush (-3), 2) := by decide +kernel
theorem dX7_lasts_19 : decode cX7_lasts 19 = .ok (.ireturn, 1) := by decide +kernel
theorem dX7_lasts_20 : decode cX7_lasts 20 = .ok (.aload_n 0, 1) := by decide +kernel
theorem dX7_lasts_21 : decode cX7_lasts 21 = .ok (.invokevirtual 177, 3) := by decide +kernel
theorem dX7_lasts_24 : decode cX7_lasts 24 = .ok (.aload_n 0, 1) := by decide +kernel
theorem dX7_lasts_25 : decode cX7_lasts 25 = .ok (.iload_n 1, 1) := by decide +kernel
theorem dX7_lasts_26 : decode cX7_lasts 26 = .ok (.invokevirtual 232, 3) := by decide +kernel
theorem dX7_lasts_29 : decode cX7_lasts 29 = .ok (.ireturn, 1) := by decide +kernel
theorem c_X7_lasts {d : List Nat} {T : vT} {M : vM} {n lag : Nat} {rule : Int} (hB : vB T) (hW : mW M n) (hlag : M 200 8 = lag) : vCon m_X7_lasts d d [vR 200, vI rule] T M (vPi fun r T1 M1 => T = T1 ∧ mKeepB M M1 ∧ r = rLasts rule (mPb M n) lag (mS0 M n) (pBits (M 204) n)) := by
  unfold rLasts
  refine vCon.of (by decide) rfl rfl (Nat.le_of_ble_eq_true rfl) ?_
  refine vV.iload_n dX7_lasts_0 rfl ?_
  refine vV.cSi dX7_lasts_1 ml_X7_229 cw_X7_isRule sw_X7_isRule (by unfold vRoom; decide) c_X7_isRule rfl rfl (Nat.le_of_ble_eq_true rfl) ?_
  rintro x1 _ _ hx1 ⟨hxe, rfl, rfl⟩
  refine vV.if_ne (tgt := 10) dX7_lasts_4 (by decide) (fun h4 => ?_) (fun h4 => ?_)
  · skip
    have hir : 0 ≤ rule ∧ rule ≤ 3 := by { rcases Decidable.em (0 ≤ rule ∧ rule ≤ 3) with z | z; exact z; rw [hxe, if_neg z] at h4; omega }
    refine vV.aload_n dX7_lasts_10 rfl ?_
    refine vV.cVi dX7_lasts_11 ml_X7_186 cw_X7_standing iw_X7_standing (by first | rfl | assumption) rfl (by unfold vRoom; decide) (c_X7_standing hB hW.1 hW.2.1.1) rfl rfl (Nat.le_of_ble_eq_true rfl) ?_
    rintro x11 _ _ hx11 ⟨rfl, rfl, rfl⟩
    refine vV.if_ne (tgt := 20) dX7_lasts_14 (by decide) (fun h14 => ?_) (fun h14 => ?_)
    · skip
      refine vV.aload_n dX7_lasts_20 rfl ?_
      refine vV.cVv dX7_lasts_21 ml_X7_177 cw_X7_begin iw_X7_begin (by first | rfl | assumption) rfl (by unfold vRoom; decide) (c_X7_begin hB hW) rfl rfl (Nat.le_of_ble_eq_true rfl) ?_
      rintro _ N ⟨rfl, hb⟩
      have hj := mTj_begin (rule := rule) hW hlag hb
      refine vV.aload_n dX7_lasts_24 rfl ?_
      refine vV.iload_n dX7_lasts_25 rfl ?_
      refine vV.cVi dX7_lasts_26 ml_X7_232 cw_X7_lastsOf iw_X7_lastsOf (by first | rfl | assumption) rfl (by unfold vRoom; decide) (c_X7_lastsOf hB hir.1 hir.2 hj) rfl rfl (Nat.le_of_ble_eq_true rfl) ?_
      rintro x26 _ M1 hx26 ⟨rfl, hk1, hre, -⟩
      refine vV.ri dX7_lasts_29 rfl ?_
      exact ⟨rfl, (hb.keep hW).tr hk1, by rw [if_neg (fun z => z hir), if_neg h14, hre]⟩
    · skip
      refine vV.bipush (v := (-3)) dX7_lasts_17 (by decide) (by decide) ?_
      refine vV.ri dX7_lasts_19 rfl ?_
      exact ⟨rfl, mKeepB.rf M, by rw [if_neg (fun z => z hir), if_pos h14]⟩
  · skip
    have hnr : ¬ (0 ≤ rule ∧ rule ≤ 3) := by { intro z; rw [hxe, if_pos z] at h4; omega }
    refine vV.bipush (v := (-2)) dX7_lasts_7 (by decide) (by decide) ?_
    refine vV.ri dX7_lasts_9 rfl ?_
    exact ⟨rfl, mKeepB.rf M, by rw [if_pos hnr]⟩
