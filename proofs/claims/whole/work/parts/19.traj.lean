/-! ===== own: the walk by a rule, as numbers ===== -/
/-- his place, the turns, the goal, how long it is wound, the last goal -/
abbrev pS : Type := Int × (Int → Int) × Option Nat × Int × Option Nat
/-- what does not change: n, places, fulls, falls, gives, patience -/
abbrev pP : Type := Nat × (Int → Int) × (Int → Int) × (Int → Int) × Int × Int
/-- the goal is chosen by the rule, seeing f -/
def pCh (rule : Int) (P : pP) (f : Int → Int) (s : pS) : pS := (s.1, s.2.1, pG1 rule P.1 P.2.1 P.2.2.2.1 s.2.1 f s.1 s.2.2.1 s.2.2.2.2, pW1 s.2.1 s.2.2.1 s.2.2.2.1, pL1 rule P.1 P.2.1 P.2.2.2.1 s.2.1 f s.1 s.2.2.1 s.2.2.2.2)
/-- a thing is done -/
def pDo (P : pP) (th : Int) (s : pS) : pS :=
  (pMan s.1 th, pDown P.1 P.2.2.2.1 (pWind P.1 P.2.1 P.2.2.1 s.2.1 s.1 P.2.2.2.2.1 th), (pGo P.2.1 P.2.2.1 (pWind P.1 P.2.1 P.2.2.1 s.2.1 s.1 P.2.2.2.2.1 th) s.1 P.2.2.2.2.2 th s.2.2.1 s.2.2.2.1).1, (pGo P.2.1 P.2.2.1 (pWind P.1 P.2.1 P.2.2.1 s.2.1 s.1 P.2.2.2.2.1 th) s.1 P.2.2.2.2.2 th s.2.2.1 s.2.2.2.1).2, s.2.2.2.2)
def pStep (rule : Int) (P : pP) (f : Int → Int) (s : pS) : pS := pDo P (pThing P.2.1 s.1 (pCh rule P f s).2.2.1) (pCh rule P f s)
/-- all states up to t -/
def pH (rule : Int) (P : pP) (lag : Nat) (s : pS) : Nat → Nat → pS
  | 0 => fun _ => s
  | t + 1 => fun i => if i ≤ t then pH rule P lag s t i else pStep rule P (pH rule P lag s t (t - lag)).2.1 (pH rule P lag s t t)
def pTr (rule : Int) (P : pP) (lag : Nat) (s : pS) (t : Nat) : pS := pH rule P lag s t t
theorem pH_eq (rule : Int) (P : pP) (lag : Nat) (s : pS) : ∀ t i, i ≤ t → pH rule P lag s t i = pTr rule P lag s i
  | 0, i, h => by rw [show i = 0 by omega]; rfl
  | t + 1, i, h => by
    by_cases hi : i ≤ t
    · rw [← pH_eq rule P lag s t i hi]; show (if _ then _ else _) = _; rw [if_pos hi]
    · rw [show i = t + 1 by omega]; rfl
theorem pTr_0 (rule : Int) (P : pP) (lag : Nat) (s : pS) : pTr rule P lag s 0 = s := rfl
theorem pTr_s (rule : Int) (P : pP) (lag : Nat) (s : pS) (t : Nat) : pTr rule P lag s (t + 1) = pStep rule P (pTr rule P lag s (t - lag)).2.1 (pTr rule P lag s t) := by
  show (if _ then _ else _) = _
  rw [if_neg (by omega), pH_eq _ _ _ _ t (t - lag) (by omega), pH_eq _ _ _ _ t t (by omega)]
/-- the thing that a goal asks for can be done -/
theorem pThing_can {n : Nat} {pl tu : Int → Int} {man : Int} {g : Option Nat} (hdis : pDis n pl) (hpl : ∀ j : Nat, 0 ≤ pl j ∧ pl j ≤ 7) (hm : 0 ≤ man ∧ man ≤ 7) (hg : ∀ k, g = some k → k < n ∧ 0 < tu k) : pCan n pl tu man (pThing pl man g) = true := by
  cases g with
  | none => rfl
  | some p =>
    obtain ⟨h1, h2⟩ := hg p rfl
    have := hpl p
    by_cases a : pl p = man
    · rw [pThing_3 a]
      have hat : pAt n pl man = some p := by rw [← a]; exact pAt_of hdis h1
      unfold pCan; rw [hat]; simpa [pStd] using h2
    · by_cases b : pl p < man
      · rw [pThing_1 a b]; unfold pCan; simp; omega
      · rw [pThing_2 a (by omega)]; unfold pCan; simp; omega
theorem pThing_rg (pl : Int → Int) (man : Int) (g : Option Nat) : 0 ≤ pThing pl man g ∧ pThing pl man g ≤ 3 := by
  cases g with
  | none => show (0 : Int) ≤ 0 ∧ (0 : Int) ≤ 3; decide
  | some p => unfold pThing; simp only; split <;> (try split) <;> omega
/-- a goal that is taken stands -/
theorem pMin_S {S : Nat → Bool} {v : Nat → Int} : ∀ {n k : Nat}, pMin S v n = some k → S k = true
  | 0, k, h => by cases h
  | n + 1, k, h => by
    rw [pMin_s] at h
    cases hz : pMin S v n with
    | none => rw [hz] at h; simp only at h; split at h; cases h; assumption; cases h
    | some b =>
      have := pMin_S hz
      rw [hz] at h; simp only at h; split at h
      · rename_i hs; cases h; simp at hs; exact hs.1
      · cases h; exact this
theorem pTake_std {rule : Int} {n k : Nat} {pl fa tu f : Int → Int} {man : Int} {l : Option Nat} (h : pTake rule n pl fa tu f man l = some k) : 0 < tu k := by
  unfold pTake at h
  split at h
  · simpa using pMin_S h
  · split at h
    · unfold pNear at h
      cases hz : pMin (fun j => decide (0 < tu j) && decide (pSeen pl tu f man j ≤ 5)) (pFar pl man) n with
      | none => rw [hz] at h; simpa using pMin_S (show pMin _ _ n = some k from h)
      | some b => rw [hz] at h; cases h; have := pMin_S hz; simp at this; exact this.1
    · split at h
      · unfold pNext at h
        cases hz : pFind (fun k => decide (0 < tu (pIdx n l k))) n with
        | none => rw [hz] at h; cases h
        | some b => rw [hz] at h; cases h; simpa using (pFind_some hz).2.1
      · simpa using pMin_S h
theorem pG1_std {rule : Int} {n k : Nat} {pl fa tu f : Int → Int} {man : Int} {g l : Option Nat} (ht : ∀ j : Nat, 0 ≤ tu j) (h : pG1 rule n pl fa tu f man g l = some k) : 0 < tu k := by
  unfold pG1 at h
  split at h
  · exact pTake_std h
  · rename_i hn
    subst h
    simp [pNeed] at hn
    have := ht k; omega
/-- the reference's rows hold the state s at tick t -/
def mP (M : vM) (n : Nat) : pP := (n, M 211, M 202, M 203, M 200 6, M 200 7)
def mSt (M : vM) (n t : Nat) (hist : Nat → Int → Int) (s : pS) : Prop := mS M n t s.2.2.1 s.2.2.2.2 ∧ mL M n t hist ∧ M 200 12 = s.1 ∧ M 212 = s.2.1 ∧ M 200 14 = s.2.2.2.1 ∧ hist t = s.2.1 ∧ (∀ j : Nat, j < n → 1 ≤ M 203 j) ∧ (0 ≤ M 200 8 ∧ M 200 8 ≤ 3)
/-- the rows of his show are in their bounds, also beyond the plates -/
def mOk (M : vM) : Prop := (∀ j : Nat, 0 ≤ M 211 j ∧ M 211 j ≤ 7) ∧ ∀ j : Nat, 0 ≤ M 212 j ∧ M 212 j ≤ 15
def mKeep (M M1 : vM) : Prop := mSame [200, 212, 218, 219] M M1 ∧ mSlot [12, 13, 14, 15, 16] M M1 ∧ (mOk M → mOk M1)
theorem mKeep.rf (M : vM) : mKeep M M := ⟨fun _ _ => rfl, fun _ _ => rfl, id⟩
theorem mKeep.tr {M M1 M2 : vM} (h1 : mKeep M M1) (h2 : mKeep M1 M2) : mKeep M M2 := ⟨fun k hk => (h2.1 k hk).trans (h1.1 k hk), fun j hj => (h2.2.1 j hj).trans (h1.2.1 j hj), fun z => h2.2.2 (h1.2.2 z)⟩
theorem mKeep.P {M M1 : vM} (h : mKeep M M1) (n : Nat) : mP M1 n = mP M n := by
  unfold mP; rw [h.1 211 (by decide), h.1 202 (by decide), h.1 203 (by decide), h.2.1 6 (by decide), h.2.1 7 (by decide)]
theorem dX7_goBy_0 : decode cX7_goBy 0 = .ok (.aload_n 0, 1) := by decide +kernel
theorem dX7_goBy_1 : decode cX7_goBy 1 = .ok (.aload_n 0, 1) := by decide +kernel
theorem dX7_goBy_2 : decode cX7_goBy 2 = .ok (.iload_n 1, 1) := by decide +kernel
theorem dX7_goBy_3 : decode cX7_goBy 3 = .ok (.invokevirtual 171, 3) := by decide +kernel
theorem dX7_goBy_6 : decode cX7_goBy 6 = .ok (.invokevirtual 174, 3) := by decide +kernel
theorem dX7_goBy_9 : decode cX7_goBy 9 = .ok (.return_, 1) := by decide +kernel
/-- goBy: a tick by the rule -/
theorem c_X7_goBy {d : List Nat} {T : vT} {M : vM} {n t lag : Nat} {hist : Nat → Int → Int} {s : pS} {rule : Int} (hB : vB T) (hM : mSt M n t hist s) (ht : t < 600) (hlag : M 200 8 = lag) (hr0 : 0 ≤ rule) (hr3 : rule ≤ 3) :
    vCon m_X7_goBy d d [vR 200, vI rule] T M (vPv fun T1 M1 => T = T1 ∧ mKeep M M1 ∧ ∃ hist', (∀ i, i ≤ t → hist' i = hist i) ∧ mSt M1 n (t + 1) hist' (pStep rule (mP M n) (hist (t - lag)) s) ∧ M1 219 = fSet (M 219) (t + 1) (pRest (M1 200 12) (M1 200 13) (M1 200 14) (M1 200 15))) := by
  obtain ⟨hS, hL, m1, m2, m3, m4, m5, m6⟩ := hM
  have hS2 := hS
  obtain ⟨s1, s2, s3, s4, s5, s6, s7, s8, s9, s10, s11, s12, s13, s14, s15, s16⟩ := hS2
  refine vCon.of (by decide) rfl rfl (Nat.le_of_ble_eq_true rfl) ?_
  refine vV.aload_n dX7_goBy_0 rfl ?_
  refine vV.aload_n dX7_goBy_1 rfl ?_
  refine vV.iload_n dX7_goBy_2 rfl ?_
  refine vV.cVi dX7_goBy_3 ml_X7_171 cw_X7_thingBy iw_X7_thingBy (by first | rfl | assumption) rfl (by unfold vRoom; decide) (c_X7_thingBy hB hS hL (by omega) hlag (by omega) m5 hr0 hr3) rfl rfl (Nat.le_of_ble_eq_true rfl) ?_
  rintro th _ N hth ⟨rfl, hthe, htb⟩
  obtain ⟨g1, hg1⟩ : ∃ g1, g1 = pG1 rule n (M 211) (M 203) (M 212) (hist (t - lag)) (M 200 12) s.2.2.1 s.2.2.2.2 := ⟨_, rfl⟩
  obtain ⟨l1, hl1⟩ : ∃ l1, l1 = pL1 rule n (M 211) (M 203) (M 212) (hist (t - lag)) (M 200 12) s.2.2.1 s.2.2.2.2 := ⟨_, rfl⟩
  obtain ⟨w1, hw1⟩ : ∃ w1, w1 = pW1 (M 212) s.2.2.1 (M 200 14) := ⟨_, rfl⟩
  rw [← hg1] at hthe
  rw [← hg1, ← hl1, ← hw1] at htb
  have hw1r : 0 ≤ w1 ∧ w1 < M 200 7 := by rw [hw1]; unfold pW1; split <;> omega
  have hg1n : ∀ k, g1 = some k → k < n := by rw [hg1]; exact pG1_lt s9
  have hl1n : ∀ k, l1 = some k → k < n := by rw [hl1]; exact pL1_lt s11
  have hSN : mS N n t g1 l1 := mS_tb hS htb hw1r hg1n hl1n
  have e1 : N 211 = M 211 := htb.1 211 (by decide)
  have e2 : N 212 = M 212 := htb.1 212 (by decide)
  have e3 : N 203 = M 203 := htb.1 203 (by decide)
  have e4 : N 202 = M 202 := htb.1 202 (by decide)
  have e5 : N 200 12 = M 200 12 := htb.2.1 12 (by decide)
  have e6 : N 200 6 = M 200 6 := htb.2.1 6 (by decide)
  have e7 : N 200 7 = M 200 7 := htb.2.1 7 (by decide)
  have hcan : pCan n (N 211) (N 212) (N 200 12) th = true := by
    rw [hthe, e1, e2, e5]
    exact pThing_can s7 s4 s15 (fun k hk => ⟨hg1n k hk, pG1_std (fun j => (s3 j).1) (hg1.symm.trans hk)⟩)
  have hthr := pThing_rg (M 211) (M 200 12) g1
  refine vV.cVv dX7_goBy_6 ml_X7_174 cw_X7_doThing iw_X7_doThing (by first | rfl | assumption) rfl (by unfold vRoom; decide) (c_X7_doThing hB hSN ht (by omega) (by omega) hcan) rfl rfl (Nat.le_of_ble_eq_true rfl) ?_
  rintro _ M1 ⟨rfl, htk, hS1⟩
  refine vV.rv dX7_goBy_9 rfl ?_
  obtain ⟨t1, t2, t3, t4, t5, t6, t7, t8, t9⟩ := htk
  rw [e1, e2, e4, e5, e6, e7, htb.2.2.2.1] at t5 t6 hS1
  rw [e1, e2, e3, e4, e5, e6] at t3
  rw [e5] at t4
  have hst : pStep rule (mP M n) (hist (t - lag)) s = (M1 200 12, M1 212, (pGo (M 211) (M 202) (pWind n (M 211) (M 202) (M 212) (M 200 12) (M 200 6) th) (M 200 12) (M 200 7) th g1 w1).1, M1 200 14, l1) := by
    rw [t3, t4, t6, hthe, hl1, hw1, hg1]
    unfold pStep pDo pCh mP
    simp only
    rw [← m1, ← m2, ← m3]
  have hk : mKeep M M1 := ⟨fun k hk => by rw [t1 k (by simp at hk ⊢; omega), htb.1 k (by simp at hk ⊢; omega)], fun j hj => by rw [t2 j (by simp at hj ⊢; omega), htb.2.1 j (by simp at hj ⊢; omega)], fun _ => ⟨hS1.2.2.2.1, hS1.2.2.1⟩⟩
  refine ⟨rfl, hk, fun i => if i ≤ t then hist i else M1 212, fun i hi => if_pos hi, ?_, ?_⟩
  · rw [hst]
    refine ⟨hS1, ⟨fun i hi => ?_, fun i j => ?_⟩, rfl, rfl, rfl, if_neg (by omega), by rw [hk.1 203 (by decide)]; exact m5, by rw [hk.2.1 8 (by decide)]; exact m6⟩
    · rw [t8, htb.1 218 (by decide)]
      by_cases hit : i ≤ t
      · simp only [hit, if_true]; rw [fSet_n (by omega)]; exact hL.1 i hit
      · simp only [hit, if_false]; rw [show (i : Int) = (t : Int) + 1 by omega, fSet_s]
    · by_cases hit : i ≤ t
      · simp only [hit, if_true]; exact hL.2 i j
      · simp only [hit, if_false]; exact hS1.2.2.1 j
  · rw [t9, htb.1 219 (by decide)]
  skip
