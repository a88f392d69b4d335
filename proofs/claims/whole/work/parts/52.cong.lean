/-! ===== own: the words look at the plates below n alone ===== -/
theorem pFind_cg {P Q : Nat → Bool} : ∀ {n : Nat}, (∀ j, j < n → P j = Q j) → pFind P n = pFind Q n
  | 0, _ => rfl
  | n + 1, h => by unfold pFind; rw [pFind_cg (n := n) (fun j hj => h j (by omega)), h n (by omega)]
theorem pMin_cg {S S' : Nat → Bool} {v v' : Nat → Int} : ∀ {n : Nat}, (∀ j, j < n → S j = S' j ∧ v j = v' j) → pMin S v n = pMin S' v' n
  | 0, _ => rfl
  | n + 1, h => by
    have ih := pMin_cg (n := n) (fun j hj => h j (by omega))
    rw [pMin_s, pMin_s, ← ih]
    cases hz : pMin S v n with
    | none => simp only; rw [(h n (by omega)).1]
    | some b => have := pMin_lt hz; simp only; rw [(h n (by omega)).1, (h n (by omega)).2, (h b (by omega)).2]
theorem pAt_cg {n : Nat} {pl pl' : Int → Int} (h : pEq n pl pl') (m : Int) : pAt n pl m = pAt n pl' m := pFind_cg (fun j hj => by rw [h j hj])
theorem pStd_cg {n : Nat} {tu tu' : Int → Int} {o : Option Nat} (h : pEq n tu tu') (ho : ∀ k, o = some k → k < n) : pStd tu o = pStd tu' o := by
  cases o with
  | none => rfl
  | some k => unfold pStd; simp only; rw [h k (ho k rfl)]
theorem pAt_lt {n : Nat} {pl : Int → Int} {m : Int} : ∀ k, pAt n pl m = some k → k < n := fun k h => (pAt_some h).1
theorem pCan_cg {n : Nat} {pl pl' tu tu' : Int → Int} (h : pEq n pl pl') (h2 : pEq n tu tu') (m th : Int) : pCan n pl tu m th = pCan n pl' tu' m th := by
  unfold pCan; rw [← pAt_cg h, pStd_cg h2 pAt_lt]
theorem pWd_cg {n : Nat} {fu fu' tu tu' : Int → Int} {o : Option Nat} (g : Int) (h : pEq n fu fu') (h2 : pEq n tu tu') (ho : ∀ k, o = some k → k < n) : pEq n (pWd fu tu g o) (pWd fu' tu' g o) := by
  cases o with
  | none => exact h2
  | some p =>
    intro j hj
    unfold pWd; simp only
    rw [fSet_c, fSet_c, h p (ho p rfl), h2 p (ho p rfl), h2 j hj]
theorem pWind_cg {n : Nat} {pl pl' fu fu' tu tu' : Int → Int} (m g th : Int) (h : pEq n pl pl') (h1 : pEq n fu fu') (h2 : pEq n tu tu') : pEq n (pWind n pl fu tu m g th) (pWind n pl' fu' tu' m g th) := by
  unfold pWind
  rw [← pAt_cg h]
  split
  · exact pWd_cg g h1 h2 pAt_lt
  · exact h2
theorem pDown_cg {n : Nat} {fa fa' tu tu' : Int → Int} (h : pEq n fa fa') (h2 : pEq n tu tu') : pEq n (pDown n fa tu) (pDown n fa' tu') := by
  intro j hj
  unfold pDown
  rw [if_pos (by omega), if_pos (by omega), h j hj, h2 j hj]
theorem pGo_cg {n : Nat} {pl pl' fu fu' tu tu' : Int → Int} (m pat th w : Int) {g : Option Nat} (h : pEq n pl pl') (h1 : pEq n fu fu') (h2 : pEq n tu tu') (hg : ∀ k, g = some k → k < n) : pGo pl fu tu m pat th g w = pGo pl' fu' tu' m pat th g w := by
  cases g with
  | none => rfl
  | some p => unfold pGo; simp only; rw [h p (hg p rfl), h1 p (hg p rfl), h2 p (hg p rfl)]
theorem pSeen_cg {n : Nat} {pl pl' tu tu' f f' : Int → Int} (m : Int) (h : pEq n pl pl') (h2 : pEq n tu tu') (h3 : pEq n f f') {j : Nat} (hj : j < n) : pSeen pl tu f m j = pSeen pl' tu' f' m j := by
  unfold pSeen; rw [h j hj, h2 j hj, h3 j hj]
theorem pFar_cg {n : Nat} {pl pl' : Int → Int} (m : Int) (h : pEq n pl pl') {j : Nat} (hj : j < n) : pFar pl m j = pFar pl' m j := by unfold pFar; rw [h j hj]
theorem pTake_cg {n : Nat} {pl pl' fa fa' tu tu' f f' : Int → Int} (rule m : Int) {l : Option Nat} (h : pEq n pl pl') (h1 : pEq n fa fa') (h2 : pEq n tu tu') (h3 : pEq n f f') : pTake rule n pl fa tu f m l = pTake rule n pl' fa' tu' f' m l := by
  have e1 : pWorst n pl tu f m = pWorst n pl' tu' f' m := pMin_cg (fun j hj => ⟨by rw [h2 j hj], pSeen_cg m h h2 h3 hj⟩)
  have e2 : pNear n pl tu f m = pNear n pl' tu' f' m := by
    unfold pNear
    rw [e1, pMin_cg (fun j hj => ⟨by rw [h2 j hj, pSeen_cg m h h2 h3 hj], pFar_cg m h hj⟩)]
  have e3 : pNext n tu l = pNext n tu' l := by
    unfold pNext
    rw [pFind_cg (fun j hj => by rw [h2 _ (pIdx_lt hj)])]
  have e4 : pLeft n pl fa tu f m = pLeft n pl' fa' tu' f' m := pMin_cg (fun j hj => ⟨by rw [h2 j hj], by unfold pLv; rw [pSeen_cg m h h2 h3 hj, pFar_cg m h hj, h1 j hj]⟩)
  unfold pTake
  rw [e1, e2, e3, e4]
def PEq (P P' : pP) : Prop := P'.1 = P.1 ∧ pEq P.1 P.2.1 P'.2.1 ∧ pEq P.1 P.2.2.1 P'.2.2.1 ∧ pEq P.1 P.2.2.2.1 P'.2.2.2.1 ∧ P'.2.2.2.2 = P.2.2.2.2
def SEq (n : Nat) (s s' : pS) : Prop := s'.1 = s.1 ∧ pEq n s.2.1 s'.2.1 ∧ s'.2.2 = s.2.2 ∧ (∀ k, s.2.2.1 = some k → k < n) ∧ ∀ k, s.2.2.2.2 = some k → k < n
theorem pNeed_cg {n : Nat} {tu tu' : Int → Int} {g : Option Nat} (h : pEq n tu tu') (hg : ∀ k, g = some k → k < n) : pNeed tu g = pNeed tu' g := by
  cases g with
  | none => rfl
  | some p => unfold pNeed; simp only; rw [h p (hg p rfl)]
theorem pCh_cg {rule : Int} {P P' : pP} {f f' : Int → Int} {s s' : pS} (hP : PEq P P') (hs : SEq P.1 s s') (hf : pEq P.1 f f') : SEq P.1 (pCh rule P f s) (pCh rule P' f' s') := by
  obtain ⟨n, pl, fu, fa, gi, pa⟩ := P
  obtain ⟨n', pl', fu', fa', gi', pa'⟩ := P'
  obtain ⟨m, tu, g, w, l⟩ := s
  obtain ⟨m', tu', g', w', l'⟩ := s'
  obtain ⟨hn, hpl, hfu, hfa, hr⟩ := hP
  obtain ⟨hm, htu, hz, hg, hl⟩ := hs
  simp only at hn hpl hfu hfa hr hm htu hz hg hl hf
  cases hr; cases hz; subst hn; subst hm
  unfold pCh pG1 pW1 pL1
  simp only
  rw [← pNeed_cg htu hg, ← pTake_cg rule m' hpl hfa htu hf]
  refine ⟨rfl, htu, rfl, ?_, ?_⟩
  · intro k; simp only; split
    · exact fun h => pTake_lt h
    · exact hg k
  · intro k; simp only; split
    · cases hq : pTake rule n' pl fa tu f m' l with
      | none => exact hl k
      | some b => intro h; cases h; exact pTake_lt hq
    · exact hl k
theorem pGo_some {pl fu tu : Int → Int} {m pat th w : Int} {g : Option Nat} {k : Nat} (h : (pGo pl fu tu m pat th g w).1 = some k) : g = some k := by
  cases g with
  | none => cases h
  | some p =>
    unfold pGo at h; simp only at h
    split at h
    · split at h
      · cases h
      · exact h
    · exact h
theorem pDo_cg {P P' : pP} {th : Int} {s s' : pS} (hP : PEq P P') (hs : SEq P.1 s s') : SEq P.1 (pDo P th s) (pDo P' th s') := by
  obtain ⟨n, pl, fu, fa, gi, pa⟩ := P
  obtain ⟨n', pl', fu', fa', gi', pa'⟩ := P'
  obtain ⟨m, tu, g, w, l⟩ := s
  obtain ⟨m', tu', g', w', l'⟩ := s'
  obtain ⟨hn, hpl, hfu, hfa, hr⟩ := hP
  obtain ⟨hm, htu, hz, hg, hl⟩ := hs
  simp only at hn hpl hfu hfa hr hm htu hz hg hl
  cases hr; cases hz; subst hn; subst hm
  have hw := pWind_cg m' gi th hpl hfu htu
  unfold pDo
  simp only
  rw [← pGo_cg m' pa th w hpl hfu hw hg]
  exact ⟨rfl, pDown_cg hfa hw, rfl, fun k h => hg k (pGo_some h), hl⟩
theorem pThing_cg {n : Nat} {pl pl' : Int → Int} (m : Int) {g : Option Nat} (h : pEq n pl pl') (hg : ∀ k, g = some k → k < n) : pThing pl m g = pThing pl' m g := by
  cases g with
  | none => rfl
  | some p => unfold pThing; simp only; rw [h p (hg p rfl)]
theorem pStep_cg {rule : Int} {P P' : pP} {f f' : Int → Int} {s s' : pS} (hP : PEq P P') (hs : SEq P.1 s s') (hf : pEq P.1 f f') : SEq P.1 (pStep rule P f s) (pStep rule P' f' s') := by
  have hc := pCh_cg (rule := rule) hP hs hf
  unfold pStep
  have e : pThing P'.2.1 s'.1 (pCh rule P' f' s').2.2.1 = pThing P.2.1 s.1 (pCh rule P f s).2.2.1 := by
    rw [show (pCh rule P' f' s').2.2.1 = (pCh rule P f s).2.2.1 by rw [hc.2.2.1], hs.1]
    exact (pThing_cg s.1 hP.2.1 hc.2.2.2.1).symm
  rw [e]
  exact pDo_cg hP hc
theorem pTr_cg {rule : Int} {P P' : pP} {lag : Nat} {s s' : pS} (hP : PEq P P') (hs : SEq P.1 s s') : ∀ t, SEq P.1 (pTr rule P lag s t) (pTr rule P' lag s' t) := by
  intro t
  induction t using Nat.strongRecOn with
  | ind t ih =>
    cases t with
    | zero => exact hs
    | succ t =>
      rw [pTr_s, pTr_s]
      exact pStep_cg hP (ih t (by omega)) (ih (t - lag) (by omega)).2.1
theorem pFell_cg {rule : Int} {P P' : pP} {lag : Nat} {s s' : pS} (hP : PEq P P') (hs : SEq P.1 s s') (t : Nat) : pFell rule P lag s t = pFell rule P' lag s' t := by
  unfold pFell
  rw [hP.1, pBits_cg (pTr_cg (rule := rule) (lag := lag) hP hs (t + 1)).2.1, pBits_cg hs.2.1]
theorem pLasts_cg {rule : Int} {P P' : pP} {lag : Nat} {s s' : pS} (hP : PEq P P') (hs : SEq P.1 s s') : pLasts rule P lag s = pLasts rule P' lag s' := by
  unfold pLasts
  rw [pFind_cg (fun j _ => pFell_cg hP hs j)]
theorem rLasts_cg {rule : Int} {P P' : pP} {lag : Nat} {s s' : pS} {b : Int} (hP : PEq P P') (hs : SEq P.1 s s') : rLasts rule P lag s b = rLasts rule P' lag s' b := by
  unfold rLasts; rw [pLasts_cg hP hs]
theorem pAll_cg {rule : Int} {P P' : pP} {lag : Nat} {s s' : pS} (hP : PEq P P') (hs : SEq P.1 s s') (a b : Nat) : ∀ k, pAll rule P lag s a b k = pAll rule P' lag s' a b k
  | 0 => rfl
  | k + 1 => by
    unfold pAll
    rw [pAll_cg hP hs a b k, hP.1, pPack_cg (pTr_cg (rule := rule) (lag := lag) hP hs (a - k)).2.1, pPack_cg (pTr_cg (rule := rule) (lag := lag) hP hs (b - k)).2.1]
theorem pAs_cg {rule : Int} {P P' : pP} {lag : Nat} {s s' : pS} (hP : PEq P P') (hs : SEq P.1 s s') (a b : Nat) : pAs rule P lag s a b = pAs rule P' lag s' a b := by
  have ea := pTr_cg (rule := rule) (lag := lag) hP hs a
  have eb := pTr_cg (rule := rule) (lag := lag) hP hs b
  unfold pAs pRS
  rw [pAll_cg hP hs, ea.1, eb.1, ea.2.2.1, eb.2.2.1]
theorem rRound_cg {rule what : Int} {P P' : pP} {lag : Nat} {s s' : pS} {b : Int} (hP : PEq P P') (hs : SEq P.1 s s') : rRound rule what P lag s b = rRound rule what P' lag s' b := by
  have e1 : ∀ a, pRb rule P lag s a = pRb rule P' lag s' a := fun a => pFind_cg (fun j _ => pAs_cg hP hs _ _)
  have e2 : pRa rule P lag s = pRa rule P' lag s' := pFind_cg (fun a _ => by rw [e1])
  have e3 : ∀ o, pRd rule what P lag s o = pRd rule what P' lag s' o := fun o => by
    cases o with
    | none => rfl
    | some a => unfold pRd; simp only; rw [e1]
  unfold rRound
  rw [pLasts_cg hP hs, e2, e3]
theorem rAt_cg {rule ticks plate : Int} {P P' : pP} {lag : Nat} {s s' : pS} (hP : PEq P P') (hs : SEq P.1 s s') : rAt rule ticks plate P lag s = rAt rule ticks plate P' lag s' := by
  have e := pTr_cg (rule := rule) (lag := lag) hP hs ticks.toNat
  unfold rAt
  rw [hP.1, e.1, e.2.2.1]
  split
  · rfl
  · split
    · rfl
    · split
      · rfl
      · split
        · rfl
        · rename_i h1 h2 h3 h4
          obtain ⟨q, hq⟩ : ∃ q : Nat, plate = q := ⟨plate.toNat, by omega⟩
          rw [hq]
          exact e.2.1 q (by omega)
/-! a show -/
theorem pT1_cg {P P' : pP} {th : Int} {s s' : pPos} (hP : PEq P P') (hm : s'.1 = s.1) (hs : pEq P.1 s.2 s'.2) : (pT1 P' th s').1 = (pT1 P th s).1 ∧ pEq P.1 (pT1 P th s).2 (pT1 P' th s').2 := by
  unfold pT1
  rw [hm, hP.1, hP.2.2.2.2]
  exact ⟨rfl, pDown_cg hP.2.2.2.1 (pWind_cg _ _ _ hP.2.1 hP.2.2.1 hs)⟩
theorem pRn_cg {P P' : pP} {q : Nat → Int} {s s' : pPos} (hP : PEq P P') (hm : s'.1 = s.1) (hs : pEq P.1 s.2 s'.2) : ∀ k, (pRn P' q s' k).1 = (pRn P q s k).1 ∧ pEq P.1 (pRn P q s k).2 (pRn P' q s' k).2
  | 0 => ⟨hm, hs⟩
  | k + 1 => by
    obtain ⟨a, b⟩ := pRn_cg (q := q) hP hm hs k
    exact pT1_cg hP a b
theorem pCn_cg {P P' : pP} {th : Int} {s s' : pPos} (hP : PEq P P') (hm : s'.1 = s.1) (hs : pEq P.1 s.2 s'.2) : pCn P th s = pCn P' th s' := by
  unfold pCn
  rw [hP.1, hm, pCan_cg hP.2.1 hs]
theorem pDn_cg {P P' : pP} {q : Nat → Int} {s s' : pPos} {a : Nat} (hP : PEq P P') (hm : s'.1 = s.1) (hs : pEq P.1 s.2 s'.2) : pDn P q s a = pDn P' q s' a := by
  refine pFind_cg (fun j _ => ?_)
  obtain ⟨x, y⟩ := pRn_cg (q := q) hP hm hs j
  rw [pCn_cg hP x y]
theorem pFf_cg {P P' : pP} {q : Nat → Int} {s s' : pPos} (hP : PEq P P') (hm : s'.1 = s.1) (hs : pEq P.1 s.2 s'.2) (k : Nat) : pFf P q s k = pFf P' q s' k := by
  unfold pFf
  rw [hP.1, pBits_cg (pRn_cg (q := q) hP hm hs (k + 1)).2, pBits_cg (pRn_cg (q := q) hP hm hs k).2]
theorem rJudge_cg {w : Int} {P P' : pP} {sg : Int → Int} {m : Nat} {s s' : pPos} (hP : PEq P P') (hm : s'.1 = s.1) (hs : pEq P.1 s.2 s'.2) : rJudge w P sg m s = rJudge w P' sg m s' := by
  unfold rJudge pJ
  rw [← pDn_cg hP hm hs]
  obtain ⟨x, y⟩ := pRn_cg (q := qL (pL sg m)) hP hm hs ((pDn P (qL (pL sg m)) s (pL sg m).length).getD (pL sg m).length)
  rw [pFind_cg (fun j _ => pFf_cg (q := qL (pL sg m)) hP hm hs j)]
  unfold pJw
  rw [hP.1, x, pBits_cg y, pSum_cg y]
theorem pTickR_cg {P P' : pP} {s s' : pPos} {y : Int} (hP : PEq P P') (hm : s'.1 = s.1) (hs : pEq P.1 s.2 s'.2) : pTickR P s y = pTickR P' s' y := by
  unfold pTickR
  rw [← pCn_cg hP hm hs, hP.1, pBits_cg (pT1_cg hP hm hs).2]
