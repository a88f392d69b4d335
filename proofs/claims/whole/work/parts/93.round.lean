/-! ===== own: round: the first that comes again is the first to which one comes back ===== -/
/-- the state of a walk is sound -/
def wOk (P : pP) (s : pS) : Prop := (0 ≤ s.1 ∧ s.1 ≤ 7) ∧ (∀ j : Nat, 0 ≤ s.2.1 j ∧ s.2.1 j ≤ 15) ∧ (∀ k, s.2.2.1 = some k → k < P.1) ∧ (0 ≤ s.2.2.2.1 ∧ s.2.2.2.1 < P.2.2.2.2.2) ∧ ∀ k, s.2.2.2.2 = some k → k < P.1
def wPk (P : pP) : Prop := P.1 ≤ 6 ∧ (∀ j : Nat, 0 ≤ P.2.1 j ∧ P.2.1 j ≤ 7) ∧ (∀ j : Nat, 0 ≤ P.2.2.1 j ∧ P.2.2.1 j ≤ 15) ∧ (∀ j : Nat, 0 ≤ P.2.2.2.1 j) ∧ 1 ≤ P.2.2.2.2.1 ∧ (1 ≤ P.2.2.2.2.2 ∧ P.2.2.2.2.2 ≤ 9)
theorem pStep_ok {rule : Int} {P : pP} {f : Int → Int} {s : pS} (hP : wPk P) (h : wOk P s) : wOk P (pStep rule P f s) := by
  obtain ⟨n, pl, fu, fa, gi, pa⟩ := P
  obtain ⟨m, tu, g, w, l⟩ := s
  obtain ⟨p1, p2, p3, p4, p5, p6⟩ := hP
  obtain ⟨h1, h2, h3, h4, h5⟩ := h
  simp only at p1 p2 p3 p4 p5 p6 h1 h2 h3 h4 h5
  have hg1 : ∀ k, pG1 rule n pl fa tu f m g l = some k → k < n := pG1_lt h3
  have hw1 : 0 ≤ pW1 tu g w ∧ pW1 tu g w < pa := by unfold pW1; split <;> omega
  have hl1 : ∀ k, pL1 rule n pl fa tu f m g l = some k → k < n := by
    intro k; unfold pL1; split
    · cases hq : pTake rule n pl fa tu f m l with
      | none => exact h5 k
      | some b => intro h; cases h; exact pTake_lt hq
    · exact h5 k
  unfold pStep pDo pCh
  refine ⟨?_, fun j => ?_, ?_, ?_, hl1⟩
  · simp only
    cases hz : pG1 rule n pl fa tu f m g l with
    | none => exact h1
    | some k =>
      have := p2 k
      unfold pThing pMan; simp only
      split
      · rw [if_neg (by decide), if_neg (by decide)]; exact h1
      · split
        · rw [if_pos rfl]; omega
        · rw [if_neg (by decide), if_pos rfl]; omega
  · simp only
    have := pWind_15 (n := n) (pl := pl) (man := m) (y := pThing pl m (pG1 rule n pl fa tu f m g l)) p3 h2 p5 j
    have := p4 j
    unfold pDown
    split <;> omega
  · exact pGo_lt hg1
  · exact pGo_w hw1.1 hw1.2
theorem pTr_ok {rule : Int} {P : pP} {lag : Nat} {s : pS} (hP : wPk P) (h : wOk P s) : ∀ t, wOk P (pTr rule P lag s t)
  | 0 => h
  | t + 1 => by rw [pTr_s]; exact pStep_ok hP (pTr_ok hP h t)
theorem pOr_b {d : Int} {o : Option Nat} {n : Nat} (h : ∀ k, o = some k → k < n) (hn : n ≤ 6) : (o = none ∧ pOr d o = d) ∨ ∃ k : Nat, o = some k ∧ k < 6 ∧ pOr d o = k := by
  cases o with
  | none => exact Or.inl ⟨rfl, rfl⟩
  | some k => exact Or.inr ⟨k, rfl, by have := h k rfl; omega, rfl⟩
theorem pOr_rj {d : Int} {o : Option Nat} {n : Nat} (h : ∀ k, o = some k → k < n) (hn : n ≤ 6) (hd : d < 0) : d ≤ pOr d o ∧ pOr d o ≤ 5 := by
  cases o with
  | none => rw [pOr_n]; omega
  | some k => have := h k rfl; rw [pOr_s]; omega
theorem pOr_inj {d : Int} {o o' : Option Nat} (hd : d < 0) (h : pOr d o = pOr d o') : o = o' := by
  cases o <;> cases o'
  · rfl
  · rw [pOr_n, pOr_s] at h; omega
  · rw [pOr_n, pOr_s] at h; omega
  · rw [pOr_s, pOr_s] at h; congr 1; omega
theorem pLS_RS {P : pP} {s s' : pS} (hP : wPk P) (h : wOk P s) (h' : wOk P s') : (pLS s = pLS s' ↔ (s.1 = s'.1 ∧ s.2.2 = s'.2.2)) ∧ (pRS s = pRS s' ↔ (s.1 = s'.1 ∧ s.2.2 = s'.2.2)) := by
  obtain ⟨n, pl, fu, fa, gi, pa⟩ := P
  obtain ⟨m, tu, g, w, l⟩ := s
  obtain ⟨m', tu', g', w', l'⟩ := s'
  obtain ⟨p1, p2, p3, p4, p5, p6⟩ := hP
  obtain ⟨h1, -, h3, h4, h5⟩ := h
  obtain ⟨h1', -, h3', h4', h5'⟩ := h'
  simp only at p1 p6 h1 h3 h4 h5 h1' h3' h4' h5'
  clear p2 p3 p4 p5
  have fin : ∀ d : Int, d < 0 → m = m' → pOr d g = pOr d g' → w = w' → pOr d l = pOr d l' → (m, tu, g, w, l).1 = (m', tu', g', w', l').1 ∧ (m, tu, g, w, l).2.2 = (m', tu', g', w', l').2.2 := fun d hd e1 e2 e3 e4 => by
    have e5 := pOr_inj hd e2
    have e6 := pOr_inj hd e4
    subst e1; subst e3; subst e5; subst e6
    exact ⟨rfl, rfl⟩
  constructor
  · constructor
    · intro e
      have a1 := pOr_rj (d := -1) h3 p1 (by omega)
      have a2 := pOr_rj (d := -1) h3' p1 (by omega)
      have a3 := pOr_rj (d := -1) h5 p1 (by omega)
      have a4 := pOr_rj (d := -1) h5' p1 (by omega)
      unfold pLS pLog at e
      simp only at e
      exact fin (-1) (by omega) (by omega) (by omega) (by omega) (by omega)
    · rintro ⟨e1, e2⟩; cases e2; simp only at e1; rw [e1]; rfl
  · constructor
    · intro e
      have a1 := pOr_rj (d := -6) h3 p1 (by omega)
      have a2 := pOr_rj (d := -6) h3' p1 (by omega)
      have a3 := pOr_rj (d := -6) h5 p1 (by omega)
      have a4 := pOr_rj (d := -6) h5' p1 (by omega)
      unfold pRS pRest at e
      simp only at e
      exact fin (-6) (by omega) (by omega) (by omega) (by omega) (by omega)
    · rintro ⟨e1, e2⟩; cases e2; simp only at e1; rw [e1]; rfl
theorem pWa_As {rule : Int} {P : pP} {lag : Nat} {s : pS} (hP : wPk P) (h : wOk P s) (a b : Nat) : pWa rule P lag s a b = pAs rule P lag s a b := by
  have e := pLS_RS hP (pTr_ok (rule := rule) (lag := lag) hP h a) (pTr_ok (rule := rule) (lag := lag) hP h b)
  unfold pWa pAs
  rw [decide_eq_decide.mpr (e.1.trans e.2.symm)]
theorem pPack_eq {f g : Int → Int} (hf : ∀ j : Nat, 0 ≤ f j ∧ f j ≤ 15) (hg : ∀ j : Nat, 0 ≤ g j ∧ g j ≤ 15) {n : Nat} (h : pPack f n = pPack g n) : pEq n f g := fun j hj => by
  rw [← pPack_dig hf n hj, ← pPack_dig hg n hj, h]
theorem pAll_iff {rule : Int} {P : pP} {lag : Nat} {s : pS} {a b : Nat} : ∀ m, pAll rule P lag s a b m = true ↔ ∀ k, k < m → pPack (pTr rule P lag s (a - k)).2.1 P.1 = pPack (pTr rule P lag s (b - k)).2.1 P.1
  | 0 => ⟨fun _ k hk => by omega, fun _ => rfl⟩
  | m + 1 => by
    show (pAll rule P lag s a b m && decide _) = true ↔ _
    rw [Bool.and_eq_true, pAll_iff m, decide_eq_true_iff]
    constructor
    · rintro ⟨x, y⟩ k hk
      rcases Nat.lt_succ_iff_lt_or_eq.mp hk with z | z
      · exact x k z
      · rw [z]; exact y
    · exact fun x => ⟨fun k hk => x k (by omega), x m (by omega)⟩
/-- as words -/
def pR (rule : Int) (P : pP) (lag : Nat) (s : pS) (a b : Nat) : Prop := (pTr rule P lag s a).1 = (pTr rule P lag s b).1 ∧ (pTr rule P lag s a).2.2 = (pTr rule P lag s b).2.2 ∧ ∀ k, k ≤ lag → pEq P.1 (pTr rule P lag s (a - k)).2.1 (pTr rule P lag s (b - k)).2.1
theorem pAs_R {rule : Int} {P : pP} {lag : Nat} {s : pS} (hP : wPk P) (h : wOk P s) (a b : Nat) : pAs rule P lag s a b = true ↔ pR rule P lag s a b := by
  have ok := pTr_ok (rule := rule) (lag := lag) hP h
  have e := (pLS_RS hP (ok a) (ok b)).2
  unfold pAs pR
  rw [Bool.and_eq_true, decide_eq_true_iff, e, pAll_iff]
  constructor
  · rintro ⟨⟨x, y⟩, z⟩; exact ⟨x, y, fun k hk => pPack_eq (ok _).2.1 (ok _).2.1 (z k (by omega))⟩
  · rintro ⟨x, y, z⟩; exact ⟨⟨x, y⟩, fun k hk => pPack_cg (z k (by omega))⟩
theorem pR.symm {rule : Int} {P : pP} {lag : Nat} {s : pS} {a b : Nat} (h : pR rule P lag s a b) : pR rule P lag s b a := ⟨h.1.symm, h.2.1.symm, fun k hk => (h.2.2 k hk).symm⟩
theorem pR.tr {rule : Int} {P : pP} {lag : Nat} {s : pS} {a b c : Nat} (h : pR rule P lag s a b) (h2 : pR rule P lag s b c) : pR rule P lag s a c := ⟨h.1.trans h2.1, h.2.1.trans h2.2.1, fun k hk => (h.2.2 k hk).trans (h2.2.2 k hk)⟩

theorem pR.next {rule : Int} {P : pP} {lag : Nat} {s : pS} (hP : wPk P) (h0 : wOk P s) {a b : Nat} (h : pR rule P lag s a b) : pR rule P lag s (a + 1) (b + 1) := by
  have ok := pTr_ok (rule := rule) (lag := lag) hP h0
  have hs : SEq P.1 (pTr rule P lag s a) (pTr rule P lag s b) := ⟨h.1.symm, h.2.2 0 (by omega), h.2.1.symm, (ok a).2.2.1, (ok a).2.2.2.2⟩
  have hn := pStep_cg (rule := rule) (PEq.rf P) hs (h.2.2 lag (Nat.le_refl _))
  rw [← pTr_s, ← pTr_s] at hn
  refine ⟨hn.1.symm, hn.2.2.1.symm, fun k hk => ?_⟩
  cases k with
  | zero => exact hn.2.1
  | succ k => rw [show a + 1 - (k + 1) = a - k by omega, show b + 1 - (k + 1) = b - k by omega]; exact h.2.2 k (by omega)
theorem pR.far {rule : Int} {P : pP} {lag : Nat} {s : pS} (hP : wPk P) (h0 : wOk P s) {a b : Nat} (h : pR rule P lag s a b) : ∀ m, pR rule P lag s (a + m) (b + m)
  | 0 => h
  | m + 1 => (pR.far hP h0 h m).next hP h0
/-- no fall: what the class finds is what the reference finds -/
theorem round_same {rule : Int} {P : pP} {lag : Nat} {s : pS} (hP : wPk P) (h0 : wOk P s) (what : Int) : pRe what (pGr rule P lag s) = if (pLasts rule P lag s).isSome then -6 else pRd rule what P lag s (pRa rule P lag s) := by
  have hwa := pWa_As (rule := rule) (lag := lag) hP h0
  have hR := pAs_R (rule := rule) (lag := lag) hP h0
  have hfe : ∀ t e, pFe rule P lag s t = some e → e < t ∧ pR rule P lag s e t := fun t e h => by
    obtain ⟨a, b, c⟩ := pFind_some h
    rw [hwa, hR] at b
    exact ⟨a, b⟩
  have hfn : ∀ t, pFe rule P lag s t = none → ∀ e, e < t → ¬ pR rule P lag s e t := fun t h e he hr => by
    have := pFind_some.pFind_none h e he
    rw [hwa, (hR _ _).mpr hr] at this
    cases this
  cases hl : pLasts rule P lag s with
  | some y =>
    rw [if_pos Option.isSome_some]
    -- a fall at some tick: a round before it would keep all for ever
    have hz : ∃ t, pFind (pFell rule P lag s) 600 = some t := by
      unfold pLasts at hl
      cases hq : pFind (pFell rule P lag s) 600 with
      | none => rw [hq] at hl; cases hl
      | some t => exact ⟨t, rfl⟩
    obtain ⟨t, ht⟩ := hz
    obtain ⟨t1, t2, t3⟩ := pFind_some ht
    have hg : pGr rule P lag s = none := by
      unfold pGr
      cases hq : pFind (pGx rule P lag s) 600 with
      | none => rfl
      | some u =>
        obtain ⟨u1, u2, u3⟩ := pFind_some hq
        simp only
        by_cases hf : pFell rule P lag s u = true
        · rw [if_pos hf]
        · exfalso
          have hfe2 : (pFe rule P lag s (u + 1)).isSome = true := by unfold pGx at u2; simpa [hf] using u2
          obtain ⟨e, he⟩ := Option.isSome_iff_exists.mp hfe2
          obtain ⟨e1, e2⟩ := hfe _ _ he
          have hut : u < t := by
            rcases Nat.lt_trichotomy u t with z | z | z
            · exact z
            · rw [z] at hf; exact absurd t2 hf
            · have := u3 t z
              unfold pGx at this
              rw [t2] at this; cases this
          -- the tick t + 1 is as one that is earlier by m periods
          have hall : ∀ m, u + 1 + m ≤ t + 1 → ∃ j, e ≤ j ∧ j ≤ u ∧ pR rule P lag s j (u + 1 + m) := by
            intro m
            induction m with
            | zero => exact fun _ => ⟨e, Nat.le_refl _, by omega, e2⟩
            | succ m ih =>
              intro hm
              obtain ⟨j, j1, j2, j3⟩ := ih (by omega)
              have j4 := j3.next hP h0
              by_cases hj : j + 1 ≤ u
              · exact ⟨j + 1, by omega, hj, j4⟩
              · rw [show j + 1 = u + 1 by omega] at j4
                exact ⟨e, Nat.le_refl _, by omega, e2.tr j4⟩
          obtain ⟨j, j1, j2, j3⟩ := hall (t - u) (by omega)
          rw [show u + 1 + (t - u) = t + 1 by omega] at j3
          have hb : pBits (pTr rule P lag s j).2.1 P.1 = pBits (pTr rule P lag s (t + 1)).2.1 P.1 := pBits_cg (j3.2.2 0 (by omega))
          unfold pFell at t2
          rw [decide_eq_true_iff, ← hb] at t2
          cases j with
          | zero => exact t2 rfl
          | succ j =>
            have := t3 j (by omega)
            unfold pFell at this
            rw [decide_eq_false_iff_not] at this
            exact this t2
    rw [hg]; rfl
  | none =>
    rw [if_neg (by simp)]
    have hnf : ∀ t, t < 600 → pFell rule P lag s t = false := by
      unfold pLasts at hl
      cases hq : pFind (pFell rule P lag s) 600 with
      | none => exact pFind_some.pFind_none hq
      | some t => rw [hq] at hl; cases hl
    have hgx : ∀ t, t < 600 → pGx rule P lag s t = (pFe rule P lag s (t + 1)).isSome := fun t ht => by unfold pGx; rw [hnf t ht]; rfl
    have hrbR : ∀ a j, pRb rule P lag s a = some j → j < 600 - a ∧ pR rule P lag s a (a + 1 + j) ∧ ∀ i, i < j → ¬ pR rule P lag s a (a + 1 + i) := fun a j h => by
      obtain ⟨x, y, z⟩ := pFind_some h
      exact ⟨x, (hR _ _).mp y, fun i hi hr => by have := z i hi; rw [(hR _ _).mpr hr] at this; cases this⟩
    have hrbN : ∀ a, pRb rule P lag s a = none → ∀ i, i < 600 - a → ¬ pR rule P lag s a (a + 1 + i) := fun a h i hi hr => by
      have := pFind_some.pFind_none h i hi; rw [(hR _ _).mpr hr] at this; cases this
    unfold pGr
    cases hq : pFind (pGx rule P lag s) 600 with
    | none =>
      have hno := pFind_some.pFind_none hq
      have hra : pRa rule P lag s = none := pFind_no (fun a ha => by
        cases hb : pRb rule P lag s a with
        | none => rfl
        | some j =>
          exfalso
          obtain ⟨x, y, z⟩ := hrbR a j hb
          have h1 := hno (a + j) (by omega)
          rw [hgx _ (by omega)] at h1
          have h2 : pFe rule P lag s (a + j + 1) = none := by
            cases hc : pFe rule P lag s (a + j + 1) with
            | none => rfl
            | some e => rw [hc] at h1; cases h1
          exact hfn _ h2 a (by omega) (by rw [show a + j + 1 = a + 1 + j by omega]; exact y))
      rw [hra]; rfl
    | some t =>
      obtain ⟨t1, t2, t3⟩ := pFind_some hq
      simp only
      rw [if_neg (by rw [hnf t t1]; simp)]
      rw [hgx t t1] at t2
      obtain ⟨e, he⟩ := Option.isSome_iff_exists.mp t2
      obtain ⟨e1, e2⟩ := hfe _ _ he
      rw [he]
      -- e has a later one that is as it
      have hle : ∀ a j, a < 600 → pRb rule P lag s a = some j → t + 1 ≤ a + 1 + j := fun a j ha hb => by
        obtain ⟨x, y, z⟩ := hrbR a j hb
        refine Classical.byContradiction fun hc => ?_
        have h1 := t3 (a + j) (by omega)
        rw [hgx _ (by omega)] at h1
        have h2 : pFe rule P lag s (a + j + 1) = none := by
          cases hc : pFe rule P lag s (a + j + 1) with
          | none => rfl
          | some e => rw [hc] at h1; cases h1
        exact hfn _ h2 a (by omega) (by rw [show a + j + 1 = a + 1 + j by omega]; exact y)
      have hees : ∃ j, pRb rule P lag s e = some j := by
        cases hb : pRb rule P lag s e with
        | none => exact absurd e2 (by have := hrbN e hb (t - e) (by omega); rwa [show e + 1 + (t - e) = t + 1 by omega] at this)
        | some j => exact ⟨j, rfl⟩
      obtain ⟨je, hje⟩ := hees
      -- an a at or before e with a later one: it is e, and the later one is t + 1
      have hkey : ∀ a j, a ≤ e → pRb rule P lag s a = some j → a = e ∧ a + 1 + j = t + 1 := fun a j hae hb => by
        obtain ⟨x, y, z⟩ := hrbR a j hb
        have hge := hle a j (by omega) hb
        obtain ⟨p, hp⟩ : ∃ p, t + 1 = e + p := ⟨t + 1 - e, by omega⟩
        have hper := e2.far hP h0 (a + 1 + j - p - e)
        rw [show e + (a + 1 + j - p - e) = a + 1 + j - p by omega, show t + 1 + (a + 1 + j - p - e) = a + 1 + j by omega] at hper
        have hr2 := y.tr hper.symm
        by_cases hlt : a < a + 1 + j - p
        · exfalso
          refine z (j - p) (by omega) ?_
          rw [show a + 1 + (j - p) = a + 1 + j - p by omega]; exact hr2
        · omega
      have hk := hkey e je (Nat.le_refl _) hje
      have hra : pRa rule P lag s = some e := pFind_yes (by omega) (by rw [hje]; rfl) (fun a ha => by
        cases hb : pRb rule P lag s a with
        | none => rfl
        | some j => have := (hkey a j (by omega) hb).1; omega)
      rw [hra]
      show (if what = 0 then (e : Int) else ((t + 1 : Nat) : Int) - e) = if what = 0 then (e : Int) else pOr 0 (pRb rule P lag s e) + 1
      rw [hje]
      show _ = if what = 0 then (e : Int) else (je : Int) + 1
      split
      · rfl
      · omega
theorem sRound_r {rule what : Int} {P : pP} {lag : Nat} {s : pS} {bits : Int} (hP : wPk P) (h0 : wOk P s) : sRound rule what P lag s bits = rRound rule what P lag s bits := by
  unfold sRound rRound
  rw [round_same hP h0]
