/-! ===== own: class and reference answer alike: tick, show ===== -/
theorem pT1_out {P : pP} {th : Int} {s : pPos} {j : Int} (hj : j < 0 ∨ (P.1 : Int) ≤ j) : (pT1 P th s).2 j = s.2 j := by
  unfold pT1
  show pDown P.1 P.2.2.2.1 (pWind P.1 P.2.1 P.2.2.1 s.2 s.1 P.2.2.2.2.1 th) j = s.2 j
  unfold pDown
  rw [if_neg (by omega)]
  unfold pWind
  split
  · cases hz : pAt P.1 P.2.1 s.1 with
    | none => rfl
    | some p => have := pAt_lt p hz; unfold pWd; simp only; rw [fSet_n (by omega)]
  · rfl
theorem pRn_out {P : pP} {q : Nat → Int} {s : pPos} {j : Int} (hj : j < 0 ∨ (P.1 : Int) ≤ j) : ∀ k, (pRn P q s k).2 j = s.2 j
  | 0 => rfl
  | k + 1 => (pT1_out hj).trans (pRn_out hj k)
theorem mix_eq {n : Nat} {f g u : Int → Int} (h1 : pEq n f g) (h2 : ∀ j : Int, (j < 0 ∨ (n : Int) ≤ j) → f j = u j) : pMix n g u = f := by
  funext j
  unfold pMix
  by_cases hj : 0 ≤ j ∧ j < n
  · rw [if_pos hj]
    obtain ⟨q, hq⟩ : ∃ q : Nat, j = q := ⟨j.toNat, by omega⟩
    rw [hq]; exact (h1 q (by omega)).symm
  · rw [if_neg hj]; exact (h2 j (by omega)).symm
theorem pTickR_neg {P : pP} {s : pPos} {y : Int} (h : ¬ 0 ≤ pTickR P s y) : pTickR P s y < 0 := by omega
section TZ
variable {d : List Nat} {T : vT} {M : vM} {n m : Nat}
/-- the reference's part of a state as the class's calls leave it -/
theorem mPb_cg {N : vM} (n : Nat) (h : ∀ k ∈ [200, 201, 202, 203, 211], N k = M k) : mPb N n = mPb M n := by unfold mPb; rw [h 200 (by decide), h 201 (by decide), h 202 (by decide), h 203 (by decide), h 211 (by decide)]
theorem mPos_cg {N : vM} (n : Nat) (h : ∀ k ∈ [200, 204, 212], N k = M k) : mPos N n = mPos M n := by unfold mPos; rw [h 200 (by decide), h 204 (by decide), h 212 (by decide)]
theorem mW_cg {N : vM} {n : Nat} (hW : mW M n) (h : ∀ k ∈ [200, 201, 202, 203, 204, 211, 212], N k = M k) : mW N n := by
  have hs : seM N = seM M := seM_eq (fun j _ => by rw [h 200 (by decide)])
  unfold mW at *; rw [hs, h 200 (by decide), h 201 (by decide), h 202 (by decide), h 203 (by decide), h 204 (by decide), h 211 (by decide), h 212 (by decide)]; exact hW
/-- he has moved and turned: the new heart -/
theorem Rc.go {M2 : vM} {s : pPos} (h : Rc M n) (hW : pW n (M 11) (M 12) (M 13) s.2 (fSet (M 15) 0 s.1)) (h10 : M2 10 0 = M 10 0) (o : ∀ k ∈ [11, 12, 13, 201, 202, 203], M2 k = M k) (f14 : M2 14 = s.2) (f15 : M2 15 = fSet (M 15) 0 s.1) (g4 : M2 204 = s.2) (sl : ∀ j ∈ ([4, 6, 7, 8, 9] : List Int), M2 200 j = M 200 j) (g5 : M2 200 5 = s.1) (hok : mOk M2) : Rc M2 n := by
  refine ⟨⟨h10.trans h.p.1, ?_⟩, by rw [sl 4 (by decide)]; exact h.2.1, hok, ?_, ?_, ?_, ?_, ?_⟩
  · show pW n (M2 11) (M2 12) (M2 13) (M2 14) (M2 15)
    rw [o 11 (by decide), o 12 (by decide), o 13 (by decide), f14, f15]; exact hW
  · rw [o 201 (by decide), o 11 (by decide)]; exact h.r1
  · rw [o 202 (by decide), o 12 (by decide)]; exact h.r2
  · rw [o 203 (by decide), o 13 (by decide)]; exact h.r3
  · rw [g4, f14]
  · rw [f15]
    funext j
    have e := congrFun h.r5 j
    unfold fSet
    unfold seM at e ⊢
    rw [g5, sl 6 (by decide), sl 7 (by decide), sl 8 (by decide), sl 9 (by decide)]
    by_cases hj : j = 0
    · rw [if_pos hj, if_pos hj]
    · rw [if_neg hj, if_neg hj]; rw [if_neg hj] at e; exact e
theorem t_tick {y : Int} (h : RQ d T M n m) : vTwo m_X6_tick m_X7_tick d d [vI y] T M := by
  refine (c_X6_tick h.B h.C.1).imp ?_
  rintro r T1 M1 ⟨rfl, rfl, hM1, hW1⟩
  have o1 : ∀ k, k ∉ [14, 15] → M1 k = M k := fun k hk => by
    rw [hM1]; split
    · simp at hk; unfold sgAct; rw [vRow_n (by omega), vRow_n (by omega)]
    · rfl
  refine (c_X7_tick h.B (mW_cg h.C.mw (fun k hk => o1 k (by simp at hk ⊢; omega)))).imp ?_
  rintro r2 T2 M2 ⟨rfl, rfl, q1, q2, q3, q4, q5⟩
  have eP : mPb M1 n = mPb M n := mPb_cg n (fun k hk => o1 k (by simp at hk ⊢; omega))
  have eO : mPos M1 n = mPos M n := mPos_cg n (fun k hk => o1 k (by simp at hk ⊢; omega))
  rw [eP, eO] at q3 q4 ⊢
  have er := pTickR_cg (s := (M 15 0, M 14)) (y := y) h.C.P h.C.O.1 h.C.O.2
  rw [← er] at q3 q4 ⊢
  refine ⟨rfl, n, m, ?_⟩
  have o4 : ∀ k, k ∉ [14, 15, 200, 204, 211, 212, 218, 219] → M2 k = M k := fun k hk => by rw [q1 k (by simp at hk ⊢; omega), o1 k (by simp at hk ⊢; omega)]
  have sl : ∀ j, j ∉ ([5, 12, 13, 14, 15, 16] : List Int) → M2 200 j = M 200 j := fun j hj => by rw [q2 j hj, o1 200 (by decide)]
  have q14 : M2 14 = M1 14 := q1 14 (by decide)
  have q15 : M2 15 = M1 15 := q1 15 (by decide)
  have hP2 : Rp M2 m := h.P.mv (by rw [o4 60 (by decide)]) (sl 20 (by decide)) (o4 220 (by decide)) (o4 61 (by decide))
  have hL2 : lvC M2 n := h.L.mv (sl 31 (by decide)) (sl 6 (by decide)) (o4 201 (by decide)) (o4 202 (by decide)) (o4 203 (by decide)) (o4 231 (by decide))
  have hK2 : ∀ k ∈ reK, M2 k = M k := fun k z => o4 k (by unfold reK at z; simp at z ⊢; omega)
  by_cases hr : 0 ≤ pTickR (cP M n) (M 15 0, M 14) y
  · rw [if_pos hr] at hM1
    obtain ⟨a1, a2⟩ := q3 hr
    obtain ⟨c1, c2⟩ := pT1_cg (th := y) (s := (M 15 0, M 14)) h.C.P h.C.O.1 h.C.O.2
    have f14 : M1 14 = (pT1 (cP M n) y (M 15 0, M 14)).2 := by rw [hM1]; unfold sgAct; rw [vRow_s]; rfl
    have f15 : M1 15 = fSet (M 15) 0 (pT1 (cP M n) y (M 15 0, M 14)).1 := by rw [hM1]; unfold sgAct; rw [vRow_n (by decide), vRow_s]; rfl
    refine h.new hK2 (h.C.go (s := pT1 (cP M n) y (M 15 0, M 14)) ?_ (by rw [o4 10 (by decide)]) (fun k hk => o4 k (by simp at hk ⊢; omega)) (q14.trans f14) (q15.trans f15) ?_ (fun j hj => sl j (by simp at hj ⊢; omega)) (a2.trans c1) q5) hP2 hL2
    · have := hW1.2
      rw [← f14, ← f15, ← o1 11 (by decide), ← o1 12 (by decide), ← o1 13 (by decide)]
      exact this
    · rw [a1, o1 204 (by decide), h.C.r4]
      exact mix_eq c2 (fun j hj => pT1_out hj)
  · rw [if_neg hr] at hM1
    obtain ⟨a1, a2⟩ := q4 (by omega)
    refine h.new hK2 (h.C.mv (fun k hk => ?_) (fun j hj => ?_) q5) hP2 hL2
    · by_cases e : k = 204
      · rw [e, a1, hM1]
      · rw [q1 k (by unfold rcK at hk; simp at hk ⊢; omega), hM1]
    · by_cases e : j = 5
      · rw [e, a2, hM1]
      · exact sl j (by simp at hj ⊢; omega)
theorem pShow_cg {P P' : pP} {sg : Int → Int} {m : Nat} {s s' : pPos} (hP : PEq P P') (hm : s'.1 = s.1) (hs : pEq P.1 s.2 s'.2) : (pShow P sg m s = none ∧ pShow P' sg m s' = none) ∨ ∃ a k, pShow P sg m s = some (a, pRn P (qL (pL sg m)) s k) ∧ pShow P' sg m s' = some (a, pRn P' (qL (pL sg m)) s' k) := by
  unfold pShow
  rw [← pDn_cg hP hm hs]
  split
  · exact Or.inl ⟨rfl, rfl⟩
  · split
    · exact Or.inl ⟨rfl, rfl⟩
    · exact Or.inr ⟨_, _, rfl, rfl⟩
theorem t_show (h : RQ d T M n m) : vTwo m_X6_show m_X7_show d d [] T M := by
  refine (c_X6_show h.B h.C.1 h.z2 h.P.1 h.P.2.2.1).imp ?_
  rintro r T1 M1 ⟨rfl, o, ho, hq⟩
  have hc := pShow_cg (sg := M 61) (m := m) (s := (M 15 0, M 14)) h.C.P h.C.O.1 h.C.O.2
  have base : ∀ k, k ∉ [10, 11, 12, 13, 14, 15, 20, 21, 22, 23, 24, 25, 60, 62] → M1 k = M k := by
    intro k hk
    cases o with
    | none => exact hq.2.1 k (by simp at hk ⊢; omega)
    | some z => obtain ⟨a, s⟩ := z; exact hq.2.1 k hk
  refine (c_X7_show h.B (mW_cg h.C.mw (fun k hk => base k (by simp at hk ⊢; omega))) (m := m) (by rw [base 200 (by decide)]; exact h.P.2.1) h.P.2.2.1).imp ?_
  rintro r2 T2 M2 ⟨rfl, ⟨k1, k2, k3⟩, o', ho', hq'⟩
  have eP : mPb M1 n = mPb M n := mPb_cg n (fun k hk => base k (by simp at hk ⊢; omega))
  have eO : mPos M1 n = mPos M n := mPos_cg n (fun k hk => base k (by simp at hk ⊢; omega))
  have hok2 : mOk M2 := k3 (by have := h.C.ok; unfold mOk at *; rw [base 211 (by decide), base 212 (by decide)]; exact this)
  rw [eP, eO, base 220 (by decide), h.P.2.2.2] at ho'
  have sl : ∀ j, j ∉ ([5, 12, 13, 14, 15, 16, 20, 22, 23, 24] : List Int) → M2 200 j = M 200 j := fun j hj => by rw [k2 j hj, base 200 (by decide)]
  have ob : ∀ k, k ∉ [10, 11, 12, 13, 14, 15, 20, 21, 22, 23, 24, 25, 60, 62, 200, 204, 211, 212, 218, 219, 222] → M2 k = M k := fun k hk => by rw [k1 k (by simp at hk ⊢; omega), base k (by simp at hk ⊢; omega)]
  have hL2 : lvC M2 n := h.L.mv (sl 31 (by decide)) (sl 6 (by decide)) (ob 201 (by decide)) (ob 202 (by decide)) (ob 203 (by decide)) (ob 231 (by decide))
  rcases hc with ⟨c1, c2⟩ | ⟨a, k, c1, c2⟩
  · rw [ho, c1] at hq
    rw [ho', c2] at hq'
    obtain ⟨b1, b2⟩ := hq
    obtain ⟨b3, b4, b5, b6⟩ := hq'
    refine ⟨by rw [b1, b3], n, m, ?_⟩
    have h1 : RQ d T M1 n m := h.cl b2.1 (by decide) (b2.2 h.z2) (RQ.z30 b2.1 (by decide) h.z3)
    refine h1.new (fun k z => k1 k (by unfold reK at z; simp at z ⊢; omega)) (h1.C.mv (fun k hk => ?_) (fun j hj => ?_) hok2) (h1.P.mv (by rw [k1 60 (by decide)]) b6 (k1 220 (by decide)) (k1 61 (by decide))) hL2
    · by_cases e : k = 204
      · rw [e, b4]
      · exact k1 k (by unfold rcK at hk; simp at hk ⊢; omega)
    · by_cases e : j = 5
      · rw [e, b5]
      · exact k2 j (by simp at hj ⊢; omega)
  · rw [ho, c1] at hq
    rw [ho', c2] at hq'
    obtain ⟨b1, b2, b3, b4, b5, b6, b7, b8, b9, b10⟩ := hq
    obtain ⟨b11, ⟨b12, b13⟩, b14⟩ := hq'
    refine ⟨by rw [b1, b11], n, 0, ?_⟩
    obtain ⟨e1, e2⟩ := pRn_cg (q := qL (pL (M 61) m)) (s := (M 15 0, M 14)) h.C.P h.C.O.1 h.C.O.2 k
    have hC2 : Rc M2 n := by
      refine h.C.go (s := pRn (cP M n) (qL (pL (M 61) m)) (M 15 0, M 14) k) ?_ ?_ (fun y hy => ?_) ((k1 14 (by decide)).trans b8) ((k1 15 (by decide)).trans b9) ?_ (fun j hj => sl j (by simp at hj ⊢; omega)) (b13.trans e1) hok2
      · have := b4.2
        rw [← b5, ← b6, ← b7]
        rw [← b8, ← b9]
        exact this
      · rw [k1 10 (by decide), b4.1, h.C.p.1]
      · simp at hy
        rcases hy with e | e | e | e | e | e <;> rw [e]
        · rw [k1 11 (by decide), b5]
        · rw [k1 12 (by decide), b6]
        · rw [k1 13 (by decide), b7]
        · exact ob 201 (by decide)
        · exact ob 202 (by decide)
        · exact ob 203 (by decide)
      · rw [b12, base 204 (by decide), h.C.r4]
        exact mix_eq e2 (fun j hj => pRn_out hj k)
    have hP2 : Rp M2 0 := ⟨by rw [k1 60 (by decide), b10]; rfl, by rw [b14]; rfl, by omega, by rw [ob 220 (by decide), ob 61 (by decide)]; exact h.P.2.2.2⟩
    refine ⟨h.B, hC2, hP2, ⟨?_, ?_⟩, hL2, Ri2.mv h.I (fun _ _ => rfl) (fun y hy => ob y (by unfold imK at hy; simp at hy ⊢; omega)), h.E.mv (ob 100 (by decide)) (ob 106 (by decide)), h.D⟩
    · exact RQ.z20 k1 (by decide) b3
    · exact sgZ_o (ob 31 (by decide)) (ob 32 (by decide)) (ob 33 (by decide)) (ob 34 (by decide)) (ob 35 (by decide)) h.z3
end TZ
