/-! ===== own: the relation of the class's state and the reference's ===== -/
/-- what the reference keeps of a stage, in its order -/
def kpA (M : vM) (a : Nat) (k : Int) : Int := if k = 0 then M a 0 else if k < 6 then M (a + 5) (k - 1) else if (k - 6) % 4 = 0 then M (a + 1) ((k - 6) / 4) else if (k - 6) % 4 = 1 then M (a + 2) ((k - 6) / 4) else if (k - 6) % 4 = 2 then M (a + 3) ((k - 6) / 4) else M (a + 4) ((k - 6) / 4)
def Ri (T : vT) (M : vM) (i a : Nat) : Prop := (T 1 i = none ∧ M 238 i = 0) ∨ (T 1 i = some a ∧ sgT T a ∧ M 238 i = 1 ∧ (∃ k, sgW M a k) ∧ ∀ j : Int, 0 ≤ j → j < 30 → M 237 (40 * i + j) = kpA M a j)
def Re (T : vT) (M : vM) : Prop := (T 100 6 = none ∧ (0 ≤ M 100 5 ∧ M 100 5 < 16000)) ∨ (awT T ∧ awM M)
/-- the cells that are yet to be made, and the room for them -/
def rLn (T : vT) : Nat := (if T 1 0 = none then 6 else 0) + (if T 1 1 = none then 6 else 0) + (if T 100 6 = none then 3 else 0)
def rSz (T : vT) : Nat := (if T 1 0 = none then 35 else 0) + (if T 1 1 = none then 35 else 0) + (if T 100 6 = none then 98304 else 0)
def Rd (T : vT) (d : List Nat) : Prop := (T 1 0 = none → 40 ∉ d ∧ 41 ∉ d ∧ 42 ∉ d ∧ 43 ∉ d ∧ 44 ∉ d ∧ 45 ∉ d) ∧ (T 1 1 = none → 50 ∉ d ∧ 51 ∉ d ∧ 52 ∉ d ∧ 53 ∉ d ∧ 54 ∉ d ∧ 55 ∉ d) ∧ (T 100 6 = none → 106 ∉ d ∧ 107 ∉ d ∧ 108 ∉ d) ∧ d.length + rLn T ≤ 600000 ∧ vSz d + rSz T ≤ 7302250
/-- the heart: what is told -/
def Rc (M : vM) (n : Nat) : Prop := sgW M 10 n ∧ M 200 4 = n ∧ mOk M ∧ M 201 = M 11 ∧ M 202 = M 12 ∧ M 203 = M 13 ∧ M 204 = M 14 ∧ seM M = M 15
def Rp (M : vM) (m : Nat) : Prop := M 60 0 = m ∧ M 200 20 = m ∧ m ≤ 40 ∧ M 220 = M 61
def RQ (d : List Nat) (T : vT) (M : vM) (n m : Nat) : Prop := vB T ∧ Rc M n ∧ Rp M m ∧ (sgZ M 20 ∧ sgZ M 30) ∧ lvC M n ∧ (Ri T M 0 40 ∧ Ri T M 1 50) ∧ Re T M ∧ Rd T d
def RR (d : List Nat) (T : vT) (M : vM) : Prop := ∃ n m, RQ d T M n m
theorem Rc.mw {M : vM} {n : Nat} (h : Rc M n) : mW M n := by
  obtain ⟨h1, h2, h3, e1, e2, e3, e4, e5⟩ := h
  refine ⟨h2, ?_, h3.1, h3.2⟩
  rw [e1, e2, e3, e4, e5]
  exact h1.2
theorem seM_eq {M N : vM} (h : ∀ j ∈ ([5, 6, 7, 8, 9] : List Int), N 200 j = M 200 j) : seM N = seM M := by
  funext j
  unfold seM
  rw [h 5 (by decide), h 6 (by decide), h 7 (by decide), h 8 (by decide), h 9 (by decide)]
theorem Rc.s {M : vM} {n : Nat} (h : Rc M n) : M 200 5 = M 15 0 ∧ M 200 6 = M 15 1 ∧ M 200 7 = M 15 2 ∧ M 200 8 = M 15 3 ∧ M 200 9 = M 15 4 := by
  have e := h.2.2.2.2.2.2.2
  refine ⟨?_, ?_, ?_, ?_, ?_⟩ <;> rw [← e] <;> rfl
/-- the heart stays -/
def rcK : List Nat := [10, 11, 12, 13, 14, 15, 201, 202, 203, 204]
theorem Rc.mv {M N : vM} {n : Nat} (h : Rc M n) (hk : ∀ k ∈ rcK, N k = M k) (hs : ∀ j ∈ ([4, 5, 6, 7, 8, 9] : List Int), N 200 j = M 200 j) (hok : mOk N) : Rc N n := by
  obtain ⟨h1, h2, h3, e1, e2, e3, e4, e5⟩ := h
  unfold Rc sgW at *
  rw [hk 10 (by decide), hk 11 (by decide), hk 12 (by decide), hk 13 (by decide), hk 14 (by decide), hk 15 (by decide), hk 201 (by decide), hk 202 (by decide), hk 203 (by decide), hk 204 (by decide), hs 4 (by decide), seM_eq (fun j hj => hs j (List.mem_cons_of_mem _ hj))]
  exact ⟨h1, h2, hok, e1, e2, e3, e4, e5⟩
theorem Rp.mv {M N : vM} {m : Nat} (h : Rp M m) (h1 : N 60 0 = M 60 0) (h2 : N 200 20 = M 200 20) (h3 : N 220 = M 220) (h4 : N 61 = M 61) : Rp N m := by
  unfold Rp at *; rw [h1, h2, h3, h4]; exact h
theorem sgW.mv {M N : vM} {a n : Nat} (h : sgW M a n) (h0 : N a = M a) (h1 : N (a + 1) = M (a + 1)) (h2 : N (a + 2) = M (a + 2)) (h3 : N (a + 3) = M (a + 3)) (h4 : N (a + 4) = M (a + 4)) (h5 : N (a + 5) = M (a + 5)) : sgW N a n := by
  unfold sgW at *; rw [h0, h1, h2, h3, h4, h5]; exact h
theorem kpA_eq {M N : vM} {a : Nat} (h0 : N a = M a) (h1 : N (a + 1) = M (a + 1)) (h2 : N (a + 2) = M (a + 2)) (h3 : N (a + 3) = M (a + 3)) (h4 : N (a + 4) = M (a + 4)) (h5 : N (a + 5) = M (a + 5)) (k : Int) : kpA N a k = kpA M a k := by
  unfold kpA; rw [h0, h1, h2, h3, h4, h5]
theorem Ri.mv {T T1 : vT} {M N : vM} {i a : Nat} (h : Ri T M i a) (hT : T1 1 = T 1) (hTa : T1 a = T a) (h7 : N 237 = M 237) (h8 : N 238 = M 238) (h0 : N a = M a) (h1 : N (a + 1) = M (a + 1)) (h2 : N (a + 2) = M (a + 2)) (h3 : N (a + 3) = M (a + 3)) (h4 : N (a + 4) = M (a + 4)) (h5 : N (a + 5) = M (a + 5)) : Ri T1 N i a := by
  unfold Ri sgT at *
  rw [hT, hTa, h7, h8]
  rcases h with h | ⟨a1, a2, a3, ⟨k, a4⟩, a5⟩
  · exact Or.inl h
  · exact Or.inr ⟨a1, a2, a3, ⟨k, a4.mv h0 h1 h2 h3 h4 h5⟩, fun j x y => by rw [kpA_eq h0 h1 h2 h3 h4 h5]; exact a5 j x y⟩
def imK : List Nat := [237, 238, 40, 41, 42, 43, 44, 45, 50, 51, 52, 53, 54, 55]
theorem Ri2.mv {T T1 : vT} {M N : vM} (h : Ri T M 0 40 ∧ Ri T M 1 50) (hT : ∀ k ∈ [1, 40, 50], T1 k = T k) (hk : ∀ k ∈ imK, N k = M k) : Ri T1 N 0 40 ∧ Ri T1 N 1 50 :=
  ⟨h.1.mv (hT 1 (by decide)) (hT 40 (by decide)) (hk 237 (by decide)) (hk 238 (by decide)) (hk 40 (by decide)) (hk 41 (by decide)) (hk 42 (by decide)) (hk 43 (by decide)) (hk 44 (by decide)) (hk 45 (by decide)),
   h.2.mv (hT 1 (by decide)) (hT 50 (by decide)) (hk 237 (by decide)) (hk 238 (by decide)) (hk 50 (by decide)) (hk 51 (by decide)) (hk 52 (by decide)) (hk 53 (by decide)) (hk 54 (by decide)) (hk 55 (by decide))⟩
theorem Re.mv {T : vT} {M N : vM} (h : Re T M) (h1 : N 100 = M 100) (h2 : N 106 = M 106) : Re T N := by
  unfold Re awM at *; rw [h1, h2]; exact h
theorem lvC.mv {M N : vM} {n : Nat} (h : lvC M n) (h1 : N 200 31 = M 200 31) (h6 : N 200 6 = M 200 6) (h2 : N 201 = M 201) (h3 : N 202 = M 202) (h4 : N 203 = M 203) (h5 : N 231 = M 231) : lvC N n := by
  unfold lvC at *; rw [h1, h6, h2, h3, h4, h5]; exact h
/-- all rows that bear the state, but for what a call may leave behind -/
def rqK : List Nat := [10, 11, 12, 13, 14, 15, 60, 61, 201, 202, 203, 204, 220, 231, 237, 238, 40, 41, 42, 43, 44, 45, 50, 51, 52, 53, 54, 55, 100, 106]
def rqJ : List Int := [4, 5, 6, 7, 8, 9, 20, 31]
theorem RQ.mv {d : List Nat} {T : vT} {M N : vM} {n m : Nat} (h : RQ d T M n m) (hk : ∀ k ∈ rqK, N k = M k) (hs : ∀ j ∈ rqJ, N 200 j = M 200 j) (hok : mOk N) (h20 : sgZ N 20) (h30 : sgZ N 30) : RQ d T N n m := by
  obtain ⟨hB, hC, hP, -, hL, hI, hE, hD⟩ := h
  refine ⟨hB, hC.mv (fun k z => hk k (by unfold rcK at z; unfold rqK; simp at z ⊢; omega)) (fun j z => hs j (by unfold rqJ; simp at z ⊢; omega)) hok, hP.mv (by rw [hk 60 (by decide)]) (hs 20 (by decide)) (hk 220 (by decide)) (hk 61 (by decide)), ⟨h20, h30⟩, hL.mv (hs 31 (by decide)) (hs 6 (by decide)) (hk 201 (by decide)) (hk 202 (by decide)) (hk 203 (by decide)) (hk 231 (by decide)), ?_, hE.mv (hk 100 (by decide)) (hk 106 (by decide)), hD⟩
  exact Ri2.mv hI (fun _ _ => rfl) (fun k z => hk k (by unfold imK at z; unfold rqK; simp at z ⊢; omega))
/-- a call that leaves a few rows changed -/
theorem RQ.cl {d : List Nat} {T : vT} {M N : vM} {n m : Nat} {S : List Nat} (h : RQ d T M n m) (hS : mSame S M N) (hd : ∀ k ∈ 200 :: 211 :: 212 :: rqK, k ∉ S) (h20 : sgZ N 20) (h30 : sgZ N 30) : RQ d T N n m := by
  refine h.mv (fun k z => hS k (hd k (List.mem_cons_of_mem _ (List.mem_cons_of_mem _ (List.mem_cons_of_mem _ z))))) (fun j _ => by rw [hS 200 (hd 200 (by simp))]) ?_ h20 h30
  have := h.2.1.2.2.1
  unfold mOk at *
  rw [hS 211 (hd 211 (by simp)), hS 212 (hd 212 (by simp))]; exact this
theorem RQ.md {d : List Nat} {T : vT} {M N : vM} {n m : Nat} {S : List Nat} {J : List Int} (h : RQ d T M n m) (hS : mSame S M N) (hJ : mSlot J M N) (hd : ∀ k ∈ 21 :: 22 :: 23 :: 24 :: 25 :: 31 :: 32 :: 33 :: 34 :: 35 :: rqK, k ∉ S) (hj : ∀ j ∈ rqJ, j ∉ J) (hok : mOk N) : RQ d T N n m := by
  refine h.mv (fun k z => hS k (hd k (List.mem_append_right [21, 22, 23, 24, 25, 31, 32, 33, 34, 35] z))) (fun j z => hJ j (hj j z)) hok ?_ ?_
  · exact sgZ_o (hS 21 (hd 21 (by simp))) (hS 22 (hd 22 (by simp))) (hS 23 (hd 23 (by simp))) (hS 24 (hd 24 (by simp))) (hS 25 (hd 25 (by simp))) h.2.2.2.1.1
  · exact sgZ_o (hS 31 (hd 31 (by simp))) (hS 32 (hd 32 (by simp))) (hS 33 (hd 33 (by simp))) (hS 34 (hd 34 (by simp))) (hS 35 (hd 35 (by simp))) h.2.2.2.1.2
/-! what the words of both say of the same state -/
theorem pMix_pEq (n : Nat) (f g : Int → Int) : pEq n f (pMix n f g) := fun j hj => by unfold pMix; rw [if_pos (by omega)]
theorem Rc.P {M : vM} {n : Nat} (h : Rc M n) : PEq (cP M n) (mPb M n) := by
  obtain ⟨s0, s1, s2, s3, s4⟩ := h.s
  obtain ⟨h1, h2, h3, e1, e2, e3, e4, e5⟩ := h
  unfold cP mPb
  rw [e1, e2, e3, s1, s2]
  exact ⟨rfl, pMix_pEq n _ _, fun _ _ => rfl, fun _ _ => rfl, rfl⟩
theorem Rc.S {M : vM} {n : Nat} (h : Rc M n) : SEq n (cS0 M) (mS0 M n) := by
  obtain ⟨s0, s1, s2, s3, s4⟩ := h.s
  obtain ⟨h1, h2, h3, e1, e2, e3, e4, e5⟩ := h
  unfold cS0 mS0
  rw [e4, s0]
  exact ⟨rfl, pMix_pEq n _ _, rfl, (fun k hk => by cases hk), (fun k hk => by cases hk)⟩
theorem Rc.O {M : vM} {n : Nat} (h : Rc M n) : (mPos M n).1 = M 15 0 ∧ pEq n (M 14) (mPos M n).2 := by
  obtain ⟨s0, s1, s2, s3, s4⟩ := h.s
  obtain ⟨h1, h2, h3, e1, e2, e3, e4, e5⟩ := h
  unfold mPos
  rw [e4, s0]
  exact ⟨rfl, pMix_pEq n _ _⟩
theorem Rc.p {M : vM} {n : Nat} (h : Rc M n) : M 10 0 = n ∧ pW n (M 11) (M 12) (M 13) (M 14) (M 15) := h.1
theorem Rc.k {M : vM} {n : Nat} (h : Rc M n) : wPk (cP M n) ∧ wOk (cP M n) (cS0 M) := by
  obtain ⟨h0, h1, h2, h3, h4, h5, h6, h7, h8, h9, h10, h11, h12, h13, h14⟩ := h.p
  refine ⟨⟨h1, fun j => h4 j, fun j => h5 j, fun j => (h6 j).1, h9.1, h10⟩, h8, fun j => ?_, (fun k hk => by cases hk), ⟨Int.le_refl _, ?_⟩, (fun k hk => by cases hk)⟩
  · have := h7 j; have := h5 j; exact ⟨(h7 j).1, by show M 14 j ≤ 15; omega⟩
  · show (0 : Int) < M 15 2; omega
theorem Rc.lag {M : vM} {n : Nat} (h : Rc M n) : ∃ lag : Nat, M 15 3 = lag ∧ M 200 8 = lag := by
  have hs := h.s
  obtain ⟨h0, h1, h2, h3, h4, h5, h6, h7, h8, h9, h10, h11, h12, h13, h14⟩ := h.p
  exact ⟨(M 15 3).toNat, by omega, by omega⟩
theorem cP_cg {M N : vM} (n : Nat) (h1 : N 11 = M 11) (h2 : N 12 = M 12) (h3 : N 13 = M 13) (h5 : N 15 = M 15) : cP N n = cP M n := by unfold cP; rw [h1, h2, h3, h5]
theorem cS0_cg {M N : vM} (h4 : N 14 = M 14) (h5 : N 15 = M 15) : cS0 N = cS0 M := by unfold cS0; rw [h4, h5]
/-- class and reference, one after the other, with one answer -/
def vTwo (f g : vMt) (d d1 : List Nat) (As : List vA) (T : vT) (M : vM) : Prop := vCon f d d1 (vR 0 :: As) T M (vPi fun r T1 M1 => vCon g d1 d1 (vR 200 :: As) T1 M1 (vPi fun r2 T2 M2 => r = r2 ∧ RR d1 T2 M2))
