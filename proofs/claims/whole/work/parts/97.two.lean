/-! ===== own: class and reference answer alike: what changes the state ===== -/
def reK : List Nat := [21, 22, 23, 24, 25, 31, 32, 33, 34, 35, 237, 238, 40, 41, 42, 43, 44, 45, 50, 51, 52, 53, 54, 55, 100, 106]
theorem RQ.new {d : List Nat} {T : vT} {M N : vM} {n m n' m' : Nat} (h : RQ d T M n m) (hk : ∀ k ∈ reK, N k = M k) (hC : Rc N n') (hP : Rp N m') (hL : lvC N n') : RQ d T N n' m' := by
  refine ⟨h.B, hC, hP, ⟨?_, ?_⟩, hL, Ri2.mv h.I (fun _ _ => rfl) (fun k z => hk k (by unfold imK at z; unfold reK; simp at z ⊢; omega)), h.E.mv (hk 100 (by decide)) (hk 106 (by decide)), h.D⟩
  · exact sgZ_o (hk 21 (by decide)) (hk 22 (by decide)) (hk 23 (by decide)) (hk 24 (by decide)) (hk 25 (by decide)) h.z2
  · exact sgZ_o (hk 31 (by decide)) (hk 32 (by decide)) (hk 33 (by decide)) (hk 34 (by decide)) (hk 35 (by decide)) h.z3
section TY
variable {d : List Nat} {T : vT} {M : vM} {n m : Nat}
/-! plate -/
theorem pPlateR_ok {pl : Int → Int} {x y z : Int} (h : 0 ≤ pPlateR n pl x y z) : (0 ≤ x ∧ x ≤ 7) ∧ (2 ≤ y ∧ y ≤ 15) ∧ (1 ≤ z ∧ z ≤ 3) ∧ pAt n pl x = none ∧ n < 6 := by
  unfold pPlateR at h
  split at h
  · omega
  · rename_i h1
    have h2 := Classical.not_not.mp h1
    split at h
    · omega
    · rename_i h3
      split at h
      · omega
      · refine ⟨h2.1, h2.2.1, h2.2.2, ?_, by omega⟩
        cases hz : pAt n pl x with
        | none => rfl
        | some q => rw [hz] at h3; exact absurd rfl h3
theorem pW_add {pl fu fa tu se : Int → Int} {x y z : Int} (h : pW n pl fu fa tu se) (hx : 0 ≤ x ∧ x ≤ 7) (hy : 2 ≤ y ∧ y ≤ 15) (hz : 1 ≤ z ∧ z ≤ 3) (ha : pAt n pl x = none) (hn : n < 6) : pW (n + 1) (fSet pl n x) (fSet fu n y) (fSet fa n z) (fSet tu n y) se := by
  obtain ⟨h1, h2, h3, h4, h5, h6, h7, h8, h9, h10, h11, h12, h13, h14⟩ := h
  have hno : ∀ j : Nat, j < n → pl j ≠ x := fun j hj => by have := pFind_some.pFind_none ha j hj; simpa using this
  refine ⟨by omega, fun j hj => ?_, h3, fun j => ?_, fun j => ?_, fun j => ?_, fun j => ?_, h8, h9, h10, h11, h12, fun j hj => ?_, fun i j hi hj e => ?_⟩
  · unfold fSet; rw [if_neg (by omega), if_neg (by omega), if_neg (by omega), if_neg (by omega)]; exact h2 j hj
  · unfold fSet; split
    · exact hx
    · exact h4 j
  · unfold fSet; split
    · omega
    · exact h5 j
  · unfold fSet; split
    · omega
    · exact h6 j
  · unfold fSet; split
    · omega
    · exact h7 j
  · by_cases hjn : j = n
    · rw [hjn, fSet_s, fSet_s]; exact ⟨hy.1, hz.1⟩
    · rw [fSet_n (by omega), fSet_n (by omega)]; exact h13 j (by omega)
  · by_cases hin : i = n <;> by_cases hjn : j = n
    · omega
    · rw [hin, fSet_s, fSet_n (by omega)] at e; exact absurd e.symm (hno j (by omega))
    · rw [hjn, fSet_s, fSet_n (by omega)] at e; exact absurd e (hno i (by omega))
    · rw [fSet_n (by omega), fSet_n (by omega)] at e; exact h14 i j (by omega) (by omega) e
theorem t_plate {x y z : Int} (h : RQ d T M n m) : vTwo m_X6_plate m_X7_plate d d [vI x, vI y, vI z] T M := by
  refine (c_X6_plate h.B h.C.1).imp ?_
  rintro r T1 M1 ⟨rfl, rfl, hM1⟩
  have o1 : ∀ k, k ∉ [10, 11, 12, 13, 14] → M1 k = M k := fun k hk => by
    rw [hM1]; split
    · simp at hk; unfold sAdd; rw [vUpd_row (by omega), vUpd_row (by omega), vUpd_row (by omega), vUpd_row (by omega), vUpd_row (by omega)]
    · rfl
  refine (c_X7_plate h.B (n := n) (by rw [o1 200 (by decide)]; exact h.C.2.1) h.C.p.2.1).imp ?_
  rintro r2 T2 M2 ⟨rfl, rfl, hM2⟩
  have e1 : M1 201 = M 11 := by rw [o1 201 (by decide)]; exact h.C.r1
  rw [e1] at hM2 ⊢
  refine ⟨rfl, ?_⟩
  by_cases hr : 0 ≤ pPlateR n (M 11) x y z
  · rw [if_pos hr] at hM1 hM2
    obtain ⟨b1, b2, b3, b4, b5⟩ := pPlateR_ok hr
    have o2 : ∀ k, k ∉ [200, 201, 202, 203, 204] → M2 k = M1 k := fun k hk => by
      rw [hM2]; simp at hk; unfold mAdd; rw [vUpd_row (by omega), vUpd_row (by omega), vUpd_row (by omega), vUpd_row (by omega), vUpd_row (by omega), vUpd_row (by omega)]
    have o3 : ∀ j, j ≠ 4 → j ≠ 31 → M2 200 j = M 200 j := fun j h4 h31 => by
      rw [← o1 200 (by decide), hM2]; unfold mAdd; rw [vUpd_ni h31, vUpd_ni h4, vUpd_nk (by decide), vUpd_nk (by decide), vUpd_nk (by decide), vUpd_nk (by decide)]
    have f10 : M2 10 0 = ((n + 1 : Nat) : Int) := by rw [o2 10 (by decide), hM1]; simp [sAdd, vUpd]
    have f11 : M2 11 = fSet (M 11) n x := by rw [o2 11 (by decide), hM1]; funext j; simp [sAdd, vUpd, fSet]
    have f12 : M2 12 = fSet (M 12) n y := by rw [o2 12 (by decide), hM1]; funext j; simp [sAdd, vUpd, fSet]
    have f13 : M2 13 = fSet (M 13) n z := by rw [o2 13 (by decide), hM1]; funext j; simp [sAdd, vUpd, fSet]
    have f14 : M2 14 = fSet (M 14) n y := by rw [o2 14 (by decide), hM1]; funext j; simp [sAdd, vUpd, fSet]
    have f15 : M2 15 = M 15 := by rw [o2 15 (by decide), o1 15 (by decide)]
    have g1 : M2 201 = fSet (M1 201) n x := by rw [hM2]; funext j; simp [mAdd, vUpd, fSet]
    have g2 : M2 202 = fSet (M1 202) n y := by rw [hM2]; funext j; simp [mAdd, vUpd, fSet]
    have g3 : M2 203 = fSet (M1 203) n z := by rw [hM2]; funext j; simp [mAdd, vUpd, fSet]
    have g4 : M2 204 = fSet (M1 204) n y := by rw [hM2]; funext j; simp [mAdd, vUpd, fSet]
    have g5 : M2 200 4 = ((n + 1 : Nat) : Int) := by rw [hM2]; simp [mAdd, vUpd]
    have g6 : M2 200 31 = -6 := by rw [hM2]; simp [mAdd, vUpd]
    have o4 : ∀ k, k ∉ [10, 11, 12, 13, 14, 200, 201, 202, 203, 204] → M2 k = M k := fun k hk => (o2 k (by simp at hk ⊢; omega)).trans (o1 k (by simp at hk ⊢; omega))
    refine ⟨n + 1, m, h.new (fun k z => o4 k (by unfold reK at z; simp at z ⊢; omega)) ⟨⟨f10, ?_⟩, g5, ?_, ?_, ?_, ?_, ?_, ?_⟩ (h.P.mv (by rw [o4 60 (by decide)]) (o3 20 (by decide) (by decide)) (o4 220 (by decide)) (o4 61 (by decide))) (Or.inl g6)⟩
    · show pW (n + 1) (M2 11) (M2 12) (M2 13) (M2 14) (M2 15)
      rw [f11, f12, f13, f14, f15]; exact pW_add h.C.p.2 b1 b2 b3 b4 b5
    · have := h.C.ok
      unfold mOk at *; rw [o4 211 (by decide), o4 212 (by decide)]; exact this
    · rw [g1, f11, o1 201 (by decide), h.C.r1]
    · rw [g2, f12, o1 202 (by decide), h.C.r2]
    · rw [g3, f13, o1 203 (by decide), h.C.r3]
    · rw [g4, f14, o1 204 (by decide), h.C.r4]
    · rw [f15, ← h.C.r5]; exact seM_eq (fun j hj => o3 j (by simp at hj; omega) (by simp at hj; omega))
  · rw [if_neg hr] at hM1 hM2
    rw [hM2, hM1]; exact ⟨n, m, h⟩
/-! turn -/
theorem pTurnR_ok {fu tu : Int → Int} {p v : Int} (h : 0 ≤ pTurnR n fu tu p v) : (0 ≤ p ∧ p < n) ∧ (0 ≤ v ∧ v ≤ fu p) := by
  unfold pTurnR at h
  split at h
  · omega
  · split at h
    · omega
    · omega
theorem t_turn {p v : Int} (h : RQ d T M n m) : vTwo m_X6_turn m_X7_turn d d [vI p, vI v] T M := by
  obtain ⟨h0, h1, h2, h3, h4, h5, h6, h7, h8, h9, h10, h11, h12, h13, h14⟩ := h.C.p
  refine (c_X6_turn h.B h.C.1).imp ?_
  rintro r T1 M1 ⟨rfl, rfl, hM1⟩
  have o1 : ∀ k, k ∉ [14] → M1 k = M k := fun k hk => by
    rw [hM1]; split
    · simp at hk; rw [vUpd_row (by omega)]
    · rfl
  have e2 : M1 202 = M 12 := by rw [o1 202 (by decide)]; exact h.C.r2
  have e4 : M1 204 = M 14 := by rw [o1 204 (by decide)]; exact h.C.r4
  refine (c_X7_turn h.B (n := n) (by rw [o1 200 (by decide)]; exact h.C.2.1) h1 (by rw [e4]; exact (h7 p).1)).imp ?_
  rintro r2 T2 M2 ⟨rfl, rfl, hM2⟩
  rw [e2, e4] at hM2 ⊢
  refine ⟨rfl, ?_⟩
  by_cases hr : 0 ≤ pTurnR n (M 12) (M 14) p v
  · rw [if_pos hr] at hM1 hM2
    obtain ⟨b1, b2⟩ := pTurnR_ok hr
    have o4 : ∀ k, k ∉ [14, 204] → M2 k = M k := fun k hk => by
      simp at hk; rw [hM2, vUpd_row (by omega), o1 k (by simp; omega)]
    have f14 : M2 14 = fSet (M 14) p v := by rw [hM2, vUpd_row (by decide), hM1, vUpd_r, vRow_s]
    have g4 : M2 204 = fSet (M 14) p v := by rw [hM2, vUpd_r, vRow_s, e4]
    have q2 : M2 200 = M 200 := o4 200 (by decide)
    refine ⟨n, m, h.new (fun k z => o4 k (by unfold reK at z; simp at z ⊢; omega)) ⟨⟨by rw [o4 10 (by decide)]; exact h0, ?_⟩, by rw [q2]; exact h.C.2.1, ?_, ?_, ?_, ?_, ?_, ?_⟩ (h.P.mv (by rw [o4 60 (by decide)]) (by rw [q2]) (o4 220 (by decide)) (o4 61 (by decide))) (h.L.mv (by rw [q2]) (by rw [q2]) (o4 201 (by decide)) (o4 202 (by decide)) (o4 203 (by decide)) (o4 231 (by decide)))⟩
    · show pW n (M2 11) (M2 12) (M2 13) (M2 14) (M2 15)
      rw [f14, o4 11 (by decide), o4 12 (by decide), o4 13 (by decide), o4 15 (by decide)]
      refine ⟨h1, fun j hj => ?_, h3, h4, h5, h6, fun j => ?_, h8, h9, h10, h11, h12, h13, h14⟩
      · rw [fSet_n (by omega)]; exact h2 j hj
      · by_cases hj : j = p
        · rw [hj, fSet_s]; exact b2
        · rw [fSet_n hj]; exact h7 j
    · have := h.C.ok
      unfold mOk at *; rw [o4 211 (by decide), o4 212 (by decide)]; exact this
    · rw [o4 201 (by decide), o4 11 (by decide)]; exact h.C.r1
    · rw [o4 202 (by decide), o4 12 (by decide)]; exact h.C.r2
    · rw [o4 203 (by decide), o4 13 (by decide)]; exact h.C.r3
    · rw [g4, f14]
    · rw [seM_eq (M := M) (fun j _ => by rw [q2]), o4 15 (by decide)]; exact h.C.r5
  · rw [if_neg hr] at hM1 hM2
    rw [hM2, hM1]; exact ⟨n, m, h⟩
/-! set -/
theorem pSetR_ok {se : Int → Int} {w v : Int} (h : 0 ≤ pSetR se w v) : (0 ≤ w ∧ w ≤ 4) ∧ pLo w ≤ v ∧ v ≤ pHi w := by
  unfold pSetR at h
  split at h
  · omega
  · rename_i h1; exact Classical.not_not.mp h1
theorem pW_set {pl fu fa tu se : Int → Int} {w v : Int} (h : pW n pl fu fa tu se) (hw : 0 ≤ w ∧ w ≤ 4) (hv : pLo w ≤ v ∧ v ≤ pHi w) : pW n pl fu fa tu (fSet se w v) := by
  obtain ⟨h1, h2, h3, h4, h5, h6, h7, h8, h9, h10, h11, h12, h13, h14⟩ := h
  unfold pLo pHi at hv
  have key : ∀ (j lo hi : Int), (w = j → lo ≤ v ∧ v ≤ hi) → (lo ≤ se j ∧ se j ≤ hi) → lo ≤ fSet se w v j ∧ fSet se w v j ≤ hi := fun j lo hi a b => by
    unfold fSet; split
    · rename_i e; exact a e.symm
    · exact b
  refine ⟨h1, h2, fun j hj => by rw [fSet_n (by omega)]; exact h3 j hj, h4, h5, h6, h7, key 0 0 7 (fun e => ?_) h8, key 1 1 6 (fun e => ?_) h9, key 2 1 9 (fun e => ?_) h10, key 3 0 3 (fun e => ?_) h11, key 4 1 6 (fun e => ?_) h12, h13, h14⟩ <;> (subst e; revert hv; simp)
theorem t_setw {w v : Int} (h : RQ d T M n m) : vTwo m_X6_set m_X7_set d d [vI w, vI v] T M := by
  obtain ⟨h0, h1, h2, h3, h4, h5, h6, h7, h8, h9, h10, h11, h12, h13, h14⟩ := h.C.p
  have hse : ∀ j, 0 ≤ M 15 j := fun j => by
    by_cases hj : j < 0 ∨ 5 ≤ j
    · rw [h3 j hj]; exact Int.le_refl 0
    · have : j = 0 ∨ j = 1 ∨ j = 2 ∨ j = 3 ∨ j = 4 := by omega
      rcases this with e | e | e | e | e <;> rw [e] <;> omega
  refine (c_X6_set h.B hse).imp ?_
  rintro r T1 M1 ⟨rfl, rfl, hM1⟩
  have o1 : ∀ k, k ∉ [15] → M1 k = M k := fun k hk => by
    rw [hM1]; split
    · simp at hk; rw [vUpd_row (by omega)]
    · rfl
  have e5 : seM M1 = M 15 := by rw [seM_eq (M := M) (fun j _ => by rw [o1 200 (by decide)])]; exact h.C.r5
  refine (c_X7_set h.B (fun j => by rw [e5]; exact hse j)).imp ?_
  rintro r2 T2 M2 ⟨rfl, rfl, q1, q2, q3, q4⟩
  rw [e5] at q3 q4 ⊢
  refine ⟨rfl, n, m, ?_⟩
  have o4 : ∀ k, k ∉ [15, 200] → M2 k = M k := fun k hk => by
    rw [q1 k (by simp at hk ⊢; omega), o1 k (by simp at hk ⊢; omega)]
  have f15 : M2 15 = seM M2 := by
    rw [q3, q1 15 (by decide), hM1]
    split
    · rw [vUpd_r, vRow_s]
    · rfl
  have hpw : pW n (M 11) (M 12) (M 13) (M 14) (M2 15) := by
    rw [f15, q3]
    split
    · rename_i hr; exact pW_set h.C.p.2 (pSetR_ok hr).1 (pSetR_ok hr).2
    · exact h.C.p.2
  have sl : ∀ j, j ∉ ([5, 6, 7, 8, 9, 31] : List Int) → M2 200 j = M 200 j := fun j hj => by rw [q2 j hj, o1 200 (by decide)]
  refine h.new (fun k z => o4 k (by unfold reK at z; simp at z ⊢; omega)) ⟨⟨by rw [o4 10 (by decide)]; exact h0, ?_⟩, by rw [sl 4 (by decide)]; exact h.C.2.1, ?_, ?_, ?_, ?_, ?_, f15.symm⟩ (h.P.mv (by rw [o4 60 (by decide)]) (sl 20 (by decide)) (o4 220 (by decide)) (o4 61 (by decide))) ?_
  · show pW n (M2 11) (M2 12) (M2 13) (M2 14) (M2 15)
    rw [o4 11 (by decide), o4 12 (by decide), o4 13 (by decide), o4 14 (by decide)]; exact hpw
  · have := h.C.ok
    unfold mOk at *; rw [o4 211 (by decide), o4 212 (by decide)]; exact this
  · rw [o4 201 (by decide), o4 11 (by decide)]; exact h.C.r1
  · rw [o4 202 (by decide), o4 12 (by decide)]; exact h.C.r2
  · rw [o4 203 (by decide), o4 13 (by decide)]; exact h.C.r3
  · rw [o4 204 (by decide), o4 14 (by decide)]; exact h.C.r4
  · by_cases hw : w = 1 ∧ 0 ≤ pSetR (M 15) w v
    · rw [if_pos hw] at q4; exact Or.inl q4
    · rw [if_neg hw] at q4
      refine h.L.mv (by rw [q4, o1 200 (by decide)]) ?_ (o4 201 (by decide)) (o4 202 (by decide)) (o4 203 (by decide)) (o4 231 (by decide))
      rw [← seM_1 M2, ← seM_1 M, q3, h.C.r5]
      split
      · rename_i hr; rw [fSet_n (fun z => hw ⟨z.symm, hr⟩)]
      · rfl
/-! say, wipe -/
theorem t_say {c : Int} (h : RQ d T M n m) : vTwo m_X6_say m_X7_say d d [vI c] T M := by
  refine (c_X6_say h.B h.P.1 h.P.2.2.1).imp ?_
  rintro r T1 M1 ⟨rfl, rfl, hM1⟩
  have o1 : ∀ k, k ∉ [60, 61] → M1 k = M k := fun k hk => by
    rw [hM1]; split
    · simp at hk; rw [vUpd_row (by omega), vUpd_row (by omega)]
    · rfl
  refine (c_X7_say h.B (m := m) (by rw [o1 200 (by decide)]; exact h.P.2.1) h.P.2.2.1).imp ?_
  rintro r2 T2 M2 ⟨rfl, rfl, hM2⟩
  refine ⟨rfl, ?_⟩
  by_cases hr : 0 ≤ pSayR m c
  · rw [if_pos hr] at hM1 hM2
    have hm : m < 40 := by unfold pSayR at hr; split at hr; omega; split at hr; omega; omega
    have o4 : ∀ k, k ∉ [60, 61, 200, 220] → M2 k = M k := fun k hk => by
      simp at hk; rw [hM2, vUpd_row (by omega), vUpd_row (by omega), o1 k (by simp; omega)]
    have sl : ∀ j, j ≠ 20 → M2 200 j = M 200 j := fun j hj => by rw [hM2, vUpd_ni hj, vUpd_nk (by decide), o1 200 (by decide)]
    refine ⟨n, m + 1, h.new (fun k z => o4 k (by unfold reK at z; simp at z ⊢; omega)) (h.C.mv (fun k z => o4 k (by unfold rcK at z; simp at z ⊢; omega)) (fun j hj => sl j (by simp at hj; omega)) ?_) ⟨?_, ?_, by omega, ?_⟩ (h.L.mv (sl 31 (by decide)) (sl 6 (by decide)) (o4 201 (by decide)) (o4 202 (by decide)) (o4 203 (by decide)) (o4 231 (by decide)))⟩
    · have := h.C.ok
      unfold mOk at *; rw [o4 211 (by decide), o4 212 (by decide)]; exact this
    · rw [hM2, vUpd_nk (by decide), vUpd_nk (by decide), hM1, vUpd_s]; omega
    · rw [hM2, vUpd_s]; omega
    · rw [hM2, vUpd_row (by decide), vUpd_r, vRow_s, vUpd_row (by decide), vRow_n (by decide), o1 220 (by decide), h.P.2.2.2, hM1, vUpd_row (by decide), vUpd_r, vRow_s]
  · rw [if_neg hr] at hM1 hM2
    rw [hM2, hM1]; exact ⟨n, m, h⟩
theorem t_wipe (h : RQ d T M n m) : vTwo m_X6_wipe m_X7_wipe d d [] T M := by
  refine (c_X6_wipe h.B).imp ?_
  rintro r T1 M1 ⟨rfl, rfl, hM1⟩
  refine (c_X7_wipe h.B).imp ?_
  rintro r2 T2 M2 ⟨rfl, rfl, hM2⟩
  have o4 : ∀ k, k ∉ [60, 200] → M2 k = M k := fun k hk => by
    simp at hk; rw [hM2, vUpd_row (by omega), hM1, vUpd_row (by omega)]
  have sl : ∀ j, j ≠ 20 → M2 200 j = M 200 j := fun j hj => by rw [hM2, vUpd_ni hj, hM1, vUpd_nk (by decide)]
  refine ⟨?_, n, 0, h.new (fun k z => o4 k (by unfold reK at z; simp at z ⊢; omega)) (h.C.mv (fun k z => o4 k (by unfold rcK at z; simp at z ⊢; omega)) (fun j hj => sl j (by simp at hj; omega)) ?_) ⟨?_, ?_, by omega, ?_⟩ (h.L.mv (sl 31 (by decide)) (sl 6 (by decide)) (o4 201 (by decide)) (o4 202 (by decide)) (o4 203 (by decide)) (o4 231 (by decide)))⟩
  · rw [hM1, vUpd_nk (by decide), h.P.1, h.P.2.1]
  · have := h.C.ok
    unfold mOk at *; rw [o4 211 (by decide), o4 212 (by decide)]; exact this
  · rw [hM2, vUpd_nk (by decide), hM1, vUpd_s]; rfl
  · rw [hM2, vUpd_s]; rfl
  · rw [o4 220 (by decide), o4 61 (by decide)]; exact h.P.2.2.2
end TY
