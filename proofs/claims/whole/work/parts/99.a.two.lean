/-! ===== own: class and reference answer alike: image, restore ===== -/
theorem Ri.mv2 {T T1 : vT} {M N : vM} {i a : Nat} (h : Ri T M i a) (hT : T1 1 i = T 1 i) (hTa : T1 a = T a) (h7 : ∀ j : Int, 0 ≤ j → j < 30 → N 237 (40 * i + j) = M 237 (40 * i + j)) (h8 : N 238 i = M 238 i) (h0 : N a = M a) (h1 : N (a + 1) = M (a + 1)) (h2 : N (a + 2) = M (a + 2)) (h3 : N (a + 3) = M (a + 3)) (h4 : N (a + 4) = M (a + 4)) (h5 : N (a + 5) = M (a + 5)) : Ri T1 N i a := by
  unfold Ri sgT at *
  rw [hT, hTa, h8]
  rcases h with h | ⟨a1, a2, a3, ⟨k, a4⟩, a5⟩
  · exact Or.inl h
  · exact Or.inr ⟨a1, a2, a3, ⟨k, a4.mv h0 h1 h2 h3 h4 h5⟩, fun j x y => by rw [kpA_eq h0 h1 h2 h3 h4 h5, h7 j x y]; exact a5 j x y⟩
section TI
variable {d : List Nat} {T : vT} {M : vM} {n m : Nat}
/-- what the class keeps is what the reference keeps -/
theorem Rc.kp (h : Rc M n) {j : Int} (h0 : 0 ≤ j) (h1 : j < 30) : kpI M j = kpA M 10 j := by
  unfold kpI kpA
  by_cases e : j < 6
  · rw [if_pos e]
    by_cases e0 : j = 0
    · rw [if_pos e0, e0, h.p.1]; exact h.2.1
    · rw [if_neg e0, if_pos e]
      have e5 := congrFun h.r5 (j - 1)
      show M 200 (4 + j) = M 15 (j - 1)
      rw [← e5]
      have : j = 1 ∨ j = 2 ∨ j = 3 ∨ j = 4 ∨ j = 5 := by omega
      rcases this with z | z | z | z | z <;> rw [z] <;> rfl
  · rw [if_neg e, if_neg (show ¬ j = 0 by omega), if_neg e, h.r1, h.r2, h.r3, h.r4]
/-- the class has made an image -/
def imC (T : vT) (M : vM) (i a : Nat) (T1 : vT) (M1 : vM) : Prop := (∀ k, (k < a ∨ a + 5 < k) → M1 k = M k) ∧ M1 a 0 = M 10 0 ∧ M1 (a + 1) = M 11 ∧ M1 (a + 2) = M 12 ∧ M1 (a + 3) = M 13 ∧ M1 (a + 4) = M 14 ∧ M1 (a + 5) = M 15 ∧ T1 1 i = some a ∧ sgT T1 a ∧ (∀ k j, (k < a ∨ a + 5 < k) → (k = 1 → j ≠ i) → T1 k j = T k j)
theorem sgCp_o {M : vM} {a b k : Nat} (h : k < a ∨ a + 5 < k) : sgCp M a b k = M k := by
  unfold sgCp
  rw [vRow_n (by omega), vRow_n (by omega), vRow_n (by omega), vRow_n (by omega), vRow_n (by omega), vRow_n (by omega)]
theorem sgCp_0 {M : vM} {a b : Nat} : sgCp M a b a 0 = M b 0 := by
  unfold sgCp
  rw [vRow_n (by omega), vRow_n (by omega), vRow_n (by omega), vRow_n (by omega), vRow_n (by omega), vRow_s, fSet_s]
theorem sgCp_1 {M : vM} {a b : Nat} : sgCp M a b (a + 1) = M (b + 1) ∧ sgCp M a b (a + 2) = M (b + 2) ∧ sgCp M a b (a + 3) = M (b + 3) ∧ sgCp M a b (a + 4) = M (b + 4) ∧ sgCp M a b (a + 5) = M (b + 5) := by
  unfold sgCp
  refine ⟨?_, ?_, ?_, ?_, ?_⟩
  · rw [vRow_n (by omega), vRow_n (by omega), vRow_n (by omega), vRow_n (by omega), vRow_s]
  · rw [vRow_n (by omega), vRow_n (by omega), vRow_n (by omega), vRow_s]
  · rw [vRow_n (by omega), vRow_n (by omega), vRow_s]
  · rw [vRow_n (by omega), vRow_s]
  · rw [vRow_s]
theorem imC.s {i a : Nat} (ha : 15 < a) (h1 : T 1 i = some a) (h2 : sgT T a) : imC T M i a T (sgCp M a 10) := by
  obtain ⟨a1, a2, a3, a4, a5⟩ := sgCp_1 (M := M) (a := a) (b := 10)
  exact ⟨fun k hk => sgCp_o hk, sgCp_0, a1, a2, a3, a4, a5, h1, h2, fun _ _ _ _ => rfl⟩
theorem imC.w {i a : Nat} (ha : 15 < a) : imC T M i a (imT T a i) (imM M a) := by
  obtain ⟨a1, a2, a3, a4, a5⟩ := sgCp_1 (M := stM (vClr M a) a) (a := a) (b := 10)
  have o : ∀ k, (k < a ∨ a + 5 < k) → stM (vClr M a) a k = M k := fun k hk => by
    rw [stM_o (by omega)]; funext j; rw [vClr_n (by omega)]
  unfold imM imT
  refine ⟨fun k hk => by rw [sgCp_o hk]; exact o k hk, by rw [sgCp_0, o 10 (by omega)], ?_, ?_, ?_, ?_, ?_, ?_, ?_, fun k j hk hj => ?_⟩
  · rw [a1]; exact o 11 (by omega)
  · rw [a2]; exact o 12 (by omega)
  · rw [a3]; exact o 13 (by omega)
  · rw [a4]; exact o 14 (by omega)
  · rw [a5]; exact o 15 (by omega)
  · unfold vUpT; rw [if_pos ⟨rfl, rfl⟩]
  · have := stT_a (T := vClT T a) (a := a)
    unfold sgT at this ⊢
    rw [vUpT_row (by omega)]; exact this
  · unfold vUpT
    rw [if_neg (fun z => hj z.1 z.2), stT_o hk]
    unfold vClT
    rw [if_neg (by omega)]
theorem imC.q {i a : Nat} {T1 : vT} {M1 M2 : vM} (h : Rc M n) (ha : 15 < a) (ha2 : a + 5 < 100) (hc : imC T M i a T1 M1) (q : mImg M1 M2 i) : Ri T1 M2 i a := by
  obtain ⟨c1, c2, c3, c4, c5, c6, c7, c8, c9, c10⟩ := hc
  obtain ⟨q1, q2, q3, q4, q5⟩ := q
  have r : ∀ k, (a ≤ k ∧ k ≤ a + 5) → M2 k = M1 k := fun k hk => q1 k (by simp; omega)
  have hC1 : Rc M1 n := h.mv (fun k hk => c1 k (by unfold rcK at hk; simp at hk; omega)) (fun j _ => by rw [c1 200 (by omega)]) (by have := h.ok; unfold mOk at *; rw [c1 211 (by omega), c1 212 (by omega)]; exact this)
  refine Or.inr ⟨c8, c9, by rw [q4, fSet_s], ⟨n, ?_⟩, fun j j0 j1 => ?_⟩
  · unfold sgW
    rw [r a (by omega), r (a + 1) (by omega), r (a + 2) (by omega), r (a + 3) (by omega), r (a + 4) (by omega), r (a + 5) (by omega), c2, c3, c4, c5, c6, c7]
    exact h.p
  · rw [kpA_eq (r a (by omega)) (r (a + 1) (by omega)) (r (a + 2) (by omega)) (r (a + 3) (by omega)) (r (a + 4) (by omega)) (r (a + 5) (by omega)), q5]
    show (if 40 * (i : Int) ≤ 40 * i + j ∧ 40 * (i : Int) + j < 40 * i + 30 then kpI M1 (40 * i + j - 40 * i) else _) = _
    rw [if_pos (by omega), show (40 * (i : Int) + j - 40 * i) = j by omega, hC1.kp j0 j1]
    unfold kpA
    rw [c2, c3, c4, c5, c6, c7, c1 10 (by omega), c1 (10 + 1) (by omega), c1 (10 + 2) (by omega), c1 (10 + 3) (by omega), c1 (10 + 4) (by omega), c1 (10 + 5) (by omega)]
theorem vB_no : ∀ k ∈ [1, 40, 41, 42, 43, 44, 45, 50, 51, 52, 53, 54, 55], vBl.all (fun e => e.1 / 64 != k) = true := by decide +kernel
theorem vB_im {i a : Nat} {T1 : vT} {M1 : vM} (ha : a = 40 ∨ a = 50) (hB : vB T) (hc : imC T M i a T1 M1) : vB T1 := by
  intro k j v hv
  obtain ⟨c1, c2, c3, c4, c5, c6, c7, c8, c9, c10⟩ := hc
  have hk : k ∉ [1, 40, 41, 42, 43, 44, 45, 50, 51, 52, 53, 54, 55] := fun z => by
    rw [vBt_none (vB_no k z) j] at hv; cases hv
  simp at hk
  rw [c10 k j (by omega) (fun z => absurd z hk.1)]
  exact hB k j v hv
/-- an image is made: the state behind it -/
theorem im_two {i a i' a' : Nat} {d1 : List Nat} {T1 : vT} {M1 M2 : vM} (hi : (i = 0 ∧ a = 40 ∧ i' = 1 ∧ a' = 50) ∨ (i = 1 ∧ a = 50 ∧ i' = 0 ∧ a' = 40)) (h : RQ d T M n m) (hc : imC T M i a T1 M1) (q : mImg M1 M2 i) (hD : Rd T1 d1) : RQ d1 T1 M2 n m := by
  have hq := imC.q h.C (by omega) (by omega) hc q
  have hB1 := vB_im (by omega) h.B hc
  obtain ⟨c1, c2, c3, c4, c5, c6, c7, c8, c9, c10⟩ := hc
  obtain ⟨q1, q2, q3, q4, q5⟩ := q
  have o : ∀ k, k ∉ [40, 41, 42, 43, 44, 45, 50, 51, 52, 53, 54, 55, 200, 237, 238] → M2 k = M k := fun k hk => by
    simp at hk; rw [q1 k (by simp; omega), c1 k (by omega)]
  have sl : ∀ j, j ∉ ([31, 38, 39] : List Int) → M2 200 j = M 200 j := fun j hj => by rw [q2 j hj, c1 200 (by omega)]
  have oth : Ri T M i' a' → Ri T1 M2 i' a' := fun hr => by
    have rr : ∀ k, (a' ≤ k ∧ k ≤ a' + 5) → M2 k = M k := fun k hk => by rw [q1 k (by simp; omega), c1 k (by omega)]
    refine hr.mv2 (c10 1 i' (by omega) (fun _ => by omega)) (funext fun j => c10 a' j (by omega) (fun z => by omega)) (fun j j0 j1 => ?_) ?_ (rr _ (by omega)) (rr _ (by omega)) (rr _ (by omega)) (rr _ (by omega)) (rr _ (by omega)) (rr _ (by omega))
    · rw [q5]
      show (if 40 * (i : Int) ≤ 40 * i' + j ∧ 40 * (i' : Int) + j < 40 * i + 30 then _ else M1 237 (40 * i' + j)) = _
      rw [if_neg (by omega), c1 237 (by omega)]
    · rw [q4, fSet_n (by omega), c1 238 (by omega)]
  refine ⟨hB1, h.C.mv (fun k hk => o k (by unfold rcK at hk; simp at hk ⊢; omega)) (fun j hj => sl j (by simp at hj ⊢; omega)) ?_, h.P.mv (by rw [o 60 (by decide)]) (sl 20 (by decide)) (o 220 (by decide)) (o 61 (by decide)), ⟨?_, ?_⟩, Or.inl q3, ?_, ?_, hD⟩
  · have := h.C.ok
    unfold mOk at *; rw [o 211 (by decide), o 212 (by decide)]; exact this
  · exact sgZ_o (o 21 (by decide)) (o 22 (by decide)) (o 23 (by decide)) (o 24 (by decide)) (o 25 (by decide)) h.z2
  · exact sgZ_o (o 31 (by decide)) (o 32 (by decide)) (o 33 (by decide)) (o 34 (by decide)) (o 35 (by decide)) h.z3
  · rcases hi with ⟨rfl, rfl, rfl, rfl⟩ | ⟨rfl, rfl, rfl, rfl⟩
    · exact ⟨hq, oth h.I.2⟩
    · exact ⟨oth h.I.1, hq⟩
  · have e := h.E
    unfold Re awT awM at *
    rw [c10 100 6 (by omega) (by omega), c10 100 7 (by omega) (by omega), c10 100 8 (by omega) (by omega), o 100 (by decide), o 106 (by decide)]
    exact e
theorem ri_40 (d : List Nat) : vSz (d ++ [40] ++ [41] ++ [42] ++ [43] ++ [44] ++ [45]) = vSz d + 35 ∧ (d ++ [40] ++ [41] ++ [42] ++ [43] ++ [44] ++ [45]).length = d.length + 6 := by
  refine ⟨?_, by simp⟩
  rw [vSz_app, vSz_app, vSz_app, vSz_app, vSz_app, vSz_app]
  have e : vSl 40 = 6 ∧ vSl 41 = 6 ∧ vSl 42 = 6 ∧ vSl 43 = 6 ∧ vSl 44 = 6 ∧ vSl 45 = 5 := ⟨rfl, rfl, rfl, rfl, rfl, rfl⟩
  omega
theorem ri_50 (d : List Nat) : vSz (d ++ [50] ++ [51] ++ [52] ++ [53] ++ [54] ++ [55]) = vSz d + 35 ∧ (d ++ [50] ++ [51] ++ [52] ++ [53] ++ [54] ++ [55]).length = d.length + 6 := by
  refine ⟨?_, by simp⟩
  rw [vSz_app, vSz_app, vSz_app, vSz_app, vSz_app, vSz_app]
  have e : vSl 50 = 6 ∧ vSl 51 = 6 ∧ vSl 52 = 6 ∧ vSl 53 = 6 ∧ vSl 54 = 6 ∧ vSl 55 = 5 := ⟨rfl, rfl, rfl, rfl, rfl, rfl⟩
  omega
theorem im_ref {N : vM} {i : Int} (hB : vB T) (hi : 0 ≤ i ∧ i ≤ 1) : vCon m_X7_image d d [vR 200, vI i] T N (vPi fun r T1 M1 => T = T1 ∧ r = 1 ∧ mImg N M1 i) := by
  refine (c_X7_image hB).imp ?_
  rintro r T2 M2 ⟨rfl, rfl, z, -⟩
  have e : pImgR i = 1 := if_pos hi
  exact ⟨rfl, e, z (by rw [e]; decide)⟩
theorem t_image0 (h : RQ d T M n m) : ∃ d1, vRg d d1 ∧ vTwo m_X6_image m_X7_image d d1 [vI 0] T M := by
  have hD := h.D
  rcases h.I.1 with ⟨i1, i2⟩ | ⟨i1, i2, i3, ⟨k, i4⟩, i5⟩
  · obtain ⟨n0, n1, n2, n3, n4, n5⟩ := hD.1 i1
    obtain ⟨z1, z2⟩ := ri_40 d
    have b1 := hD.2.2.2.1
    have b2 := hD.2.2.2.2
    unfold rLn at b1
    unfold rSz at b2
    rw [if_pos i1] at b1 b2
    refine ⟨d ++ [40] ++ [41] ++ [42] ++ [43] ++ [44] ++ [45], ⟨by omega, by omega, by omega, by omega⟩, (c_X6_image_n0 h.B h.C.1 i1 n0 n1 n2 n3 n4 n5).imp ?_⟩
    rintro r T1 M1 ⟨rfl, rfl, rfl⟩
    have hc : imC T M 0 40 (imT T 40 0) (imM M 40) := imC.w (by omega)
    refine (im_ref (vB_im (by omega) h.B hc) (by omega)).imp ?_
    rintro r2 T2 M2 ⟨rfl, rfl, q⟩
    refine ⟨rfl, n, m, im_two (i := 0) (a := 40) (i' := 1) (a' := 50) (by omega) h hc q ?_⟩
    obtain ⟨c1, c2, c3, c4, c5, c6, c7, c8, c9, c10⟩ := hc
    have t1 := c10 1 1 (by omega) (by omega)
    have t2 := c10 100 6 (by omega) (by omega)
    refine ⟨fun z => (by rw [c8] at z; cases z), fun z => ?_, fun z => ?_, ?_, ?_⟩
    · rw [t1] at z; have := hD.2.1 z; simp; omega
    · rw [t2] at z; have := hD.2.2.1 z; simp; omega
    · unfold rLn; rw [c8, t1, t2, if_neg (c := some 40 = none) (by simp)]; omega
    · unfold rSz; rw [c8, t1, t2, if_neg (c := some 40 = none) (by simp)]; omega
  · refine ⟨d, hD.rg, (c_X6_image_s0 h.B h.C.1 i1 i2 i4.z).imp ?_⟩
    rintro r T1 M1 ⟨rfl, rfl, rfl⟩
    have hc : imC T M 0 40 T (sgCp M 40 10) := imC.s (by omega) i1 i2
    refine (im_ref h.B (by omega)).imp ?_
    rintro r2 T2 M2 ⟨rfl, rfl, q⟩
    exact ⟨rfl, n, m, im_two (i := 0) (a := 40) (i' := 1) (a' := 50) (by omega) h hc q hD⟩
theorem t_image1 (h : RQ d T M n m) : ∃ d1, vRg d d1 ∧ vTwo m_X6_image m_X7_image d d1 [vI 1] T M := by
  have hD := h.D
  rcases h.I.2 with ⟨i1, i2⟩ | ⟨i1, i2, i3, ⟨k, i4⟩, i5⟩
  · obtain ⟨n0, n1, n2, n3, n4, n5⟩ := hD.2.1 i1
    obtain ⟨z1, z2⟩ := ri_50 d
    have b1 := hD.2.2.2.1
    have b2 := hD.2.2.2.2
    unfold rLn at b1
    unfold rSz at b2
    rw [if_pos (c := T 1 1 = none) i1] at b1 b2
    refine ⟨d ++ [50] ++ [51] ++ [52] ++ [53] ++ [54] ++ [55], ⟨by omega, by omega, by omega, by omega⟩, (c_X6_image_n1 h.B h.C.1 i1 n0 n1 n2 n3 n4 n5).imp ?_⟩
    rintro r T1 M1 ⟨rfl, rfl, rfl⟩
    have hc : imC T M 1 50 (imT T 50 1) (imM M 50) := imC.w (by omega)
    refine (im_ref (vB_im (by omega) h.B hc) (by omega)).imp ?_
    rintro r2 T2 M2 ⟨rfl, rfl, q⟩
    refine ⟨rfl, n, m, im_two (i := 1) (a := 50) (i' := 0) (a' := 40) (by omega) h hc q ?_⟩
    obtain ⟨c1, c2, c3, c4, c5, c6, c7, c8, c9, c10⟩ := hc
    have t1 := c10 1 0 (by omega) (by omega)
    have t2 := c10 100 6 (by omega) (by omega)
    refine ⟨fun z => ?_, fun z => (by rw [c8] at z; cases z), fun z => ?_, ?_, ?_⟩
    · rw [t1] at z; have := hD.1 z; simp; omega
    · rw [t2] at z; have := hD.2.2.1 z; simp; omega
    · unfold rLn; rw [c8, t1, t2, if_neg (c := some 50 = none) (by simp)]; omega
    · unfold rSz; rw [c8, t1, t2, if_neg (c := some 50 = none) (by simp)]; omega
  · refine ⟨d, hD.rg, (c_X6_image_s1 h.B h.C.1 i1 i2 i4.z).imp ?_⟩
    rintro r T1 M1 ⟨rfl, rfl, rfl⟩
    have hc : imC T M 1 50 T (sgCp M 50 10) := imC.s (by omega) i1 i2
    refine (im_ref h.B (by omega)).imp ?_
    rintro r2 T2 M2 ⟨rfl, rfl, q⟩
    exact ⟨rfl, n, m, im_two (i := 1) (a := 50) (i' := 0) (a' := 40) (by omega) h hc q hD⟩
theorem t_image {k : Int} (h : RQ d T M n m) : ∃ d1, vRg d d1 ∧ vTwo m_X6_image m_X7_image d d1 [vI k] T M := by
  by_cases hk : 0 ≤ k ∧ k ≤ 1
  · have : k = 0 ∨ k = 1 := by omega
    rcases this with e | e
    · rw [e]; exact t_image0 h
    · rw [e]; exact t_image1 h
  · refine ⟨d, h.D.rg, (c_X6_image_o hk).imp ?_⟩
    rintro r T1 M1 ⟨rfl, rfl, rfl⟩
    refine (c_X7_image h.B).imp ?_
    rintro r2 T2 M2 ⟨rfl, rfl, -, z⟩
    have e : pImgR k = -2 := if_neg hk
    rw [e] at z ⊢
    refine ⟨rfl, n, m, ?_⟩
    rw [z (by decide)]; exact h
/-- the class's stage is as the image a, the reference's rows as it kept them -/
theorem rst_two {i a : Nat} {M1 M2 : vM} {k : Nat} (hi : (i = 0 ∧ a = 40) ∨ (i = 1 ∧ a = 50)) (h : RQ d T M n m) (hW : sgW M a k) (h5 : ∀ j : Int, 0 ≤ j → j < 30 → M 237 (40 * i + j) = kpA M a j) (hM1 : M1 = sgCp M 10 a) (q : mRst M1 M2 i) : RQ d T M2 k m := by
  obtain ⟨q1, q2, q3, q4, q5, q6, q7, q8⟩ := q
  obtain ⟨a1, a2, a3, a4, a5⟩ := sgCp_1 (M := M) (a := 10) (b := a)
  rw [← hM1] at a1 a2 a3 a4 a5
  have a0 : M1 10 0 = M a 0 := by rw [hM1, sgCp_0]
  have o1 : ∀ y, (y < 10 ∨ 15 < y) → M1 y = M y := fun y hy => by rw [hM1, sgCp_o (by omega)]
  have o : ∀ y, y ∉ [10, 11, 12, 13, 14, 15, 200, 201, 202, 203, 204] → M2 y = M y := fun y hy => by
    simp at hy; rw [q1 y (by simp; omega), o1 y (by omega)]
  have sl : ∀ j, j ∉ ([4, 5, 6, 7, 8, 9, 31, 38, 39] : List Int) → M2 200 j = M 200 j := fun j hj => by rw [q2 j hj, o1 200 (by omega)]
  obtain ⟨w0, w1, w2, w3, w4⟩ := hW
  have e237 : M1 237 = M 237 := o1 237 (by omega)
  rw [e237] at q4 q5 q6 q7 q8
  have z : ∀ j : Int, (j < 0 ∨ 6 ≤ j) → M 201 j = 0 ∧ M 202 j = 0 ∧ M 203 j = 0 ∧ M 204 j = 0 := fun j hj => by
    rw [h.C.r1, h.C.r2, h.C.r3, h.C.r4]; exact h.C.p.2.2.1 j hj
  have row : ∀ (t u : Nat) (f : Int → Int), u < 4 → (∀ j : Int, 0 ≤ j → j < 6 → kpA M a (6 + 4 * j + u) = f j) → (∀ j : Int, (j < 0 ∨ 6 ≤ j) → f j = 0) → (∀ j : Int, (j < 0 ∨ 6 ≤ j) → M1 t j = 0) → (∀ j : Int, M2 t j = if 0 ≤ j ∧ j < 6 then M 237 (40 * i + (6 + 4 * j + u)) else M1 t j) → M2 t = f := fun t u f hu x1 x2 x3 x4 => by
    funext j
    rw [x4 j]
    split
    · rename_i hj; rw [h5 _ (by omega) (by omega), x1 j hj.1 hj.2]
    · rename_i hj; rw [x3 j (by omega), x2 j (by omega)]
  have m1 : ∀ j : Int, (j < 0 ∨ 6 ≤ j) → M1 201 j = 0 ∧ M1 202 j = 0 ∧ M1 203 j = 0 ∧ M1 204 j = 0 := fun j hj => by
    rw [o1 201 (by omega), o1 202 (by omega), o1 203 (by omega), o1 204 (by omega)]; exact z j hj
  have kp : ∀ (j : Int) (u : Nat), 0 ≤ j → u < 4 → kpA M a (6 + 4 * j + u) = if u = 0 then M (a + 1) j else if u = 1 then M (a + 2) j else if u = 2 then M (a + 3) j else M (a + 4) j := fun j u hj hu => by
    unfold kpA
    rw [if_neg (by omega), if_neg (by omega), show (6 + 4 * j + (u : Int) - 6) % 4 = u by omega, show (6 + 4 * j + (u : Int) - 6) / 4 = j by omega]
    have : u = 0 ∨ u = 1 ∨ u = 2 ∨ u = 3 := by omega
    rcases this with e | e | e | e <;> subst e <;> simp
  have g1 : M2 201 = M (a + 1) := row 201 0 _ (by omega) (fun j x _ => by rw [kp j 0 x (by omega)]; rfl) (fun j hj => (w2 j hj).1) (fun j hj => (m1 j hj).1) (fun j => by rw [q5 j]; simp)
  have g2 : M2 202 = M (a + 2) := row 202 1 _ (by omega) (fun j x _ => by rw [kp j 1 x (by omega)]; rfl) (fun j hj => (w2 j hj).2.1) (fun j hj => (m1 j hj).2.1) (fun j => by rw [q6 j]; simp)
  have g3 : M2 203 = M (a + 3) := row 203 2 _ (by omega) (fun j x _ => by rw [kp j 2 x (by omega)]; rfl) (fun j hj => (w2 j hj).2.2.1) (fun j hj => (m1 j hj).2.2.1) (fun j => by rw [q7 j]; simp)
  have g4 : M2 204 = M (a + 4) := row 204 3 _ (by omega) (fun j x _ => by rw [kp j 3 x (by omega)]; rfl) (fun j hj => (w2 j hj).2.2.2) (fun j hj => (m1 j hj).2.2.2) (fun j => by rw [q8 j]; simp)
  have gs : ∀ j : Int, 0 ≤ j → j < 6 → M2 200 (4 + j) = kpA M a j := fun j x y => by rw [q4 j x y, h5 j x (by omega)]
  have k0 : M2 200 4 = k := by have := gs 0 (by omega) (by omega); rw [show (4 : Int) + 0 = 4 from rfl] at this; rw [this]; unfold kpA; rw [if_pos rfl]; exact w0
  have g5 : seM M2 = M (a + 5) := by
    funext j
    have e : ∀ u : Int, 0 ≤ u → u < 5 → M2 200 (5 + u) = M (a + 5) u := fun u x y => by
      rw [show 5 + u = 4 + (u + 1) by omega, gs (u + 1) (by omega) (by omega)]
      unfold kpA
      rw [if_neg (by omega), if_pos (by omega), show u + 1 - 1 = u by omega]
    by_cases hj : j < 0 ∨ 5 ≤ j
    · rw [w3 j hj]; unfold seM
      rw [if_neg (by omega), if_neg (by omega), if_neg (by omega), if_neg (by omega), if_neg (by omega)]
    · rw [← e j (by omega) (by omega)]
      have : j = 0 ∨ j = 1 ∨ j = 2 ∨ j = 3 ∨ j = 4 := by omega
      rcases this with r | r | r | r | r <;> rw [r] <;> rfl
  have f : ∀ y, (10 ≤ y ∧ y ≤ 15) → M2 y = M1 y := fun y hy => q1 y (by simp; omega)
  refine h.new (fun y hy => o y (by unfold reK at hy; simp at hy ⊢; omega)) ⟨⟨by rw [f 10 (by omega), a0]; exact w0, ?_⟩, k0, ?_, ?_, ?_, ?_, ?_, ?_⟩ (h.P.mv (by rw [o 60 (by decide)]) (sl 20 (by decide)) (o 220 (by decide)) (o 61 (by decide))) (Or.inl q3)
  · rw [f (10 + 1) (by omega), f (10 + 2) (by omega), f (10 + 3) (by omega), f (10 + 4) (by omega), f (10 + 5) (by omega), a1, a2, a3, a4, a5]
    exact ⟨w1, w2, w3, w4⟩
  · have := h.C.ok
    unfold mOk at *; rw [o 211 (by decide), o 212 (by decide)]; exact this
  · rw [g1, f 11 (by omega)]; exact a1.symm
  · rw [g2, f 12 (by omega)]; exact a2.symm
  · rw [g3, f 13 (by omega)]; exact a3.symm
  · rw [g4, f 14 (by omega)]; exact a4.symm
  · rw [g5, f 15 (by omega)]; exact a5.symm
theorem rst_n {i : Int} (h : RQ d T M n m) (hi : 0 ≤ i ∧ i ≤ 1) (h8 : M 238 i = 0) : vCon m_X7_restore d d [vR 200, vI i] T M (vPi fun r2 T2 M2 => (-3 : Int) = r2 ∧ RR d T2 M2) := by
  refine (c_X7_restore h.B).imp ?_
  rintro r2 T2 M2 ⟨rfl, rfl, -, z⟩
  have e : pRstR i (M 238 i) = -3 := by unfold pRstR; rw [if_pos hi, if_pos h8]
  rw [e] at z ⊢
  refine ⟨rfl, n, m, ?_⟩
  rw [z (by decide)]; exact h
theorem rst_s {i a : Nat} {k : Nat} (hi : (i = 0 ∧ a = 40) ∨ (i = 1 ∧ a = 50)) (h : RQ d T M n m) (hW : sgW M a k) (h8 : M 238 i = 1) (h5 : ∀ j : Int, 0 ≤ j → j < 30 → M 237 (40 * i + j) = kpA M a j) : vCon m_X7_restore d d [vR 200, vI i] T (sgCp M 10 a) (vPi fun r2 T2 M2 => (1 : Int) = r2 ∧ RR d T2 M2) := by
  refine (c_X7_restore h.B).imp ?_
  rintro r2 T2 M2 ⟨rfl, rfl, z, -⟩
  have e : pRstR i (sgCp M 10 a 238 i) = 1 := by unfold pRstR; rw [if_pos (by omega), sgCp_o (by omega), if_neg (by rw [h8]; decide)]
  rw [e] at z ⊢
  exact ⟨rfl, k, m, rst_two hi h hW h5 rfl (z (by decide))⟩
theorem t_restore {k : Int} (h : RQ d T M n m) : vTwo m_X6_restore m_X7_restore d d [vI k] T M := by
  by_cases hk : 0 ≤ k ∧ k ≤ 1
  · have : k = 0 ∨ k = 1 := by omega
    rcases this with e | e
    · subst e
      rcases h.I.1 with ⟨i1, i2⟩ | ⟨i1, i2, i3, ⟨k, i4⟩, i5⟩
      · refine (c_X6_restore_n0 h.B i1).imp ?_
        rintro r T1 M1 ⟨rfl, rfl, rfl⟩
        exact rst_n h (by omega) i2
      · refine (c_X6_restore_s0 h.B i1 i2 i4.z h.C.1.z).imp ?_
        rintro r T1 M1 ⟨rfl, rfl, rfl⟩
        exact rst_s (i := 0) (by omega) h i4 i3 i5
    · subst e
      rcases h.I.2 with ⟨i1, i2⟩ | ⟨i1, i2, i3, ⟨k, i4⟩, i5⟩
      · refine (c_X6_restore_n1 h.B i1).imp ?_
        rintro r T1 M1 ⟨rfl, rfl, rfl⟩
        exact rst_n h (by omega) i2
      · refine (c_X6_restore_s1 h.B i1 i2 i4.z h.C.1.z).imp ?_
        rintro r T1 M1 ⟨rfl, rfl, rfl⟩
        exact rst_s (i := 1) (by omega) h i4 i3 i5
  · refine (c_X6_restore_o hk).imp ?_
    rintro r T1 M1 ⟨rfl, rfl, rfl⟩
    refine (c_X7_restore h.B).imp ?_
    rintro r2 T2 M2 ⟨rfl, rfl, -, z⟩
    have e : pRstR k (M 238 k) = -2 := if_neg hk
    rw [e] at z ⊢
    refine ⟨rfl, n, m, ?_⟩
    rw [z (by decide)]; exact h
end TI
