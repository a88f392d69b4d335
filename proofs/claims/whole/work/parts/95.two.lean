/-! ===== own: class and reference answer alike: what leaves the state ===== -/
theorem RQ.z20 {M N : vM} {S : List Nat} (hS : mSame S M N) (hd : ∀ k ∈ [21, 22, 23, 24, 25], k ∉ S) (h : sgZ M 20) : sgZ N 20 := sgZ_o (hS 21 (hd 21 (by decide))) (hS 22 (hd 22 (by decide))) (hS 23 (hd 23 (by decide))) (hS 24 (hd 24 (by decide))) (hS 25 (hd 25 (by decide))) h
theorem RQ.z30 {M N : vM} {S : List Nat} (hS : mSame S M N) (hd : ∀ k ∈ [31, 32, 33, 34, 35], k ∉ S) (h : sgZ M 30) : sgZ N 30 := sgZ_o (hS 31 (hd 31 (by decide))) (hS 32 (hd 32 (by decide))) (hS 33 (hd 33 (by decide))) (hS 34 (hd 34 (by decide))) (hS 35 (hd 35 (by decide))) h
theorem RQ.B {d : List Nat} {T : vT} {M : vM} {n m : Nat} (h : RQ d T M n m) : vB T := h.1
theorem RQ.C {d : List Nat} {T : vT} {M : vM} {n m : Nat} (h : RQ d T M n m) : Rc M n := h.2.1
theorem RQ.P {d : List Nat} {T : vT} {M : vM} {n m : Nat} (h : RQ d T M n m) : Rp M m := h.2.2.1
theorem RQ.z2 {d : List Nat} {T : vT} {M : vM} {n m : Nat} (h : RQ d T M n m) : sgZ M 20 := h.2.2.2.1.1
theorem RQ.z3 {d : List Nat} {T : vT} {M : vM} {n m : Nat} (h : RQ d T M n m) : sgZ M 30 := h.2.2.2.1.2
theorem Rc.ok {M : vM} {n : Nat} (h : Rc M n) : mOk M := h.2.2.1
theorem Rc.r1 {M : vM} {n : Nat} (h : Rc M n) : M 201 = M 11 := h.2.2.2.1
theorem Rc.r2 {M : vM} {n : Nat} (h : Rc M n) : M 202 = M 12 := h.2.2.2.2.1
theorem Rc.r3 {M : vM} {n : Nat} (h : Rc M n) : M 203 = M 13 := h.2.2.2.2.2.1
theorem Rc.r4 {M : vM} {n : Nat} (h : Rc M n) : M 204 = M 14 := h.2.2.2.2.2.2.1
theorem Rc.r5 {M : vM} {n : Nat} (h : Rc M n) : seM M = M 15 := h.2.2.2.2.2.2.2
theorem Rc.cg {M N : vM} {n : Nat} {S : List Nat} (h : Rc N n) (hS : mSame S M N) (hd : ∀ k ∈ [11, 12, 13, 14, 15], k ∉ S) : cP N n = cP M n ∧ cS0 N = cS0 M ∧ N 11 = M 11 ∧ N 12 = M 12 ∧ N 13 = M 13 ∧ N 14 = M 14 ∧ N 15 = M 15 := by
  have e1 := hS 11 (hd 11 (by decide))
  have e2 := hS 12 (hd 12 (by decide))
  have e3 := hS 13 (hd 13 (by decide))
  have e4 := hS 14 (hd 14 (by decide))
  have e5 := hS 15 (hd 15 (by decide))
  exact ⟨cP_cg n e1 e2 e3 e5, cS0_cg e4 e5, e1, e2, e3, e4, e5⟩
section TW
variable {d : List Nat} {T : vT} {M : vM} {n m : Nat}
theorem t_lasts {rule : Int} (h : RQ d T M n m) : vTwo m_X6_lasts m_X7_lasts d d [vI rule] T M := by
  obtain ⟨lag, l1, l2⟩ := h.C.lag
  refine (c_X6_lasts h.B h.C.1 h.z3 l1).imp ?_
  rintro r T1 M1 ⟨rfl, hk, rfl⟩
  have h1 : RQ d T M1 n m := h.cl hk.1 (by decide) (RQ.z20 hk.1 (by decide) h.z2) (hk.2 h.z3)
  obtain ⟨e1, e2, e3, e4, e5, e6, e7⟩ := h1.C.cg hk.1 (by decide)
  have l3 : M1 200 8 = lag := by rw [hk.1 200 (by decide)]; exact l2
  refine (c_X7_lasts h1.B h1.C.mw l3).imp ?_
  rintro r2 T2 M2 ⟨rfl, hk2, rfl⟩
  refine ⟨?_, n, m, h1.md hk2.1 hk2.2.1 (by decide) (by decide) (hk2.2.2 h1.C.ok)⟩
  rw [← rLasts_cg h1.C.P h1.C.S, h1.C.r4, e1, e2, e6]
theorem t_at {rule ticks plate : Int} (h : RQ d T M n m) : vTwo m_X6_at m_X7_at d d [vI rule, vI ticks, vI plate] T M := by
  obtain ⟨lag, l1, l2⟩ := h.C.lag
  refine (c_X6_at h.B h.C.1 h.z3 l1).imp ?_
  rintro r T1 M1 ⟨rfl, hk, rfl⟩
  have h1 : RQ d T M1 n m := h.cl hk.1 (by decide) (RQ.z20 hk.1 (by decide) h.z2) (hk.2 h.z3)
  obtain ⟨e1, e2, e3, e4, e5, e6, e7⟩ := h1.C.cg hk.1 (by decide)
  have l3 : M1 200 8 = lag := by rw [hk.1 200 (by decide)]; exact l2
  refine (c_X7_at h1.B h1.C.mw l3).imp ?_
  rintro r2 T2 M2 ⟨rfl, hk2, rfl⟩
  refine ⟨?_, n, m, h1.md hk2.1 hk2.2.1 (by decide) (by decide) (hk2.2.2 h1.C.ok)⟩
  rw [← rAt_cg h1.C.P h1.C.S, e1, e2]
theorem t_round {rule what : Int} (h : RQ d T M n m) : vTwo m_X6_round m_X7_round d d [vI rule, vI what] T M := by
  obtain ⟨lag, l1, l2⟩ := h.C.lag
  refine (c_X6_round h.B h.C.1 h.z3 l1).imp ?_
  rintro r T1 M1 ⟨rfl, hk, rfl⟩
  have h1 : RQ d T M1 n m := h.cl hk.1 (by decide) (RQ.z20 hk.1 (by decide) h.z2) (hk.2 h.z3)
  obtain ⟨e1, e2, e3, e4, e5, e6, e7⟩ := h1.C.cg hk.1 (by decide)
  have l3 : M1 200 8 = lag := by rw [hk.1 200 (by decide)]; exact l2
  refine (c_X7_round h1.B h1.C.mw l3).imp ?_
  rintro r2 T2 M2 ⟨rfl, hk2, rfl⟩
  refine ⟨?_, n, m, h1.md hk2.1 hk2.2.1 (by decide) (by decide) (hk2.2.2 h1.C.ok)⟩
  rw [← rRound_cg h1.C.P h1.C.S, h1.C.r4, e1, e2, e6]
  exact sRound_r h.C.k.1 h.C.k.2
theorem rSticks_cg {rule i bits : Int} {r r' : Int × (Int → Int)} (h1 : r.1 = r'.1) (h2 : pEq n r.2 r'.2) : rSticks rule i n bits r = rSticks rule i n bits r' := by
  unfold rSticks
  rw [h1]
  split
  · rfl
  · split
    · rfl
    · split
      · rfl
      · split
        · rename_i hi
          obtain ⟨q, hq⟩ : ∃ q : Nat, i = q := ⟨i.toNat, by omega⟩
          rw [hq]; exact h2 q (by omega)
        · rfl
theorem t_sticks {rule i : Int} (h : RQ d T M n m) : vTwo m_X6_sticks m_X7_sticks d d [vI rule, vI i] T M := by
  obtain ⟨lag, l1, l2⟩ := h.C.lag
  refine (c_X6_sticks h.B h.C.1 h.z3 l1).imp ?_
  rintro r T1 M1 ⟨rfl, hk, rfl⟩
  have h1 : RQ d T M1 n m := h.cl hk.1 (by decide) (RQ.z20 hk.1 (by decide) h.z2) (hk.2 h.z3)
  obtain ⟨e1, e2, e3, e4, e5, e6, e7⟩ := h1.C.cg hk.1 (by decide)
  have l3 : M1 200 8 = lag := by rw [hk.1 200 (by decide)]; exact l2
  refine (c_X7_sticks h1.B h1.C.mw l3).imp ?_
  rintro r2 T2 M2 ⟨rfl, hk2, rfl⟩
  refine ⟨?_, n, m, h1.md hk2.1 hk2.2.1 (by decide) (by decide) hk2.2.2⟩
  have hdis : pDis n (M1 11) := h1.C.p.2.2.2.2.2.2.2.2.2.2.2.2.2.2
  rw [h1.C.r1, h1.C.r4, ← e1, ← e2, ← e3, ← e6]
  rcases Nat.eq_zero_or_pos n with h0 | h0
  · have hz : pBits (M1 14) n = 0 := by rw [h0]; rfl
    unfold rSticks
    rw [hz, if_pos (c := (0 : Int) = 0) rfl, if_pos (c := (0 : Int) = 0) rfl]
  · have hs := stk_cg (n := n) h0 (v := stV rule (cP M1 n) lag (cS0 M1) (pSo (M1 11) (fun _ => 0) n)) (v' := stV rule (mPb M1 n) lag (mS0 M1 n) (pSo (M1 11) (M1 226) n)) (fun f f' a b c => stV_cg h1.C.P h1.C.S (fun j hj => pSo_eq hdis (fun _ _ => rfl) j hj) a b c) 720 (fun j => j) (fun j => j) (fun _ => 0) (fun _ => 0) 0 (pPm_id n) (pPm_id n) pEq.rfl pEq.rfl
    exact rSticks_cg hs.1 hs.2
theorem t_judge {w : Int} (h : RQ d T M n m) : vTwo m_X6_judge m_X7_judge d d [vI w] T M := by
  refine (c_X6_judge h.B h.C.1 h.z2 h.P.1 h.P.2.2.1).imp ?_
  rintro r T1 M1 ⟨rfl, hk, rfl⟩
  have h1 : RQ d T M1 n m := h.cl hk.1 (by decide) (hk.2 h.z2) (RQ.z30 hk.1 (by decide) h.z3)
  obtain ⟨e1, e2, e3, e4, e5, e6, e7⟩ := h1.C.cg hk.1 (by decide)
  refine (c_X7_judge h1.B h1.C.mw h1.P.2.1 h.P.2.2.1).imp ?_
  rintro r2 T2 M2 ⟨rfl, hk2, rfl⟩
  refine ⟨?_, n, m, h1.md hk2.1 hk2.2.1 (by decide) (by decide) (hk2.2.2 h1.C.ok)⟩
  rw [h1.P.2.2.2, ← rJudge_cg (s := (M1 15 0, M1 14)) h1.C.P h1.C.O.1 h1.C.O.2, e1, e6, e7, hk.1 61 (by decide)]
theorem t_film {rule : Int} (h : RQ d T M n m) : vTwo m_X6_film m_X7_film d d [vI rule] T M := by
  obtain ⟨lag, l1, l2⟩ := h.C.lag
  refine (c_X6_film h.B h.C.1 h.z3 l1 h.P.1 h.P.2.2.1).imp ?_
  rintro r T1 M1 ⟨rfl, hk, rfl⟩
  have h1 : RQ d T M1 n m := h.cl hk.1 (by decide) (RQ.z20 hk.1 (by decide) h.z2) (hk.2 h.z3)
  obtain ⟨e1, e2, e3, e4, e5, e6, e7⟩ := h1.C.cg hk.1 (by decide)
  have l3 : M1 200 8 = lag := by rw [hk.1 200 (by decide)]; exact l2
  refine (c_X7_film h1.B h1.C.mw l3 h1.P.2.1 h.P.2.2.1).imp ?_
  rintro r2 T2 M2 ⟨rfl, hk2, rfl⟩
  refine ⟨?_, n, m, h1.md hk2.1 hk2.2.1 (by decide) (by decide) (hk2.2.2 h1.C.ok)⟩
  rw [h1.P.2.2.2, ← rFilm_cg h1.C.P h1.C.S, e1, e2, hk.1 61 (by decide)]
theorem t_whose (h : RQ d T M n m) : vTwo m_X6_whose m_X7_whose d d [] T M := by
  obtain ⟨lag, l1, l2⟩ := h.C.lag
  refine (c_X6_whose h.B h.C.1 h.z3 l1 h.P.1 h.P.2.2.1).imp ?_
  rintro r T1 M1 ⟨rfl, hk, rfl⟩
  have h1 : RQ d T M1 n m := h.cl hk.1 (by decide) (RQ.z20 hk.1 (by decide) h.z2) (hk.2 h.z3)
  obtain ⟨e1, e2, e3, e4, e5, e6, e7⟩ := h1.C.cg hk.1 (by decide)
  have l3 : M1 200 8 = lag := by rw [hk.1 200 (by decide)]; exact l2
  refine (c_X7_whose h1.B h1.C.mw l3 h1.P.2.1 h.P.2.2.1).imp ?_
  rintro r2 T2 M2 ⟨rfl, hk2, rfl⟩
  refine ⟨?_, n, m, h1.md hk2.1 hk2.2.1 (by decide) (by decide) (hk2.2.2 h1.C.ok)⟩
  rw [h1.P.2.2.2, ← rWhose_cg h1.C.P h1.C.S, e1, e2, hk.1 61 (by decide)]
theorem t_about {p w : Int} (h : RQ d T M n m) : vTwo m_X6_about m_X7_about d d [vI p, vI w] T M := by
  refine (c_X6_about h.B h.C.1).imp ?_
  rintro r T1 M1 ⟨rfl, rfl, rfl⟩
  refine (c_X7_about h.B h.C.2.1 h.C.p.2.1).imp ?_
  rintro r2 T2 M2 ⟨rfl, rfl, rfl⟩
  refine ⟨?_, n, m, h⟩
  rw [h.C.r1, h.C.r2, h.C.r3, h.C.r4]
theorem t_told {w : Int} (h : RQ d T M n m) : vTwo m_X6_told m_X7_told d d [vI w] T M := by
  refine (c_X6_told h.B h.C.1 h.P.1).imp ?_
  rintro r T1 M1 ⟨rfl, rfl, rfl⟩
  refine (c_X7_told h.B h.C.2.1 h.C.p.2.1 h.P.2.1).imp ?_
  rintro r2 T2 M2 ⟨rfl, rfl, rfl⟩
  refine ⟨?_, n, m, h⟩
  rw [h.C.r4, h.C.r5]
theorem t_load {w : Int} (h : RQ d T M n m) : vTwo m_X6_load m_X7_load d d [vI w] T M := by
  obtain ⟨s0, s1, s2, s3, s4⟩ := h.C.s
  obtain ⟨h0, h1, h2, h3, h4, h5, h6, h7, h8, h9, h10, h11, h12, h13, h14⟩ := h.C.p
  refine (c_X6_load h.B h.C.1 (fun j => h6 j) h9).imp ?_
  rintro r T1 M1 ⟨rfl, rfl, rfl⟩
  refine (c_X7_load (g := (M 15 1).toNat) h.B h.C.2.1 h1 (fun j => by rw [h.C.r3]; exact h6 j) (by rw [s1]; omega) (by omega)).imp ?_
  rintro r2 T2 M2 ⟨rfl, rfl, rfl⟩
  refine ⟨?_, n, m, h⟩
  rw [h.C.r3, h.C.r4]
theorem t_fault (h : RQ d T M n m) : vTwo m_X6_fault m_X7_fault d d [] T M := by
  refine (c_X6_fault h.B h.P.1 h.P.2.2.1).imp ?_
  rintro r T1 M1 ⟨rfl, rfl, rfl⟩
  refine (c_X7_fault h.B h.P.2.1 h.P.2.2.1).imp ?_
  rintro r2 T2 M2 ⟨rfl, rfl, h1, h2, -⟩
  refine ⟨?_, n, m, h.md h1 h2 (by decide) (by decide) ?_⟩
  · rw [h.P.2.2.2]
  · have := h.C.ok
    unfold mOk at *; rw [h1 211 (by decide), h1 212 (by decide)]; exact this
theorem suQ_u {num r r' s : Int} (h : suQ n num r s) (h' : suQ n num r' s) : r = r' := by
  rcases h with ⟨a, b⟩ | ⟨a, b, c⟩ | ⟨a, b, c, e⟩ | ⟨a, b, c, e⟩ <;> rcases h' with ⟨a', b'⟩ | ⟨a', b', c'⟩ | ⟨a', b', c', e'⟩ | ⟨a', b', c', e'⟩ <;> first | omega | exact absurd c c' | exact absurd c' c
theorem boQ_u {r r' : Int} {S : Int × (Int → Int)} (h : boQ n r S) (h' : boQ n r' S) : r = r' := by
  rcases h with ⟨a, b⟩ | ⟨a, b1, b2, b3⟩ <;> rcases h' with ⟨a', b'⟩ | ⟨a', b1', b2', b3'⟩
  · omega
  · omega
  · omega
  · by_cases hz : S.1 = 0
    · rw [b1 hz, b1' hz]
    · rw [b2 hz, b2' hz]
theorem t_setUp {num : Int} (h : RQ d T M n m) (hnum : num < 2147483648) : vTwo m_X6_setUp m_X7_setUp d d [vI num] T M := by
  refine (c_X6_setUp h.B h.C.1 hnum).imp ?_
  rintro r T1 M1 ⟨rfl, hk, hr⟩
  have h1 : RQ d T M1 n m := h.cl hk (by decide) (RQ.z20 hk (by decide) h.z2) (RQ.z30 hk (by decide) h.z3)
  obtain ⟨e1, e2, e3, e4, e5, e6, e7⟩ := h1.C.cg hk (by decide)
  obtain ⟨s0, s1, s2, s3, s4⟩ := h1.C.s
  refine (c_X7_setUp h1.B h1.C.mw hnum).imp ?_
  rintro r2 T2 M2 ⟨rfl, hk2, hr2⟩
  refine ⟨?_, n, m, h1.md (J := []) hk2 (fun j _ => by rw [hk2 200 (by decide)]) (by decide) (by decide) ?_⟩
  · rw [h1.C.r1, h1.C.r2, h1.C.r3, s0, s4, e3, e4, e5, e7] at hr2
    exact suQ_u hr hr2
  · have := h1.C.ok
    unfold mOk at *; rw [hk2 211 (by decide), hk2 212 (by decide)]; exact this
theorem t_bestOrder (h : RQ d T M n m) : vTwo m_X6_bestOrder m_X7_bestOrder d d [] T M := by
  refine (c_X6_bestOrder h.B h.C.1).imp ?_
  rintro r T1 M1 ⟨rfl, hk, hr⟩
  have h1 : RQ d T M1 n m := h.cl hk (by decide) (RQ.z20 hk (by decide) h.z2) (RQ.z30 hk (by decide) h.z3)
  obtain ⟨e1, e2, e3, e4, e5, e6, e7⟩ := h1.C.cg hk (by decide)
  obtain ⟨s0, s1, s2, s3, s4⟩ := h1.C.s
  refine (c_X7_bestOrder h1.B h1.C.mw).imp ?_
  rintro r2 T2 M2 ⟨rfl, hk2, hr2⟩
  refine ⟨?_, n, m, h1.md (J := []) hk2 (fun j _ => by rw [hk2 200 (by decide)]) (by decide) (by decide) ?_⟩
  · rw [h1.C.r1, h1.C.r2, h1.C.r3, s0, s4, e3, e4, e5, e7] at hr2
    exact boQ_u hr hr2
  · have := h1.C.ok
    unfold mOk at *; rw [hk2 211 (by decide), hk2 212 (by decide)]; exact this
end TW
