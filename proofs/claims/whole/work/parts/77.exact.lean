/-! ===== own: AllWays.bestThing ===== -/
/-- what the exact part may change -/
def awS (M N : vM) : Prop := mSame [100, 106, 107, 108] M N ∧ ∀ j, j ≠ 5 → N 100 j = M 100 j
theorem awS.rf (M : vM) : awS M M := ⟨fun _ _ => rfl, fun _ _ => rfl⟩
theorem awS.o {M M1 M2 : vM} (h : awS M M1) (h2 : awO M1 M2) : awS M M2 := ⟨fun k hk => (h2.1 k (by simp at hk ⊢; omega)).trans (h.1 k hk), fun j hj => (h2.2.1 j hj).trans (h.2 j hj)⟩
theorem awS.m {M M1 M2 : vM} (h : awS M M1) (h2 : mSame [106, 107] M1 M2) : awS M M2 := ⟨fun k hk => (h2 k (by simp at hk ⊢; omega)).trans (h.1 k hk), fun j hj => by rw [h2 100 (by decide)]; exact h.2 j hj⟩
theorem awS.c {M N : vM} {E : xE} (h : awS M N) (hC : xC M E) : xC N E := by
  unfold xC at hC ⊢
  rw [h.2 0 (by decide), h.2 1 (by decide), h.1 102 (by decide), h.1 103 (by decide), h.1 104 (by decide)]
  exact hC
theorem awO.k {M M1 : vM} (h : awO M M1) {p : Nat} (hp : p < 32768) : awK M1 p = none := by
  have h1 := h.2.2.2.2 p hp
  have h2 := h.2.2.1.2 p hp
  unfold awK
  rw [if_neg (by omega)]
theorem awO.p {M M1 : vM} {E : xE} (hE : xEok E) (h : awO M M1) : awP E M1 := fun s w hs hw => by
  rw [h.k (enC_lt (hs.ok hE))] at hw; cases hw
theorem xever_next {E : xE} {s : xS} (h : xever E s) : ∃ (t : Nat) (s' : xS), t < 4 ∧ xn E t s = some s' ∧ xever E s' := by
  apply Classical.byContradiction
  intro hno
  have hk : ∀ t : Nat, ∃ k, t < 4 → ∀ s', xn E t s = some s' → ¬ xcan E k s' := fun t => by
    apply Classical.byContradiction
    intro hz
    have hz2 : ∀ k, ¬ (t < 4 → ∀ s', xn E t s = some s' → ¬ xcan E k s') := fun k z => hz ⟨k, z⟩
    have h4 : t < 4 := Classical.byContradiction fun z => hz2 0 (fun y => absurd y z)
    have hs : ∃ s', xn E t s = some s' := by
      cases hq : xn E t s with
      | none => exact absurd (fun _ s' h => by rw [hq] at h; cases h) (hz2 0)
      | some s' => exact ⟨s', rfl⟩
    obtain ⟨s', hs'⟩ := hs
    refine hno ⟨t, s', h4, hs', fun k => Classical.byContradiction fun z => hz2 k (fun _ s2 h2 => ?_)⟩
    rw [hs'] at h2; cases h2; exact z
  obtain ⟨k0, h0⟩ := hk 0
  obtain ⟨k1, h1⟩ := hk 1
  obtain ⟨k2, h2⟩ := hk 2
  obtain ⟨k3, h3⟩ := hk 3
  obtain ⟨t, s', t1, t2, t3⟩ := h (k0 + k1 + k2 + k3 + 1)
  rcases (show t = 0 ∨ t = 1 ∨ t = 2 ∨ t = 3 by omega) with z | z | z | z <;> subst z
  · exact h0 t1 s' t2 (xcan_le (by omega) t3)
  · exact h1 t1 s' t2 (xcan_le (by omega) t3)
  · exact h2 t1 s' t2 (xcan_le (by omega) t3)
  · exact h3 t1 s' t2 (xcan_le (by omega) t3)
theorem xever_of {E : xE} {s s' : xS} {t : Nat} (ht : t < 4) (h : xn E t s = some s') (he : xever E s') : xever E s := fun k => by
  cases k with
  | zero => trivial
  | succ k => exact ⟨t, s', ht, h, he k⟩
/-- the worth of a thing -/
def xU (E : xE) (s : xS) (t : Nat) (r : Int) : Prop := (xn E t s = none ∧ r = -1) ∨ ∃ s', xn E t s = some s' ∧ xLq E s' r
theorem xLq_u {E : xE} {s : xS} {r r' : Int} (h : xLq E s r) (h' : xLq E s r') : r = r' := by
  rcases h with ⟨a, b⟩ | ⟨w, a, b, c⟩ <;> rcases h' with ⟨a', b'⟩ | ⟨w', a', b', c'⟩
  · omega
  · exact absurd b (xL_e c')
  · exact absurd b' (xL_e c)
  · have := xL_u c c'; omega
theorem xLq_rg {E : xE} {s : xS} {r : Int} (h : xLq E s r) : 0 ≤ r ∧ r ≤ 65535 := by
  rcases h with ⟨a, b⟩ | ⟨w, a, b, c⟩ <;> omega
theorem xU_u {E : xE} {s : xS} {t : Nat} {r r' : Int} (h : xU E s t r) (h' : xU E s t r') : r = r' := by
  rcases h with ⟨a, b⟩ | ⟨s1, a, b⟩ <;> rcases h' with ⟨a', b'⟩ | ⟨s2, a', b'⟩
  · omega
  · rw [a] at a'; cases a'
  · rw [a] at a'; cases a'
  · rw [a] at a'; cases a'; exact xLq_u b b'
def bsQ (E : xE) (s : xS) (n : Nat) (fd mo : Int) : Prop := (fd = -1 ∧ mo = -1 ∧ ∀ t, t < n → xn E t s = none) ∨ ∃ b : Nat, b < n ∧ fd = b ∧ 0 ≤ mo ∧ xU E s b mo ∧ (∀ t r, t < n → xU E s t r → r ≤ mo) ∧ ∀ t r, t < b → xU E s t r → r < mo
theorem bsQ.s {E : xE} {s : xS} {n : Nat} {fd mo r : Int} (h : bsQ E s n fd mo) (hr : xU E s n r) : bsQ E s (n + 1) (if mo < r then (n : Int) else fd) (if mo < r then r else mo) := by
  by_cases hlt : mo < r
  · rw [if_pos hlt, if_pos hlt]
    have hr0 : 0 ≤ r := by
      rcases hr with ⟨a, b⟩ | ⟨s1, a, b⟩
      · rcases h with ⟨x, y, z⟩ | ⟨b2, x, y, z, -⟩ <;> omega
      · exact (xLq_rg b).1
    refine Or.inr ⟨n, by omega, rfl, hr0, hr, fun t r' ht h' => ?_, fun t r' ht h' => ?_⟩
    · rcases Nat.lt_succ_iff_lt_or_eq.mp ht with z | z
      · rcases h with ⟨x, y, w⟩ | ⟨b2, x, y, w, u, v, v2⟩
        · rcases h' with ⟨-, a⟩ | ⟨s2, a, -⟩
          · omega
          · rw [w t z] at a; cases a
        · have := v t r' z h'; omega
      · subst z; rw [xU_u h' hr]; omega
    · rcases h with ⟨x, y, w⟩ | ⟨b2, x, y, w, u, v, v2⟩
      · rcases h' with ⟨-, a⟩ | ⟨s2, a, -⟩
        · omega
        · rw [w t ht] at a; cases a
      · have := v t r' ht h'; omega
  · rw [if_neg hlt, if_neg hlt]
    rcases h with ⟨x, y, w⟩ | ⟨b2, x, y, w, u, v, v2⟩
    · refine Or.inl ⟨x, y, fun t ht => ?_⟩
      rcases Nat.lt_succ_iff_lt_or_eq.mp ht with z | z
      · exact w t z
      · subst z
        rcases hr with ⟨a, b⟩ | ⟨s1, a, b⟩
        · exact a
        · have := (xLq_rg b).1; omega
    · refine Or.inr ⟨b2, by omega, y, w, u, fun t r' ht h' => ?_, v2⟩
      rcases Nat.lt_succ_iff_lt_or_eq.mp ht with z | z
      · exact v t r' z h'
      · subst z; rw [xU_u h' hr]; omega
/-- the next step: the first that is best -/
def xBt (E : xE) (s : xS) (t : Nat) : Prop := ∃ s', xn E t s = some s' ∧ ((xever E s ∧ xever E s') ∨ ∃ w, xL E s (w + 1) ∧ xL E s' w)
def stQ (none : Int) (E : xE) (s : xS) (r : Int) : Prop := (r = none ∧ ∀ t : Nat, t < 4 → ¬ xBt E s t) ∨ ∃ t : Nat, t < 4 ∧ r = t ∧ xBt E s t ∧ ∀ t' : Nat, t' < t → ¬ xBt E s t'
theorem bsQ.st {E : xE} {s : xS} {fd mo : Int} (hall : ∀ t : Nat, t < 4 → ∃ r, xU E s t r) (h : bsQ E s 4 fd mo) : stQ (-1) E s fd := by
  rcases h with ⟨x, y, z⟩ | ⟨b, x, y, w, u, v, v2⟩
  · exact Or.inl ⟨x, fun t ht ⟨s', h1, _⟩ => by rw [z t ht] at h1; cases h1⟩
  · rcases u with ⟨a1, a2⟩ | ⟨s', a1, a2⟩
    · omega
    · refine Or.inr ⟨b, x, y, ?_⟩
      rcases a2 with ⟨c1, c2⟩ | ⟨k, c1, c2, c3⟩
      · have hes := xever_of x a1 c2
        refine ⟨⟨s', a1, Or.inl ⟨hes, c2⟩⟩, fun t ht ⟨s2, h1, h2⟩ => ?_⟩
        rcases h2 with ⟨-, h2⟩ | ⟨k, h2, -⟩
        · have := v2 t 65535 ht (Or.inr ⟨s2, h1, Or.inl ⟨rfl, h2⟩⟩); omega
        · exact xL_e h2 hes
      · have hL : xL E s (k + 1) := by
          refine ⟨⟨b, s', x, a1, c3.1⟩, fun ⟨t, s2, t1, t2, t3⟩ => ?_⟩
          obtain ⟨r, hr⟩ := hall t t1
          have h1 := v t r t1 hr
          rcases hr with ⟨e1, e2⟩ | ⟨s3, e1, e2⟩
          · rw [e1] at t2; cases t2
          · rw [e1] at t2; cases t2
            rcases e2 with ⟨f1, f2⟩ | ⟨k2, f1, f2, f3⟩
            · omega
            · exact f3.2 (xcan_le (by omega) t3)
        refine ⟨⟨s', a1, Or.inr ⟨k, hL, c3⟩⟩, fun t ht ⟨s2, h1, h2⟩ => ?_⟩
        rcases h2 with ⟨h2, -⟩ | ⟨k2, h2, h3⟩
        · exact xL_e hL h2
        · have e := xL_u h2 hL
          have e2 : k2 = k := by omega
          subst e2
          have := v2 t k2 ht (Or.inr ⟨s2, h1, Or.inr ⟨k2, rfl, c2, h3⟩⟩)
          omega
theorem dX0_bestThing_0 : decode cX0_bestThing 0 = .ok (.aload_n 0, 1) := by decide +kernel
theorem dX0_bestThing_1 : decode cX0_bestThing 1 = .ok (.invokevirtual 113, 3) := by decide +kernel
theorem dX0_bestThing_4 : decode cX0_bestThing 4 = .ok (.iconst (-1), 1) := by decide +kernel
theorem dX0_bestThing_5 : decode cX0_bestThing 5 = .ok (.istore_n 2, 1) := by decide +kernel
theorem dX0_bestThing_6 : decode cX0_bestThing 6 = .ok (.iconst (-1), 1) := by decide +kernel
theorem dX0_bestThing_7 : decode cX0_bestThing 7 = .ok (.istore_n 3, 1) := by decide +kernel
theorem dX0_bestThing_8 : decode cX0_bestThing 8 = .ok (.iconst 0, 1) := by decide +kernel
theorem dX0_bestThing_9 : decode cX0_bestThing 9 = .ok (.istore 4, 2) := by decide +kernel
theorem dX0_bestThing_11 : decode cX0_bestThing 11 = .ok (.iload 4, 2) := by decide +kernel
theorem dX0_bestThing_13 : decode cX0_bestThing 13 = .ok (.iconst 3, 1) := by decide +kernel
theorem dX0_bestThing_14 : decode cX0_bestThing 14 = .ok (.if_icmp .gt 47, 3) := by decide +kernel
theorem dX0_bestThing_17 : decode cX0_bestThing 17 = .ok (.aload_n 0, 1) := by decide +kernel
theorem dX0_bestThing_18 : decode cX0_bestThing 18 = .ok (.iload_n 1, 1) := by decide +kernel
theorem dX0_bestThing_19 : decode cX0_bestThing 19 = .ok (.iload 4, 2) := by decide +kernel
theorem dX0_bestThing_21 : decode cX0_bestThing 21 = .ok (.invokevirtual 101, 3) := by decide +kernel
theorem dX0_bestThing_24 : decode cX0_bestThing 24 = .ok (.istore 5, 2) := by decide +kernel
theorem dX0_bestThing_26 : decode cX0_bestThing 26 = .ok (.iload 5, 2) := by decide +kernel
theorem dX0_bestThing_28 : decode cX0_bestThing 28 = .ok (.ifCond .ge 7, 3) := by decide +kernel
theorem dX0_bestThing_31 : decode cX0_bestThing 31 = .ok (.iconst (-1), 1) := by decide +kernel
theorem dX0_bestThing_32 : decode cX0_bestThing 32 = .ok (.goto 9, 3) := by decide +kernel
theorem dX0_bestThing_35 : decode cX0_bestThing 35 = .ok (.aload_n 0, 1) := by decide +kernel
theorem dX0_bestThing_36 : decode cX0_bestThing 36 = .ok (.iload 5, 2) := by decide +kernel
theorem dX0_bestThing_38 : decode cX0_bestThing 38 = .ok (.invokevirtual 116, 3) := by decide +kernel
theorem dX0_bestThing_41 : decode cX0_bestThing 41 = .ok (.istore 6, 2) := by decide +kernel
theorem dX0_bestThing_43 : decode cX0_bestThing 43 = .ok (.iload 6, 2) := by decide +kernel
theorem dX0_bestThing_45 : decode cX0_bestThing 45 = .ok (.iload_n 3, 1) := by decide +kernel
theorem dX0_bestThing_46 : decode cX0_bestThing 46 = .ok (.if_icmp .le 9, 3) := by decide +kernel
theorem dX0_bestThing_49 : decode cX0_bestThing 49 = .ok (.iload 6, 2) := by decide +kernel
theorem dX0_bestThing_51 : decode cX0_bestThing 51 = .ok (.istore_n 3, 1) := by decide +kernel
theorem dX0_bestThing_52 : decode cX0_bestThing 52 = .ok (.iload 4, 2) := by decide +kernel
theorem dX0_bestThing_54 : decode cX0_bestThing 54 = .ok (.istore_n 2, 1) := by decide +kernel
theorem dX0_bestThing_55 : decode cX0_bestThing 55 = .ok (.iinc 4 1, 3) := by decide +kernel
theorem dX0_bestThing_58 : decode cX0_bestThing 58 = .ok (.goto (-47), 3) := by decide +kernel
theorem dX0_bestThing_61 : decode cX0_bestThing 61 = .ok (.iload_n 2, 1) := by decide +kernel
theorem dX0_bestThing_62 : decode cX0_bestThing 62 = .ok (.ireturn, 1) := by decide +kernel
theorem l_X0_bt11 {d : List Nat} {T : vT} {M : vM} {E : xE} {s : xS} (hB : vB T) (hA : awT T) (hE : xEok E) (hC : xC M E) (hs : xSt E s) : ∀ t : Nat, t ≤ 4 → ∀ (N : vM) (fd mo : Int) (x5 x6 : Option vA), awS M N → awM N → awP E N → bsQ E s t fd mo → (∀ u : Nat, u < t → ∃ r, xU E s u r) →
    vV m_X0_bestThing d d (vPi fun r T1 M1 => T = T1 ∧ awS M M1 ∧ awM M1 ∧ stQ (-1) E s r) 11 [some (vR 100), some (vI (enC s : Nat)), some (vI fd), some (vI mo), some (vI t), x5, x6] [] d T N := by
  refine vUp ?_
  intro t ht ih N fd mo x5 x6 hS hM hP hq hall
  have hCN := hS.c hC
  have hnx : ∀ (N1 : vM) (r : Int) (x5 x6 : Option vA), t < 4 → awS M N1 → awM N1 → awP E N1 → xU E s t r → vIn r →
      vV m_X0_bestThing d d (vPi fun r T1 M1 => T = T1 ∧ awS M M1 ∧ awM M1 ∧ stQ (-1) E s r) 41 [some (vR 100), some (vI (enC s : Nat)), some (vI fd), some (vI mo), some (vI t), x5, x6] [vI r] d T N1 := by
    intro N1 r x5 x6 ht4 hS1 hM1 hP1 hu hr
    have hb := hq.s hu
    refine vV.istore (L' := [_, _, _, _, _, _, _]) dX0_bestThing_41 (by decide) rfl ?_
    refine vV.iload dX0_bestThing_43 rfl ?_
    refine vV.iload_n dX0_bestThing_45 rfl ?_
    refine vV.icmp_le (tgt := 55) dX0_bestThing_46 (by decide) (fun h46 => ?_) (fun h46 => ?_)
    · skip
      rw [if_neg (by omega), if_neg (by omega)] at hb
      refine vV.iinc (L' := [_, _, _, _, _, _, _]) dX0_bestThing_55 (by decide) rfl (⟨by omega, by omega⟩) rfl ?_
      refine vV.goto (tgt := 11) dX0_bestThing_58 (by decide) ?_
      exact ih ht4 N1 _ _ _ _ hS1 hM1 hP1 hb (fun u hu9 => (Nat.lt_succ_iff_lt_or_eq.mp hu9).elim (hall u) (fun e => by subst e; exact ⟨_, hu⟩))
    · skip
      rw [if_pos (by omega), if_pos (by omega)] at hb
      refine vV.iload dX0_bestThing_49 rfl ?_
      refine vV.istore_n (L' := [_, _, _, _, _, _, _]) dX0_bestThing_51 (by decide) rfl ?_
      refine vV.iload dX0_bestThing_52 rfl ?_
      refine vV.istore_n (L' := [_, _, _, _, _, _, _]) dX0_bestThing_54 (by decide) rfl ?_
      refine vV.iinc (L' := [_, _, _, _, _, _, _]) dX0_bestThing_55 (by decide) rfl (⟨by omega, by omega⟩) rfl ?_
      refine vV.goto (tgt := 11) dX0_bestThing_58 (by decide) ?_
      exact ih ht4 N1 _ _ _ _ hS1 hM1 hP1 hb (fun u hu9 => (Nat.lt_succ_iff_lt_or_eq.mp hu9).elim (hall u) (fun e => by subst e; exact ⟨_, hu⟩))
  refine vV.iload dX0_bestThing_11 rfl ?_
  refine vV.iconst dX0_bestThing_13 (by decide) ?_
  refine vV.icmp_gt (tgt := 61) dX0_bestThing_14 (by decide) (fun h14 => ?_) (fun h14 => ?_)
  · skip
    refine vV.iload_n dX0_bestThing_61 rfl ?_
    refine vV.ri dX0_bestThing_62 rfl ?_
    rw [show t = 4 by omega] at hq hall; exact ⟨rfl, hS, hM, hq.st hall⟩
  · skip
    refine vV.aload_n dX0_bestThing_17 rfl ?_
    refine vV.iload_n dX0_bestThing_18 rfl ?_
    refine vV.iload dX0_bestThing_19 rfl ?_
    refine vV.cVi dX0_bestThing_21 ml_X0_101 cw_X0_after iw_X0_after (by first | rfl | assumption) rfl (by unfold vRoom; decide) (c_X0_after hB hE hCN hs (by omega)) rfl rfl (Nat.le_of_ble_eq_true rfl) ?_
    rintro x21 _ _ hx21 ⟨hx, rfl, rfl⟩
    refine vV.istore (L' := [_, _, _, _, _, _, _]) dX0_bestThing_24 (by decide) rfl ?_
    refine vV.iload dX0_bestThing_26 rfl ?_
    refine vV.if_ge (tgt := 35) dX0_bestThing_28 (by decide) (fun h28 => ?_) (fun h28 => ?_)
    · skip
      obtain ⟨s', hn⟩ : ∃ s', xn E (t : Int) s = some s' := by { cases hz : xn E (t : Int) s with | none => rw [hz] at hx; have h9 : xr none = -1 := rfl; omega | some s2 => exact ⟨s2, rfl⟩ }
      have hs' := xn_st hE hs hn
      have hx' : x21 = ((enC s' : Nat) : Int) := by { rw [hx, hn]; rfl }
      subst hx'
      refine vV.aload_n dX0_bestThing_35 rfl ?_
      refine vV.iload dX0_bestThing_36 rfl ?_
      refine vV.cVi dX0_bestThing_38 ml_X0_116 cw_X0_measure iw_X0_measure (by first | rfl | assumption) rfl (by unfold vRoom; decide) (c_X0_measure hB hA hE hCN hs' hM hP) rfl rfl (Nat.le_of_ble_eq_true rfl) ?_
      rintro x38 _ N1 hx38 ⟨rfl, m1, m2, m3, m4⟩
      first | exact hnx N (-1) _ _ (by omega) hS hM hP (Or.inl ⟨hnone, rfl⟩) (by decide) | exact hnx N1 x38 _ _ (by omega) (hS.m m1) m2 m3 (Or.inr ⟨s', hn, m4⟩) hx38
    · skip
      have hnone : xn E (t : Int) s = none := by { cases hz : xn E (t : Int) s with | none => rfl | some s2 => rw [hz] at hx; have h9 : (0 : Int) ≤ xr (some s2) := Int.natCast_nonneg _; omega }
      refine vV.iconst dX0_bestThing_31 (by decide) ?_
      refine vV.goto (tgt := 41) dX0_bestThing_32 (by decide) ?_
      first | exact hnx N (-1) _ _ (by omega) hS hM hP (Or.inl ⟨hnone, rfl⟩) (by decide) | exact hnx N1 x38 _ _ (by omega) (hS.m m1) m2 m3 (Or.inr ⟨s', hn, m4⟩) hx38
theorem c_X0_bestThing {d : List Nat} {T : vT} {M : vM} {E : xE} {s : xS} (hB : vB T) (hA : awT T) (hE : xEok E) (hC : xC M E) (hs : xSt E s) (hM : awM M) : vCon m_X0_bestThing d d [vR 100, vI (enC s : Nat)] T M (vPi fun r T1 M1 => T = T1 ∧ awS M M1 ∧ awM M1 ∧ stQ (-1) E s r) := by
  refine vCon.of (by decide) rfl rfl (Nat.le_of_ble_eq_true rfl) ?_
  refine vV.aload_n dX0_bestThing_0 rfl ?_
  refine vV.cVv dX0_bestThing_1 ml_X0_113 cw_X0_openPage iw_X0_openPage (by first | rfl | assumption) rfl (by unfold vRoom; decide) (c_X0_openPage hA hM) rfl rfl (Nat.le_of_ble_eq_true rfl) ?_
  rintro _ N ⟨rfl, hO⟩
  refine vV.iconst dX0_bestThing_4 (by decide) ?_
  refine vV.istore_n (L' := [_, _, _, _, _, _, _]) dX0_bestThing_5 (by decide) rfl ?_
  refine vV.iconst dX0_bestThing_6 (by decide) ?_
  refine vV.istore_n (L' := [_, _, _, _, _, _, _]) dX0_bestThing_7 (by decide) rfl ?_
  refine vV.iconst dX0_bestThing_8 (by decide) ?_
  refine vV.istore (L' := [_, _, _, _, _, _, _]) dX0_bestThing_9 (by decide) rfl ?_
  exact l_X0_bt11 hB hA hE hC hs 0 (by omega) N (-1) (-1) _ _ ((awS.rf M).o hO) hO.2.2.1 (hO.p hE) (Or.inl ⟨rfl, rfl, fun t ht => by omega⟩) (fun u hu => by omega)
