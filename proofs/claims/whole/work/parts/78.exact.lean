/-! ===== own: AllWays.soonestBow ===== -/
def xbe (E : xE) (n : Int) (s : xS) : Bool := (pFind (fun k => decide ((xt s k : Int) ≤ n * E.2.2.2.1 k)) E.1).isNone
/-- s is come to behind t ticks -/
def xrc (E : xE) (s0 : xS) : Nat → xS → Prop
  | 0, s => s = s0
  | t + 1, s => ∃ (s' : xS) (th : Nat), th < 4 ∧ xrc E s0 t s' ∧ xn E th s' = some s
theorem xrc_st {E : xE} {s0 : xS} (hE : xEok E) (h0 : xSt E s0) : ∀ {t : Nat} {s : xS}, xrc E s0 t s → xSt E s
  | 0, s, h => by rw [show s = s0 from h]; exact h0
  | t + 1, s, ⟨s', th, h1, h2, h3⟩ => xn_st hE (xrc_st hE h0 h2) h3
def bowQ (none : Int) (E : xE) (s0 : xS) (n : Int) (r : Int) : Prop := (∃ t : Nat, r = t ∧ (∃ s, xrc E s0 t s ∧ xbe E n s = true) ∧ ∀ t' s, t' < t → xrc E s0 t' s → xbe E n s = false) ∨ (r = none ∧ ∀ t s, xrc E s0 t s → xbe E n s = false)
theorem dX0_bears_0 : decode cX0_bears 0 = .ok (.iconst 0, 1) := by decide +kernel
theorem dX0_bears_1 : decode cX0_bears 1 = .ok (.istore_n 3, 1) := by decide +kernel
theorem dX0_bears_2 : decode cX0_bears 2 = .ok (.iload_n 3, 1) := by decide +kernel
theorem dX0_bears_3 : decode cX0_bears 3 = .ok (.aload_n 0, 1) := by decide +kernel
theorem dX0_bears_4 : decode cX0_bears 4 = .ok (.getfield 46, 3) := by decide +kernel
theorem dX0_bears_7 : decode cX0_bears 7 = .ok (.if_icmp .ge 31, 3) := by decide +kernel
theorem dX0_bears_10 : decode cX0_bears 10 = .ok (.iload_n 1, 1) := by decide +kernel
theorem dX0_bears_11 : decode cX0_bears 11 = .ok (.iload_n 3, 1) := by decide +kernel
theorem dX0_bears_12 : decode cX0_bears 12 = .ok (.invokestatic 58, 3) := by decide +kernel
theorem dX0_bears_15 : decode cX0_bears 15 = .ok (.ishr, 1) := by decide +kernel
theorem dX0_bears_16 : decode cX0_bears 16 = .ok (.bipush 15, 2) := by decide +kernel
theorem dX0_bears_18 : decode cX0_bears 18 = .ok (.iand, 1) := by decide +kernel
theorem dX0_bears_19 : decode cX0_bears 19 = .ok (.iload_n 2, 1) := by decide +kernel
theorem dX0_bears_20 : decode cX0_bears 20 = .ok (.aload_n 0, 1) := by decide +kernel
theorem dX0_bears_21 : decode cX0_bears 21 = .ok (.getfield 15, 3) := by decide +kernel
theorem dX0_bears_24 : decode cX0_bears 24 = .ok (.iload_n 3, 1) := by decide +kernel
theorem dX0_bears_25 : decode cX0_bears 25 = .ok (.iaload, 1) := by decide +kernel
theorem dX0_bears_26 : decode cX0_bears 26 = .ok (.imul, 1) := by decide +kernel
theorem dX0_bears_27 : decode cX0_bears 27 = .ok (.if_icmp .gt 5, 3) := by decide +kernel
theorem dX0_bears_30 : decode cX0_bears 30 = .ok (.iconst 0, 1) := by decide +kernel
theorem dX0_bears_31 : decode cX0_bears 31 = .ok (.ireturn, 1) := by decide +kernel
theorem dX0_bears_32 : decode cX0_bears 32 = .ok (.iinc 3 1, 3) := by decide +kernel
theorem dX0_bears_35 : decode cX0_bears 35 = .ok (.goto (-33), 3) := by decide +kernel
theorem dX0_bears_38 : decode cX0_bears 38 = .ok (.iconst 1, 1) := by decide +kernel
theorem dX0_bears_39 : decode cX0_bears 39 = .ok (.ireturn, 1) := by decide +kernel
theorem l_X0_be2 {d : List Nat} {T : vT} {M : vM} {E : xE} {s : xS} {n : Int} (hB : vB T) (hE : xEok E) (hC : xC M E) (hs : xSt E s) (hn : 1 ≤ n ∧ n ≤ 9) : ∀ p, p ≤ E.1 → (∀ k, k < p → ¬ ((xt s k : Int) ≤ n * E.2.2.2.1 k)) →
    vV m_X0_bears d d (vPi fun r T1 M1 => r = bI (xbe E n s) ∧ T = T1 ∧ M = M1) 2 [some (vR 100), some (vI (enC s : Nat)), some (vI n), some (vI p)] [] d T M := by
  obtain ⟨c1, c2, c3, c4⟩ := hC
  have hp := enC_lt (hs.ok hE)
  have hE3 := hE.1
  refine vUp ?_
  intro p hpm ih hno
  have hy : p = E.1 → xbe E n s = true := fun h => by unfold xbe; rw [pFind_no (fun k hk => by simpa using hno k (by omega))]; rfl
  have hz : p < E.1 → (xt s p : Int) ≤ n * E.2.2.2.1 p → xbe E n s = false := fun h h2 => by unfold xbe; rw [pFind_yes h (by simpa using h2) (fun k hk => by simpa using hno k hk)]; rfl
  refine vV.iload_n dX0_bears_2 rfl ?_
  refine vV.aload_n dX0_bears_3 rfl ?_
  refine vV.geti (z := 0) dX0_bears_4 fl_X0_46 (by first | rfl | assumption) rfl rfl ?_
  rw [c1]
  refine vV.icmp_ge (tgt := 38) dX0_bears_7 (by decide) (fun h7 => ?_) (fun h7 => ?_)
  · skip
    refine vV.iconst dX0_bears_38 (by decide) ?_
    refine vV.rz dX0_bears_39 rfl (by first | exact Or.inl rfl | exact Or.inr rfl | assumption) ?_
    exact ⟨by rw [hy (by omega)]; rfl, rfl, rfl⟩
  · skip
    have hdg := (enC_dig (hs.ok hE) (k := p) (by omega)).1
    obtain ⟨c31, c32⟩ := c3 p (by omega)
    have hEp := (hE.2.1 p (by omega)).2.2
    have hml := mul_rg (a := E.2.2.2.1 p) (x := n) (b := 9) (by omega) (by omega)
    rw [Int.mul_comm] at hml
    refine vV.iload_n dX0_bears_10 rfl ?_
    refine vV.iload_n dX0_bears_11 rfl ?_
    refine vV.cSi dX0_bears_12 ml_X0_58 cw_X0_shiftOf sw_X0_shiftOf (by unfold vRoom; decide) (c_X0_shiftOf (by omega)) rfl rfl (Nat.le_of_ble_eq_true rfl) ?_
    rintro x12 _ _ hx12 ⟨rfl, rfl, rfl⟩
    refine vV.ishr dX0_bears_15 ?_
    refine vV.bipush (v := 15) dX0_bears_16 (by decide) (by decide) ?_
    refine vV.iand dX0_bears_18 ?_
    rw [shr_dig hp (by omega), hdg]
    refine vV.iload_n dX0_bears_19 rfl ?_
    refine vV.aload_n dX0_bears_20 rfl ?_
    refine vV.getr dX0_bears_21 fl_X0_15 (by first | rfl | assumption) rfl (by first | assumption | exact hB _ _ _ rfl) ?_
    refine vV.iload_n dX0_bears_24 rfl ?_
    refine vV.iald dX0_bears_25 (by first | rfl | assumption) (by omega) (by omega) ?_
    rw [c32]
    refine vV.imul dX0_bears_26 (⟨by omega, by omega⟩) ?_
    refine vV.icmp_gt (tgt := 32) dX0_bears_27 (by decide) (fun h27 => ?_) (fun h27 => ?_)
    · skip
      refine vV.iinc (L' := [_, _, _, _]) dX0_bears_32 (by decide) rfl (⟨by omega, by omega⟩) rfl ?_
      refine vV.goto (tgt := 2) dX0_bears_35 (by decide) ?_
      exact ih (by omega) (fun k hk => (Nat.lt_succ_iff_lt_or_eq.mp hk).elim (hno k) (fun e => by subst e; omega))
    · skip
      refine vV.iconst dX0_bears_30 (by decide) ?_
      refine vV.rz dX0_bears_31 rfl (by first | exact Or.inl rfl | exact Or.inr rfl | assumption) ?_
      exact ⟨by rw [hz (by omega) (by omega)]; rfl, rfl, rfl⟩
theorem c_X0_bears {d : List Nat} {T : vT} {M : vM} {E : xE} {s : xS} {n : Int} (hB : vB T) (hE : xEok E) (hC : xC M E) (hs : xSt E s) (hn : 1 ≤ n ∧ n ≤ 9) : vCon m_X0_bears d d [vR 100, vI (enC s : Nat), vI n] T M (vPi fun r T1 M1 => r = bI (xbe E n s) ∧ T = T1 ∧ M = M1) := by
  refine vCon.of (by decide) rfl rfl (Nat.le_of_ble_eq_true rfl) ?_
  refine vV.iconst dX0_bears_0 (by decide) ?_
  refine vV.istore_n (L' := [_, _, _, _]) dX0_bears_1 (by decide) rfl ?_
  exact l_X0_be2 hB hE hC hs hn 0 (by omega) (fun k hk => by omega)
/-- the list holds fl positions, each once, and just these are marked -/
def bfI (E : xE) (N : vM) (fl : Nat) (L : Nat → xS) : Prop := awM N ∧ (∀ i, i < fl → xSt E (L i) ∧ N 107 i = (enC (L i) : Nat)) ∧ (∀ i j, i < fl → j < fl → L i = L j → i = j) ∧ ∀ s, xSt E s → ((awK N (enC s)).isSome = true ↔ ∃ i, i < fl ∧ L i = s)
theorem bfI.le {E : xE} {N : vM} {fl : Nat} {L : Nat → xS} (hE : xEok E) (h : bfI E N fl L) : fl ≤ 32768 := inj_le (f := fun i => enC (L i)) (fun i hi => enC_lt ((h.2.1 i hi).1.ok hE)) (fun i j hi hj he => h.2.2.1 i j hi hj (enC_inj ((h.2.1 i hi).1.ok hE) ((h.2.1 j hj).1.ok hE) he))
theorem bfI.add {E : xE} {N : vM} {fl : Nat} {L : Nat → xS} {s' : xS} (hE : xEok E) (h : bfI E N fl L) (hs' : xSt E s') (hu : awK N (enC s') = none) : bfI E (vUpd (vUpd N 106 (enC s' : Nat) (N 100 5 * 131072 + 0)) 107 fl (enC s' : Nat)) (fl + 1) (nSet L fl s') := by
  obtain ⟨a1, a2, a3, a4⟩ := h
  have hK : ∀ p, awK (vUpd (vUpd N 106 (enC s' : Nat) (N 100 5 * 131072 + 0)) 107 fl (enC s' : Nat)) p = if p = enC s' then some 0 else awK N p := fun p => by
    rw [awK_107, awK_mark (by omega)]; rfl
  have hno : ∀ i, i < fl → L i ≠ s' := fun i hi z => by
    have := (a4 s' hs').mpr ⟨i, hi, z⟩
    rw [hu] at this; cases this
  refine ⟨awM_107 _ _ (awM_mark a1 (by omega)), fun i hi => ?_, fun i j hi hj he => ?_, fun s hs => ?_⟩
  · by_cases e : i = fl
    · subst e; rw [nSet_s, vUpd_s]; exact ⟨hs', rfl⟩
    · rw [nSet_n e, vUpd_ni (by omega), vUpd_nk (by decide)]; exact a2 i (by omega)
  · by_cases e : i = fl
    · by_cases e2 : j = fl
      · omega
      · rw [e, nSet_s, nSet_n e2] at he; exact absurd he.symm (hno j (by omega))
    · by_cases e2 : j = fl
      · rw [e2, nSet_s, nSet_n e] at he; exact absurd he (hno i (by omega))
      · rw [nSet_n e, nSet_n e2] at he; exact a3 i j (by omega) (by omega) he
  · rw [hK]
    by_cases e : enC s = enC s'
    · rw [if_pos e]
      exact ⟨fun _ => ⟨fl, by omega, by rw [nSet_s]; exact (enC_inj (hs.ok hE) (hs'.ok hE) e).symm⟩, fun _ => rfl⟩
    · rw [if_neg e]
      refine (a4 s hs).trans ⟨fun ⟨i, i1, i2⟩ => ⟨i, by omega, by rw [nSet_n (by omega)]; exact i2⟩, fun ⟨i, i1, i2⟩ => ?_⟩
      by_cases e2 : i = fl
      · rw [e2, nSet_s] at i2; rw [i2] at e; exact absurd rfl e
      · rw [nSet_n e2] at i2; exact ⟨i, by omega, i2⟩
/-- behind the first t things of s: the list has grown by what they lead to -/
def auQ (E : xE) (s : xS) (fl : Nat) (L : Nat → xS) (t : Nat) (N : vM) (fl' : Nat) (L' : Nat → xS) : Prop := bfI E N fl' L' ∧ fl ≤ fl' ∧ (∀ i, i < fl → L' i = L i) ∧ (∀ i, fl ≤ i → i < fl' → ∃ th : Nat, th < 4 ∧ xn E th s = some (L' i)) ∧ ∀ (th : Nat) (s' : xS), th < t → xn E th s = some s' → ∃ i, i < fl' ∧ L' i = s'
theorem auQ_add {E : xE} {s s' : xS} {fl t : Nat} {L : Nat → xS} {N N' : vM} {fl' : Nat} {L' : Nat → xS} (h : auQ E s fl L t N fl' L') (hn : xn E (t : Int) s = some s') (hI2 : bfI E N' (fl' + 1) (nSet L' fl' s')) (ht : t < 4 := by omega) : auQ E s fl L (t + 1) N' (fl' + 1) (nSet L' fl' s') := by
  obtain ⟨q1, q2, q3, q4, q5⟩ := h
  refine ⟨hI2, by omega, fun i hi => by rw [nSet_n (by omega)]; exact q3 i hi, fun i h1 h2 => ?_, fun th s2 h1 h2 => ?_⟩
  · by_cases e : i = fl'
    · rw [e, nSet_s]; exact ⟨t, ht, hn⟩
    · rw [nSet_n e]; exact q4 i h1 (by omega)
  · rcases Nat.lt_succ_iff_lt_or_eq.mp h1 with z | z
    · obtain ⟨i, i1, i2⟩ := q5 th s2 z h2
      exact ⟨i, by omega, by rw [nSet_n (by omega)]; exact i2⟩
    · subst z; rw [hn] at h2; cases h2
      exact ⟨fl', by omega, nSet_s⟩
theorem dX0_addUnseen_0 : decode cX0_addUnseen 0 = .ok (.iload_n 2, 1) := by decide +kernel
theorem dX0_addUnseen_1 : decode cX0_addUnseen 1 = .ok (.istore_n 3, 1) := by decide +kernel
theorem dX0_addUnseen_2 : decode cX0_addUnseen 2 = .ok (.iconst 0, 1) := by decide +kernel
theorem dX0_addUnseen_3 : decode cX0_addUnseen 3 = .ok (.istore 4, 2) := by decide +kernel
theorem dX0_addUnseen_5 : decode cX0_addUnseen 5 = .ok (.iload 4, 2) := by decide +kernel
theorem dX0_addUnseen_7 : decode cX0_addUnseen 7 = .ok (.iconst 3, 1) := by decide +kernel
theorem dX0_addUnseen_8 : decode cX0_addUnseen 8 = .ok (.if_icmp .gt 47, 3) := by decide +kernel
theorem dX0_addUnseen_11 : decode cX0_addUnseen 11 = .ok (.aload_n 0, 1) := by decide +kernel
theorem dX0_addUnseen_12 : decode cX0_addUnseen 12 = .ok (.iload_n 1, 1) := by decide +kernel
theorem dX0_addUnseen_13 : decode cX0_addUnseen 13 = .ok (.iload 4, 2) := by decide +kernel
theorem dX0_addUnseen_15 : decode cX0_addUnseen 15 = .ok (.invokevirtual 101, 3) := by decide +kernel
theorem dX0_addUnseen_18 : decode cX0_addUnseen 18 = .ok (.istore 5, 2) := by decide +kernel
theorem dX0_addUnseen_20 : decode cX0_addUnseen 20 = .ok (.iload 5, 2) := by decide +kernel
theorem dX0_addUnseen_22 : decode cX0_addUnseen 22 = .ok (.ifCond .lt 27, 3) := by decide +kernel
theorem dX0_addUnseen_25 : decode cX0_addUnseen 25 = .ok (.aload_n 0, 1) := by decide +kernel
theorem dX0_addUnseen_26 : decode cX0_addUnseen 26 = .ok (.iload 5, 2) := by decide +kernel
theorem dX0_addUnseen_28 : decode cX0_addUnseen 28 = .ok (.invokevirtual 86, 3) := by decide +kernel
theorem dX0_addUnseen_31 : decode cX0_addUnseen 31 = .ok (.ifCond .ne 18, 3) := by decide +kernel
theorem dX0_addUnseen_34 : decode cX0_addUnseen 34 = .ok (.aload_n 0, 1) := by decide +kernel
theorem dX0_addUnseen_35 : decode cX0_addUnseen 35 = .ok (.iload 5, 2) := by decide +kernel
theorem dX0_addUnseen_37 : decode cX0_addUnseen 37 = .ok (.iconst 0, 1) := by decide +kernel
theorem dX0_addUnseen_38 : decode cX0_addUnseen 38 = .ok (.invokevirtual 93, 3) := by decide +kernel
theorem dX0_addUnseen_41 : decode cX0_addUnseen 41 = .ok (.aload_n 0, 1) := by decide +kernel
theorem dX0_addUnseen_42 : decode cX0_addUnseen 42 = .ok (.iload_n 3, 1) := by decide +kernel
theorem dX0_addUnseen_43 : decode cX0_addUnseen 43 = .ok (.iload 5, 2) := by decide +kernel
theorem dX0_addUnseen_45 : decode cX0_addUnseen 45 = .ok (.invokevirtual 104, 3) := by decide +kernel
theorem dX0_addUnseen_48 : decode cX0_addUnseen 48 = .ok (.istore_n 3, 1) := by decide +kernel
theorem dX0_addUnseen_49 : decode cX0_addUnseen 49 = .ok (.iinc 4 1, 3) := by decide +kernel
theorem dX0_addUnseen_52 : decode cX0_addUnseen 52 = .ok (.goto (-47), 3) := by decide +kernel
theorem dX0_addUnseen_55 : decode cX0_addUnseen 55 = .ok (.iload_n 3, 1) := by decide +kernel
theorem dX0_addUnseen_56 : decode cX0_addUnseen 56 = .ok (.ireturn, 1) := by decide +kernel
theorem l_X0_au5 {d : List Nat} {T : vT} {M : vM} {E : xE} {s : xS} {fl e : Nat} {L : Nat → xS} (hB : vB T) (hA : awT T) (hE : xEok E) (hC : xC M E) (hs : xSt E s) : ∀ t : Nat, t ≤ 4 → ∀ (N : vM) (fl' : Nat) (L' : Nat → xS) (x5 : Option vA), awS M N → auQ E s fl L t N fl' L' →
    vV m_X0_addUnseen d d (vPi fun r T1 M1 => T = T1 ∧ awS M M1 ∧ ∃ (fl' : Nat) (L' : Nat → xS), r = fl' ∧ auQ E s fl L 4 M1 fl' L') 5 [some (vR 100), some (vI (enC s : Nat)), some (vI e), some (vI fl'), some (vI t), x5] [] d T N := by
  refine vUp ?_
  intro t ht ih N fl' L' x5 hS hQ
  have hCN := hS.c hC
  have hI := hQ.1
  have hfl := hI.le hE
  refine vV.iload dX0_addUnseen_5 rfl ?_
  refine vV.iconst dX0_addUnseen_7 (by decide) ?_
  refine vV.icmp_gt (tgt := 55) dX0_addUnseen_8 (by decide) (fun h8 => ?_) (fun h8 => ?_)
  · skip
    refine vV.iload_n dX0_addUnseen_55 rfl ?_
    refine vV.ri dX0_addUnseen_56 rfl ?_
    rw [show t = 4 by omega] at hQ; exact ⟨rfl, hS, fl', L', rfl, hQ⟩
  · skip
    refine vV.aload_n dX0_addUnseen_11 rfl ?_
    refine vV.iload_n dX0_addUnseen_12 rfl ?_
    refine vV.iload dX0_addUnseen_13 rfl ?_
    refine vV.cVi dX0_addUnseen_15 ml_X0_101 cw_X0_after iw_X0_after (by first | rfl | assumption) rfl (by unfold vRoom; decide) (c_X0_after hB hE hCN hs (by omega)) rfl rfl (Nat.le_of_ble_eq_true rfl) ?_
    rintro x15 _ _ hx15 ⟨hx, rfl, rfl⟩
    refine vV.istore (L' := [_, _, _, _, _, _]) dX0_addUnseen_18 (by decide) rfl ?_
    refine vV.iload dX0_addUnseen_20 rfl ?_
    refine vV.if_lt (tgt := 49) dX0_addUnseen_22 (by decide) (fun h22 => ?_) (fun h22 => ?_)
    · skip
      have hnone : xn E (t : Int) s = none := by { cases hz : xn E (t : Int) s with | none => rfl | some s2 => rw [hz] at hx; have h9 : (0 : Int) ≤ xr (some s2) := Int.natCast_nonneg _; omega }
      have hQ2 : auQ E s fl L (t + 1) N fl' L' := ⟨hQ.1, hQ.2.1, hQ.2.2.1, hQ.2.2.2.1, fun th s' h1 h2 => (Nat.lt_succ_iff_lt_or_eq.mp h1).elim (fun z => hQ.2.2.2.2 th s' z h2) (fun z => by subst z; rw [hnone] at h2; cases h2)⟩
      refine vV.iinc (L' := [_, _, _, _, _, _]) dX0_addUnseen_49 (by decide) rfl (⟨by omega, by omega⟩) rfl ?_
      refine vV.goto (tgt := 5) dX0_addUnseen_52 (by decide) ?_
      first | exact ih (by omega) _ _ _ _ hS hQ2 | exact ih (by omega) _ (fl' + 1) _ _ hS2 hQ2
    · skip
      obtain ⟨s', hn⟩ : ∃ s', xn E (t : Int) s = some s' := by { cases hz : xn E (t : Int) s with | none => rw [hz] at hx; have h9 : xr none = -1 := rfl; omega | some s2 => exact ⟨s2, rfl⟩ }
      have hs' := xn_st hE hs hn
      have hp' := enC_lt (hs'.ok hE)
      have hx' : x15 = ((enC s' : Nat) : Int) := by { rw [hx, hn]; rfl }
      subst hx'
      refine vV.aload_n dX0_addUnseen_25 rfl ?_
      refine vV.iload dX0_addUnseen_26 rfl ?_
      refine vV.cVi dX0_addUnseen_28 ml_X0_86 cw_X0_isMarked iw_X0_isMarked (by first | rfl | assumption) rfl (by unfold vRoom; decide) (c_X0_isMarked hA hI.1 hp') rfl rfl (Nat.le_of_ble_eq_true rfl) ?_
      rintro x28 _ _ hx28 ⟨hy28, rfl, rfl⟩
      subst hy28
      refine vV.if_ne (tgt := 49) dX0_addUnseen_31 (by decide) (fun h31 => ?_) (fun h31 => ?_)
      · skip
        have hin := (hI.2.2.2 s' hs').mp (bI_ne h31)
        have hQ2 : auQ E s fl L (t + 1) N fl' L' := ⟨hQ.1, hQ.2.1, hQ.2.2.1, hQ.2.2.2.1, fun th s2 h1 h2 => (Nat.lt_succ_iff_lt_or_eq.mp h1).elim (fun z => hQ.2.2.2.2 th s2 z h2) (fun z => by subst z; rw [hn] at h2; cases h2; exact hin)⟩
        refine vV.iinc (L' := [_, _, _, _, _, _]) dX0_addUnseen_49 (by decide) rfl (⟨by omega, by omega⟩) rfl ?_
        refine vV.goto (tgt := 5) dX0_addUnseen_52 (by decide) ?_
        first | exact ih (by omega) _ _ _ _ hS hQ2 | exact ih (by omega) _ (fl' + 1) _ _ hS2 hQ2
      · skip
        have hu : awK N (enC s') = none := by { have h9 := bI_eq h31; cases hz : awK N (enC s') with | none => rfl | some w => rw [hz] at h9; cases h9 }
        have hI2 := hI.add hE hs' hu
        have hfl2 := hI2.le hE
        have hQ2 := auQ_add hQ hn hI2
        have hS2 : awS M (vUpd (vUpd N 106 (enC s' : Nat) (N 100 5 * 131072 + 0)) 107 fl' (enC s' : Nat)) := hS.m (mSame_list (mSame_mark (fun _ _ => rfl)))
        refine vV.aload_n dX0_addUnseen_34 rfl ?_
        refine vV.iload dX0_addUnseen_35 rfl ?_
        refine vV.iconst dX0_addUnseen_37 (by decide) ?_
        refine vV.cVv dX0_addUnseen_38 ml_X0_93 cw_X0_mark iw_X0_mark (by first | rfl | assumption) rfl (by unfold vRoom; decide) (c_X0_mark hA hI.1 hp' (by omega)) rfl rfl (Nat.le_of_ble_eq_true rfl) ?_
        rintro _ _ ⟨rfl, rfl⟩
        refine vV.aload_n dX0_addUnseen_41 rfl ?_
        refine vV.iload_n dX0_addUnseen_42 rfl ?_
        refine vV.iload dX0_addUnseen_43 rfl ?_
        refine vV.cVi dX0_addUnseen_45 ml_X0_104 cw_X0_put iw_X0_put (by first | rfl | assumption) rfl (by unfold vRoom; decide) (c_X0_put (n := fl') hA (by omega)) rfl rfl (Nat.le_of_ble_eq_true rfl) ?_
        rintro x45 _ _ hx45 ⟨rfl, rfl, rfl⟩
        refine vV.istore_n (L' := [_, _, _, _, _, _]) dX0_addUnseen_48 (by decide) rfl ?_
        refine vV.iinc (L' := [_, _, _, _, _, _]) dX0_addUnseen_49 (by decide) rfl (⟨by omega, by omega⟩) rfl ?_
        refine vV.goto (tgt := 5) dX0_addUnseen_52 (by decide) ?_
        first | exact ih (by omega) _ _ _ _ hS hQ2 | exact ih (by omega) _ (fl' + 1) _ _ hS2 hQ2
theorem c_X0_addUnseen {d : List Nat} {T : vT} {M : vM} {E : xE} {s : xS} {fl : Nat} {L : Nat → xS} (hB : vB T) (hA : awT T) (hE : xEok E) (hC : xC M E) (hs : xSt E s) (hI : bfI E M fl L) : vCon m_X0_addUnseen d d [vR 100, vI (enC s : Nat), vI fl] T M (vPi fun r T1 M1 => T = T1 ∧ awS M M1 ∧ ∃ (fl' : Nat) (L' : Nat → xS), r = fl' ∧ auQ E s fl L 4 M1 fl' L') := by
  refine vCon.of (by decide) rfl rfl (Nat.le_of_ble_eq_true rfl) ?_
  refine vV.iload_n dX0_addUnseen_0 rfl ?_
  refine vV.istore_n (L' := [_, _, _, _, _, _]) dX0_addUnseen_1 (by decide) rfl ?_
  refine vV.iconst dX0_addUnseen_2 (by decide) ?_
  refine vV.istore (L' := [_, _, _, _, _, _]) dX0_addUnseen_3 (by decide) rfl ?_
  exact l_X0_au5 hB hA hE hC hs 0 (by omega) M fl L _ (awS.rf M) ⟨hI, Nat.le_refl _, fun _ _ => rfl, fun i h1 h2 => by omega, fun th s' h => by omega⟩
/-- the search from s0 behind t ticks: list[b, e) is what is come to now and not sooner -/
def swI (E : xE) (s0 : xS) (n : Int) (N : vM) (tk b e : Nat) (L : Nat → xS) : Prop := bfI E N e L ∧ b ≤ e ∧ tk ≤ b ∧ (∀ i, b ≤ i → i < e → xrc E s0 tk (L i)) ∧ (∀ i, i < b → xbe E n (L i) = false ∧ ∀ (th : Nat) (s' : xS), th < 4 → xn E th (L i) = some s' → ∃ j, j < e ∧ L j = s') ∧ (∀ t s, t < tk → xrc E s0 t s → ∃ i, i < b ∧ L i = s) ∧ ∀ s, xrc E s0 tk s → ∃ i, i < e ∧ L i = s
/-- .. while the places of list[b, i) are looked at; fl are filled -/
def swJ (E : xE) (s0 : xS) (n : Int) (N : vM) (tk b e : Nat) (L : Nat → xS) (i fl : Nat) : Prop := bfI E N fl L ∧ b ≤ i ∧ i ≤ e ∧ e ≤ fl ∧ tk ≤ b ∧ b < e ∧ (∀ i, b ≤ i → i < e → xrc E s0 tk (L i)) ∧ (∀ j, e ≤ j → j < fl → xrc E s0 (tk + 1) (L j)) ∧ (∀ j, j < i → xbe E n (L j) = false ∧ ∀ (th : Nat) (s' : xS), th < 4 → xn E th (L j) = some s' → ∃ k, k < fl ∧ L k = s') ∧ (∀ t s, t < tk → xrc E s0 t s → ∃ i, i < b ∧ L i = s) ∧ ∀ s, xrc E s0 tk s → ∃ i, i < e ∧ L i = s
theorem swJ.i {E : xE} {s0 : xS} {n : Int} {N : vM} {tk b e : Nat} {L : Nat → xS} {fl : Nat} (h : swJ E s0 n N tk b e L e fl) : swI E s0 n N (tk + 1) e fl L := by
  obtain ⟨a1, a2, a3, a4, a5, a6, a7, a8, a9, a10, a11⟩ := h
  refine ⟨a1, a4, by omega, a8, a9, fun t s ht hr => ?_, fun s ⟨s', th, h1, h2, h3⟩ => ?_⟩
  · rcases Nat.lt_succ_iff_lt_or_eq.mp ht with z | z
    · obtain ⟨i, i1, i2⟩ := a10 t s z hr; exact ⟨i, by omega, i2⟩
    · subst z; exact a11 s hr
  · obtain ⟨i, i1, i2⟩ := a11 s' h2
    rw [← i2] at h3
    exact (a9 i i1).2 th s h1 h3
theorem swJ.s {E : xE} {s0 : xS} {n : Int} {N N' : vM} {tk b e : Nat} {L L' : Nat → xS} {i fl fl' : Nat} (h : swJ E s0 n N tk b e L i fl) (hi : i < e) (hb : xbe E n (L i) = false) (hQ : auQ E (L i) fl L 4 N' fl' L') : swJ E s0 n N' tk b e L' (i + 1) fl' := by
  obtain ⟨a1, a2, a3, a4, a5, a6, a7, a8, a9, a10, a11⟩ := h
  obtain ⟨q1, q2, q3, q4, q5⟩ := hQ
  refine ⟨q1, by omega, by omega, by omega, a5, a6, fun j h1 h2 => ?_, fun j h1 h2 => ?_, fun j hj => ?_, fun t s ht hr => ?_, fun s hr => ?_⟩
  · rw [q3 j (by omega)]; exact a7 j h1 h2
  · rcases Nat.lt_or_ge j fl with z | z
    · rw [q3 j z]; exact a8 j h1 z
    · obtain ⟨th, t1, t2⟩ := q4 j z h2
      exact ⟨L i, th, t1, a7 i a2 hi, t2⟩
  · rcases Nat.lt_succ_iff_lt_or_eq.mp hj with z | z
    · rw [q3 j (by omega)]
      refine ⟨(a9 j z).1, fun th s' h1 h2 => ?_⟩
      obtain ⟨k, k1, k2⟩ := (a9 j z).2 th s' h1 h2
      exact ⟨k, by omega, by rw [q3 k k1]; exact k2⟩
    · subst z
      rw [q3 j (by omega)]
      exact ⟨hb, fun th s' h1 h2 => q5 th s' h1 h2⟩
  · obtain ⟨k, k1, k2⟩ := a10 t s ht hr
    exact ⟨k, k1, by rw [q3 k (by omega)]; exact k2⟩
  · obtain ⟨k, k1, k2⟩ := a11 s hr
    exact ⟨k, k1, by rw [q3 k (by omega)]; exact k2⟩
theorem swI.no {E : xE} {s0 : xS} {n : Int} {N : vM} {tk b : Nat} {L : Nat → xS} (h : swI E s0 n N tk b b L) (h0 : ∃ i, i < b ∧ L i = s0) : ∀ t s, xrc E s0 t s → xbe E n s = false := by
  obtain ⟨a1, a2, a3, a4, a5, a6, a7⟩ := h
  have hall : ∀ t s, xrc E s0 t s → ∃ i, i < b ∧ L i = s := fun t => by
    induction t with
    | zero => intro s hs; rw [show s = s0 from hs]; exact h0
    | succ t ih =>
      rintro s ⟨s', th, h1, h2, h3⟩
      obtain ⟨i, i1, i2⟩ := ih s' h2
      rw [← i2] at h3
      exact (a5 i i1).2 th s h1 h3
  intro t s hs
  obtain ⟨i, i1, i2⟩ := hall t s hs
  rw [← i2]; exact (a5 i i1).1
theorem swJ.yes {E : xE} {s0 : xS} {n : Int} {N : vM} {tk b e : Nat} {L : Nat → xS} {i fl : Nat} (h : swJ E s0 n N tk b e L i fl) (hi : i < e) (hb : xbe E n (L i) = true) : bowQ (-1) E s0 n tk := by
  obtain ⟨a1, a2, a3, a4, a5, a6, a7, a8, a9, a10, a11⟩ := h
  refine Or.inl ⟨tk, rfl, ⟨L i, a7 i a2 hi, hb⟩, fun t s ht hr => ?_⟩
  obtain ⟨k, k1, k2⟩ := a10 t s ht hr
  rw [← k2]; exact (a9 k (by omega)).1
theorem dX0_soonestBow_0 : decode cX0_soonestBow 0 = .ok (.aload_n 0, 1) := by decide +kernel
theorem dX0_soonestBow_1 : decode cX0_soonestBow 1 = .ok (.invokevirtual 113, 3) := by decide +kernel
theorem dX0_soonestBow_4 : decode cX0_soonestBow 4 = .ok (.aload_n 0, 1) := by decide +kernel
theorem dX0_soonestBow_5 : decode cX0_soonestBow 5 = .ok (.iload_n 1, 1) := by decide +kernel
theorem dX0_soonestBow_6 : decode cX0_soonestBow 6 = .ok (.iconst 0, 1) := by decide +kernel
theorem dX0_soonestBow_7 : decode cX0_soonestBow 7 = .ok (.invokevirtual 93, 3) := by decide +kernel
theorem dX0_soonestBow_10 : decode cX0_soonestBow 10 = .ok (.aload_n 0, 1) := by decide +kernel
theorem dX0_soonestBow_11 : decode cX0_soonestBow 11 = .ok (.getfield 68, 3) := by decide +kernel
theorem dX0_soonestBow_14 : decode cX0_soonestBow 14 = .ok (.iconst 0, 1) := by decide +kernel
theorem dX0_soonestBow_15 : decode cX0_soonestBow 15 = .ok (.iload_n 1, 1) := by decide +kernel
theorem dX0_soonestBow_16 : decode cX0_soonestBow 16 = .ok (.iastore, 1) := by decide +kernel
theorem dX0_soonestBow_17 : decode cX0_soonestBow 17 = .ok (.iconst 0, 1) := by decide +kernel
theorem dX0_soonestBow_18 : decode cX0_soonestBow 18 = .ok (.istore_n 3, 1) := by decide +kernel
theorem dX0_soonestBow_19 : decode cX0_soonestBow 19 = .ok (.iconst 1, 1) := by decide +kernel
theorem dX0_soonestBow_20 : decode cX0_soonestBow 20 = .ok (.istore 4, 2) := by decide +kernel
theorem dX0_soonestBow_22 : decode cX0_soonestBow 22 = .ok (.iconst 0, 1) := by decide +kernel
theorem dX0_soonestBow_23 : decode cX0_soonestBow 23 = .ok (.istore 5, 2) := by decide +kernel
theorem dX0_soonestBow_25 : decode cX0_soonestBow 25 = .ok (.iload_n 3, 1) := by decide +kernel
theorem dX0_soonestBow_26 : decode cX0_soonestBow 26 = .ok (.iload 4, 2) := by decide +kernel
theorem dX0_soonestBow_28 : decode cX0_soonestBow 28 = .ok (.if_icmp .ge 76, 3) := by decide +kernel
theorem dX0_soonestBow_31 : decode cX0_soonestBow 31 = .ok (.iload 5, 2) := by decide +kernel
theorem dX0_soonestBow_33 : decode cX0_soonestBow 33 = .ok (.ldc 67, 2) := by decide +kernel
theorem dX0_soonestBow_35 : decode cX0_soonestBow 35 = .ok (.if_icmp .ge 69, 3) := by decide +kernel
theorem dX0_soonestBow_38 : decode cX0_soonestBow 38 = .ok (.iload 4, 2) := by decide +kernel
theorem dX0_soonestBow_40 : decode cX0_soonestBow 40 = .ok (.istore 6, 2) := by decide +kernel
theorem dX0_soonestBow_42 : decode cX0_soonestBow 42 = .ok (.iload_n 3, 1) := by decide +kernel
theorem dX0_soonestBow_43 : decode cX0_soonestBow 43 = .ok (.istore 7, 2) := by decide +kernel
theorem dX0_soonestBow_45 : decode cX0_soonestBow 45 = .ok (.iload 7, 2) := by decide +kernel
theorem dX0_soonestBow_47 : decode cX0_soonestBow 47 = .ok (.iload 4, 2) := by decide +kernel
theorem dX0_soonestBow_49 : decode cX0_soonestBow 49 = .ok (.if_icmp .ge 42, 3) := by decide +kernel
theorem dX0_soonestBow_52 : decode cX0_soonestBow 52 = .ok (.aload_n 0, 1) := by decide +kernel
theorem dX0_soonestBow_53 : decode cX0_soonestBow 53 = .ok (.aload_n 0, 1) := by decide +kernel
theorem dX0_soonestBow_54 : decode cX0_soonestBow 54 = .ok (.getfield 68, 3) := by decide +kernel
theorem dX0_soonestBow_57 : decode cX0_soonestBow 57 = .ok (.iload 7, 2) := by decide +kernel
theorem dX0_soonestBow_59 : decode cX0_soonestBow 59 = .ok (.iaload, 1) := by decide +kernel
theorem dX0_soonestBow_60 : decode cX0_soonestBow 60 = .ok (.iload_n 2, 1) := by decide +kernel
theorem dX0_soonestBow_61 : decode cX0_soonestBow 61 = .ok (.invokevirtual 119, 3) := by decide +kernel
theorem dX0_soonestBow_64 : decode cX0_soonestBow 64 = .ok (.ifCond .eq 6, 3) := by decide +kernel
theorem dX0_soonestBow_67 : decode cX0_soonestBow 67 = .ok (.iload 5, 2) := by decide +kernel
theorem dX0_soonestBow_69 : decode cX0_soonestBow 69 = .ok (.ireturn, 1) := by decide +kernel
theorem dX0_soonestBow_70 : decode cX0_soonestBow 70 = .ok (.aload_n 0, 1) := by decide +kernel
theorem dX0_soonestBow_71 : decode cX0_soonestBow 71 = .ok (.aload_n 0, 1) := by decide +kernel
theorem dX0_soonestBow_72 : decode cX0_soonestBow 72 = .ok (.getfield 68, 3) := by decide +kernel
theorem dX0_soonestBow_75 : decode cX0_soonestBow 75 = .ok (.iload 7, 2) := by decide +kernel
theorem dX0_soonestBow_77 : decode cX0_soonestBow 77 = .ok (.iaload, 1) := by decide +kernel
theorem dX0_soonestBow_78 : decode cX0_soonestBow 78 = .ok (.iload 6, 2) := by decide +kernel
theorem dX0_soonestBow_80 : decode cX0_soonestBow 80 = .ok (.invokevirtual 123, 3) := by decide +kernel
theorem dX0_soonestBow_83 : decode cX0_soonestBow 83 = .ok (.istore 6, 2) := by decide +kernel
theorem dX0_soonestBow_85 : decode cX0_soonestBow 85 = .ok (.iinc 7 1, 3) := by decide +kernel
theorem dX0_soonestBow_88 : decode cX0_soonestBow 88 = .ok (.goto (-43), 3) := by decide +kernel
theorem dX0_soonestBow_91 : decode cX0_soonestBow 91 = .ok (.iload 4, 2) := by decide +kernel
theorem dX0_soonestBow_93 : decode cX0_soonestBow 93 = .ok (.istore_n 3, 1) := by decide +kernel
theorem dX0_soonestBow_94 : decode cX0_soonestBow 94 = .ok (.iload 6, 2) := by decide +kernel
theorem dX0_soonestBow_96 : decode cX0_soonestBow 96 = .ok (.istore 4, 2) := by decide +kernel
theorem dX0_soonestBow_98 : decode cX0_soonestBow 98 = .ok (.iinc 5 1, 3) := by decide +kernel
theorem dX0_soonestBow_101 : decode cX0_soonestBow 101 = .ok (.goto (-76), 3) := by decide +kernel
theorem dX0_soonestBow_104 : decode cX0_soonestBow 104 = .ok (.iconst (-1), 1) := by decide +kernel
theorem dX0_soonestBow_105 : decode cX0_soonestBow 105 = .ok (.ireturn, 1) := by decide +kernel
theorem l_X0_sb45 {d : List Nat} {T : vT} {M : vM} {E : xE} {s0 : xS} {n : Int} {tk b e : Nat} (hB : vB T) (hA : awT T) (hE : xEok E) (hC : xC M E) (hn : 1 ≤ n ∧ n ≤ 9)
    (go : ∀ (N : vM) (fl : Nat) (L : Nat → xS) (x6 x7 : Option vA), awS M N → swI E s0 n N (tk + 1) e fl L → L 0 = s0 → vV m_X0_soonestBow d d (vPi fun r T1 M1 => T = T1 ∧ awS M M1 ∧ awM M1 ∧ bowQ (-1) E s0 n r) 25 [some (vR 100), some (vI (enC s0 : Nat)), some (vI n), some (vI e), some (vI fl), some (vI ((tk + 1 : Nat) : Int)), x6, x7] [] d T N) (htk : tk < 32768) : ∀ i, i ≤ e → ∀ (N : vM) (fl : Nat) (L : Nat → xS), awS M N → swJ E s0 n N tk b e L i fl → L 0 = s0 →
    vV m_X0_soonestBow d d (vPi fun r T1 M1 => T = T1 ∧ awS M M1 ∧ awM M1 ∧ bowQ (-1) E s0 n r) 45 [some (vR 100), some (vI (enC s0 : Nat)), some (vI n), some (vI b), some (vI e), some (vI tk), some (vI fl), some (vI i)] [] d T N := by
  refine vUp ?_
  intro i hi ih N fl L hS hJ hL0
  have hA2 := hA
  obtain ⟨q1, q2, q3⟩ := hA2
  have hCN := hS.c hC
  have hI := hJ.1
  have hle := hI.le hE
  have hef := hJ.2.2.2.1
  refine vV.iload dX0_soonestBow_45 rfl ?_
  refine vV.iload dX0_soonestBow_47 rfl ?_
  refine vV.icmp_ge (tgt := 91) dX0_soonestBow_49 (by decide) (fun h49 => ?_) (fun h49 => ?_)
  · skip
    refine vV.iload dX0_soonestBow_91 rfl ?_
    refine vV.istore_n (L' := [_, _, _, _, _, _, _, _]) dX0_soonestBow_93 (by decide) rfl ?_
    refine vV.iload dX0_soonestBow_94 rfl ?_
    refine vV.istore (L' := [_, _, _, _, _, _, _, _]) dX0_soonestBow_96 (by decide) rfl ?_
    refine vV.iinc (L' := [_, _, _, _, _, _, _, _]) dX0_soonestBow_98 (by decide) rfl (⟨by omega, by omega⟩) rfl ?_
    refine vV.goto (tgt := 25) dX0_soonestBow_101 (by decide) ?_
    rw [show i = e by omega] at hJ; exact go N fl L _ _ hS hJ.i hL0
  · skip
    obtain ⟨l1, l2⟩ := hI.2.1 i (by omega)
    refine vV.aload_n dX0_soonestBow_52 rfl ?_
    refine vV.aload_n dX0_soonestBow_53 rfl ?_
    refine vV.getr dX0_soonestBow_54 fl_X0_68 (by first | rfl | assumption) rfl (by first | assumption | exact hB _ _ _ rfl) ?_
    refine vV.iload dX0_soonestBow_57 rfl ?_
    refine vV.iald dX0_soonestBow_59 (by first | rfl | assumption) (by omega) (by omega) ?_
    rw [l2]
    refine vV.iload_n dX0_soonestBow_60 rfl ?_
    refine vV.cVi dX0_soonestBow_61 ml_X0_119 cw_X0_bears iw_X0_bears (by first | rfl | assumption) rfl (by unfold vRoom; decide) (c_X0_bears hB hE hCN l1 hn) rfl rfl (Nat.le_of_ble_eq_true rfl) ?_
    rintro x61 _ _ hx61 ⟨hy61, rfl, rfl⟩
    subst hy61
    refine vV.if_eq (tgt := 70) dX0_soonestBow_64 (by decide) (fun h64 => ?_) (fun h64 => ?_)
    · skip
      refine vV.aload_n dX0_soonestBow_70 rfl ?_
      refine vV.aload_n dX0_soonestBow_71 rfl ?_
      refine vV.getr dX0_soonestBow_72 fl_X0_68 (by first | rfl | assumption) rfl (by first | assumption | exact hB _ _ _ rfl) ?_
      refine vV.iload dX0_soonestBow_75 rfl ?_
      refine vV.iald dX0_soonestBow_77 (by first | rfl | assumption) (by omega) (by omega) ?_
      rw [l2]
      refine vV.iload dX0_soonestBow_78 rfl ?_
      refine vV.cVi dX0_soonestBow_80 ml_X0_123 cw_X0_addUnseen iw_X0_addUnseen (by first | rfl | assumption) rfl (by unfold vRoom; decide) (c_X0_addUnseen (L := L) hB hA hE hCN l1 hI) rfl rfl (Nat.le_of_ble_eq_true rfl) ?_
      rintro x80 _ N1 hx80 ⟨rfl, hS1, fl', L', rfl, hQ⟩
      have hS2 : awS M N1 := ⟨fun k hk => (hS1.1 k hk).trans (hS.1 k hk), fun j hj => (hS1.2 j hj).trans (hS.2 j hj)⟩
      refine vV.istore (L' := [_, _, _, _, _, _, _, _]) dX0_soonestBow_83 (by decide) rfl ?_
      refine vV.iinc (L' := [_, _, _, _, _, _, _, _]) dX0_soonestBow_85 (by decide) rfl (⟨by omega, by omega⟩) rfl ?_
      refine vV.goto (tgt := 45) dX0_soonestBow_88 (by decide) ?_
      exact ih (by omega) N1 fl' L' hS2 (hJ.s (by omega) (bI_eq h64) hQ) (by rw [hQ.2.2.1 0 (by omega)]; exact hL0)
    · skip
      refine vV.iload dX0_soonestBow_67 rfl ?_
      refine vV.ri dX0_soonestBow_69 rfl ?_
      exact ⟨rfl, hS, hI.1, hJ.yes (by omega) (bI_ne h64)⟩
theorem l_X0_sb25 {d : List Nat} {T : vT} {M : vM} {E : xE} {s0 : xS} {n : Int} (hB : vB T) (hA : awT T) (hE : xEok E) (hC : xC M E) (hn : 1 ≤ n ∧ n ≤ 9) : ∀ (f tk : Nat), tk + f = 32768 → ∀ (N : vM) (b e : Nat) (L : Nat → xS) (x6 x7 : Option vA), awS M N → swI E s0 n N tk b e L → L 0 = s0 → 1 ≤ e →
    vV m_X0_soonestBow d d (vPi fun r T1 M1 => T = T1 ∧ awS M M1 ∧ awM M1 ∧ bowQ (-1) E s0 n r) 25 [some (vR 100), some (vI (enC s0 : Nat)), some (vI n), some (vI b), some (vI e), some (vI tk), x6, x7] [] d T N := by
  intro f
  induction f with
  | zero =>
    intro tk hf N b e L x6 x7 hS hI hL0 he
    have hle := hI.1.le hE
    have h1 := hI.2.1
    have h2 := hI.2.2.1
    have hbe : b = e := by omega
    subst hbe
    have hno := hI.no ⟨0, by omega, hL0⟩
    refine vV.iload_n dX0_soonestBow_25 rfl ?_
    refine vV.iload dX0_soonestBow_26 rfl ?_
    refine vV.icmp_ge (tgt := 104) dX0_soonestBow_28 (by decide) (fun h28 => ?_) (fun h28 => ?_)
    · skip
      refine vV.iconst dX0_soonestBow_104 (by decide) ?_
      refine vV.ri dX0_soonestBow_105 rfl ?_
      exact ⟨rfl, hS, hI.1.1, Or.inr ⟨rfl, hno⟩⟩
    · skip
      omega
  | succ f ih =>
    intro tk hf N b e L x6 x7 hS hI hL0 he
    have hle := hI.1.le hE
    have h1 := hI.2.1
    have h2 := hI.2.2.1
    have hno : b = e → ∀ t s, xrc E s0 t s → xbe E n s = false := fun z => by subst z; exact hI.no ⟨0, by omega, hL0⟩
    refine vV.iload_n dX0_soonestBow_25 rfl ?_
    refine vV.iload dX0_soonestBow_26 rfl ?_
    refine vV.icmp_ge (tgt := 104) dX0_soonestBow_28 (by decide) (fun h28 => ?_) (fun h28 => ?_)
    · skip
      refine vV.iconst dX0_soonestBow_104 (by decide) ?_
      refine vV.ri dX0_soonestBow_105 rfl ?_
      exact ⟨rfl, hS, hI.1.1, Or.inr ⟨rfl, hno (by omega)⟩⟩
    · skip
      refine vV.iload dX0_soonestBow_31 rfl ?_
      refine vV.ldc (v := 32768) dX0_soonestBow_33 kc_X0_67 (by decide) (by decide) ?_
      refine vV.icmp_ge (tgt := 104) dX0_soonestBow_35 (by decide) (fun h35 => ?_) (fun h35 => ?_)
      · skip
        omega
      · skip
        refine vV.iload dX0_soonestBow_38 rfl ?_
        refine vV.istore (L' := [_, _, _, _, _, _, _, _]) dX0_soonestBow_40 (by decide) rfl ?_
        refine vV.iload_n dX0_soonestBow_42 rfl ?_
        refine vV.istore (L' := [_, _, _, _, _, _, _, _]) dX0_soonestBow_43 (by decide) rfl ?_
        exact l_X0_sb45 hB hA hE hC hn (fun N fl L x6 x7 g1 g2 g3 => ih (tk + 1) (by omega) N e fl L x6 x7 g1 g2 g3 (by have := g2.2.1; omega)) (by omega) b (by omega) N e L hS ⟨hI.1, Nat.le_refl _, by omega, Nat.le_refl _, h2, by omega, hI.2.2.2.1, fun j j1 j2 => by omega, hI.2.2.2.2.1, hI.2.2.2.2.2.1, hI.2.2.2.2.2.2⟩ hL0
theorem c_X0_soonestBow {d : List Nat} {T : vT} {M : vM} {E : xE} {s0 : xS} {n : Int} (hB : vB T) (hA : awT T) (hE : xEok E) (hC : xC M E) (hs : xSt E s0) (hM : awM M) (hn : 1 ≤ n ∧ n ≤ 9) : vCon m_X0_soonestBow d d [vR 100, vI (enC s0 : Nat), vI n] T M (vPi fun r T1 M1 => T = T1 ∧ awS M M1 ∧ awM M1 ∧ bowQ (-1) E s0 n r) := by
  have hp0 := enC_lt (hs.ok hE)
  have hA2 := hA
  obtain ⟨q1, q2, q3⟩ := hA2
  refine vCon.of (by decide) rfl rfl (Nat.le_of_ble_eq_true rfl) ?_
  refine vV.aload_n dX0_soonestBow_0 rfl ?_
  refine vV.cVv dX0_soonestBow_1 ml_X0_113 cw_X0_openPage iw_X0_openPage (by first | rfl | assumption) rfl (by unfold vRoom; decide) (c_X0_openPage hA hM) rfl rfl (Nat.le_of_ble_eq_true rfl) ?_
  rintro _ N ⟨rfl, hO⟩
  refine vV.aload_n dX0_soonestBow_4 rfl ?_
  refine vV.iload_n dX0_soonestBow_5 rfl ?_
  refine vV.iconst dX0_soonestBow_6 (by decide) ?_
  refine vV.cVv dX0_soonestBow_7 ml_X0_93 cw_X0_mark iw_X0_mark (by first | rfl | assumption) rfl (by unfold vRoom; decide) (c_X0_mark hA hO.2.2.1 hp0 (by omega)) rfl rfl (Nat.le_of_ble_eq_true rfl) ?_
  rintro _ _ ⟨rfl, rfl⟩
  refine vV.aload_n dX0_soonestBow_10 rfl ?_
  refine vV.getr dX0_soonestBow_11 fl_X0_68 (by first | rfl | assumption) rfl (by first | assumption | exact hB _ _ _ rfl) ?_
  refine vV.iconst dX0_soonestBow_14 (by decide) ?_
  refine vV.iload_n dX0_soonestBow_15 rfl ?_
  refine vV.iast dX0_soonestBow_16 (by first | rfl | assumption) (by omega) (by omega) ?_
  refine vV.iconst dX0_soonestBow_17 (by decide) ?_
  refine vV.istore_n (L' := [_, _, _, _, _, _, _, _]) dX0_soonestBow_18 (by decide) rfl ?_
  refine vV.iconst dX0_soonestBow_19 (by decide) ?_
  refine vV.istore (L' := [_, _, _, _, _, _, _, _]) dX0_soonestBow_20 (by decide) rfl ?_
  refine vV.iconst dX0_soonestBow_22 (by decide) ?_
  refine vV.istore (L' := [_, _, _, _, _, _, _, _]) dX0_soonestBow_23 (by decide) rfl ?_
  have hb0 : bfI E N 0 (fun _ => s0) := ⟨hO.2.2.1, fun i hi => by omega, fun i j hi => by omega, fun s hs9 => ⟨(fun z => by rw [hO.k (enC_lt (hs9.ok hE))] at z; cases z), (fun ⟨i, i1, _⟩ => by omega)⟩⟩
  have hb1 := hb0.add hE hs (hO.k hp0)
  refine l_X0_sb25 hB hA hE hC hn 32768 0 rfl _ 0 1 (nSet (fun _ => s0) 0 s0) _ _ (((awS.rf M).o hO).m (mSame_list (mSame_mark (fun _ _ => rfl)))) ⟨hb1, by omega, by omega, fun i h1 h2 => ?_, fun i hi => by omega, fun t s ht => by omega, fun s hs9 => ⟨0, by omega, ?_⟩⟩ nSet_s (by omega)
  · rw [show i = 0 by omega, nSet_s]; rfl
  · rw [nSet_s]; exact hs9.symm
