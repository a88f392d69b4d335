/-! ===== own: AllWays.mostWorth ===== -/
def xgk (s : xS) : Nat → Nat
  | 0 => 0
  | k + 1 => xgk s k + if xt s k ≤ 3 then 1 else 0
def xga (E : xE) (s : xS) : Nat := xgk s E.1
theorem xgk_le (s : xS) : ∀ k, xgk s k ≤ k
  | 0 => Nat.le_refl 0
  | k + 1 => by have := xgk_le s k; unfold xgk; split <;> omega
theorem xga_le {E : xE} (hE : xEok E) (s : xS) : xga E s ≤ 3 := Nat.le_trans (xgk_le s E.1) hE.1.2
/-- behind j ticks he is at s by a way worth w -/
def xW (E : xE) (s0 : xS) : Nat → xS → Nat → Prop
  | 0, s, w => s = s0 ∧ w = 0
  | j + 1, s, w => ∃ (s' : xS) (w' t : Nat), t < 4 ∧ xW E s0 j s' w' ∧ xn E t s' = some s ∧ w = w' + (if j = 0 then 3 - t else 0) + 4 * xga E s
def gpQ (E : xE) (s0 : xS) (n : Nat) (r : Int) : Prop := (r = -1 ∧ ∀ s w, ¬ xW E s0 n s w) ∨ ∃ w : Nat, r = w ∧ (∃ s, xW E s0 n s w) ∧ ∀ s w', xW E s0 n s w' → w' ≤ w
theorem dX0_gaspsOf_0 : decode cX0_gaspsOf 0 = .ok (.iload_n 0, 1) := by decide +kernel
theorem dX0_gaspsOf_1 : decode cX0_gaspsOf 1 = .ok (.iconst 2, 1) := by decide +kernel
theorem dX0_gaspsOf_2 : decode cX0_gaspsOf 2 = .ok (.ishr, 1) := by decide +kernel
theorem dX0_gaspsOf_3 : decode cX0_gaspsOf 3 = .ok (.ireturn, 1) := by decide +kernel
theorem c_X0_gaspsOf {d : List Nat} {T : vT} {M : vM} {w : Nat} (hw : w < 65536) : vCon m_X0_gaspsOf d d [vI w] T M (vPi fun r T1 M1 => r = (w / 4 : Nat) ∧ T = T1 ∧ M = M1) := by
  refine vCon.of (by decide) rfl rfl (Nat.le_of_ble_eq_true rfl) ?_
  refine vV.iload_n dX0_gaspsOf_0 rfl ?_
  refine vV.iconst dX0_gaspsOf_1 (by decide) ?_
  refine vV.ishr dX0_gaspsOf_2 ?_
  rw [show (2 : Int) = ((2 : Nat) : Int) from rfl, vShr_nat (by decide) (by omega)]
  refine vV.ri dX0_gaspsOf_3 rfl ?_
  exact ⟨rfl, rfl, rfl⟩
theorem dX0_firstThingOf_0 : decode cX0_firstThingOf 0 = .ok (.iconst 3, 1) := by decide +kernel
theorem dX0_firstThingOf_1 : decode cX0_firstThingOf 1 = .ok (.iload_n 0, 1) := by decide +kernel
theorem dX0_firstThingOf_2 : decode cX0_firstThingOf 2 = .ok (.iconst 3, 1) := by decide +kernel
theorem dX0_firstThingOf_3 : decode cX0_firstThingOf 3 = .ok (.iand, 1) := by decide +kernel
theorem dX0_firstThingOf_4 : decode cX0_firstThingOf 4 = .ok (.isub, 1) := by decide +kernel
theorem dX0_firstThingOf_5 : decode cX0_firstThingOf 5 = .ok (.ireturn, 1) := by decide +kernel
theorem c_X0_firstThingOf {d : List Nat} {T : vT} {M : vM} {w : Nat} (hw : w < 65536) : vCon m_X0_firstThingOf d d [vI w] T M (vPi fun r T1 M1 => r = 3 - ((w % 4 : Nat) : Int) ∧ T = T1 ∧ M = M1) := by
  have h : vAnd (w : Nat) 3 = ((w % 4 : Nat) : Int) := by rw [show (3 : Int) = ((2 ^ 2 - 1 : Nat) : Int) from rfl, vAnd_nat 2 (by decide) (by omega)]
  refine vCon.of (by decide) rfl rfl (Nat.le_of_ble_eq_true rfl) ?_
  refine vV.iconst dX0_firstThingOf_0 (by decide) ?_
  refine vV.iload_n dX0_firstThingOf_1 rfl ?_
  refine vV.iconst dX0_firstThingOf_2 (by decide) ?_
  refine vV.iand dX0_firstThingOf_3 ?_
  rw [h]
  refine vV.isub dX0_firstThingOf_4 (⟨by omega, by omega⟩) ?_
  refine vV.ri dX0_firstThingOf_5 rfl ?_
  exact ⟨rfl, rfl, rfl⟩
theorem dX0_gaspsAt_0 : decode cX0_gaspsAt 0 = .ok (.iconst 0, 1) := by decide +kernel
theorem dX0_gaspsAt_1 : decode cX0_gaspsAt 1 = .ok (.istore_n 2, 1) := by decide +kernel
theorem dX0_gaspsAt_2 : decode cX0_gaspsAt 2 = .ok (.iconst 0, 1) := by decide +kernel
theorem dX0_gaspsAt_3 : decode cX0_gaspsAt 3 = .ok (.istore_n 3, 1) := by decide +kernel
theorem dX0_gaspsAt_4 : decode cX0_gaspsAt 4 = .ok (.iload_n 3, 1) := by decide +kernel
theorem dX0_gaspsAt_5 : decode cX0_gaspsAt 5 = .ok (.aload_n 0, 1) := by decide +kernel
theorem dX0_gaspsAt_6 : decode cX0_gaspsAt 6 = .ok (.getfield 46, 3) := by decide +kernel
theorem dX0_gaspsAt_9 : decode cX0_gaspsAt 9 = .ok (.if_icmp .ge 25, 3) := by decide +kernel
theorem dX0_gaspsAt_12 : decode cX0_gaspsAt 12 = .ok (.iload_n 1, 1) := by decide +kernel
theorem dX0_gaspsAt_13 : decode cX0_gaspsAt 13 = .ok (.iload_n 3, 1) := by decide +kernel
theorem dX0_gaspsAt_14 : decode cX0_gaspsAt 14 = .ok (.invokestatic 58, 3) := by decide +kernel
theorem dX0_gaspsAt_17 : decode cX0_gaspsAt 17 = .ok (.ishr, 1) := by decide +kernel
theorem dX0_gaspsAt_18 : decode cX0_gaspsAt 18 = .ok (.bipush 15, 2) := by decide +kernel
theorem dX0_gaspsAt_20 : decode cX0_gaspsAt 20 = .ok (.iand, 1) := by decide +kernel
theorem dX0_gaspsAt_21 : decode cX0_gaspsAt 21 = .ok (.iconst 3, 1) := by decide +kernel
theorem dX0_gaspsAt_22 : decode cX0_gaspsAt 22 = .ok (.if_icmp .gt 6, 3) := by decide +kernel
theorem dX0_gaspsAt_25 : decode cX0_gaspsAt 25 = .ok (.iinc 2 1, 3) := by decide +kernel
theorem dX0_gaspsAt_28 : decode cX0_gaspsAt 28 = .ok (.iinc 3 1, 3) := by decide +kernel
theorem dX0_gaspsAt_31 : decode cX0_gaspsAt 31 = .ok (.goto (-27), 3) := by decide +kernel
theorem dX0_gaspsAt_34 : decode cX0_gaspsAt 34 = .ok (.iload_n 2, 1) := by decide +kernel
theorem dX0_gaspsAt_35 : decode cX0_gaspsAt 35 = .ok (.ireturn, 1) := by decide +kernel
theorem l_X0_ga4 {d : List Nat} {T : vT} {M : vM} {E : xE} {s : xS} (hB : vB T) (hE : xEok E) (hC : xC M E) (hs : xSt E s) : ∀ p, p ≤ E.1 →
    vV m_X0_gaspsAt d d (vPi fun r T1 M1 => r = (xga E s : Nat) ∧ T = T1 ∧ M = M1) 4 [some (vR 100), some (vI (enC s : Nat)), some (vI (xgk s p : Nat)), some (vI p)] [] d T M := by
  obtain ⟨c1, c2, c3, c4⟩ := hC
  have hp := enC_lt (hs.ok hE)
  have hE3 := hE.1
  refine vUp ?_
  intro p hpm ih
  have hle := xgk_le s p
  have e : ∀ b : Bool, decide (xt s p ≤ 3) = b → xgk s (p + 1) = xgk s p + if b then 1 else 0 := fun b hb => by
    show xgk s p + (if xt s p ≤ 3 then 1 else 0) = _
    rw [← hb]; by_cases h : xt s p ≤ 3
    · rw [if_pos h]; simp [h]
    · rw [if_neg h]; simp [h]
  refine vV.iload_n dX0_gaspsAt_4 rfl ?_
  refine vV.aload_n dX0_gaspsAt_5 rfl ?_
  refine vV.geti (z := 0) dX0_gaspsAt_6 fl_X0_46 (by first | rfl | assumption) rfl rfl ?_
  rw [c1]
  refine vV.icmp_ge (tgt := 34) dX0_gaspsAt_9 (by decide) (fun h9 => ?_) (fun h9 => ?_)
  · skip
    refine vV.iload_n dX0_gaspsAt_34 rfl ?_
    refine vV.ri dX0_gaspsAt_35 rfl ?_
    rw [show p = E.1 by omega]; exact ⟨rfl, rfl, rfl⟩
  · skip
    have hdg := (enC_dig (hs.ok hE) (k := p) (by omega)).1
    refine vV.iload_n dX0_gaspsAt_12 rfl ?_
    refine vV.iload_n dX0_gaspsAt_13 rfl ?_
    refine vV.cSi dX0_gaspsAt_14 ml_X0_58 cw_X0_shiftOf sw_X0_shiftOf (by unfold vRoom; decide) (c_X0_shiftOf (by omega)) rfl rfl (Nat.le_of_ble_eq_true rfl) ?_
    rintro x12 _ _ hx12 ⟨rfl, rfl, rfl⟩
    refine vV.ishr dX0_gaspsAt_17 ?_
    refine vV.bipush (v := 15) dX0_gaspsAt_18 (by decide) (by decide) ?_
    refine vV.iand dX0_gaspsAt_20 ?_
    rw [shr_dig hp (by omega), hdg]
    refine vV.iconst dX0_gaspsAt_21 (by decide) ?_
    refine vV.icmp_gt (tgt := 28) dX0_gaspsAt_22 (by decide) (fun h22 => ?_) (fun h22 => ?_)
    · skip
      have e2 : xgk s (p + 1) = xgk s p := by { have := e false (decide_eq_false (by omega)); simpa using this }
      rw [← e2]
      refine vV.iinc (L' := [_, _, _, _]) dX0_gaspsAt_28 (by decide) rfl (⟨by omega, by omega⟩) rfl ?_
      refine vV.goto (tgt := 4) dX0_gaspsAt_31 (by decide) ?_
      first | exact ih (by omega) | (rw [e2] at ih; exact ih (by omega))
    · skip
      have e2 : xgk s (p + 1) = xgk s p + 1 := by { have := e true (decide_eq_true (by omega)); simpa using this }
      refine vV.iinc (L' := [_, _, _, _]) dX0_gaspsAt_25 (by decide) rfl (⟨by omega, by omega⟩) rfl ?_
      refine vV.iinc (L' := [_, _, _, _]) dX0_gaspsAt_28 (by decide) rfl (⟨by omega, by omega⟩) rfl ?_
      refine vV.goto (tgt := 4) dX0_gaspsAt_31 (by decide) ?_
      first | exact ih (by omega) | (rw [e2] at ih; exact ih (by omega))
theorem c_X0_gaspsAt {d : List Nat} {T : vT} {M : vM} {E : xE} {s : xS} (hB : vB T) (hE : xEok E) (hC : xC M E) (hs : xSt E s) : vCon m_X0_gaspsAt d d [vR 100, vI (enC s : Nat)] T M (vPi fun r T1 M1 => r = (xga E s : Nat) ∧ T = T1 ∧ M = M1) := by
  refine vCon.of (by decide) rfl rfl (Nat.le_of_ble_eq_true rfl) ?_
  refine vV.iconst dX0_gaspsAt_0 (by decide) ?_
  refine vV.istore_n (L' := [_, _, _, _]) dX0_gaspsAt_1 (by decide) rfl ?_
  refine vV.iconst dX0_gaspsAt_2 (by decide) ?_
  refine vV.istore_n (L' := [_, _, _, _]) dX0_gaspsAt_3 (by decide) rfl ?_
  exact l_X0_ga4 hB hE hC hs 0 (by omega)
/-- the row b holds fl positions with their worths; each is marked with its place -/
def gkI (E : xE) (N : vM) (b fl : Nat) (L : Nat → xS) (W : Nat → Nat) : Prop := awM N ∧ (∀ i, i < fl → xSt E (L i) ∧ N b i = ((W i * 32768 + enC (L i) : Nat) : Int) ∧ W i ≤ 400 ∧ awK N (enC (L i)) = some i) ∧ ∀ s i, xSt E s → awK N (enC s) = some i → i < fl ∧ L i = s
theorem gkI.le {E : xE} {N : vM} {b fl : Nat} {L : Nat → xS} {W : Nat → Nat} (hE : xEok E) (h : gkI E N b fl L W) : fl ≤ 32768 := inj_le (f := fun i => enC (L i)) (fun i hi => enC_lt ((h.2.1 i hi).1.ok hE)) (fun i j hi hj he => by
  have e := enC_inj ((h.2.1 i hi).1.ok hE) ((h.2.1 j hj).1.ok hE) he
  have a := (h.2.1 i hi).2.2.2
  rw [e, (h.2.1 j hj).2.2.2] at a
  exact (Option.some.inj a).symm)
/-- .. and what is put: s, worth w -/
def gkP (fl : Nat) (L : Nat → xS) (W : Nat → Nat) (fl' : Nat) (L' : Nat → xS) (W' : Nat → Nat) (s : xS) (w : Nat) : Prop := fl ≤ fl' ∧ (∀ i, i < fl → L' i = L i ∧ W i ≤ W' i) ∧ (∃ i, i < fl' ∧ L' i = s ∧ w ≤ W' i) ∧ ∀ i, i < fl' → (i < fl ∧ W' i = W i) ∨ (L' i = s ∧ W' i = w)
theorem awK_b {N : vM} {b : Nat} {p y : Int} (hb : b = 107 ∨ b = 108) (q : Nat) : awK (vUpd N b p y) q = awK N q := by
  unfold awK; rw [vUpd_nk (by omega), vUpd_nk (by omega)]
theorem awM_b {N : vM} {b : Nat} {p y : Int} (hb : b = 107 ∨ b = 108) (h : awM N) : awM (vUpd N b p y) := by
  unfold awM at h ⊢
  rw [vUpd_row (show (100 : Nat) ≠ b by omega), vUpd_row (show (106 : Nat) ≠ b by omega)]
  exact h
theorem dX0_keepBest_0 : decode cX0_keepBest 0 = .ok (.iload 4, 2) := by decide +kernel
theorem dX0_keepBest_2 : decode cX0_keepBest 2 = .ok (.ldc 67, 2) := by decide +kernel
theorem dX0_keepBest_4 : decode cX0_keepBest 4 = .ok (.imul, 1) := by decide +kernel
theorem dX0_keepBest_5 : decode cX0_keepBest 5 = .ok (.iload_n 3, 1) := by decide +kernel
theorem dX0_keepBest_6 : decode cX0_keepBest 6 = .ok (.iadd, 1) := by decide +kernel
theorem dX0_keepBest_7 : decode cX0_keepBest 7 = .ok (.istore 5, 2) := by decide +kernel
theorem dX0_keepBest_9 : decode cX0_keepBest 9 = .ok (.aload_n 0, 1) := by decide +kernel
theorem dX0_keepBest_10 : decode cX0_keepBest 10 = .ok (.iload_n 3, 1) := by decide +kernel
theorem dX0_keepBest_11 : decode cX0_keepBest 11 = .ok (.invokevirtual 86, 3) := by decide +kernel
theorem dX0_keepBest_14 : decode cX0_keepBest 14 = .ok (.ifCond .ne 24, 3) := by decide +kernel
theorem dX0_keepBest_17 : decode cX0_keepBest 17 = .ok (.iload_n 2, 1) := by decide +kernel
theorem dX0_keepBest_18 : decode cX0_keepBest 18 = .ok (.aload_n 1, 1) := by decide +kernel
theorem dX0_keepBest_19 : decode cX0_keepBest 19 = .ok (.arraylength, 1) := by decide +kernel
theorem dX0_keepBest_20 : decode cX0_keepBest 20 = .ok (.if_icmp .ge 18, 3) := by decide +kernel
theorem dX0_keepBest_23 : decode cX0_keepBest 23 = .ok (.aload_n 0, 1) := by decide +kernel
theorem dX0_keepBest_24 : decode cX0_keepBest 24 = .ok (.iload_n 3, 1) := by decide +kernel
theorem dX0_keepBest_25 : decode cX0_keepBest 25 = .ok (.iload_n 2, 1) := by decide +kernel
theorem dX0_keepBest_26 : decode cX0_keepBest 26 = .ok (.invokevirtual 93, 3) := by decide +kernel
theorem dX0_keepBest_29 : decode cX0_keepBest 29 = .ok (.aload_n 1, 1) := by decide +kernel
theorem dX0_keepBest_30 : decode cX0_keepBest 30 = .ok (.iload_n 2, 1) := by decide +kernel
theorem dX0_keepBest_31 : decode cX0_keepBest 31 = .ok (.iload 5, 2) := by decide +kernel
theorem dX0_keepBest_33 : decode cX0_keepBest 33 = .ok (.iastore, 1) := by decide +kernel
theorem dX0_keepBest_34 : decode cX0_keepBest 34 = .ok (.iload_n 2, 1) := by decide +kernel
theorem dX0_keepBest_35 : decode cX0_keepBest 35 = .ok (.iconst 1, 1) := by decide +kernel
theorem dX0_keepBest_36 : decode cX0_keepBest 36 = .ok (.iadd, 1) := by decide +kernel
theorem dX0_keepBest_37 : decode cX0_keepBest 37 = .ok (.ireturn, 1) := by decide +kernel
theorem dX0_keepBest_38 : decode cX0_keepBest 38 = .ok (.aload_n 0, 1) := by decide +kernel
theorem dX0_keepBest_39 : decode cX0_keepBest 39 = .ok (.iload_n 3, 1) := by decide +kernel
theorem dX0_keepBest_40 : decode cX0_keepBest 40 = .ok (.invokevirtual 90, 3) := by decide +kernel
theorem dX0_keepBest_43 : decode cX0_keepBest 43 = .ok (.istore 6, 2) := by decide +kernel
theorem dX0_keepBest_45 : decode cX0_keepBest 45 = .ok (.iload 6, 2) := by decide +kernel
theorem dX0_keepBest_47 : decode cX0_keepBest 47 = .ok (.iload_n 2, 1) := by decide +kernel
theorem dX0_keepBest_48 : decode cX0_keepBest 48 = .ok (.if_icmp .ge 16, 3) := by decide +kernel
theorem dX0_keepBest_51 : decode cX0_keepBest 51 = .ok (.aload_n 1, 1) := by decide +kernel
theorem dX0_keepBest_52 : decode cX0_keepBest 52 = .ok (.iload 6, 2) := by decide +kernel
theorem dX0_keepBest_54 : decode cX0_keepBest 54 = .ok (.aload_n 1, 1) := by decide +kernel
theorem dX0_keepBest_55 : decode cX0_keepBest 55 = .ok (.iload 6, 2) := by decide +kernel
theorem dX0_keepBest_57 : decode cX0_keepBest 57 = .ok (.iaload, 1) := by decide +kernel
theorem dX0_keepBest_58 : decode cX0_keepBest 58 = .ok (.iload 5, 2) := by decide +kernel
theorem dX0_keepBest_60 : decode cX0_keepBest 60 = .ok (.invokestatic 133, 3) := by decide +kernel
theorem dX0_keepBest_63 : decode cX0_keepBest 63 = .ok (.iastore, 1) := by decide +kernel
theorem dX0_keepBest_64 : decode cX0_keepBest 64 = .ok (.iload_n 2, 1) := by decide +kernel
theorem dX0_keepBest_65 : decode cX0_keepBest 65 = .ok (.ireturn, 1) := by decide +kernel
theorem c_X0_keepBest {d : List Nat} {T : vT} {M : vM} {E : xE} {s : xS} {b fl w : Nat} {L : Nat → xS} {W : Nat → Nat} (hA : awT T) (hE : xEok E) (hb : b = 107 ∨ b = 108) (hI : gkI E M b fl L W) (hs : xSt E s) (hw : w ≤ 400) : vCon m_X0_keepBest d d [vR 100, vR b, vI fl, vI (enC s : Nat), vI w] T M (vPi fun r T1 M1 => T = T1 ∧ mSame [106, b] M M1 ∧ ∃ (fl' : Nat) (L' : Nat → xS) (W' : Nat → Nat), r = fl' ∧ gkI E M1 b fl' L' W' ∧ gkP fl L W fl' L' W' s w) := by
  have hkb : vKK b = (1, 32768) := by rcases hb with z | z <;> subst z <;> rfl
  have hp := enC_lt (hs.ok hE)
  have hle := hI.le hE
  have hI2 := hI
  obtain ⟨g1, g2, g3⟩ := hI2
  refine vCon.of (by decide) rfl rfl (Nat.le_of_ble_eq_true rfl) ?_
  cases hK : awK M (enC s) with
  | none =>
    have hnew : ∀ i, i < fl → L i ≠ s := fun i hi z => by have := (g2 i hi).2.2.2; rw [z, hK] at this; cases this
    have hroom : fl < 32768 := by
      have := inj_le (N := 32768) (m := fl + 1) (f := fun i => enC (nSet L fl s i)) (fun i hi => by
        by_cases e : i = fl
        · rw [e, nSet_s]; exact hp
        · rw [nSet_n e]; exact enC_lt ((g2 i (by omega)).1.ok hE)) (fun i j hi hj he => by
        by_cases e : i = fl
        · by_cases e2 : j = fl
          · omega
          · rw [e, nSet_s, nSet_n e2] at he; exact absurd (enC_inj (hs.ok hE) ((g2 j (by omega)).1.ok hE) he).symm (hnew j (by omega))
        · by_cases e2 : j = fl
          · rw [e2, nSet_s, nSet_n e] at he; exact absurd (enC_inj ((g2 i (by omega)).1.ok hE) (hs.ok hE) he) (hnew i (by omega))
          · rw [nSet_n e, nSet_n e2] at he
            have e3 := enC_inj ((g2 i (by omega)).1.ok hE) ((g2 j (by omega)).1.ok hE) he
            have a := (g2 i (by omega)).2.2.2
            rw [e3, (g2 j (by omega)).2.2.2] at a
            exact (Option.some.inj a).symm)
      omega
    refine vV.iload dX0_keepBest_0 rfl ?_
    refine vV.ldc (v := 32768) dX0_keepBest_2 kc_X0_67 (by decide) (by decide) ?_
    refine vV.imul dX0_keepBest_4 (⟨by omega, by omega⟩) ?_
    refine vV.iload_n dX0_keepBest_5 rfl ?_
    refine vV.iadd dX0_keepBest_6 (⟨by omega, by omega⟩) ?_
    refine vV.istore (L' := [_, _, _, _, _, _, _]) dX0_keepBest_7 (by decide) rfl ?_
    refine vV.aload_n dX0_keepBest_9 rfl ?_
    refine vV.iload_n dX0_keepBest_10 rfl ?_
    refine vV.cVi dX0_keepBest_11 ml_X0_86 cw_X0_isMarked iw_X0_isMarked (by first | rfl | assumption) rfl (by unfold vRoom; decide) (c_X0_isMarked hA g1 hp) rfl rfl (Nat.le_of_ble_eq_true rfl) ?_
    rintro x11 _ _ hx11 ⟨hy11, rfl, rfl⟩
    rw [hK] at hy11
    refine vV.if_ne (tgt := 38) dX0_keepBest_14 (by decide) (fun h14 => ?_) (fun h14 => ?_)
    · skip
      exact absurd hy11 h14
    · skip
      refine vV.iload_n dX0_keepBest_17 rfl ?_
      refine vV.aload_n dX0_keepBest_18 rfl ?_
      refine vV.alen (v := 32768) dX0_keepBest_19 (by first | rfl | assumption) rfl (by decide) ?_
      refine vV.icmp_ge (tgt := 38) dX0_keepBest_20 (by decide) (fun h20 => ?_) (fun h20 => ?_)
      · skip
        omega
      · skip
        refine vV.aload_n dX0_keepBest_23 rfl ?_
        refine vV.iload_n dX0_keepBest_24 rfl ?_
        refine vV.iload_n dX0_keepBest_25 rfl ?_
        refine vV.cVv dX0_keepBest_26 ml_X0_93 cw_X0_mark iw_X0_mark (by first | rfl | assumption) rfl (by unfold vRoom; decide) (c_X0_mark hA g1 hp (by omega)) rfl rfl (Nat.le_of_ble_eq_true rfl) ?_
        rintro _ _ ⟨rfl, rfl⟩
        refine vV.aload_n dX0_keepBest_29 rfl ?_
        refine vV.iload_n dX0_keepBest_30 rfl ?_
        refine vV.iload dX0_keepBest_31 rfl ?_
        refine vV.iast dX0_keepBest_33 (by first | rfl | assumption) (by omega) (by omega) ?_
        refine vV.iload_n dX0_keepBest_34 rfl ?_
        refine vV.iconst dX0_keepBest_35 (by decide) ?_
        refine vV.iadd dX0_keepBest_36 (⟨by omega, by omega⟩) ?_
        refine vV.ri dX0_keepBest_37 rfl ?_
        have hK2 : ∀ q, awK (vUpd (vUpd M 106 (enC s : Nat) (M 100 5 * 131072 + (fl : Int))) b fl ((w : Int) * 32768 + (enC s : Nat))) q = if q = enC s then some fl else awK M q := fun q => by rw [awK_b hb, awK_mark (by omega)]; rfl
        refine ⟨rfl, fun k hk => ?_, fl + 1, nSet L fl s, nSet W fl w, rfl, ⟨awM_b hb (awM_mark g1 (by omega)), fun i hi => ?_, fun s2 i hs2 hi2 => ?_⟩, by omega, fun i hi => ?_, ⟨fl, by omega, nSet_s, by rw [nSet_s]; exact Nat.le_refl _⟩, fun i hi => ?_⟩
        · simp at hk; rw [vUpd_row hk.2, vUpd_row hk.1]
        · by_cases e : i = fl
          · subst e; rw [nSet_s, nSet_s, vUpd_s, hK2, if_pos rfl]; exact ⟨hs, by omega, hw, rfl⟩
          · rw [nSet_n e, nSet_n e, vUpd_ni (by omega), vUpd_nk (by omega), hK2, if_neg (fun z => hnew i (by omega) (enC_inj ((g2 i (by omega)).1.ok hE) (hs.ok hE) z))]
            exact g2 i (by omega)
        · rw [hK2] at hi2
          by_cases e : enC s2 = enC s
          · rw [if_pos e] at hi2; cases hi2; exact ⟨by omega, by rw [nSet_s]; exact (enC_inj (hs2.ok hE) (hs.ok hE) e).symm⟩
          · rw [if_neg e] at hi2
            obtain ⟨a, c⟩ := g3 s2 i hs2 hi2
            exact ⟨by omega, by rw [nSet_n (by omega)]; exact c⟩
        · rw [nSet_n (by omega), nSet_n (by omega)]; exact ⟨rfl, Nat.le_refl _⟩
        · by_cases e : i = fl
          · rw [e, nSet_s, nSet_s]; exact Or.inr ⟨rfl, rfl⟩
          · rw [nSet_n e]; exact Or.inl ⟨by omega, rfl⟩
  | some i =>
    obtain ⟨i1, i2⟩ := g3 s i hs hK
    obtain ⟨j1, j2, j3, j4⟩ := g2 i i1
    rw [i2] at j2
    refine vV.iload dX0_keepBest_0 rfl ?_
    refine vV.ldc (v := 32768) dX0_keepBest_2 kc_X0_67 (by decide) (by decide) ?_
    refine vV.imul dX0_keepBest_4 (⟨by omega, by omega⟩) ?_
    refine vV.iload_n dX0_keepBest_5 rfl ?_
    refine vV.iadd dX0_keepBest_6 (⟨by omega, by omega⟩) ?_
    refine vV.istore (L' := [_, _, _, _, _, _, _]) dX0_keepBest_7 (by decide) rfl ?_
    refine vV.aload_n dX0_keepBest_9 rfl ?_
    refine vV.iload_n dX0_keepBest_10 rfl ?_
    refine vV.cVi dX0_keepBest_11 ml_X0_86 cw_X0_isMarked iw_X0_isMarked (by first | rfl | assumption) rfl (by unfold vRoom; decide) (c_X0_isMarked hA g1 hp) rfl rfl (Nat.le_of_ble_eq_true rfl) ?_
    rintro x11 _ _ hx11 ⟨hy11, rfl, rfl⟩
    rw [hK] at hy11
    refine vV.if_ne (tgt := 38) dX0_keepBest_14 (by decide) (fun h14 => ?_) (fun h14 => ?_)
    · skip
      refine vV.aload_n dX0_keepBest_38 rfl ?_
      refine vV.iload_n dX0_keepBest_39 rfl ?_
      refine vV.cVi dX0_keepBest_40 ml_X0_90 cw_X0_valueOf iw_X0_valueOf (by first | rfl | assumption) rfl (by unfold vRoom; decide) (c_X0_valueOf hA g1 hp hK) rfl rfl (Nat.le_of_ble_eq_true rfl) ?_
      rintro x40 _ _ hx40 ⟨rfl, rfl, rfl⟩
      rw [Nat.mod_eq_of_lt (show i < 65536 by omega)]
      refine vV.istore (L' := [_, _, _, _, _, _, _]) dX0_keepBest_43 (by decide) rfl ?_
      refine vV.iload dX0_keepBest_45 rfl ?_
      refine vV.iload_n dX0_keepBest_47 rfl ?_
      refine vV.icmp_ge (tgt := 64) dX0_keepBest_48 (by decide) (fun h48 => ?_) (fun h48 => ?_)
      · skip
        omega
      · skip
        refine vV.aload_n dX0_keepBest_51 rfl ?_
        refine vV.iload dX0_keepBest_52 rfl ?_
        refine vV.aload_n dX0_keepBest_54 rfl ?_
        refine vV.iload dX0_keepBest_55 rfl ?_
        refine vV.iald dX0_keepBest_57 (by first | rfl | assumption) (by omega) (by omega) ?_
        rw [j2]
        refine vV.iload dX0_keepBest_58 rfl ?_
        refine vV.mmax dX0_keepBest_60 ml_X0_133 mm_max (by decide) (Nat.le_of_ble_eq_true rfl) ?_
        refine vV.iast dX0_keepBest_63 (by first | rfl | assumption) (by omega) (by omega) ?_
        refine vV.iload_n dX0_keepBest_64 rfl ?_
        refine vV.ri dX0_keepBest_65 rfl ?_
        obtain ⟨W2, hW2⟩ : ∃ W2, W2 = max (W i) w := ⟨_, rfl⟩
        have hmx : max (((W i * 32768 + enC s : Nat)) : Int) ((w : Int) * 32768 + (enC s : Nat)) = ((W2 * 32768 + enC s : Nat) : Int) := by omega
        rw [hmx]
        have hK2 : ∀ q y, awK (vUpd M b i y) q = awK M q := fun q y => awK_b hb q
        refine ⟨rfl, fun k hk => ?_, fl, L, nSet W i W2, rfl, ⟨awM_b hb g1, fun j hj => ?_, fun s2 j hs2 hj2 => ?_⟩, by omega, fun j hj => ⟨rfl, ?_⟩, ⟨i, i1, i2, by rw [nSet_s]; omega⟩, fun j hj => ?_⟩
        · simp at hk; rw [vUpd_row hk.2]
        · by_cases e : j = i
          · subst e; rw [nSet_s, vUpd_s, hK2, i2]; exact ⟨hs, rfl, by omega, hK⟩
          · rw [nSet_n e, vUpd_ni (by omega), hK2]; exact g2 j hj
        · rw [hK2] at hj2; exact g3 s2 j hs2 hj2
        · by_cases e : j = i
          · subst e; rw [nSet_s]; omega
          · rw [nSet_n e]; exact Nat.le_refl _
        · by_cases e : j = i
          · subst e; rw [nSet_s]
            rcases (show W2 = W j ∨ W2 = w by omega) with z | z
            · exact Or.inl ⟨hj, z⟩
            · exact Or.inr ⟨i2, z⟩
          · rw [nSet_n e]; exact Or.inl ⟨hj, rfl⟩
    · skip
      exact absurd h14 (by rw [hy11]; show ¬ (1 : Int) = 0; decide)
