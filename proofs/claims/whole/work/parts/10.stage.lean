/-! ===== own: Stage: the pure words ===== -/
/-- the Stage of the name a: its kinds and its rows -/
def sgK (a : Nat) : Prop := vKK a = (0, 3) ∧ vKK (a + 1) = (1, 6) ∧ vKK (a + 2) = (1, 6) ∧ vKK (a + 3) = (1, 6) ∧ vKK (a + 4) = (1, 6) ∧ vKK (a + 5) = (1, 5)
def sgT (T : vT) (a : Nat) : Prop := T a 1 = some (a + 1) ∧ T a 2 = some (a + 2) ∧ T a 3 = some (a + 3) ∧ T a 4 = some (a + 4) ∧ T a 5 = some (a + 5)
/-- the first place below n of which P holds -/
def pFind (P : Nat → Bool) : Nat → Option Nat
  | 0 => none
  | n + 1 => match pFind P n with
    | some p => some p
    | none => if P n then some n else none
theorem pFind_some {P : Nat → Bool} : ∀ {n p : Nat}, pFind P n = some p → p < n ∧ P p = true ∧ ∀ j, j < p → P j = false
  | 0, p, h => by cases h
  | n + 1, p, h => by
    unfold pFind at h
    cases hf : pFind P n with
    | some q => rw [hf] at h; cases h; have := pFind_some hf; exact ⟨by omega, this.2⟩
    | none =>
      rw [hf] at h
      simp only at h
      split at h
      · cases h; rename_i hp; exact ⟨by omega, hp, fun j hj => pFind_none hf j hj⟩
      · cases h
where pFind_none {P : Nat → Bool} : ∀ {n : Nat}, pFind P n = none → ∀ j, j < n → P j = false
  | 0, _, j, hj => by omega
  | n + 1, h, j, hj => by
    unfold pFind at h
    cases hf : pFind P n with
    | some q => rw [hf] at h; cases h
    | none =>
      rw [hf] at h
      simp only at h
      split at h
      · cases h
      · rename_i hp
        by_cases hjn : j = n
        · subst hjn; simpa using hp
        · exact pFind_none hf j (by omega)
theorem pFind_no {P : Nat → Bool} {n : Nat} (h : ∀ j, j < n → P j = false) : pFind P n = none := by
  induction n with
  | zero => rfl
  | succ n ih => unfold pFind; rw [ih (fun j hj => h j (by omega))]; simp [h n (by omega)]
theorem pFind_yes {P : Nat → Bool} {n p : Nat} (hp : p < n) (h : P p = true) (hj : ∀ j, j < p → P j = false) : pFind P n = some p := by
  induction n with
  | zero => omega
  | succ n ih =>
    unfold pFind
    by_cases hn : p = n
    · subst hn; rw [pFind_no hj]; simp [h]
    · rw [ih (by omega)]
def pOr (d : Int) (r : Option Nat) : Int := match r with
  | some p => p
  | none => d
theorem pOr_s (d : Int) (p : Nat) : pOr d (some p) = p := rfl
theorem pOr_n (d : Int) : pOr d none = d := rfl
/-- the plates that stand, as bits -/
def pBits (tu : Int → Int) : Nat → Int
  | 0 => 0
  | n + 1 => pBits tu n + if 0 < tu n then 2 ^ n else 0
def pSum (tu : Int → Int) : Nat → Int
  | 0 => 0
  | n + 1 => pSum tu n + tu n
def pPack (tu : Int → Int) : Nat → Int
  | 0 => 0
  | n + 1 => pPack tu n + tu n * 16 ^ n
def pDown (n : Nat) (fa tu : Int → Int) : Int → Int := fun j => if 0 ≤ j ∧ j < n then max 0 (tu j - fa j) else tu j
theorem dX3_has_0 : decode cX3_has 0 = .ok (.iload_n 1, 1) := by decide +kernel
theorem dX3_has_1 : decode cX3_has 1 = .ok (.ifCond .lt 15, 3) := by decide +kernel
theorem dX3_has_4 : decode cX3_has 4 = .ok (.iload_n 1, 1) := by decide +kernel
theorem dX3_has_5 : decode cX3_has 5 = .ok (.aload_n 0, 1) := by decide +kernel
theorem dX3_has_6 : decode cX3_has 6 = .ok (.getfield 35, 3) := by decide +kernel
theorem dX3_has_9 : decode cX3_has 9 = .ok (.if_icmp .ge 7, 3) := by decide +kernel
theorem dX3_has_12 : decode cX3_has 12 = .ok (.iconst 1, 1) := by decide +kernel
theorem dX3_has_13 : decode cX3_has 13 = .ok (.goto 4, 3) := by decide +kernel
theorem dX3_has_16 : decode cX3_has 16 = .ok (.iconst 0, 1) := by decide +kernel
theorem dX3_has_17 : decode cX3_has 17 = .ok (.ireturn, 1) := by decide +kernel
/-- Stage.has -/
theorem c_X3_has {d : List Nat} {T : vT} {M : vM} {a : Nat} {p : Int} (hK : sgK a) : vCon m_X3_has d d [vR a, vI p] T M (vPi fun x T' M' => x = (if 0 ≤ p ∧ p < M a 0 then 1 else 0) ∧ T = T' ∧ M = M') := by
  obtain ⟨k0, k1, k2, k3, k4, k5⟩ := hK
  refine vCon.of (by decide) rfl rfl (Nat.le_of_ble_eq_true rfl) ?_
  refine vV.iload_n dX3_has_0 rfl ?_
  refine vV.if_lt (tgt := 16) dX3_has_1 (by decide) (fun h1 => ?_) (fun h1 => ?_)
  · skip
    refine vV.iconst dX3_has_16 (by decide) ?_
    refine vV.rz dX3_has_17 rfl (by first | exact Or.inl rfl | exact Or.inr rfl | assumption) ?_
    refine ⟨?_, rfl, rfl⟩
    first | rw [if_pos (by omega)] | rw [if_neg (by omega)]
  · skip
    refine vV.iload_n dX3_has_4 rfl ?_
    refine vV.aload_n dX3_has_5 rfl ?_
    refine vV.geti (z := 0) dX3_has_6 fl_X3_35 (by first | rfl | assumption) rfl rfl ?_
    refine vV.icmp_ge (tgt := 16) dX3_has_9 (by decide) (fun h9 => ?_) (fun h9 => ?_)
    · skip
      refine vV.iconst dX3_has_16 (by decide) ?_
      refine vV.rz dX3_has_17 rfl (by first | exact Or.inl rfl | exact Or.inr rfl | assumption) ?_
      refine ⟨?_, rfl, rfl⟩
      first | rw [if_pos (by omega)] | rw [if_neg (by omega)]
    · skip
      refine vV.iconst dX3_has_12 (by decide) ?_
      refine vV.goto (tgt := 17) dX3_has_13 (by decide) ?_
      refine vV.rz dX3_has_17 rfl (by first | exact Or.inl rfl | exact Or.inr rfl | assumption) ?_
      refine ⟨?_, rfl, rfl⟩
      first | rw [if_pos (by omega)] | rw [if_neg (by omega)]
theorem dX3_plateOn_0 : decode cX3_plateOn 0 = .ok (.iconst 0, 1) := by decide +kernel
theorem dX3_plateOn_1 : decode cX3_plateOn 1 = .ok (.istore_n 2, 1) := by decide +kernel
theorem dX3_plateOn_2 : decode cX3_plateOn 2 = .ok (.iload_n 2, 1) := by decide +kernel
theorem dX3_plateOn_3 : decode cX3_plateOn 3 = .ok (.aload_n 0, 1) := by decide +kernel
theorem dX3_plateOn_4 : decode cX3_plateOn 4 = .ok (.getfield 35, 3) := by decide +kernel
theorem dX3_plateOn_7 : decode cX3_plateOn 7 = .ok (.if_icmp .ge 21, 3) := by decide +kernel
theorem dX3_plateOn_10 : decode cX3_plateOn 10 = .ok (.aload_n 0, 1) := by decide +kernel
theorem dX3_plateOn_11 : decode cX3_plateOn 11 = .ok (.getfield 9, 3) := by decide +kernel
theorem dX3_plateOn_14 : decode cX3_plateOn 14 = .ok (.iload_n 2, 1) := by decide +kernel
theorem dX3_plateOn_15 : decode cX3_plateOn 15 = .ok (.iaload, 1) := by decide +kernel
theorem dX3_plateOn_16 : decode cX3_plateOn 16 = .ok (.iload_n 1, 1) := by decide +kernel
theorem dX3_plateOn_17 : decode cX3_plateOn 17 = .ok (.if_icmp .ne 5, 3) := by decide +kernel
theorem dX3_plateOn_20 : decode cX3_plateOn 20 = .ok (.iload_n 2, 1) := by decide +kernel
theorem dX3_plateOn_21 : decode cX3_plateOn 21 = .ok (.ireturn, 1) := by decide +kernel
theorem dX3_plateOn_22 : decode cX3_plateOn 22 = .ok (.iinc 2 1, 3) := by decide +kernel
theorem dX3_plateOn_25 : decode cX3_plateOn 25 = .ok (.goto (-23), 3) := by decide +kernel
theorem dX3_plateOn_28 : decode cX3_plateOn 28 = .ok (.iconst (-1), 1) := by decide +kernel
theorem dX3_plateOn_29 : decode cX3_plateOn 29 = .ok (.ireturn, 1) := by decide +kernel
theorem l_X3_plateOn {d : List Nat} {T : vT} {M : vM} {a n : Nat} {x : Int} (hK : sgK a) (hT : sgT T a) (hc : M a 0 = n) (hn : n ≤ 6) : ∀ p, p ≤ n → (∀ j : Nat, j < p → M (a + 1) j ≠ x) →
    vV m_X3_plateOn d d (vPi fun r T' M' => r = pOr (-1) (pFind (fun j => decide (M (a + 1) j = x)) n) ∧ T = T' ∧ M = M') 2 [some (vR a), some (vI x), some (vI p)] [] d T M := by
  obtain ⟨k0, k1, k2, k3, k4, k5⟩ := hK
  obtain ⟨t1, t2, t3, t4, t5⟩ := hT
  refine vUp ?_
  intro p h2 ih hp
  refine vV.iload_n dX3_plateOn_2 rfl ?_
  refine vV.aload_n dX3_plateOn_3 rfl ?_
  refine vV.geti (z := 0) dX3_plateOn_4 fl_X3_35 (by first | rfl | assumption) rfl rfl ?_
  refine vV.icmp_ge (tgt := 28) dX3_plateOn_7 (by decide) (fun h7 => ?_) (fun h7 => ?_)
  · skip
    refine vV.iconst dX3_plateOn_28 (by decide) ?_
    refine vV.ri dX3_plateOn_29 rfl ?_
    rw [pFind_no (fun j hj => by simpa using hp j (by omega))]; exact ⟨rfl, rfl, rfl⟩
  · skip
    refine vV.aload_n dX3_plateOn_10 rfl ?_
    refine vV.getr dX3_plateOn_11 fl_X3_9 (by first | rfl | assumption) rfl (by first | assumption | exact hB _ _ _ rfl) ?_
    refine vV.iload_n dX3_plateOn_14 rfl ?_
    refine vV.iald dX3_plateOn_15 (by first | rfl | assumption) (by omega) (by omega) ?_
    refine vV.iload_n dX3_plateOn_16 rfl ?_
    refine vV.icmp_ne (tgt := 22) dX3_plateOn_17 (by decide) (fun h17 => ?_) (fun h17 => ?_)
    · skip
      refine vV.iinc (L' := [_, _, _]) dX3_plateOn_22 (by decide) rfl (⟨by omega, by omega⟩) rfl ?_
      refine vV.goto (tgt := 2) dX3_plateOn_25 (by decide) ?_
      exact ih (by omega) (fun j hj => (Nat.lt_succ_iff_lt_or_eq.mp hj).elim (hp j) (fun h => by subst h; exact h17))
    · skip
      refine vV.iload_n dX3_plateOn_20 rfl ?_
      refine vV.ri dX3_plateOn_21 rfl ?_
      rw [pFind_yes (p := p) (by omega) (by simpa using h17) (fun j hj => by simpa using hp j hj)]; exact ⟨rfl, rfl, rfl⟩
/-- Stage.plateOn: the first plate at a place, or -1 -/
theorem c_X3_plateOn {d : List Nat} {T : vT} {M : vM} {a n : Nat} {x : Int} (hK : sgK a) (hT : sgT T a) (hc : M a 0 = n) (hn : n ≤ 6) : vCon m_X3_plateOn d d [vR a, vI x] T M (vPi fun r T' M' => r = pOr (-1) (pFind (fun j => decide (M (a + 1) j = x)) n) ∧ T = T' ∧ M = M') := by
  refine vCon.of (by decide) rfl rfl (Nat.le_of_ble_eq_true rfl) ?_
  refine vV.iconst dX3_plateOn_0 (by decide) ?_
  refine vV.istore_n (L' := [_, _, _]) dX3_plateOn_1 (by decide) rfl ?_
  exact l_X3_plateOn hK hT hc hn 0 (by omega) (fun j hj => by omega)
theorem pBits_s (tu : Int → Int) (n : Nat) : pBits tu (n + 1) = pBits tu n + if 0 < tu n then 2 ^ n else 0 := rfl
theorem pBits_rg (tu : Int → Int) : ∀ n : Nat, 0 ≤ pBits tu n ∧ pBits tu n < 2 ^ n
  | 0 => by simp [pBits]
  | n + 1 => by
    have := pBits_rg tu n
    have e : (2 : Int) ^ (n + 1) = 2 * 2 ^ n := by rw [Int.pow_succ, Int.mul_comm]
    have hp : (0 : Int) < 2 ^ n := Int.pow_pos (by decide)
    unfold pBits
    rw [e]
    split <;> omega
theorem pBits_or (tu : Int → Int) {n : Nat} (hn : n < 30) : vOr (pBits tu n) (vShl 1 n) = pBits tu n + 2 ^ n := by
  obtain ⟨h0, h1⟩ := pBits_rg tu n
  obtain ⟨b, hb⟩ : ∃ b : Nat, pBits tu n = b := ⟨(pBits tu n).toNat, by omega⟩
  have hp : (2 : Nat) ^ n ≤ 2 ^ 29 := Nat.pow_le_pow_right (by decide) (by omega)
  have hc : ((2 ^ n : Nat) : Int) = (2 : Int) ^ n := by simp
  have hlt : b < 2 ^ n := by rw [hb] at h1; rw [← hc] at h1; omega
  have e1 : vShl 1 n = ((2 ^ n * 1 : Nat) : Int) := by rw [show (1 : Int) = ((1 : Nat) : Int) from rfl, vShl_nat (by omega) (by omega), Nat.one_mul, Nat.mul_one]
  rw [hb, e1, vOr_sum 1 hlt (by omega), Nat.mul_one, ← hc]
  omega
theorem dX3_standing_0 : decode cX3_standing 0 = .ok (.iconst 0, 1) := by decide +kernel
theorem dX3_standing_1 : decode cX3_standing 1 = .ok (.istore_n 1, 1) := by decide +kernel
theorem dX3_standing_2 : decode cX3_standing 2 = .ok (.iconst 0, 1) := by decide +kernel
theorem dX3_standing_3 : decode cX3_standing 3 = .ok (.istore_n 2, 1) := by decide +kernel
theorem dX3_standing_4 : decode cX3_standing 4 = .ok (.iload_n 2, 1) := by decide +kernel
theorem dX3_standing_5 : decode cX3_standing 5 = .ok (.aload_n 0, 1) := by decide +kernel
theorem dX3_standing_6 : decode cX3_standing 6 = .ok (.getfield 35, 3) := by decide +kernel
theorem dX3_standing_9 : decode cX3_standing 9 = .ok (.if_icmp .ge 24, 3) := by decide +kernel
theorem dX3_standing_12 : decode cX3_standing 12 = .ok (.aload_n 0, 1) := by decide +kernel
theorem dX3_standing_13 : decode cX3_standing 13 = .ok (.getfield 21, 3) := by decide +kernel
theorem dX3_standing_16 : decode cX3_standing 16 = .ok (.iload_n 2, 1) := by decide +kernel
theorem dX3_standing_17 : decode cX3_standing 17 = .ok (.iaload, 1) := by decide +kernel
theorem dX3_standing_18 : decode cX3_standing 18 = .ok (.ifCond .le 9, 3) := by decide +kernel
theorem dX3_standing_21 : decode cX3_standing 21 = .ok (.iload_n 1, 1) := by decide +kernel
theorem dX3_standing_22 : decode cX3_standing 22 = .ok (.iconst 1, 1) := by decide +kernel
theorem dX3_standing_23 : decode cX3_standing 23 = .ok (.iload_n 2, 1) := by decide +kernel
theorem dX3_standing_24 : decode cX3_standing 24 = .ok (.ishl, 1) := by decide +kernel
theorem dX3_standing_25 : decode cX3_standing 25 = .ok (.ior, 1) := by decide +kernel
theorem dX3_standing_26 : decode cX3_standing 26 = .ok (.istore_n 1, 1) := by decide +kernel
theorem dX3_standing_27 : decode cX3_standing 27 = .ok (.iinc 2 1, 3) := by decide +kernel
theorem dX3_standing_30 : decode cX3_standing 30 = .ok (.goto (-26), 3) := by decide +kernel
theorem dX3_standing_33 : decode cX3_standing 33 = .ok (.iload_n 1, 1) := by decide +kernel
theorem dX3_standing_34 : decode cX3_standing 34 = .ok (.ireturn, 1) := by decide +kernel
theorem l_X3_standing {d : List Nat} {T : vT} {M : vM} {a n : Nat} (hK : sgK a) (hT : sgT T a) (hc : M a 0 = n) (hn : n ≤ 6) : ∀ p, p ≤ n →
    vV m_X3_standing d d (vPi fun r T' M' => r = pBits (M (a + 4)) n ∧ T = T' ∧ M = M') 4 [some (vR a), some (vI (pBits (M (a + 4)) p)), some (vI p)] [] d T M := by
  obtain ⟨k0, k1, k2, k3, k4, k5⟩ := hK
  obtain ⟨t1, t2, t3, t4, t5⟩ := hT
  refine vUp ?_
  intro p h2 ih
  refine vV.iload_n dX3_standing_4 rfl ?_
  refine vV.aload_n dX3_standing_5 rfl ?_
  refine vV.geti (z := 0) dX3_standing_6 fl_X3_35 (by first | rfl | assumption) rfl rfl ?_
  refine vV.icmp_ge (tgt := 33) dX3_standing_9 (by decide) (fun h9 => ?_) (fun h9 => ?_)
  · skip
    refine vV.iload_n dX3_standing_33 rfl ?_
    refine vV.ri dX3_standing_34 rfl ?_
    rw [show p = n by omega]; exact ⟨rfl, rfl, rfl⟩
  · skip
    refine vV.aload_n dX3_standing_12 rfl ?_
    refine vV.getr dX3_standing_13 fl_X3_21 (by first | rfl | assumption) rfl (by first | assumption | exact hB _ _ _ rfl) ?_
    refine vV.iload_n dX3_standing_16 rfl ?_
    refine vV.iald dX3_standing_17 (by first | rfl | assumption) (by omega) (by omega) ?_
    refine vV.if_le (tgt := 27) dX3_standing_18 (by decide) (fun h18 => ?_) (fun h18 => ?_)
    · skip
      have e : pBits (M (a + 4)) (p + 1) = pBits (M (a + 4)) p := by rw [pBits_s, if_neg (by omega), Int.add_zero]
      rw [e] at ih
      refine vV.iinc (L' := [_, _, _]) dX3_standing_27 (by decide) rfl (⟨by omega, by omega⟩) rfl ?_
      refine vV.goto (tgt := 4) dX3_standing_30 (by decide) ?_
      exact ih (by omega)
    · skip
      have e : pBits (M (a + 4)) (p + 1) = vOr (pBits (M (a + 4)) p) (vShl 1 p) := by rw [pBits_or _ (by omega), pBits_s, if_pos h18]
      rw [e] at ih
      refine vV.iload_n dX3_standing_21 rfl ?_
      refine vV.iconst dX3_standing_22 (by decide) ?_
      refine vV.iload_n dX3_standing_23 rfl ?_
      refine vV.ishl dX3_standing_24 ?_
      refine vV.ior dX3_standing_25 ?_
      refine vV.istore_n (L' := [_, _, _]) dX3_standing_26 (by decide) rfl ?_
      refine vV.iinc (L' := [_, _, _]) dX3_standing_27 (by decide) rfl (⟨by omega, by omega⟩) rfl ?_
      refine vV.goto (tgt := 4) dX3_standing_30 (by decide) ?_
      exact ih (by omega)
/-- Stage.standing -/
theorem c_X3_standing {d : List Nat} {T : vT} {M : vM} {a n : Nat} (hK : sgK a) (hT : sgT T a) (hc : M a 0 = n) (hn : n ≤ 6) : vCon m_X3_standing d d [vR a] T M (vPi fun r T' M' => r = pBits (M (a + 4)) n ∧ T = T' ∧ M = M') := by
  refine vCon.of (by decide) rfl rfl (Nat.le_of_ble_eq_true rfl) ?_
  refine vV.iconst dX3_standing_0 (by decide) ?_
  refine vV.istore_n (L' := [_, _, _]) dX3_standing_1 (by decide) rfl ?_
  refine vV.iconst dX3_standing_2 (by decide) ?_
  refine vV.istore_n (L' := [_, _, _]) dX3_standing_3 (by decide) rfl ?_
  exact l_X3_standing hK hT hc hn 0 (by omega)
theorem dX3_sumOfTurns_0 : decode cX3_sumOfTurns 0 = .ok (.iconst 0, 1) := by decide +kernel
theorem dX3_sumOfTurns_1 : decode cX3_sumOfTurns 1 = .ok (.istore_n 1, 1) := by decide +kernel
theorem dX3_sumOfTurns_2 : decode cX3_sumOfTurns 2 = .ok (.iconst 0, 1) := by decide +kernel
theorem dX3_sumOfTurns_3 : decode cX3_sumOfTurns 3 = .ok (.istore_n 2, 1) := by decide +kernel
theorem dX3_sumOfTurns_4 : decode cX3_sumOfTurns 4 = .ok (.iload_n 2, 1) := by decide +kernel
theorem dX3_sumOfTurns_5 : decode cX3_sumOfTurns 5 = .ok (.aload_n 0, 1) := by decide +kernel
theorem dX3_sumOfTurns_6 : decode cX3_sumOfTurns 6 = .ok (.getfield 35, 3) := by decide +kernel
theorem dX3_sumOfTurns_9 : decode cX3_sumOfTurns 9 = .ok (.if_icmp .ge 18, 3) := by decide +kernel
theorem dX3_sumOfTurns_12 : decode cX3_sumOfTurns 12 = .ok (.iload_n 1, 1) := by decide +kernel
theorem dX3_sumOfTurns_13 : decode cX3_sumOfTurns 13 = .ok (.aload_n 0, 1) := by decide +kernel
theorem dX3_sumOfTurns_14 : decode cX3_sumOfTurns 14 = .ok (.getfield 21, 3) := by decide +kernel
theorem dX3_sumOfTurns_17 : decode cX3_sumOfTurns 17 = .ok (.iload_n 2, 1) := by decide +kernel
theorem dX3_sumOfTurns_18 : decode cX3_sumOfTurns 18 = .ok (.iaload, 1) := by decide +kernel
theorem dX3_sumOfTurns_19 : decode cX3_sumOfTurns 19 = .ok (.iadd, 1) := by decide +kernel
theorem dX3_sumOfTurns_20 : decode cX3_sumOfTurns 20 = .ok (.istore_n 1, 1) := by decide +kernel
theorem dX3_sumOfTurns_21 : decode cX3_sumOfTurns 21 = .ok (.iinc 2 1, 3) := by decide +kernel
theorem dX3_sumOfTurns_24 : decode cX3_sumOfTurns 24 = .ok (.goto (-20), 3) := by decide +kernel
theorem dX3_sumOfTurns_27 : decode cX3_sumOfTurns 27 = .ok (.iload_n 1, 1) := by decide +kernel
theorem dX3_sumOfTurns_28 : decode cX3_sumOfTurns 28 = .ok (.ireturn, 1) := by decide +kernel
theorem pSum_rg (tu : Int → Int) (h : ∀ j : Nat, 0 ≤ tu j ∧ tu j ≤ 15) : ∀ n : Nat, 0 ≤ pSum tu n ∧ pSum tu n ≤ 15 * n
  | 0 => by simp [pSum]
  | n + 1 => by have := pSum_rg tu h n; have := h n; unfold pSum; omega
theorem l_X3_sumOfTurns {d : List Nat} {T : vT} {M : vM} {a n : Nat} (hK : sgK a) (hT : sgT T a) (hc : M a 0 = n) (hn : n ≤ 6) (ht : ∀ j : Nat, 0 ≤ M (a + 4) j ∧ M (a + 4) j ≤ 15) : ∀ p, p ≤ n →
    vV m_X3_sumOfTurns d d (vPi fun r T' M' => r = pSum (M (a + 4)) n ∧ T = T' ∧ M = M') 4 [some (vR a), some (vI (pSum (M (a + 4)) p)), some (vI p)] [] d T M := by
  obtain ⟨k0, k1, k2, k3, k4, k5⟩ := hK
  obtain ⟨t1, t2, t3, t4, t5⟩ := hT
  refine vUp ?_
  intro p h2 ih
  have h3 := pSum_rg _ ht p
  have h4 := ht p
  refine vV.iload_n dX3_sumOfTurns_4 rfl ?_
  refine vV.aload_n dX3_sumOfTurns_5 rfl ?_
  refine vV.geti (z := 0) dX3_sumOfTurns_6 fl_X3_35 (by first | rfl | assumption) rfl rfl ?_
  refine vV.icmp_ge (tgt := 27) dX3_sumOfTurns_9 (by decide) (fun h9 => ?_) (fun h9 => ?_)
  · skip
    refine vV.iload_n dX3_sumOfTurns_27 rfl ?_
    refine vV.ri dX3_sumOfTurns_28 rfl ?_
    rw [show p = n by omega]; exact ⟨rfl, rfl, rfl⟩
  · skip
    refine vV.iload_n dX3_sumOfTurns_12 rfl ?_
    refine vV.aload_n dX3_sumOfTurns_13 rfl ?_
    refine vV.getr dX3_sumOfTurns_14 fl_X3_21 (by first | rfl | assumption) rfl (by first | assumption | exact hB _ _ _ rfl) ?_
    refine vV.iload_n dX3_sumOfTurns_17 rfl ?_
    refine vV.iald dX3_sumOfTurns_18 (by first | rfl | assumption) (by omega) (by omega) ?_
    refine vV.iadd dX3_sumOfTurns_19 (⟨by omega, by omega⟩) ?_
    refine vV.istore_n (L' := [_, _, _]) dX3_sumOfTurns_20 (by decide) rfl ?_
    refine vV.iinc (L' := [_, _, _]) dX3_sumOfTurns_21 (by decide) rfl (⟨by omega, by omega⟩) rfl ?_
    refine vV.goto (tgt := 4) dX3_sumOfTurns_24 (by decide) ?_
    exact ih (by omega)
/-- Stage.sumOfTurns -/
theorem c_X3_sumOfTurns {d : List Nat} {T : vT} {M : vM} {a n : Nat} (hK : sgK a) (hT : sgT T a) (hc : M a 0 = n) (hn : n ≤ 6) (ht : ∀ j : Nat, 0 ≤ M (a + 4) j ∧ M (a + 4) j ≤ 15) : vCon m_X3_sumOfTurns d d [vR a] T M (vPi fun r T' M' => r = pSum (M (a + 4)) n ∧ T = T' ∧ M = M') := by
  refine vCon.of (by decide) rfl rfl (Nat.le_of_ble_eq_true rfl) ?_
  refine vV.iconst dX3_sumOfTurns_0 (by decide) ?_
  refine vV.istore_n (L' := [_, _, _]) dX3_sumOfTurns_1 (by decide) rfl ?_
  refine vV.iconst dX3_sumOfTurns_2 (by decide) ?_
  refine vV.istore_n (L' := [_, _, _]) dX3_sumOfTurns_3 (by decide) rfl ?_
  exact l_X3_sumOfTurns hK hT hc hn ht 0 (by omega)
theorem dX3_runDown_0 : decode cX3_runDown 0 = .ok (.iconst 0, 1) := by decide +kernel
theorem dX3_runDown_1 : decode cX3_runDown 1 = .ok (.istore_n 1, 1) := by decide +kernel
theorem dX3_runDown_2 : decode cX3_runDown 2 = .ok (.iload_n 1, 1) := by decide +kernel
theorem dX3_runDown_3 : decode cX3_runDown 3 = .ok (.aload_n 0, 1) := by decide +kernel
theorem dX3_runDown_4 : decode cX3_runDown 4 = .ok (.getfield 35, 3) := by decide +kernel
theorem dX3_runDown_7 : decode cX3_runDown 7 = .ok (.if_icmp .ge 32, 3) := by decide +kernel
theorem dX3_runDown_10 : decode cX3_runDown 10 = .ok (.aload_n 0, 1) := by decide +kernel
theorem dX3_runDown_11 : decode cX3_runDown 11 = .ok (.getfield 21, 3) := by decide +kernel
theorem dX3_runDown_14 : decode cX3_runDown 14 = .ok (.iload_n 1, 1) := by decide +kernel
theorem dX3_runDown_15 : decode cX3_runDown 15 = .ok (.iconst 0, 1) := by decide +kernel
theorem dX3_runDown_16 : decode cX3_runDown 16 = .ok (.aload_n 0, 1) := by decide +kernel
theorem dX3_runDown_17 : decode cX3_runDown 17 = .ok (.getfield 21, 3) := by decide +kernel
theorem dX3_runDown_20 : decode cX3_runDown 20 = .ok (.iload_n 1, 1) := by decide +kernel
theorem dX3_runDown_21 : decode cX3_runDown 21 = .ok (.iaload, 1) := by decide +kernel
theorem dX3_runDown_22 : decode cX3_runDown 22 = .ok (.aload_n 0, 1) := by decide +kernel
theorem dX3_runDown_23 : decode cX3_runDown 23 = .ok (.getfield 18, 3) := by decide +kernel
theorem dX3_runDown_26 : decode cX3_runDown 26 = .ok (.iload_n 1, 1) := by decide +kernel
theorem dX3_runDown_27 : decode cX3_runDown 27 = .ok (.iaload, 1) := by decide +kernel
theorem dX3_runDown_28 : decode cX3_runDown 28 = .ok (.isub, 1) := by decide +kernel
theorem dX3_runDown_29 : decode cX3_runDown 29 = .ok (.invokestatic 62, 3) := by decide +kernel
theorem dX3_runDown_32 : decode cX3_runDown 32 = .ok (.iastore, 1) := by decide +kernel
theorem dX3_runDown_33 : decode cX3_runDown 33 = .ok (.iinc 1 1, 3) := by decide +kernel
theorem dX3_runDown_36 : decode cX3_runDown 36 = .ok (.goto (-34), 3) := by decide +kernel
theorem dX3_runDown_39 : decode cX3_runDown 39 = .ok (.return_, 1) := by decide +kernel
theorem pDown_s (n : Nat) (fa tu : Int → Int) : fSet (pDown n fa tu) n (max 0 (tu n - fa n)) = pDown (n + 1) fa tu := by
  funext j
  unfold fSet pDown
  by_cases h : j = n
  · subst h; rw [if_pos rfl, if_pos (by omega)]
  · rw [if_neg h]
    by_cases h2 : 0 ≤ j ∧ j < n
    · rw [if_pos h2, if_pos (by omega)]
    · rw [if_neg h2, if_neg (by omega)]
theorem pDown_0 (fa tu : Int → Int) : pDown 0 fa tu = tu := by
  funext j; unfold pDown; rw [if_neg (by omega)]
theorem pDown_ge {n : Nat} {fa tu : Int → Int} {j : Int} (h : n ≤ j) : pDown n fa tu j = tu j := by unfold pDown; rw [if_neg (by omega)]
theorem l_X3_runDown {d : List Nat} {T : vT} {M : vM} {a n : Nat} (hK : sgK a) (hT : sgT T a) (hc : M a 0 = n) (hn : n ≤ 6) (ht : ∀ j : Nat, 0 ≤ M (a + 4) j ∧ M (a + 4) j ≤ 15) (hf : ∀ j : Nat, 0 ≤ M (a + 3) j ∧ M (a + 3) j ≤ 15) : ∀ p, p ≤ n →
    vV m_X3_runDown d d (vPv fun T' M' => T = T' ∧ M' = vRow M (a + 4) (pDown n (M (a + 3)) (M (a + 4)))) 2 [some (vR a), some (vI p)] [] d T (vRow M (a + 4) (pDown p (M (a + 3)) (M (a + 4)))) := by
  obtain ⟨k0, k1, k2, k3, k4, k5⟩ := hK
  obtain ⟨t1, t2, t3, t4, t5⟩ := hT
  refine vUp ?_
  intro p h2 ih
  have e0 : vRow M (a + 4) (pDown p (M (a + 3)) (M (a + 4))) a 0 = n := by rw [vRow_n (by omega)]; exact hc
  have e3 : vRow M (a + 4) (pDown p (M (a + 3)) (M (a + 4))) (a + 3) p = M (a + 3) p := by rw [vRow_n (by omega)]
  have e4 : vRow M (a + 4) (pDown p (M (a + 3)) (M (a + 4))) (a + 4) p = M (a + 4) p := by rw [vRow_s, pDown_ge (by omega)]
  have h3 := ht p
  have h4 := hf p
  refine vV.iload_n dX3_runDown_2 rfl ?_
  refine vV.aload_n dX3_runDown_3 rfl ?_
  refine vV.geti (z := 0) dX3_runDown_4 fl_X3_35 (by first | rfl | assumption) rfl rfl ?_
  refine vV.icmp_ge (tgt := 39) dX3_runDown_7 (by decide) (fun h7 => ?_) (fun h7 => ?_)
  · skip
    refine vV.rv dX3_runDown_39 rfl ?_
    rw [show p = n by omega]; exact ⟨rfl, rfl⟩
  · skip
    refine vV.aload_n dX3_runDown_10 rfl ?_
    refine vV.getr dX3_runDown_11 fl_X3_21 (by first | rfl | assumption) rfl (by first | assumption | exact hB _ _ _ rfl) ?_
    refine vV.iload_n dX3_runDown_14 rfl ?_
    refine vV.iconst dX3_runDown_15 (by decide) ?_
    refine vV.aload_n dX3_runDown_16 rfl ?_
    refine vV.getr dX3_runDown_17 fl_X3_21 (by first | rfl | assumption) rfl (by first | assumption | exact hB _ _ _ rfl) ?_
    refine vV.iload_n dX3_runDown_20 rfl ?_
    refine vV.iald dX3_runDown_21 (by first | rfl | assumption) (by omega) (by omega) ?_
    refine vV.aload_n dX3_runDown_22 rfl ?_
    refine vV.getr dX3_runDown_23 fl_X3_18 (by first | rfl | assumption) rfl (by first | assumption | exact hB _ _ _ rfl) ?_
    refine vV.iload_n dX3_runDown_26 rfl ?_
    refine vV.iald dX3_runDown_27 (by first | rfl | assumption) (by omega) (by omega) ?_
    refine vV.isub dX3_runDown_28 (⟨by omega, by omega⟩) ?_
    refine vV.mmax dX3_runDown_29 ml_X3_62 mm_max (by decide) (Nat.le_of_ble_eq_true rfl) ?_
    refine vV.iast dX3_runDown_32 (by first | rfl | assumption) (by omega) (by omega) ?_
    rw [e3, e4, vUpd_vRow, pDown_s]
    refine vV.iinc (L' := [_, _]) dX3_runDown_33 (by decide) rfl (⟨by omega, by omega⟩) rfl ?_
    refine vV.goto (tgt := 2) dX3_runDown_36 (by decide) ?_
    exact ih (by omega)
/-- Stage.runDown -/
theorem c_X3_runDown {d : List Nat} {T : vT} {M : vM} {a n : Nat} (hK : sgK a) (hT : sgT T a) (hc : M a 0 = n) (hn : n ≤ 6) (ht : ∀ j : Nat, 0 ≤ M (a + 4) j ∧ M (a + 4) j ≤ 15) (hf : ∀ j : Nat, 0 ≤ M (a + 3) j ∧ M (a + 3) j ≤ 15) : vCon m_X3_runDown d d [vR a] T M (vPv fun T' M' => T = T' ∧ M' = vRow M (a + 4) (pDown n (M (a + 3)) (M (a + 4)))) := by
  refine vCon.of (by decide) rfl rfl (Nat.le_of_ble_eq_true rfl) ?_
  have h := l_X3_runDown (d := d) hK hT hc hn ht hf 0 (by omega)
  rw [pDown_0, vRow_id] at h
  refine vV.iconst dX3_runDown_0 (by decide) ?_
  refine vV.istore_n (L' := [_, _]) dX3_runDown_1 (by decide) rfl ?_
  exact h
theorem pPack_s (tu : Int → Int) (n : Nat) : pPack tu (n + 1) = pPack tu n + tu n * 16 ^ n := rfl
theorem pPack_rg (tu : Int → Int) (h : ∀ j : Nat, 0 ≤ tu j ∧ tu j ≤ 15) : ∀ n : Nat, 0 ≤ pPack tu n ∧ pPack tu n < 16 ^ n
  | 0 => by simp [pPack]
  | n + 1 => by
    have h1 := pPack_rg tu h n
    have h2 := h n
    have e : (16 : Int) ^ (n + 1) = 16 * 16 ^ n := by rw [Int.pow_succ, Int.mul_comm]
    have hp : (0 : Int) < 16 ^ n := Int.pow_pos (by decide)
    unfold pPack
    have h3 : tu n * 16 ^ n ≤ 15 * 16 ^ n := Int.mul_le_mul_of_nonneg_right h2.2 (by omega)
    have h4 : 0 ≤ tu n * 16 ^ n := Int.mul_nonneg h2.1 (by omega)
    rw [e]
    omega
theorem pPack_or (tu : Int → Int) (h : ∀ j : Nat, 0 ≤ tu j ∧ tu j ≤ 15) {n : Nat} (hn : n < 7) : vOr (pPack tu n) (vShl (tu n) (4 * n)) = pPack tu (n + 1) := by
  obtain ⟨h0, h1⟩ := pPack_rg tu h n
  obtain ⟨h2, h3⟩ := h n
  obtain ⟨b, hb⟩ : ∃ b : Nat, pPack tu n = b := ⟨(pPack tu n).toNat, by omega⟩
  obtain ⟨x, hx⟩ : ∃ x : Nat, tu n = x := ⟨(tu n).toNat, by omega⟩
  have hp : (16 : Nat) ^ n ≤ 16 ^ 6 := Nat.pow_le_pow_right (by decide) (by omega)
  have hc : ((16 ^ n : Nat) : Int) = (16 : Int) ^ n := by simp
  have e16 : (2 : Nat) ^ (4 * n) = 16 ^ n := by rw [Nat.pow_mul]
  have hlt : b < 2 ^ (4 * n) := by rw [e16]; rw [hb, ← hc] at h1; omega
  have hxx : x * 16 ^ n ≤ 15 * 16 ^ n := Nat.mul_le_mul_right _ (by omega)
  have e1 : vShl (tu n) (4 * n) = ((2 ^ (4 * n) * x : Nat) : Int) := by
    rw [hx, show (4 * (n : Int)) = ((4 * n : Nat) : Int) by simp, vShl_nat (by omega) (by rw [e16]; omega), Nat.mul_comm]
  rw [pPack_s, e1, hb, vOr_sum x hlt (by rw [e16, Nat.mul_comm]; omega), e16, hx, ← hc]
  rw [Nat.mul_comm]
  simp only [Int.natCast_add, Int.natCast_mul]
  omega
theorem dX3_packedTurns_0 : decode cX3_packedTurns 0 = .ok (.iconst 0, 1) := by decide +kernel
theorem dX3_packedTurns_1 : decode cX3_packedTurns 1 = .ok (.istore_n 1, 1) := by decide +kernel
theorem dX3_packedTurns_2 : decode cX3_packedTurns 2 = .ok (.iconst 0, 1) := by decide +kernel
theorem dX3_packedTurns_3 : decode cX3_packedTurns 3 = .ok (.istore_n 2, 1) := by decide +kernel
theorem dX3_packedTurns_4 : decode cX3_packedTurns 4 = .ok (.iload_n 2, 1) := by decide +kernel
theorem dX3_packedTurns_5 : decode cX3_packedTurns 5 = .ok (.aload_n 0, 1) := by decide +kernel
theorem dX3_packedTurns_6 : decode cX3_packedTurns 6 = .ok (.getfield 35, 3) := by decide +kernel
theorem dX3_packedTurns_9 : decode cX3_packedTurns 9 = .ok (.if_icmp .ge 22, 3) := by decide +kernel
theorem dX3_packedTurns_12 : decode cX3_packedTurns 12 = .ok (.iload_n 1, 1) := by decide +kernel
theorem dX3_packedTurns_13 : decode cX3_packedTurns 13 = .ok (.aload_n 0, 1) := by decide +kernel
theorem dX3_packedTurns_14 : decode cX3_packedTurns 14 = .ok (.getfield 21, 3) := by decide +kernel
theorem dX3_packedTurns_17 : decode cX3_packedTurns 17 = .ok (.iload_n 2, 1) := by decide +kernel
theorem dX3_packedTurns_18 : decode cX3_packedTurns 18 = .ok (.iaload, 1) := by decide +kernel
theorem dX3_packedTurns_19 : decode cX3_packedTurns 19 = .ok (.iconst 4, 1) := by decide +kernel
theorem dX3_packedTurns_20 : decode cX3_packedTurns 20 = .ok (.iload_n 2, 1) := by decide +kernel
theorem dX3_packedTurns_21 : decode cX3_packedTurns 21 = .ok (.imul, 1) := by decide +kernel
theorem dX3_packedTurns_22 : decode cX3_packedTurns 22 = .ok (.ishl, 1) := by decide +kernel
theorem dX3_packedTurns_23 : decode cX3_packedTurns 23 = .ok (.ior, 1) := by decide +kernel
theorem dX3_packedTurns_24 : decode cX3_packedTurns 24 = .ok (.istore_n 1, 1) := by decide +kernel
theorem dX3_packedTurns_25 : decode cX3_packedTurns 25 = .ok (.iinc 2 1, 3) := by decide +kernel
theorem dX3_packedTurns_28 : decode cX3_packedTurns 28 = .ok (.goto (-24), 3) := by decide +kernel
theorem dX3_packedTurns_31 : decode cX3_packedTurns 31 = .ok (.iload_n 1, 1) := by decide +kernel
theorem dX3_packedTurns_32 : decode cX3_packedTurns 32 = .ok (.ireturn, 1) := by decide +kernel
theorem l_X3_packedTurns {d : List Nat} {T : vT} {M : vM} {a n : Nat} (hK : sgK a) (hT : sgT T a) (hc : M a 0 = n) (hn : n ≤ 6) (ht : ∀ j : Nat, 0 ≤ M (a + 4) j ∧ M (a + 4) j ≤ 15) : ∀ p, p ≤ n →
    vV m_X3_packedTurns d d (vPi fun r T' M' => r = pPack (M (a + 4)) n ∧ T = T' ∧ M = M') 4 [some (vR a), some (vI (pPack (M (a + 4)) p)), some (vI p)] [] d T M := by
  obtain ⟨k0, k1, k2, k3, k4, k5⟩ := hK
  obtain ⟨t1, t2, t3, t4, t5⟩ := hT
  refine vUp ?_
  intro p h2 ih
  refine vV.iload_n dX3_packedTurns_4 rfl ?_
  refine vV.aload_n dX3_packedTurns_5 rfl ?_
  refine vV.geti (z := 0) dX3_packedTurns_6 fl_X3_35 (by first | rfl | assumption) rfl rfl ?_
  refine vV.icmp_ge (tgt := 31) dX3_packedTurns_9 (by decide) (fun h9 => ?_) (fun h9 => ?_)
  · skip
    refine vV.iload_n dX3_packedTurns_31 rfl ?_
    refine vV.ri dX3_packedTurns_32 rfl ?_
    rw [show p = n by omega]; exact ⟨rfl, rfl, rfl⟩
  · skip
    rw [← pPack_or _ ht (by omega)] at ih
    refine vV.iload_n dX3_packedTurns_12 rfl ?_
    refine vV.aload_n dX3_packedTurns_13 rfl ?_
    refine vV.getr dX3_packedTurns_14 fl_X3_21 (by first | rfl | assumption) rfl (by first | assumption | exact hB _ _ _ rfl) ?_
    refine vV.iload_n dX3_packedTurns_17 rfl ?_
    refine vV.iald dX3_packedTurns_18 (by first | rfl | assumption) (by omega) (by omega) ?_
    refine vV.iconst dX3_packedTurns_19 (by decide) ?_
    refine vV.iload_n dX3_packedTurns_20 rfl ?_
    refine vV.imul dX3_packedTurns_21 (⟨by omega, by omega⟩) ?_
    refine vV.ishl dX3_packedTurns_22 ?_
    refine vV.ior dX3_packedTurns_23 ?_
    refine vV.istore_n (L' := [_, _, _]) dX3_packedTurns_24 (by decide) rfl ?_
    refine vV.iinc (L' := [_, _, _]) dX3_packedTurns_25 (by decide) rfl (⟨by omega, by omega⟩) rfl ?_
    refine vV.goto (tgt := 4) dX3_packedTurns_28 (by decide) ?_
    exact ih (by omega)
/-- Stage.packedTurns -/
theorem c_X3_packedTurns {d : List Nat} {T : vT} {M : vM} {a n : Nat} (hK : sgK a) (hT : sgT T a) (hc : M a 0 = n) (hn : n ≤ 6) (ht : ∀ j : Nat, 0 ≤ M (a + 4) j ∧ M (a + 4) j ≤ 15) : vCon m_X3_packedTurns d d [vR a] T M (vPi fun r T' M' => r = pPack (M (a + 4)) n ∧ T = T' ∧ M = M') := by
  refine vCon.of (by decide) rfl rfl (Nat.le_of_ble_eq_true rfl) ?_
  refine vV.iconst dX3_packedTurns_0 (by decide) ?_
  refine vV.istore_n (L' := [_, _, _]) dX3_packedTurns_1 (by decide) rfl ?_
  refine vV.iconst dX3_packedTurns_2 (by decide) ?_
  refine vV.istore_n (L' := [_, _, _]) dX3_packedTurns_3 (by decide) rfl ?_
  exact l_X3_packedTurns hK hT hc hn ht 0 (by omega)
theorem dX3_add_0 : decode cX3_add 0 = .ok (.aload_n 0, 1) := by decide +kernel
theorem dX3_add_1 : decode cX3_add 1 = .ok (.getfield 35, 3) := by decide +kernel
theorem dX3_add_4 : decode cX3_add 4 = .ok (.istore 4, 2) := by decide +kernel
theorem dX3_add_6 : decode cX3_add 6 = .ok (.aload_n 0, 1) := by decide +kernel
theorem dX3_add_7 : decode cX3_add 7 = .ok (.getfield 9, 3) := by decide +kernel
theorem dX3_add_10 : decode cX3_add 10 = .ok (.iload 4, 2) := by decide +kernel
theorem dX3_add_12 : decode cX3_add 12 = .ok (.iload_n 1, 1) := by decide +kernel
theorem dX3_add_13 : decode cX3_add 13 = .ok (.iastore, 1) := by decide +kernel
theorem dX3_add_14 : decode cX3_add 14 = .ok (.aload_n 0, 1) := by decide +kernel
theorem dX3_add_15 : decode cX3_add 15 = .ok (.getfield 15, 3) := by decide +kernel
theorem dX3_add_18 : decode cX3_add 18 = .ok (.iload 4, 2) := by decide +kernel
theorem dX3_add_20 : decode cX3_add 20 = .ok (.iload_n 2, 1) := by decide +kernel
theorem dX3_add_21 : decode cX3_add 21 = .ok (.iastore, 1) := by decide +kernel
theorem dX3_add_22 : decode cX3_add 22 = .ok (.aload_n 0, 1) := by decide +kernel
theorem dX3_add_23 : decode cX3_add 23 = .ok (.getfield 18, 3) := by decide +kernel
theorem dX3_add_26 : decode cX3_add 26 = .ok (.iload 4, 2) := by decide +kernel
theorem dX3_add_28 : decode cX3_add 28 = .ok (.iload_n 3, 1) := by decide +kernel
theorem dX3_add_29 : decode cX3_add 29 = .ok (.iastore, 1) := by decide +kernel
theorem dX3_add_30 : decode cX3_add 30 = .ok (.aload_n 0, 1) := by decide +kernel
theorem dX3_add_31 : decode cX3_add 31 = .ok (.getfield 21, 3) := by decide +kernel
theorem dX3_add_34 : decode cX3_add 34 = .ok (.iload 4, 2) := by decide +kernel
theorem dX3_add_36 : decode cX3_add 36 = .ok (.iload_n 2, 1) := by decide +kernel
theorem dX3_add_37 : decode cX3_add 37 = .ok (.iastore, 1) := by decide +kernel
theorem dX3_add_38 : decode cX3_add 38 = .ok (.aload_n 0, 1) := by decide +kernel
theorem dX3_add_39 : decode cX3_add 39 = .ok (.dup, 1) := by decide +kernel
theorem dX3_add_40 : decode cX3_add 40 = .ok (.getfield 35, 3) := by decide +kernel
theorem dX3_add_43 : decode cX3_add 43 = .ok (.iconst 1, 1) := by decide +kernel
theorem dX3_add_44 : decode cX3_add 44 = .ok (.iadd, 1) := by decide +kernel
theorem dX3_add_45 : decode cX3_add 45 = .ok (.putfield 35, 3) := by decide +kernel
theorem dX3_add_48 : decode cX3_add 48 = .ok (.iload 4, 2) := by decide +kernel
theorem dX3_add_50 : decode cX3_add 50 = .ok (.ireturn, 1) := by decide +kernel
/-- Stage.add -/
theorem c_X3_add {d : List Nat} {T : vT} {M : vM} {a n : Nat} {x y z : Int} (hK : sgK a) (hT : sgT T a) (hc : M a 0 = n) (hn : n < 6) : vCon m_X3_add d d [vR a, vI x, vI y, vI z] T M (vPi fun r T' M' => r = n ∧ T = T' ∧ M' = vUpd (vUpd (vUpd (vUpd (vUpd M (a + 1) n x) (a + 2) n y) (a + 3) n z) (a + 4) n y) a 0 (n + 1)) := by
  obtain ⟨k0, k1, k2, k3, k4, k5⟩ := hK
  obtain ⟨t1, t2, t3, t4, t5⟩ := hT
  refine vCon.of (by decide) rfl rfl (Nat.le_of_ble_eq_true rfl) ?_
  refine vV.aload_n dX3_add_0 rfl ?_
  refine vV.geti (z := 0) dX3_add_1 fl_X3_35 (by first | rfl | assumption) rfl rfl ?_
  rw [hc]
  refine vV.istore (L' := [_, _, _, _, _]) dX3_add_4 (by decide) rfl ?_
  refine vV.aload_n dX3_add_6 rfl ?_
  refine vV.getr dX3_add_7 fl_X3_9 (by first | rfl | assumption) rfl (by first | assumption | exact hB _ _ _ rfl) ?_
  refine vV.iload dX3_add_10 rfl ?_
  refine vV.iload_n dX3_add_12 rfl ?_
  refine vV.iast dX3_add_13 (by first | rfl | assumption) (by omega) (by omega) ?_
  refine vV.aload_n dX3_add_14 rfl ?_
  refine vV.getr dX3_add_15 fl_X3_15 (by first | rfl | assumption) rfl (by first | assumption | exact hB _ _ _ rfl) ?_
  refine vV.iload dX3_add_18 rfl ?_
  refine vV.iload_n dX3_add_20 rfl ?_
  refine vV.iast dX3_add_21 (by first | rfl | assumption) (by omega) (by omega) ?_
  refine vV.aload_n dX3_add_22 rfl ?_
  refine vV.getr dX3_add_23 fl_X3_18 (by first | rfl | assumption) rfl (by first | assumption | exact hB _ _ _ rfl) ?_
  refine vV.iload dX3_add_26 rfl ?_
  refine vV.iload_n dX3_add_28 rfl ?_
  refine vV.iast dX3_add_29 (by first | rfl | assumption) (by omega) (by omega) ?_
  refine vV.aload_n dX3_add_30 rfl ?_
  refine vV.getr dX3_add_31 fl_X3_21 (by first | rfl | assumption) rfl (by first | assumption | exact hB _ _ _ rfl) ?_
  refine vV.iload dX3_add_34 rfl ?_
  refine vV.iload_n dX3_add_36 rfl ?_
  refine vV.iast dX3_add_37 (by first | rfl | assumption) (by omega) (by omega) ?_
  refine vV.aload_n dX3_add_38 rfl ?_
  refine vV.dup dX3_add_39 rfl ?_
  refine vV.geti (z := 0) dX3_add_40 fl_X3_35 (by first | rfl | assumption) rfl rfl ?_
  rw [vUpd_nk (by omega), vUpd_nk (by omega), vUpd_nk (by omega), vUpd_nk (by omega), hc]
  refine vV.iconst dX3_add_43 (by decide) ?_
  refine vV.iadd dX3_add_44 (⟨by omega, by omega⟩) ?_
  refine vV.puti (z := 0) dX3_add_45 fl_X3_35 (by first | rfl | assumption) rfl rfl ?_
  refine vV.iload dX3_add_48 rfl ?_
  refine vV.ri dX3_add_50 rfl ?_
  exact ⟨rfl, rfl, rfl⟩

def bI (b : Bool) : Int := if b then 1 else 0
theorem bI_01 (b : Bool) : bI b = 0 ∨ bI b = 1 := by cases b <;> simp [bI]
/-- the plate at his place -/
def pAt (n : Nat) (pl : Int → Int) (man : Int) : Option Nat := pFind (fun j => decide (pl j = man)) n
def pStd (tu : Int → Int) : Option Nat → Bool
  | some p => decide (0 < tu p)
  | none => false
def pCan (n : Nat) (pl tu : Int → Int) (man thing : Int) : Bool :=
  if thing = 0 then true else if thing = 1 then decide (0 < man) else if thing = 2 then decide (man < 7) else pStd tu (pAt n pl man)
def pMan (man thing : Int) : Int := if thing = 1 then man - 1 else if thing = 2 then man + 1 else man
def pWd (fu tu : Int → Int) (gives : Int) : Option Nat → Int → Int
  | some p => fSet tu p (min (fu p) (tu p + gives))
  | none => tu
def pWind (n : Nat) (pl fu tu : Int → Int) (man gives thing : Int) : Int → Int := if thing = 3 then pWd fu tu gives (pAt n pl man) else tu
/-- the rows of a stage are as told -/
def pW (n : Nat) (pl fu fa tu se : Int → Int) : Prop := n ≤ 6 ∧ (∀ j, (j < 0 ∨ 6 ≤ j) → pl j = 0 ∧ fu j = 0 ∧ fa j = 0 ∧ tu j = 0) ∧ (∀ j, (j < 0 ∨ 5 ≤ j) → se j = 0) ∧
  (∀ j, 0 ≤ pl j ∧ pl j ≤ 7) ∧ (∀ j, 0 ≤ fu j ∧ fu j ≤ 15) ∧ (∀ j, 0 ≤ fa j ∧ fa j ≤ 3) ∧ (∀ j, 0 ≤ tu j ∧ tu j ≤ fu j) ∧
  (0 ≤ se 0 ∧ se 0 ≤ 7) ∧ (1 ≤ se 1 ∧ se 1 ≤ 6) ∧ (1 ≤ se 2 ∧ se 2 ≤ 9) ∧ (0 ≤ se 3 ∧ se 3 ≤ 3) ∧ (1 ≤ se 4 ∧ se 4 ≤ 6) ∧
  (∀ j : Nat, j < n → 2 ≤ fu j ∧ 1 ≤ fa j) ∧ ∀ i j : Nat, i < n → j < n → pl i = pl j → i = j
def sgW (M : vM) (a n : Nat) : Prop := M a 0 = n ∧ pW n (M (a + 1)) (M (a + 2)) (M (a + 3)) (M (a + 4)) (M (a + 5))
theorem sgW.cnt {M : vM} {a n : Nat} (h : sgW M a n) : M a 0 = n := h.1
theorem sgW.le {M : vM} {a n : Nat} (h : sgW M a n) : n ≤ 6 := h.2.1
theorem sgW.tu {M : vM} {a n : Nat} (h : sgW M a n) (j : Nat) : 0 ≤ M (a + 4) j ∧ M (a + 4) j ≤ 15 := by
  obtain ⟨-, -, -, -, -, h1, -, h2, -⟩ := h
  have := h1 j; have := h2 j; omega
theorem sgW.fa {M : vM} {a n : Nat} (h : sgW M a n) (j : Nat) : 0 ≤ M (a + 3) j ∧ M (a + 3) j ≤ 15 := by
  obtain ⟨-, -, -, -, -, -, h1, -⟩ := h
  have := h1 j; omega
