/-! ===== own: the next order: words; the class's nextOrder ===== -/
def fSw (f : Int → Int) (i j : Int) : Int → Int := fSet (fSet f i (f j)) j (f i)
theorem vUpd_sw (M : vM) (a : Nat) (i j : Int) : vUpd (vUpd M a i (M a j)) a j (M a i) = vRow M a (fSw (M a) i j) := by rw [vUpd_r M, vUpd_vRow]; rfl
/-- the last ascent below k -/
def nDes (f : Int → Int) : Nat → Option Nat
  | 0 => none
  | k + 1 => if f (k + 1) < f k then nDes f k else some k
def nLst (f : Int → Int) (i : Nat) : Nat → Nat
  | 0 => 0
  | j + 1 => if i < j + 1 ∧ f (j + 1) < f i then nLst f i j else j + 1
def nRv : Nat → (Int → Int) → Int → Int → Int → Int
  | 0, f, _, _ => f
  | k + 1, f, a, b => if a < b then nRv k (fSw f a b) (a + 1) (b - 1) else f
def nTo (n : Nat) (f : Int → Int) (i : Nat) : Int → Int := nRv 3 (fSw f i (nLst f i (n - 1))) (i + 1) (n - 1)
/-- the next order, as numbers grow -/
def nNx (n : Nat) (f : Int → Int) : Option (Int → Int) := (nDes f (n - 1)).map (nTo n f)
def nQ (M M1 : vM) (a : Nat) (r : Int) : Option (Int → Int) → Prop
  | none => r = 0 ∧ M1 = M
  | some g => r = 1 ∧ M1 = vRow M a g
theorem nRv_t {k : Nat} {f : Int → Int} {a b : Int} (h : a < b) : nRv (k + 1) f a b = nRv k (fSw f a b) (a + 1) (b - 1) := if_pos h
theorem nRv_f {k : Nat} {f : Int → Int} {a b : Int} (h : ¬ a < b) : nRv k f a b = f := by
  cases k with
  | zero => rfl
  | succ k => exact if_neg h
theorem nLst_t {f : Int → Int} {i j : Nat} (h : i < j + 1) (h2 : f (j + 1) < f i) : nLst f i (j + 1) = nLst f i j := if_pos ⟨h, h2⟩
theorem nLst_f {f : Int → Int} {i j : Nat} (h2 : ¬ f j < f i) : nLst f i j = j := by
  cases j with
  | zero => rfl
  | succ j => exact if_neg (fun z => h2 z.2)
theorem nDes_t {f : Int → Int} {k : Nat} (h : f (k + 1) < f k) : nDes f (k + 1) = nDes f k := if_pos h
theorem nDes_f {f : Int → Int} {k : Nat} (h : ¬ f (k + 1) < f k) : nDes f (k + 1) = some k := if_neg h
theorem nDes_lt {f : Int → Int} : ∀ {k i : Nat}, nDes f k = some i → i < k ∧ ¬ f (i + 1) < f i
  | 0, i, h => by cases h
  | k + 1, i, h => by
    by_cases hc : f (k + 1) < f k
    · rw [nDes_t hc] at h; have := nDes_lt h; exact ⟨by omega, this.2⟩
    · rw [nDes_f hc] at h; cases h; exact ⟨by omega, hc⟩
theorem nLst_rg {f : Int → Int} {i : Nat} : ∀ {j : Nat}, i ≤ j → i ≤ nLst f i j ∧ nLst f i j ≤ j
  | 0, h => by unfold nLst; omega
  | j + 1, h => by
    unfold nLst
    split
    · have := nLst_rg (f := f) (i := i) (j := j) (by omega); omega
    · omega
theorem c_X6_swapI {d : List Nat} {T : vT} {M : vM} {a : Nat} {i j : Int} (hk : vKK a = (1, 6)) (hi : 0 ≤ i ∧ i < 6) (hj : 0 ≤ j ∧ j < 6) : vCon m_X6_swap d d [vR a, vI i, vI j] T M (vPv fun T1 M1 => T = T1 ∧ M1 = vRow M a (fSw (M a) i j)) := by
  obtain ⟨i', rfl⟩ : ∃ i' : Nat, i = i' := ⟨i.toNat, by omega⟩
  obtain ⟨j', rfl⟩ : ∃ j' : Nat, j = j' := ⟨j.toNat, by omega⟩
  rw [← vUpd_sw]
  exact c_X6_swap hk (by omega) (by omega)
theorem dX6_nextOrder_0 : decode cX6_nextOrder 0 = .ok (.iload_n 1, 1) := by decide +kernel
theorem dX6_nextOrder_1 : decode cX6_nextOrder 1 = .ok (.iconst 2, 1) := by decide +kernel
theorem dX6_nextOrder_2 : decode cX6_nextOrder 2 = .ok (.isub, 1) := by decide +kernel
theorem dX6_nextOrder_3 : decode cX6_nextOrder 3 = .ok (.istore_n 2, 1) := by decide +kernel
theorem dX6_nextOrder_4 : decode cX6_nextOrder 4 = .ok (.iload_n 2, 1) := by decide +kernel
theorem dX6_nextOrder_5 : decode cX6_nextOrder 5 = .ok (.ifCond .lt 20, 3) := by decide +kernel
theorem dX6_nextOrder_8 : decode cX6_nextOrder 8 = .ok (.aload_n 0, 1) := by decide +kernel
theorem dX6_nextOrder_9 : decode cX6_nextOrder 9 = .ok (.iload_n 2, 1) := by decide +kernel
theorem dX6_nextOrder_10 : decode cX6_nextOrder 10 = .ok (.iaload, 1) := by decide +kernel
theorem dX6_nextOrder_11 : decode cX6_nextOrder 11 = .ok (.aload_n 0, 1) := by decide +kernel
theorem dX6_nextOrder_12 : decode cX6_nextOrder 12 = .ok (.iload_n 2, 1) := by decide +kernel
theorem dX6_nextOrder_13 : decode cX6_nextOrder 13 = .ok (.iconst 1, 1) := by decide +kernel
theorem dX6_nextOrder_14 : decode cX6_nextOrder 14 = .ok (.iadd, 1) := by decide +kernel
theorem dX6_nextOrder_15 : decode cX6_nextOrder 15 = .ok (.iaload, 1) := by decide +kernel
theorem dX6_nextOrder_16 : decode cX6_nextOrder 16 = .ok (.if_icmp .le 9, 3) := by decide +kernel
theorem dX6_nextOrder_19 : decode cX6_nextOrder 19 = .ok (.iinc 2 (-1), 3) := by decide +kernel
theorem dX6_nextOrder_22 : decode cX6_nextOrder 22 = .ok (.goto (-18), 3) := by decide +kernel
theorem dX6_nextOrder_25 : decode cX6_nextOrder 25 = .ok (.iload_n 2, 1) := by decide +kernel
theorem dX6_nextOrder_26 : decode cX6_nextOrder 26 = .ok (.ifCond .ge 5, 3) := by decide +kernel
theorem dX6_nextOrder_29 : decode cX6_nextOrder 29 = .ok (.iconst 0, 1) := by decide +kernel
theorem dX6_nextOrder_30 : decode cX6_nextOrder 30 = .ok (.ireturn, 1) := by decide +kernel
theorem dX6_nextOrder_31 : decode cX6_nextOrder 31 = .ok (.iload_n 1, 1) := by decide +kernel
theorem dX6_nextOrder_32 : decode cX6_nextOrder 32 = .ok (.iconst 1, 1) := by decide +kernel
theorem dX6_nextOrder_33 : decode cX6_nextOrder 33 = .ok (.isub, 1) := by decide +kernel
theorem dX6_nextOrder_34 : decode cX6_nextOrder 34 = .ok (.istore_n 3, 1) := by decide +kernel
theorem dX6_nextOrder_35 : decode cX6_nextOrder 35 = .ok (.iload_n 3, 1) := by decide +kernel
theorem dX6_nextOrder_36 : decode cX6_nextOrder 36 = .ok (.iload_n 2, 1) := by decide +kernel
theorem dX6_nextOrder_37 : decode cX6_nextOrder 37 = .ok (.if_icmp .le 18, 3) := by decide +kernel
theorem dX6_nextOrder_40 : decode cX6_nextOrder 40 = .ok (.aload_n 0, 1) := by decide +kernel
theorem dX6_nextOrder_41 : decode cX6_nextOrder 41 = .ok (.iload_n 3, 1) := by decide +kernel
theorem dX6_nextOrder_42 : decode cX6_nextOrder 42 = .ok (.iaload, 1) := by decide +kernel
theorem dX6_nextOrder_43 : decode cX6_nextOrder 43 = .ok (.aload_n 0, 1) := by decide +kernel
theorem dX6_nextOrder_44 : decode cX6_nextOrder 44 = .ok (.iload_n 2, 1) := by decide +kernel
theorem dX6_nextOrder_45 : decode cX6_nextOrder 45 = .ok (.iaload, 1) := by decide +kernel
theorem dX6_nextOrder_46 : decode cX6_nextOrder 46 = .ok (.if_icmp .ge 9, 3) := by decide +kernel
theorem dX6_nextOrder_49 : decode cX6_nextOrder 49 = .ok (.iinc 3 (-1), 3) := by decide +kernel
theorem dX6_nextOrder_52 : decode cX6_nextOrder 52 = .ok (.goto (-17), 3) := by decide +kernel
theorem dX6_nextOrder_55 : decode cX6_nextOrder 55 = .ok (.aload_n 0, 1) := by decide +kernel
theorem dX6_nextOrder_56 : decode cX6_nextOrder 56 = .ok (.iload_n 2, 1) := by decide +kernel
theorem dX6_nextOrder_57 : decode cX6_nextOrder 57 = .ok (.iload_n 3, 1) := by decide +kernel
theorem dX6_nextOrder_58 : decode cX6_nextOrder 58 = .ok (.invokestatic 213, 3) := by decide +kernel
theorem dX6_nextOrder_61 : decode cX6_nextOrder 61 = .ok (.iload_n 2, 1) := by decide +kernel
theorem dX6_nextOrder_62 : decode cX6_nextOrder 62 = .ok (.iconst 1, 1) := by decide +kernel
theorem dX6_nextOrder_63 : decode cX6_nextOrder 63 = .ok (.iadd, 1) := by decide +kernel
theorem dX6_nextOrder_64 : decode cX6_nextOrder 64 = .ok (.istore 4, 2) := by decide +kernel
theorem dX6_nextOrder_66 : decode cX6_nextOrder 66 = .ok (.iload_n 1, 1) := by decide +kernel
theorem dX6_nextOrder_67 : decode cX6_nextOrder 67 = .ok (.iconst 1, 1) := by decide +kernel
theorem dX6_nextOrder_68 : decode cX6_nextOrder 68 = .ok (.isub, 1) := by decide +kernel
theorem dX6_nextOrder_69 : decode cX6_nextOrder 69 = .ok (.istore 5, 2) := by decide +kernel
theorem dX6_nextOrder_71 : decode cX6_nextOrder 71 = .ok (.iload 4, 2) := by decide +kernel
theorem dX6_nextOrder_73 : decode cX6_nextOrder 73 = .ok (.iload 5, 2) := by decide +kernel
theorem dX6_nextOrder_75 : decode cX6_nextOrder 75 = .ok (.if_icmp .ge 20, 3) := by decide +kernel
theorem dX6_nextOrder_78 : decode cX6_nextOrder 78 = .ok (.aload_n 0, 1) := by decide +kernel
theorem dX6_nextOrder_79 : decode cX6_nextOrder 79 = .ok (.iload 4, 2) := by decide +kernel
theorem dX6_nextOrder_81 : decode cX6_nextOrder 81 = .ok (.iload 5, 2) := by decide +kernel
theorem dX6_nextOrder_83 : decode cX6_nextOrder 83 = .ok (.invokestatic 213, 3) := by decide +kernel
theorem dX6_nextOrder_86 : decode cX6_nextOrder 86 = .ok (.iinc 4 1, 3) := by decide +kernel
theorem dX6_nextOrder_89 : decode cX6_nextOrder 89 = .ok (.iinc 5 (-1), 3) := by decide +kernel
theorem dX6_nextOrder_92 : decode cX6_nextOrder 92 = .ok (.goto (-21), 3) := by decide +kernel
theorem dX6_nextOrder_95 : decode cX6_nextOrder 95 = .ok (.iconst 1, 1) := by decide +kernel
theorem dX6_nextOrder_96 : decode cX6_nextOrder 96 = .ok (.ireturn, 1) := by decide +kernel
theorem l_X6_nx71 {d : List Nat} {T : vT} {M : vM} {a : Nat} {n i j : Int} (hk : vKK a = (1, 6)) : ∀ (k : Nat) (g : Int → Int) (l r : Int), 0 ≤ l → l ≤ 9 → r ≤ 5 → -5 ≤ r → r - l ≤ 2 * k →
    vV m_X6_nextOrder d d (vPi fun y T1 M1 => y = 1 ∧ T = T1 ∧ M1 = vRow M a (nRv k g l r)) 71 [some (vR a), some (vI n), some (vI i), some (vI j), some (vI l), some (vI r)] [] d T (vRow M a g) := by
  intro k
  induction k with
  | zero =>
    intro g l r h1 h1' h2 h2' h3
    refine vV.iload dX6_nextOrder_71 rfl ?_
    refine vV.iload dX6_nextOrder_73 rfl ?_
    refine vV.icmp_ge (tgt := 95) dX6_nextOrder_75 (by decide) (fun h75 => ?_) (fun h75 => ?_)
    · skip
      refine vV.iconst dX6_nextOrder_95 (by decide) ?_
      refine vV.rz dX6_nextOrder_96 rfl (by first | exact Or.inl rfl | exact Or.inr rfl | assumption) ?_
      exact ⟨rfl, rfl, rfl⟩
    · skip
      omega
  | succ k ih =>
    intro g l r h1 h1' h2 h2' h3
    refine vV.iload dX6_nextOrder_71 rfl ?_
    refine vV.iload dX6_nextOrder_73 rfl ?_
    refine vV.icmp_ge (tgt := 95) dX6_nextOrder_75 (by decide) (fun h75 => ?_) (fun h75 => ?_)
    · skip
      refine vV.iconst dX6_nextOrder_95 (by decide) ?_
      refine vV.rz dX6_nextOrder_96 rfl (by first | exact Or.inl rfl | exact Or.inr rfl | assumption) ?_
      rw [nRv_f (by omega)]; exact ⟨rfl, rfl, rfl⟩
    · skip
      refine vV.aload_n dX6_nextOrder_78 rfl ?_
      refine vV.iload dX6_nextOrder_79 rfl ?_
      refine vV.iload dX6_nextOrder_81 rfl ?_
      refine vV.cSv dX6_nextOrder_83 ml_X6_213 cw_X6_swap sw_X6_swap (by unfold vRoom; decide) (c_X6_swapI hk (by omega) (by omega)) rfl rfl (Nat.le_of_ble_eq_true rfl) ?_
      rintro _ _ ⟨rfl, rfl⟩
      rw [vRow_s, vRow_vRow]
      rw [nRv_t (by omega)]
      refine vV.iinc (L' := [_, _, _, _, _, _]) dX6_nextOrder_86 (by decide) rfl (⟨by omega, by omega⟩) rfl ?_
      refine vV.iinc (L' := [_, _, _, _, _, _]) dX6_nextOrder_89 (by decide) rfl (⟨by omega, by omega⟩) rfl ?_
      refine vV.goto (tgt := 71) dX6_nextOrder_92 (by decide) ?_
      exact ih _ _ _ (by omega) (by omega) (by omega) (by omega) (by omega)
theorem l_X6_nx35 {d : List Nat} {T : vT} {M : vM} {a n i : Nat} {x4 x5 : Option vA} (hk : vKK a = (1, 6)) (hi : i < n) (hn : n ≤ 6) : ∀ j : Nat, i ≤ j → j < n →
    vV m_X6_nextOrder d d (vPi fun y T1 M1 => y = 1 ∧ T = T1 ∧ M1 = vRow M a (nRv 3 (fSw (M a) i (nLst (M a) i j)) (i + 1) (n - 1))) 35 [some (vR a), some (vI n), some (vI i), some (vI j), x4, x5] [] d T M := by
  intro j
  induction j with
  | zero =>
    intro h1 h2
    have e : nLst (M a) i 0 = 0 := rfl
    rw [e]
    refine vV.iload_n dX6_nextOrder_35 rfl ?_
    refine vV.iload_n dX6_nextOrder_36 rfl ?_
    refine vV.icmp_le (tgt := 55) dX6_nextOrder_37 (by decide) (fun h37 => ?_) (fun h37 => ?_)
    · skip
      refine vV.aload_n dX6_nextOrder_55 rfl ?_
      refine vV.iload_n dX6_nextOrder_56 rfl ?_
      refine vV.iload_n dX6_nextOrder_57 rfl ?_
      refine vV.cSv dX6_nextOrder_58 ml_X6_213 cw_X6_swap sw_X6_swap (by unfold vRoom; decide) (c_X6_swapI hk (by omega) (by omega)) rfl rfl (Nat.le_of_ble_eq_true rfl) ?_
      rintro _ _ ⟨rfl, rfl⟩
      refine vV.iload_n dX6_nextOrder_61 rfl ?_
      refine vV.iconst dX6_nextOrder_62 (by decide) ?_
      refine vV.iadd dX6_nextOrder_63 (⟨by omega, by omega⟩) ?_
      refine vV.istore (L' := [_, _, _, _, _, _]) dX6_nextOrder_64 (by decide) rfl ?_
      refine vV.iload_n dX6_nextOrder_66 rfl ?_
      refine vV.iconst dX6_nextOrder_67 (by decide) ?_
      refine vV.isub dX6_nextOrder_68 (⟨by omega, by omega⟩) ?_
      refine vV.istore (L' := [_, _, _, _, _, _]) dX6_nextOrder_69 (by decide) rfl ?_
      exact l_X6_nx71 hk 3 _ _ _ (by omega) (by omega) (by omega) (by omega) (by omega)
    · skip
      omega
  | succ j ih =>
    intro h1 h2
    refine vV.iload_n dX6_nextOrder_35 rfl ?_
    refine vV.iload_n dX6_nextOrder_36 rfl ?_
    refine vV.icmp_le (tgt := 55) dX6_nextOrder_37 (by decide) (fun h37 => ?_) (fun h37 => ?_)
    · skip
      rw [nLst_f (j := j + 1) (by rw [show ((j + 1 : Nat) : Int) = i by omega]; omega)]
      refine vV.aload_n dX6_nextOrder_55 rfl ?_
      refine vV.iload_n dX6_nextOrder_56 rfl ?_
      refine vV.iload_n dX6_nextOrder_57 rfl ?_
      refine vV.cSv dX6_nextOrder_58 ml_X6_213 cw_X6_swap sw_X6_swap (by unfold vRoom; decide) (c_X6_swapI hk (by omega) (by omega)) rfl rfl (Nat.le_of_ble_eq_true rfl) ?_
      rintro _ _ ⟨rfl, rfl⟩
      refine vV.iload_n dX6_nextOrder_61 rfl ?_
      refine vV.iconst dX6_nextOrder_62 (by decide) ?_
      refine vV.iadd dX6_nextOrder_63 (⟨by omega, by omega⟩) ?_
      refine vV.istore (L' := [_, _, _, _, _, _]) dX6_nextOrder_64 (by decide) rfl ?_
      refine vV.iload_n dX6_nextOrder_66 rfl ?_
      refine vV.iconst dX6_nextOrder_67 (by decide) ?_
      refine vV.isub dX6_nextOrder_68 (⟨by omega, by omega⟩) ?_
      refine vV.istore (L' := [_, _, _, _, _, _]) dX6_nextOrder_69 (by decide) rfl ?_
      exact l_X6_nx71 hk 3 _ _ _ (by omega) (by omega) (by omega) (by omega) (by omega)
    · skip
      refine vV.aload_n dX6_nextOrder_40 rfl ?_
      refine vV.iload_n dX6_nextOrder_41 rfl ?_
      refine vV.iald dX6_nextOrder_42 (by first | rfl | assumption) (by omega) (by omega) ?_
      refine vV.aload_n dX6_nextOrder_43 rfl ?_
      refine vV.iload_n dX6_nextOrder_44 rfl ?_
      refine vV.iald dX6_nextOrder_45 (by first | rfl | assumption) (by omega) (by omega) ?_
      refine vV.icmp_ge (tgt := 55) dX6_nextOrder_46 (by decide) (fun h46 => ?_) (fun h46 => ?_)
      · skip
        rw [nLst_f (j := j + 1) (by omega)]
        refine vV.aload_n dX6_nextOrder_55 rfl ?_
        refine vV.iload_n dX6_nextOrder_56 rfl ?_
        refine vV.iload_n dX6_nextOrder_57 rfl ?_
        refine vV.cSv dX6_nextOrder_58 ml_X6_213 cw_X6_swap sw_X6_swap (by unfold vRoom; decide) (c_X6_swapI hk (by omega) (by omega)) rfl rfl (Nat.le_of_ble_eq_true rfl) ?_
        rintro _ _ ⟨rfl, rfl⟩
        refine vV.iload_n dX6_nextOrder_61 rfl ?_
        refine vV.iconst dX6_nextOrder_62 (by decide) ?_
        refine vV.iadd dX6_nextOrder_63 (⟨by omega, by omega⟩) ?_
        refine vV.istore (L' := [_, _, _, _, _, _]) dX6_nextOrder_64 (by decide) rfl ?_
        refine vV.iload_n dX6_nextOrder_66 rfl ?_
        refine vV.iconst dX6_nextOrder_67 (by decide) ?_
        refine vV.isub dX6_nextOrder_68 (⟨by omega, by omega⟩) ?_
        refine vV.istore (L' := [_, _, _, _, _, _]) dX6_nextOrder_69 (by decide) rfl ?_
        exact l_X6_nx71 hk 3 _ _ _ (by omega) (by omega) (by omega) (by omega) (by omega)
      · skip
        rw [nLst_t (by omega) h46]
        have e9 : ((j + 1 : Nat) : Int) + -1 = j := by omega
        refine vV.iinc (L' := [_, _, _, _, _, _]) dX6_nextOrder_49 (by decide) rfl (⟨by omega, by omega⟩) rfl ?_
        rw [e9]
        refine vV.goto (tgt := 35) dX6_nextOrder_52 (by decide) ?_
        exact ih (by omega) (by omega)
theorem l_X6_nx4 {d : List Nat} {T : vT} {M : vM} {a n : Nat} {x3 x4 x5 : Option vA} (hk : vKK a = (1, 6)) (hn : n ≤ 6) : ∀ (k : Nat) (i : Int), i = k - 1 → k < n →
    vV m_X6_nextOrder d d (vPi fun y T1 M1 => T = T1 ∧ nQ M M1 a y ((nDes (M a) k).map (nTo n (M a)))) 4 [some (vR a), some (vI n), some (vI i), x3, x4, x5] [] d T M := by
  intro k
  induction k with
  | zero =>
    intro i h1 h2
    have e : nDes (M a) 0 = none := rfl
    rw [e]
    refine vV.iload_n dX6_nextOrder_4 rfl ?_
    refine vV.if_lt (tgt := 25) dX6_nextOrder_5 (by decide) (fun h5 => ?_) (fun h5 => ?_)
    · skip
      refine vV.iload_n dX6_nextOrder_25 rfl ?_
      refine vV.if_ge (tgt := 31) dX6_nextOrder_26 (by decide) (fun h26 => ?_) (fun h26 => ?_)
      · skip
        omega
      · skip
        refine vV.iconst dX6_nextOrder_29 (by decide) ?_
        refine vV.rz dX6_nextOrder_30 rfl (by first | exact Or.inl rfl | exact Or.inr rfl | assumption) ?_
        exact ⟨rfl, rfl, rfl⟩
    · skip
      omega
  | succ k ih =>
    intro i h1 h2
    obtain rfl : i = (k : Int) := by omega
    refine vV.iload_n dX6_nextOrder_4 rfl ?_
    refine vV.if_lt (tgt := 25) dX6_nextOrder_5 (by decide) (fun h5 => ?_) (fun h5 => ?_)
    · skip
      omega
    · skip
      refine vV.aload_n dX6_nextOrder_8 rfl ?_
      refine vV.iload_n dX6_nextOrder_9 rfl ?_
      refine vV.iald dX6_nextOrder_10 (by first | rfl | assumption) (by omega) (by omega) ?_
      refine vV.aload_n dX6_nextOrder_11 rfl ?_
      refine vV.iload_n dX6_nextOrder_12 rfl ?_
      refine vV.iconst dX6_nextOrder_13 (by decide) ?_
      refine vV.iadd dX6_nextOrder_14 (⟨by omega, by omega⟩) ?_
      refine vV.iald dX6_nextOrder_15 (by first | rfl | assumption) (by omega) (by omega) ?_
      refine vV.icmp_le (tgt := 25) dX6_nextOrder_16 (by decide) (fun h16 => ?_) (fun h16 => ?_)
      · skip
        rw [nDes_f (by omega)]
        refine vV.iload_n dX6_nextOrder_25 rfl ?_
        refine vV.if_ge (tgt := 31) dX6_nextOrder_26 (by decide) (fun h26 => ?_) (fun h26 => ?_)
        · skip
          have e31 : (n : Int) - 1 = ((n - 1 : Nat) : Int) := by omega
          refine vV.iload_n dX6_nextOrder_31 rfl ?_
          refine vV.iconst dX6_nextOrder_32 (by decide) ?_
          refine vV.isub dX6_nextOrder_33 (⟨by omega, by omega⟩) ?_
          rw [e31]
          refine vV.istore_n (L' := [_, _, _, _, _, _]) dX6_nextOrder_34 (by decide) rfl ?_
          exact vV.imp (l_X6_nx35 hk (by omega) hn (n - 1) (by omega) (by omega)) (fun r T1 M1 ⟨x, hx1, hx2, hx3, hx4, hx5⟩ => ⟨x, hx1, hx2, hx4, hx3, hx5⟩)
        · skip
          omega
      · skip
        rw [nDes_t (by omega)]
        refine vV.iinc (L' := [_, _, _, _, _, _]) dX6_nextOrder_19 (by decide) rfl (⟨by omega, by omega⟩) rfl ?_
        refine vV.goto (tgt := 4) dX6_nextOrder_22 (by decide) ?_
        exact ih _ (by omega) (by omega)
theorem c_X6_nextOrder {d : List Nat} {T : vT} {M : vM} {a n : Nat} (hk : vKK a = (1, 6)) (h1 : 1 ≤ n) (hn : n ≤ 6) : vCon m_X6_nextOrder d d [vR a, vI n] T M (vPi fun y T1 M1 => T = T1 ∧ nQ M M1 a y (nNx n (M a))) := by
  refine vCon.of (by decide) rfl rfl (Nat.le_of_ble_eq_true rfl) ?_
  refine vV.iload_n dX6_nextOrder_0 rfl ?_
  refine vV.iconst dX6_nextOrder_1 (by decide) ?_
  refine vV.isub dX6_nextOrder_2 (⟨by omega, by omega⟩) ?_
  refine vV.istore_n (L' := [_, _, _, _, _, _]) dX6_nextOrder_3 (by decide) rfl ?_
  exact l_X6_nx4 hk hn (n - 1) _ (by omega) (by omega)
