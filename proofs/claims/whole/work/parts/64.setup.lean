/-! ===== own: orders told as numbers: words ===== -/
def dg (num j : Nat) : Nat := num / 10 ^ j % 10
theorem dg_lt (num j : Nat) : dg num j < 10 := Nat.mod_lt _ (by decide)
/-- which digits the last t have -/
def hdF (num : Nat) : Nat → Int → Int
  | 0 => fun _ => 0
  | t + 1 => fSet (hdF num t) (dg num t) 1
theorem hdF_iff (num : Nat) : ∀ (t v : Nat), 0 < hdF num t v ↔ ∃ j, j < t ∧ dg num j = v
  | 0, v => ⟨fun h => absurd h (by show ¬ (0 : Int) < 0; decide), fun ⟨j, h, _⟩ => by omega⟩
  | t + 1, v => by
    rw [show hdF num (t + 1) v = fSet (hdF num t) (dg num t) 1 v from rfl, fSet_c]
    by_cases h : v = dg num t
    · rw [if_pos h]; exact ⟨fun _ => ⟨t, by omega, h.symm⟩, fun _ => by decide⟩
    · rw [if_neg h, hdF_iff num t v]
      exact ⟨fun ⟨j, a, b⟩ => ⟨j, by omega, b⟩, fun ⟨j, a, b⟩ => ⟨j, (Nat.lt_succ_iff_lt_or_eq.mp a).elim id (fun e => by subst e; exact absurd b.symm h), b⟩⟩
def rdP (n num : Nat) : Prop := num / 10 ^ n = 0 ∧ (∀ j, j < n → dg num j < n) ∧ ∀ i j, i < n → j < n → dg num i = dg num j → i = j
def rdF (n num : Nat) : Int → Int := fun j => (dg num (n - 1 - j.toNat) : Nat)
/-- fewer cannot be all -/
theorem no_surj : ∀ (n m : Nat) (f : Nat → Nat), m < n → ¬ ∀ v, v < n → ∃ j, j < m ∧ f j = v
  | 0, m, f, h => by omega
  | n + 1, m, f, h => fun hs => by
    obtain ⟨j0, a, b⟩ := hs n (by omega)
    refine no_surj n (m - 1) (fun k => if k = j0 then f (m - 1) else f k) (by omega) (fun v hv => ?_)
    obtain ⟨j, c, e⟩ := hs v (by omega)
    have hj : j ≠ j0 := fun z => by rw [z] at e; omega
    by_cases hm : j = m - 1
    · exact ⟨j0, by omega, by simp only [if_true]; rw [← hm]; exact e⟩
    · exact ⟨j, by omega, by simp only [if_neg hj]; exact e⟩
theorem surj_inj {n : Nat} {f : Nat → Nat} (hs : ∀ v, v < n → ∃ j, j < n ∧ f j = v) (i j : Nat) (hi : i < n) (hj : j < n) (he : f i = f j) : i = j := by
  rcases Nat.lt_trichotomy i j with z | z | z
  · exfalso
    refine no_surj n (n - 1) (fun k => if k = j then f (n - 1) else f k) (by omega) (fun v hv => ?_)
    obtain ⟨k, a, b⟩ := hs v hv
    by_cases hkj : k = j
    · exact ⟨i, by omega, by simp only [if_neg (show i ≠ j by omega)]; rw [he, ← hkj]; exact b⟩
    · by_cases hk : k = n - 1
      · exact ⟨j, by omega, by simp only [if_true]; rw [← hk]; exact b⟩
      · exact ⟨k, by omega, by simp only [if_neg hkj]; exact b⟩
  · exact z
  · exfalso
    refine no_surj n (n - 1) (fun k => if k = i then f (n - 1) else f k) (by omega) (fun v hv => ?_)
    obtain ⟨k, a, b⟩ := hs v hv
    by_cases hkj : k = i
    · exact ⟨j, by omega, by simp only [if_neg (show j ≠ i by omega)]; rw [← he, ← hkj]; exact b⟩
    · by_cases hk : k = n - 1
      · exact ⟨i, by omega, by simp only [if_true]; rw [← hk]; exact b⟩
      · exact ⟨k, by omega, by simp only [if_neg hkj]; exact b⟩
theorem inj_surj {n : Nat} {f : Nat → Nat} (hr : ∀ j, j < n → f j < n) (hi : ∀ i j, i < n → j < n → f i = f j → i = j) : ∀ v, v < n → ∃ j, j < n ∧ f j = v := by
  intro v0 hv0
  rcases Classical.em (∃ j, j < n ∧ f j = v0) with h | h
  · exact h
  · exfalso
    have hne : ∀ j, j < n → f j ≠ v0 := fun j hj he => h ⟨j, hj, he⟩
    have hg : ∀ j, j < n → (pFind (fun k => decide (f k = f j)) n).getD 0 = j := fun j hj => by
      rw [pFind_yes hj (by simp) (fun k hk => by simp; intro z; have := hi k j (by omega) hj z; omega)]; rfl
    refine no_surj n (n - 1) (fun u => (pFind (fun k => decide (f k = if u = v0 then n - 1 else u)) n).getD 0) (by omega) (fun j hj => ?_)
    have h1 := hr j hj
    have h2 := hne j hj
    by_cases e : f j = n - 1
    · refine ⟨v0, by omega, ?_⟩
      simp only [if_true]
      rw [← e]; exact hg j hj
    · refine ⟨f j, by omega, ?_⟩
      simp only [if_neg h2]
      exact hg j hj
theorem rdP_pm {n num : Nat} (h : rdP n num) : pPm n (rdF n num) := by
  obtain ⟨-, h1, h2⟩ := h
  have h3 := inj_surj h1 h2
  have e : ∀ j : Nat, rdF n num j = (dg num (n - 1 - j) : Nat) := fun j => rfl
  refine ⟨fun j hj => ?_, fun i j hi hj he => ?_, fun j hj => ?_⟩
  · rw [e]; have := h1 (n - 1 - j) (by omega); omega
  · rw [e, e] at he
    have := h2 (n - 1 - i) (n - 1 - j) (by omega) (by omega) (by omega); omega
  · obtain ⟨k, a, b⟩ := h3 j hj
    exact ⟨n - 1 - k, by omega, by rw [e, show n - 1 - (n - 1 - k) = k by omega, b]⟩
/-! bits -/
def pbN (tu : Int → Int) : Nat → Nat
  | 0 => 0
  | n + 1 => pbN tu n + if 0 < tu n then 2 ^ n else 0
theorem pbN_e (tu : Int → Int) : ∀ n, pBits tu n = (pbN tu n : Nat)
  | 0 => rfl
  | n + 1 => by unfold pBits pbN; rw [pbN_e tu n]; split <;> simp
theorem pbN_lt (tu : Int → Int) : ∀ n, pbN tu n < 2 ^ n
  | 0 => Nat.zero_lt_one
  | n + 1 => by have := pbN_lt tu n; unfold pbN; rw [Nat.pow_succ]; split <;> omega
theorem pbN_bit (tu : Int → Int) : ∀ n j, (pbN tu n).testBit j = (decide (j < n) && decide (0 < tu j))
  | 0, j => by simp [pbN]
  | n + 1, j => by
    have h1 := pbN_lt tu n
    have ih := pbN_bit tu n j
    unfold pbN
    by_cases hn : 0 < tu n
    · rw [if_pos hn, Nat.add_comm]
      rcases Nat.lt_trichotomy j n with z | z | z
      · rw [Nat.testBit_two_pow_add_gt z, ih, show decide (j < n) = decide (j < n + 1) from decide_eq_decide.mpr (by omega)]
      · subst z; rw [Nat.testBit_two_pow_add_eq, Nat.testBit_lt_two_pow h1]; simp [hn]
      · have h3 : 2 ^ (n + 1) ≤ 2 ^ j := Nat.pow_le_pow_right (by decide) (by omega)
        rw [Nat.pow_succ] at h3
        rw [Nat.testBit_lt_two_pow (by omega), show decide (j < n + 1) = false from decide_eq_false (by omega)]; rfl
    · rw [if_neg hn, Nat.add_zero, ih]
      by_cases e : j = n
      · subst e; simp; omega
      · rw [show decide (j < n) = decide (j < n + 1) from decide_eq_decide.mpr (by omega)]
theorem hd_bit {tu : Int → Int} {v : Nat} (hv : v < 10) : vAnd (vShr (pBits tu 10) v) 1 = if 0 < tu v then 1 else 0 := by
  have h1 := pbN_lt tu 10
  have h2 : pbN tu 10 / 2 ^ v ≤ pbN tu 10 := Nat.div_le_self _ _
  have hb := pbN_bit tu 10 v
  rw [Nat.testBit_eq_decide_div_mod_eq, show decide (v < 10) = true from decide_eq_true hv, Bool.true_and] at hb
  rw [pbN_e, vShr_nat (by omega) (by omega), show (1 : Int) = ((2 ^ 1 - 1 : Nat) : Int) from rfl, vAnd_nat 1 (by decide) (by omega)]
  have h3 := decide_eq_decide.mp hb
  by_cases hz : 0 < tu v
  · rw [if_pos hz]; have := h3.mpr hz; rw [Nat.pow_one]; omega
  · rw [if_neg hz]; have : ¬ _ := fun z => hz (h3.mp z); rw [Nat.pow_one]; omega
theorem hd_or {tu : Int → Int} {v : Nat} (hv : v < 10) : vOr (pBits tu 10) (vShl 1 v) = pBits (fSet tu v 1) 10 := by
  have h1 := pbN_lt tu 10
  have h2 : 2 ^ v ≤ 2 ^ 9 := Nat.pow_le_pow_right (by decide) (by omega)
  have e1 : vShl 1 v = ((2 ^ v : Nat) : Int) := by rw [show (1 : Int) = ((1 : Nat) : Int) from rfl, vShl_nat (by omega) (by omega), Nat.one_mul]
  rw [e1, pbN_e, pbN_e, vOr_nat (by omega) (by omega)]
  congr 1
  refine Nat.eq_of_testBit_eq (fun j => ?_)
  rw [Nat.testBit_or, pbN_bit, pbN_bit, Nat.testBit_two_pow, fSet_c]
  by_cases e : v = j
  · subst e; simp [hv]
  · rw [show decide (v = j) = false from decide_eq_false e, Bool.or_false, if_neg (fun z => e z.symm)]
theorem hd_all {tu : Int → Int} {n : Nat} (hn : n ≤ 6) : pBits tu 10 = ((2 ^ n - 1 : Nat) : Int) ↔ ∀ v : Nat, v < 10 → (0 < tu v ↔ v < n) := by
  rw [pbN_e]
  constructor
  · intro h v hv
    have e : pbN tu 10 = 2 ^ n - 1 := by omega
    have hb := pbN_bit tu 10 v
    rw [e, Nat.testBit_two_pow_sub_one, show decide (v < 10) = true from decide_eq_true hv, Bool.true_and] at hb
    exact (decide_eq_decide.mp hb).symm
  · intro h
    congr 1
    refine Nat.eq_of_testBit_eq (fun j => ?_)
    rw [pbN_bit, Nat.testBit_two_pow_sub_one]
    by_cases hj : j < 10
    · rw [show decide (j < 10) = true from decide_eq_true hj, Bool.true_and]
      exact decide_eq_decide.mpr (h j hj)
    · rw [show decide (j < 10) = false from decide_eq_false hj, show decide (j < n) = false from decide_eq_false (by omega)]; rfl
/-! ===== own: the class: SettingUp.readOrder ===== -/
/-- the row behind t digits -/
def rdR (n num t : Nat) (g : Int → Int) : Int → Int := fun j => if (n : Int) - t ≤ j ∧ j < n then rdF n num j else g j
theorem rdR_0 (n num : Nat) (g : Int → Int) : rdR n num 0 g = g := by funext j; unfold rdR; rw [if_neg (by omega)]
theorem rdR_s {n num t : Nat} {g : Int → Int} (ht : t < n) : fSet (rdR n num t g) ((n : Int) - 1 - t) (dg num t : Nat) = rdR n num (t + 1) g := by
  funext j
  unfold fSet rdR
  by_cases h : j = (n : Int) - 1 - t
  · rw [if_pos h, if_pos (by omega), h]; unfold rdF; rw [show n - 1 - ((n : Int) - 1 - t).toNat = t by omega]
  · rw [if_neg h]
    by_cases h2 : (n : Int) - t ≤ j ∧ j < n
    · rw [if_pos h2, if_pos (by omega)]
    · rw [if_neg h2, if_neg (by omega)]
theorem dg_div (num t : Nat) : num / 10 ^ t / 10 = num / 10 ^ (t + 1) := by rw [Nat.div_div_eq_div_mul, Nat.pow_succ]
def rdQ (n num : Nat) (M M1 : vM) (a : Nat) (r : Int) : Prop := mSame [a] M M1 ∧ ((r = 1 ∧ rdP n num ∧ pEq n (M1 a) (rdF n num)) ∨ (r = 0 ∧ ¬ rdP n num))
theorem dX2_readOrder_0 : decode cX2_readOrder 0 = .ok (.iload_n 1, 1) := by decide +kernel
theorem dX2_readOrder_1 : decode cX2_readOrder 1 = .ok (.istore_n 3, 1) := by decide +kernel
theorem dX2_readOrder_2 : decode cX2_readOrder 2 = .ok (.iconst 0, 1) := by decide +kernel
theorem dX2_readOrder_3 : decode cX2_readOrder 3 = .ok (.istore 4, 2) := by decide +kernel
theorem dX2_readOrder_5 : decode cX2_readOrder 5 = .ok (.iload_n 2, 1) := by decide +kernel
theorem dX2_readOrder_6 : decode cX2_readOrder 6 = .ok (.iconst 1, 1) := by decide +kernel
theorem dX2_readOrder_7 : decode cX2_readOrder 7 = .ok (.isub, 1) := by decide +kernel
theorem dX2_readOrder_8 : decode cX2_readOrder 8 = .ok (.istore 5, 2) := by decide +kernel
theorem dX2_readOrder_10 : decode cX2_readOrder 10 = .ok (.iload 5, 2) := by decide +kernel
theorem dX2_readOrder_12 : decode cX2_readOrder 12 = .ok (.ifCond .lt 57, 3) := by decide +kernel
theorem dX2_readOrder_15 : decode cX2_readOrder 15 = .ok (.iload_n 3, 1) := by decide +kernel
theorem dX2_readOrder_16 : decode cX2_readOrder 16 = .ok (.bipush 10, 2) := by decide +kernel
theorem dX2_readOrder_18 : decode cX2_readOrder 18 = .ok (.irem, 1) := by decide +kernel
theorem dX2_readOrder_19 : decode cX2_readOrder 19 = .ok (.istore 6, 2) := by decide +kernel
theorem dX2_readOrder_21 : decode cX2_readOrder 21 = .ok (.iload_n 3, 1) := by decide +kernel
theorem dX2_readOrder_22 : decode cX2_readOrder 22 = .ok (.bipush 10, 2) := by decide +kernel
theorem dX2_readOrder_24 : decode cX2_readOrder 24 = .ok (.idiv, 1) := by decide +kernel
theorem dX2_readOrder_25 : decode cX2_readOrder 25 = .ok (.istore_n 3, 1) := by decide +kernel
theorem dX2_readOrder_26 : decode cX2_readOrder 26 = .ok (.iload 6, 2) := by decide +kernel
theorem dX2_readOrder_28 : decode cX2_readOrder 28 = .ok (.iload_n 2, 1) := by decide +kernel
theorem dX2_readOrder_29 : decode cX2_readOrder 29 = .ok (.if_icmp .ge 14, 3) := by decide +kernel
theorem dX2_readOrder_32 : decode cX2_readOrder 32 = .ok (.iload 4, 2) := by decide +kernel
theorem dX2_readOrder_34 : decode cX2_readOrder 34 = .ok (.iload 6, 2) := by decide +kernel
theorem dX2_readOrder_36 : decode cX2_readOrder 36 = .ok (.ishr, 1) := by decide +kernel
theorem dX2_readOrder_37 : decode cX2_readOrder 37 = .ok (.iconst 1, 1) := by decide +kernel
theorem dX2_readOrder_38 : decode cX2_readOrder 38 = .ok (.iand, 1) := by decide +kernel
theorem dX2_readOrder_39 : decode cX2_readOrder 39 = .ok (.iconst 1, 1) := by decide +kernel
theorem dX2_readOrder_40 : decode cX2_readOrder 40 = .ok (.if_icmp .ne 5, 3) := by decide +kernel
theorem dX2_readOrder_43 : decode cX2_readOrder 43 = .ok (.iconst 0, 1) := by decide +kernel
theorem dX2_readOrder_44 : decode cX2_readOrder 44 = .ok (.ireturn, 1) := by decide +kernel
theorem dX2_readOrder_45 : decode cX2_readOrder 45 = .ok (.iload 4, 2) := by decide +kernel
theorem dX2_readOrder_47 : decode cX2_readOrder 47 = .ok (.iconst 1, 1) := by decide +kernel
theorem dX2_readOrder_48 : decode cX2_readOrder 48 = .ok (.iload 6, 2) := by decide +kernel
theorem dX2_readOrder_50 : decode cX2_readOrder 50 = .ok (.ishl, 1) := by decide +kernel
theorem dX2_readOrder_51 : decode cX2_readOrder 51 = .ok (.ior, 1) := by decide +kernel
theorem dX2_readOrder_52 : decode cX2_readOrder 52 = .ok (.istore 4, 2) := by decide +kernel
theorem dX2_readOrder_54 : decode cX2_readOrder 54 = .ok (.aload_n 0, 1) := by decide +kernel
theorem dX2_readOrder_55 : decode cX2_readOrder 55 = .ok (.getfield 9, 3) := by decide +kernel
theorem dX2_readOrder_58 : decode cX2_readOrder 58 = .ok (.iload 5, 2) := by decide +kernel
theorem dX2_readOrder_60 : decode cX2_readOrder 60 = .ok (.iload 6, 2) := by decide +kernel
theorem dX2_readOrder_62 : decode cX2_readOrder 62 = .ok (.iastore, 1) := by decide +kernel
theorem dX2_readOrder_63 : decode cX2_readOrder 63 = .ok (.iinc 5 (-1), 3) := by decide +kernel
theorem dX2_readOrder_66 : decode cX2_readOrder 66 = .ok (.goto (-56), 3) := by decide +kernel
theorem dX2_readOrder_69 : decode cX2_readOrder 69 = .ok (.iload_n 3, 1) := by decide +kernel
theorem dX2_readOrder_70 : decode cX2_readOrder 70 = .ok (.ifCond .ne 7, 3) := by decide +kernel
theorem dX2_readOrder_73 : decode cX2_readOrder 73 = .ok (.iconst 1, 1) := by decide +kernel
theorem dX2_readOrder_74 : decode cX2_readOrder 74 = .ok (.goto 4, 3) := by decide +kernel
theorem dX2_readOrder_77 : decode cX2_readOrder 77 = .ok (.iconst 0, 1) := by decide +kernel
theorem dX2_readOrder_78 : decode cX2_readOrder 78 = .ok (.ireturn, 1) := by decide +kernel
theorem l_X2_rd10 {d : List Nat} {T : vT} {M : vM} {n num : Nat} (hB : vB T) (hn : n ≤ 6) (hnum : num < 2147483648) : ∀ t, t ≤ n → (∀ j, j < t → dg num j < n) → (∀ i j, i < t → j < t → dg num i = dg num j → i = j) → ∀ x6,
    vV m_X2_readOrder d d (vPi fun r T1 M1 => T = T1 ∧ rdQ n num M M1 91 r) 10 [some (vR 90), some (vI num), some (vI n), some (vI (num / 10 ^ t : Nat)), some (vI (pBits (hdF num t) 10)), some (vI ((n : Int) - 1 - t)), x6] [] d T (vRow M 91 (rdR n num t (M 91))) := by
  refine vUp ?_
  intro t ht ih h1 h2 x6
  obtain ⟨rest, hrest⟩ : ∃ rest, rest = num / 10 ^ t := ⟨_, rfl⟩
  have hdg : dg num t = rest % 10 := by rw [hrest]; rfl
  have hd10 := dg_lt num t
  have hnx : rest / 10 = num / 10 ^ (t + 1) := by rw [hrest]; exact dg_div num t
  have hle : rest ≤ num := by rw [hrest]; exact Nat.div_le_self _ _
  have hle2 : rest / 10 ≤ rest := Nat.div_le_self _ _
  have hsm : ∀ g, mSame [91] M (vRow M 91 g) := fun g y hy => vRow_n (by simpa using hy)
  have hno : t < n → ¬ dg num t < n → ¬ rdP n num := fun a b c => b (c.2.1 t a)
  have hno2 : t < n → 0 < hdF num t (dg num t) → ¬ rdP n num := fun a b c => by
    obtain ⟨j, j1, j2⟩ := (hdF_iff num t _).mp b
    have := c.2.2 j t (by omega) a j2; omega
  have hok : t = n → rest = 0 → rdP n num := fun a b => by subst a; exact ⟨hrest ▸ b, h1, h2⟩
  have hno3 : t = n → rest ≠ 0 → ¬ rdP n num := fun a b c => by subst a; exact b (hrest.trans c.1)
  have hir : pBits (hdF num t) 10 < 1024 ∧ 0 ≤ pBits (hdF num t) 10 := by have := pBits_rg (hdF num t) 10; omega
  rw [← hrest]
  refine vV.iload dX2_readOrder_10 rfl ?_
  refine vV.if_lt (tgt := 69) dX2_readOrder_12 (by decide) (fun h12 => ?_) (fun h12 => ?_)
  · skip
    refine vV.iload_n dX2_readOrder_69 rfl ?_
    refine vV.if_ne (tgt := 77) dX2_readOrder_70 (by decide) (fun h70 => ?_) (fun h70 => ?_)
    · skip
      refine vV.iconst dX2_readOrder_77 (by decide) ?_
      refine vV.rz dX2_readOrder_78 rfl (by first | exact Or.inl rfl | exact Or.inr rfl | assumption) ?_
      first | exact ⟨rfl, hsm _, Or.inl ⟨rfl, hok (by omega) (by omega), fun j hj => by rw [vRow_s]; unfold rdR; rw [if_pos (by omega)]⟩⟩ | exact ⟨rfl, hsm _, Or.inr ⟨rfl, hno3 (by omega) (by omega)⟩⟩
    · skip
      refine vV.iconst dX2_readOrder_73 (by decide) ?_
      refine vV.goto (tgt := 78) dX2_readOrder_74 (by decide) ?_
      refine vV.rz dX2_readOrder_78 rfl (by first | exact Or.inl rfl | exact Or.inr rfl | assumption) ?_
      first | exact ⟨rfl, hsm _, Or.inl ⟨rfl, hok (by omega) (by omega), fun j hj => by rw [vRow_s]; unfold rdR; rw [if_pos (by omega)]⟩⟩ | exact ⟨rfl, hsm _, Or.inr ⟨rfl, hno3 (by omega) (by omega)⟩⟩
  · skip
    refine vV.iload_n dX2_readOrder_15 rfl ?_
    refine vV.bipush (v := 10) dX2_readOrder_16 (by decide) (by decide) ?_
    refine vV.irem dX2_readOrder_18 (by omega) (by rw [show (10 : Int) = ((10 : Nat) : Int) from rfl, td_nat]; exact ⟨by omega, by omega⟩) ?_
    rw [show (10 : Int) = ((10 : Nat) : Int) from rfl, tm_nat, ← hdg]
    refine vV.istore (L' := [_, _, _, _, _, _, _]) dX2_readOrder_19 (by decide) rfl ?_
    refine vV.iload_n dX2_readOrder_21 rfl ?_
    refine vV.bipush (v := 10) dX2_readOrder_22 (by decide) (by decide) ?_
    refine vV.idiv dX2_readOrder_24 (by omega) (by rw [show (10 : Int) = ((10 : Nat) : Int) from rfl, td_nat]; exact ⟨by omega, by omega⟩) ?_
    rw [show (10 : Int) = ((10 : Nat) : Int) from rfl, td_nat, hnx]
    refine vV.istore_n (L' := [_, _, _, _, _, _, _]) dX2_readOrder_25 (by decide) rfl ?_
    refine vV.iload dX2_readOrder_26 rfl ?_
    refine vV.iload_n dX2_readOrder_28 rfl ?_
    refine vV.icmp_ge (tgt := 43) dX2_readOrder_29 (by decide) (fun h29 => ?_) (fun h29 => ?_)
    · skip
      refine vV.iconst dX2_readOrder_43 (by decide) ?_
      refine vV.rz dX2_readOrder_44 rfl (by first | exact Or.inl rfl | exact Or.inr rfl | assumption) ?_
      first | exact ⟨rfl, hsm _, Or.inr ⟨rfl, hno (by omega) (by omega)⟩⟩ | exact ⟨rfl, hsm _, Or.inr ⟨rfl, hno2 (by omega) (Decidable.byContradiction fun z => by rw [if_neg z] at h40; omega)⟩⟩
    · skip
      refine vV.iload dX2_readOrder_32 rfl ?_
      refine vV.iload dX2_readOrder_34 rfl ?_
      refine vV.ishr dX2_readOrder_36 ?_
      refine vV.iconst dX2_readOrder_37 (by decide) ?_
      refine vV.iand dX2_readOrder_38 ?_
      refine vV.iconst dX2_readOrder_39 (by decide) ?_
      rw [hd_bit hd10]
      refine vV.icmp_ne (tgt := 45) dX2_readOrder_40 (by decide) (fun h40 => ?_) (fun h40 => ?_)
      · skip
        refine vV.iload dX2_readOrder_45 rfl ?_
        refine vV.iconst dX2_readOrder_47 (by decide) ?_
        refine vV.iload dX2_readOrder_48 rfl ?_
        refine vV.ishl dX2_readOrder_50 ?_
        refine vV.ior dX2_readOrder_51 ?_
        rw [hd_or hd10]
        refine vV.istore (L' := [_, _, _, _, _, _, _]) dX2_readOrder_52 (by decide) rfl ?_
        refine vV.aload_n dX2_readOrder_54 rfl ?_
        refine vV.getr dX2_readOrder_55 fl_X2_9 (by first | rfl | assumption) rfl (by first | assumption | exact hB _ _ _ rfl) ?_
        refine vV.iload dX2_readOrder_58 rfl ?_
        refine vV.iload dX2_readOrder_60 rfl ?_
        refine vV.iast dX2_readOrder_62 (by first | rfl | assumption) (by omega) (by omega) ?_
        rw [vUpd_vRow, rdR_s (by omega)]
        refine vV.iinc (L' := [_, _, _, _, _, _, _]) dX2_readOrder_63 (by decide) rfl (⟨by omega, by omega⟩) rfl ?_
        rw [show (n : Int) - 1 - t + -1 = (n : Int) - 1 - ((t + 1 : Nat) : Int) by omega]
        refine vV.goto (tgt := 10) dX2_readOrder_66 (by decide) ?_
        have hfree : ∀ j, j < t → dg num j ≠ dg num t := fun j hj he => h40 (if_pos ((hdF_iff num t _).mpr ⟨j, hj, he⟩))
        refine ih (by omega) (fun j hj => (Nat.lt_succ_iff_lt_or_eq.mp hj).elim (h1 j) (fun e => by subst e; omega)) (fun i j hi hj he => ?_) _
        rcases Nat.lt_succ_iff_lt_or_eq.mp hi with a | a <;> rcases Nat.lt_succ_iff_lt_or_eq.mp hj with b | b
        · exact h2 i j a b he
        · subst b; exact absurd he (hfree i a)
        · subst a; exact absurd he.symm (hfree j b)
        · omega
      · skip
        refine vV.iconst dX2_readOrder_43 (by decide) ?_
        refine vV.rz dX2_readOrder_44 rfl (by first | exact Or.inl rfl | exact Or.inr rfl | assumption) ?_
        first | exact ⟨rfl, hsm _, Or.inr ⟨rfl, hno (by omega) (by omega)⟩⟩ | exact ⟨rfl, hsm _, Or.inr ⟨rfl, hno2 (by omega) (Decidable.byContradiction fun z => by rw [if_neg z] at h40; omega)⟩⟩
theorem c_X2_readOrder {d : List Nat} {T : vT} {M : vM} {n num : Nat} (hB : vB T) (hn : n ≤ 6) (hnum : num < 2147483648) : vCon m_X2_readOrder d d [vR 90, vI num, vI n] T M (vPi fun r T1 M1 => T = T1 ∧ rdQ n num M M1 91 r) := by
  refine vCon.of (by decide) rfl rfl (Nat.le_of_ble_eq_true rfl) ?_
  have h := fun x6 => l_X2_rd10 (d := d) (T := T) (M := M) hB hn hnum 0 (by omega) (fun j hj => by omega) (fun i j hi => by omega) x6
  rw [rdR_0, vRow_id, Nat.pow_zero, Nat.div_one, show ((0 : Nat) : Int) = 0 from rfl, Int.sub_zero] at h
  refine vV.iload_n dX2_readOrder_0 rfl ?_
  refine vV.istore_n (L' := [_, _, _, _, _, _, _]) dX2_readOrder_1 (by decide) rfl ?_
  refine vV.iconst dX2_readOrder_2 (by decide) ?_
  refine vV.istore (L' := [_, _, _, _, _, _, _]) dX2_readOrder_3 (by decide) rfl ?_
  refine vV.iload_n dX2_readOrder_5 rfl ?_
  refine vV.iconst dX2_readOrder_6 (by decide) ?_
  refine vV.isub dX2_readOrder_7 (⟨by omega, by omega⟩) ?_
  refine vV.istore (L' := [_, _, _, _, _, _, _]) dX2_readOrder_8 (by decide) rfl ?_
  exact h _
theorem dX6_setUp_0 : decode cX6_setUp 0 = .ok (.iload_n 1, 1) := by decide +kernel
theorem dX6_setUp_1 : decode cX6_setUp 1 = .ok (.ifCond .ge 6, 3) := by decide +kernel
theorem dX6_setUp_4 : decode cX6_setUp 4 = .ok (.bipush (-2), 2) := by decide +kernel
theorem dX6_setUp_6 : decode cX6_setUp 6 = .ok (.ireturn, 1) := by decide +kernel
theorem dX6_setUp_7 : decode cX6_setUp 7 = .ok (.aload_n 0, 1) := by decide +kernel
theorem dX6_setUp_8 : decode cX6_setUp 8 = .ok (.getfield 10, 3) := by decide +kernel
theorem dX6_setUp_11 : decode cX6_setUp 11 = .ok (.getfield 66, 3) := by decide +kernel
theorem dX6_setUp_14 : decode cX6_setUp 14 = .ok (.ifCond .ne 6, 3) := by decide +kernel
theorem dX6_setUp_17 : decode cX6_setUp 17 = .ok (.bipush (-3), 2) := by decide +kernel
theorem dX6_setUp_19 : decode cX6_setUp 19 = .ok (.ireturn, 1) := by decide +kernel
theorem dX6_setUp_20 : decode cX6_setUp 20 = .ok (.aload_n 0, 1) := by decide +kernel
theorem dX6_setUp_21 : decode cX6_setUp 21 = .ok (.getfield 47, 3) := by decide +kernel
theorem dX6_setUp_24 : decode cX6_setUp 24 = .ok (.iload_n 1, 1) := by decide +kernel
theorem dX6_setUp_25 : decode cX6_setUp 25 = .ok (.aload_n 0, 1) := by decide +kernel
theorem dX6_setUp_26 : decode cX6_setUp 26 = .ok (.getfield 10, 3) := by decide +kernel
theorem dX6_setUp_29 : decode cX6_setUp 29 = .ok (.getfield 66, 3) := by decide +kernel
theorem dX6_setUp_32 : decode cX6_setUp 32 = .ok (.invokevirtual 200, 3) := by decide +kernel
theorem dX6_setUp_35 : decode cX6_setUp 35 = .ok (.ifCond .ne 6, 3) := by decide +kernel
theorem dX6_setUp_38 : decode cX6_setUp 38 = .ok (.bipush (-2), 2) := by decide +kernel
theorem dX6_setUp_40 : decode cX6_setUp 40 = .ok (.ireturn, 1) := by decide +kernel
theorem dX6_setUp_41 : decode cX6_setUp 41 = .ok (.aload_n 0, 1) := by decide +kernel
theorem dX6_setUp_42 : decode cX6_setUp 42 = .ok (.getfield 47, 3) := by decide +kernel
theorem dX6_setUp_45 : decode cX6_setUp 45 = .ok (.aload_n 0, 1) := by decide +kernel
theorem dX6_setUp_46 : decode cX6_setUp 46 = .ok (.getfield 10, 3) := by decide +kernel
theorem dX6_setUp_49 : decode cX6_setUp 49 = .ok (.invokevirtual 204, 3) := by decide +kernel
theorem dX6_setUp_52 : decode cX6_setUp 52 = .ok (.ireturn, 1) := by decide +kernel
def suQ (n : Nat) (num r s : Int) : Prop := (num < 0 ∧ r = -2) ∨ (0 ≤ num ∧ n = 0 ∧ r = -3) ∨ (0 ≤ num ∧ 0 < n ∧ rdP n num.toNat ∧ r = s) ∨ (0 ≤ num ∧ 0 < n ∧ ¬ rdP n num.toNat ∧ r = -2)
theorem c_X6_setUp {d : List Nat} {T : vT} {M : vM} {n : Nat} {num : Int} (hB : vB T) (hW : sgW M 10 n) (hnum : num < 2147483648) : vCon m_X6_setUp d d [vR 0, vI num] T M (vPi fun r T1 M1 => T = T1 ∧ mSame [91, 92] M M1 ∧ suQ n num r (suR (M 11) (M 12) (M 13) (M 15 0) (M 15 4) n (rdF n num.toNat))) := by
  refine vCon.of (by decide) rfl rfl (Nat.le_of_ble_eq_true rfl) ?_
  have hn := hW.le
  refine vV.iload_n dX6_setUp_0 rfl ?_
  refine vV.if_ge (tgt := 7) dX6_setUp_1 (by decide) (fun h1 => ?_) (fun h1 => ?_)
  · skip
    refine vV.aload_n dX6_setUp_7 rfl ?_
    refine vV.getr dX6_setUp_8 fl_X6_10 (by first | rfl | assumption) rfl (by first | assumption | exact hB _ _ _ rfl) ?_
    refine vV.geti (z := 0) dX6_setUp_11 fl_X6_66 (by first | rfl | assumption) rfl rfl ?_
    rw [hW.1]
    refine vV.if_ne (tgt := 20) dX6_setUp_14 (by decide) (fun h14 => ?_) (fun h14 => ?_)
    · skip
      obtain ⟨m, rfl⟩ : ∃ m : Nat, num = m := ⟨num.toNat, by omega⟩
      rw [Int.toNat_natCast] at *
      refine vV.aload_n dX6_setUp_20 rfl ?_
      refine vV.getr dX6_setUp_21 fl_X6_47 (by first | rfl | assumption) rfl (by first | assumption | exact hB _ _ _ rfl) ?_
      refine vV.iload_n dX6_setUp_24 rfl ?_
      refine vV.aload_n dX6_setUp_25 rfl ?_
      refine vV.getr dX6_setUp_26 fl_X6_10 (by first | rfl | assumption) rfl (by first | assumption | exact hB _ _ _ rfl) ?_
      refine vV.geti (z := 0) dX6_setUp_29 fl_X6_66 (by first | rfl | assumption) rfl rfl ?_
      rw [hW.1]
      refine vV.cVi dX6_setUp_32 ml_X6_200 cw_X2_readOrder iw_X2_readOrder (by first | rfl | assumption) rfl (by unfold vRoom; decide) (c_X2_readOrder (n := n) (num := m) hB hn (by omega)) rfl rfl (Nat.le_of_ble_eq_true rfl) ?_
      rintro x32 _ N hx32 ⟨rfl, h1, h2⟩
      refine vV.if_ne (tgt := 41) dX6_setUp_35 (by decide) (fun h35 => ?_) (fun h35 => ?_)
      · skip
        have hyp : rdP n m ∧ pEq n (N 91) (rdF n m) := h2.elim (fun z => z.2) (fun z => by omega)
        have hpm := rdP_pm hyp.1
        have hWN : sgW N 10 n := sgW_rows (h1 10 (by decide)) (h1 11 (by decide)) (h1 12 (by decide)) (h1 13 (by decide)) (h1 14 (by decide)) (h1 15 (by decide)) hW
        refine vV.aload_n dX6_setUp_41 rfl ?_
        refine vV.getr dX6_setUp_42 fl_X6_47 (by first | rfl | assumption) rfl (by first | assumption | exact hB _ _ _ rfl) ?_
        refine vV.aload_n dX6_setUp_45 rfl ?_
        refine vV.getr dX6_setUp_46 fl_X6_10 (by first | rfl | assumption) rfl (by first | assumption | exact hB _ _ _ rfl) ?_
        refine vV.cVi dX6_setUp_49 ml_X6_204 cw_X2_leastTurn iw_X2_leastTurn (by first | rfl | assumption) rfl (by unfold vRoom; decide) (c_X2_leastTurn (n := n) hB hWN (fun j hj => by rw [hyp.2 j hj]; exact hpm.1 j hj) rfl) rfl rfl (Nat.le_of_ble_eq_true rfl) ?_
        rintro x49 _ N1 hx49 ⟨rfl, h3, hx⟩
        refine vV.ri dX6_setUp_52 rfl ?_
        exact ⟨rfl, fun y hy => (h3 y (by simp at hy ⊢; omega)).trans (h1 y (by simp at hy ⊢; omega)), Or.inr (Or.inr (Or.inl ⟨by omega, by omega, hyp.1, by rw [hx, h1 11 (by decide), h1 12 (by decide), h1 13 (by decide), h1 15 (by decide)]; exact suR_cg pEq.rfl pEq.rfl pEq.rfl hyp.2 (fun j hj => by rw [hyp.2 j hj]; exact hpm.1 j hj)⟩))⟩
      · skip
        have hnp : ¬ rdP n m := h2.elim (fun z => by omega) (fun z => z.2)
        refine vV.bipush (v := (-2)) dX6_setUp_38 (by decide) (by decide) ?_
        refine vV.ri dX6_setUp_40 rfl ?_
        exact ⟨rfl, fun y hy => h1 y (by simp at hy ⊢; omega), Or.inr (Or.inr (Or.inr ⟨by omega, by omega, hnp, rfl⟩))⟩
    · skip
      refine vV.bipush (v := (-3)) dX6_setUp_17 (by decide) (by decide) ?_
      refine vV.ri dX6_setUp_19 rfl ?_
      exact ⟨rfl, fun _ _ => rfl, Or.inr (Or.inl ⟨by omega, by omega, rfl⟩)⟩
  · skip
    refine vV.bipush (v := (-2)) dX6_setUp_4 (by decide) (by decide) ?_
    refine vV.ri dX6_setUp_6 rfl ?_
    exact ⟨rfl, fun _ _ => rfl, Or.inl ⟨by omega, rfl⟩⟩
