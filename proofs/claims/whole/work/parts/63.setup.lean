/-! ===== own: setting up: words ===== -/
def suM (pl : Int → Int) (man : Int) (f : Int → Int) : Nat → Int
  | 0 => man
  | k + 1 => pl (f k)
/-- the tick at whose end k plates are up -/
def suT (pl : Int → Int) (man sets : Int) (f : Int → Int) : Nat → Int
  | 0 => 0
  | k + 1 => suT pl man sets f k + (pAbs (pl (f k)) (suM pl man f k) + sets)
def suL (v : Nat → Int) : Nat → Int
  | 0 => 15
  | k + 1 => min (suL v k) (v k)
def suV (pl fu fa : Int → Int) (man sets : Int) (n : Nat) (f : Int → Int) (i : Nat) : Int := fu (f i) - fa (f i) * (suT pl man sets f n - suT pl man sets f (i + 1))
def suR (pl fu fa : Int → Int) (man sets : Int) (n : Nat) (f : Int → Int) : Int := max 0 (suL (suV pl fu fa man sets n f) n)
theorem suL_15 (v : Nat → Int) : ∀ n, suL v n ≤ 15
  | 0 => Int.le_refl 15
  | n + 1 => by have := suL_15 v n; unfold suL; omega
theorem suL_le (v : Nat → Int) : ∀ n i, i < n → suL v n ≤ v i
  | 0, i, h => by omega
  | n + 1, i, h => by
    unfold suL
    by_cases e : i = n
    · subst e; omega
    · have := suL_le v n i (by omega); omega
theorem suL_at (v : Nat → Int) : ∀ n, suL v n = 15 ∨ ∃ i, i < n ∧ suL v n = v i
  | 0 => Or.inl rfl
  | n + 1 => by
    rcases (show min (suL v n) (v n) = suL v n ∨ min (suL v n) (v n) = v n by omega) with h | h
    · rcases suL_at v n with a | ⟨i, a, b⟩
      · exact Or.inl (h.trans a)
      · exact Or.inr ⟨i, by omega, h.trans b⟩
    · exact Or.inr ⟨n, by omega, h⟩
theorem suL_eq {v w : Nat → Int} {n : Nat} (h1 : ∀ i, i < n → ∃ j, j < n ∧ v i = w j) (h2 : ∀ j, j < n → ∃ i, i < n ∧ v i = w j) : suL v n = suL w n := by
  have a : suL v n ≤ suL w n := by
    rcases suL_at w n with z | ⟨j, z1, z2⟩
    · have := suL_15 v n; omega
    · obtain ⟨i, i1, i2⟩ := h2 j z1
      have := suL_le v n i i1; omega
  have b : suL w n ≤ suL v n := by
    rcases suL_at v n with z | ⟨i, z1, z2⟩
    · have := suL_15 w n; omega
    · obtain ⟨j, j1, j2⟩ := h1 i z1
      have := suL_le w n j j1; omega
  omega
theorem suL_cg {v w : Nat → Int} : ∀ {n : Nat}, (∀ i, i < n → v i = w i) → suL v n = suL w n
  | 0, _ => rfl
  | n + 1, h => by unfold suL; rw [suL_cg (n := n) (fun i hi => h i (by omega)), h n (by omega)]
theorem pAbs_rg {a b : Int} (ha : 0 ≤ a ∧ a ≤ 7) (hb : 0 ≤ b ∧ b ≤ 7) : 0 ≤ pAbs a b ∧ pAbs a b ≤ 7 := by unfold pAbs; split <;> omega
theorem suM_rg {pl f : Int → Int} {man : Int} (h7 : ∀ j, 0 ≤ pl j ∧ pl j ≤ 7) (hm : 0 ≤ man ∧ man ≤ 7) (k : Nat) : 0 ≤ suM pl man f k ∧ suM pl man f k ≤ 7 := by
  cases k with
  | zero => exact hm
  | succ k => exact h7 _
theorem suT_rg {pl f : Int → Int} {man sets : Int} (h7 : ∀ j, 0 ≤ pl j ∧ pl j ≤ 7) (hm : 0 ≤ man ∧ man ≤ 7) (hs : 1 ≤ sets ∧ sets ≤ 6) : ∀ k : Nat, 0 ≤ suT pl man sets f k ∧ suT pl man sets f k ≤ 13 * k
  | 0 => ⟨Int.le_refl 0, Int.le_refl 0⟩
  | k + 1 => by
    have h1 := suT_rg (f := f) h7 hm hs k
    have h2 := pAbs_rg (h7 (f k)) (suM_rg (f := f) h7 hm k)
    unfold suT; omega
theorem suT_mono {pl f : Int → Int} {man sets : Int} (h7 : ∀ j, 0 ≤ pl j ∧ pl j ≤ 7) (hm : 0 ≤ man ∧ man ≤ 7) (hs : 1 ≤ sets ∧ sets ≤ 6) : ∀ {i k : Nat}, i ≤ k → suT pl man sets f i ≤ suT pl man sets f k
  | i, 0, h => by rw [show i = 0 by omega]; omega
  | i, k + 1, h => by
    by_cases e : i = k + 1
    · rw [e]; omega
    · have h1 := suT_mono (f := f) h7 hm hs (i := i) (k := k) (by omega)
      have h2 := pAbs_rg (h7 (f k)) (suM_rg (f := f) h7 hm k)
      rw [show suT pl man sets f (k + 1) = suT pl man sets f k + (pAbs (pl (f k)) (suM pl man f k) + sets) from rfl]; omega
theorem mul_rg {a x : Int} {b : Int} (ha : 0 ≤ a ∧ a ≤ 3) (hx : 0 ≤ x ∧ x ≤ b) : 0 ≤ a * x ∧ a * x ≤ 3 * b := by
  refine ⟨Int.mul_nonneg ha.1 hx.1, ?_⟩
  have h1 : a * x ≤ 3 * x := Int.mul_le_mul_of_nonneg_right ha.2 hx.1
  omega
theorem suR_cg {n : Nat} {pl pl' fu fu' fa fa' f f' : Int → Int} {man sets : Int} (h1 : pEq n pl pl') (h2 : pEq n fu fu') (h3 : pEq n fa fa') (h4 : pEq n f f') (hf : ∀ j : Nat, j < n → 0 ≤ f j ∧ f j < n) : suR pl fu fa man sets n f = suR pl' fu' fa' man sets n f' := by
  have hx : ∀ {a a' : Int → Int}, pEq n a a' → ∀ k : Nat, k < n → a (f k) = a' (f' k) := fun {a a'} h k hk => by
    rw [← h4 k hk]
    obtain ⟨q, hq⟩ : ∃ q : Nat, f k = q := ⟨(f k).toNat, by have := hf k hk; omega⟩
    rw [hq]; exact h q (by have := hf k hk; omega)
  have eM : ∀ k, k ≤ n → suM pl man f k = suM pl' man f' k := fun k hk => by
    cases k with
    | zero => rfl
    | succ k => exact hx h1 k (by omega)
  have eT : ∀ k, k ≤ n → suT pl man sets f k = suT pl' man sets f' k := fun k => by
    induction k with
    | zero => intro _; rfl
    | succ k ih => intro hk; unfold suT; rw [ih (by omega), eM k (by omega), hx h1 k (by omega)]
  unfold suR
  rw [suL_cg (w := suV pl' fu' fa' man sets n f') (fun i hi => by unfold suV; rw [hx h2 i hi, hx h3 i hi, eT n (Nat.le_refl n), eT (i + 1) (by omega)])]
/-- an order as a number -/
def suN (f : Int → Int) : Nat → Int
  | 0 => 0
  | k + 1 => suN f k * 10 + f k
theorem suN_rg {f : Int → Int} {n : Nat} (h : ∀ j : Nat, j < n → 0 ≤ f j ∧ f j < 6) : ∀ k : Nat, k ≤ n → 0 ≤ suN f k ∧ suN f k < 10 ^ k
  | 0, _ => by unfold suN; decide
  | k + 1, hk => by
    have h1 := suN_rg h k (by omega)
    have h2 := h k (by omega)
    have e : (10 : Int) ^ (k + 1) = 10 ^ k * 10 := Int.pow_succ _ _
    unfold suN; rw [e]; omega
theorem suN_cg {f f' : Int → Int} : ∀ {n : Nat}, pEq n f f' → suN f n = suN f' n
  | 0, _ => rfl
  | n + 1, h => by unfold suN; rw [suN_cg (n := n) (fun j hj => h j (by omega)), h n (by omega)]
theorem abs_p (a b : Int) : max (a - b) (-(a - b)) = pAbs a b := by unfold pAbs; split <;> omega
/-! ===== own: the class: SettingUp.leastTurn, asNumber ===== -/
theorem dX2_leastTurn_0 : decode cX2_leastTurn 0 = .ok (.aload_n 1, 1) := by decide +kernel
theorem dX2_leastTurn_1 : decode cX2_leastTurn 1 = .ok (.getfield 18, 3) := by decide +kernel
theorem dX2_leastTurn_4 : decode cX2_leastTurn 4 = .ok (.istore_n 2, 1) := by decide +kernel
theorem dX2_leastTurn_5 : decode cX2_leastTurn 5 = .ok (.aload_n 1, 1) := by decide +kernel
theorem dX2_leastTurn_6 : decode cX2_leastTurn 6 = .ok (.getfield 24, 3) := by decide +kernel
theorem dX2_leastTurn_9 : decode cX2_leastTurn 9 = .ok (.iconst 0, 1) := by decide +kernel
theorem dX2_leastTurn_10 : decode cX2_leastTurn 10 = .ok (.iaload, 1) := by decide +kernel
theorem dX2_leastTurn_11 : decode cX2_leastTurn 11 = .ok (.istore_n 3, 1) := by decide +kernel
theorem dX2_leastTurn_12 : decode cX2_leastTurn 12 = .ok (.iconst 0, 1) := by decide +kernel
theorem dX2_leastTurn_13 : decode cX2_leastTurn 13 = .ok (.istore 4, 2) := by decide +kernel
theorem dX2_leastTurn_15 : decode cX2_leastTurn 15 = .ok (.iconst 0, 1) := by decide +kernel
theorem dX2_leastTurn_16 : decode cX2_leastTurn 16 = .ok (.istore 5, 2) := by decide +kernel
theorem dX2_leastTurn_18 : decode cX2_leastTurn 18 = .ok (.iload 5, 2) := by decide +kernel
theorem dX2_leastTurn_20 : decode cX2_leastTurn 20 = .ok (.iload_n 2, 1) := by decide +kernel
theorem dX2_leastTurn_21 : decode cX2_leastTurn 21 = .ok (.if_icmp .ge 54, 3) := by decide +kernel
theorem dX2_leastTurn_24 : decode cX2_leastTurn 24 = .ok (.aload_n 1, 1) := by decide +kernel
theorem dX2_leastTurn_25 : decode cX2_leastTurn 25 = .ok (.getfield 27, 3) := by decide +kernel
theorem dX2_leastTurn_28 : decode cX2_leastTurn 28 = .ok (.aload_n 0, 1) := by decide +kernel
theorem dX2_leastTurn_29 : decode cX2_leastTurn 29 = .ok (.getfield 9, 3) := by decide +kernel
theorem dX2_leastTurn_32 : decode cX2_leastTurn 32 = .ok (.iload 5, 2) := by decide +kernel
theorem dX2_leastTurn_34 : decode cX2_leastTurn 34 = .ok (.iaload, 1) := by decide +kernel
theorem dX2_leastTurn_35 : decode cX2_leastTurn 35 = .ok (.iaload, 1) := by decide +kernel
theorem dX2_leastTurn_36 : decode cX2_leastTurn 36 = .ok (.istore 6, 2) := by decide +kernel
theorem dX2_leastTurn_38 : decode cX2_leastTurn 38 = .ok (.iload 4, 2) := by decide +kernel
theorem dX2_leastTurn_40 : decode cX2_leastTurn 40 = .ok (.iload 6, 2) := by decide +kernel
theorem dX2_leastTurn_42 : decode cX2_leastTurn 42 = .ok (.iload_n 3, 1) := by decide +kernel
theorem dX2_leastTurn_43 : decode cX2_leastTurn 43 = .ok (.isub, 1) := by decide +kernel
theorem dX2_leastTurn_44 : decode cX2_leastTurn 44 = .ok (.invokestatic 30, 3) := by decide +kernel
theorem dX2_leastTurn_47 : decode cX2_leastTurn 47 = .ok (.aload_n 1, 1) := by decide +kernel
theorem dX2_leastTurn_48 : decode cX2_leastTurn 48 = .ok (.getfield 24, 3) := by decide +kernel
theorem dX2_leastTurn_51 : decode cX2_leastTurn 51 = .ok (.iconst 4, 1) := by decide +kernel
theorem dX2_leastTurn_52 : decode cX2_leastTurn 52 = .ok (.iaload, 1) := by decide +kernel
theorem dX2_leastTurn_53 : decode cX2_leastTurn 53 = .ok (.iadd, 1) := by decide +kernel
theorem dX2_leastTurn_54 : decode cX2_leastTurn 54 = .ok (.iadd, 1) := by decide +kernel
theorem dX2_leastTurn_55 : decode cX2_leastTurn 55 = .ok (.istore 4, 2) := by decide +kernel
theorem dX2_leastTurn_57 : decode cX2_leastTurn 57 = .ok (.iload 6, 2) := by decide +kernel
theorem dX2_leastTurn_59 : decode cX2_leastTurn 59 = .ok (.istore_n 3, 1) := by decide +kernel
theorem dX2_leastTurn_60 : decode cX2_leastTurn 60 = .ok (.aload_n 0, 1) := by decide +kernel
theorem dX2_leastTurn_61 : decode cX2_leastTurn 61 = .ok (.getfield 15, 3) := by decide +kernel
theorem dX2_leastTurn_64 : decode cX2_leastTurn 64 = .ok (.iload 5, 2) := by decide +kernel
theorem dX2_leastTurn_66 : decode cX2_leastTurn 66 = .ok (.iload 4, 2) := by decide +kernel
theorem dX2_leastTurn_68 : decode cX2_leastTurn 68 = .ok (.iastore, 1) := by decide +kernel
theorem dX2_leastTurn_69 : decode cX2_leastTurn 69 = .ok (.iinc 5 1, 3) := by decide +kernel
theorem dX2_leastTurn_72 : decode cX2_leastTurn 72 = .ok (.goto (-54), 3) := by decide +kernel
theorem dX2_leastTurn_75 : decode cX2_leastTurn 75 = .ok (.bipush 15, 2) := by decide +kernel
theorem dX2_leastTurn_77 : decode cX2_leastTurn 77 = .ok (.istore 5, 2) := by decide +kernel
theorem dX2_leastTurn_79 : decode cX2_leastTurn 79 = .ok (.iconst 0, 1) := by decide +kernel
theorem dX2_leastTurn_80 : decode cX2_leastTurn 80 = .ok (.istore 6, 2) := by decide +kernel
theorem dX2_leastTurn_82 : decode cX2_leastTurn 82 = .ok (.iload 6, 2) := by decide +kernel
theorem dX2_leastTurn_84 : decode cX2_leastTurn 84 = .ok (.iload_n 2, 1) := by decide +kernel
theorem dX2_leastTurn_85 : decode cX2_leastTurn 85 = .ok (.if_icmp .ge 51, 3) := by decide +kernel
theorem dX2_leastTurn_88 : decode cX2_leastTurn 88 = .ok (.aload_n 0, 1) := by decide +kernel
theorem dX2_leastTurn_89 : decode cX2_leastTurn 89 = .ok (.getfield 9, 3) := by decide +kernel
theorem dX2_leastTurn_92 : decode cX2_leastTurn 92 = .ok (.iload 6, 2) := by decide +kernel
theorem dX2_leastTurn_94 : decode cX2_leastTurn 94 = .ok (.iaload, 1) := by decide +kernel
theorem dX2_leastTurn_95 : decode cX2_leastTurn 95 = .ok (.istore 7, 2) := by decide +kernel
theorem dX2_leastTurn_97 : decode cX2_leastTurn 97 = .ok (.iload 5, 2) := by decide +kernel
theorem dX2_leastTurn_99 : decode cX2_leastTurn 99 = .ok (.aload_n 1, 1) := by decide +kernel
theorem dX2_leastTurn_100 : decode cX2_leastTurn 100 = .ok (.getfield 36, 3) := by decide +kernel
theorem dX2_leastTurn_103 : decode cX2_leastTurn 103 = .ok (.iload 7, 2) := by decide +kernel
theorem dX2_leastTurn_105 : decode cX2_leastTurn 105 = .ok (.iaload, 1) := by decide +kernel
theorem dX2_leastTurn_106 : decode cX2_leastTurn 106 = .ok (.aload_n 1, 1) := by decide +kernel
theorem dX2_leastTurn_107 : decode cX2_leastTurn 107 = .ok (.getfield 39, 3) := by decide +kernel
theorem dX2_leastTurn_110 : decode cX2_leastTurn 110 = .ok (.iload 7, 2) := by decide +kernel
theorem dX2_leastTurn_112 : decode cX2_leastTurn 112 = .ok (.iaload, 1) := by decide +kernel
theorem dX2_leastTurn_113 : decode cX2_leastTurn 113 = .ok (.iload 4, 2) := by decide +kernel
theorem dX2_leastTurn_115 : decode cX2_leastTurn 115 = .ok (.aload_n 0, 1) := by decide +kernel
theorem dX2_leastTurn_116 : decode cX2_leastTurn 116 = .ok (.getfield 15, 3) := by decide +kernel
theorem dX2_leastTurn_119 : decode cX2_leastTurn 119 = .ok (.iload 6, 2) := by decide +kernel
theorem dX2_leastTurn_121 : decode cX2_leastTurn 121 = .ok (.iaload, 1) := by decide +kernel
theorem dX2_leastTurn_122 : decode cX2_leastTurn 122 = .ok (.isub, 1) := by decide +kernel
theorem dX2_leastTurn_123 : decode cX2_leastTurn 123 = .ok (.imul, 1) := by decide +kernel
theorem dX2_leastTurn_124 : decode cX2_leastTurn 124 = .ok (.isub, 1) := by decide +kernel
theorem dX2_leastTurn_125 : decode cX2_leastTurn 125 = .ok (.invokestatic 42, 3) := by decide +kernel
theorem dX2_leastTurn_128 : decode cX2_leastTurn 128 = .ok (.istore 5, 2) := by decide +kernel
theorem dX2_leastTurn_130 : decode cX2_leastTurn 130 = .ok (.iinc 6 1, 3) := by decide +kernel
theorem dX2_leastTurn_133 : decode cX2_leastTurn 133 = .ok (.goto (-51), 3) := by decide +kernel
theorem dX2_leastTurn_136 : decode cX2_leastTurn 136 = .ok (.iconst 0, 1) := by decide +kernel
theorem dX2_leastTurn_137 : decode cX2_leastTurn 137 = .ok (.iload 5, 2) := by decide +kernel
theorem dX2_leastTurn_139 : decode cX2_leastTurn 139 = .ok (.invokestatic 46, 3) := by decide +kernel
theorem dX2_leastTurn_142 : decode cX2_leastTurn 142 = .ok (.ireturn, 1) := by decide +kernel
def suG (pl : Int → Int) (man sets : Int) (f : Int → Int) : Int → Int := fun j => suT pl man sets f (j.toNat + 1)
theorem l_X2_lt82 {d : List Nat} {T : vT} {N : vM} {n : Nat} {man' : Int} {pl f : Int → Int} {man sets : Int} (hB : vB T) (hn : n ≤ 6) (hf : ∀ j : Nat, j < n → 0 ≤ f j ∧ f j < n) (h91 : N 91 = f) (h92 : ∀ j : Nat, j < n → N 92 j = suT pl man sets f (j + 1)) (hfu : ∀ j, 0 ≤ N 12 j ∧ N 12 j ≤ 15) (hfa : ∀ j, 0 ≤ N 13 j ∧ N 13 j ≤ 3) (h7 : ∀ j, 0 ≤ pl j ∧ pl j ≤ 7) (hm : 0 ≤ man ∧ man ≤ 7) (hs : 1 ≤ sets ∧ sets ≤ 6) : ∀ k, k ≤ n → ∀ x7,
    vV m_X2_leastTurn d d (vPi fun r T1 M1 => T = T1 ∧ N = M1 ∧ r = suR pl (N 12) (N 13) man sets n f) 82 [some (vR 90), some (vR 10), some (vI n), some (vI man'), some (vI (suT pl man sets f n)), some (vI (suL (suV pl (N 12) (N 13) man sets n f) k)), some (vI k), x7] [] d T N := by
  refine vUp ?_
  intro k hk ih x7
  have hTn := suT_rg (f := f) h7 hm hs n
  have h15 := suL_15 (suV pl (N 12) (N 13) man sets n f) k
  refine vV.iload dX2_leastTurn_82 rfl ?_
  refine vV.iload_n dX2_leastTurn_84 rfl ?_
  refine vV.icmp_ge (tgt := 136) dX2_leastTurn_85 (by decide) (fun h85 => ?_) (fun h85 => ?_)
  · skip
    refine vV.iconst dX2_leastTurn_136 (by decide) ?_
    refine vV.iload dX2_leastTurn_137 rfl ?_
    refine vV.mmax dX2_leastTurn_139 ml_X2_46 mm_max (by decide) (Nat.le_of_ble_eq_true rfl) ?_
    refine vV.ri dX2_leastTurn_142 rfl ?_
    rw [show k = n by omega]; exact ⟨rfl, rfl, rfl⟩
  · skip
    have hfk := hf k (by omega)
    have hk2 := h92 k (by omega)
    have hTk := suT_rg (f := f) h7 hm hs (k + 1)
    have hmo := suT_mono (f := f) h7 hm hs (i := k + 1) (k := n) (by omega)
    have hfk2 := hfu (f k)
    have hfk3 := mul_rg (b := 78) (hfa (f k)) (x := suT pl man sets f n - suT pl man sets f (k + 1)) (by omega)
    refine vV.aload_n dX2_leastTurn_88 rfl ?_
    refine vV.getr dX2_leastTurn_89 fl_X2_9 (by first | rfl | assumption) rfl (by first | assumption | exact hB _ _ _ rfl) ?_
    refine vV.iload dX2_leastTurn_92 rfl ?_
    refine vV.iald dX2_leastTurn_94 (by first | rfl | assumption) (by omega) (by omega) ?_
    rw [h91]
    refine vV.istore (L' := [_, _, _, _, _, _, _, _]) dX2_leastTurn_95 (by decide) rfl ?_
    refine vV.iload dX2_leastTurn_97 rfl ?_
    refine vV.aload_n dX2_leastTurn_99 rfl ?_
    refine vV.getr dX2_leastTurn_100 fl_X2_36 (by first | rfl | assumption) rfl (by first | assumption | exact hB _ _ _ rfl) ?_
    refine vV.iload dX2_leastTurn_103 rfl ?_
    refine vV.iald dX2_leastTurn_105 (by first | rfl | assumption) (by omega) (by omega) ?_
    refine vV.aload_n dX2_leastTurn_106 rfl ?_
    refine vV.getr dX2_leastTurn_107 fl_X2_39 (by first | rfl | assumption) rfl (by first | assumption | exact hB _ _ _ rfl) ?_
    refine vV.iload dX2_leastTurn_110 rfl ?_
    refine vV.iald dX2_leastTurn_112 (by first | rfl | assumption) (by omega) (by omega) ?_
    refine vV.iload dX2_leastTurn_113 rfl ?_
    refine vV.aload_n dX2_leastTurn_115 rfl ?_
    refine vV.getr dX2_leastTurn_116 fl_X2_15 (by first | rfl | assumption) rfl (by first | assumption | exact hB _ _ _ rfl) ?_
    refine vV.iload dX2_leastTurn_119 rfl ?_
    refine vV.iald dX2_leastTurn_121 (by first | rfl | assumption) (by omega) (by omega) ?_
    rw [hk2]
    refine vV.isub dX2_leastTurn_122 (⟨by omega, by omega⟩) ?_
    refine vV.imul dX2_leastTurn_123 (⟨by omega, by omega⟩) ?_
    refine vV.isub dX2_leastTurn_124 (⟨by omega, by omega⟩) ?_
    refine vV.mmin dX2_leastTurn_125 ml_X2_42 mm_min (by decide) (Nat.le_of_ble_eq_true rfl) ?_
    refine vV.istore (L' := [_, _, _, _, _, _, _, _]) dX2_leastTurn_128 (by decide) rfl ?_
    refine vV.iinc (L' := [_, _, _, _, _, _, _, _]) dX2_leastTurn_130 (by decide) rfl (⟨by omega, by omega⟩) rfl ?_
    refine vV.goto (tgt := 82) dX2_leastTurn_133 (by decide) ?_
    exact ih (by omega) _
theorem l_X2_lt18 {d : List Nat} {T : vT} {M : vM} {n : Nat} {f : Int → Int} {man sets : Int} (hB : vB T) (hW : sgW M 10 n) (hf : ∀ j : Nat, j < n → 0 ≤ f j ∧ f j < n) (h91 : M 91 = f) (hman : M 15 0 = man) (hsets : M 15 4 = sets) : ∀ k, k ≤ n → ∀ x6 x7,
    vV m_X2_leastTurn d d (vPi fun r T1 M1 => T = T1 ∧ mSame [92] M M1 ∧ r = suR (M 11) (M 12) (M 13) man sets n f) 18 [some (vR 90), some (vR 10), some (vI n), some (vI (suM (M 11) man f k)), some (vI (suT (M 11) man sets f k)), some (vI k), x6, x7] [] d T (vRow M 92 (pMix k (suG (M 11) man sets f) (M 92))) := by
  obtain ⟨hc, hn, p2, p3, h7, hfu, hfa, ptu, pm, pg, pp, plg, pst, -⟩ := hW
  change ∀ j, 0 ≤ M 11 j ∧ M 11 j ≤ 7 at h7
  change ∀ j, 0 ≤ M 12 j ∧ M 12 j ≤ 15 at hfu
  change ∀ j, 0 ≤ M 13 j ∧ M 13 j ≤ 3 at hfa
  have hm : 0 ≤ man ∧ man ≤ 7 := by rw [← hman]; exact pm
  have hs : 1 ≤ sets ∧ sets ≤ 6 := by rw [← hsets]; exact pst
  refine vUp ?_
  intro k hk ih x6 x7
  have r : ∀ y, y ≠ 92 → vRow M 92 (pMix k (suG (M 11) man sets f) (M 92)) y = M y := fun y hy => vRow_n hy
  have hTk := suT_rg (f := f) h7 hm hs k
  have hMk := suM_rg (f := f) h7 hm k
  have hTk1 := suT_rg (f := f) h7 hm hs (k + 1)
  have e : fSet (pMix k (suG (M 11) man sets f) (M 92)) k (suT (M 11) man sets f (k + 1)) = pMix (k + 1) (suG (M 11) man sets f) (M 92) := pMix_s
  refine vV.iload dX2_leastTurn_18 rfl ?_
  refine vV.iload_n dX2_leastTurn_20 rfl ?_
  refine vV.icmp_ge (tgt := 75) dX2_leastTurn_21 (by decide) (fun h21 => ?_) (fun h21 => ?_)
  · skip
    refine vV.bipush (v := 15) dX2_leastTurn_75 (by decide) (by decide) ?_
    refine vV.istore (L' := [_, _, _, _, _, _, _, _]) dX2_leastTurn_77 (by decide) rfl ?_
    refine vV.iconst dX2_leastTurn_79 (by decide) ?_
    refine vV.istore (L' := [_, _, _, _, _, _, _, _]) dX2_leastTurn_80 (by decide) rfl ?_
    have hkn : k = n := by omega
    subst hkn
    have h := fun x7 => l_X2_lt82 (d := d) (T := T) (N := vRow M 92 (pMix k (suG (M 11) man sets f) (M 92))) (man' := suM (M 11) man f k) (pl := M 11) (f := f) (man := man) (sets := sets) hB hn hf (by rw [r 91 (by decide)]; exact h91) (fun j hj => by rw [vRow_s, pMix_lt hj]; rfl) (by rw [r 12 (by decide)]; exact hfu) (by rw [r 13 (by decide)]; exact hfa) h7 hm hs 0 (by omega) x7
    refine vV.imp (h _) ?_
    rintro y T1 M1 ⟨z, z1, z2, z3, z4, z5⟩
    refine ⟨z, z1, z2, z3, ?_, ?_⟩
    · rw [← z4]; exact fun y hy => vRow_n (by simpa using hy)
    · rw [z5, r 12 (by decide), r 13 (by decide)]
  · skip
    have hfk := hf k (by omega)
    have hpk := h7 (f k)
    have hab := pAbs_rg hpk hMk
    refine vV.aload_n dX2_leastTurn_24 rfl ?_
    refine vV.getr dX2_leastTurn_25 fl_X2_27 (by first | rfl | assumption) rfl (by first | assumption | exact hB _ _ _ rfl) ?_
    refine vV.aload_n dX2_leastTurn_28 rfl ?_
    refine vV.getr dX2_leastTurn_29 fl_X2_9 (by first | rfl | assumption) rfl (by first | assumption | exact hB _ _ _ rfl) ?_
    refine vV.iload dX2_leastTurn_32 rfl ?_
    refine vV.iald dX2_leastTurn_34 (by first | rfl | assumption) (by omega) (by omega) ?_
    rw [r 91 (by decide), h91]
    refine vV.iald dX2_leastTurn_35 (by first | rfl | assumption) (by omega) (by omega) ?_
    rw [r 11 (by decide)]
    refine vV.istore (L' := [_, _, _, _, _, _, _, _]) dX2_leastTurn_36 (by decide) rfl ?_
    refine vV.iload dX2_leastTurn_38 rfl ?_
    refine vV.iload dX2_leastTurn_40 rfl ?_
    refine vV.iload_n dX2_leastTurn_42 rfl ?_
    refine vV.isub dX2_leastTurn_43 (⟨by omega, by omega⟩) ?_
    refine vV.mabs dX2_leastTurn_44 ml_X2_30 mm_abs (by decide) (Nat.le_of_ble_eq_true rfl) (⟨by omega, by omega⟩) ?_
    rw [abs_p]
    refine vV.aload_n dX2_leastTurn_47 rfl ?_
    refine vV.getr dX2_leastTurn_48 fl_X2_24 (by first | rfl | assumption) rfl (by first | assumption | exact hB _ _ _ rfl) ?_
    refine vV.iconst dX2_leastTurn_51 (by decide) ?_
    refine vV.iald dX2_leastTurn_52 (by first | rfl | assumption) (by omega) (by omega) ?_
    rw [r 15 (by decide), hsets]
    refine vV.iadd dX2_leastTurn_53 (⟨by omega, by omega⟩) ?_
    refine vV.iadd dX2_leastTurn_54 (⟨by omega, by omega⟩) ?_
    refine vV.istore (L' := [_, _, _, _, _, _, _, _]) dX2_leastTurn_55 (by decide) rfl ?_
    refine vV.iload dX2_leastTurn_57 rfl ?_
    refine vV.istore_n (L' := [_, _, _, _, _, _, _, _]) dX2_leastTurn_59 (by decide) rfl ?_
    refine vV.aload_n dX2_leastTurn_60 rfl ?_
    refine vV.getr dX2_leastTurn_61 fl_X2_15 (by first | rfl | assumption) rfl (by first | assumption | exact hB _ _ _ rfl) ?_
    refine vV.iload dX2_leastTurn_64 rfl ?_
    refine vV.iload dX2_leastTurn_66 rfl ?_
    refine vV.iast dX2_leastTurn_68 (by first | rfl | assumption) (by omega) (by omega) ?_
    rw [vUpd_vRow, show suT (M 11) man sets f k + (pAbs (M 11 (f k)) (suM (M 11) man f k) + sets) = suT (M 11) man sets f (k + 1) from rfl, e]
    refine vV.iinc (L' := [_, _, _, _, _, _, _, _]) dX2_leastTurn_69 (by decide) rfl (⟨by omega, by omega⟩) rfl ?_
    refine vV.goto (tgt := 18) dX2_leastTurn_72 (by decide) ?_
    exact ih (by omega) _ _
theorem c_X2_leastTurn {d : List Nat} {T : vT} {M : vM} {n : Nat} {f : Int → Int} (hB : vB T) (hW : sgW M 10 n) (hf : ∀ j : Nat, j < n → 0 ≤ f j ∧ f j < n) (h91 : M 91 = f) : vCon m_X2_leastTurn d d [vR 90, vR 10] T M (vPi fun r T1 M1 => T = T1 ∧ mSame [92] M M1 ∧ r = suR (M 11) (M 12) (M 13) (M 15 0) (M 15 4) n f) := by
  refine vCon.of (by decide) rfl rfl (Nat.le_of_ble_eq_true rfl) ?_
  have h := fun x6 x7 => l_X2_lt18 (d := d) (T := T) hB hW hf h91 rfl rfl 0 (by omega) x6 x7
  rw [pMix_0, vRow_id] at h
  refine vV.aload_n dX2_leastTurn_0 rfl ?_
  refine vV.geti (z := 0) dX2_leastTurn_1 fl_X2_18 (by first | rfl | assumption) rfl rfl ?_
  rw [hW.1]
  refine vV.istore_n (L' := [_, _, _, _, _, _, _, _]) dX2_leastTurn_4 (by decide) rfl ?_
  refine vV.aload_n dX2_leastTurn_5 rfl ?_
  refine vV.getr dX2_leastTurn_6 fl_X2_24 (by first | rfl | assumption) rfl (by first | assumption | exact hB _ _ _ rfl) ?_
  refine vV.iconst dX2_leastTurn_9 (by decide) ?_
  refine vV.iald dX2_leastTurn_10 (by first | rfl | assumption) (by omega) (by omega) ?_
  refine vV.istore_n (L' := [_, _, _, _, _, _, _, _]) dX2_leastTurn_11 (by decide) rfl ?_
  refine vV.iconst dX2_leastTurn_12 (by decide) ?_
  refine vV.istore (L' := [_, _, _, _, _, _, _, _]) dX2_leastTurn_13 (by decide) rfl ?_
  refine vV.iconst dX2_leastTurn_15 (by decide) ?_
  refine vV.istore (L' := [_, _, _, _, _, _, _, _]) dX2_leastTurn_16 (by decide) rfl ?_
  exact h _ _
theorem dX2_asNumber_0 : decode cX2_asNumber 0 = .ok (.iconst 0, 1) := by decide +kernel
theorem dX2_asNumber_1 : decode cX2_asNumber 1 = .ok (.istore_n 2, 1) := by decide +kernel
theorem dX2_asNumber_2 : decode cX2_asNumber 2 = .ok (.iconst 0, 1) := by decide +kernel
theorem dX2_asNumber_3 : decode cX2_asNumber 3 = .ok (.istore_n 3, 1) := by decide +kernel
theorem dX2_asNumber_4 : decode cX2_asNumber 4 = .ok (.iload_n 3, 1) := by decide +kernel
theorem dX2_asNumber_5 : decode cX2_asNumber 5 = .ok (.iload_n 1, 1) := by decide +kernel
theorem dX2_asNumber_6 : decode cX2_asNumber 6 = .ok (.if_icmp .ge 21, 3) := by decide +kernel
theorem dX2_asNumber_9 : decode cX2_asNumber 9 = .ok (.iload_n 2, 1) := by decide +kernel
theorem dX2_asNumber_10 : decode cX2_asNumber 10 = .ok (.bipush 10, 2) := by decide +kernel
theorem dX2_asNumber_12 : decode cX2_asNumber 12 = .ok (.imul, 1) := by decide +kernel
theorem dX2_asNumber_13 : decode cX2_asNumber 13 = .ok (.aload_n 0, 1) := by decide +kernel
theorem dX2_asNumber_14 : decode cX2_asNumber 14 = .ok (.getfield 9, 3) := by decide +kernel
theorem dX2_asNumber_17 : decode cX2_asNumber 17 = .ok (.iload_n 3, 1) := by decide +kernel
theorem dX2_asNumber_18 : decode cX2_asNumber 18 = .ok (.iaload, 1) := by decide +kernel
theorem dX2_asNumber_19 : decode cX2_asNumber 19 = .ok (.iadd, 1) := by decide +kernel
theorem dX2_asNumber_20 : decode cX2_asNumber 20 = .ok (.istore_n 2, 1) := by decide +kernel
theorem dX2_asNumber_21 : decode cX2_asNumber 21 = .ok (.iinc 3 1, 3) := by decide +kernel
theorem dX2_asNumber_24 : decode cX2_asNumber 24 = .ok (.goto (-20), 3) := by decide +kernel
theorem dX2_asNumber_27 : decode cX2_asNumber 27 = .ok (.iload_n 2, 1) := by decide +kernel
theorem dX2_asNumber_28 : decode cX2_asNumber 28 = .ok (.ireturn, 1) := by decide +kernel
theorem l_X2_as4 {d : List Nat} {T : vT} {M : vM} {n : Nat} {f : Int → Int} (hB : vB T) (hn : n ≤ 6) (hf : ∀ j : Nat, j < n → 0 ≤ f j ∧ f j < 6) (h91 : M 91 = f) : ∀ k, k ≤ n →
    vV m_X2_asNumber d d (vPi fun r T1 M1 => r = suN f n ∧ T = T1 ∧ M = M1) 4 [some (vR 90), some (vI n), some (vI (suN f k)), some (vI k)] [] d T M := by
  refine vUp ?_
  intro k hk ih
  have h1 := suN_rg hf k hk
  have h2 : (10 : Int) ^ k ≤ 10 ^ 6 := by rcases (show k = 0 ∨ k = 1 ∨ k = 2 ∨ k = 3 ∨ k = 4 ∨ k = 5 ∨ k = 6 by omega) with z | z | z | z | z | z | z <;> rw [z] <;> decide
  refine vV.iload_n dX2_asNumber_4 rfl ?_
  refine vV.iload_n dX2_asNumber_5 rfl ?_
  refine vV.icmp_ge (tgt := 27) dX2_asNumber_6 (by decide) (fun h6 => ?_) (fun h6 => ?_)
  · skip
    refine vV.iload_n dX2_asNumber_27 rfl ?_
    refine vV.ri dX2_asNumber_28 rfl ?_
    rw [show k = n by omega]; exact ⟨rfl, rfl, rfl⟩
  · skip
    have hfk := hf k (by omega)
    refine vV.iload_n dX2_asNumber_9 rfl ?_
    refine vV.bipush (v := 10) dX2_asNumber_10 (by decide) (by decide) ?_
    refine vV.imul dX2_asNumber_12 (⟨by omega, by omega⟩) ?_
    refine vV.aload_n dX2_asNumber_13 rfl ?_
    refine vV.getr dX2_asNumber_14 fl_X2_9 (by first | rfl | assumption) rfl (by first | assumption | exact hB _ _ _ rfl) ?_
    refine vV.iload_n dX2_asNumber_17 rfl ?_
    refine vV.iald dX2_asNumber_18 (by first | rfl | assumption) (by omega) (by omega) ?_
    rw [h91]
    refine vV.iadd dX2_asNumber_19 (⟨by omega, by omega⟩) ?_
    refine vV.istore_n (L' := [_, _, _, _]) dX2_asNumber_20 (by decide) rfl ?_
    refine vV.iinc (L' := [_, _, _, _]) dX2_asNumber_21 (by decide) rfl (⟨by omega, by omega⟩) rfl ?_
    refine vV.goto (tgt := 4) dX2_asNumber_24 (by decide) ?_
    exact ih (by omega)
theorem c_X2_asNumber {d : List Nat} {T : vT} {M : vM} {n : Nat} {f : Int → Int} (hB : vB T) (hn : n ≤ 6) (hf : ∀ j : Nat, j < n → 0 ≤ f j ∧ f j < 6) (h91 : M 91 = f) : vCon m_X2_asNumber d d [vR 90, vI n] T M (vPi fun r T1 M1 => r = suN f n ∧ T = T1 ∧ M = M1) := by
  refine vCon.of (by decide) rfl rfl (Nat.le_of_ble_eq_true rfl) ?_
  refine vV.iconst dX2_asNumber_0 (by decide) ?_
  refine vV.istore_n (L' := [_, _, _, _]) dX2_asNumber_1 (by decide) rfl ?_
  refine vV.iconst dX2_asNumber_2 (by decide) ?_
  refine vV.istore_n (L' := [_, _, _, _]) dX2_asNumber_3 (by decide) rfl ?_
  exact l_X2_as4 hB hn hf h91 0 (by omega)
