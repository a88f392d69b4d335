/-! ===== own: the orders: each has each plate once; they end ===== -/
def pPm (n : Nat) (f : Int → Int) : Prop := (∀ j : Nat, j < n → 0 ≤ f j ∧ f j < n) ∧ (∀ i j : Nat, i < n → j < n → f i = f j → i = j) ∧ ∀ j : Nat, j < n → ∃ i : Nat, i < n ∧ f i = j
def pEq (n : Nat) (f g : Int → Int) : Prop := ∀ j : Nat, j < n → f j = g j
theorem pEq.symm {n : Nat} {f g : Int → Int} (h : pEq n f g) : pEq n g f := fun j hj => (h j hj).symm
theorem pEq.trans {n : Nat} {f g e : Int → Int} (h : pEq n f g) (h2 : pEq n g e) : pEq n f e := fun j hj => (h j hj).trans (h2 j hj)
theorem pEq.rfl {n : Nat} {f : Int → Int} : pEq n f f := fun _ _ => Eq.refl _
theorem fSw_c {f : Int → Int} {i j k : Nat} : fSw f i j k = if k = j then f i else if k = i then f j else f k := by unfold fSw; rw [fSet_c, fSet_c]
theorem fSw_pm {n : Nat} {f : Int → Int} {i j : Nat} (hi : i < n) (hj : j < n) (h : pPm n f) : pPm n (fSw f i j) := by
  obtain ⟨h1, h2, h3⟩ := h
  refine ⟨fun k hk => ?_, fun k l hk hl he => ?_, fun y hy => ?_⟩
  · rw [fSw_c]; split
    · exact h1 i hi
    · split
      · exact h1 j hj
      · exact h1 k hk
  · rw [fSw_c, fSw_c] at he
    split at he <;> split at he <;> (try split at he) <;> (try split at he) <;> first | omega | (have := h2 _ _ (by assumption) (by assumption) he; omega)
  · obtain ⟨k, hk, he⟩ := h3 y hy
    by_cases a : k = i
    · subst a; exact ⟨j, hj, by rw [fSw_c, if_pos rfl]; exact he⟩
    · by_cases b : k = j
      · subst b; exact ⟨i, hi, by rw [fSw_c, if_neg (Ne.symm a), if_pos rfl]; exact he⟩
      · exact ⟨k, hk, by rw [fSw_c, if_neg b, if_neg a]; exact he⟩
theorem fSw_cg {n : Nat} {f g : Int → Int} {i j : Nat} (hi : i < n) (hj : j < n) (h : pEq n f g) : pEq n (fSw f i j) (fSw g i j) := by
  intro k hk
  rw [fSw_c, fSw_c, h i hi, h j hj, h k hk]
theorem nRv_pm {n : Nat} : ∀ (k : Nat) (f : Int → Int) (a b : Int), 0 ≤ a → b < n → pPm n f → pPm n (nRv k f a b)
  | 0, f, a, b, _, _, h => h
  | k + 1, f, a, b, ha, hb, h => by
    by_cases hab : a < b
    · rw [nRv_t hab]
      obtain ⟨a', rfl⟩ : ∃ a' : Nat, a = a' := ⟨a.toNat, by omega⟩
      obtain ⟨b', rfl⟩ : ∃ b' : Nat, b = b' := ⟨b.toNat, by omega⟩
      exact nRv_pm k _ _ _ (by omega) (by omega) (fSw_pm (by omega) (by omega) h)
    · rw [nRv_f hab]; exact h
theorem nRv_cg {n : Nat} : ∀ (k : Nat) (f g : Int → Int) (a b : Int), 0 ≤ a → b < n → pEq n f g → pEq n (nRv k f a b) (nRv k g a b)
  | 0, f, g, a, b, _, _, h => h
  | k + 1, f, g, a, b, ha, hb, h => by
    by_cases hab : a < b
    · rw [nRv_t hab, nRv_t hab]
      obtain ⟨a', rfl⟩ : ∃ a' : Nat, a = a' := ⟨a.toNat, by omega⟩
      obtain ⟨b', rfl⟩ : ∃ b' : Nat, b = b' := ⟨b.toNat, by omega⟩
      exact nRv_cg k _ _ _ _ (by omega) (by omega) (fSw_cg (by omega) (by omega) h)
    · rw [nRv_f hab, nRv_f hab]; exact h
theorem nDes_cg {n : Nat} {f g : Int → Int} (h : pEq n f g) : ∀ k : Nat, k < n → nDes f k = nDes g k
  | 0, _ => rfl
  | k + 1, hk => by
    have e1 := h k (by omega)
    have e2 : f ((k : Int) + 1) = g ((k : Int) + 1) := h (k + 1) hk
    unfold nDes
    rw [e1, e2, nDes_cg h k (by omega)]
theorem nLst_cg {n i : Nat} {f g : Int → Int} (h : pEq n f g) (hi : i < n) : ∀ k : Nat, k < n → nLst f i k = nLst g i k
  | 0, _ => rfl
  | k + 1, hk => by
    have e1 := h i hi
    have e2 : f ((k : Int) + 1) = g ((k : Int) + 1) := h (k + 1) hk
    unfold nLst
    rw [e1, e2, nLst_cg h hi k (by omega)]
theorem nTo_pm {n i : Nat} {f : Int → Int} (hi : i + 1 < n) (h : pPm n f) : pPm n (nTo n f i) := by
  unfold nTo
  have := nLst_rg (f := f) (i := i) (j := n - 1) (by omega)
  exact nRv_pm 3 _ _ _ (by omega) (by omega) (fSw_pm (by omega) (by omega) h)
theorem nTo_cg {n i : Nat} {f g : Int → Int} (hi : i + 1 < n) (h : pEq n f g) : pEq n (nTo n f i) (nTo n g i) := by
  unfold nTo
  have := nLst_rg (f := f) (i := i) (j := n - 1) (by omega)
  rw [← nLst_cg h (by omega) (n - 1) (by omega)]
  exact nRv_cg 3 _ _ _ _ (by omega) (by omega) (fSw_cg (by omega) (by omega) h)
theorem nNx_pm {n : Nat} {f g : Int → Int} (h : nNx n f = some g) (hp : pPm n f) : pPm n g := by
  unfold nNx at h
  cases hd : nDes f (n - 1) with
  | none => rw [hd] at h; cases h
  | some i => rw [hd] at h; cases h; have := nDes_lt hd; exact nTo_pm (by omega) hp
theorem nNx_cg {n : Nat} {f g : Int → Int} (h1 : 1 ≤ n) (h : pEq n f g) : (nNx n f = none ∧ nNx n g = none) ∨ ∃ f' g', nNx n f = some f' ∧ nNx n g = some g' ∧ pEq n f' g' := by
  unfold nNx
  rw [← nDes_cg h (n - 1) (by omega)]
  cases hd : nDes f (n - 1) with
  | none => exact Or.inl ⟨rfl, rfl⟩
  | some i => have := nDes_lt hd; exact Or.inr ⟨_, _, rfl, rfl, nTo_cg (by omega) h⟩
/-- the orders end within k -/
def nFin (n : Nat) : Nat → (Int → Int) → Bool
  | 0, _ => false
  | k + 1, f => match nNx n f with
    | none => true
    | some g => nFin n k g
def cF (c : Nat) : Int → Int := fun j => ((c / 8 ^ j.toNat % 8 : Nat) : Int)
def cE (f : Int → Int) : Nat → Nat
  | 0 => 0
  | n + 1 => cE f n + (f n).toNat * 8 ^ n
def cFc {α : Type} (c : Nat) (k : Nat → α) : α := match c with
  | 0 => k 0
  | c + 1 => k (c + 1)
theorem cFc_e {α : Type} (c : Nat) (k : Nat → α) : cFc c k = k c := by cases c <;> rfl
def cFin (n : Nat) : Nat → Nat → Bool
  | 0, _ => false
  | k + 1, c => match nNx n (cF c) with
    | none => true
    | some g => cFc (cE g n) (cFin n k)
theorem cE_lt {f : Int → Int} : ∀ n : Nat, (∀ j : Nat, j < n → 0 ≤ f j ∧ f j < 8) → cE f n < 8 ^ n
  | 0, _ => Nat.zero_lt_one
  | n + 1, h => by
    have h1 := cE_lt n (fun j hj => h j (by omega))
    have h2 := h n (by omega)
    have h3 : (f n).toNat * 8 ^ n ≤ 7 * 8 ^ n := Nat.mul_le_mul_right _ (by omega)
    unfold cE
    rw [Nat.pow_succ]
    omega
theorem cE_F {f : Int → Int} : ∀ n : Nat, (∀ j : Nat, j < n → 0 ≤ f j ∧ f j < 8) → pEq n (cF (cE f n)) f
  | 0, _ => fun j hj => by omega
  | n + 1, h => fun j hj => by
    have h1 := cE_lt n (fun j hj => h j (by omega))
    have h2 := h n (by omega)
    unfold cF
    rw [show ((j : Nat) : Int).toNat = j from rfl]
    show (((cE f n + (f n).toNat * 8 ^ n) / 8 ^ j % 8 : Nat) : Int) = f j
    by_cases hjn : j = n
    · subst hjn
      rw [Nat.add_mul_div_right _ _ (Nat.pow_pos (by decide)), Nat.div_eq_of_lt h1]
      omega
    · have h3 := cE_F n (fun j hj => h j (by omega)) j (by omega)
      unfold cF at h3
      rw [show ((j : Nat) : Int).toNat = j from rfl] at h3
      obtain ⟨k, hk⟩ : ∃ k, n = j + 1 + k := ⟨n - j - 1, by omega⟩
      have e : (f n).toNat * 8 ^ n = (8 * ((f n).toNat * 8 ^ k)) * 8 ^ j := by
        rw [hk, Nat.pow_add, Nat.pow_add, Nat.pow_one]
        ac_rfl
      rw [e, Nat.add_mul_div_right _ _ (Nat.pow_pos (by decide)), Nat.add_mul_mod_self_left]
      exact h3
theorem nFin_c {n : Nat} (h1 : 1 ≤ n) (hn : n ≤ 6) : ∀ (k : Nat) (f : Int → Int) (c : Nat), pPm n f → pEq n f (cF c) → nFin n k f = cFin n k c
  | 0, f, c, _, _ => rfl
  | k + 1, f, c, hp, he => by
    unfold nFin cFin
    rcases nNx_cg h1 he with ⟨a, b⟩ | ⟨f', g', a, b, e⟩
    · rw [a, b]
    · rw [a, b]
      show nFin n k f' = cFc (cE g' n) (cFin n k)
      rw [cFc_e]
      have hp' := nNx_pm a hp
      refine nFin_c h1 hn k _ _ hp' (e.trans (cE_F n (fun j hj => ?_)).symm)
      have := hp'.1 j hj
      rw [← e j hj]; omega
theorem cFin_1 : cFin 1 720 (cE (fun j => j) 1) = true := by decide +kernel
theorem cFin_2 : cFin 2 720 (cE (fun j => j) 2) = true := by decide +kernel
theorem cFin_3 : cFin 3 720 (cE (fun j => j) 3) = true := by decide +kernel
theorem cFin_4 : cFin 4 720 (cE (fun j => j) 4) = true := by decide +kernel
theorem cFin_5 : cFin 5 720 (cE (fun j => j) 5) = true := by decide +kernel
theorem cFin_6 : cFin 6 720 (cE (fun j => j) 6) = true := by decide +kernel
theorem pPm_id (n : Nat) : pPm n (fun j => j) := ⟨fun j hj => by show (0 : Int) ≤ (j : Int) ∧ (j : Int) < n; omega, fun i j _ _ h => by have h' : (i : Int) = j := h; omega, fun j hj => ⟨j, hj, rfl⟩⟩
theorem nFin_cg {n : Nat} (h1 : 1 ≤ n) : ∀ (k : Nat) (f g : Int → Int), pEq n f g → nFin n k f = nFin n k g
  | 0, f, g, _ => rfl
  | k + 1, f, g, he => by
    unfold nFin
    rcases nNx_cg h1 he with ⟨a, b⟩ | ⟨f', g', a, b, e⟩
    · rw [a, b]
    · rw [a, b]; exact nFin_cg h1 k _ _ e
/-- the orders end within 720 -/
theorem nFin_720 {n : Nat} (h1 : 1 ≤ n) (hn : n ≤ 6) {f : Int → Int} (hf : pEq n f (fun j => j)) : nFin n 720 f = true := by
  rw [nFin_cg h1 720 _ _ hf, nFin_c h1 hn 720 _ (cE (fun j => j) n) (pPm_id n) (cE_F n (fun j hj => by omega)).symm]
  have : n = 1 ∨ n = 2 ∨ n = 3 ∨ n = 4 ∨ n = 5 ∨ n = 6 := by omega
  rcases this with rfl | rfl | rfl | rfl | rfl | rfl
  · exact cFin_1
  · exact cFin_2
  · exact cFin_3
  · exact cFin_4
  · exact cFin_5
  · exact cFin_6
