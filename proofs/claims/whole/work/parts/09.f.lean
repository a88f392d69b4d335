/-! ===== own: rows of the store ===== -/
/-- the row k is f -/
def vRow (M : vM) (k : Nat) (f : Int → Int) : vM := fun a => if a = k then f else M a
def fSet (f : Int → Int) (i x : Int) : Int → Int := fun j => if j = i then x else f j
theorem vRow_s (M : vM) (k : Nat) (f : Int → Int) : vRow M k f k = f := if_pos rfl
theorem vRow_n {M : vM} {k a : Nat} {f : Int → Int} (h : a ≠ k) : vRow M k f a = M a := if_neg h
theorem vRow_id (M : vM) (k : Nat) : vRow M k (M k) = M := by funext a; unfold vRow; split <;> simp_all
theorem vRow_vRow (M : vM) (k : Nat) (f g : Int → Int) : vRow (vRow M k f) k g = vRow M k g := by funext a; unfold vRow; split <;> rfl
theorem vUpd_r (M : vM) (k : Nat) (i x : Int) : vUpd M k i x = vRow M k (fSet (M k) i x) := by
  funext a j; unfold vUpd vRow fSet; by_cases h : a = k <;> simp [h]
theorem vUpd_vRow (M : vM) (k : Nat) (f : Int → Int) (i x : Int) : vUpd (vRow M k f) k i x = vRow M k (fSet f i x) := by rw [vUpd_r, vRow_vRow, vRow_s]
theorem vRow_comm {M : vM} {k k' : Nat} {f g : Int → Int} (h : k ≠ k') : vRow (vRow M k f) k' g = vRow (vRow M k' g) k f := by
  funext a; unfold vRow
  by_cases h1 : a = k' <;> by_cases h2 : a = k <;> simp_all
theorem fSet_s (f : Int → Int) (i x : Int) : fSet f i x i = x := if_pos rfl
theorem fSet_n {f : Int → Int} {i j x : Int} (h : j ≠ i) : fSet f i x j = f j := if_neg h
theorem fSet_id (f : Int → Int) (i : Int) : fSet f i (f i) = f := by funext j; unfold fSet; split <;> simp_all
theorem fSet_fSet (f : Int → Int) (i x y : Int) : fSet (fSet f i x) i y = fSet f i y := by funext j; unfold fSet; split <;> rfl
theorem vUpd_s (M : vM) (k : Nat) (i x : Int) : vUpd M k i x k i = x := if_pos ⟨rfl, rfl⟩
theorem vUpd_nk {M : vM} {k a : Nat} {i j x : Int} (h : a ≠ k) : vUpd M k i x a j = M a j := if_neg (fun z => h z.1)
theorem vUpd_ni {M : vM} {k a : Nat} {i j x : Int} (h : j ≠ i) : vUpd M k i x a j = M a j := if_neg (fun z => h z.2)
theorem vCpy_r (M : vM) (a b : Nat) (n : Int) : vCpy M a 0 b 0 n = vRow M b (fun j => if 0 ≤ j ∧ j < n then M a j else M b j) := by
  funext k j; unfold vCpy vRow
  by_cases h : k = b
  · subst h; simp
  · simp [h]
