/-! ===== own: bits of small numbers; a loop upward ===== -/
theorem i32_nat (n : Nat) : Int32.ofInt (n : Int) = nI n := Int32.ofInt_eq_ofNat
theorem s_l' : ∀ n, n < 32 → ((nI n &&& 31).toBitVec.smod 32).toNat = n := by decide +kernel
theorem nI_or (a b : Nat) : nI a ||| nI b = nI (a ||| b) := by
  apply Int32.toBitVec_inj.mp
  rw [Int32.toBitVec_or]
  show BitVec.ofNat 32 a ||| BitVec.ofNat 32 b = BitVec.ofNat 32 (a ||| b)
  exact (BitVec.ofNat_or ..).symm
theorem vOr_nat {a b : Nat} (ha : a < 2 ^ 31) (hb : b < 2 ^ 31) : vOr a b = ((a ||| b : Nat) : Int) := by
  unfold vOr
  rw [i32_nat, i32_nat, nI_or, nI_toInt (Nat.or_lt_two_pow ha hb)]
theorem vOr_sum {a k : Nat} (b : Nat) (ha : a < 2 ^ k) (h : 2 ^ k * b + a < 2 ^ 31) : vOr a ((2 ^ k * b : Nat) : Int) = ((2 ^ k * b + a : Nat) : Int) := by
  rw [vOr_nat (by omega) (by omega), Nat.or_comm]
  congr 1
  rw [Nat.mul_comm, ← Nat.shiftLeft_eq]
  exact (Nat.shiftLeft_add_eq_or_of_lt ha b).symm
theorem vShl_nat {x k : Nat} (hk : k < 32) (h : x * 2 ^ k < 2 ^ 31) : vShl x k = ((x * 2 ^ k : Nat) : Int) := by
  unfold vShl
  rw [i32_nat, i32_nat, pk_shlN (nI k &&& 31) k (s_l' k hk) (by omega), nI_toInt h]
theorem vShr_nat {x k : Nat} (hk : k < 32) (h : x < 2 ^ 31) : vShr x k = ((x / 2 ^ k : Nat) : Int) := by
  unfold vShr
  have h2 : x / 2 ^ k ≤ x := Nat.div_le_self _ _
  rw [i32_nat, i32_nat, pk_shrN h (nI k &&& 31) k (s_l' k hk), nI_toInt (by omega)]
theorem vAnd_nat {x : Nat} (k : Nat) (hk : k ≤ 31) (h : x < 2 ^ 31) : vAnd x ((2 ^ k - 1 : Nat) : Int) = ((x % 2 ^ k : Nat) : Int) := by
  unfold vAnd
  have h2 : x % 2 ^ k ≤ x := Nat.mod_le _ _
  have hp : 2 ^ k ≤ 2 ^ 31 := Nat.pow_le_pow_right (by decide) hk
  rw [i32_nat, i32_nat, pk_andN (by omega) k (pk_tn (by omega)), nI_toInt (by omega)]
/-- a loop that counts up to n -/
theorem vUp {n : Nat} {C : Nat → Prop} (st : ∀ p, p ≤ n → (p < n → C (p + 1)) → C p) : ∀ p, p ≤ n → C p := by
  intro p hp
  obtain ⟨k, hk⟩ : ∃ k, n - p = k := ⟨_, rfl⟩
  induction k generalizing p with
  | zero => exact st p hp (fun h => by omega)
  | succ k ih => exact st p hp (fun h => ih (p + 1) (by omega) (by omega))
/-- a loop with a measure -/
theorem vDn {σ : Type} (μ : σ → Nat) {C : σ → Prop} (st : ∀ s, (∀ s', μ s' < μ s → C s') → C s) : ∀ s, C s := by
  intro s
  obtain ⟨k, hk⟩ : ∃ k, μ s = k := ⟨_, rfl⟩
  induction k using Nat.strongRecOn generalizing s with
  | _ k ih => exact st s (fun s' h => ih (μ s') (by omega) s' rfl)
