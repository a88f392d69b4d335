/-! ===== own: the exact part: open marks; positions; after ===== -/
theorem nI_and (a b : Nat) : nI a &&& nI b = nI (a &&& b) := by
  apply Int32.toBitVec_inj.mp
  rw [Int32.toBitVec_and]
  show BitVec.ofNat 32 a &&& BitVec.ofNat 32 b = BitVec.ofNat 32 (a &&& b)
  exact (BitVec.ofNat_and ..).symm
theorem vAnd_natN {a b : Nat} (ha : a < 2 ^ 31) (hb : b < 2 ^ 31) : vAnd a b = ((a &&& b : Nat) : Int) := by
  unfold vAnd
  have : a &&& b < 2 ^ 31 := Nat.and_lt_two_pow _ hb
  rw [i32_nat, i32_nat, nI_and, nI_toInt this]
theorem and_p16 (z : Nat) : z &&& 65536 = if z / 65536 % 2 = 1 then 65536 else 0 := by
  refine Nat.eq_of_testBit_eq (fun j => ?_)
  rw [Nat.testBit_and, show (65536 : Nat) = 2 ^ 16 from rfl, Nat.testBit_two_pow]
  by_cases h : 16 = j
  · subst h
    rw [Nat.testBit_eq_decide_div_mod_eq]
    by_cases h2 : z / 2 ^ 16 % 2 = 1
    · rw [if_pos h2, Nat.testBit_two_pow]; simp [h2]
    · rw [if_neg h2]; simp [h2]
  · rw [show decide (16 = j) = false from decide_eq_false h, Bool.and_false]
    split
    · rw [Nat.testBit_two_pow]; simp [h]
    · simp
theorem dX0_isOpen_0 : decode cX0_isOpen 0 = .ok (.aload_n 0, 1) := by decide +kernel
theorem dX0_isOpen_1 : decode cX0_isOpen 1 = .ok (.getfield 64, 3) := by decide +kernel
theorem dX0_isOpen_4 : decode cX0_isOpen 4 = .ok (.iload_n 1, 1) := by decide +kernel
theorem dX0_isOpen_5 : decode cX0_isOpen 5 = .ok (.iaload, 1) := by decide +kernel
theorem dX0_isOpen_6 : decode cX0_isOpen 6 = .ok (.ldc 79, 2) := by decide +kernel
theorem dX0_isOpen_8 : decode cX0_isOpen 8 = .ok (.iand, 1) := by decide +kernel
theorem dX0_isOpen_9 : decode cX0_isOpen 9 = .ok (.ifCond .eq 7, 3) := by decide +kernel
theorem dX0_isOpen_12 : decode cX0_isOpen 12 = .ok (.iconst 1, 1) := by decide +kernel
theorem dX0_isOpen_13 : decode cX0_isOpen 13 = .ok (.goto 4, 3) := by decide +kernel
theorem dX0_isOpen_16 : decode cX0_isOpen 16 = .ok (.iconst 0, 1) := by decide +kernel
theorem dX0_isOpen_17 : decode cX0_isOpen 17 = .ok (.ireturn, 1) := by decide +kernel
theorem c_X0_isOpen {d : List Nat} {T : vT} {M : vM} {p w : Nat} (hA : awT T) (hM : awM M) (hp : p < 32768) (hw : awK M p = some w) : vCon m_X0_isOpen d d [vR 100, vI p] T M (vPi fun r T1 M1 => r = bI (decide (65536 ≤ w)) ∧ T = T1 ∧ M = M1) := by
  obtain ⟨a1, a2, a3⟩ := hA
  obtain ⟨m1, m2⟩ := hM
  have h := m2 p hp
  obtain ⟨z, hz⟩ : ∃ z : Nat, M 106 p = z := ⟨(M 106 p).toNat, by omega⟩
  have hw2 : w = z % 131072 := by
    unfold awK at hw; rw [hz] at hw; split at hw
    · cases hw; omega
    · cases hw
  have hv : vAnd (M 106 p) 65536 = if 65536 ≤ w then 65536 else 0 := by
    rw [hz, show (65536 : Int) = ((65536 : Nat) : Int) from rfl, vAnd_natN (by omega) (by omega), and_p16]
    by_cases h2 : z / 65536 % 2 = 1
    · rw [if_pos h2, if_pos (by omega)]
    · rw [if_neg h2, if_neg (by omega)]; rfl
  refine vCon.of (by decide) rfl rfl (Nat.le_of_ble_eq_true rfl) ?_
  refine vV.aload_n dX0_isOpen_0 rfl ?_
  refine vV.getr dX0_isOpen_1 fl_X0_64 (by first | rfl | assumption) rfl (by first | assumption | exact hB _ _ _ rfl) ?_
  refine vV.iload_n dX0_isOpen_4 rfl ?_
  refine vV.iald dX0_isOpen_5 (by first | rfl | assumption) (by omega) (by omega) ?_
  refine vV.ldc (v := 65536) dX0_isOpen_6 kc_X0_79 (by decide) (by decide) ?_
  refine vV.iand dX0_isOpen_8 ?_
  rw [hv]
  refine vV.if_eq (tgt := 16) dX0_isOpen_9 (by decide) (fun h9 => ?_) (fun h9 => ?_)
  · skip
    have h8 : ¬ 65536 ≤ w := fun z => by rw [if_pos z] at h9; omega
    refine vV.iconst dX0_isOpen_16 (by decide) ?_
    refine vV.rz dX0_isOpen_17 rfl (by first | exact Or.inl rfl | exact Or.inr rfl | assumption) ?_
    first | exact ⟨by rw [show decide (65536 ≤ w) = true from decide_eq_true h8]; rfl, rfl, rfl⟩ | exact ⟨by rw [show decide (65536 ≤ w) = false from decide_eq_false h8]; rfl, rfl, rfl⟩
  · skip
    have h8 : 65536 ≤ w := Decidable.byContradiction fun z => by rw [if_neg z] at h9; omega
    refine vV.iconst dX0_isOpen_12 (by decide) ?_
    refine vV.goto (tgt := 17) dX0_isOpen_13 (by decide) ?_
    refine vV.rz dX0_isOpen_17 rfl (by first | exact Or.inl rfl | exact Or.inr rfl | assumption) ?_
    first | exact ⟨by rw [show decide (65536 ≤ w) = true from decide_eq_true h8]; rfl, rfl, rfl⟩ | exact ⟨by rw [show decide (65536 ≤ w) = false from decide_eq_false h8]; rfl, rfl, rfl⟩
/-! a position: his place, the turns of up to three plates -/
abbrev xS : Type := Nat × Nat × Nat × Nat
/-- how many plates, their places, fulls, falls; gives -/
abbrev xE : Type := Nat × (Nat → Int) × (Nat → Int) × (Nat → Int) × Int
def xt (s : xS) (k : Nat) : Nat := if k = 0 then s.2.1 else if k = 1 then s.2.2.1 else s.2.2.2
def enC (s : xS) : Nat := s.1 + 8 * s.2.1 + 128 * s.2.2.1 + 2048 * s.2.2.2
def enR (s : xS) : Nat := 4096 * s.1 + 256 * s.2.1 + 16 * s.2.2.1 + s.2.2.2
def xok (s : xS) : Prop := s.1 < 8 ∧ s.2.1 < 16 ∧ s.2.2.1 < 16 ∧ s.2.2.2 < 16
def xSt (E : xE) (s : xS) : Prop := s.1 < 8 ∧ ∀ k, k < 3 → (k < E.1 → 1 ≤ xt s k ∧ (xt s k : Int) ≤ E.2.2.1 k) ∧ (E.1 ≤ k → xt s k = 0)
def xEok (E : xE) : Prop := (1 ≤ E.1 ∧ E.1 ≤ 3) ∧ (∀ k, k < E.1 → (0 ≤ E.2.1 k ∧ E.2.1 k ≤ 7) ∧ (2 ≤ E.2.2.1 k ∧ E.2.2.1 k ≤ 15) ∧ 1 ≤ E.2.2.2.1 k ∧ E.2.2.2.1 k ≤ 3) ∧ (1 ≤ E.2.2.2.2 ∧ E.2.2.2.2 ≤ 6) ∧ ∀ i j, i < E.1 → j < E.1 → E.2.1 i = E.2.1 j → i = j
theorem xSt.ok {E : xE} {s : xS} (hE : xEok E) (h : xSt E s) : xok s := by
  obtain ⟨h1, h2⟩ := h
  have hb : ∀ k, k < 3 → xt s k < 16 := fun k hk => by
    rcases Nat.lt_or_ge k E.1 with z | z
    · have := (h2 k hk).1 z; have := (hE.2.1 k z).2.1; omega
    · rw [(h2 k hk).2 z]; decide
  exact ⟨h1, hb 0 (by decide), hb 1 (by decide), hb 2 (by decide)⟩
theorem enC_lt {s : xS} (h : xok s) : enC s < 32768 := by unfold enC; obtain ⟨a, b, c, d⟩ := h; omega
theorem enR_lt {s : xS} (h : xok s) : enR s < 32768 := by unfold enR; obtain ⟨a, b, c, d⟩ := h; omega
theorem enC_inj {s s' : xS} (h : xok s) (h' : xok s') (e : enC s = enC s') : s = s' := by
  obtain ⟨a, b, c, d⟩ := s
  obtain ⟨a', b', c', d'⟩ := s'
  obtain ⟨h1, h2, h3, h4⟩ := h
  obtain ⟨g1, g2, g3, g4⟩ := h'
  unfold enC at e
  simp only at h1 h2 h3 h4 g1 g2 g3 g4 e
  have e1 : a = a' := by omega
  have e2 : b = b' := by omega
  have e3 : c = c' := by omega
  have e4 : d = d' := by omega
  rw [e1, e2, e3, e4]
theorem enR_inj {s s' : xS} (h : xok s) (h' : xok s') (e : enR s = enR s') : s = s' := by
  obtain ⟨a, b, c, d⟩ := s
  obtain ⟨a', b', c', d'⟩ := s'
  obtain ⟨h1, h2, h3, h4⟩ := h
  obtain ⟨g1, g2, g3, g4⟩ := h'
  unfold enR at e
  simp only at h1 h2 h3 h4 g1 g2 g3 g4 e
  have e1 : a = a' := by omega
  have e2 : b = b' := by omega
  have e3 : c = c' := by omega
  have e4 : d = d' := by omega
  rw [e1, e2, e3, e4]
def xman (th man : Int) : Int := if th = 1 then man - 1 else if th = 2 then man + 1 else man
/-- the plate before him -/
def xat (E : xE) (man : Int) : Option Nat := pFind (fun k => decide (E.2.1 k = man)) E.1
/-- the turn of plate k behind the tick -/
def xv (E : xE) (th : Int) (s : xS) (k : Nat) : Int := (if th = 3 ∧ E.2.1 k = s.1 then min (E.2.2.1 k) (xt s k + E.2.2.2.2) else xt s k) - E.2.2.2.1 k
def xw (E : xE) (th : Int) (s : xS) (k : Nat) : Nat := if k < E.1 then (xv E th s k).toNat else 0
def xbad (E : xE) (th : Int) (s : xS) : Bool := decide (xman th s.1 < 0 ∨ 7 < xman th s.1) || (decide (th = 3) && (xat E s.1).isNone) || (pFind (fun k => decide (xv E th s k ≤ 0)) E.1).isSome
theorem xbad_m {E : xE} {th : Int} {s : xS} (h : xman th s.1 < 0 ∨ 7 < xman th s.1) : xbad E th s = true := by unfold xbad; rw [decide_eq_true h]; rfl
theorem xbad_w {E : xE} {s : xS} (h : xat E s.1 = none) : xbad E 3 s = true := by unfold xbad; rw [h]; simp
theorem xbad_f {E : xE} {th : Int} {s : xS} {k : Nat} (hk : k < E.1) (h : xv E th s k ≤ 0) : xbad E th s = true := by
  have h1 : (pFind (fun k => decide (xv E th s k ≤ 0)) E.1).isSome = true := by
    cases hq : pFind (fun k => decide (xv E th s k ≤ 0)) E.1 with
    | some q => rfl
    | none => have := pFind_some.pFind_none hq k hk; simp at this; omega
  unfold xbad; rw [h1]; simp
theorem xbad_no {E : xE} {th : Int} {s : xS} : xbad E th s = false ↔ (0 ≤ xman th s.1 ∧ xman th s.1 ≤ 7) ∧ (th = 3 → xat E s.1 ≠ none) ∧ ∀ k, k < E.1 → 0 < xv E th s k := by
  constructor
  · intro h
    refine ⟨Decidable.byContradiction fun z => ?_, fun h3 z => ?_, fun k hk => Decidable.byContradiction fun z => ?_⟩
    · rw [xbad_m (by omega)] at h; cases h
    · subst h3; rw [xbad_w z] at h; cases h
    · rw [xbad_f hk (by omega)] at h; cases h
  · rintro ⟨h1, h2, h3⟩
    have e3 : pFind (fun k => decide (xv E th s k ≤ 0)) E.1 = none := pFind_no (fun k hk => by have := h3 k hk; simp; exact this)
    unfold xbad
    rw [e3, decide_eq_false (by omega)]
    by_cases h : th = 3
    · have := h2 h
      cases hq : xat E s.1 with
      | none => exact absurd hq this
      | some q => simp
    · simp [h]
/-- the position behind a tick -/
def xn (E : xE) (th : Int) (s : xS) : Option xS := if xbad E th s = true then none else some ((xman th s.1).toNat, xw E th s 0, xw E th s 1, xw E th s 2)
theorem xn_none {E : xE} {th : Int} {s : xS} (h : xbad E th s = true) : xn E th s = none := if_pos h
theorem xn_some {E : xE} {th : Int} {s : xS} (h : xbad E th s = false) : xn E th s = some ((xman th s.1).toNat, xw E th s 0, xw E th s 1, xw E th s 2) := if_neg (by rw [h]; decide)
theorem xv_le {E : xE} {th : Int} {s : xS} {k : Nat} (hE : xEok E) (hs : xSt E s) (hk : k < E.1) : xv E th s k ≤ E.2.2.1 k ∧ -3 ≤ xv E th s k := by
  have h1 := (hs.2 k (by have := hE.1.2; omega)).1 hk
  have h2 := hE.2.1 k hk
  have h3 := hE.2.2.1
  unfold xv; split <;> omega
theorem xn_st {E : xE} {th : Int} {s s' : xS} (hE : xEok E) (hs : xSt E s) (h : xn E th s = some s') : xSt E s' := by
  cases hb : xbad E th s with
  | true => rw [xn_none hb] at h; cases h
  | false =>
    rw [xn_some hb] at h
    cases h
    obtain ⟨hm, -, hf⟩ := xbad_no.mp hb
    refine ⟨by show (xman th s.1).toNat < 8; omega, fun k hk => ?_⟩
    have e : xt ((xman th s.1).toNat, xw E th s 0, xw E th s 1, xw E th s 2) k = xw E th s k := by
      unfold xt
      rcases (show k = 0 ∨ k = 1 ∨ k = 2 by omega) with z | z | z <;> subst z <;> rfl
    rw [e]
    unfold xw
    refine ⟨fun h1 => ?_, fun h1 => if_neg (by omega)⟩
    rw [if_pos h1]
    have := hf k h1
    have := xv_le (th := th) hE hs h1
    omega
/-- AllWays holds the plates of E -/
def xC (M : vM) (E : xE) : Prop := M 100 0 = E.1 ∧ M 100 1 = E.2.2.2.2 ∧ (∀ k : Nat, k < E.1 → M 102 k = E.2.2.1 k ∧ M 103 k = E.2.2.2.1 k) ∧ ∀ w : Nat, w < 8 → M 104 w = pOr (-1) (xat E w)
def xr (o : Option xS) : Int := match o with
  | none => -1
  | some s => (enC s : Nat)
/-- the digits below k -/
def enK (m : Nat) (f : Nat → Nat) : Nat → Nat
  | 0 => m
  | k + 1 => enK m f k + f k * 2 ^ (3 + 4 * k)
theorem enC_dig {s : xS} (h : xok s) {k : Nat} (hk : k < 3) : enC s / 2 ^ (3 + 4 * k) % 16 = xt s k ∧ enC s % 8 = s.1 := by
  obtain ⟨h1, h2, h3, h4⟩ := h
  unfold enC xt
  rcases (show k = 0 ∨ k = 1 ∨ k = 2 by omega) with z | z | z <;> subst z <;> simp <;> omega
theorem shr_dig {p k : Nat} (hp : p < 32768) (hk : k < 3) : vAnd (vShr p (3 + 4 * (k : Int))) 15 = ((p / 2 ^ (3 + 4 * k) % 16 : Nat) : Int) := by
  have h1 : p / 2 ^ (3 + 4 * k) ≤ p := Nat.div_le_self _ _
  rw [show (3 + 4 * (k : Int)) = ((3 + 4 * k : Nat) : Int) by simp, vShr_nat (by omega) (by omega), show (15 : Int) = ((2 ^ 4 - 1 : Nat) : Int) from rfl, vAnd_nat 4 (by decide) (by omega)]
theorem enK_lt {m : Nat} {f : Nat → Nat} (hm : m < 8) : ∀ k, k ≤ 3 → (∀ j, j < k → f j < 16) → enK m f k < 2 ^ (3 + 4 * k)
  | 0, _, _ => by show m < 2 ^ 3; omega
  | k + 1, hk, h => by
    have h1 := enK_lt (f := f) hm k (by omega) (fun j hj => h j (by omega))
    have h2 := h k (by omega)
    have h3 : f k * 2 ^ (3 + 4 * k) ≤ 15 * 2 ^ (3 + 4 * k) := Nat.mul_le_mul_right _ (by omega)
    have e : 2 ^ (3 + 4 * (k + 1)) = 16 * 2 ^ (3 + 4 * k) := by rw [show 3 + 4 * (k + 1) = 3 + 4 * k + 4 by omega, Nat.pow_add]; omega
    unfold enK; omega
theorem enK_or {m : Nat} {f : Nat → Nat} (hm : m < 8) {k : Nat} (hk : k < 3) (h : ∀ j, j < k + 1 → f j < 16) : vOr ((enK m f k : Nat) : Int) (vShl (f k : Nat) (3 + 4 * (k : Int))) = ((enK m f (k + 1) : Nat) : Int) := by
  have h1 := enK_lt (f := f) hm k (by omega) (fun j hj => h j (by omega))
  have h2 := h k (by omega)
  have hp : 2 ^ (3 + 4 * k) ≤ 2 ^ 11 := Nat.pow_le_pow_right (by decide) (by omega)
  have h3 : f k * 2 ^ (3 + 4 * k) ≤ 15 * 2 ^ (3 + 4 * k) := Nat.mul_le_mul_right _ (by omega)
  rw [show (3 + 4 * (k : Int)) = ((3 + 4 * k : Nat) : Int) by simp, vShl_nat (by omega) (by omega), Nat.mul_comm, vOr_sum (f k) h1 (by rw [Nat.mul_comm]; omega)]
  congr 1
  rw [show enK m f (k + 1) = enK m f k + f k * 2 ^ (3 + 4 * k) from rfl, Nat.mul_comm, Nat.add_comm]
