/-! ===== own: the reference: begin, and what the man sees ===== -/
def pMix (p : Nat) (f g : Int → Int) : Int → Int := fun j => if 0 ≤ j ∧ j < p then f j else g j
theorem pMix_0 (f g : Int → Int) : pMix 0 f g = g := by funext j; unfold pMix; rw [if_neg (by omega)]
theorem pMix_lt {p : Nat} {f g : Int → Int} {j : Nat} (h : j < p) : pMix p f g j = f j := by unfold pMix; rw [if_pos (by omega)]
theorem pMix_s {p : Nat} {f g : Int → Int} : fSet (pMix p f g) p (f p) = pMix (p + 1) f g := by
  funext j; unfold fSet pMix
  by_cases h : j = p
  · subst h; rw [if_pos rfl, if_pos (by omega)]
  · rw [if_neg h]
    by_cases h2 : 0 ≤ j ∧ j < p
    · rw [if_pos h2, if_pos (by omega)]
    · rw [if_neg h2, if_neg (by omega)]
def seM (M : vM) : Int → Int := fun j => if j = 0 then M 200 5 else if j = 1 then M 200 6 else if j = 2 then M 200 7 else if j = 3 then M 200 8 else if j = 4 then M 200 9 else 0
/-- the reference's rows are as told -/
def mW (M : vM) (n : Nat) : Prop := M 200 4 = n ∧ pW n (M 201) (M 202) (M 203) (M 204) (seM M) ∧ (∀ j : Nat, 0 ≤ M 211 j ∧ M 211 j ≤ 7) ∧ ∀ j : Nat, 0 ≤ M 212 j ∧ M 212 j ≤ 15
def mBegin (M M1 : vM) (n : Nat) : Prop := mSame [200, 211, 212, 218, 219] M M1 ∧ mSlot [12, 13, 14, 15, 16] M M1 ∧ M1 211 = pMix n (M 201) (M 211) ∧ M1 212 = pMix n (M 204) (M 212) ∧ M1 200 12 = M 200 5 ∧ M1 200 13 = -6 ∧ M1 200 14 = 0 ∧ M1 200 15 = -6 ∧ M1 200 16 = 0 ∧ M1 218 = fSet (M 218) 0 (pPack (M1 212) n) ∧ M1 219 = fSet (M 219) 0 (pRest (M 200 5) (-6) 0 (-6))
theorem dX7_begin_0 : decode cX7_begin 0 = .ok (.iconst 0, 1) := by decide +kernel
theorem dX7_begin_1 : decode cX7_begin 1 = .ok (.istore_n 1, 1) := by decide +kernel
theorem dX7_begin_2 : decode cX7_begin 2 = .ok (.iload_n 1, 1) := by decide +kernel
theorem dX7_begin_3 : decode cX7_begin 3 = .ok (.aload_n 0, 1) := by decide +kernel
theorem dX7_begin_4 : decode cX7_begin 4 = .ok (.getfield 89, 3) := by decide +kernel
theorem dX7_begin_7 : decode cX7_begin 7 = .ok (.if_icmp .ge 33, 3) := by decide +kernel
theorem dX7_begin_10 : decode cX7_begin 10 = .ok (.aload_n 0, 1) := by decide +kernel
theorem dX7_begin_11 : decode cX7_begin 11 = .ok (.getfield 22, 3) := by decide +kernel
theorem dX7_begin_14 : decode cX7_begin 14 = .ok (.iload_n 1, 1) := by decide +kernel
theorem dX7_begin_15 : decode cX7_begin 15 = .ok (.aload_n 0, 1) := by decide +kernel
theorem dX7_begin_16 : decode cX7_begin 16 = .ok (.getfield 7, 3) := by decide +kernel
theorem dX7_begin_19 : decode cX7_begin 19 = .ok (.iload_n 1, 1) := by decide +kernel
theorem dX7_begin_20 : decode cX7_begin 20 = .ok (.iaload, 1) := by decide +kernel
theorem dX7_begin_21 : decode cX7_begin 21 = .ok (.iastore, 1) := by decide +kernel
theorem dX7_begin_22 : decode cX7_begin 22 = .ok (.aload_n 0, 1) := by decide +kernel
theorem dX7_begin_23 : decode cX7_begin 23 = .ok (.getfield 25, 3) := by decide +kernel
theorem dX7_begin_26 : decode cX7_begin 26 = .ok (.iload_n 1, 1) := by decide +kernel
theorem dX7_begin_27 : decode cX7_begin 27 = .ok (.aload_n 0, 1) := by decide +kernel
theorem dX7_begin_28 : decode cX7_begin 28 = .ok (.getfield 19, 3) := by decide +kernel
theorem dX7_begin_31 : decode cX7_begin 31 = .ok (.iload_n 1, 1) := by decide +kernel
theorem dX7_begin_32 : decode cX7_begin 32 = .ok (.iaload, 1) := by decide +kernel
theorem dX7_begin_33 : decode cX7_begin 33 = .ok (.iastore, 1) := by decide +kernel
theorem dX7_begin_34 : decode cX7_begin 34 = .ok (.iinc 1 1, 3) := by decide +kernel
theorem dX7_begin_37 : decode cX7_begin 37 = .ok (.goto (-35), 3) := by decide +kernel
theorem dX7_begin_40 : decode cX7_begin 40 = .ok (.aload_n 0, 1) := by decide +kernel
theorem dX7_begin_41 : decode cX7_begin 41 = .ok (.aload_n 0, 1) := by decide +kernel
theorem dX7_begin_42 : decode cX7_begin 42 = .ok (.getfield 117, 3) := by decide +kernel
theorem dX7_begin_45 : decode cX7_begin 45 = .ok (.putfield 123, 3) := by decide +kernel
theorem dX7_begin_48 : decode cX7_begin 48 = .ok (.aload_n 0, 1) := by decide +kernel
theorem dX7_begin_49 : decode cX7_begin 49 = .ok (.bipush (-6), 2) := by decide +kernel
theorem dX7_begin_51 : decode cX7_begin 51 = .ok (.putfield 126, 3) := by decide +kernel
theorem dX7_begin_54 : decode cX7_begin 54 = .ok (.aload_n 0, 1) := by decide +kernel
theorem dX7_begin_55 : decode cX7_begin 55 = .ok (.iconst 0, 1) := by decide +kernel
theorem dX7_begin_56 : decode cX7_begin 56 = .ok (.putfield 129, 3) := by decide +kernel
theorem dX7_begin_59 : decode cX7_begin 59 = .ok (.aload_n 0, 1) := by decide +kernel
theorem dX7_begin_60 : decode cX7_begin 60 = .ok (.bipush (-6), 2) := by decide +kernel
theorem dX7_begin_62 : decode cX7_begin 62 = .ok (.putfield 132, 3) := by decide +kernel
theorem dX7_begin_65 : decode cX7_begin 65 = .ok (.aload_n 0, 1) := by decide +kernel
theorem dX7_begin_66 : decode cX7_begin 66 = .ok (.iconst 0, 1) := by decide +kernel
theorem dX7_begin_67 : decode cX7_begin 67 = .ok (.putfield 135, 3) := by decide +kernel
theorem dX7_begin_70 : decode cX7_begin 70 = .ok (.aload_n 0, 1) := by decide +kernel
theorem dX7_begin_71 : decode cX7_begin 71 = .ok (.invokevirtual 138, 3) := by decide +kernel
theorem dX7_begin_74 : decode cX7_begin 74 = .ok (.return_, 1) := by decide +kernel
def mLaid (M : vM) (p : Nat) : vM := vRow (vRow M 211 (pMix p (M 201) (M 211))) 212 (pMix p (M 204) (M 212))
theorem mLaid_s {M : vM} {p : Nat} : vUpd (vUpd (mLaid M p) 211 p (M 201 p)) 212 p (M 204 p) = mLaid M (p + 1) := by
  unfold mLaid
  rw [← pMix_s, ← pMix_s, vUpd_r, vUpd_r]
  rw [vRow_n (a := 212) (by decide), vRow_s, vRow_n (a := 211) (by decide), vRow_s]
  rw [vRow_comm (k := 212) (k' := 211) (by decide), vRow_vRow, vRow_vRow]
theorem mLaid_n {M : vM} {p k : Nat} (h1 : k ≠ 211) (h2 : k ≠ 212) : mLaid M p k = M k := by unfold mLaid; rw [vRow_n h2, vRow_n h1]
theorem l_X7_begin {d : List Nat} {T : vT} {M : vM} {n : Nat} (hB : vB T) (hW : mW M n) : ∀ p, p ≤ n →
    vV m_X7_begin d d (vPv fun T1 M1 => T = T1 ∧ mBegin M M1 n) 2 [some (vR 200), some (vI p)] [] d T (mLaid M p) := by
  obtain ⟨hc, hpw, w1, w2⟩ := hW
  have hn := hpw.1
  have htu : ∀ j : Nat, 0 ≤ M 204 j ∧ M 204 j ≤ 15 := fun j => by have a1 := hpw.2.2.2.2.2.2.1 j; have a2 := hpw.2.2.2.2.1 j; omega
  have hman : 0 ≤ M 200 5 ∧ M 200 5 ≤ 7 := hpw.2.2.2.2.2.2.2.1
  refine vUp ?_
  intro p hp ih
  have e2 : mLaid M p 200 = M 200 := mLaid_n (by decide) (by decide)
  have e1 : mLaid M p 201 = M 201 := mLaid_n (by decide) (by decide)
  have e4 : mLaid M p 204 = M 204 := mLaid_n (by decide) (by decide)
  refine vV.iload_n dX7_begin_2 rfl ?_
  refine vV.aload_n dX7_begin_3 rfl ?_
  refine vV.geti (z := 4) dX7_begin_4 fl_X7_89 (by first | rfl | assumption) rfl rfl ?_
  rw [e2]
  refine vV.icmp_ge (tgt := 40) dX7_begin_7 (by decide) (fun h7 => ?_) (fun h7 => ?_)
  · skip
    have hpn : p = n := by omega
    subst hpn
    refine vV.aload_n dX7_begin_40 rfl ?_
    refine vV.aload_n dX7_begin_41 rfl ?_
    refine vV.geti (z := 5) dX7_begin_42 fl_X7_117 (by first | rfl | assumption) rfl rfl ?_
    rw [e2]
    refine vV.puti (z := 12) dX7_begin_45 fl_X7_123 (by first | rfl | assumption) rfl rfl ?_
    refine vV.aload_n dX7_begin_48 rfl ?_
    refine vV.bipush (v := (-6)) dX7_begin_49 (by decide) (by decide) ?_
    refine vV.puti (z := 13) dX7_begin_51 fl_X7_126 (by first | rfl | assumption) rfl rfl ?_
    refine vV.aload_n dX7_begin_54 rfl ?_
    refine vV.iconst dX7_begin_55 (by decide) ?_
    refine vV.puti (z := 14) dX7_begin_56 fl_X7_129 (by first | rfl | assumption) rfl rfl ?_
    refine vV.aload_n dX7_begin_59 rfl ?_
    refine vV.bipush (v := (-6)) dX7_begin_60 (by decide) (by decide) ?_
    refine vV.puti (z := 15) dX7_begin_62 fl_X7_132 (by first | rfl | assumption) rfl rfl ?_
    refine vV.aload_n dX7_begin_65 rfl ?_
    refine vV.iconst dX7_begin_66 (by decide) ?_
    refine vV.puti (z := 16) dX7_begin_67 fl_X7_135 (by first | rfl | assumption) rfl rfl ?_
    obtain ⟨N, hN⟩ : ∃ N, N = vUpd (vUpd (vUpd (vUpd (vUpd (mLaid M p) 200 12 (M 200 5)) 200 13 (-6)) 200 14 0) 200 15 (-6)) 200 16 0 := ⟨_, rfl⟩
    rw [← hN]
    have f212 : N 212 = pMix p (M 204) (M 212) := by rw [hN]; funext j; simp only [vUpd_nk (show (212 : Nat) ≠ 200 by decide)]; unfold mLaid; rw [vRow_s]
    have f211 : N 211 = pMix p (M 201) (M 211) := by rw [hN]; funext j; simp only [vUpd_nk (show (211 : Nat) ≠ 200 by decide)]; unfold mLaid; rw [vRow_n (by decide), vRow_s]
    have fk : ∀ k, k ≠ 200 → k ≠ 211 → k ≠ 212 → N k = M k := by intro k a b c; rw [hN]; funext j; simp only [vUpd_nk a]; rw [mLaid_n b c]
    have f200 : ∀ j, j ∉ [12, 13, 14, 15, 16] → N 200 j = M 200 j := by intro j hj; simp at hj; rw [hN, vUpd_ni hj.2.2.2.2, vUpd_ni hj.2.2.2.1, vUpd_ni hj.2.2.1, vUpd_ni hj.2.1, vUpd_ni hj.1, e2]
    have f12 : N 200 12 = M 200 5 := by rw [hN]; simp [vUpd]
    have f13 : N 200 13 = -6 := by rw [hN]; simp [vUpd]
    have f14 : N 200 14 = 0 := by rw [hN]; simp [vUpd]
    have f15 : N 200 15 = -6 := by rw [hN]; simp [vUpd]
    have f16 : N 200 16 = (0 : Nat) := by rw [hN]; simp [vUpd]
    refine vV.aload_n dX7_begin_70 rfl ?_
    refine vV.cVv dX7_begin_71 ml_X7_138 cw_X7_note iw_X7_note (by first | rfl | assumption) rfl (by unfold vRoom; decide) (c_X7_note (n := p) (t := 0) hB (by rw [f200 _ (by decide)]; exact hc) hn (fun j => by rw [f212]; unfold pMix; split; exact htu j; exact w2 j) f16 (by omega) (by rw [f12]; omega) (by rw [f13]; omega) (by rw [f14]; omega) (by rw [f15]; omega)) rfl rfl (Nat.le_of_ble_eq_true rfl) ?_
    rintro _ _ ⟨rfl, rfl⟩
    refine vV.rv dX7_begin_74 rfl ?_
    refine ⟨rfl, fun k hk => ?_, fun j hj => ?_, ?_, ?_, ?_, ?_, ?_, ?_, ?_, ?_, ?_⟩
    · simp at hk; rw [← fk k hk.1 hk.2.1 hk.2.2.1]; funext j; rw [vUpd_nk hk.2.2.2.2, vUpd_nk hk.2.2.2.1]
    · rw [vUpd_nk (by decide), vUpd_nk (by decide)]; exact f200 j hj
    · rw [← f211]; funext j; rw [vUpd_nk (by decide), vUpd_nk (by decide)]
    · rw [← f212]; funext j; rw [vUpd_nk (by decide), vUpd_nk (by decide)]
    · rw [vUpd_nk (by decide), vUpd_nk (by decide)]; exact f12
    · rw [vUpd_nk (by decide), vUpd_nk (by decide)]; exact f13
    · rw [vUpd_nk (by decide), vUpd_nk (by decide)]; exact f14
    · rw [vUpd_nk (by decide), vUpd_nk (by decide)]; exact f15
    · rw [vUpd_nk (by decide), vUpd_nk (by decide)]; exact f16
    · rw [show vUpd (vUpd N 218 _ _) 219 _ _ 212 = N 212 from by { funext j; rw [vUpd_nk (by decide), vUpd_nk (by decide)] }, ← fk 218 (by decide) (by decide) (by decide)]; funext j; rw [vUpd_nk (by decide), vUpd_r, vRow_s]; rfl
    · rw [f12, f13, f14, f15, ← fk 219 (by decide) (by decide) (by decide), vUpd_r, vRow_s]; rfl
  · skip
    refine vV.aload_n dX7_begin_10 rfl ?_
    refine vV.getr dX7_begin_11 fl_X7_22 (by first | rfl | assumption) rfl (by first | assumption | exact hB _ _ _ rfl) ?_
    refine vV.iload_n dX7_begin_14 rfl ?_
    refine vV.aload_n dX7_begin_15 rfl ?_
    refine vV.getr dX7_begin_16 fl_X7_7 (by first | rfl | assumption) rfl (by first | assumption | exact hB _ _ _ rfl) ?_
    refine vV.iload_n dX7_begin_19 rfl ?_
    refine vV.iald dX7_begin_20 (by first | rfl | assumption) (by omega) (by omega) ?_
    rw [e1]
    refine vV.iast dX7_begin_21 (by first | rfl | assumption) (by omega) (by omega) ?_
    refine vV.aload_n dX7_begin_22 rfl ?_
    refine vV.getr dX7_begin_23 fl_X7_25 (by first | rfl | assumption) rfl (by first | assumption | exact hB _ _ _ rfl) ?_
    refine vV.iload_n dX7_begin_26 rfl ?_
    refine vV.aload_n dX7_begin_27 rfl ?_
    refine vV.getr dX7_begin_28 fl_X7_19 (by first | rfl | assumption) rfl (by first | assumption | exact hB _ _ _ rfl) ?_
    refine vV.iload_n dX7_begin_31 rfl ?_
    refine vV.iald dX7_begin_32 (by first | rfl | assumption) (by omega) (by omega) ?_
    rw [vUpd_nk (by decide), e4]
    refine vV.iast dX7_begin_33 (by first | rfl | assumption) (by omega) (by omega) ?_
    rw [mLaid_s]
    refine vV.iinc (L' := [_, _]) dX7_begin_34 (by decide) rfl (⟨by omega, by omega⟩) rfl ?_
    refine vV.goto (tgt := 2) dX7_begin_37 (by decide) ?_
    exact ih (by omega)
theorem mS_begin {M M1 : vM} {n : Nat} (hW : mW M n) (h : mBegin M M1 n) : mS M1 n 0 none none := by
  obtain ⟨hc, ⟨p1, p2, p3, p4, p5, p6, p7, p8, p9, p10, p11, p12, p13, p14⟩, w1, w2⟩ := hW
  obtain ⟨b1, b2, b3, b4, b5, b6, b7, b8, b9, b10, b11⟩ := h
  have e2 : M1 202 = M 202 := b1 202 (by decide)
  have e3 : M1 203 = M 203 := b1 203 (by decide)
  refine ⟨by rw [b2 4 (by decide)]; exact hc, p1, fun j => ?_, fun j => ?_, fun j => by rw [e2]; exact p5 j, fun j => by rw [e3]; exact p6 j, ?_, b6, (fun _ h => nomatch h), b8, (fun _ h => nomatch h), ?_, by rw [b2 7 (by decide)]; exact p10.2, by rw [b2 6 (by decide)]; exact p9, by rw [b5]; exact p8, b9⟩
  · rw [b4]; unfold pMix; split
    · have := p7 j; have := p5 j; omega
    · exact w2 j
  · rw [b3]; unfold pMix; split
    · exact p4 j
    · exact w1 j
  · intro i j hi hj hij; rw [b3, pMix_lt hi, pMix_lt hj] at hij; exact p14 i j hi hj hij
  · rw [b7, b2 7 (by decide)]; have : 1 ≤ M 200 7 := p10.1; omega
theorem c_X7_begin {d : List Nat} {T : vT} {M : vM} {n : Nat} (hB : vB T) (hW : mW M n) : vCon m_X7_begin d d [vR 200] T M (vPv fun T1 M1 => T = T1 ∧ mBegin M M1 n) := by
  refine vCon.of (by decide) rfl rfl (Nat.le_of_ble_eq_true rfl) ?_
  have h := l_X7_begin (d := d) hB hW 0 (by omega)
  rw [show mLaid M 0 = M from by unfold mLaid; rw [pMix_0, pMix_0, vRow_id, vRow_id]] at h
  refine vV.iconst dX7_begin_0 (by decide) ?_
  refine vV.istore_n (L' := [_, _]) dX7_begin_1 (by decide) rfl ?_
  exact h

theorem pPack_dig {f : Int → Int} (h : ∀ j : Nat, 0 ≤ f j ∧ f j ≤ 15) {p : Nat} : ∀ n, p < n → pPack f n / 16 ^ p % 16 = f p
  | 0, hp => by omega
  | n + 1, hp => by
    have hn := h n
    rw [pPack_s]
    by_cases hpn : p = n
    · subst hpn
      obtain ⟨a1, a2⟩ := pPack_rg f h p
      have hp0 : (0 : Int) < 16 ^ p := Int.pow_pos (by decide)
      rw [Int.add_mul_ediv_right _ _ (by omega), Int.ediv_eq_zero_of_lt a1 a2, Int.zero_add]
      exact Int.emod_eq_of_lt hn.1 (by omega)
    · have ih := pPack_dig h (p := p) n (by omega)
      obtain ⟨k, hk⟩ : ∃ k, n = p + 1 + k := ⟨n - p - 1, by omega⟩
      have hp0 : (0 : Int) < 16 ^ p := Int.pow_pos (by decide)
      have e : f n * 16 ^ n = (f n * 16 ^ k * 16) * 16 ^ p := by
        rw [hk, Int.pow_add, Int.pow_add]
        simp only [Int.pow_succ, Int.pow_zero, Int.one_mul, Int.mul_assoc, Int.mul_comm, Int.mul_left_comm]
      rw [e, Int.add_mul_ediv_right _ _ (by omega), ← ih]
      generalize f n * 16 ^ k = z
      generalize pPack f n / 16 ^ p = y
      omega
theorem seen_dig {f : Int → Int} (h : ∀ j : Nat, 0 ≤ f j ∧ f j ≤ 15) {n p : Nat} (hn : n ≤ 6) (hp : p < n) : vAnd (vShr (pPack f n) (4 * p)) 15 = f p := by
  obtain ⟨a1, a2⟩ := pPack_rg f h n
  obtain ⟨b, hb⟩ : ∃ b : Nat, pPack f n = b := ⟨(pPack f n).toNat, by omega⟩
  have hc : ((16 ^ n : Nat) : Int) = (16 : Int) ^ n := by simp
  have hle : (16 : Nat) ^ n ≤ 16 ^ 6 := Nat.pow_le_pow_right (by decide) hn
  have hlt : b < 2 ^ 31 := by rw [hb, ← hc] at a2; omega
  have e16 : (2 : Nat) ^ (4 * p) = 16 ^ p := by rw [Nat.pow_mul]
  have hd := pPack_dig h n hp
  rw [hb] at hd ⊢
  have hdiv : b / 2 ^ (4 * p) ≤ b := Nat.div_le_self _ _
  rw [show (4 * (p : Int)) = ((4 * p : Nat) : Int) by simp, vShr_nat (by omega) hlt, show (15 : Int) = ((2 ^ 4 - 1 : Nat) : Int) from rfl, vAnd_nat 4 (by decide) (by omega), e16, ← hd]
  simp
def mL (M : vM) (n t : Nat) (hist : Nat → Int → Int) : Prop := (∀ i : Nat, i ≤ t → M 218 i = pPack (hist i) n) ∧ ∀ (i j : Nat), 0 ≤ hist i j ∧ hist i j ≤ 15
/-- what he sees -/
def pSeen (pl tu f : Int → Int) (man : Int) (p : Nat) : Int := if pl p = man then tu p else f p
def pFar (pl : Int → Int) (man : Int) (p : Nat) : Int := pAbs (pl p) man
theorem dX7_seen_0 : decode cX7_seen 0 = .ok (.aload_n 0, 1) := by decide +kernel
theorem dX7_seen_1 : decode cX7_seen 1 = .ok (.getfield 22, 3) := by decide +kernel
theorem dX7_seen_4 : decode cX7_seen 4 = .ok (.iload_n 1, 1) := by decide +kernel
theorem dX7_seen_5 : decode cX7_seen 5 = .ok (.iaload, 1) := by decide +kernel
theorem dX7_seen_6 : decode cX7_seen 6 = .ok (.aload_n 0, 1) := by decide +kernel
theorem dX7_seen_7 : decode cX7_seen 7 = .ok (.getfield 123, 3) := by decide +kernel
theorem dX7_seen_10 : decode cX7_seen 10 = .ok (.if_icmp .ne 10, 3) := by decide +kernel
theorem dX7_seen_13 : decode cX7_seen 13 = .ok (.aload_n 0, 1) := by decide +kernel
theorem dX7_seen_14 : decode cX7_seen 14 = .ok (.getfield 25, 3) := by decide +kernel
theorem dX7_seen_17 : decode cX7_seen 17 = .ok (.iload_n 1, 1) := by decide +kernel
theorem dX7_seen_18 : decode cX7_seen 18 = .ok (.iaload, 1) := by decide +kernel
theorem dX7_seen_19 : decode cX7_seen 19 = .ok (.ireturn, 1) := by decide +kernel
theorem dX7_seen_20 : decode cX7_seen 20 = .ok (.aload_n 0, 1) := by decide +kernel
theorem dX7_seen_21 : decode cX7_seen 21 = .ok (.getfield 135, 3) := by decide +kernel
theorem dX7_seen_24 : decode cX7_seen 24 = .ok (.aload_n 0, 1) := by decide +kernel
theorem dX7_seen_25 : decode cX7_seen 25 = .ok (.getfield 120, 3) := by decide +kernel
theorem dX7_seen_28 : decode cX7_seen 28 = .ok (.if_icmp .ge 7, 3) := by decide +kernel
theorem dX7_seen_31 : decode cX7_seen 31 = .ok (.iconst 0, 1) := by decide +kernel
theorem dX7_seen_32 : decode cX7_seen 32 = .ok (.goto 12, 3) := by decide +kernel
theorem dX7_seen_35 : decode cX7_seen 35 = .ok (.aload_n 0, 1) := by decide +kernel
theorem dX7_seen_36 : decode cX7_seen 36 = .ok (.getfield 135, 3) := by decide +kernel
theorem dX7_seen_39 : decode cX7_seen 39 = .ok (.aload_n 0, 1) := by decide +kernel
theorem dX7_seen_40 : decode cX7_seen 40 = .ok (.getfield 120, 3) := by decide +kernel
theorem dX7_seen_43 : decode cX7_seen 43 = .ok (.isub, 1) := by decide +kernel
theorem dX7_seen_44 : decode cX7_seen 44 = .ok (.istore_n 2, 1) := by decide +kernel
theorem dX7_seen_45 : decode cX7_seen 45 = .ok (.aload_n 0, 1) := by decide +kernel
theorem dX7_seen_46 : decode cX7_seen 46 = .ok (.getfield 28, 3) := by decide +kernel
theorem dX7_seen_49 : decode cX7_seen 49 = .ok (.iload_n 2, 1) := by decide +kernel
theorem dX7_seen_50 : decode cX7_seen 50 = .ok (.iaload, 1) := by decide +kernel
theorem dX7_seen_51 : decode cX7_seen 51 = .ok (.iconst 4, 1) := by decide +kernel
theorem dX7_seen_52 : decode cX7_seen 52 = .ok (.iload_n 1, 1) := by decide +kernel
theorem dX7_seen_53 : decode cX7_seen 53 = .ok (.imul, 1) := by decide +kernel
theorem dX7_seen_54 : decode cX7_seen 54 = .ok (.ishr, 1) := by decide +kernel
theorem dX7_seen_55 : decode cX7_seen 55 = .ok (.bipush 15, 2) := by decide +kernel
theorem dX7_seen_57 : decode cX7_seen 57 = .ok (.iand, 1) := by decide +kernel
theorem dX7_seen_58 : decode cX7_seen 58 = .ok (.ireturn, 1) := by decide +kernel
theorem c_X7_seen {d : List Nat} {T : vT} {M : vM} {n t p lag : Nat} {g l : Option Nat} {hist : Nat → Int → Int} (hB : vB T) (hS : mS M n t g l) (hL : mL M n t hist) (ht : t ≤ 600) (hlag : M 200 8 = lag) (hl3 : lag ≤ 3) (hp : p < n) : vCon m_X7_seen d d [vR 200, vI p] T M (vPi fun r T1 M1 => r = pSeen (M 211) (M 212) (hist (t - lag)) (M 200 12) p ∧ T = T1 ∧ M = M1) := by
  obtain ⟨s1, s2, s3, s4, s5, s6, s7, s8, s9, s10, s11, s12, s13, s14, s15, s16⟩ := hS
  have hlog := hL.1 (t - lag) (by omega)
  have hdig := seen_dig (hL.2 (t - lag)) s2 hp
  refine vCon.of (by decide) rfl rfl (Nat.le_of_ble_eq_true rfl) ?_
  refine vV.aload_n dX7_seen_0 rfl ?_
  refine vV.getr dX7_seen_1 fl_X7_22 (by first | rfl | assumption) rfl (by first | assumption | exact hB _ _ _ rfl) ?_
  refine vV.iload_n dX7_seen_4 rfl ?_
  refine vV.iald dX7_seen_5 (by first | rfl | assumption) (by omega) (by omega) ?_
  refine vV.aload_n dX7_seen_6 rfl ?_
  refine vV.geti (z := 12) dX7_seen_7 fl_X7_123 (by first | rfl | assumption) rfl rfl ?_
  refine vV.icmp_ne (tgt := 20) dX7_seen_10 (by decide) (fun h10 => ?_) (fun h10 => ?_)
  · skip
    refine vV.aload_n dX7_seen_20 rfl ?_
    refine vV.geti (z := 16) dX7_seen_21 fl_X7_135 (by first | rfl | assumption) rfl rfl ?_
    refine vV.aload_n dX7_seen_24 rfl ?_
    refine vV.geti (z := 8) dX7_seen_25 fl_X7_120 (by first | rfl | assumption) rfl rfl ?_
    refine vV.icmp_ge (tgt := 35) dX7_seen_28 (by decide) (fun h28 => ?_) (fun h28 => ?_)
    · skip
      rw [hlag, s16] at h28
      refine vV.aload_n dX7_seen_35 rfl ?_
      refine vV.geti (z := 16) dX7_seen_36 fl_X7_135 (by first | rfl | assumption) rfl rfl ?_
      refine vV.aload_n dX7_seen_39 rfl ?_
      refine vV.geti (z := 8) dX7_seen_40 fl_X7_120 (by first | rfl | assumption) rfl rfl ?_
      rw [hlag, s16]
      refine vV.isub dX7_seen_43 (⟨by omega, by omega⟩) ?_
      refine vV.istore_n (L' := [_, _, _]) dX7_seen_44 (by decide) rfl ?_
      refine vV.aload_n dX7_seen_45 rfl ?_
      refine vV.getr dX7_seen_46 fl_X7_28 (by first | rfl | assumption) rfl (by first | assumption | exact hB _ _ _ rfl) ?_
      refine vV.iload_n dX7_seen_49 rfl ?_
      refine vV.iald dX7_seen_50 (by first | rfl | assumption) (by omega) (by omega) ?_
      rw [show (M 218 _ : Int) = pPack (hist (t - lag)) n from by rw [← hlog]; congr 1; omega]
      refine vV.iconst dX7_seen_51 (by decide) ?_
      refine vV.iload_n dX7_seen_52 rfl ?_
      refine vV.imul dX7_seen_53 (⟨by omega, by omega⟩) ?_
      refine vV.ishr dX7_seen_54 ?_
      refine vV.bipush (v := 15) dX7_seen_55 (by decide) (by decide) ?_
      refine vV.iand dX7_seen_57 ?_
      refine vV.ri dX7_seen_58 rfl ?_
      refine ⟨?_, rfl, rfl⟩; unfold pSeen; rw [if_neg h10, hdig]
    · skip
      rw [hlag, s16] at h28
      refine vV.iconst dX7_seen_31 (by decide) ?_
      refine vV.goto (tgt := 44) dX7_seen_32 (by decide) ?_
      refine vV.istore_n (L' := [_, _, _]) dX7_seen_44 (by decide) rfl ?_
      refine vV.aload_n dX7_seen_45 rfl ?_
      refine vV.getr dX7_seen_46 fl_X7_28 (by first | rfl | assumption) rfl (by first | assumption | exact hB _ _ _ rfl) ?_
      refine vV.iload_n dX7_seen_49 rfl ?_
      refine vV.iald dX7_seen_50 (by first | rfl | assumption) (by omega) (by omega) ?_
      rw [show (M 218 _ : Int) = pPack (hist (t - lag)) n from by rw [← hlog]; congr 1; omega]
      refine vV.iconst dX7_seen_51 (by decide) ?_
      refine vV.iload_n dX7_seen_52 rfl ?_
      refine vV.imul dX7_seen_53 (⟨by omega, by omega⟩) ?_
      refine vV.ishr dX7_seen_54 ?_
      refine vV.bipush (v := 15) dX7_seen_55 (by decide) (by decide) ?_
      refine vV.iand dX7_seen_57 ?_
      refine vV.ri dX7_seen_58 rfl ?_
      refine ⟨?_, rfl, rfl⟩; unfold pSeen; rw [if_neg h10, hdig]
  · skip
    refine vV.aload_n dX7_seen_13 rfl ?_
    refine vV.getr dX7_seen_14 fl_X7_25 (by first | rfl | assumption) rfl (by first | assumption | exact hB _ _ _ rfl) ?_
    refine vV.iload_n dX7_seen_17 rfl ?_
    refine vV.iald dX7_seen_18 (by first | rfl | assumption) (by omega) (by omega) ?_
    refine vV.ri dX7_seen_19 rfl ?_
    refine ⟨?_, rfl, rfl⟩; unfold pSeen; rw [if_pos h10]
theorem dX7_far_0 : decode cX7_far 0 = .ok (.aload_n 0, 1) := by decide +kernel
theorem dX7_far_1 : decode cX7_far 1 = .ok (.getfield 22, 3) := by decide +kernel
theorem dX7_far_4 : decode cX7_far 4 = .ok (.iload_n 1, 1) := by decide +kernel
theorem dX7_far_5 : decode cX7_far 5 = .ok (.iaload, 1) := by decide +kernel
theorem dX7_far_6 : decode cX7_far 6 = .ok (.aload_n 0, 1) := by decide +kernel
theorem dX7_far_7 : decode cX7_far 7 = .ok (.getfield 123, 3) := by decide +kernel
theorem dX7_far_10 : decode cX7_far 10 = .ok (.invokestatic 149, 3) := by decide +kernel
theorem dX7_far_13 : decode cX7_far 13 = .ok (.ireturn, 1) := by decide +kernel
theorem c_X7_far {d : List Nat} {T : vT} {M : vM} {n t p : Nat} {g l : Option Nat} (hB : vB T) (hS : mS M n t g l) (hp : p < n) : vCon m_X7_far d d [vR 200, vI p] T M (vPi fun r T1 M1 => r = pFar (M 211) (M 200 12) p ∧ T = T1 ∧ M = M1) := by
  obtain ⟨s1, s2, s3, s4, s5, s6, s7, s8, s9, s10, s11, s12, s13, s14, s15, s16⟩ := hS
  have b1 := s4 p
  refine vCon.of (by decide) rfl rfl (Nat.le_of_ble_eq_true rfl) ?_
  refine vV.aload_n dX7_far_0 rfl ?_
  refine vV.getr dX7_far_1 fl_X7_22 (by first | rfl | assumption) rfl (by first | assumption | exact hB _ _ _ rfl) ?_
  refine vV.iload_n dX7_far_4 rfl ?_
  refine vV.iald dX7_far_5 (by first | rfl | assumption) (by omega) (by omega) ?_
  refine vV.aload_n dX7_far_6 rfl ?_
  refine vV.geti (z := 12) dX7_far_7 fl_X7_123 (by first | rfl | assumption) rfl rfl ?_
  refine vV.cSi dX7_far_10 ml_X7_149 cw_X7_apart sw_X7_apart (by unfold vRoom; decide) (c_X7_apart (by omega) (by omega)) rfl rfl (Nat.le_of_ble_eq_true rfl) ?_
  rintro x10 _ _ hx10 ⟨rfl, rfl, rfl⟩
  refine vV.ri dX7_far_13 rfl ?_
  exact ⟨rfl, rfl, rfl⟩
/-- the first of the least -/
def pMin (S : Nat → Bool) (v : Nat → Int) : Nat → Option Nat
  | 0 => none
  | n + 1 => match pMin S v n with
    | none => if S n then some n else none
    | some b => if S n && decide (v n < v b) then some n else some b
theorem pMin_lt {S : Nat → Bool} {v : Nat → Int} : ∀ {n k : Nat}, pMin S v n = some k → k < n
  | 0, k, h => by cases h
  | n + 1, k, h => by
    unfold pMin at h
    cases hz : pMin S v n with
    | none => rw [hz] at h; simp only at h; split at h; cases h; omega; cases h
    | some b =>
      have := pMin_lt hz
      rw [hz] at h; simp only at h; split at h <;> cases h <;> omega
theorem pMin_s (S : Nat → Bool) (v : Nat → Int) (n : Nat) : pMin S v (n + 1) = (match pMin S v n with
    | none => if S n then some n else none
    | some b => if S n && decide (v n < v b) then some n else some b) := rfl
theorem pMin_keep {S : Nat → Bool} {v : Nat → Int} {n : Nat} (h : S n = false ∨ ∃ b, pMin S v n = some b ∧ v b ≤ v n) : pMin S v (n + 1) = pMin S v n := by
  rw [pMin_s]
  rcases h with h | ⟨b, h1, h2⟩
  · cases pMin S v n <;> simp [h]
  · rw [h1]; simp; intro _ h3; omega
theorem pMin_take {S : Nat → Bool} {v : Nat → Int} {n : Nat} (h : S n = true) (h2 : ∀ b, pMin S v n = some b → v n < v b) : pMin S v (n + 1) = some n := by
  rw [pMin_s]
  cases hz : pMin S v n with
  | none => simp [h]
  | some b => simp [h, h2 b hz]
theorem dX7_worst_0 : decode cX7_worst 0 = .ok (.bipush (-6), 2) := by decide +kernel
theorem dX7_worst_2 : decode cX7_worst 2 = .ok (.istore_n 1, 1) := by decide +kernel
theorem dX7_worst_3 : decode cX7_worst 3 = .ok (.iconst 0, 1) := by decide +kernel
theorem dX7_worst_4 : decode cX7_worst 4 = .ok (.istore_n 2, 1) := by decide +kernel
theorem dX7_worst_5 : decode cX7_worst 5 = .ok (.iload_n 2, 1) := by decide +kernel
theorem dX7_worst_6 : decode cX7_worst 6 = .ok (.aload_n 0, 1) := by decide +kernel
theorem dX7_worst_7 : decode cX7_worst 7 = .ok (.getfield 89, 3) := by decide +kernel
theorem dX7_worst_10 : decode cX7_worst 10 = .ok (.if_icmp .ge 41, 3) := by decide +kernel
theorem dX7_worst_13 : decode cX7_worst 13 = .ok (.aload_n 0, 1) := by decide +kernel
theorem dX7_worst_14 : decode cX7_worst 14 = .ok (.getfield 25, 3) := by decide +kernel
theorem dX7_worst_17 : decode cX7_worst 17 = .ok (.iload_n 2, 1) := by decide +kernel
theorem dX7_worst_18 : decode cX7_worst 18 = .ok (.iaload, 1) := by decide +kernel
theorem dX7_worst_19 : decode cX7_worst 19 = .ok (.ifCond .le 24, 3) := by decide +kernel
theorem dX7_worst_22 : decode cX7_worst 22 = .ok (.iload_n 1, 1) := by decide +kernel
theorem dX7_worst_23 : decode cX7_worst 23 = .ok (.ifCond .lt 16, 3) := by decide +kernel
theorem dX7_worst_26 : decode cX7_worst 26 = .ok (.aload_n 0, 1) := by decide +kernel
theorem dX7_worst_27 : decode cX7_worst 27 = .ok (.iload_n 2, 1) := by decide +kernel
theorem dX7_worst_28 : decode cX7_worst 28 = .ok (.invokevirtual 153, 3) := by decide +kernel
theorem dX7_worst_31 : decode cX7_worst 31 = .ok (.aload_n 0, 1) := by decide +kernel
theorem dX7_worst_32 : decode cX7_worst 32 = .ok (.iload_n 1, 1) := by decide +kernel
theorem dX7_worst_33 : decode cX7_worst 33 = .ok (.invokevirtual 153, 3) := by decide +kernel
theorem dX7_worst_36 : decode cX7_worst 36 = .ok (.if_icmp .ge 7, 3) := by decide +kernel
theorem dX7_worst_39 : decode cX7_worst 39 = .ok (.iload_n 2, 1) := by decide +kernel
theorem dX7_worst_40 : decode cX7_worst 40 = .ok (.goto 4, 3) := by decide +kernel
theorem dX7_worst_43 : decode cX7_worst 43 = .ok (.iload_n 1, 1) := by decide +kernel
theorem dX7_worst_44 : decode cX7_worst 44 = .ok (.istore_n 1, 1) := by decide +kernel
theorem dX7_worst_45 : decode cX7_worst 45 = .ok (.iinc 2 1, 3) := by decide +kernel
theorem dX7_worst_48 : decode cX7_worst 48 = .ok (.goto (-43), 3) := by decide +kernel
theorem dX7_worst_51 : decode cX7_worst 51 = .ok (.iload_n 1, 1) := by decide +kernel
theorem dX7_worst_52 : decode cX7_worst 52 = .ok (.ireturn, 1) := by decide +kernel
theorem l_X7_worst {d : List Nat} {T : vT} {M : vM} {n t lag : Nat} {g l : Option Nat} {hist : Nat → Int → Int} (hB : vB T) (hS : mS M n t g l) (hL : mL M n t hist) (ht : t ≤ 600) (hlag : M 200 8 = lag) (hl3 : lag ≤ 3) : ∀ p, p ≤ n →
    vV m_X7_worst d d (vPi fun r T1 M1 => r = pOr (-6) (pMin (fun j => decide (0 < M 212 j)) (pSeen (M 211) (M 212) (hist (t - lag)) (M 200 12)) n) ∧ T = T1 ∧ M = M1) 5 [some (vR 200), some (vI (pOr (-6) (pMin (fun j => decide (0 < M 212 j)) (pSeen (M 211) (M 212) (hist (t - lag)) (M 200 12)) p))), some (vI p)] [] d T M := by
  have hc := hS.1
  have hn := hS.2.1
  refine vUp ?_
  intro p hp ih
  obtain ⟨r, hr⟩ : ∃ r, pMin (fun j => decide (0 < M 212 j)) (pSeen (M 211) (M 212) (hist (t - lag)) (M 200 12)) p = r := ⟨_, rfl⟩
  rw [hr]
  have keep : (decide (0 < M 212 p) = false ∨ ∃ b, r = some b ∧ pSeen (M 211) (M 212) (hist (t - lag)) (M 200 12) b ≤ pSeen (M 211) (M 212) (hist (t - lag)) (M 200 12) p) → pMin (fun j => decide (0 < M 212 j)) (pSeen (M 211) (M 212) (hist (t - lag)) (M 200 12)) (p + 1) = r := fun h => by rw [← hr]; exact pMin_keep (by rw [hr]; exact h)
  have take : decide (0 < M 212 p) = true → (∀ b, r = some b → pSeen (M 211) (M 212) (hist (t - lag)) (M 200 12) p < pSeen (M 211) (M 212) (hist (t - lag)) (M 200 12) b) → pMin (fun j => decide (0 < M 212 j)) (pSeen (M 211) (M 212) (hist (t - lag)) (M 200 12)) (p + 1) = some p := fun h1 h2 => pMin_take h1 (by rw [hr]; exact h2)
  have hlt : ∀ b, r = some b → b < p := fun b hb => pMin_lt (hr.trans hb)
  cases r with
  | none =>
    rw [pOr_n]
    refine vV.iload_n dX7_worst_5 rfl ?_
    refine vV.aload_n dX7_worst_6 rfl ?_
    refine vV.geti (z := 4) dX7_worst_7 fl_X7_89 (by first | rfl | assumption) rfl rfl ?_
    refine vV.icmp_ge (tgt := 51) dX7_worst_10 (by decide) (fun h10 => ?_) (fun h10 => ?_)
    · skip
      refine vV.iload_n dX7_worst_51 rfl ?_
      refine vV.ri dX7_worst_52 rfl ?_
      rw [show n = p by omega, hr]; exact ⟨rfl, rfl, rfl⟩
    · skip
      refine vV.aload_n dX7_worst_13 rfl ?_
      refine vV.getr dX7_worst_14 fl_X7_25 (by first | rfl | assumption) rfl (by first | assumption | exact hB _ _ _ rfl) ?_
      refine vV.iload_n dX7_worst_17 rfl ?_
      refine vV.iald dX7_worst_18 (by first | rfl | assumption) (by omega) (by omega) ?_
      refine vV.if_le (tgt := 43) dX7_worst_19 (by decide) (fun h19 => ?_) (fun h19 => ?_)
      · skip
        rw [keep (Or.inl (by simp; omega)), pOr_n] at ih
        refine vV.iload_n dX7_worst_43 rfl ?_
        refine vV.istore_n (L' := [_, _, _]) dX7_worst_44 (by decide) rfl ?_
        refine vV.iinc (L' := [_, _, _]) dX7_worst_45 (by decide) rfl (⟨by omega, by omega⟩) rfl ?_
        refine vV.goto (tgt := 5) dX7_worst_48 (by decide) ?_
        exact ih (by omega)
      · skip
        refine vV.iload_n dX7_worst_22 rfl ?_
        refine vV.if_lt (tgt := 39) dX7_worst_23 (by decide) (fun h23 => ?_) (fun h23 => ?_)
        · skip
          rw [take (by simp; omega) (fun b hb => nomatch hb), pOr_s] at ih
          refine vV.iload_n dX7_worst_39 rfl ?_
          refine vV.goto (tgt := 44) dX7_worst_40 (by decide) ?_
          refine vV.istore_n (L' := [_, _, _]) dX7_worst_44 (by decide) rfl ?_
          refine vV.iinc (L' := [_, _, _]) dX7_worst_45 (by decide) rfl (⟨by omega, by omega⟩) rfl ?_
          refine vV.goto (tgt := 5) dX7_worst_48 (by decide) ?_
          exact ih (by omega)
        · skip
          omega
  | some b =>
    have hbp := hlt b rfl
    rw [pOr_s]
    refine vV.iload_n dX7_worst_5 rfl ?_
    refine vV.aload_n dX7_worst_6 rfl ?_
    refine vV.geti (z := 4) dX7_worst_7 fl_X7_89 (by first | rfl | assumption) rfl rfl ?_
    refine vV.icmp_ge (tgt := 51) dX7_worst_10 (by decide) (fun h10 => ?_) (fun h10 => ?_)
    · skip
      refine vV.iload_n dX7_worst_51 rfl ?_
      refine vV.ri dX7_worst_52 rfl ?_
      rw [show n = p by omega, hr]; exact ⟨rfl, rfl, rfl⟩
    · skip
      refine vV.aload_n dX7_worst_13 rfl ?_
      refine vV.getr dX7_worst_14 fl_X7_25 (by first | rfl | assumption) rfl (by first | assumption | exact hB _ _ _ rfl) ?_
      refine vV.iload_n dX7_worst_17 rfl ?_
      refine vV.iald dX7_worst_18 (by first | rfl | assumption) (by omega) (by omega) ?_
      refine vV.if_le (tgt := 43) dX7_worst_19 (by decide) (fun h19 => ?_) (fun h19 => ?_)
      · skip
        rw [keep (Or.inl (by simp; omega)), pOr_s] at ih
        refine vV.iload_n dX7_worst_43 rfl ?_
        refine vV.istore_n (L' := [_, _, _]) dX7_worst_44 (by decide) rfl ?_
        refine vV.iinc (L' := [_, _, _]) dX7_worst_45 (by decide) rfl (⟨by omega, by omega⟩) rfl ?_
        refine vV.goto (tgt := 5) dX7_worst_48 (by decide) ?_
        exact ih (by omega)
      · skip
        refine vV.iload_n dX7_worst_22 rfl ?_
        refine vV.if_lt (tgt := 39) dX7_worst_23 (by decide) (fun h23 => ?_) (fun h23 => ?_)
        · skip
          omega
        · skip
          refine vV.aload_n dX7_worst_26 rfl ?_
          refine vV.iload_n dX7_worst_27 rfl ?_
          refine vV.cVi dX7_worst_28 ml_X7_153 cw_X7_seen iw_X7_seen (by first | rfl | assumption) rfl (by unfold vRoom; decide) (c_X7_seen hB hS hL ht hlag hl3 (p := p) (by omega)) rfl rfl (Nat.le_of_ble_eq_true rfl) ?_
          rintro x28 _ _ hx28 ⟨rfl, rfl, rfl⟩
          refine vV.aload_n dX7_worst_31 rfl ?_
          refine vV.iload_n dX7_worst_32 rfl ?_
          refine vV.cVi dX7_worst_33 ml_X7_153 cw_X7_seen iw_X7_seen (by first | rfl | assumption) rfl (by unfold vRoom; decide) (c_X7_seen hB hS hL ht hlag hl3 (p := b) (by omega)) rfl rfl (Nat.le_of_ble_eq_true rfl) ?_
          rintro x33 _ _ hx33 ⟨rfl, rfl, rfl⟩
          refine vV.icmp_ge (tgt := 43) dX7_worst_36 (by decide) (fun h36 => ?_) (fun h36 => ?_)
          · skip
            rw [keep (Or.inr ⟨b, rfl, h36⟩), pOr_s] at ih
            refine vV.iload_n dX7_worst_43 rfl ?_
            refine vV.istore_n (L' := [_, _, _]) dX7_worst_44 (by decide) rfl ?_
            refine vV.iinc (L' := [_, _, _]) dX7_worst_45 (by decide) rfl (⟨by omega, by omega⟩) rfl ?_
            refine vV.goto (tgt := 5) dX7_worst_48 (by decide) ?_
            exact ih (by omega)
          · skip
            rw [take (by simp; omega) (fun b' hb => by cases hb; exact h36), pOr_s] at ih
            refine vV.iload_n dX7_worst_39 rfl ?_
            refine vV.goto (tgt := 44) dX7_worst_40 (by decide) ?_
            refine vV.istore_n (L' := [_, _, _]) dX7_worst_44 (by decide) rfl ?_
            refine vV.iinc (L' := [_, _, _]) dX7_worst_45 (by decide) rfl (⟨by omega, by omega⟩) rfl ?_
            refine vV.goto (tgt := 5) dX7_worst_48 (by decide) ?_
            exact ih (by omega)
theorem c_X7_worst {d : List Nat} {T : vT} {M : vM} {n t lag : Nat} {g l : Option Nat} {hist : Nat → Int → Int} (hB : vB T) (hS : mS M n t g l) (hL : mL M n t hist) (ht : t ≤ 600) (hlag : M 200 8 = lag) (hl3 : lag ≤ 3) : vCon m_X7_worst d d [vR 200] T M (vPi fun r T1 M1 => r = pOr (-6) (pMin (fun j => decide (0 < M 212 j)) (pSeen (M 211) (M 212) (hist (t - lag)) (M 200 12)) n) ∧ T = T1 ∧ M = M1) := by
  refine vCon.of (by decide) rfl rfl (Nat.le_of_ble_eq_true rfl) ?_
  have h := l_X7_worst (d := d) hB hS hL ht hlag hl3 0 (by omega)
  refine vV.bipush (v := (-6)) dX7_worst_0 (by decide) (by decide) ?_
  refine vV.istore_n (L' := [_, _, _]) dX7_worst_2 (by decide) rfl ?_
  refine vV.iconst dX7_worst_3 (by decide) ?_
  refine vV.istore_n (L' := [_, _, _]) dX7_worst_4 (by decide) rfl ?_
  exact h
