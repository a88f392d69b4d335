/-! ===== own: the reference: begin, and what the man sees ===== -/
def pMix (p : Nat) (f g : Int → Int) : Int → Int := fun j => if 0 ≤ j ∧ j < p then f j else g j
theorem pMix_0 (f g : Int → Int) : pMix 0 f g = g := by funext j; unfold pMix; rw [if_neg (by omega)]
theorem pMix_lt {p : Nat} {f g : Int → Int} {j : Nat} (h : j < p) : pMix p f g j = f j := by unfold pMix; rw [if_pos (by omega)]
theorem pMix_s {p : Nat} {f g : Int → Int} : fSet (pMix p f g) p (f p) = pMix (p + 1) f g := by
  funext j; unfold fSet pMix
  by_cases h : j = p
  · subst h; rw [if_pos rfl, if_pos (by omega)]
  · rw [if_neg h]
    by_cases h2 : 0 ≤ j ∧ j < p
    · rw [if_pos h2, if_pos (by omega)]
    · rw [if_neg h2, if_neg (by omega)]
def seM (M : vM) : Int → Int := fun j => if j = 0 then M 200 5 else if j = 1 then M 200 6 else if j = 2 then M 200 7 else if j = 3 then M 200 8 else if j = 4 then M 200 9 else 0
/-- the reference's rows are as told -/
def mW (M : vM) (n : Nat) : Prop := M 200 4 = n ∧ pW n (M 201) (M 202) (M 203) (M 204) (seM M) ∧ (∀ j : Nat, 0 ≤ M 211 j ∧ M 211 j ≤ 7) ∧ ∀ j : Nat, 0 ≤ M 212 j ∧ M 212 j ≤ 15
def mBegin (M M1 : vM) (n : Nat) : Prop := mSame [200, 211, 212, 218, 219] M M1 ∧ mSlot [12, 13, 14, 15, 16] M M1 ∧ M1 211 = pMix n (M 201) (M 211) ∧ M1 212 = pMix n (M 204) (M 212) ∧ M1 200 12 = M 200 5 ∧ M1 200 13 = -6 ∧ M1 200 14 = 0 ∧ M1 200 15 = -6 ∧ M1 200 16 = 0 ∧ M1 218 = fSet (M 218) 0 (pPack (M1 212) n) ∧ M1 219 = fSet (M 219) 0 (pRest (M 200 5) (-6) 0 (-6))
theorem dX7_begin_0 : decode cX7_begin 0 = .ok (.iconst 0, 1) := by decide +kernel
theorem dX7_begin_1 : decode cX7_begin 1 = .ok (.istore_n 1, 1) := by decide +kernel
theorem dX7_begin_2 : decode cX7_begin 2 = .ok (.iload_n 1, 1) := by decide +kernel
theorem dX7_begin_3 : decode cX7_begin 3 = .ok (.aload_n 0, 1) := by decide +kernel
theorem dX7_begin_4 : decode cX7_begin 4 = .ok (.getfield 89, 3) := by decide +kernel
theorem dX7_begin_7 : decode cX7_begin 7 = .ok (.if_icmp .ge 33, 3) := by decide +kernel
theorem dX7_begin_10 : decode cX7_begin 10 = .ok (.aload_n 0, 1) := by decide +kernel
theorem dX7_begin_11 : decode cX7_begin 11 = .ok (.getfield 22, 3) := by decide +kernel
theorem dX7_begin_14 : decode cX7_begin 14 = .ok (.iload_n 1, 1) := by decide +kernel
theorem dX7_begin_15 : decode cX7_begin 15 = .ok (.aload_n 0, 1) := by decide +kernel
theorem dX7_begin_16 : decode cX7_begin 16 = .ok (.getfield 7, 3) := by decide +kernel
theorem dX7_begin_19 : decode cX7_begin 19 = .ok (.iload_n 1, 1) := by decide +kernel
theorem dX7_begin_20 : decode cX7_begin 20 = .ok (.iaload, 1) := by decide +kernel
theorem dX7_begin_21 : decode cX7_begin 21 = .ok (.iastore, 1) := by decide +kernel
theorem dX7_begin_22 : decode cX7_begin 22 = .ok (.aload_n 0, 1) := by decide +kernel
theorem dX7_begin_23 : decode cX7_begin 23 = .ok (.getfield 25, 3) := by decide +kernel
theorem dX7_begin_26 : decode cX7_begin 26 = .ok (.iload_n 1, 1) := by decide +kernel
theorem dX7_begin_27 : decode cX7_begin 27 = .ok (.aload_n 0, 1) := by decide +kernel
theorem dX7_begin_28 : decode cX7_begin 28 = .ok (.getfield 19, 3) := by decide +kernel
theorem dX7_begin_31 : decode cX7_begin 31 = .ok (.iload_n 1, 1) := by decide +kernel
theorem dX7_begin_32 : decode cX7_begin 32 = .ok (.iaload, 1) := by decide +kernel
theorem dX7_begin_33 : decode cX7_begin 33 = .ok (.iastore, 1) := by decide +kernel
theorem dX7_begin_34 : decode cX7_begin 34 = .ok (.iinc 1 1, 3) := by decide +kernel
theorem dX7_begin_37 : decode cX7_begin 37 = .ok (.goto (-35), 3) := by decide +kernel
theorem dX7_begin_40 : decode cX7_begin 40 = .ok (.aload_n 0, 1) := by decide +kernel
theorem dX7_begin_41 : decode cX7_begin 41 = .ok (.aload_n 0, 1) := by decide +kernel
theorem dX7_begin_42 : decode cX7_begin 42 = .ok (.getfield 117, 3) := by decide +kernel
theorem dX7_begin_45 : decode cX7_begin 45 = .ok (.putfield 123, 3) := by decide +kernel
theorem dX7_begin_48 : decode cX7_begin 48 = .ok (.aload_n 0, 1) := by decide +kernel
theorem dX7_begin_49 : decode cX7_begin 49 = .ok (.bipush (-6), 2) := by decide +kernel
theorem dX7_begin_51 : decode cX7_begin 51 = .ok (.putfield 126, 3) := by decide +kernel
theorem dX7_begin_54 : decode cX7_begin 54 = .ok (.aload_n 0, 1) := by decide +kernel
theorem dX7_begin_55 : decode cX7_begin 55 = .ok (.iconst 0, 1) := by decide +kernel
theorem dX7_begin_56 : decode cX7_begin 56 = .ok (.putfield 129, 3) := by decide +kernel
theorem dX7_begin_59 : decode cX7_begin 59 = .ok (.aload_n 0, 1) := by decide +kernel
theorem dX7_begin_60 : decode cX7_begin 60 = .ok (.bipush (-6), 2) := by decide +kernel
theorem dX7_begin_62 : decode cX7_begin 62 = .ok (.putfield 132, 3) := by decide +kernel
theorem dX7_begin_65 : decode cX7_begin 65 = .ok (.aload_n 0, 1) := by decide +kernel
theorem dX7_begin_66 : decode cX7_begin 66 = .ok (.iconst 0, 1) := by decide +kernel
theorem dX7_begin_67 : decode cX7_begin 67 = .ok (.putfield 135, 3) := by decide +kernel
theorem dX7_begin_70 : decode cX7_begin 70 = .ok (.aload_n 0, 1) := by decide +kernel
theorem dX7_begin_71 : decode cX7_begin 71 = .ok (.invokevirtual 138, 3) := by decide +kernel
theorem dX7_begin_74 : decode cX7_begin 74 = .ok (.return_, 1) := by decide +kernel
def mLaid (M : vM) (p : Nat) : vM := vRow (vRow M 211 (pMix p (M 201) (M 211))) 212 (pMix p (M 204) (M 212))
theorem mLaid_s {M : vM} {p : Nat} : vUpd (vUpd (mLaid M p) 211 p (M 201 p)) 212 p (M 204 p) = mLaid M (p + 1) := by
  unfold mLaid
  rw [← pMix_s, ← pMix_s, vUpd_r, vUpd_r]
  rw [vRow_n (a := 212) (by decide), vRow_s, vRow_n (a := 211) (by decide), vRow_s]
  rw [vRow_comm (k := 212) (k' := 211) (by decide), vRow_vRow, vRow_vRow]
theorem mLaid_n {M : vM} {p k : Nat} (h1 : k ≠ 211) (h2 : k ≠ 212) : mLaid M p k = M k := by unfold mLaid; rw [vRow_n h2, vRow_n h1]
theorem l_X7_begin {d : List Nat} {T : vT} {M : vM} {n : Nat} (hB : vB T) (hW : mW M n) : ∀ p, p ≤ n →
    vV m_X7_begin d d (vPv fun T1 M1 => T = T1 ∧ mBegin M M1 n) 2 [some (vR 200), some (vI p)] [] d T (mLaid M p) := by
  obtain ⟨hc, hpw, w1, w2⟩ := hW
  have hn := hpw.1
  have htu : ∀ j : Nat, 0 ≤ M 204 j ∧ M 204 j ≤ 15 := fun j => by have a1 := hpw.2.2.2.2.2.2.1 j; have a2 := hpw.2.2.2.2.1 j; omega
  have hman : 0 ≤ M 200 5 ∧ M 200 5 ≤ 7 := hpw.2.2.2.2.2.2.2.1
  refine vUp ?_
  intro p hp ih
  have e2 : mLaid M p 200 = M 200 := mLaid_n (by decide) (by decide)
  have e1 : mLaid M p 201 = M 201 := mLaid_n (by decide) (by decide)
  have e4 : mLaid M p 204 = M 204 := mLaid_n (by decide) (by decide)
  refine vV.iload_n dX7_begin_2 rfl ?_
  refine vV.aload_n dX7_begin_3 rfl ?_
  refine vV.geti (z := 4) dX7_begin_4 fl_X7_89 (by first | rfl | assumption) rfl rfl ?_
  rw [e2]
  refine vV.icmp_ge (tgt := 40) dX7_begin_7 (by decide) (fun h7 => ?_) (fun h7 => ?_)
  · skip
    have hpn : p = n := by omega
    subst hpn
    refine vV.aload_n dX7_begin_40 rfl ?_
    refine vV.aload_n dX7_begin_41 rfl ?_
    refine vV.geti (z := 5) dX7_begin_42 fl_X7_117 (by first | rfl | assumption) rfl rfl ?_
    rw [e2]
    refine vV.puti (z := 12) dX7_begin_45 fl_X7_123 (by first | rfl | assumption) rfl rfl ?_
    refine vV.aload_n dX7_begin_48 rfl ?_
    refine vV.bipush (v := (-6)) dX7_begin_49 (by decide) (by decide) ?_
    refine vV.puti (z := 13) dX7_begin_51 fl_X7_126 (by first | rfl | assumption) rfl rfl ?_
    refine vV.aload_n dX7_begin_54 rfl ?_
    refine vV.iconst dX7_begin_55 (by decide) ?_
    refine vV.puti (z := 14) dX7_begin_56 fl_X7_129 (by first | rfl | assumption) rfl rfl ?_
    refine vV.aload_n dX7_begin_59 rfl ?_
    refine vV.bipush (v := (-6)) dX7_begin_60 (by decide) (by decide) ?_
    refine vV.puti (z := 15) dX7_begin_62 fl_X7_132 (by first | rfl | assumption) rfl rfl ?_
    refine vV.aload_n dX7_begin_65 rfl ?_
    refine vV.iconst dX7_begin_66 (by decide) ?_
    refine vV.puti (z := 16) dX7_begin_67 fl_X7_135 (by first | rfl | assumption) rfl rfl ?_
    obtain ⟨N, hN⟩ : ∃ N, N = vUpd (vUpd (vUpd (vUpd (vUpd (mLaid M p) 200 12 (M 200 5)) 200 13 (-6)) 200 14 0) 200 15 (-6)) 200 16 0 := ⟨_, rfl⟩
    rw [← hN]
    have f212 : N 212 = pMix p (M 204) (M 212) := by rw [hN]; funext j; simp only [vUpd_nk (show (212 : Nat) ≠ 200 by decide)]; unfold mLaid; rw [vRow_s]
    have f211 : N 211 = pMix p (M 201) (M 211) := by rw [hN]; funext j; simp only [vUpd_nk (show (211 : Nat) ≠ 200 by decide)]; unfold mLaid; rw [vRow_n (by decide), vRow_s]
    have fk : ∀ k, k ≠ 200 → k ≠ 211 → k ≠ 212 → N k = M k := by intro k a b c; rw [hN]; funext j; simp only [vUpd_nk a]; rw [mLaid_n b c]
    have f200 : ∀ j, j ∉ [12, 13, 14, 15, 16] → N 200 j = M 200 j := by intro j hj; simp at hj; rw [hN, vUpd_ni hj.2.2.2.2, vUpd_ni hj.2.2.2.1, vUpd_ni hj.2.2.1, vUpd_ni hj.2.1, vUpd_ni hj.1, e2]
    have f12 : N 200 12 = M 200 5 := by rw [hN]; simp [vUpd]
    have f13 : N 200 13 = -6 := by rw [hN]; simp [vUpd]
    have f14 : N 200 14 = 0 := by rw [hN]; simp [vUpd]
    have f15 : N 200 15 = -6 := by rw [hN]; simp [vUpd]
    have f16 : N 200 16 = (0 : Nat) := by rw [hN]; simp [vUpd]
    refine vV.aload_n dX7_begin_70 rfl ?_
    refine vV.cVv dX7_begin_71 ml_X7_138 cw_X7_note iw_X7_note (by first | rfl | assumption) rfl (by unfold vRoom; decide) (c_X7_note (n := p) (t := 0) hB (by rw [f200 _ (by decide)]; exact hc) hn (fun j => by rw [f212]; unfold pMix; split; exact htu j; exact w2 j) f16 (by omega) (by rw [f12]; omega) (by rw [f13]; omega) (by rw [f14]; omega) (by rw [f15]; omega)) rfl rfl (Nat.le_of_ble_eq_true rfl) ?_
    rintro _ _ ⟨rfl, rfl⟩
    refine vV.rv dX7_begin_74 rfl ?_
    refine ⟨rfl, fun k hk => ?_, fun j hj => ?_, ?_, ?_, ?_, ?_, ?_, ?_, ?_, ?_, ?_⟩
    · simp at hk; rw [← fk k hk.1 hk.2.1 hk.2.2.1]; funext j; rw [vUpd_nk hk.2.2.2.2, vUpd_nk hk.2.2.2.1]
    · rw [vUpd_nk (by decide), vUpd_nk (by decide)]; exact f200 j hj
    · rw [← f211]; funext j; rw [vUpd_nk (by decide), vUpd_nk (by decide)]
    · rw [← f212]; funext j; rw [vUpd_nk (by decide), vUpd_nk (by decide)]
    · rw [vUpd_nk (by decide), vUpd_nk (by decide)]; exact f12
    · rw [vUpd_nk (by decide), vUpd_nk (by decide)]; exact f13
    · rw [vUpd_nk (by decide), vUpd_nk (by decide)]; exact f14
    · rw [vUpd_nk (by decide), vUpd_nk (by decide)]; exact f15
    · rw [vUpd_nk (by decide), vUpd_nk (by decide)]; exact f16
    · rw [show vUpd (vUpd N 218 _ _) 219 _ _ 212 = N 212 from by { funext j; rw [vUpd_nk (by decide), vUpd_nk (by decide)] }, ← fk 218 (by decide) (by decide) (by decide)]; funext j; rw [vUpd_nk (by decide), vUpd_r, vRow_s]; rfl
    · rw [f12, f13, f14, f15, ← fk 219 (by decide) (by decide) (by decide), vUpd_r, vRow_s]; rfl
  · skip
    refine vV.aload_n dX7_begin_10 rfl ?_
    refine vV.getr dX7_begin_11 fl_X7_22 (by first | rfl | assumption) rfl (by first | assumption | exact hB _ _ _ rfl) ?_
    refine vV.iload_n dX7_begin_14 rfl ?_
    refine vV.aload_n dX7_begin_15 rfl ?_
    refine vV.getr dX7_begin_16 fl_X7_7 (by first | rfl | assumption) rfl (by first | assumption | exact hB _ _ _ rfl) ?_
    refine vV.iload_n dX7_begin_19 rfl ?_
    refine vV.iald dX7_begin_20 (by first | rfl | assumption) (by omega) (by omega) ?_
    rw [e1]
    refine vV.iast dX7_begin_21 (by first | rfl | assumption) (by omega) (by omega) ?_
    refine vV.aload_n dX7_begin_22 rfl ?_
    refine vV.getr dX7_begin_23 fl_X7_25 (by first | rfl | assumption) rfl (by first | assumption | exact hB _ _ _ rfl) ?_
    refine vV.iload_n dX7_begin_26 rfl ?_
    refine vV.aload_n dX7_begin_27 rfl ?_
    refine vV.getr dX7_begin_28 fl_X7_19 (by first | rfl | assumption) rfl (by first | assumption | exact hB _ _ _ rfl) ?_
    refine vV.iload_n dX7_begin_31 rfl ?_
    refine vV.iald dX7_begin_32 (by first | rfl | assumption) (by omega) (by omega) ?_
    rw [vUpd_nk (by decide), e4]
    refine vV.iast dX7_begin_33 (by first | rfl | assumption) (by omega) (by omega) ?_
    rw [mLaid_s]
    refine vV.iinc (L' := [_, _]) dX7_begin_34 (by decide) rfl (⟨by omega, by omega⟩) rfl ?_
    refine vV.goto (tgt := 2) dX7_begin_37 (by decide) ?_
    exact ih (by omega)
theorem mS_begin {M M1 : vM} {n : Nat} (hW : mW M n) (h : mBegin M M1 n) : mS M1 n 0 none none := by
  obtain ⟨hc, ⟨p1, p2, p3, p4, p5, p6, p7, p8, p9, p10, p11, p12, p13, p14⟩, w1, w2⟩ := hW
  obtain ⟨b1, b2, b3, b4, b5, b6, b7, b8, b9, b10, b11⟩ := h
  have e2 : M1 202 = M 202 := b1 202 (by decide)
  have e3 : M1 203 = M 203 := b1 203 (by decide)
  refine ⟨by rw [b2 4 (by decide)]; exact hc, p1, fun j => ?_, fun j => ?_, fun j => by rw [e2]; exact p5 j, fun j => by rw [e3]; exact p6 j, ?_, b6, fun k hk => by cases hk, b8, fun k hk => by cases hk, ?_, by rw [b2 7 (by decide)]; exact p10.2, by rw [b2 6 (by decide)]; exact p9, by rw [b5]; exact p8, b9⟩
  · rw [b4]; unfold pMix; split
    · have := p7 j; have := p5 j; omega
    · exact w2 j
  · rw [b3]; unfold pMix; split
    · exact p4 j
    · exact w1 j
  · intro i j hi hj hij; rw [b3, pMix_lt hi, pMix_lt hj] at hij; exact p14 i j hi hj hij
  · rw [b7, b2 7 (by decide)]; have : 1 ≤ M 200 7 := p10.1; omega
theorem c_X7_begin {d : List Nat} {T : vT} {M : vM} {n : Nat} (hB : vB T) (hW : mW M n) : vCon m_X7_begin d d [vR 200] T M (vPv fun T1 M1 => T = T1 ∧ mBegin M M1 n) := by
  refine vCon.of (by decide) rfl rfl (Nat.le_of_ble_eq_true rfl) ?_
  have h := l_X7_begin (d := d) hB hW 0 (by omega)
  rw [show mLaid M 0 = M from by unfold mLaid; rw [pMix_0, pMix_0, vRow_id, vRow_id]] at h
  refine vV.iconst dX7_begin_0 (by decide) ?_
  refine vV.istore_n (L' := [_, _]) dX7_begin_1 (by decide) rfl ?_
  exact h
