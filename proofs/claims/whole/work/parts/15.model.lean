/-! ===== own: the reference: doThing, begin ===== -/
theorem vV.imp {mt : vMt} {d0 dF : List Nat} {Q Q' : Option vA → vT → vM → Prop} {pc : Nat} {L : List (Option vA)} {S : List vA} {d : List Nat} {T : vT} {M : vM} (h : vV mt d0 dF Q pc L S d T M) (hi : ∀ r T1 M1, Q r T1 M1 → Q' r T1 M1) : vV mt d0 dF Q' pc L S d T M := by
  intro l p e s m args below meth c D q A ρ0 ρ H locs ls hX hS hl hL hs hn
  intro T0 hT X0
  obtain ⟨t, a1, o, a2, a3, ⟨⟨r, T1, M1, ρ1, b1, b2, b3⟩, b4⟩, a5⟩ := h l p e s m args below meth c D q A ρ0 ρ H locs ls hX hS hl hL hs hn T0 hT X0
  exact ⟨t, a1, o, a2, a3, ⟨⟨r, T1, M1, ρ1, b1, hi _ _ _ b2, b3⟩, b4⟩, a5⟩
theorem dX7_doThing_0 : decode cX7_doThing 0 = .ok (.iload_n 1, 1) := by decide +kernel
theorem dX7_doThing_1 : decode cX7_doThing 1 = .ok (.iconst 1, 1) := by decide +kernel
theorem dX7_doThing_2 : decode cX7_doThing 2 = .ok (.if_icmp .ne 16, 3) := by decide +kernel
theorem dX7_doThing_5 : decode cX7_doThing 5 = .ok (.aload_n 0, 1) := by decide +kernel
theorem dX7_doThing_6 : decode cX7_doThing 6 = .ok (.dup, 1) := by decide +kernel
theorem dX7_doThing_7 : decode cX7_doThing 7 = .ok (.getfield 123, 3) := by decide +kernel
theorem dX7_doThing_10 : decode cX7_doThing 10 = .ok (.iconst 1, 1) := by decide +kernel
theorem dX7_doThing_11 : decode cX7_doThing 11 = .ok (.isub, 1) := by decide +kernel
theorem dX7_doThing_12 : decode cX7_doThing 12 = .ok (.putfield 123, 3) := by decide +kernel
theorem dX7_doThing_15 : decode cX7_doThing 15 = .ok (.goto 34, 3) := by decide +kernel
theorem dX7_doThing_18 : decode cX7_doThing 18 = .ok (.iload_n 1, 1) := by decide +kernel
theorem dX7_doThing_19 : decode cX7_doThing 19 = .ok (.iconst 2, 1) := by decide +kernel
theorem dX7_doThing_20 : decode cX7_doThing 20 = .ok (.if_icmp .ne 16, 3) := by decide +kernel
theorem dX7_doThing_23 : decode cX7_doThing 23 = .ok (.aload_n 0, 1) := by decide +kernel
theorem dX7_doThing_24 : decode cX7_doThing 24 = .ok (.dup, 1) := by decide +kernel
theorem dX7_doThing_25 : decode cX7_doThing 25 = .ok (.getfield 123, 3) := by decide +kernel
theorem dX7_doThing_28 : decode cX7_doThing 28 = .ok (.iconst 1, 1) := by decide +kernel
theorem dX7_doThing_29 : decode cX7_doThing 29 = .ok (.iadd, 1) := by decide +kernel
theorem dX7_doThing_30 : decode cX7_doThing 30 = .ok (.putfield 123, 3) := by decide +kernel
theorem dX7_doThing_33 : decode cX7_doThing 33 = .ok (.goto 16, 3) := by decide +kernel
theorem dX7_doThing_36 : decode cX7_doThing 36 = .ok (.iload_n 1, 1) := by decide +kernel
theorem dX7_doThing_37 : decode cX7_doThing 37 = .ok (.iconst 3, 1) := by decide +kernel
theorem dX7_doThing_38 : decode cX7_doThing 38 = .ok (.if_icmp .ne 11, 3) := by decide +kernel
theorem dX7_doThing_41 : decode cX7_doThing 41 = .ok (.aload_n 0, 1) := by decide +kernel
theorem dX7_doThing_42 : decode cX7_doThing 42 = .ok (.aload_n 0, 1) := by decide +kernel
theorem dX7_doThing_43 : decode cX7_doThing 43 = .ok (.invokevirtual 141, 3) := by decide +kernel
theorem dX7_doThing_46 : decode cX7_doThing 46 = .ok (.invokevirtual 145, 3) := by decide +kernel
theorem dX7_doThing_49 : decode cX7_doThing 49 = .ok (.iconst 0, 1) := by decide +kernel
theorem dX7_doThing_50 : decode cX7_doThing 50 = .ok (.istore_n 2, 1) := by decide +kernel
theorem dX7_doThing_51 : decode cX7_doThing 51 = .ok (.iload_n 2, 1) := by decide +kernel
theorem dX7_doThing_52 : decode cX7_doThing 52 = .ok (.aload_n 0, 1) := by decide +kernel
theorem dX7_doThing_53 : decode cX7_doThing 53 = .ok (.getfield 89, 3) := by decide +kernel
theorem dX7_doThing_56 : decode cX7_doThing 56 = .ok (.if_icmp .ge 47, 3) := by decide +kernel
theorem dX7_doThing_59 : decode cX7_doThing 59 = .ok (.aload_n 0, 1) := by decide +kernel
theorem dX7_doThing_60 : decode cX7_doThing 60 = .ok (.getfield 25, 3) := by decide +kernel
theorem dX7_doThing_63 : decode cX7_doThing 63 = .ok (.iload_n 2, 1) := by decide +kernel
theorem dX7_doThing_64 : decode cX7_doThing 64 = .ok (.aload_n 0, 1) := by decide +kernel
theorem dX7_doThing_65 : decode cX7_doThing 65 = .ok (.getfield 25, 3) := by decide +kernel
theorem dX7_doThing_68 : decode cX7_doThing 68 = .ok (.iload_n 2, 1) := by decide +kernel
theorem dX7_doThing_69 : decode cX7_doThing 69 = .ok (.iaload, 1) := by decide +kernel
theorem dX7_doThing_70 : decode cX7_doThing 70 = .ok (.aload_n 0, 1) := by decide +kernel
theorem dX7_doThing_71 : decode cX7_doThing 71 = .ok (.getfield 16, 3) := by decide +kernel
theorem dX7_doThing_74 : decode cX7_doThing 74 = .ok (.iload_n 2, 1) := by decide +kernel
theorem dX7_doThing_75 : decode cX7_doThing 75 = .ok (.iaload, 1) := by decide +kernel
theorem dX7_doThing_76 : decode cX7_doThing 76 = .ok (.if_icmp .le 19, 3) := by decide +kernel
theorem dX7_doThing_79 : decode cX7_doThing 79 = .ok (.aload_n 0, 1) := by decide +kernel
theorem dX7_doThing_80 : decode cX7_doThing 80 = .ok (.getfield 25, 3) := by decide +kernel
theorem dX7_doThing_83 : decode cX7_doThing 83 = .ok (.iload_n 2, 1) := by decide +kernel
theorem dX7_doThing_84 : decode cX7_doThing 84 = .ok (.iaload, 1) := by decide +kernel
theorem dX7_doThing_85 : decode cX7_doThing 85 = .ok (.aload_n 0, 1) := by decide +kernel
theorem dX7_doThing_86 : decode cX7_doThing 86 = .ok (.getfield 16, 3) := by decide +kernel
theorem dX7_doThing_89 : decode cX7_doThing 89 = .ok (.iload_n 2, 1) := by decide +kernel
theorem dX7_doThing_90 : decode cX7_doThing 90 = .ok (.iaload, 1) := by decide +kernel
theorem dX7_doThing_91 : decode cX7_doThing 91 = .ok (.isub, 1) := by decide +kernel
theorem dX7_doThing_92 : decode cX7_doThing 92 = .ok (.goto 4, 3) := by decide +kernel
theorem dX7_doThing_95 : decode cX7_doThing 95 = .ok (.iconst 0, 1) := by decide +kernel
theorem dX7_doThing_96 : decode cX7_doThing 96 = .ok (.iastore, 1) := by decide +kernel
theorem dX7_doThing_97 : decode cX7_doThing 97 = .ok (.iinc 2 1, 3) := by decide +kernel
theorem dX7_doThing_100 : decode cX7_doThing 100 = .ok (.goto (-49), 3) := by decide +kernel
theorem dX7_doThing_103 : decode cX7_doThing 103 = .ok (.aload_n 0, 1) := by decide +kernel
theorem dX7_doThing_104 : decode cX7_doThing 104 = .ok (.dup, 1) := by decide +kernel
theorem dX7_doThing_105 : decode cX7_doThing 105 = .ok (.getfield 135, 3) := by decide +kernel
theorem dX7_doThing_108 : decode cX7_doThing 108 = .ok (.iconst 1, 1) := by decide +kernel
theorem dX7_doThing_109 : decode cX7_doThing 109 = .ok (.iadd, 1) := by decide +kernel
theorem dX7_doThing_110 : decode cX7_doThing 110 = .ok (.putfield 135, 3) := by decide +kernel
theorem dX7_doThing_113 : decode cX7_doThing 113 = .ok (.aload_n 0, 1) := by decide +kernel
theorem dX7_doThing_114 : decode cX7_doThing 114 = .ok (.invokevirtual 138, 3) := by decide +kernel
theorem dX7_doThing_117 : decode cX7_doThing 117 = .ok (.return_, 1) := by decide +kernel
def mEnd (N : vM) (n t : Nat) : vM := vUpd (vUpd (vUpd (vRow N 212 (pDown n (N 203) (N 212))) 200 16 (t + 1)) 218 (t + 1) (pPack (pDown n (N 203) (N 212)) n)) 219 (t + 1) (pRest (N 200 12) (N 200 13) (N 200 14) (N 200 15))
theorem pDown_s' {n : Nat} {fa tu : Int → Int} {y : Int} (h : y = max 0 (tu n - fa n)) : fSet (pDown n fa tu) n y = pDown (n + 1) fa tu := by rw [h, pDown_s]
theorem pDown_15 {n : Nat} {fa tu : Int → Int} (hfa : ∀ j : Nat, 0 ≤ fa j ∧ fa j ≤ 15) (h : ∀ j : Nat, 0 ≤ tu j ∧ tu j ≤ 15) (j : Nat) : 0 ≤ pDown n fa tu j ∧ pDown n fa tu j ≤ 15 := by
  have := h j; have := hfa j
  unfold pDown; split <;> omega
theorem l_X7_do51 {d : List Nat} {T : vT} {N : vM} {n t : Nat} {y : Int} (hB : vB T) (hc : N 200 4 = n) (hn : n ≤ 6) (ht : ∀ j : Nat, 0 ≤ N 212 j ∧ N 212 j ≤ 15) (hf : ∀ j : Nat, 0 ≤ N 203 j ∧ N 203 j ≤ 15) (hd : N 200 16 = t) (htt : t < 600) (h1 : -1 ≤ N 200 12 ∧ N 200 12 ≤ 8) (h2 : -6 ≤ N 200 13 ∧ N 200 13 ≤ 5) (h3 : 0 ≤ N 200 14 ∧ N 200 14 ≤ 9) (h4 : -6 ≤ N 200 15 ∧ N 200 15 ≤ 5) : ∀ p, p ≤ n →
    vV m_X7_doThing d d (vPv fun T1 M1 => T = T1 ∧ M1 = mEnd N n t) 51 [some (vR 200), some (vI y), some (vI p)] [] d T (vRow N 212 (pDown p (N 203) (N 212))) := by
  refine vUp ?_
  intro p hp ih
  have e0 : vRow N 212 (pDown p (N 203) (N 212)) 200 = N 200 := vRow_n (by decide)
  have e3 : vRow N 212 (pDown p (N 203) (N 212)) 203 = N 203 := vRow_n (by decide)
  have e4 : vRow N 212 (pDown p (N 203) (N 212)) 212 p = N 212 p := by rw [vRow_s, pDown_ge (by omega)]
  have b1 := ht p
  have b2 := hf p
  refine vV.iload_n dX7_doThing_51 rfl ?_
  refine vV.aload_n dX7_doThing_52 rfl ?_
  refine vV.geti (z := 4) dX7_doThing_53 fl_X7_89 (by first | rfl | assumption) rfl rfl ?_
  rw [e0]
  refine vV.icmp_ge (tgt := 103) dX7_doThing_56 (by decide) (fun h56 => ?_) (fun h56 => ?_)
  · skip
    have hpn : p = n := by omega
    subst hpn
    refine vV.aload_n dX7_doThing_103 rfl ?_
    refine vV.dup dX7_doThing_104 rfl ?_
    refine vV.geti (z := 16) dX7_doThing_105 fl_X7_135 (by first | rfl | assumption) rfl rfl ?_
    rw [e0, hd]
    refine vV.iconst dX7_doThing_108 (by decide) ?_
    refine vV.iadd dX7_doThing_109 (⟨by omega, by omega⟩) ?_
    refine vV.puti (z := 16) dX7_doThing_110 fl_X7_135 (by first | rfl | assumption) rfl rfl ?_
    refine vV.aload_n dX7_doThing_113 rfl ?_
    refine vV.cVv dX7_doThing_114 ml_X7_138 cw_X7_note iw_X7_note (by first | rfl | assumption) rfl (by unfold vRoom; decide) (c_X7_note (n := p) (t := t + 1) hB (by rw [vUpd_ni (by decide), e0]; exact hc) hn (fun j => by rw [show vUpd (vRow N 212 (pDown p (N 203) (N 212))) 200 16 ((t : Int) + 1) 212 = pDown p (N 203) (N 212) from by { funext j; rw [vUpd_nk (by decide), vRow_s] }]; exact pDown_15 hf ht j) (by rw [vUpd_s]; rfl) (by omega) (by rw [vUpd_ni (by decide), e0]; exact h1) (by rw [vUpd_ni (by decide), e0]; exact h2) (by rw [vUpd_ni (by decide), e0]; exact h3) (by rw [vUpd_ni (by decide), e0]; exact h4)) rfl rfl (Nat.le_of_ble_eq_true rfl) ?_
    rintro _ _ ⟨rfl, rfl⟩
    refine vV.rv dX7_doThing_117 rfl ?_
    refine ⟨rfl, ?_⟩; unfold mEnd; rw [show vUpd (vRow N 212 (pDown p (N 203) (N 212))) 200 16 ((t : Int) + 1) 212 = pDown p (N 203) (N 212) from by { funext j; rw [vUpd_nk (by decide), vRow_s] }, vUpd_ni (by decide), vUpd_ni (by decide), vUpd_ni (by decide), vUpd_ni (by decide), e0]; rfl
  · skip
    refine vV.aload_n dX7_doThing_59 rfl ?_
    refine vV.getr dX7_doThing_60 fl_X7_25 (by first | rfl | assumption) rfl (by first | assumption | exact hB _ _ _ rfl) ?_
    refine vV.iload_n dX7_doThing_63 rfl ?_
    refine vV.aload_n dX7_doThing_64 rfl ?_
    refine vV.getr dX7_doThing_65 fl_X7_25 (by first | rfl | assumption) rfl (by first | assumption | exact hB _ _ _ rfl) ?_
    refine vV.iload_n dX7_doThing_68 rfl ?_
    refine vV.iald dX7_doThing_69 (by first | rfl | assumption) (by omega) (by omega) ?_
    rw [e4]
    refine vV.aload_n dX7_doThing_70 rfl ?_
    refine vV.getr dX7_doThing_71 fl_X7_16 (by first | rfl | assumption) rfl (by first | assumption | exact hB _ _ _ rfl) ?_
    refine vV.iload_n dX7_doThing_74 rfl ?_
    refine vV.iald dX7_doThing_75 (by first | rfl | assumption) (by omega) (by omega) ?_
    rw [e3]
    refine vV.icmp_le (tgt := 95) dX7_doThing_76 (by decide) (fun h76 => ?_) (fun h76 => ?_)
    · skip
      have hmx : (0 : Int) = max 0 (N 212 p - N 203 p) := by omega
      refine vV.iconst dX7_doThing_95 (by decide) ?_
      refine vV.iast dX7_doThing_96 (by first | rfl | assumption) (by omega) (by omega) ?_
      rw [vUpd_vRow, pDown_s' hmx]
      refine vV.iinc (L' := [_, _, _]) dX7_doThing_97 (by decide) rfl (⟨by omega, by omega⟩) rfl ?_
      refine vV.goto (tgt := 51) dX7_doThing_100 (by decide) ?_
      exact ih (by omega)
    · skip
      have hmx : N 212 p - N 203 p = max 0 (N 212 p - N 203 p) := by omega
      refine vV.aload_n dX7_doThing_79 rfl ?_
      refine vV.getr dX7_doThing_80 fl_X7_25 (by first | rfl | assumption) rfl (by first | assumption | exact hB _ _ _ rfl) ?_
      refine vV.iload_n dX7_doThing_83 rfl ?_
      refine vV.iald dX7_doThing_84 (by first | rfl | assumption) (by omega) (by omega) ?_
      rw [e4]
      refine vV.aload_n dX7_doThing_85 rfl ?_
      refine vV.getr dX7_doThing_86 fl_X7_16 (by first | rfl | assumption) rfl (by first | assumption | exact hB _ _ _ rfl) ?_
      refine vV.iload_n dX7_doThing_89 rfl ?_
      refine vV.iald dX7_doThing_90 (by first | rfl | assumption) (by omega) (by omega) ?_
      rw [e3]
      refine vV.isub dX7_doThing_91 (⟨by omega, by omega⟩) ?_
      refine vV.goto (tgt := 96) dX7_doThing_92 (by decide) ?_
      refine vV.iast dX7_doThing_96 (by first | rfl | assumption) (by omega) (by omega) ?_
      rw [vUpd_vRow, pDown_s' hmx]
      refine vV.iinc (L' := [_, _, _]) dX7_doThing_97 (by decide) rfl (⟨by omega, by omega⟩) rfl ?_
      refine vV.goto (tgt := 51) dX7_doThing_100 (by decide) ?_
      exact ih (by omega)
/-- the reference's man in his show: t ticks are done, the goal is g, the last one l -/
def mS (M : vM) (n t : Nat) (g l : Option Nat) : Prop := M 200 4 = n ∧ n ≤ 6 ∧ (∀ j : Nat, 0 ≤ M 212 j ∧ M 212 j ≤ 15) ∧ (∀ j : Nat, 0 ≤ M 211 j ∧ M 211 j ≤ 7) ∧ (∀ j : Nat, 0 ≤ M 202 j ∧ M 202 j ≤ 15) ∧ (∀ j : Nat, 0 ≤ M 203 j ∧ M 203 j ≤ 3) ∧ pDis n (M 211) ∧
  M 200 13 = pOr (-6) g ∧ (∀ k, g = some k → k < n) ∧ M 200 15 = pOr (-6) l ∧ (∀ k, l = some k → k < n) ∧ (0 ≤ M 200 14 ∧ M 200 14 < M 200 7) ∧ M 200 7 ≤ 9 ∧ (1 ≤ M 200 6 ∧ M 200 6 ≤ 6) ∧ (0 ≤ M 200 12 ∧ M 200 12 ≤ 7) ∧ M 200 16 = t
theorem pOr6 {n : Nat} {g : Option Nat} (hn : n ≤ 6) (h : ∀ k, g = some k → k < n) : -6 ≤ pOr (-6) g ∧ pOr (-6) g ≤ 5 := by
  cases g with
  | none => simp [pOr]
  | some k => have := h k rfl; simp [pOr]; omega
theorem pGo_lt {pl fu tuW : Int → Int} {man pat thing w : Int} {g : Option Nat} {n : Nat} (h : ∀ k, g = some k → k < n) : ∀ k, (pGo pl fu tuW man pat thing g w).1 = some k → k < n := by
  intro k hk
  cases g with
  | none => unfold pGo at hk; cases hk
  | some p =>
    unfold pGo at hk
    simp only at hk
    split at hk
    · split at hk
      · cases hk
      · cases hk; exact h _ rfl
    · cases hk; exact h _ rfl
theorem pGo_w {pl fu tuW : Int → Int} {man pat thing w : Int} {g : Option Nat} (h0 : 0 ≤ w) (h : w < pat) : 0 ≤ (pGo pl fu tuW man pat thing g w).2 ∧ (pGo pl fu tuW man pat thing g w).2 < pat := by
  cases g with
  | none => exact ⟨h0, h⟩
  | some p =>
    unfold pGo
    simp only
    split
    · split
      · exact ⟨by simp, by simp; omega⟩
      · simp; omega
    · exact ⟨h0, h⟩
theorem pGo_n {pl fu tuW : Int → Int} {man pat thing w : Int} {g : Option Nat} (h : thing ≠ 3) : pGo pl fu tuW man pat thing g w = (g, w) := by
  cases g with
  | none => rfl
  | some p => unfold pGo; simp [h]
/-- what a tick leaves: rows and numbers of the man in his show -/
def mTick (M M1 : vM) (n t : Nat) (g : Option Nat) (y : Int) : Prop := mSame [200, 212, 218, 219] M M1 ∧ mSlot [12, 13, 14, 16] M M1 ∧
  M1 212 = pDown n (M 203) (pWind n (M 211) (M 202) (M 212) (M 200 12) (M 200 6) y) ∧ M1 200 12 = pMan (M 200 12) y ∧
  M1 200 13 = pOr (-6) (pGo (M 211) (M 202) (pWind n (M 211) (M 202) (M 212) (M 200 12) (M 200 6) y) (M 200 12) (M 200 7) y g (M 200 14)).1 ∧
  M1 200 14 = (pGo (M 211) (M 202) (pWind n (M 211) (M 202) (M 212) (M 200 12) (M 200 6) y) (M 200 12) (M 200 7) y g (M 200 14)).2 ∧ M1 200 16 = (t + 1 : Nat) ∧
  M1 218 = fSet (M 218) (t + 1) (pPack (M1 212) n) ∧ M1 219 = fSet (M 219) (t + 1) (pRest (M1 200 12) (M1 200 13) (M1 200 14) (M1 200 15))
/-- the end of a tick, from what the thing itself has left -/
theorem mTick_of {M N : vM} {n t : Nat} {g : Option Nat} {y : Int} (h1 : mSame [200, 212] M N) (h2 : mSlot [12, 13, 14] M N) (h3 : N 212 = pWind n (M 211) (M 202) (M 212) (M 200 12) (M 200 6) y) (h4 : N 200 12 = pMan (M 200 12) y)
    (h5 : N 200 13 = pOr (-6) (pGo (M 211) (M 202) (pWind n (M 211) (M 202) (M 212) (M 200 12) (M 200 6) y) (M 200 12) (M 200 7) y g (M 200 14)).1) (h6 : N 200 14 = (pGo (M 211) (M 202) (pWind n (M 211) (M 202) (M 212) (M 200 12) (M 200 6) y) (M 200 12) (M 200 7) y g (M 200 14)).2) : mTick M (mEnd N n t) n t g y := by
  have e203 : N 203 = M 203 := h1 203 (by decide)
  have e218 : N 218 = M 218 := h1 218 (by decide)
  have e219 : N 219 = M 219 := h1 219 (by decide)
  have f212 : mEnd N n t 212 = pDown n (N 203) (N 212) := by unfold mEnd; funext j; rw [vUpd_nk (by decide), vUpd_nk (by decide), vUpd_nk (by decide), vRow_s]
  have f200 : ∀ j, j ≠ 16 → mEnd N n t 200 j = N 200 j := by intro j hj; unfold mEnd; rw [vUpd_nk (by decide), vUpd_nk (by decide), vUpd_ni hj, vRow_n (by decide)]
  refine ⟨fun k hk => ?_, fun j hj => ?_, ?_, ?_, ?_, ?_, ?_, ?_, ?_⟩
  · simp at hk
    rw [← h1 k (by simp [hk])]
    unfold mEnd; funext j; rw [vUpd_nk hk.2.2.2, vUpd_nk hk.2.2.1, vUpd_nk hk.1, vRow_n hk.2.1]
  · simp at hj
    rw [f200 j hj.2.2.2]; exact h2 j (by simp [hj])
  · rw [f212, e203, h3]
  · rw [f200 _ (by decide), h4]
  · rw [f200 _ (by decide), h5]
  · rw [f200 _ (by decide), h6]
  · unfold mEnd; rw [vUpd_nk (by decide), vUpd_nk (by decide), vUpd_s]; rfl
  · rw [f212, ← e218]; unfold mEnd; funext j
    rw [vUpd_nk (by decide), vUpd_r, vRow_s]; rfl
  · rw [f200 _ (by decide), f200 _ (by decide), f200 _ (by decide), f200 _ (by decide), ← e219]; unfold mEnd
    rw [vUpd_r, vRow_s]; rfl
theorem pWind_15 {n : Nat} {pl fu tu : Int → Int} {man gv y : Int} (hfu : ∀ j : Nat, 0 ≤ fu j ∧ fu j ≤ 15) (htu : ∀ j : Nat, 0 ≤ tu j ∧ tu j ≤ 15) (hg : 1 ≤ gv) (j : Nat) : 0 ≤ pWind n pl fu tu man gv y j ∧ pWind n pl fu tu man gv y j ≤ 15 := by
  have h1 := htu j
  unfold pWind
  split
  · cases pAt n pl man with
    | none => exact h1
    | some p =>
      show 0 ≤ fSet _ _ _ _ ∧ fSet _ _ _ _ ≤ _
      unfold fSet
      split
      · have := hfu p; have := htu p; omega
      · exact h1
  · exact h1
theorem pMan_rg {n : Nat} {pl tu : Int → Int} {man y : Int} (h : 0 ≤ man ∧ man ≤ 7) (hc : pCan n pl tu man y = true) : 0 ≤ pMan man y ∧ pMan man y ≤ 7 := by
  unfold pMan; unfold pCan at hc
  by_cases c1 : y = 1
  · subst c1; simp at hc ⊢; omega
  · by_cases c2 : y = 2
    · subst c2; simp at hc ⊢; omega
    · simp [c1, c2]; omega
theorem mS_tick {M M1 : vM} {n t : Nat} {g l : Option Nat} {y : Int} (hS : mS M n t g l) (hc : pCan n (M 211) (M 212) (M 200 12) y = true) (h : mTick M M1 n t g y) : mS M1 n (t + 1) (pGo (M 211) (M 202) (pWind n (M 211) (M 202) (M 212) (M 200 12) (M 200 6) y) (M 200 12) (M 200 7) y g (M 200 14)).1 l := by
  obtain ⟨s1, s2, s3, s4, s5, s6, s7, s8, s9, s10, s11, s12, s13, s14, s15, s16⟩ := hS
  obtain ⟨t1, t2, t3, t4, t5, t6, t7, t8, t9⟩ := h
  have e211 : M1 211 = M 211 := t1 211 (by decide)
  have e202 : M1 202 = M 202 := t1 202 (by decide)
  have e203 : M1 203 = M 203 := t1 203 (by decide)
  refine ⟨by rw [t2 4 (by decide)]; exact s1, s2, fun j => ?_, by rw [e211]; exact s4, by rw [e202]; exact s5, by rw [e203]; exact s6, by rw [e211]; exact s7, t5, pGo_lt s9, by rw [t2 15 (by decide)]; exact s10, s11, ?_, by rw [t2 7 (by decide)]; exact s13, by rw [t2 6 (by decide)]; exact s14, by rw [t4]; exact pMan_rg s15 hc, t7⟩
  · rw [t3]; exact pDown_15 (fun j => by have := s6 j; omega) (pWind_15 s5 s3 s14.1) j
  · rw [t6, t2 7 (by decide)]; exact pGo_w s12.1 s12.2
theorem l_X7_doFin {d : List Nat} {T : vT} {M N : vM} {n t : Nat} {g l : Option Nat} {y : Int} (hB : vB T) (hS : mS M n t g l) (htt : t < 600) (hc : pCan n (M 211) (M 212) (M 200 12) y = true) (h1 : mSame [200, 212] M N) (h2 : mSlot [12, 13, 14] M N) (h3 : N 212 = pWind n (M 211) (M 202) (M 212) (M 200 12) (M 200 6) y) (h4 : N 200 12 = pMan (M 200 12) y)
    (h5 : N 200 13 = pOr (-6) (pGo (M 211) (M 202) (pWind n (M 211) (M 202) (M 212) (M 200 12) (M 200 6) y) (M 200 12) (M 200 7) y g (M 200 14)).1) (h6 : N 200 14 = (pGo (M 211) (M 202) (pWind n (M 211) (M 202) (M 212) (M 200 12) (M 200 6) y) (M 200 12) (M 200 7) y g (M 200 14)).2) :
    vV m_X7_doThing d d (vPv fun T1 M1 => T = T1 ∧ mTick M M1 n t g y ∧ mS M1 n (t + 1) (pGo (M 211) (M 202) (pWind n (M 211) (M 202) (M 212) (M 200 12) (M 200 6) y) (M 200 12) (M 200 7) y g (M 200 14)).1 l) 51 [some (vR 200), some (vI y), some (vI 0)] [] d T N := by
  have hS' := hS
  obtain ⟨s1, s2, s3, s4, s5, s6, s7, s8, s9, s10, s11, s12, s13, s14, s15, s16⟩ := hS
  have e203 : N 203 = M 203 := h1 203 (by decide)
  have r1 := pMan_rg s15 hc
  have r2 := pOr6 s2 (pGo_lt (pl := M 211) (fu := M 202) (tuW := pWind n (M 211) (M 202) (M 212) (M 200 12) (M 200 6) y) (man := M 200 12) (pat := M 200 7) (thing := y) (w := M 200 14) s9)
  have r3 := pGo_w (pl := M 211) (fu := M 202) (tuW := pWind n (M 211) (M 202) (M 212) (M 200 12) (M 200 6) y) (man := M 200 12) (thing := y) (g := g) s12.1 s12.2
  have r4 := pOr6 s2 s11
  have h := l_X7_do51 (d := d) (T := T) (N := N) (n := n) (t := t) (y := y) hB (by rw [h2 4 (by decide)]; exact s1) s2 (fun j => by rw [h3]; exact pWind_15 s5 s3 s14.1 j) (fun j => by rw [e203]; have := s6 j; omega) (by rw [h2 16 (by decide)]; exact s16) htt (by rw [h4]; omega) (by rw [h5]; exact r2) (by rw [h6]; omega) (by rw [h2 15 (by decide), s10]; exact r4) 0 (by omega)
  rw [pDown_0, vRow_id] at h
  refine h.imp ?_
  rintro r T1 M1 ⟨rfl, rfl, rfl⟩
  have ht := mTick_of (t := t) h1 h2 h3 h4 h5 h6
  exact ⟨rfl, rfl, ht, mS_tick hS' hc ht⟩
/-- doThing of a thing that can be done -/
theorem c_X7_doThing {d : List Nat} {T : vT} {M : vM} {n t : Nat} {g l : Option Nat} {y : Int} (hB : vB T) (hS : mS M n t g l) (htt : t < 600) (h0 : 0 ≤ y) (hy : y ≤ 3) (hc : pCan n (M 211) (M 212) (M 200 12) y = true) : vCon m_X7_doThing d d [vR 200, vI y] T M (vPv fun T1 M1 => T = T1 ∧ mTick M M1 n t g y ∧ mS M1 n (t + 1) (pGo (M 211) (M 202) (pWind n (M 211) (M 202) (M 212) (M 200 12) (M 200 6) y) (M 200 12) (M 200 7) y g (M 200 14)).1 l) := by
  have hF := fun N => l_X7_doFin (d := d) (N := N) hB hS htt hc
  obtain ⟨s1, s2, s3, s4, s5, s6, s7, s8, s9, s10, s11, s12, s13, s14, s15, s16⟩ := hS
  have hwn : y ≠ 3 → pWind n (M 211) (M 202) (M 212) (M 200 12) (M 200 6) y = M 212 := fun h => by unfold pWind; rw [if_neg h]
  refine vCon.of (by decide) rfl rfl (Nat.le_of_ble_eq_true rfl) ?_
  refine vV.iload_n dX7_doThing_0 rfl ?_
  refine vV.iconst dX7_doThing_1 (by decide) ?_
  refine vV.icmp_ne (tgt := 18) dX7_doThing_2 (by decide) (fun h2 => ?_) (fun h2 => ?_)
  · skip
    refine vV.iload_n dX7_doThing_18 rfl ?_
    refine vV.iconst dX7_doThing_19 (by decide) ?_
    refine vV.icmp_ne (tgt := 36) dX7_doThing_20 (by decide) (fun h20 => ?_) (fun h20 => ?_)
    · skip
      refine vV.iload_n dX7_doThing_36 rfl ?_
      refine vV.iconst dX7_doThing_37 (by decide) ?_
      refine vV.icmp_ne (tgt := 49) dX7_doThing_38 (by decide) (fun h38 => ?_) (fun h38 => ?_)
      · skip
        refine vV.iconst dX7_doThing_49 (by decide) ?_
        refine vV.istore_n (L' := [_, _, _]) dX7_doThing_50 (by decide) rfl ?_
        refine hF _ ?_ ?_ ?_ ?_ ?_ ?_
        · intro k hk; simp at hk; first | rfl | (funext j; rw [vUpd_nk hk.1])
        · intro j hj; simp at hj; first | rfl | rw [vUpd_ni hj.1]
        · rw [hwn (by omega)]; try (funext j; rw [vUpd_nk (by decide)])
        · unfold pMan; simp [vUpd_s, *]
        · rw [pGo_n (by omega)]; first | exact s8 | (rw [vUpd_ni (by decide)]; exact s8)
        · rw [pGo_n (by omega)]; try rw [vUpd_ni (by decide)]
      · skip
        subst h38
        have hp3 : ∃ p, pHere n (M 211) (M 212) (M 200 12) = some p := by
          have : pStd (M 212) (pAt n (M 211) (M 200 12)) = true := hc
          rw [pHere_std s7] at this
          exact Option.isSome_iff_exists.mp this
        obtain ⟨p, hp⟩ := hp3
        obtain ⟨q1, q2, q3⟩ := pHere_some hp
        have hwp : pWind n (M 211) (M 202) (M 212) (M 200 12) (M 200 6) 3 = fSet (M 212) p (min (M 202 p) (M 212 p + M 200 6)) := by unfold pWind; rw [if_pos rfl, pHere_at s7 hp]; rfl
        refine vV.aload_n dX7_doThing_41 rfl ?_
        refine vV.aload_n dX7_doThing_42 rfl ?_
        refine vV.cVi dX7_doThing_43 ml_X7_141 cw_X7_simHere iw_X7_simHere (by first | rfl | assumption) rfl (by unfold vRoom; decide) (c_X7_simHere hB s1 s2) rfl rfl (Nat.le_of_ble_eq_true rfl) ?_
        rintro x43 _ _ hx43 ⟨rfl, rfl, rfl⟩
        rw [hp, pOr_s]
        refine vV.cVv dX7_doThing_46 ml_X7_145 cw_X7_wind iw_X7_wind (by first | rfl | assumption) rfl (by unfold vRoom; decide) (c_X7_wind hB q1 s2 s7 q2 s8 s9 s3 s5 s14 s12 s13) rfl rfl (Nat.le_of_ble_eq_true rfl) ?_
        rintro _ N ⟨rfl, w1, w2, w3, w4, w5⟩
        rw [w3, ← hwp] at w4 w5
        refine vV.iconst dX7_doThing_49 (by decide) ?_
        refine vV.istore_n (L' := [_, _, _]) dX7_doThing_50 (by decide) rfl ?_
        exact hF N w1 (fun j hj => w2 j (by simp at hj ⊢; omega)) (w3.trans hwp.symm) (by rw [w2 12 (by decide)]; rfl) w4 w5
        skip
    · skip
      refine vV.aload_n dX7_doThing_23 rfl ?_
      refine vV.dup dX7_doThing_24 rfl ?_
      refine vV.geti (z := 12) dX7_doThing_25 fl_X7_123 (by first | rfl | assumption) rfl rfl ?_
      refine vV.iconst dX7_doThing_28 (by decide) ?_
      refine vV.iadd dX7_doThing_29 (⟨by omega, by omega⟩) ?_
      refine vV.puti (z := 12) dX7_doThing_30 fl_X7_123 (by first | rfl | assumption) rfl rfl ?_
      refine vV.goto (tgt := 49) dX7_doThing_33 (by decide) ?_
      refine vV.iconst dX7_doThing_49 (by decide) ?_
      refine vV.istore_n (L' := [_, _, _]) dX7_doThing_50 (by decide) rfl ?_
      refine hF _ ?_ ?_ ?_ ?_ ?_ ?_
      · intro k hk; simp at hk; first | rfl | (funext j; rw [vUpd_nk hk.1])
      · intro j hj; simp at hj; first | rfl | rw [vUpd_ni hj.1]
      · rw [hwn (by omega)]; try (funext j; rw [vUpd_nk (by decide)])
      · unfold pMan; simp [vUpd_s, *]
      · rw [pGo_n (by omega)]; first | exact s8 | (rw [vUpd_ni (by decide)]; exact s8)
      · rw [pGo_n (by omega)]; try rw [vUpd_ni (by decide)]
  · skip
    refine vV.aload_n dX7_doThing_5 rfl ?_
    refine vV.dup dX7_doThing_6 rfl ?_
    refine vV.geti (z := 12) dX7_doThing_7 fl_X7_123 (by first | rfl | assumption) rfl rfl ?_
    refine vV.iconst dX7_doThing_10 (by decide) ?_
    refine vV.isub dX7_doThing_11 (⟨by omega, by omega⟩) ?_
    refine vV.puti (z := 12) dX7_doThing_12 fl_X7_123 (by first | rfl | assumption) rfl rfl ?_
    refine vV.goto (tgt := 49) dX7_doThing_15 (by decide) ?_
    refine vV.iconst dX7_doThing_49 (by decide) ?_
    refine vV.istore_n (L' := [_, _, _]) dX7_doThing_50 (by decide) rfl ?_
    refine hF _ ?_ ?_ ?_ ?_ ?_ ?_
    · intro k hk; simp at hk; first | rfl | (funext j; rw [vUpd_nk hk.1])
    · intro j hj; simp at hj; first | rfl | rw [vUpd_ni hj.1]
    · rw [hwn (by omega)]; try (funext j; rw [vUpd_nk (by decide)])
    · unfold pMan; simp [vUpd_s, *]
    · rw [pGo_n (by omega)]; first | exact s8 | (rw [vUpd_ni (by decide)]; exact s8)
    · rw [pGo_n (by omega)]; try rw [vUpd_ni (by decide)]
