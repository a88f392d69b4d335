/-! ===== own: the class's walker: choose, the log, begin, act ===== -/
theorem sgW_rows {M N : vM} {a n : Nat} (h0 : N a = M a) (h1 : N (a + 1) = M (a + 1)) (h2 : N (a + 2) = M (a + 2)) (h3 : N (a + 3) = M (a + 3)) (h4 : N (a + 4) = M (a + 4)) (h5 : N (a + 5) = M (a + 5)) (h : sgW M a n) : sgW N a n := by
  unfold sgW; rw [h0, h1, h2, h3, h4, h5]; exact h
theorem sgW_70 {M N : vM} {n : Nat} (h : mSame [70] M N) (hW : sgW M 30 n) : sgW N 30 n := sgW_rows (h _ (by decide)) (h _ (by decide)) (h _ (by decide)) (h _ (by decide)) (h _ (by decide)) (h _ (by decide)) hW
theorem dX5_choose_0 : decode cX5_choose 0 = .ok (.aload_n 0, 1) := by decide +kernel
theorem dX5_choose_1 : decode cX5_choose 1 = .ok (.getfield 36, 3) := by decide +kernel
theorem dX5_choose_4 : decode cX5_choose 4 = .ok (.ifCond .lt 18, 3) := by decide +kernel
theorem dX5_choose_7 : decode cX5_choose 7 = .ok (.aload_n 0, 1) := by decide +kernel
theorem dX5_choose_8 : decode cX5_choose 8 = .ok (.getfield 12, 3) := by decide +kernel
theorem dX5_choose_11 : decode cX5_choose 11 = .ok (.getfield 55, 3) := by decide +kernel
theorem dX5_choose_14 : decode cX5_choose 14 = .ok (.aload_n 0, 1) := by decide +kernel
theorem dX5_choose_15 : decode cX5_choose 15 = .ok (.getfield 36, 3) := by decide +kernel
theorem dX5_choose_18 : decode cX5_choose 18 = .ok (.iaload, 1) := by decide +kernel
theorem dX5_choose_19 : decode cX5_choose 19 = .ok (.ifCond .ne 34, 3) := by decide +kernel
theorem dX5_choose_22 : decode cX5_choose 22 = .ok (.aload_n 0, 1) := by decide +kernel
theorem dX5_choose_23 : decode cX5_choose 23 = .ok (.aload_n 0, 1) := by decide +kernel
theorem dX5_choose_24 : decode cX5_choose 24 = .ok (.iload_n 1, 1) := by decide +kernel
theorem dX5_choose_25 : decode cX5_choose 25 = .ok (.invokevirtual 58, 3) := by decide +kernel
theorem dX5_choose_28 : decode cX5_choose 28 = .ok (.putfield 36, 3) := by decide +kernel
theorem dX5_choose_31 : decode cX5_choose 31 = .ok (.aload_n 0, 1) := by decide +kernel
theorem dX5_choose_32 : decode cX5_choose 32 = .ok (.iconst 0, 1) := by decide +kernel
theorem dX5_choose_33 : decode cX5_choose 33 = .ok (.putfield 39, 3) := by decide +kernel
theorem dX5_choose_36 : decode cX5_choose 36 = .ok (.aload_n 0, 1) := by decide +kernel
theorem dX5_choose_37 : decode cX5_choose 37 = .ok (.getfield 36, 3) := by decide +kernel
theorem dX5_choose_40 : decode cX5_choose 40 = .ok (.ifCond .ge 5, 3) := by decide +kernel
theorem dX5_choose_43 : decode cX5_choose 43 = .ok (.iconst 0, 1) := by decide +kernel
theorem dX5_choose_44 : decode cX5_choose 44 = .ok (.ireturn, 1) := by decide +kernel
theorem dX5_choose_45 : decode cX5_choose 45 = .ok (.aload_n 0, 1) := by decide +kernel
theorem dX5_choose_46 : decode cX5_choose 46 = .ok (.aload_n 0, 1) := by decide +kernel
theorem dX5_choose_47 : decode cX5_choose 47 = .ok (.getfield 36, 3) := by decide +kernel
theorem dX5_choose_50 : decode cX5_choose 50 = .ok (.putfield 42, 3) := by decide +kernel
theorem dX5_choose_53 : decode cX5_choose 53 = .ok (.aload_n 0, 1) := by decide +kernel
theorem dX5_choose_54 : decode cX5_choose 54 = .ok (.getfield 12, 3) := by decide +kernel
theorem dX5_choose_57 : decode cX5_choose 57 = .ok (.getfield 62, 3) := by decide +kernel
theorem dX5_choose_60 : decode cX5_choose 60 = .ok (.aload_n 0, 1) := by decide +kernel
theorem dX5_choose_61 : decode cX5_choose 61 = .ok (.getfield 36, 3) := by decide +kernel
theorem dX5_choose_64 : decode cX5_choose 64 = .ok (.iaload, 1) := by decide +kernel
theorem dX5_choose_65 : decode cX5_choose 65 = .ok (.aload_n 0, 1) := by decide +kernel
theorem dX5_choose_66 : decode cX5_choose 66 = .ok (.getfield 12, 3) := by decide +kernel
theorem dX5_choose_69 : decode cX5_choose 69 = .ok (.getfield 52, 3) := by decide +kernel
theorem dX5_choose_72 : decode cX5_choose 72 = .ok (.iconst 0, 1) := by decide +kernel
theorem dX5_choose_73 : decode cX5_choose 73 = .ok (.iaload, 1) := by decide +kernel
theorem dX5_choose_74 : decode cX5_choose 74 = .ok (.isub, 1) := by decide +kernel
theorem dX5_choose_75 : decode cX5_choose 75 = .ok (.istore_n 2, 1) := by decide +kernel
theorem dX5_choose_76 : decode cX5_choose 76 = .ok (.iload_n 2, 1) := by decide +kernel
theorem dX5_choose_77 : decode cX5_choose 77 = .ok (.ifCond .ne 5, 3) := by decide +kernel
theorem dX5_choose_80 : decode cX5_choose 80 = .ok (.iconst 3, 1) := by decide +kernel
theorem dX5_choose_81 : decode cX5_choose 81 = .ok (.ireturn, 1) := by decide +kernel
theorem dX5_choose_82 : decode cX5_choose 82 = .ok (.iload_n 2, 1) := by decide +kernel
theorem dX5_choose_83 : decode cX5_choose 83 = .ok (.ifCond .ge 7, 3) := by decide +kernel
theorem dX5_choose_86 : decode cX5_choose 86 = .ok (.iconst 1, 1) := by decide +kernel
theorem dX5_choose_87 : decode cX5_choose 87 = .ok (.goto 4, 3) := by decide +kernel
theorem dX5_choose_90 : decode cX5_choose 90 = .ok (.iconst 2, 1) := by decide +kernel
theorem dX5_choose_91 : decode cX5_choose 91 = .ok (.ireturn, 1) := by decide +kernel
theorem l_X5_ch53 {d : List Nat} {T : vT} {N : vM} {n p : Nat} {rule : Int} {P : Int → vT → vM → Prop} (hB : vB T) (hW : sgW N 30 n) (hg : N 70 2 = (p : Int)) (hp : p < n) (hP : P (pThing (N 31) (N 35 0) (some p)) T N) (x2 : Option vA) : vV m_X5_choose d d (vPi P) 53 [some (vR 70), some (vI rule), x2] [] d T N := by
  have hn := hW.le
  obtain ⟨-, -, -, -, hpl, -, -, -, hs0, -⟩ := hW
  have b1 : 0 ≤ N 31 p ∧ N 31 p ≤ 7 := hpl p
  have b2 : 0 ≤ N 35 0 ∧ N 35 0 ≤ 7 := hs0
  refine vV.aload_n dX5_choose_53 rfl ?_
  refine vV.getr dX5_choose_54 fl_X5_12 (by first | rfl | assumption) rfl (by first | assumption | exact hB _ _ _ rfl) ?_
  refine vV.getr dX5_choose_57 fl_X5_62 (by first | rfl | assumption) rfl (by first | assumption | exact hB _ _ _ rfl) ?_
  refine vV.aload_n dX5_choose_60 rfl ?_
  refine vV.geti (z := 2) dX5_choose_61 fl_X5_36 (by first | rfl | assumption) rfl rfl ?_
  rw [hg]
  refine vV.iald dX5_choose_64 (by first | rfl | assumption) (by omega) (by omega) ?_
  refine vV.aload_n dX5_choose_65 rfl ?_
  refine vV.getr dX5_choose_66 fl_X5_12 (by first | rfl | assumption) rfl (by first | assumption | exact hB _ _ _ rfl) ?_
  refine vV.getr dX5_choose_69 fl_X5_52 (by first | rfl | assumption) rfl (by first | assumption | exact hB _ _ _ rfl) ?_
  refine vV.iconst dX5_choose_72 (by decide) ?_
  refine vV.iald dX5_choose_73 (by first | rfl | assumption) (by omega) (by omega) ?_
  refine vV.isub dX5_choose_74 (⟨by omega, by omega⟩) ?_
  refine vV.istore_n (L' := [_, _, _]) dX5_choose_75 (by decide) rfl ?_
  refine vV.iload_n dX5_choose_76 rfl ?_
  refine vV.if_ne (tgt := 82) dX5_choose_77 (by decide) (fun h77 => ?_) (fun h77 => ?_)
  · skip
    refine vV.iload_n dX5_choose_82 rfl ?_
    refine vV.if_ge (tgt := 90) dX5_choose_83 (by decide) (fun h83 => ?_) (fun h83 => ?_)
    · skip
      refine vV.iconst dX5_choose_90 (by decide) ?_
      refine vV.ri dX5_choose_91 rfl ?_
      first | (rw [pThing_1 (by omega) (by omega)] at hP; exact hP) | (rw [pThing_2 (by omega) (by omega)] at hP; exact hP)
    · skip
      refine vV.iconst dX5_choose_86 (by decide) ?_
      refine vV.goto (tgt := 91) dX5_choose_87 (by decide) ?_
      refine vV.ri dX5_choose_91 rfl ?_
      first | (rw [pThing_1 (by omega) (by omega)] at hP; exact hP) | (rw [pThing_2 (by omega) (by omega)] at hP; exact hP)
  · skip
    refine vV.iconst dX5_choose_80 (by decide) ?_
    refine vV.ri dX5_choose_81 rfl ?_
    rw [pThing_3 (by omega)] at hP; exact hP
theorem l_X5_ch28 {d : List Nat} {T : vT} {N : vM} {n : Nat} {l tk : Option Nat} {rule : Int} (hB : vB T) (hW : sgW N 30 n) (hl : N 70 4 = pOr (-1) l) (htk : ∀ k, tk = some k → k < n) (x2 : Option vA) : vV m_X5_choose d d (vPi fun r T1 M1 => T = T1 ∧ r = pThing (N 31) (N 35 0) tk ∧ mSame [70] N M1 ∧ wSlot [2, 3, 4] N M1 ∧ M1 70 2 = pOr (-1) tk ∧ M1 70 3 = 0 ∧ M1 70 4 = pOr (-1) (tk.or l)) 28 [some (vR 70), some (vI rule), x2] [vI (pOr (-1) tk), vR 70] d T N := by
  cases tk with
  | none =>
    rw [pOr_n]
    refine vV.puti (z := 2) dX5_choose_28 fl_X5_36 (by first | rfl | assumption) rfl rfl ?_
    refine vV.aload_n dX5_choose_31 rfl ?_
    refine vV.iconst dX5_choose_32 (by decide) ?_
    refine vV.puti (z := 3) dX5_choose_33 fl_X5_39 (by first | rfl | assumption) rfl rfl ?_
    refine vV.aload_n dX5_choose_36 rfl ?_
    refine vV.geti (z := 2) dX5_choose_37 fl_X5_36 (by first | rfl | assumption) rfl rfl ?_
    try simp (decide := true) only [vUpd_s, vUpd_nk, vUpd_ni, vRow_s, vRow_n, fSet_s, fSet_n, ne_eq, not_false_eq_true]
    refine vV.if_ge (tgt := 45) dX5_choose_40 (by decide) (fun h40 => ?_) (fun h40 => ?_)
    · skip
      omega
    · skip
      refine vV.iconst dX5_choose_43 (by decide) ?_
      refine vV.ri dX5_choose_44 rfl ?_
      refine ⟨rfl, rfl, fun k hk => ?_, fun j hj => ?_, ?_, ?_, ?_⟩
      · simp at hk; funext j; rw [vUpd_nk hk, vUpd_nk hk]
      · simp at hj; rw [vUpd_ni hj.2.1, vUpd_ni hj.1]
      · rw [vUpd_ni (by decide), vUpd_s]
      · rw [vUpd_s]
      · rw [vUpd_ni (by decide), vUpd_ni (by decide)]; exact hl
  | some p =>
    have hsm : ∀ x y z, mSame [70] N (vUpd (vUpd (vUpd N 70 2 x) 70 3 y) 70 4 z) := fun x y z k hk => by simp at hk; funext j; rw [vUpd_nk hk, vUpd_nk hk, vUpd_nk hk]
    rw [pOr_s]
    refine vV.puti (z := 2) dX5_choose_28 fl_X5_36 (by first | rfl | assumption) rfl rfl ?_
    refine vV.aload_n dX5_choose_31 rfl ?_
    refine vV.iconst dX5_choose_32 (by decide) ?_
    refine vV.puti (z := 3) dX5_choose_33 fl_X5_39 (by first | rfl | assumption) rfl rfl ?_
    refine vV.aload_n dX5_choose_36 rfl ?_
    refine vV.geti (z := 2) dX5_choose_37 fl_X5_36 (by first | rfl | assumption) rfl rfl ?_
    try simp (decide := true) only [vUpd_s, vUpd_nk, vUpd_ni, vRow_s, vRow_n, fSet_s, fSet_n, ne_eq, not_false_eq_true]
    refine vV.if_ge (tgt := 45) dX5_choose_40 (by decide) (fun h40 => ?_) (fun h40 => ?_)
    · skip
      refine vV.aload_n dX5_choose_45 rfl ?_
      refine vV.aload_n dX5_choose_46 rfl ?_
      refine vV.geti (z := 2) dX5_choose_47 fl_X5_36 (by first | rfl | assumption) rfl rfl ?_
      try simp (decide := true) only [vUpd_s, vUpd_nk, vUpd_ni, vRow_s, vRow_n, fSet_s, fSet_n, ne_eq, not_false_eq_true]
      refine vV.puti (z := 4) dX5_choose_50 fl_X5_42 (by first | rfl | assumption) rfl rfl ?_
      refine l_X5_ch53 hB (sgW_70 (hsm _ _ _) hW) (p := p) (by simp [vUpd]) (htk p rfl) ⟨rfl, ?_, hsm _ _ _, fun j hj => ?_, ?_, ?_, ?_⟩ _
      · rw [hsm _ _ _ 31 (by decide), hsm _ _ _ 35 (by decide)]
      · simp at hj; rw [vUpd_ni hj.2.2, vUpd_ni hj.2.1, vUpd_ni hj.1]
      · simp [vUpd, pOr]
      · simp [vUpd]
      · rw [vUpd_s]; rfl
    · skip
      omega
theorem c_X5_choose {d : List Nat} {T : vT} {M : vM} {n t lag : Nat} {g l : Option Nat} {hist : Nat → Int → Int} {rule : Int} (hB : vB T) (hS : wS M n t g l) (hL : wL M n t hist) (ht : t ≤ 600) (hlag : M 35 3 = lag) (hl3 : lag ≤ 3) (hr0 : 0 ≤ rule) (hr3 : rule ≤ 3) :
    vCon m_X5_choose d d [vR 70, vI rule] T M (vPi fun r T1 M1 => T = T1 ∧ r = pThing (M 31) (M 35 0) (pG1 rule n (M 31) (M 33) (M 34) (hist (t - lag)) (M 35 0) g l) ∧ mSame [70] M M1 ∧ wSlot [2, 3, 4, 5] M M1 ∧ M1 70 2 = pOr (-1) (pG1 rule n (M 31) (M 33) (M 34) (hist (t - lag)) (M 35 0) g l) ∧ M1 70 3 = pW1 (M 34) g (M 70 3) ∧ M1 70 4 = pOr (-1) (pL1 rule n (M 31) (M 33) (M 34) (hist (t - lag)) (M 35 0) g l)) := by
  have hS2 := hS
  obtain ⟨s1, s2, s3, s4, s5, s6, s7⟩ := hS2
  have hn := s1.le
  have key : ∀ N y x2, mSame [70] M N → wSlot [5] M N → y = pOr (-1) (pTake rule n (M 31) (M 33) (M 34) (hist (t - lag)) (M 35 0) l) → pNeed (M 34) g = true → vV m_X5_choose d d (vPi fun r T1 M1 => T = T1 ∧ r = pThing (M 31) (M 35 0) (pG1 rule n (M 31) (M 33) (M 34) (hist (t - lag)) (M 35 0) g l) ∧ mSame [70] M M1 ∧ wSlot [2, 3, 4, 5] M M1 ∧ M1 70 2 = pOr (-1) (pG1 rule n (M 31) (M 33) (M 34) (hist (t - lag)) (M 35 0) g l) ∧ M1 70 3 = pW1 (M 34) g (M 70 3) ∧ M1 70 4 = pOr (-1) (pL1 rule n (M 31) (M 33) (M 34) (hist (t - lag)) (M 35 0) g l)) 28 [some (vR 70), some (vI rule), x2] [vI y, vR 70] d T N := by
    intro N y x2 n1 n2 hy hnd
    subst hy
    have h := l_X5_ch28 (d := d) (T := T) (rule := rule) hB (sgW_70 n1 s1) (by rw [n2 4 (by decide)]; exact s4) (fun k hk => pTake_lt (rule := rule) (n := n) (pl := M 31) (fa := M 33) (tu := M 34) (f := hist (t - lag)) (man := M 35 0) (l := l) hk) x2
    refine h.imp ?_
    rintro r T1 M1 ⟨y, rfl, hy, rfl, rfl, b2, b3, b4, b5, b6⟩
    refine ⟨_, rfl, hy, rfl, ?_, ?_, ?_, ?_, ?_, ?_⟩
    · unfold pG1; rw [hnd, n1 31 (by decide), n1 35 (by decide)]; rfl
    · intro k hk; rw [b2 k hk, n1 k hk]
    · intro j hj; simp at hj; rw [b3 j (by simp; omega), n2 j (by simp; omega)]
    · unfold pG1; rw [hnd]; exact b4
    · unfold pW1; rw [hnd]; exact b5
    · unfold pL1; rw [hnd]; exact b6
  refine vCon.of (by decide) rfl rfl (Nat.le_of_ble_eq_true rfl) ?_
  cases g with
  | none =>
    rw [pOr_n] at s2
    refine vV.aload_n dX5_choose_0 rfl ?_
    refine vV.geti (z := 2) dX5_choose_1 fl_X5_36 (by first | rfl | assumption) rfl rfl ?_
    refine vV.if_lt (tgt := 22) dX5_choose_4 (by decide) (fun h4 => ?_) (fun h4 => ?_)
    · skip
      refine vV.aload_n dX5_choose_22 rfl ?_
      refine vV.aload_n dX5_choose_23 rfl ?_
      refine vV.iload_n dX5_choose_24 rfl ?_
      refine vV.cVi dX5_choose_25 ml_X5_58 cw_X5_takeGoal iw_X5_takeGoal (by first | rfl | assumption) rfl (by unfold vRoom; decide) (c_X5_takeGoal hB hS hL ht hlag hl3 hr0 hr3) rfl rfl (Nat.le_of_ble_eq_true rfl) ?_
      rintro x25 _ N hx25 ⟨rfl, q1, q2, q3⟩
      exact key N _ _ q1 q2 q3 rfl
    · skip
      omega
  | some p =>
    have hp := s3 p rfl
    have b1 := s1.tu p
    rw [pOr_s] at s2
    refine vV.aload_n dX5_choose_0 rfl ?_
    refine vV.geti (z := 2) dX5_choose_1 fl_X5_36 (by first | rfl | assumption) rfl rfl ?_
    refine vV.if_lt (tgt := 22) dX5_choose_4 (by decide) (fun h4 => ?_) (fun h4 => ?_)
    · skip
      omega
    · skip
      refine vV.aload_n dX5_choose_7 rfl ?_
      refine vV.getr dX5_choose_8 fl_X5_12 (by first | rfl | assumption) rfl (by first | assumption | exact hB _ _ _ rfl) ?_
      refine vV.getr dX5_choose_11 fl_X5_55 (by first | rfl | assumption) rfl (by first | assumption | exact hB _ _ _ rfl) ?_
      refine vV.aload_n dX5_choose_14 rfl ?_
      refine vV.geti (z := 2) dX5_choose_15 fl_X5_36 (by first | rfl | assumption) rfl rfl ?_
      rw [s2]
      refine vV.iald dX5_choose_18 (by first | rfl | assumption) (by omega) (by omega) ?_
      refine vV.if_ne (tgt := 53) dX5_choose_19 (by decide) (fun h19 => ?_) (fun h19 => ?_)
      · skip
        have hnd : pNeed (M 34) (some p) = false := by simp [pNeed]; exact h19
        exact l_X5_ch53 hB s1 s2 hp ⟨rfl, by unfold pG1; rw [hnd]; rfl, fun k hk => rfl, fun j hj => rfl, by unfold pG1; rw [hnd]; exact s2, by unfold pW1; rw [hnd]; rfl, by unfold pL1; rw [hnd]; exact s4⟩ _
      · skip
        have hnd : pNeed (M 34) (some p) = true := by simp [pNeed]; exact h19
        refine vV.aload_n dX5_choose_22 rfl ?_
        refine vV.aload_n dX5_choose_23 rfl ?_
        refine vV.iload_n dX5_choose_24 rfl ?_
        refine vV.cVi dX5_choose_25 ml_X5_58 cw_X5_takeGoal iw_X5_takeGoal (by first | rfl | assumption) rfl (by unfold vRoom; decide) (c_X5_takeGoal hB hS hL ht hlag hl3 hr0 hr3) rfl rfl (Nat.le_of_ble_eq_true rfl) ?_
        rintro x25 _ N hx25 ⟨rfl, q1, q2, q3⟩
        exact key N _ _ q1 q2 q3 hnd
def pLog (man g l w : Int) : Int := man + 8 * (g + 1) + 64 * (l + 1) + 512 * w
theorem pLog_or {man g l w : Int} (h1 : 0 ≤ man ∧ man ≤ 7) (h2 : -1 ≤ g ∧ g ≤ 5) (h3 : -1 ≤ l ∧ l ≤ 5) (h4 : 0 ≤ w ∧ w ≤ 9) : vOr (vOr (vOr man (vShl (g + 1) 3)) (vShl (l + 1) 6)) (vShl w 9) = pLog man g l w := by
  obtain ⟨a, ha⟩ : ∃ a : Nat, man = a := ⟨man.toNat, by omega⟩
  obtain ⟨b, hb⟩ : ∃ b : Nat, g + 1 = b := ⟨(g + 1).toNat, by omega⟩
  obtain ⟨c, hc⟩ : ∃ c : Nat, l + 1 = c := ⟨(l + 1).toNat, by omega⟩
  obtain ⟨e, he⟩ : ∃ e : Nat, w = e := ⟨w.toNat, by omega⟩
  unfold pLog
  rw [ha, hb, hc, he]
  have e1 : vShl (b : Int) 3 = ((2 ^ 3 * b : Nat) : Int) := by rw [show (3 : Int) = ((3 : Nat) : Int) from rfl, vShl_nat (by omega) (by omega), Nat.mul_comm]
  have e2 : vShl (c : Int) 6 = ((2 ^ 6 * c : Nat) : Int) := by rw [show (6 : Int) = ((6 : Nat) : Int) from rfl, vShl_nat (by omega) (by omega), Nat.mul_comm]
  have e3 : vShl (e : Int) 9 = ((2 ^ 9 * e : Nat) : Int) := by rw [show (9 : Int) = ((9 : Nat) : Int) from rfl, vShl_nat (by omega) (by omega), Nat.mul_comm]
  rw [e1, e2, e3, vOr_sum b (by omega) (by omega), vOr_sum c (by omega) (by omega), vOr_sum e (by omega) (by omega)]
  omega
theorem dX5_writeLog_0 : decode cX5_writeLog 0 = .ok (.aload_n 0, 1) := by decide +kernel
theorem dX5_writeLog_1 : decode cX5_writeLog 1 = .ok (.getfield 32, 3) := by decide +kernel
theorem dX5_writeLog_4 : decode cX5_writeLog 4 = .ok (.sipush 600, 3) := by decide +kernel
theorem dX5_writeLog_7 : decode cX5_writeLog 7 = .ok (.if_icmp .gt 64, 3) := by decide +kernel
theorem dX5_writeLog_10 : decode cX5_writeLog 10 = .ok (.aload_n 0, 1) := by decide +kernel
theorem dX5_writeLog_11 : decode cX5_writeLog 11 = .ok (.getfield 18, 3) := by decide +kernel
theorem dX5_writeLog_14 : decode cX5_writeLog 14 = .ok (.aload_n 0, 1) := by decide +kernel
theorem dX5_writeLog_15 : decode cX5_writeLog 15 = .ok (.getfield 32, 3) := by decide +kernel
theorem dX5_writeLog_18 : decode cX5_writeLog 18 = .ok (.aload_n 0, 1) := by decide +kernel
theorem dX5_writeLog_19 : decode cX5_writeLog 19 = .ok (.getfield 12, 3) := by decide +kernel
theorem dX5_writeLog_22 : decode cX5_writeLog 22 = .ok (.invokevirtual 48, 3) := by decide +kernel
theorem dX5_writeLog_25 : decode cX5_writeLog 25 = .ok (.iastore, 1) := by decide +kernel
theorem dX5_writeLog_26 : decode cX5_writeLog 26 = .ok (.aload_n 0, 1) := by decide +kernel
theorem dX5_writeLog_27 : decode cX5_writeLog 27 = .ok (.getfield 22, 3) := by decide +kernel
theorem dX5_writeLog_30 : decode cX5_writeLog 30 = .ok (.aload_n 0, 1) := by decide +kernel
theorem dX5_writeLog_31 : decode cX5_writeLog 31 = .ok (.getfield 32, 3) := by decide +kernel
theorem dX5_writeLog_34 : decode cX5_writeLog 34 = .ok (.aload_n 0, 1) := by decide +kernel
theorem dX5_writeLog_35 : decode cX5_writeLog 35 = .ok (.getfield 12, 3) := by decide +kernel
theorem dX5_writeLog_38 : decode cX5_writeLog 38 = .ok (.getfield 52, 3) := by decide +kernel
theorem dX5_writeLog_41 : decode cX5_writeLog 41 = .ok (.iconst 0, 1) := by decide +kernel
theorem dX5_writeLog_42 : decode cX5_writeLog 42 = .ok (.iaload, 1) := by decide +kernel
theorem dX5_writeLog_43 : decode cX5_writeLog 43 = .ok (.aload_n 0, 1) := by decide +kernel
theorem dX5_writeLog_44 : decode cX5_writeLog 44 = .ok (.getfield 36, 3) := by decide +kernel
theorem dX5_writeLog_47 : decode cX5_writeLog 47 = .ok (.iconst 1, 1) := by decide +kernel
theorem dX5_writeLog_48 : decode cX5_writeLog 48 = .ok (.iadd, 1) := by decide +kernel
theorem dX5_writeLog_49 : decode cX5_writeLog 49 = .ok (.iconst 3, 1) := by decide +kernel
theorem dX5_writeLog_50 : decode cX5_writeLog 50 = .ok (.ishl, 1) := by decide +kernel
theorem dX5_writeLog_51 : decode cX5_writeLog 51 = .ok (.ior, 1) := by decide +kernel
theorem dX5_writeLog_52 : decode cX5_writeLog 52 = .ok (.aload_n 0, 1) := by decide +kernel
theorem dX5_writeLog_53 : decode cX5_writeLog 53 = .ok (.getfield 42, 3) := by decide +kernel
theorem dX5_writeLog_56 : decode cX5_writeLog 56 = .ok (.iconst 1, 1) := by decide +kernel
theorem dX5_writeLog_57 : decode cX5_writeLog 57 = .ok (.iadd, 1) := by decide +kernel
theorem dX5_writeLog_58 : decode cX5_writeLog 58 = .ok (.bipush 6, 2) := by decide +kernel
theorem dX5_writeLog_60 : decode cX5_writeLog 60 = .ok (.ishl, 1) := by decide +kernel
theorem dX5_writeLog_61 : decode cX5_writeLog 61 = .ok (.ior, 1) := by decide +kernel
theorem dX5_writeLog_62 : decode cX5_writeLog 62 = .ok (.aload_n 0, 1) := by decide +kernel
theorem dX5_writeLog_63 : decode cX5_writeLog 63 = .ok (.getfield 39, 3) := by decide +kernel
theorem dX5_writeLog_66 : decode cX5_writeLog 66 = .ok (.bipush 9, 2) := by decide +kernel
theorem dX5_writeLog_68 : decode cX5_writeLog 68 = .ok (.ishl, 1) := by decide +kernel
theorem dX5_writeLog_69 : decode cX5_writeLog 69 = .ok (.ior, 1) := by decide +kernel
theorem dX5_writeLog_70 : decode cX5_writeLog 70 = .ok (.iastore, 1) := by decide +kernel
theorem dX5_writeLog_71 : decode cX5_writeLog 71 = .ok (.return_, 1) := by decide +kernel
theorem c_X5_writeLog {d : List Nat} {T : vT} {M : vM} {n t : Nat} (hB : vB T) (hW : sgW M 30 n) (ht : M 70 1 = t) (htt : t ≤ 600) (h2 : -1 ≤ M 70 2 ∧ M 70 2 ≤ 5) (h3 : -1 ≤ M 70 4 ∧ M 70 4 ≤ 5) (h4 : 0 ≤ M 70 3 ∧ M 70 3 ≤ 9) :
    vCon m_X5_writeLog d d [vR 70] T M (vPv fun T1 M1 => T = T1 ∧ M1 = vUpd (vUpd M 76 t (pPack (M 34) n)) 77 t (pLog (M 35 0) (M 70 2) (M 70 4) (M 70 3))) := by
  have h1 : 0 ≤ M 35 0 ∧ M 35 0 ≤ 7 := hW.2.2.2.2.2.2.2.2.1
  refine vCon.of (by decide) rfl rfl (Nat.le_of_ble_eq_true rfl) ?_
  refine vV.aload_n dX5_writeLog_0 rfl ?_
  refine vV.geti (z := 1) dX5_writeLog_1 fl_X5_32 (by first | rfl | assumption) rfl rfl ?_
  try simp (decide := true) only [vUpd_s, vUpd_nk, vUpd_ni, vRow_s, vRow_n, fSet_s, fSet_n, ne_eq, not_false_eq_true]
  refine vV.sipush (v := 600) dX5_writeLog_4 (by decide) (by decide) ?_
  refine vV.icmp_gt (tgt := 71) dX5_writeLog_7 (by decide) (fun h7 => ?_) (fun h7 => ?_)
  · skip
    omega
  · skip
    refine vV.aload_n dX5_writeLog_10 rfl ?_
    refine vV.getr dX5_writeLog_11 fl_X5_18 (by first | rfl | assumption) rfl (by first | assumption | exact hB _ _ _ rfl) ?_
    try simp (decide := true) only [vUpd_s, vUpd_nk, vUpd_ni, vRow_s, vRow_n, fSet_s, fSet_n, ne_eq, not_false_eq_true]
    refine vV.aload_n dX5_writeLog_14 rfl ?_
    refine vV.geti (z := 1) dX5_writeLog_15 fl_X5_32 (by first | rfl | assumption) rfl rfl ?_
    try simp (decide := true) only [vUpd_s, vUpd_nk, vUpd_ni, vRow_s, vRow_n, fSet_s, fSet_n, ne_eq, not_false_eq_true]
    refine vV.aload_n dX5_writeLog_18 rfl ?_
    refine vV.getr dX5_writeLog_19 fl_X5_12 (by first | rfl | assumption) rfl (by first | assumption | exact hB _ _ _ rfl) ?_
    try simp (decide := true) only [vUpd_s, vUpd_nk, vUpd_ni, vRow_s, vRow_n, fSet_s, fSet_n, ne_eq, not_false_eq_true]
    refine vV.cVi dX5_writeLog_22 ml_X5_48 cw_X3_packedTurns iw_X3_packedTurns (by first | rfl | assumption) rfl (by unfold vRoom; decide) (c_X3_packedTurns sgK_30 (sgT_30 hB) hW.cnt hW.le hW.tu) rfl rfl (Nat.le_of_ble_eq_true rfl) ?_
    rintro x22 _ _ hx22 ⟨rfl, rfl, rfl⟩
    refine vV.iast dX5_writeLog_25 (by first | rfl | assumption) (by omega) (by omega) ?_
    refine vV.aload_n dX5_writeLog_26 rfl ?_
    refine vV.getr dX5_writeLog_27 fl_X5_22 (by first | rfl | assumption) rfl (by first | assumption | exact hB _ _ _ rfl) ?_
    try simp (decide := true) only [vUpd_s, vUpd_nk, vUpd_ni, vRow_s, vRow_n, fSet_s, fSet_n, ne_eq, not_false_eq_true]
    refine vV.aload_n dX5_writeLog_30 rfl ?_
    refine vV.geti (z := 1) dX5_writeLog_31 fl_X5_32 (by first | rfl | assumption) rfl rfl ?_
    try simp (decide := true) only [vUpd_s, vUpd_nk, vUpd_ni, vRow_s, vRow_n, fSet_s, fSet_n, ne_eq, not_false_eq_true]
    refine vV.aload_n dX5_writeLog_34 rfl ?_
    refine vV.getr dX5_writeLog_35 fl_X5_12 (by first | rfl | assumption) rfl (by first | assumption | exact hB _ _ _ rfl) ?_
    try simp (decide := true) only [vUpd_s, vUpd_nk, vUpd_ni, vRow_s, vRow_n, fSet_s, fSet_n, ne_eq, not_false_eq_true]
    refine vV.getr dX5_writeLog_38 fl_X5_52 (by first | rfl | assumption) rfl (by first | assumption | exact hB _ _ _ rfl) ?_
    try simp (decide := true) only [vUpd_s, vUpd_nk, vUpd_ni, vRow_s, vRow_n, fSet_s, fSet_n, ne_eq, not_false_eq_true]
    refine vV.iconst dX5_writeLog_41 (by decide) ?_
    refine vV.iald dX5_writeLog_42 (by first | rfl | assumption) (by omega) (by omega) ?_
    try simp (decide := true) only [vUpd_s, vUpd_nk, vUpd_ni, vRow_s, vRow_n, fSet_s, fSet_n, ne_eq, not_false_eq_true]
    refine vV.aload_n dX5_writeLog_43 rfl ?_
    refine vV.geti (z := 2) dX5_writeLog_44 fl_X5_36 (by first | rfl | assumption) rfl rfl ?_
    try simp (decide := true) only [vUpd_s, vUpd_nk, vUpd_ni, vRow_s, vRow_n, fSet_s, fSet_n, ne_eq, not_false_eq_true]
    refine vV.iconst dX5_writeLog_47 (by decide) ?_
    refine vV.iadd dX5_writeLog_48 (⟨by omega, by omega⟩) ?_
    refine vV.iconst dX5_writeLog_49 (by decide) ?_
    refine vV.ishl dX5_writeLog_50 ?_
    refine vV.ior dX5_writeLog_51 ?_
    refine vV.aload_n dX5_writeLog_52 rfl ?_
    refine vV.geti (z := 4) dX5_writeLog_53 fl_X5_42 (by first | rfl | assumption) rfl rfl ?_
    try simp (decide := true) only [vUpd_s, vUpd_nk, vUpd_ni, vRow_s, vRow_n, fSet_s, fSet_n, ne_eq, not_false_eq_true]
    refine vV.iconst dX5_writeLog_56 (by decide) ?_
    refine vV.iadd dX5_writeLog_57 (⟨by omega, by omega⟩) ?_
    refine vV.bipush (v := 6) dX5_writeLog_58 (by decide) (by decide) ?_
    refine vV.ishl dX5_writeLog_60 ?_
    refine vV.ior dX5_writeLog_61 ?_
    refine vV.aload_n dX5_writeLog_62 rfl ?_
    refine vV.geti (z := 3) dX5_writeLog_63 fl_X5_39 (by first | rfl | assumption) rfl rfl ?_
    try simp (decide := true) only [vUpd_s, vUpd_nk, vUpd_ni, vRow_s, vRow_n, fSet_s, fSet_n, ne_eq, not_false_eq_true]
    refine vV.bipush (v := 9) dX5_writeLog_66 (by decide) (by decide) ?_
    refine vV.ishl dX5_writeLog_68 ?_
    refine vV.ior dX5_writeLog_69 ?_
    rw [pLog_or h1 h2 h3 h4, ht]
    refine vV.iast dX5_writeLog_70 (by first | rfl | assumption) (by omega) (by omega) ?_
    refine vV.rv dX5_writeLog_71 rfl ?_
    exact ⟨rfl, rfl⟩
