/-! ===== own: the class's walker: begin, act ===== -/
theorem dX5_beginHere_0 : decode cX5_beginHere 0 = .ok (.aload_n 0, 1) := by decide +kernel
theorem dX5_beginHere_1 : decode cX5_beginHere 1 = .ok (.iconst 0, 1) := by decide +kernel
theorem dX5_beginHere_2 : decode cX5_beginHere 2 = .ok (.putfield 32, 3) := by decide +kernel
theorem dX5_beginHere_5 : decode cX5_beginHere 5 = .ok (.aload_n 0, 1) := by decide +kernel
theorem dX5_beginHere_6 : decode cX5_beginHere 6 = .ok (.iconst (-1), 1) := by decide +kernel
theorem dX5_beginHere_7 : decode cX5_beginHere 7 = .ok (.putfield 36, 3) := by decide +kernel
theorem dX5_beginHere_10 : decode cX5_beginHere 10 = .ok (.aload_n 0, 1) := by decide +kernel
theorem dX5_beginHere_11 : decode cX5_beginHere 11 = .ok (.iconst 0, 1) := by decide +kernel
theorem dX5_beginHere_12 : decode cX5_beginHere 12 = .ok (.putfield 39, 3) := by decide +kernel
theorem dX5_beginHere_15 : decode cX5_beginHere 15 = .ok (.aload_n 0, 1) := by decide +kernel
theorem dX5_beginHere_16 : decode cX5_beginHere 16 = .ok (.iconst (-1), 1) := by decide +kernel
theorem dX5_beginHere_17 : decode cX5_beginHere 17 = .ok (.putfield 42, 3) := by decide +kernel
theorem dX5_beginHere_20 : decode cX5_beginHere 20 = .ok (.aload_n 0, 1) := by decide +kernel
theorem dX5_beginHere_21 : decode cX5_beginHere 21 = .ok (.invokevirtual 45, 3) := by decide +kernel
theorem dX5_beginHere_24 : decode cX5_beginHere 24 = .ok (.return_, 1) := by decide +kernel
def wBeg (M M1 : vM) (n : Nat) : Prop := mSame [70, 76, 77] M M1 ∧ wSlot [1, 2, 3, 4] M M1 ∧ M1 70 1 = 0 ∧ M1 70 2 = -1 ∧ M1 70 3 = 0 ∧ M1 70 4 = -1 ∧ M1 76 = fSet (M 76) 0 (pPack (M 34) n) ∧ M1 77 = fSet (M 77) 0 (pLog (M 35 0) (-1) (-1) 0)
theorem c_X5_beginHere {d : List Nat} {T : vT} {M : vM} {n : Nat} (hB : vB T) (hW : sgW M 30 n) : vCon m_X5_beginHere d d [vR 70] T M (vPv fun T1 M1 => T = T1 ∧ wBeg M M1 n) := by
  refine vCon.of (by decide) rfl rfl (Nat.le_of_ble_eq_true rfl) ?_
  refine vV.aload_n dX5_beginHere_0 rfl ?_
  refine vV.iconst dX5_beginHere_1 (by decide) ?_
  refine vV.puti (z := 1) dX5_beginHere_2 fl_X5_32 (by first | rfl | assumption) rfl rfl ?_
  refine vV.aload_n dX5_beginHere_5 rfl ?_
  refine vV.iconst dX5_beginHere_6 (by decide) ?_
  refine vV.puti (z := 2) dX5_beginHere_7 fl_X5_36 (by first | rfl | assumption) rfl rfl ?_
  refine vV.aload_n dX5_beginHere_10 rfl ?_
  refine vV.iconst dX5_beginHere_11 (by decide) ?_
  refine vV.puti (z := 3) dX5_beginHere_12 fl_X5_39 (by first | rfl | assumption) rfl rfl ?_
  refine vV.aload_n dX5_beginHere_15 rfl ?_
  refine vV.iconst dX5_beginHere_16 (by decide) ?_
  refine vV.puti (z := 4) dX5_beginHere_17 fl_X5_42 (by first | rfl | assumption) rfl rfl ?_
  obtain ⟨N, hN⟩ : ∃ N, N = vUpd (vUpd (vUpd (vUpd M 70 1 0) 70 2 (-1)) 70 3 0) 70 4 (-1) := ⟨_, rfl⟩
  rw [← hN]
  have n1 : mSame [70] M N := fun k hk => by simp at hk; rw [hN]; funext j; rw [vUpd_nk hk, vUpd_nk hk, vUpd_nk hk, vUpd_nk hk]
  have n2 : wSlot [1, 2, 3, 4] M N := fun j hj => by simp at hj; rw [hN, vUpd_ni hj.2.2.2, vUpd_ni hj.2.2.1, vUpd_ni hj.2.1, vUpd_ni hj.1]
  have n3 : N 70 1 = (0 : Nat) := by rw [hN]; simp [vUpd]
  have n4 : N 70 2 = -1 := by rw [hN]; simp [vUpd]
  have n5 : N 70 3 = 0 := by rw [hN]; simp [vUpd]
  have n6 : N 70 4 = -1 := by rw [hN]; simp [vUpd]
  refine vV.aload_n dX5_beginHere_20 rfl ?_
  refine vV.cVv dX5_beginHere_21 ml_X5_45 cw_X5_writeLog iw_X5_writeLog (by first | rfl | assumption) rfl (by unfold vRoom; decide) (c_X5_writeLog (n := n) (t := 0) hB (sgW_70 n1 hW) n3 (by omega) (by omega) (by omega) (by omega)) rfl rfl (Nat.le_of_ble_eq_true rfl) ?_
  rintro _ _ ⟨rfl, rfl⟩
  refine vV.rv dX5_beginHere_24 rfl ?_
  have hsm : ∀ x y, mSame [76, 77] N (vUpd (vUpd N 76 (0 : Nat) x) 77 (0 : Nat) y) := fun x y k hk => by simp at hk; funext j; rw [vUpd_nk hk.2, vUpd_nk hk.1]
  refine ⟨rfl, fun k hk => ?_, fun j hj => ?_, ?_, ?_, ?_, ?_, ?_, ?_⟩
  · rw [hsm _ _ k (by simp at hk ⊢; omega), n1 k (by simp at hk ⊢; omega)]
  · rw [hsm _ _ 70 (by decide)]; exact n2 j hj
  · rw [hsm _ _ 70 (by decide)]; exact n3
  · rw [hsm _ _ 70 (by decide)]; exact n4
  · rw [hsm _ _ 70 (by decide)]; exact n5
  · rw [hsm _ _ 70 (by decide)]; exact n6
  · rw [vUpd_row (by decide), vUpd_r, vRow_s, n1 76 (by decide), n1 34 (by decide)]; rfl
  · rw [vUpd_r, vRow_s, vUpd_row (by decide), n1 77 (by decide), n1 35 (by decide), n4, n5, n6]; rfl
/-- the walker's state -/
def wP (M : vM) (n : Nat) : pP := (n, M 31, M 32, M 33, M 35 1, M 35 2)
def wSt (M : vM) (n t : Nat) (hist : Nat → Int → Int) (s : pS) : Prop := wS M n t s.2.2.1 s.2.2.2.2 ∧ wL M n t hist ∧ M 35 0 = s.1 ∧ M 34 = s.2.1 ∧ M 70 3 = s.2.2.2.1 ∧ hist t = s.2.1
theorem wBeg_st {M M1 : vM} {n : Nat} (hW : sgW M 30 n) (h : wBeg M M1 n) : wSt M1 n 0 (fun _ => M 34) (M 35 0, M 34, none, 0, none) := by
  obtain ⟨b1, b2, b3, b4, b5, b6, b7, b8⟩ := h
  have e34 : M1 34 = M 34 := b1 34 (by decide)
  have e35 : M1 35 = M 35 := b1 35 (by decide)
  have hp : 1 ≤ M 35 2 := hW.2.2.2.2.2.2.2.2.2.2.1.1
  refine ⟨⟨sgW_rows (b1 _ (by decide)) (b1 _ (by decide)) (b1 _ (by decide)) (b1 _ (by decide)) e34 e35 hW, b4, (fun _ h => nomatch h), b6, (fun _ h => nomatch h), ?_, b3⟩, ⟨fun i hi => ?_, fun i j => hW.tu j⟩, by rw [e35], e34, b5, rfl⟩
  · rw [b5, e35]; omega
  · rw [show i = 0 by omega, b7]; exact fSet_s _ _ _
theorem dX5_begin_0 : decode cX5_begin 0 = .ok (.aload_n 0, 1) := by decide +kernel
theorem dX5_begin_1 : decode cX5_begin 1 = .ok (.getfield 12, 3) := by decide +kernel
theorem dX5_begin_4 : decode cX5_begin 4 = .ok (.aload_n 1, 1) := by decide +kernel
theorem dX5_begin_5 : decode cX5_begin 5 = .ok (.invokevirtual 25, 3) := by decide +kernel
theorem dX5_begin_8 : decode cX5_begin 8 = .ok (.aload_n 0, 1) := by decide +kernel
theorem dX5_begin_9 : decode cX5_begin 9 = .ok (.invokevirtual 29, 3) := by decide +kernel
theorem dX5_begin_12 : decode cX5_begin 12 = .ok (.return_, 1) := by decide +kernel
theorem sgW_cp {M : vM} {a b n : Nat} (hab : a + 5 < b ∨ b + 5 < a) (h : sgW M b n) : sgW (sgCp M a b) a n := by
  unfold sgW sgCp
  refine ⟨?_, ?_⟩
  · simp only [vRow_n (show a ≠ a + 5 by omega), vRow_n (show a ≠ a + 4 by omega), vRow_n (show a ≠ a + 3 by omega), vRow_n (show a ≠ a + 2 by omega), vRow_n (show a ≠ a + 1 by omega), vRow_s, fSet_s]; exact h.1
  · simp only [vRow_s, vRow_n (show a + 1 ≠ a + 5 by omega), vRow_n (show a + 1 ≠ a + 4 by omega), vRow_n (show a + 1 ≠ a + 3 by omega), vRow_n (show a + 1 ≠ a + 2 by omega), vRow_n (show a + 2 ≠ a + 5 by omega), vRow_n (show a + 2 ≠ a + 4 by omega), vRow_n (show a + 2 ≠ a + 3 by omega), vRow_n (show a + 3 ≠ a + 5 by omega), vRow_n (show a + 3 ≠ a + 4 by omega), vRow_n (show a + 4 ≠ a + 5 by omega)]
    exact h.2
theorem c_X5_begin {d : List Nat} {T : vT} {M : vM} {n : Nat} (hB : vB T) (hZ : sgZ M 30) (hW : sgW M 10 n) : vCon m_X5_begin d d [vR 70, vR 10] T M (vPv fun T1 M1 => T = T1 ∧ wBeg (sgCp M 30 10) M1 n) := by
  refine vCon.of (by decide) rfl rfl (Nat.le_of_ble_eq_true rfl) ?_
  refine vV.aload_n dX5_begin_0 rfl ?_
  refine vV.getr dX5_begin_1 fl_X5_12 (by first | rfl | assumption) rfl (by first | assumption | exact hB _ _ _ rfl) ?_
  refine vV.aload_n dX5_begin_4 rfl ?_
  refine vV.cVv dX5_begin_5 ml_X5_25 cw_X3_copyFrom iw_X3_copyFrom (by first | rfl | assumption) rfl (by unfold vRoom; decide) (c_X3_copyFrom sgK_30 (sgT_30 hB) sgK_10 (sgT_10 hB) (by omega) hZ hW.z) rfl rfl (Nat.le_of_ble_eq_true rfl) ?_
  rintro _ _ ⟨rfl, rfl⟩
  refine vV.aload_n dX5_begin_8 rfl ?_
  refine vV.cVv dX5_begin_9 ml_X5_29 cw_X5_beginHere iw_X5_beginHere (by first | rfl | assumption) rfl (by unfold vRoom; decide) (c_X5_beginHere hB (sgW_cp (by omega) hW)) rfl rfl (Nat.le_of_ble_eq_true rfl) ?_
  rintro _ _ ⟨rfl, hbg⟩
  refine vV.rv dX5_begin_12 rfl ?_
  exact ⟨rfl, hbg⟩
theorem dX5_act_0 : decode cX5_act 0 = .ok (.aload_n 0, 1) := by decide +kernel
theorem dX5_act_1 : decode cX5_act 1 = .ok (.getfield 12, 3) := by decide +kernel
theorem dX5_act_4 : decode cX5_act 4 = .ok (.iload_n 1, 1) := by decide +kernel
theorem dX5_act_5 : decode cX5_act 5 = .ok (.invokevirtual 65, 3) := by decide +kernel
theorem dX5_act_8 : decode cX5_act 8 = .ok (.iload_n 1, 1) := by decide +kernel
theorem dX5_act_9 : decode cX5_act 9 = .ok (.iconst 3, 1) := by decide +kernel
theorem dX5_act_10 : decode cX5_act 10 = .ok (.if_icmp .ne 97, 3) := by decide +kernel
theorem dX5_act_13 : decode cX5_act 13 = .ok (.aload_n 0, 1) := by decide +kernel
theorem dX5_act_14 : decode cX5_act 14 = .ok (.getfield 36, 3) := by decide +kernel
theorem dX5_act_17 : decode cX5_act 17 = .ok (.ifCond .lt 90, 3) := by decide +kernel
theorem dX5_act_20 : decode cX5_act 20 = .ok (.aload_n 0, 1) := by decide +kernel
theorem dX5_act_21 : decode cX5_act 21 = .ok (.getfield 12, 3) := by decide +kernel
theorem dX5_act_24 : decode cX5_act 24 = .ok (.getfield 62, 3) := by decide +kernel
theorem dX5_act_27 : decode cX5_act 27 = .ok (.aload_n 0, 1) := by decide +kernel
theorem dX5_act_28 : decode cX5_act 28 = .ok (.getfield 36, 3) := by decide +kernel
theorem dX5_act_31 : decode cX5_act 31 = .ok (.iaload, 1) := by decide +kernel
theorem dX5_act_32 : decode cX5_act 32 = .ok (.aload_n 0, 1) := by decide +kernel
theorem dX5_act_33 : decode cX5_act 33 = .ok (.getfield 12, 3) := by decide +kernel
theorem dX5_act_36 : decode cX5_act 36 = .ok (.getfield 52, 3) := by decide +kernel
theorem dX5_act_39 : decode cX5_act 39 = .ok (.iconst 0, 1) := by decide +kernel
theorem dX5_act_40 : decode cX5_act 40 = .ok (.iaload, 1) := by decide +kernel
theorem dX5_act_41 : decode cX5_act 41 = .ok (.if_icmp .ne 66, 3) := by decide +kernel
theorem dX5_act_44 : decode cX5_act 44 = .ok (.aload_n 0, 1) := by decide +kernel
theorem dX5_act_45 : decode cX5_act 45 = .ok (.dup, 1) := by decide +kernel
theorem dX5_act_46 : decode cX5_act 46 = .ok (.getfield 39, 3) := by decide +kernel
theorem dX5_act_49 : decode cX5_act 49 = .ok (.iconst 1, 1) := by decide +kernel
theorem dX5_act_50 : decode cX5_act 50 = .ok (.iadd, 1) := by decide +kernel
theorem dX5_act_51 : decode cX5_act 51 = .ok (.putfield 39, 3) := by decide +kernel
theorem dX5_act_54 : decode cX5_act 54 = .ok (.aload_n 0, 1) := by decide +kernel
theorem dX5_act_55 : decode cX5_act 55 = .ok (.getfield 12, 3) := by decide +kernel
theorem dX5_act_58 : decode cX5_act 58 = .ok (.getfield 55, 3) := by decide +kernel
theorem dX5_act_61 : decode cX5_act 61 = .ok (.aload_n 0, 1) := by decide +kernel
theorem dX5_act_62 : decode cX5_act 62 = .ok (.getfield 36, 3) := by decide +kernel
theorem dX5_act_65 : decode cX5_act 65 = .ok (.iaload, 1) := by decide +kernel
theorem dX5_act_66 : decode cX5_act 66 = .ok (.aload_n 0, 1) := by decide +kernel
theorem dX5_act_67 : decode cX5_act 67 = .ok (.getfield 12, 3) := by decide +kernel
theorem dX5_act_70 : decode cX5_act 70 = .ok (.getfield 69, 3) := by decide +kernel
theorem dX5_act_73 : decode cX5_act 73 = .ok (.aload_n 0, 1) := by decide +kernel
theorem dX5_act_74 : decode cX5_act 74 = .ok (.getfield 36, 3) := by decide +kernel
theorem dX5_act_77 : decode cX5_act 77 = .ok (.iaload, 1) := by decide +kernel
theorem dX5_act_78 : decode cX5_act 78 = .ok (.if_icmp .eq 19, 3) := by decide +kernel
theorem dX5_act_81 : decode cX5_act 81 = .ok (.aload_n 0, 1) := by decide +kernel
theorem dX5_act_82 : decode cX5_act 82 = .ok (.getfield 39, 3) := by decide +kernel
theorem dX5_act_85 : decode cX5_act 85 = .ok (.aload_n 0, 1) := by decide +kernel
theorem dX5_act_86 : decode cX5_act 86 = .ok (.getfield 12, 3) := by decide +kernel
theorem dX5_act_89 : decode cX5_act 89 = .ok (.getfield 52, 3) := by decide +kernel
theorem dX5_act_92 : decode cX5_act 92 = .ok (.iconst 2, 1) := by decide +kernel
theorem dX5_act_93 : decode cX5_act 93 = .ok (.iaload, 1) := by decide +kernel
theorem dX5_act_94 : decode cX5_act 94 = .ok (.if_icmp .lt 13, 3) := by decide +kernel
theorem dX5_act_97 : decode cX5_act 97 = .ok (.aload_n 0, 1) := by decide +kernel
theorem dX5_act_98 : decode cX5_act 98 = .ok (.iconst (-1), 1) := by decide +kernel
theorem dX5_act_99 : decode cX5_act 99 = .ok (.putfield 36, 3) := by decide +kernel
theorem dX5_act_102 : decode cX5_act 102 = .ok (.aload_n 0, 1) := by decide +kernel
theorem dX5_act_103 : decode cX5_act 103 = .ok (.iconst 0, 1) := by decide +kernel
theorem dX5_act_104 : decode cX5_act 104 = .ok (.putfield 39, 3) := by decide +kernel
theorem dX5_act_107 : decode cX5_act 107 = .ok (.aload_n 0, 1) := by decide +kernel
theorem dX5_act_108 : decode cX5_act 108 = .ok (.getfield 12, 3) := by decide +kernel
theorem dX5_act_111 : decode cX5_act 111 = .ok (.invokevirtual 72, 3) := by decide +kernel
theorem dX5_act_114 : decode cX5_act 114 = .ok (.aload_n 0, 1) := by decide +kernel
theorem dX5_act_115 : decode cX5_act 115 = .ok (.dup, 1) := by decide +kernel
theorem dX5_act_116 : decode cX5_act 116 = .ok (.getfield 32, 3) := by decide +kernel
theorem dX5_act_119 : decode cX5_act 119 = .ok (.iconst 1, 1) := by decide +kernel
theorem dX5_act_120 : decode cX5_act 120 = .ok (.iadd, 1) := by decide +kernel
theorem dX5_act_121 : decode cX5_act 121 = .ok (.putfield 32, 3) := by decide +kernel
theorem dX5_act_124 : decode cX5_act 124 = .ok (.aload_n 0, 1) := by decide +kernel
theorem dX5_act_125 : decode cX5_act 125 = .ok (.invokevirtual 45, 3) := by decide +kernel
theorem dX5_act_128 : decode cX5_act 128 = .ok (.return_, 1) := by decide +kernel
def wTick (M M1 : vM) (n t : Nat) (g : Option Nat) (y : Int) : Prop := mSame [34, 35, 70, 76, 77] M M1 ∧ wSlot [1, 2, 3] M M1 ∧
  M1 34 = pDown n (M 33) (pWind n (M 31) (M 32) (M 34) (M 35 0) (M 35 1) y) ∧ M1 35 = fSet (M 35) 0 (pMan (M 35 0) y) ∧
  M1 70 2 = pOr (-1) (pGo (M 31) (M 32) (pWind n (M 31) (M 32) (M 34) (M 35 0) (M 35 1) y) (M 35 0) (M 35 2) y g (M 70 3)).1 ∧
  M1 70 3 = (pGo (M 31) (M 32) (pWind n (M 31) (M 32) (M 34) (M 35 0) (M 35 1) y) (M 35 0) (M 35 2) y g (M 70 3)).2 ∧
  M1 70 1 = (t + 1 : Nat) ∧ M1 76 = fSet (M 76) (t + 1 : Nat) (pPack (M1 34) n) ∧ M1 77 = fSet (M 77) (t + 1 : Nat) (pLog (M1 35 0) (M1 70 2) (M1 70 4) (M1 70 3))
theorem pGo_rg {pl fu tuW : Int → Int} {man pat thing : Int} {g : Option Nat} {w : Int} (hw : 0 ≤ w ∧ w < pat) : (0 ≤ (pGo pl fu tuW man pat thing g w).2 ∧ (pGo pl fu tuW man pat thing g w).2 < pat) ∧ ((pGo pl fu tuW man pat thing g w).1 = g ∨ (pGo pl fu tuW man pat thing g w).1 = none) := by
  cases g with
  | none => exact ⟨hw, Or.inl rfl⟩
  | some p =>
    unfold pGo; simp only
    split
    · split
      · exact ⟨by simp only; omega, Or.inr rfl⟩
      · exact ⟨by simp only; omega, Or.inl rfl⟩
    · exact ⟨hw, Or.inl rfl⟩
theorem pOr_rg {d : Int} {g : Option Nat} {n : Nat} (hn : n ≤ 6) (h : ∀ k, g = some k → k < n) (hd : -6 ≤ d ∧ d ≤ 5) : -6 ≤ pOr d g ∧ pOr d g ≤ 5 ∧ (d ≤ 0 → d ≤ pOr d g) := by
  cases g with
  | none => rw [pOr_n]; omega
  | some p => have := h p rfl; rw [pOr_s]; omega
theorem l_X5_act107 {d : List Nat} {T : vT} {M N : vM} {n t : Nat} {g l : Option Nat} {y : Int} (hB : vB T) (hS : wS M n t g l) (htt : t < 600) (hc : pCan n (M 31) (M 34) (M 35 0) y = true) (h1 : mSame [34, 35, 70] M N) (h2 : wSlot [2, 3] M N) (h3 : N 34 = pWind n (M 31) (M 32) (M 34) (M 35 0) (M 35 1) y) (h4 : N 35 = fSet (M 35) 0 (pMan (M 35 0) y))
    (h5 : N 70 2 = pOr (-1) (pGo (M 31) (M 32) (pWind n (M 31) (M 32) (M 34) (M 35 0) (M 35 1) y) (M 35 0) (M 35 2) y g (M 70 3)).1) (h6 : N 70 3 = (pGo (M 31) (M 32) (pWind n (M 31) (M 32) (M 34) (M 35 0) (M 35 1) y) (M 35 0) (M 35 2) y g (M 70 3)).2) :
    vV m_X5_act d d (vPv fun T1 M1 => T = T1 ∧ wTick M M1 n t g y ∧ wS M1 n (t + 1) (pGo (M 31) (M 32) (pWind n (M 31) (M 32) (M 34) (M 35 0) (M 35 1) y) (M 35 0) (M 35 2) y g (M 70 3)).1 l) 107 [some (vR 70), some (vI y)] [] d T N := by
  obtain ⟨s1, s2, s3, s4, s5, s6, s7⟩ := hS
  have hw := pWind_rg s1.2 y
  have hfu := s1.2.2.2.2.2.1
  have hfa := s1.fa
  refine vV.aload_n dX5_act_107 rfl ?_
  refine vV.getr dX5_act_108 fl_X5_12 (by first | rfl | assumption) rfl (by first | assumption | exact hB _ _ _ rfl) ?_
  refine vV.cVv dX5_act_111 ml_X5_72 cw_X3_runDown iw_X3_runDown (by first | rfl | assumption) rfl (by unfold vRoom; decide) (c_X3_runDown sgK_30 (sgT_30 hB) (n := n) (by rw [h1 30 (by decide)]; exact s1.1) s1.le (fun j => by rw [show (30 : Nat) + 4 = 34 from rfl, h3]; have a1 := hw j; have a2 := hfu j; exact ⟨a1.1, Int.le_trans a1.2 a2.2⟩) (fun j => by rw [h1 _ (by decide)]; exact hfa j)) rfl rfl (Nat.le_of_ble_eq_true rfl) ?_
  rintro _ _ ⟨rfl, rfl⟩
  obtain ⟨K, hK⟩ : ∃ K, K = vRow N 34 (pDown n (N 33) (N 34)) := ⟨_, rfl⟩
  rw [show (30 : Nat) + 4 = 34 from rfl, show (30 : Nat) + 3 = 33 from rfl, ← hK]
  have q0 : mSame [34] N K := fun k hk => by simp at hk; rw [hK, vRow_n hk]
  have q1 : K 34 = pDown n (M 33) (pWind n (M 31) (M 32) (M 34) (M 35 0) (M 35 1) y) := by rw [hK, vRow_s, h1 33 (by decide), h3]
  refine vV.aload_n dX5_act_114 rfl ?_
  refine vV.dup dX5_act_115 rfl ?_
  refine vV.geti (z := 1) dX5_act_116 fl_X5_32 (by first | rfl | assumption) rfl rfl ?_
  refine vV.iconst dX5_act_119 (by decide) ?_
  refine vV.iadd dX5_act_120 (⟨by rw [q0 70 (by decide), h2 1 (by decide), s7]; omega, by rw [q0 70 (by decide), h2 1 (by decide), s7]; omega⟩) ?_
  refine vV.puti (z := 1) dX5_act_121 fl_X5_32 (by first | rfl | assumption) rfl rfl ?_
  obtain ⟨J, hJ⟩ : ∃ J, J = vUpd K 70 1 (t + 1 : Nat) := ⟨_, rfl⟩
  rw [show K 70 1 + 1 = ((t + 1 : Nat) : Int) by rw [q0 70 (by decide), h2 1 (by decide), s7]; omega, ← hJ]
  have j0 : mSame [70] K J := fun k hk => by simp at hk; rw [hJ]; funext j; rw [vUpd_nk hk]
  have j1 : ∀ j, j ≠ 1 → J 70 j = N 70 j := fun j hj => by rw [hJ, vUpd_ni hj, q0 70 (by decide)]
  have j2 : J 70 1 = (t + 1 : Nat) := by rw [hJ, vUpd_s]
  have j34 : J 34 = pDown n (M 33) (pWind n (M 31) (M 32) (M 34) (M 35 0) (M 35 1) y) := by rw [j0 34 (by decide), q1]
  have j35 : J 35 = fSet (M 35) 0 (pMan (M 35 0) y) := by rw [j0 35 (by decide), q0 35 (by decide), h4]
  have jk : ∀ k, k ∉ [34, 35, 70] → J k = M k := fun k hk => by rw [j0 k (by simp at hk ⊢; omega), q0 k (by simp at hk ⊢; omega), h1 k hk]
  have jW : sgW J 30 n := by
    have hA := sgW_act s1 hc
    refine sgW_rows ?_ ?_ ?_ ?_ ?_ ?_ hA
    · rw [jk _ (by decide)]; rfl
    · rw [jk _ (by decide)]; rfl
    · rw [jk _ (by decide)]; rfl
    · rw [jk _ (by decide)]; rfl
    · rw [j34]; rfl
    · rw [j35]; rfl
  have hgo := pGo_rg (pl := M 31) (fu := M 32) (tuW := pWind n (M 31) (M 32) (M 34) (M 35 0) (M 35 1) y) (man := M 35 0) (thing := y) (g := g) s6
  have hgr : ∀ k, (pGo (M 31) (M 32) (pWind n (M 31) (M 32) (M 34) (M 35 0) (M 35 1) y) (M 35 0) (M 35 2) y g (M 70 3)).1 = some k → k < n := fun k hk => by
    rcases hgo.2 with h | h
    · rw [h] at hk; exact s3 k hk
    · rw [h] at hk; cases hk
  have r1 := pOr_rg (d := -1) s1.le hgr (by omega)
  have r2 := pOr_rg (d := -1) s1.le s5 (by omega)
  have hpat : M 35 2 ≤ 9 := s1.2.2.2.2.2.2.2.2.2.2.1.2
  have j702 : J 70 2 = pOr (-1) (pGo (M 31) (M 32) (pWind n (M 31) (M 32) (M 34) (M 35 0) (M 35 1) y) (M 35 0) (M 35 2) y g (M 70 3)).1 := by rw [j1 2 (by decide), h5]
  have j703 : J 70 3 = (pGo (M 31) (M 32) (pWind n (M 31) (M 32) (M 34) (M 35 0) (M 35 1) y) (M 35 0) (M 35 2) y g (M 70 3)).2 := by rw [j1 3 (by decide), h6]
  have j704 : J 70 4 = M 70 4 := by rw [j1 4 (by decide), h2 4 (by decide)]
  refine vV.aload_n dX5_act_124 rfl ?_
  refine vV.cVv dX5_act_125 ml_X5_45 cw_X5_writeLog iw_X5_writeLog (by first | rfl | assumption) rfl (by unfold vRoom; decide) (c_X5_writeLog (n := n) (t := t + 1) hB jW j2 (by omega) (by rw [j702]; omega) (by rw [j704, s4]; omega) (by rw [j703]; omega)) rfl rfl (Nat.le_of_ble_eq_true rfl) ?_
  rintro _ _ ⟨rfl, rfl⟩
  refine vV.rv dX5_act_128 rfl ?_
  have hsm : ∀ x z, mSame [76, 77] J (vUpd (vUpd J 76 (t + 1 : Nat) x) 77 (t + 1 : Nat) z) := fun x z k hk => by simp at hk; funext j; rw [vUpd_nk hk.2, vUpd_nk hk.1]
  refine ⟨rfl, ⟨fun k hk => ?_, fun j hj => ?_, ?_, ?_, ?_, ?_, ?_, ?_, ?_⟩, ?_, ?_, hgr, ?_, s5, ?_, ?_⟩
  · rw [hsm _ _ k (by simp at hk ⊢; omega), jk k (by simp at hk ⊢; omega)]
  · simp at hj; rw [hsm _ _ 70 (by decide), j1 j (by omega), h2 j (by simp; omega)]
  · rw [hsm _ _ 34 (by decide)]; exact j34
  · rw [hsm _ _ 35 (by decide)]; exact j35
  · rw [hsm _ _ 70 (by decide)]; exact j702
  · rw [hsm _ _ 70 (by decide)]; exact j703
  · rw [hsm _ _ 70 (by decide)]; exact j2
  · rw [hsm _ _ 34 (by decide), vUpd_row (by decide), vUpd_r, vRow_s, jk 76 (by decide)]
  · rw [hsm _ _ 35 (by decide), hsm _ _ 70 (by decide), vUpd_r, vRow_s, vUpd_row (by decide), jk 77 (by decide)]
  · exact sgW_rows (hsm _ _ _ (by decide)) (hsm _ _ _ (by decide)) (hsm _ _ _ (by decide)) (hsm _ _ _ (by decide)) (hsm _ _ _ (by decide)) (hsm _ _ _ (by decide)) jW
  · rw [hsm _ _ 70 (by decide)]; exact j702
  · rw [hsm _ _ 70 (by decide), j704]; exact s4
  · rw [hsm _ _ 70 (by decide), hsm _ _ 35 (by decide), j703, j35, fSet_n (by decide)]; exact hgo.1
  · rw [hsm _ _ 70 (by decide)]; exact j2
