/-! ===== own: the class: a show ===== -/
abbrev pPos : Type := Int × (Int → Int)
def pT1 (P : pP) (th : Int) (s : pPos) : pPos := (pMan s.1 th, pDown P.1 P.2.2.2.1 (pWind P.1 P.2.1 P.2.2.1 s.2 s.1 P.2.2.2.2.1 th))
def pRn (P : pP) (q : Nat → Int) (s : pPos) : Nat → pPos
  | 0 => s
  | k + 1 => pT1 P (q k) (pRn P q s k)
def pCn (P : pP) (th : Int) (s : pPos) : Bool := pCan P.1 P.2.1 s.2 s.1 th
/-- the first thing that he can't do -/
def pDn (P : pP) (q : Nat → Int) (s : pPos) (a : Nat) : Option Nat := pFind (fun k => !pCn P (q k) (pRn P q s k)) a
def qL (l : List Int) (i : Nat) : Int := l[i]?.getD 0
theorem qL_has {f : Int → Int} {l : List Int} {i : Nat} (h : rHas f l) (hi : i < l.length) : f i = qL l i := by
  unfold qL
  rw [List.getElem?_eq_getElem hi]
  exact h i _ (List.getElem?_eq_getElem hi)
theorem pL_rg {sg : Int → Int} : ∀ i x, x ∈ pL sg i → 0 ≤ x ∧ x ≤ 3
  | 0, x, h => by simp [pL] at h
  | i + 1, x, h => by
    have ih := pL_rg (sg := sg) i
    by_cases ht : 0 ≤ pTh (sg i)
    · rw [pL_t ht] at h
      simp at h
      rcases h with h | h
      · exact ih x h
      · have := pTh_rg (sg i); omega
    · rw [pL_d (by omega)] at h
      simp at h
      rcases h with h | h
      · exact ih x h
      · rw [h.2]
        cases hq : (pL sg i).getLast? with
        | none => show (0 : Int) ≤ 0 ∧ (0 : Int) ≤ 3; decide
        | some y => exact ih y (List.mem_of_getLast? hq)
theorem qL_rg {sg : Int → Int} {m : Nat} (k : Nat) : 0 ≤ qL (pL sg m) k ∧ qL (pL sg m) k ≤ 3 := by
  unfold qL
  cases hq : (pL sg m)[k]? with
  | none => show (0 : Int) ≤ 0 ∧ (0 : Int) ≤ 3; decide
  | some y => exact pL_rg m y (List.mem_of_getElem? hq)
def cKeepT (M M1 : vM) : Prop := mSame [20, 21, 22, 23, 24, 25, 62] M M1 ∧ (sgZ M 20 → sgZ M1 20)
theorem cKeepT.rf (M : vM) : cKeepT M M := ⟨fun _ _ => rfl, id⟩
/-- the trial stands behind k things -/
def tS (M N : vM) (n : Nat) (l : List Int) (k : Nat) : Prop := mSame [20, 21, 22, 23, 24, 25, 62] M N ∧ sgW N 20 n ∧ N 21 = M 11 ∧ N 22 = M 12 ∧ N 23 = M 13 ∧ N 24 = (pRn (cP M n) (qL l) (M 15 0, M 14) k).2 ∧ N 25 = fSet (M 15) 0 (pRn (cP M n) (qL l) (M 15 0, M 14) k).1 ∧ rHas (N 62) l
theorem tS.keep {M N : vM} {n k : Nat} {l : List Int} (h : tS M N n l k) : cKeepT M N := ⟨h.1, fun _ => h.2.1.z⟩
theorem tS.can {M N : vM} {n k : Nat} {l : List Int} (h : tS M N n l k) (th : Int) : pCan n (N (20 + 1)) (N (20 + 4)) (N (20 + 5) 0) th = pCn (cP M n) th (pRn (cP M n) (qL l) (M 15 0, M 14) k) := by
  obtain ⟨-, -, h1, h2, h3, h4, h5, -⟩ := h
  rw [show N (20 + 1) = M 11 from h1, show N (20 + 4) = _ from h4, show N (20 + 5) = _ from h5, fSet_s]; rfl
theorem tS_0 {M : vM} {n : Nat} {l : List Int} {f : Int → Int} (hW : sgW M 10 n) (h : rHas f l) : tS M (vRow (sgCp M 20 10) 62 f) n l 0 := by
  have hc := sgW_cp (M := M) (a := 20) (b := 10) (by omega) hW
  refine ⟨fun k hk => ?_, sgW_rows ?_ ?_ ?_ ?_ ?_ ?_ hc, rfl, rfl, rfl, rfl, ?_, h⟩
  · simp at hk
    rw [vRow_n hk.2.2.2.2.2.2]; unfold sgCp
    rw [vRow_n hk.2.2.2.2.2.1, vRow_n hk.2.2.2.2.1, vRow_n hk.2.2.2.1, vRow_n hk.2.2.1, vRow_n hk.2.1, vRow_n hk.1]
  · exact vRow_n (by decide)
  · exact vRow_n (by decide)
  · exact vRow_n (by decide)
  · exact vRow_n (by decide)
  · exact vRow_n (by decide)
  · exact vRow_n (by decide)
  · show M 15 = fSet (M 15) 0 (M 15 0); rw [fSet_id]
theorem tS_s {M N : vM} {n k : Nat} {l : List Int} (h : tS M N n l k) (hc : pCn (cP M n) (qL l k) (pRn (cP M n) (qL l) (M 15 0, M 14) k) = true) : tS M (sgAct N 20 n (qL l k)) n l (k + 1) := by
  have hc2 := (h.can (qL l k)).trans hc
  obtain ⟨h0, hW, h1, h2, h3, h4, h5, h6⟩ := h
  have hA := sgW_act hW hc2
  refine ⟨fun j hj => ?_, hA, ?_, ?_, ?_, ?_, ?_, ?_⟩
  · rw [← h0 j hj]; simp at hj; unfold sgAct; rw [vRow_n hj.2.2.2.2.1, vRow_n hj.2.2.2.2.2.1]
  · rw [← h1]; rfl
  · rw [← h2]; rfl
  · rw [← h3]; rfl
  · show pDown n (N 23) (pWind n (N 21) (N 22) (N 24) (N 25 0) (N 25 1) (qL l k)) = _
    rw [h1, h2, h3, h4, h5, fSet_s, fSet_n (by decide)]; rfl
  · show fSet (N 25) 0 (pMan (N 25 0) (qL l k)) = _
    rw [h5, fSet_s]
    funext j; unfold fSet; split <;> rfl
  · show rHas (N 62) l; exact h6
/-- what a show comes to -/
def pShow (P : pP) (sg : Int → Int) (m : Nat) (s : pPos) : Option (Nat × pPos) :=
  if (pFind (pBad sg) m).isSome then none else if (pDn P (qL (pL sg m)) s (pL sg m).length).isSome then none else some ((pL sg m).length, pRn P (qL (pL sg m)) s (pL sg m).length)
def sShq (r : Int) (M M1 : vM) (n : Nat) : Option (Nat × pPos) → Prop
  | none => r = -5 ∧ cKeepT M M1
  | some (a, s) => r = (a : Int) ∧ mSame [10, 11, 12, 13, 14, 15, 20, 21, 22, 23, 24, 25, 60, 62] M M1 ∧ sgZ M1 20 ∧ sgW M1 10 n ∧ M1 11 = M 11 ∧ M1 12 = M 12 ∧ M1 13 = M 13 ∧ M1 14 = s.2 ∧ M1 15 = fSet (M 15) 0 s.1 ∧ M1 60 0 = 0
theorem pNo_of {sg : Int → Int} {m : Nat} (h : pFind (pBad sg) m = none) : pNo sg m := fun j hj => pFind_some.pFind_none h j hj
theorem bI_ne {b : Bool} (h : bI b ≠ 0) : b = true := by cases b <;> simp [bI] at h ⊢
theorem bI_eq {b : Bool} (h : bI b = 0) : b = false := by cases b <;> simp [bI] at h ⊢
theorem dX6_show_0 : decode cX6_show 0 = .ok (.aload_n 0, 1) := by decide +kernel
theorem dX6_show_1 : decode cX6_show 1 = .ok (.getfield 26, 3) := by decide +kernel
theorem dX6_show_4 : decode cX6_show 4 = .ok (.invokevirtual 116, 3) := by decide +kernel
theorem dX6_show_7 : decode cX6_show 7 = .ok (.ifCond .lt 6, 3) := by decide +kernel
theorem dX6_show_10 : decode cX6_show 10 = .ok (.bipush (-5), 2) := by decide +kernel
theorem dX6_show_12 : decode cX6_show 12 = .ok (.ireturn, 1) := by decide +kernel
theorem dX6_show_13 : decode cX6_show 13 = .ok (.aload_n 0, 1) := by decide +kernel
theorem dX6_show_14 : decode cX6_show 14 = .ok (.getfield 16, 3) := by decide +kernel
theorem dX6_show_17 : decode cX6_show 17 = .ok (.aload_n 0, 1) := by decide +kernel
theorem dX6_show_18 : decode cX6_show 18 = .ok (.getfield 10, 3) := by decide +kernel
theorem dX6_show_21 : decode cX6_show 21 = .ok (.invokevirtual 119, 3) := by decide +kernel
theorem dX6_show_24 : decode cX6_show 24 = .ok (.aload_n 0, 1) := by decide +kernel
theorem dX6_show_25 : decode cX6_show 25 = .ok (.getfield 26, 3) := by decide +kernel
theorem dX6_show_28 : decode cX6_show 28 = .ok (.invokevirtual 123, 3) := by decide +kernel
theorem dX6_show_31 : decode cX6_show 31 = .ok (.istore_n 1, 1) := by decide +kernel
theorem dX6_show_32 : decode cX6_show 32 = .ok (.iconst 0, 1) := by decide +kernel
theorem dX6_show_33 : decode cX6_show 33 = .ok (.istore_n 2, 1) := by decide +kernel
theorem dX6_show_34 : decode cX6_show 34 = .ok (.iload_n 2, 1) := by decide +kernel
theorem dX6_show_35 : decode cX6_show 35 = .ok (.iload_n 1, 1) := by decide +kernel
theorem dX6_show_36 : decode cX6_show 36 = .ok (.if_icmp .ge 47, 3) := by decide +kernel
theorem dX6_show_39 : decode cX6_show 39 = .ok (.aload_n 0, 1) := by decide +kernel
theorem dX6_show_40 : decode cX6_show 40 = .ok (.getfield 16, 3) := by decide +kernel
theorem dX6_show_43 : decode cX6_show 43 = .ok (.aload_n 0, 1) := by decide +kernel
theorem dX6_show_44 : decode cX6_show 44 = .ok (.getfield 26, 3) := by decide +kernel
theorem dX6_show_47 : decode cX6_show 47 = .ok (.getfield 126, 3) := by decide +kernel
theorem dX6_show_50 : decode cX6_show 50 = .ok (.iload_n 2, 1) := by decide +kernel
theorem dX6_show_51 : decode cX6_show 51 = .ok (.iaload, 1) := by decide +kernel
theorem dX6_show_52 : decode cX6_show 52 = .ok (.invokevirtual 100, 3) := by decide +kernel
theorem dX6_show_55 : decode cX6_show 55 = .ok (.ifCond .ne 6, 3) := by decide +kernel
theorem dX6_show_58 : decode cX6_show 58 = .ok (.bipush (-5), 2) := by decide +kernel
theorem dX6_show_60 : decode cX6_show 60 = .ok (.ireturn, 1) := by decide +kernel
theorem dX6_show_61 : decode cX6_show 61 = .ok (.aload_n 0, 1) := by decide +kernel
theorem dX6_show_62 : decode cX6_show 62 = .ok (.getfield 16, 3) := by decide +kernel
theorem dX6_show_65 : decode cX6_show 65 = .ok (.aload_n 0, 1) := by decide +kernel
theorem dX6_show_66 : decode cX6_show 66 = .ok (.getfield 26, 3) := by decide +kernel
theorem dX6_show_69 : decode cX6_show 69 = .ok (.getfield 126, 3) := by decide +kernel
theorem dX6_show_72 : decode cX6_show 72 = .ok (.iload_n 2, 1) := by decide +kernel
theorem dX6_show_73 : decode cX6_show 73 = .ok (.iaload, 1) := by decide +kernel
theorem dX6_show_74 : decode cX6_show 74 = .ok (.invokevirtual 103, 3) := by decide +kernel
theorem dX6_show_77 : decode cX6_show 77 = .ok (.iinc 2 1, 3) := by decide +kernel
theorem dX6_show_80 : decode cX6_show 80 = .ok (.goto (-46), 3) := by decide +kernel
theorem dX6_show_83 : decode cX6_show 83 = .ok (.aload_n 0, 1) := by decide +kernel
theorem dX6_show_84 : decode cX6_show 84 = .ok (.getfield 10, 3) := by decide +kernel
theorem dX6_show_87 : decode cX6_show 87 = .ok (.aload_n 0, 1) := by decide +kernel
theorem dX6_show_88 : decode cX6_show 88 = .ok (.getfield 16, 3) := by decide +kernel
theorem dX6_show_91 : decode cX6_show 91 = .ok (.invokevirtual 119, 3) := by decide +kernel
theorem dX6_show_94 : decode cX6_show 94 = .ok (.aload_n 0, 1) := by decide +kernel
theorem dX6_show_95 : decode cX6_show 95 = .ok (.getfield 26, 3) := by decide +kernel
theorem dX6_show_98 : decode cX6_show 98 = .ok (.iconst 0, 1) := by decide +kernel
theorem dX6_show_99 : decode cX6_show 99 = .ok (.putfield 113, 3) := by decide +kernel
theorem dX6_show_102 : decode cX6_show 102 = .ok (.iload_n 1, 1) := by decide +kernel
theorem dX6_show_103 : decode cX6_show 103 = .ok (.ireturn, 1) := by decide +kernel
theorem l_X6_show {d : List Nat} {T : vT} {M : vM} {n a : Nat} {l : List Int} {o : Option (Nat × pPos)} (hB : vB T) (hz10 : sgZ M 10) (ha : l.length = a) (ha2 : a ≤ 180) (hrg : ∀ k, 0 ≤ qL l k ∧ qL l k ≤ 3)
    (ho1 : (pDn (cP M n) (qL l) (M 15 0, M 14) a).isSome = true → o = none) (ho2 : pDn (cP M n) (qL l) (M 15 0, M 14) a = none → o = some (a, pRn (cP M n) (qL l) (M 15 0, M 14) a)) : ∀ k, k ≤ a → ∀ N, tS M N n l k → (∀ i, i < k → (!pCn (cP M n) (qL l i) (pRn (cP M n) (qL l) (M 15 0, M 14) i)) = false) →
    vV m_X6_show d d (vPi fun r T1 M1 => T = T1 ∧ ∃ o', o' = o ∧ sShq r M M1 n o') 34 [some (vR 0), some (vI a), some (vI k)] [] d T N := by
  refine vUp ?_
  intro k hk ih N htS hf
  have hq := hrg k
  have hca := htS.can (qL l k)
  have hz10N : sgZ N 10 := by
    have h0 := htS.1
    unfold sgZ
    rw [h0 _ (by decide), h0 _ (by decide), h0 _ (by decide), h0 _ (by decide), h0 _ (by decide)]
    exact hz10
  refine vV.iload_n dX6_show_34 rfl ?_
  refine vV.iload_n dX6_show_35 rfl ?_
  refine vV.icmp_ge (tgt := 83) dX6_show_36 (by decide) (fun h36 => ?_) (fun h36 => ?_)
  · skip
    have hka : k = a := by omega
    subst hka
    have hy := ho2 (pFind_no hf)
    clear ih ho1 ho2
    have hz10 := hz10N
    have hW := htS.2.1
    have hc := sgW_cp (M := N) (a := 10) (b := 20) (by omega) hW
    refine vV.aload_n dX6_show_83 rfl ?_
    refine vV.getr dX6_show_84 fl_X6_10 (by first | rfl | assumption) rfl (by first | assumption | exact hB _ _ _ rfl) ?_
    refine vV.aload_n dX6_show_87 rfl ?_
    refine vV.getr dX6_show_88 fl_X6_16 (by first | rfl | assumption) rfl (by first | assumption | exact hB _ _ _ rfl) ?_
    refine vV.cVv dX6_show_91 ml_X6_119 cw_X3_copyFrom iw_X3_copyFrom (by first | rfl | assumption) rfl (by unfold vRoom; decide) (c_X3_copyFrom sgK_10 (sgT_10 hB) sgK_20 (sgT_20 hB) (by omega) hz10 hW.z) rfl rfl (Nat.le_of_ble_eq_true rfl) ?_
    rintro _ _ ⟨rfl, rfl⟩
    refine vV.aload_n dX6_show_94 rfl ?_
    refine vV.getr dX6_show_95 fl_X6_26 (by first | rfl | assumption) rfl (by first | assumption | exact hB _ _ _ rfl) ?_
    refine vV.iconst dX6_show_98 (by decide) ?_
    refine vV.puti (z := 0) dX6_show_99 fl_X6_113 (by first | rfl | assumption) rfl rfl ?_
    refine vV.iload_n dX6_show_102 rfl ?_
    refine vV.ri dX6_show_103 rfl ?_
    obtain ⟨h0, -, h1, h2, h3, h4, h5, h6⟩ := htS
    have hsm : mSame [60] (sgCp N 10 20) (vUpd (sgCp N 10 20) 60 0 0) := fun k hk => by simp at hk; funext j; rw [vUpd_nk hk]
    refine ⟨rfl, _, hy.symm, rfl, fun k hk => ?_, ?_, sgW_rows (hsm _ (by decide)) (hsm _ (by decide)) (hsm _ (by decide)) (hsm _ (by decide)) (hsm _ (by decide)) (hsm _ (by decide)) hc, ?_, ?_, ?_, ?_, ?_, ?_⟩
    · rw [hsm k (by simp at hk ⊢; omega), ← h0 k (by simp at hk ⊢; omega)]
      simp at hk
      unfold sgCp
      rw [vRow_n hk.2.2.2.2.2.1, vRow_n hk.2.2.2.2.1, vRow_n hk.2.2.2.1, vRow_n hk.2.2.1, vRow_n hk.2.1, vRow_n hk.1]
    · have hz := hW.z
      have e1 : vUpd (sgCp N 10 20) 60 0 0 21 = N 21 := by rw [hsm _ (by decide)]; rfl
      have e2 : vUpd (sgCp N 10 20) 60 0 0 22 = N 22 := by rw [hsm _ (by decide)]; rfl
      have e3 : vUpd (sgCp N 10 20) 60 0 0 23 = N 23 := by rw [hsm _ (by decide)]; rfl
      have e4 : vUpd (sgCp N 10 20) 60 0 0 24 = N 24 := by rw [hsm _ (by decide)]; rfl
      have e5 : vUpd (sgCp N 10 20) 60 0 0 25 = N 25 := by rw [hsm _ (by decide)]; rfl
      unfold sgZ
      rw [show (20 : Nat) + 1 = 21 from rfl, show (20 : Nat) + 2 = 22 from rfl, show (20 : Nat) + 3 = 23 from rfl, show (20 : Nat) + 4 = 24 from rfl, show (20 : Nat) + 5 = 25 from rfl, e1, e2, e3, e4, e5]
      exact hz
    · rw [hsm _ (by decide), ← h1]; rfl
    · rw [hsm _ (by decide), ← h2]; rfl
    · rw [hsm _ (by decide), ← h3]; rfl
    · rw [hsm _ (by decide), ← h4]; rfl
    · rw [hsm _ (by decide), ← h5]; rfl
    · rw [vUpd_s]
  · skip
    refine vV.aload_n dX6_show_39 rfl ?_
    refine vV.getr dX6_show_40 fl_X6_16 (by first | rfl | assumption) rfl (by first | assumption | exact hB _ _ _ rfl) ?_
    refine vV.aload_n dX6_show_43 rfl ?_
    refine vV.getr dX6_show_44 fl_X6_26 (by first | rfl | assumption) rfl (by first | assumption | exact hB _ _ _ rfl) ?_
    refine vV.getr dX6_show_47 fl_X6_126 (by first | rfl | assumption) rfl (by first | assumption | exact hB _ _ _ rfl) ?_
    refine vV.iload_n dX6_show_50 rfl ?_
    refine vV.iald dX6_show_51 (by first | rfl | assumption) (by omega) (by omega) ?_
    rw [qL_has htS.2.2.2.2.2.2.2 (show k < l.length by omega)]
    refine vV.cVi dX6_show_52 ml_X6_100 cw_X3_can iw_X3_can (by first | rfl | assumption) rfl (by unfold vRoom; decide) (c_X3_can sgK_20 (sgT_20 hB) htS.2.1 hq.1 hq.2) rfl rfl (Nat.le_of_ble_eq_true rfl) ?_
    rintro x52 _ _ hx52 ⟨hy52, rfl, rfl⟩
    rw [hca] at hy52
    subst hy52
    refine vV.if_ne (tgt := 61) dX6_show_55 (by decide) (fun h55 => ?_) (fun h55 => ?_)
    · skip
      have hye := bI_ne h55
      refine vV.aload_n dX6_show_61 rfl ?_
      refine vV.getr dX6_show_62 fl_X6_16 (by first | rfl | assumption) rfl (by first | assumption | exact hB _ _ _ rfl) ?_
      refine vV.aload_n dX6_show_65 rfl ?_
      refine vV.getr dX6_show_66 fl_X6_26 (by first | rfl | assumption) rfl (by first | assumption | exact hB _ _ _ rfl) ?_
      refine vV.getr dX6_show_69 fl_X6_126 (by first | rfl | assumption) rfl (by first | assumption | exact hB _ _ _ rfl) ?_
      refine vV.iload_n dX6_show_72 rfl ?_
      refine vV.iald dX6_show_73 (by first | rfl | assumption) (by omega) (by omega) ?_
      rw [qL_has htS.2.2.2.2.2.2.2 (show k < l.length by omega)]
      refine vV.cVv dX6_show_74 ml_X6_103 cw_X3_act iw_X3_act (by first | rfl | assumption) rfl (by unfold vRoom; decide) (c_X3_act sgK_20 (sgT_20 hB) htS.2.1) rfl rfl (Nat.le_of_ble_eq_true rfl) ?_
      rintro _ _ ⟨rfl, rfl⟩
      refine vV.iinc (L' := [_, _, _]) dX6_show_77 (by decide) rfl (⟨by omega, by omega⟩) rfl ?_
      refine vV.goto (tgt := 34) dX6_show_80 (by decide) ?_
      exact ih (by omega) _ (tS_s htS hye) (fun i hi => (Nat.lt_succ_iff_lt_or_eq.mp hi).elim (hf i) (fun e => by subst e; rw [hye]; rfl))
    · skip
      have hno := bI_eq h55
      have hd : pDn (cP M n) (qL l) (M 15 0, M 14) a = some k := pFind_yes (by omega) (by rw [hno]; rfl) hf
      have hon := ho1 (by rw [hd]; rfl)
      refine vV.bipush (v := (-5)) dX6_show_58 (by decide) (by decide) ?_
      refine vV.ri dX6_show_60 rfl ?_
      exact ⟨rfl, none, hon.symm, rfl, htS.keep⟩
