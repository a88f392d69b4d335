/-! ===== own: the class: show, judge ===== -/
theorem pOr_none' {o : Option Nat} (h : pOr (-1) o < 0) : o.isSome = false := by rw [pOr_none h]; rfl
theorem c_X6_show {d : List Nat} {T : vT} {M : vM} {n m : Nat} (hB : vB T) (hW : sgW M 10 n) (hz : sgZ M 20) (hm : M 60 0 = m) (hle : m ≤ 40) : vCon m_X6_show d d [vR 0] T M (vPi fun r T1 M1 => T = T1 ∧ ∃ o, o = pShow (cP M n) (M 61) m (M 15 0, M 14) ∧ sShq r M M1 n o) := by
  obtain ⟨o, ho⟩ : ∃ o, o = pShow (cP M n) (M 61) m (M 15 0, M 14) := ⟨_, rfl⟩
  rw [← ho]
  unfold pShow at ho
  refine vCon.of (by decide) rfl rfl (Nat.le_of_ble_eq_true rfl) ?_
  refine vV.aload_n dX6_show_0 rfl ?_
  refine vV.getr dX6_show_1 fl_X6_26 (by first | rfl | assumption) rfl (by first | assumption | exact hB _ _ _ rfl) ?_
  refine vV.cVi dX6_show_4 ml_X6_116 cw_X1_firstFault iw_X1_firstFault (by first | rfl | assumption) rfl (by unfold vRoom; decide) (c_X1_firstFault hB hm hle) rfl rfl (Nat.le_of_ble_eq_true rfl) ?_
  rintro x4 _ _ hx4 ⟨hy4, rfl, rfl⟩
  subst hy4
  refine vV.if_lt (tgt := 13) dX6_show_7 (by decide) (fun h7 => ?_) (fun h7 => ?_)
  · skip
    have hno := pNo_of (pOr_none h7)
    rw [pOr_none' h7, if_neg (by simp)] at ho
    have hlen := pL_len hno m (Nat.le_refl m)
    refine vV.aload_n dX6_show_13 rfl ?_
    refine vV.getr dX6_show_14 fl_X6_16 (by first | rfl | assumption) rfl (by first | assumption | exact hB _ _ _ rfl) ?_
    refine vV.aload_n dX6_show_17 rfl ?_
    refine vV.getr dX6_show_18 fl_X6_10 (by first | rfl | assumption) rfl (by first | assumption | exact hB _ _ _ rfl) ?_
    refine vV.cVv dX6_show_21 ml_X6_119 cw_X3_copyFrom iw_X3_copyFrom (by first | rfl | assumption) rfl (by unfold vRoom; decide) (c_X3_copyFrom sgK_20 (sgT_20 hB) sgK_10 (sgT_10 hB) (by omega) hz hW.z) rfl rfl (Nat.le_of_ble_eq_true rfl) ?_
    rintro _ _ ⟨rfl, rfl⟩
    refine vV.aload_n dX6_show_24 rfl ?_
    refine vV.getr dX6_show_25 fl_X6_26 (by first | rfl | assumption) rfl (by first | assumption | exact hB _ _ _ rfl) ?_
    refine vV.cVi dX6_show_28 ml_X6_123 cw_X1_read iw_X1_read (by first | rfl | assumption) rfl (by unfold vRoom; decide) (c_X1_read (M := sgCp M 20 10) (m := m) hB hm hle hno) rfl rfl (Nat.le_of_ble_eq_true rfl) ?_
    rintro x28 _ _ hx28 ⟨hy28, rfl, f, rfl, hf⟩
    rw [show sgCp M 20 10 61 = M 61 from rfl] at hy28 hf
    subst hy28
    refine vV.istore_n (L' := [_, _, _]) dX6_show_31 (by decide) rfl ?_
    refine vV.iconst dX6_show_32 (by decide) ?_
    refine vV.istore_n (L' := [_, _, _]) dX6_show_33 (by decide) rfl ?_
    exact l_X6_show hB hW.z rfl (by omega) (fun k => qL_rg k) (fun z => by rw [if_pos z] at ho; exact ho) (fun z => by rw [z, if_neg (by simp)] at ho; exact ho) 0 (by omega) _ (tS_0 hW hf) (fun i hi => by omega)
  · skip
    rw [if_pos (pOr_some h7)] at ho
    refine vV.bipush (v := (-5)) dX6_show_10 (by decide) (by decide) ?_
    refine vV.ri dX6_show_12 rfl ?_
    exact ⟨rfl, none, ho.symm, rfl, cKeepT.rf M⟩
theorem pFind_s1 {P : Nat → Bool} {n p : Nat} (h : pFind P n = some p) : pFind P (n + 1) = some p := by rw [pFind, h]
theorem pFind_s2 {P : Nat → Bool} {n : Nat} (h : pFind P n = none) : pFind P (n + 1) = if P n then some n else none := by rw [pFind, h]
/-- one falls with thing k -/
def pFf (P : pP) (q : Nat → Int) (s : pPos) (k : Nat) : Bool := decide (pBits (pRn P q s (k + 1)).2 P.1 ≠ pBits (pRn P q s k).2 P.1)
def pJw (w : Int) (P : pP) (s : pPos) (a e : Nat) (ff : Int) : Int := if w = 0 then a else if w = 1 then (if e < a then (e : Int) else -6) else if w = 2 then ff else if w = 3 then pBits s.2 P.1 else if w = 4 then s.1 else pSum s.2 P.1
def pJ (w : Int) (P : pP) (q : Nat → Int) (s : pPos) (a : Nat) : Int := pJw w P (pRn P q s ((pDn P q s a).getD a)) a ((pDn P q s a).getD a) (pOr (-6) (pFind (pFf P q s) ((pDn P q s a).getD a)))
theorem dX6_judge_0 : decode cX6_judge 0 = .ok (.iload_n 1, 1) := by decide +kernel
theorem dX6_judge_1 : decode cX6_judge 1 = .ok (.iconst 0, 1) := by decide +kernel
theorem dX6_judge_2 : decode cX6_judge 2 = .ok (.iconst 5, 1) := by decide +kernel
theorem dX6_judge_3 : decode cX6_judge 3 = .ok (.invokestatic 58, 3) := by decide +kernel
theorem dX6_judge_6 : decode cX6_judge 6 = .ok (.ifCond .ne 6, 3) := by decide +kernel
theorem dX6_judge_9 : decode cX6_judge 9 = .ok (.bipush (-2), 2) := by decide +kernel
theorem dX6_judge_11 : decode cX6_judge 11 = .ok (.ireturn, 1) := by decide +kernel
theorem dX6_judge_12 : decode cX6_judge 12 = .ok (.aload_n 0, 1) := by decide +kernel
theorem dX6_judge_13 : decode cX6_judge 13 = .ok (.getfield 26, 3) := by decide +kernel
theorem dX6_judge_16 : decode cX6_judge 16 = .ok (.invokevirtual 116, 3) := by decide +kernel
theorem dX6_judge_19 : decode cX6_judge 19 = .ok (.ifCond .lt 6, 3) := by decide +kernel
theorem dX6_judge_22 : decode cX6_judge 22 = .ok (.bipush (-5), 2) := by decide +kernel
theorem dX6_judge_24 : decode cX6_judge 24 = .ok (.ireturn, 1) := by decide +kernel
theorem dX6_judge_25 : decode cX6_judge 25 = .ok (.aload_n 0, 1) := by decide +kernel
theorem dX6_judge_26 : decode cX6_judge 26 = .ok (.getfield 16, 3) := by decide +kernel
theorem dX6_judge_29 : decode cX6_judge 29 = .ok (.aload_n 0, 1) := by decide +kernel
theorem dX6_judge_30 : decode cX6_judge 30 = .ok (.getfield 10, 3) := by decide +kernel
theorem dX6_judge_33 : decode cX6_judge 33 = .ok (.invokevirtual 119, 3) := by decide +kernel
theorem dX6_judge_36 : decode cX6_judge 36 = .ok (.aload_n 0, 1) := by decide +kernel
theorem dX6_judge_37 : decode cX6_judge 37 = .ok (.getfield 26, 3) := by decide +kernel
theorem dX6_judge_40 : decode cX6_judge 40 = .ok (.invokevirtual 123, 3) := by decide +kernel
theorem dX6_judge_43 : decode cX6_judge 43 = .ok (.istore_n 2, 1) := by decide +kernel
theorem dX6_judge_44 : decode cX6_judge 44 = .ok (.bipush (-6), 2) := by decide +kernel
theorem dX6_judge_46 : decode cX6_judge 46 = .ok (.istore_n 3, 1) := by decide +kernel
theorem dX6_judge_47 : decode cX6_judge 47 = .ok (.iconst 0, 1) := by decide +kernel
theorem dX6_judge_48 : decode cX6_judge 48 = .ok (.istore 4, 2) := by decide +kernel
theorem dX6_judge_50 : decode cX6_judge 50 = .ok (.iload 4, 2) := by decide +kernel
theorem dX6_judge_52 : decode cX6_judge 52 = .ok (.iload_n 2, 1) := by decide +kernel
theorem dX6_judge_53 : decode cX6_judge 53 = .ok (.if_icmp .ge 76, 3) := by decide +kernel
theorem dX6_judge_56 : decode cX6_judge 56 = .ok (.aload_n 0, 1) := by decide +kernel
theorem dX6_judge_57 : decode cX6_judge 57 = .ok (.getfield 16, 3) := by decide +kernel
theorem dX6_judge_60 : decode cX6_judge 60 = .ok (.aload_n 0, 1) := by decide +kernel
theorem dX6_judge_61 : decode cX6_judge 61 = .ok (.getfield 26, 3) := by decide +kernel
theorem dX6_judge_64 : decode cX6_judge 64 = .ok (.getfield 126, 3) := by decide +kernel
theorem dX6_judge_67 : decode cX6_judge 67 = .ok (.iload 4, 2) := by decide +kernel
theorem dX6_judge_69 : decode cX6_judge 69 = .ok (.iaload, 1) := by decide +kernel
theorem dX6_judge_70 : decode cX6_judge 70 = .ok (.invokevirtual 100, 3) := by decide +kernel
theorem dX6_judge_73 : decode cX6_judge 73 = .ok (.ifCond .eq 56, 3) := by decide +kernel
theorem dX6_judge_76 : decode cX6_judge 76 = .ok (.aload_n 0, 1) := by decide +kernel
theorem dX6_judge_77 : decode cX6_judge 77 = .ok (.getfield 16, 3) := by decide +kernel
theorem dX6_judge_80 : decode cX6_judge 80 = .ok (.invokevirtual 107, 3) := by decide +kernel
theorem dX6_judge_83 : decode cX6_judge 83 = .ok (.istore 5, 2) := by decide +kernel
theorem dX6_judge_85 : decode cX6_judge 85 = .ok (.aload_n 0, 1) := by decide +kernel
theorem dX6_judge_86 : decode cX6_judge 86 = .ok (.getfield 16, 3) := by decide +kernel
theorem dX6_judge_89 : decode cX6_judge 89 = .ok (.aload_n 0, 1) := by decide +kernel
theorem dX6_judge_90 : decode cX6_judge 90 = .ok (.getfield 26, 3) := by decide +kernel
theorem dX6_judge_93 : decode cX6_judge 93 = .ok (.getfield 126, 3) := by decide +kernel
theorem dX6_judge_96 : decode cX6_judge 96 = .ok (.iload 4, 2) := by decide +kernel
theorem dX6_judge_98 : decode cX6_judge 98 = .ok (.iaload, 1) := by decide +kernel
theorem dX6_judge_99 : decode cX6_judge 99 = .ok (.invokevirtual 103, 3) := by decide +kernel
theorem dX6_judge_102 : decode cX6_judge 102 = .ok (.iload_n 3, 1) := by decide +kernel
theorem dX6_judge_103 : decode cX6_judge 103 = .ok (.bipush (-6), 2) := by decide +kernel
theorem dX6_judge_105 : decode cX6_judge 105 = .ok (.if_icmp .ne 18, 3) := by decide +kernel
theorem dX6_judge_108 : decode cX6_judge 108 = .ok (.aload_n 0, 1) := by decide +kernel
theorem dX6_judge_109 : decode cX6_judge 109 = .ok (.getfield 16, 3) := by decide +kernel
theorem dX6_judge_112 : decode cX6_judge 112 = .ok (.invokevirtual 107, 3) := by decide +kernel
theorem dX6_judge_115 : decode cX6_judge 115 = .ok (.iload 5, 2) := by decide +kernel
theorem dX6_judge_117 : decode cX6_judge 117 = .ok (.if_icmp .eq 6, 3) := by decide +kernel
theorem dX6_judge_120 : decode cX6_judge 120 = .ok (.iload 4, 2) := by decide +kernel
theorem dX6_judge_122 : decode cX6_judge 122 = .ok (.istore_n 3, 1) := by decide +kernel
theorem dX6_judge_123 : decode cX6_judge 123 = .ok (.iinc 4 1, 3) := by decide +kernel
theorem dX6_judge_126 : decode cX6_judge 126 = .ok (.goto (-76), 3) := by decide +kernel
theorem dX6_judge_129 : decode cX6_judge 129 = .ok (.iload_n 1, 1) := by decide +kernel
theorem dX6_judge_130 : decode cX6_judge 130 = .ok (.tableswitch 70 0 4 #[34, 36, 50, 52, 60], 34) := by decide +kernel
theorem dX6_judge_164 : decode cX6_judge 164 = .ok (.iload_n 2, 1) := by decide +kernel
theorem dX6_judge_165 : decode cX6_judge 165 = .ok (.ireturn, 1) := by decide +kernel
theorem dX6_judge_166 : decode cX6_judge 166 = .ok (.iload 4, 2) := by decide +kernel
theorem dX6_judge_168 : decode cX6_judge 168 = .ok (.iload_n 2, 1) := by decide +kernel
theorem dX6_judge_169 : decode cX6_judge 169 = .ok (.if_icmp .ge 8, 3) := by decide +kernel
theorem dX6_judge_172 : decode cX6_judge 172 = .ok (.iload 4, 2) := by decide +kernel
theorem dX6_judge_174 : decode cX6_judge 174 = .ok (.goto 5, 3) := by decide +kernel
theorem dX6_judge_177 : decode cX6_judge 177 = .ok (.bipush (-6), 2) := by decide +kernel
theorem dX6_judge_179 : decode cX6_judge 179 = .ok (.ireturn, 1) := by decide +kernel
theorem dX6_judge_180 : decode cX6_judge 180 = .ok (.iload_n 3, 1) := by decide +kernel
theorem dX6_judge_181 : decode cX6_judge 181 = .ok (.ireturn, 1) := by decide +kernel
theorem dX6_judge_182 : decode cX6_judge 182 = .ok (.aload_n 0, 1) := by decide +kernel
theorem dX6_judge_183 : decode cX6_judge 183 = .ok (.getfield 16, 3) := by decide +kernel
theorem dX6_judge_186 : decode cX6_judge 186 = .ok (.invokevirtual 107, 3) := by decide +kernel
theorem dX6_judge_189 : decode cX6_judge 189 = .ok (.ireturn, 1) := by decide +kernel
theorem dX6_judge_190 : decode cX6_judge 190 = .ok (.aload_n 0, 1) := by decide +kernel
theorem dX6_judge_191 : decode cX6_judge 191 = .ok (.getfield 16, 3) := by decide +kernel
theorem dX6_judge_194 : decode cX6_judge 194 = .ok (.getfield 91, 3) := by decide +kernel
theorem dX6_judge_197 : decode cX6_judge 197 = .ok (.iconst 0, 1) := by decide +kernel
theorem dX6_judge_198 : decode cX6_judge 198 = .ok (.iaload, 1) := by decide +kernel
theorem dX6_judge_199 : decode cX6_judge 199 = .ok (.ireturn, 1) := by decide +kernel
theorem dX6_judge_200 : decode cX6_judge 200 = .ok (.aload_n 0, 1) := by decide +kernel
theorem dX6_judge_201 : decode cX6_judge 201 = .ok (.getfield 16, 3) := by decide +kernel
theorem dX6_judge_204 : decode cX6_judge 204 = .ok (.invokevirtual 129, 3) := by decide +kernel
theorem dX6_judge_207 : decode cX6_judge 207 = .ok (.ireturn, 1) := by decide +kernel
theorem l_X6_jd129 {d : List Nat} {T : vT} {M N : vM} {n a e : Nat} {l : List Int} {w ff : Int} (hB : vB T) (hw : 0 ≤ w ∧ w ≤ 5) (htS : tS M N n l e) (x5 : Option vA) : vV m_X6_judge d d (vPi fun r T1 M1 => T = T1 ∧ cKeepT M M1 ∧ r = pJw w (cP M n) (pRn (cP M n) (qL l) (M 15 0, M 14) e) a e ff) 129 [some (vR 0), some (vI w), some (vI a), some (vI ff), some (vI e), x5] [] d T N := by
  have hk := htS.keep
  have hW := htS.2.1
  have h4 := htS.2.2.2.2.2.1
  have h5 := htS.2.2.2.2.2.2.1
  unfold pJw
  refine vV.iload_n dX6_judge_129 rfl ?_
  have hs130 : (w < 0 ∨ 4 < w) ∨ w = 0 ∨ w = 1 ∨ w = 2 ∨ w = 3 ∨ w = 4 := by omega
  rcases hs130 with h130 | h130 | h130 | h130 | h130 | h130
  · refine vV.tswD (tgt := 200) dX6_judge_130 h130 (by decide) ?_
    refine vV.aload_n dX6_judge_200 rfl ?_
    refine vV.getr dX6_judge_201 fl_X6_16 (by first | rfl | assumption) rfl (by first | assumption | exact hB _ _ _ rfl) ?_
    refine vV.cVi dX6_judge_204 ml_X6_129 cw_X3_sumOfTurns iw_X3_sumOfTurns (by first | rfl | assumption) rfl (by unfold vRoom; decide) (c_X3_sumOfTurns sgK_20 (sgT_20 hB) hW.cnt hW.le hW.tu) rfl rfl (Nat.le_of_ble_eq_true rfl) ?_
    rintro x204 _ _ hx204 ⟨rfl, rfl, rfl⟩
    refine vV.ri dX6_judge_207 rfl ?_
    exact ⟨rfl, hk, by rw [if_neg (by omega), if_neg (by omega), if_neg (by omega), if_neg (by omega), if_neg (by omega), ← h4]; rfl⟩
  · refine vV.tsw (tgt := 164) dX6_judge_130 (0) h130 (by decide) (by decide) rfl (by decide) ?_
    refine vV.iload_n dX6_judge_164 rfl ?_
    refine vV.ri dX6_judge_165 rfl ?_
    exact ⟨rfl, hk, by rw [if_pos h130]⟩
  · refine vV.tsw (tgt := 166) dX6_judge_130 (1) h130 (by decide) (by decide) rfl (by decide) ?_
    refine vV.iload dX6_judge_166 rfl ?_
    refine vV.iload_n dX6_judge_168 rfl ?_
    refine vV.icmp_ge (tgt := 177) dX6_judge_169 (by decide) (fun h169 => ?_) (fun h169 => ?_)
    · skip
      have h169' : ¬ e < a := by omega
      refine vV.bipush (v := (-6)) dX6_judge_177 (by decide) (by decide) ?_
      refine vV.ri dX6_judge_179 rfl ?_
      exact ⟨rfl, hk, by rw [if_neg (by omega), if_pos h130]; first | rw [if_pos h169'] | rw [if_neg h169']⟩
    · skip
      have h169' : e < a := by omega
      refine vV.iload dX6_judge_172 rfl ?_
      refine vV.goto (tgt := 179) dX6_judge_174 (by decide) ?_
      refine vV.ri dX6_judge_179 rfl ?_
      exact ⟨rfl, hk, by rw [if_neg (by omega), if_pos h130]; first | rw [if_pos h169'] | rw [if_neg h169']⟩
  · refine vV.tsw (tgt := 180) dX6_judge_130 (2) h130 (by decide) (by decide) rfl (by decide) ?_
    refine vV.iload_n dX6_judge_180 rfl ?_
    refine vV.ri dX6_judge_181 rfl ?_
    exact ⟨rfl, hk, by rw [if_neg (by omega), if_neg (by omega), if_pos h130]⟩
  · refine vV.tsw (tgt := 182) dX6_judge_130 (3) h130 (by decide) (by decide) rfl (by decide) ?_
    refine vV.aload_n dX6_judge_182 rfl ?_
    refine vV.getr dX6_judge_183 fl_X6_16 (by first | rfl | assumption) rfl (by first | assumption | exact hB _ _ _ rfl) ?_
    refine vV.cVi dX6_judge_186 ml_X6_107 cw_X3_standing iw_X3_standing (by first | rfl | assumption) rfl (by unfold vRoom; decide) (c_X3_standing sgK_20 (sgT_20 hB) hW.cnt hW.le) rfl rfl (Nat.le_of_ble_eq_true rfl) ?_
    rintro x186 _ _ hx186 ⟨rfl, rfl, rfl⟩
    refine vV.ri dX6_judge_189 rfl ?_
    exact ⟨rfl, hk, by rw [if_neg (by omega), if_neg (by omega), if_neg (by omega), if_pos h130, ← h4]; rfl⟩
  · refine vV.tsw (tgt := 190) dX6_judge_130 (4) h130 (by decide) (by decide) rfl (by decide) ?_
    refine vV.aload_n dX6_judge_190 rfl ?_
    refine vV.getr dX6_judge_191 fl_X6_16 (by first | rfl | assumption) rfl (by first | assumption | exact hB _ _ _ rfl) ?_
    refine vV.getr dX6_judge_194 fl_X6_91 (by first | rfl | assumption) rfl (by first | assumption | exact hB _ _ _ rfl) ?_
    refine vV.iconst dX6_judge_197 (by decide) ?_
    refine vV.iald dX6_judge_198 (by first | rfl | assumption) (by omega) (by omega) ?_
    refine vV.ri dX6_judge_199 rfl ?_
    exact ⟨rfl, hk, by rw [if_neg (by omega), if_neg (by omega), if_neg (by omega), if_neg (by omega), if_pos h130, h5, fSet_s]⟩
theorem l_X6_judge {d : List Nat} {T : vT} {M : vM} {n a : Nat} {l : List Int} {w J : Int} (hB : vB T) (hw : 0 ≤ w ∧ w ≤ 5) (ha : l.length = a) (ha2 : a ≤ 180) (hrg : ∀ k, 0 ≤ qL l k ∧ qL l k ≤ 3)
    (hJ : ∀ e, (pDn (cP M n) (qL l) (M 15 0, M 14) a).getD a = e → J = pJw w (cP M n) (pRn (cP M n) (qL l) (M 15 0, M 14) e) a e (pOr (-6) (pFind (pFf (cP M n) (qL l) (M 15 0, M 14)) e))) : ∀ k, k ≤ a → ∀ N x5, tS M N n l k → (∀ i, i < k → (!pCn (cP M n) (qL l i) (pRn (cP M n) (qL l) (M 15 0, M 14) i)) = false) →
    vV m_X6_judge d d (vPi fun r T1 M1 => T = T1 ∧ cKeepT M M1 ∧ r = J) 50 [some (vR 0), some (vI w), some (vI a), some (vI (pOr (-6) (pFind (pFf (cP M n) (qL l) (M 15 0, M 14)) k))), some (vI k), x5] [] d T N := by
  refine vUp ?_
  intro k hk ih N x5 htS hf
  have hq := hrg k
  have hca := htS.can (qL l k)
  have hW := htS.2.1
  have h4 := htS.2.2.2.2.2.1
  obtain ⟨fo, hfo⟩ : ∃ fo, fo = pFind (pFf (cP M n) (qL l) (M 15 0, M 14)) k := ⟨_, rfl⟩
  have hfs1 : ∀ p, fo = some p → pFind (pFf (cP M n) (qL l) (M 15 0, M 14)) (k + 1) = some p := fun p h => pFind_s1 (hfo.symm.trans h)
  have hfs2 : fo = none → pFind (pFf (cP M n) (qL l) (M 15 0, M 14)) (k + 1) = if pFf (cP M n) (qL l) (M 15 0, M 14) k then some k else none := fun h => pFind_s2 (hfo.symm.trans h)
  have hJk := hJ k
  have hfn := fun h => pFind_some.pFind_none (P := pFf (cP M n) (qL l) (M 15 0, M 14)) (n := k) h
  rw [← hfo] at hJk ⊢
  refine vV.iload dX6_judge_50 rfl ?_
  refine vV.iload_n dX6_judge_52 rfl ?_
  refine vV.icmp_ge (tgt := 129) dX6_judge_53 (by decide) (fun h53 => ?_) (fun h53 => ?_)
  · skip
    have hz : (pDn (cP M n) (qL l) (M 15 0, M 14) a).getD a = k := by first | (rw [hd]; rfl) | (have hka : k = a := by omega); (rw [show pDn (cP M n) (qL l) (M 15 0, M 14) a = none from pFind_no (fun i hi => hf i (by omega))]; exact hka.symm)
    rw [hJk hz]
    exact l_X6_jd129 hB hw htS _
  · skip
    refine vV.aload_n dX6_judge_56 rfl ?_
    refine vV.getr dX6_judge_57 fl_X6_16 (by first | rfl | assumption) rfl (by first | assumption | exact hB _ _ _ rfl) ?_
    refine vV.aload_n dX6_judge_60 rfl ?_
    refine vV.getr dX6_judge_61 fl_X6_26 (by first | rfl | assumption) rfl (by first | assumption | exact hB _ _ _ rfl) ?_
    refine vV.getr dX6_judge_64 fl_X6_126 (by first | rfl | assumption) rfl (by first | assumption | exact hB _ _ _ rfl) ?_
    refine vV.iload dX6_judge_67 rfl ?_
    refine vV.iald dX6_judge_69 (by first | rfl | assumption) (by omega) (by omega) ?_
    rw [qL_has htS.2.2.2.2.2.2.2 (show k < l.length by omega)]
    refine vV.cVi dX6_judge_70 ml_X6_100 cw_X3_can iw_X3_can (by first | rfl | assumption) rfl (by unfold vRoom; decide) (c_X3_can sgK_20 (sgT_20 hB) htS.2.1 hq.1 hq.2) rfl rfl (Nat.le_of_ble_eq_true rfl) ?_
    rintro x70 _ _ hx70 ⟨hy70, rfl, rfl⟩
    rw [hca] at hy70
    subst hy70
    refine vV.if_eq (tgt := 129) dX6_judge_73 (by decide) (fun h73 => ?_) (fun h73 => ?_)
    · skip
      have hno := bI_eq h73
      have hd : pDn (cP M n) (qL l) (M 15 0, M 14) a = some k := pFind_yes (by omega) (by rw [hno]; rfl) hf
      have hz : (pDn (cP M n) (qL l) (M 15 0, M 14) a).getD a = k := by first | (rw [hd]; rfl) | (have hka : k = a := by omega); (rw [show pDn (cP M n) (qL l) (M 15 0, M 14) a = none from pFind_no (fun i hi => hf i (by omega))]; exact hka.symm)
      rw [hJk hz]
      exact l_X6_jd129 hB hw htS _
    · skip
      have hye := bI_ne h73
      refine vV.aload_n dX6_judge_76 rfl ?_
      refine vV.getr dX6_judge_77 fl_X6_16 (by first | rfl | assumption) rfl (by first | assumption | exact hB _ _ _ rfl) ?_
      refine vV.cVi dX6_judge_80 ml_X6_107 cw_X3_standing iw_X3_standing (by first | rfl | assumption) rfl (by unfold vRoom; decide) (c_X3_standing sgK_20 (sgT_20 hB) hW.cnt hW.le) rfl rfl (Nat.le_of_ble_eq_true rfl) ?_
      rintro x80 _ _ hx80 ⟨hy80, rfl, rfl⟩
      rw [show N (20 + 4) = _ from h4] at hy80
      subst hy80
      refine vV.istore (L' := [_, _, _, _, _, _]) dX6_judge_83 (by decide) rfl ?_
      refine vV.aload_n dX6_judge_85 rfl ?_
      refine vV.getr dX6_judge_86 fl_X6_16 (by first | rfl | assumption) rfl (by first | assumption | exact hB _ _ _ rfl) ?_
      refine vV.aload_n dX6_judge_89 rfl ?_
      refine vV.getr dX6_judge_90 fl_X6_26 (by first | rfl | assumption) rfl (by first | assumption | exact hB _ _ _ rfl) ?_
      refine vV.getr dX6_judge_93 fl_X6_126 (by first | rfl | assumption) rfl (by first | assumption | exact hB _ _ _ rfl) ?_
      refine vV.iload dX6_judge_96 rfl ?_
      refine vV.iald dX6_judge_98 (by first | rfl | assumption) (by omega) (by omega) ?_
      rw [qL_has htS.2.2.2.2.2.2.2 (show k < l.length by omega)]
      refine vV.cVv dX6_judge_99 ml_X6_103 cw_X3_act iw_X3_act (by first | rfl | assumption) rfl (by unfold vRoom; decide) (c_X3_act sgK_20 (sgT_20 hB) htS.2.1) rfl rfl (Nat.le_of_ble_eq_true rfl) ?_
      rintro _ _ ⟨rfl, rfl⟩
      have htS1 := tS_s htS hye
      have h41 := htS1.2.2.2.2.2.1
      refine vV.iload_n dX6_judge_102 rfl ?_
      refine vV.bipush (v := (-6)) dX6_judge_103 (by decide) (by decide) ?_
      refine vV.icmp_ne (tgt := 123) dX6_judge_105 (by decide) (fun h105 => ?_) (fun h105 => ?_)
      · skip
        have hfa : pOr (-6) (pFind (pFf (cP M n) (qL l) (M 15 0, M 14)) (k + 1)) = pOr (-6) fo := by { cases hq2 : fo with | none => (rw [hq2] at h105; exact absurd rfl h105) | some p => rw [hfs1 p hq2] }
        refine vV.iinc (L' := [_, _, _, _, _, _]) dX6_judge_123 (by decide) rfl (⟨by omega, by omega⟩) rfl ?_
        refine vV.goto (tgt := 50) dX6_judge_126 (by decide) ?_
        rw [hfa] at ih
        exact ih (by omega) _ _ htS1 (fun i hi => (Nat.lt_succ_iff_lt_or_eq.mp hi).elim (hf i) (fun e => by subst e; rw [hye]; rfl))
      · skip
        have hfoN : fo = none := by { cases fo with | none => rfl | some p => (rw [pOr_s] at h105; omega) }
        refine vV.aload_n dX6_judge_108 rfl ?_
        refine vV.getr dX6_judge_109 fl_X6_16 (by first | rfl | assumption) rfl (by first | assumption | exact hB _ _ _ rfl) ?_
        refine vV.cVi dX6_judge_112 ml_X6_107 cw_X3_standing iw_X3_standing (by first | rfl | assumption) rfl (by unfold vRoom; decide) (c_X3_standing sgK_20 (sgT_20 hB) htS1.2.1.cnt htS1.2.1.le) rfl rfl (Nat.le_of_ble_eq_true rfl) ?_
        rintro x112 _ _ hx112 ⟨hy112, rfl, rfl⟩
        rw [show sgAct N 20 n (qL l k) (20 + 4) = _ from h41] at hy112
        subst hy112
        refine vV.iload dX6_judge_115 rfl ?_
        refine vV.icmp_eq (tgt := 123) dX6_judge_117 (by decide) (fun h117 => ?_) (fun h117 => ?_)
        · skip
          have hfa : pOr (-6) (pFind (pFf (cP M n) (qL l) (M 15 0, M 14)) (k + 1)) = pOr (-6) fo := by { rw [hfs2 hfoN, hfoN, if_neg (by unfold pFf; simp; exact h117)] }
          refine vV.iinc (L' := [_, _, _, _, _, _]) dX6_judge_123 (by decide) rfl (⟨by omega, by omega⟩) rfl ?_
          refine vV.goto (tgt := 50) dX6_judge_126 (by decide) ?_
          rw [hfa] at ih
          exact ih (by omega) _ _ htS1 (fun i hi => (Nat.lt_succ_iff_lt_or_eq.mp hi).elim (hf i) (fun e => by subst e; rw [hye]; rfl))
        · skip
          have hfa : pOr (-6) (pFind (pFf (cP M n) (qL l) (M 15 0, M 14)) (k + 1)) = k := by { rw [hfs2 hfoN, if_pos (by unfold pFf; simp; exact h117)]; rfl }
          refine vV.iload dX6_judge_120 rfl ?_
          refine vV.istore_n (L' := [_, _, _, _, _, _]) dX6_judge_122 (by decide) rfl ?_
          refine vV.iinc (L' := [_, _, _, _, _, _]) dX6_judge_123 (by decide) rfl (⟨by omega, by omega⟩) rfl ?_
          refine vV.goto (tgt := 50) dX6_judge_126 (by decide) ?_
          rw [hfa] at ih
          exact ih (by omega) _ _ htS1 (fun i hi => (Nat.lt_succ_iff_lt_or_eq.mp hi).elim (hf i) (fun e => by subst e; rw [hye]; rfl))
def rJudge (w : Int) (P : pP) (sg : Int → Int) (m : Nat) (s : pPos) : Int := if ¬ (0 ≤ w ∧ w ≤ 5) then -2 else if (pFind (pBad sg) m).isSome then -5 else pJ w P (qL (pL sg m)) s (pL sg m).length
theorem c_X6_judge {d : List Nat} {T : vT} {M : vM} {n m : Nat} {w : Int} (hB : vB T) (hW : sgW M 10 n) (hz : sgZ M 20) (hm : M 60 0 = m) (hle : m ≤ 40) : vCon m_X6_judge d d [vR 0, vI w] T M (vPi fun r T1 M1 => T = T1 ∧ cKeepT M M1 ∧ r = rJudge w (cP M n) (M 61) m (M 15 0, M 14)) := by
  obtain ⟨J, hJ⟩ : ∃ J, J = rJudge w (cP M n) (M 61) m (M 15 0, M 14) := ⟨_, rfl⟩
  rw [← hJ]
  unfold rJudge at hJ
  refine vCon.of (by decide) rfl rfl (Nat.le_of_ble_eq_true rfl) ?_
  refine vV.iload_n dX6_judge_0 rfl ?_
  refine vV.iconst dX6_judge_1 (by decide) ?_
  refine vV.iconst dX6_judge_2 (by decide) ?_
  refine vV.cSi dX6_judge_3 ml_X6_58 cw_X6_within sw_X6_within (by unfold vRoom; decide) c_X6_within rfl rfl (Nat.le_of_ble_eq_true rfl) ?_
  rintro x3 _ _ hx3 ⟨hy3, rfl, rfl⟩
  refine vV.if_ne (tgt := 12) dX6_judge_6 (by decide) (fun h6 => ?_) (fun h6 => ?_)
  · skip
    have hw := yes01 hy3 h6
    rw [if_neg (fun c => c hw)] at hJ
    refine vV.aload_n dX6_judge_12 rfl ?_
    refine vV.getr dX6_judge_13 fl_X6_26 (by first | rfl | assumption) rfl (by first | assumption | exact hB _ _ _ rfl) ?_
    refine vV.cVi dX6_judge_16 ml_X6_116 cw_X1_firstFault iw_X1_firstFault (by first | rfl | assumption) rfl (by unfold vRoom; decide) (c_X1_firstFault hB hm hle) rfl rfl (Nat.le_of_ble_eq_true rfl) ?_
    rintro x16 _ _ hx16 ⟨hy16, rfl, rfl⟩
    subst hy16
    refine vV.if_lt (tgt := 25) dX6_judge_19 (by decide) (fun h19 => ?_) (fun h19 => ?_)
    · skip
      have hno := pNo_of (pOr_none h19)
      rw [pOr_none' h19, if_neg (by simp)] at hJ
      have hlen := pL_len hno m (Nat.le_refl m)
      refine vV.aload_n dX6_judge_25 rfl ?_
      refine vV.getr dX6_judge_26 fl_X6_16 (by first | rfl | assumption) rfl (by first | assumption | exact hB _ _ _ rfl) ?_
      refine vV.aload_n dX6_judge_29 rfl ?_
      refine vV.getr dX6_judge_30 fl_X6_10 (by first | rfl | assumption) rfl (by first | assumption | exact hB _ _ _ rfl) ?_
      refine vV.cVv dX6_judge_33 ml_X6_119 cw_X3_copyFrom iw_X3_copyFrom (by first | rfl | assumption) rfl (by unfold vRoom; decide) (c_X3_copyFrom sgK_20 (sgT_20 hB) sgK_10 (sgT_10 hB) (by omega) hz hW.z) rfl rfl (Nat.le_of_ble_eq_true rfl) ?_
      rintro _ _ ⟨rfl, rfl⟩
      refine vV.aload_n dX6_judge_36 rfl ?_
      refine vV.getr dX6_judge_37 fl_X6_26 (by first | rfl | assumption) rfl (by first | assumption | exact hB _ _ _ rfl) ?_
      refine vV.cVi dX6_judge_40 ml_X6_123 cw_X1_read iw_X1_read (by first | rfl | assumption) rfl (by unfold vRoom; decide) (c_X1_read (M := sgCp M 20 10) (m := m) hB hm hle hno) rfl rfl (Nat.le_of_ble_eq_true rfl) ?_
      rintro x40 _ _ hx40 ⟨hy40, rfl, f, rfl, hf⟩
      rw [show sgCp M 20 10 61 = M 61 from rfl] at hy40 hf
      subst hy40
      refine vV.istore_n (L' := [_, _, _, _, _, _]) dX6_judge_43 (by decide) rfl ?_
      refine vV.bipush (v := (-6)) dX6_judge_44 (by decide) (by decide) ?_
      refine vV.istore_n (L' := [_, _, _, _, _, _]) dX6_judge_46 (by decide) rfl ?_
      refine vV.iconst dX6_judge_47 (by decide) ?_
      refine vV.istore (L' := [_, _, _, _, _, _]) dX6_judge_48 (by decide) rfl ?_
      exact l_X6_judge hB hw rfl (by omega) (fun k => qL_rg k) (fun e he => by rw [hJ]; unfold pJ; rw [← he]) 0 (by omega) _ _ (tS_0 hW hf) (fun i hi => by omega)
    · skip
      rw [if_pos (pOr_some h19)] at hJ
      refine vV.bipush (v := (-5)) dX6_judge_22 (by decide) (by decide) ?_
      refine vV.ri dX6_judge_24 rfl ?_
      exact ⟨rfl, cKeepT.rf M, hJ.symm⟩
  · skip
    rw [if_pos (no01 hy3 h6)] at hJ
    refine vV.bipush (v := (-2)) dX6_judge_9 (by decide) (by decide) ?_
    refine vV.ri dX6_judge_11 rfl ?_
    exact ⟨rfl, cKeepT.rf M, hJ.symm⟩
