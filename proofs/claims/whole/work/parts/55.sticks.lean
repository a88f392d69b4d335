/-! ===== own: the reference: findSticks, sticks ===== -/
def rfK : List Nat := [200, 211, 212, 218, 219, 226, 227, 228]
def rfS (M N : vM) : Prop := mSame rfK M N ∧ mSlot [12, 13, 14, 15, 16] M N ∧ (∀ j : Nat, 0 ≤ N 211 j ∧ N 211 j ≤ 7) ∧ ∀ j : Nat, 0 ≤ N 212 j ∧ N 212 j ≤ 15
def rfI (M N : vM) (n : Nat) (so f o : Int → Int) : Prop := rfS M N ∧ pEq n (N 226) so ∧ N 227 = f ∧ pEq n (N 228) o
def rfE (M M1 : vM) (n : Nat) (r : Int × (Int → Int)) : Prop := rfS M M1 ∧ pEq n (M1 228) r.2
def rfH (M : vM) (n lag : Nat) (rule : Int) (so : Int → Int) (v : (Int → Int) → Int) : Prop := mW M n ∧ M 200 8 = lag ∧ (0 ≤ rule ∧ rule ≤ 3) ∧ pInc n so ∧ (∀ k : Nat, k < n → 0 ≤ so k ∧ so k ≤ 7) ∧ ∀ f, pPm n f → v f = pOr 601 (pLasts rule (stP (mPb M n) f so) lag (mS0 M n)) ∧ 1 ≤ v f ∧ v f ≤ 601
theorem rfS.w {M N : vM} {n : Nat} (h : rfS M N) (hW : mW M n) : mW N n := by
  obtain ⟨h1, h2, h3, h4⟩ := h
  obtain ⟨w1, w2, -, -⟩ := hW
  have e : seM N = seM M := by unfold seM; rw [h2 5 (by decide), h2 6 (by decide), h2 7 (by decide), h2 8 (by decide), h2 9 (by decide)]
  refine ⟨by rw [h2 4 (by decide)]; exact w1, ?_, h3, h4⟩
  rw [e, h1 201 (by decide), h1 202 (by decide), h1 203 (by decide), h1 204 (by decide)]
  exact w2
theorem dX7_findSticks_0 : decode cX7_findSticks 0 = .ok (.aload_n 0, 1) := by decide +kernel
theorem dX7_findSticks_1 : decode cX7_findSticks 1 = .ok (.invokevirtual 241, 3) := by decide +kernel
theorem dX7_findSticks_4 : decode cX7_findSticks 4 = .ok (.aload_n 0, 1) := by decide +kernel
theorem dX7_findSticks_5 : decode cX7_findSticks 5 = .ok (.invokevirtual 244, 3) := by decide +kernel
theorem dX7_findSticks_8 : decode cX7_findSticks 8 = .ok (.iconst 0, 1) := by decide +kernel
theorem dX7_findSticks_9 : decode cX7_findSticks 9 = .ok (.istore_n 2, 1) := by decide +kernel
theorem dX7_findSticks_10 : decode cX7_findSticks 10 = .ok (.iconst 1, 1) := by decide +kernel
theorem dX7_findSticks_11 : decode cX7_findSticks 11 = .ok (.istore_n 3, 1) := by decide +kernel
theorem dX7_findSticks_12 : decode cX7_findSticks 12 = .ok (.iload_n 3, 1) := by decide +kernel
theorem dX7_findSticks_13 : decode cX7_findSticks 13 = .ok (.ifCond .eq 115, 3) := by decide +kernel
theorem dX7_findSticks_16 : decode cX7_findSticks 16 = .ok (.aload_n 0, 1) := by decide +kernel
theorem dX7_findSticks_17 : decode cX7_findSticks 17 = .ok (.invokevirtual 177, 3) := by decide +kernel
theorem dX7_findSticks_20 : decode cX7_findSticks 20 = .ok (.iconst 0, 1) := by decide +kernel
theorem dX7_findSticks_21 : decode cX7_findSticks 21 = .ok (.istore 4, 2) := by decide +kernel
theorem dX7_findSticks_23 : decode cX7_findSticks 23 = .ok (.iload 4, 2) := by decide +kernel
theorem dX7_findSticks_25 : decode cX7_findSticks 25 = .ok (.aload_n 0, 1) := by decide +kernel
theorem dX7_findSticks_26 : decode cX7_findSticks 26 = .ok (.getfield 89, 3) := by decide +kernel
theorem dX7_findSticks_29 : decode cX7_findSticks 29 = .ok (.if_icmp .ge 28, 3) := by decide +kernel
theorem dX7_findSticks_32 : decode cX7_findSticks 32 = .ok (.aload_n 0, 1) := by decide +kernel
theorem dX7_findSticks_33 : decode cX7_findSticks 33 = .ok (.getfield 22, 3) := by decide +kernel
theorem dX7_findSticks_36 : decode cX7_findSticks 36 = .ok (.aload_n 0, 1) := by decide +kernel
theorem dX7_findSticks_37 : decode cX7_findSticks 37 = .ok (.getfield 43, 3) := by decide +kernel
theorem dX7_findSticks_40 : decode cX7_findSticks 40 = .ok (.iload 4, 2) := by decide +kernel
theorem dX7_findSticks_42 : decode cX7_findSticks 42 = .ok (.iaload, 1) := by decide +kernel
theorem dX7_findSticks_43 : decode cX7_findSticks 43 = .ok (.aload_n 0, 1) := by decide +kernel
theorem dX7_findSticks_44 : decode cX7_findSticks 44 = .ok (.getfield 40, 3) := by decide +kernel
theorem dX7_findSticks_47 : decode cX7_findSticks 47 = .ok (.iload 4, 2) := by decide +kernel
theorem dX7_findSticks_49 : decode cX7_findSticks 49 = .ok (.iaload, 1) := by decide +kernel
theorem dX7_findSticks_50 : decode cX7_findSticks 50 = .ok (.iastore, 1) := by decide +kernel
theorem dX7_findSticks_51 : decode cX7_findSticks 51 = .ok (.iinc 4 1, 3) := by decide +kernel
theorem dX7_findSticks_54 : decode cX7_findSticks 54 = .ok (.goto (-31), 3) := by decide +kernel
theorem dX7_findSticks_57 : decode cX7_findSticks 57 = .ok (.aload_n 0, 1) := by decide +kernel
theorem dX7_findSticks_58 : decode cX7_findSticks 58 = .ok (.iload_n 1, 1) := by decide +kernel
theorem dX7_findSticks_59 : decode cX7_findSticks 59 = .ok (.invokevirtual 232, 3) := by decide +kernel
theorem dX7_findSticks_62 : decode cX7_findSticks 62 = .ok (.istore 4, 2) := by decide +kernel
theorem dX7_findSticks_64 : decode cX7_findSticks 64 = .ok (.iload 4, 2) := by decide +kernel
theorem dX7_findSticks_66 : decode cX7_findSticks 66 = .ok (.ifCond .ge 9, 3) := by decide +kernel
theorem dX7_findSticks_69 : decode cX7_findSticks 69 = .ok (.sipush 601, 3) := by decide +kernel
theorem dX7_findSticks_72 : decode cX7_findSticks 72 = .ok (.goto 5, 3) := by decide +kernel
theorem dX7_findSticks_75 : decode cX7_findSticks 75 = .ok (.iload 4, 2) := by decide +kernel
theorem dX7_findSticks_77 : decode cX7_findSticks 77 = .ok (.istore 5, 2) := by decide +kernel
theorem dX7_findSticks_79 : decode cX7_findSticks 79 = .ok (.iload 5, 2) := by decide +kernel
theorem dX7_findSticks_81 : decode cX7_findSticks 81 = .ok (.iload_n 2, 1) := by decide +kernel
theorem dX7_findSticks_82 : decode cX7_findSticks 82 = .ok (.if_icmp .le 38, 3) := by decide +kernel
theorem dX7_findSticks_85 : decode cX7_findSticks 85 = .ok (.iload 5, 2) := by decide +kernel
theorem dX7_findSticks_87 : decode cX7_findSticks 87 = .ok (.istore_n 2, 1) := by decide +kernel
theorem dX7_findSticks_88 : decode cX7_findSticks 88 = .ok (.iconst 0, 1) := by decide +kernel
theorem dX7_findSticks_89 : decode cX7_findSticks 89 = .ok (.istore 6, 2) := by decide +kernel
theorem dX7_findSticks_91 : decode cX7_findSticks 91 = .ok (.iload 6, 2) := by decide +kernel
theorem dX7_findSticks_93 : decode cX7_findSticks 93 = .ok (.aload_n 0, 1) := by decide +kernel
theorem dX7_findSticks_94 : decode cX7_findSticks 94 = .ok (.getfield 89, 3) := by decide +kernel
theorem dX7_findSticks_97 : decode cX7_findSticks 97 = .ok (.if_icmp .ge 23, 3) := by decide +kernel
theorem dX7_findSticks_100 : decode cX7_findSticks 100 = .ok (.aload_n 0, 1) := by decide +kernel
theorem dX7_findSticks_101 : decode cX7_findSticks 101 = .ok (.getfield 46, 3) := by decide +kernel
theorem dX7_findSticks_104 : decode cX7_findSticks 104 = .ok (.iload 6, 2) := by decide +kernel
theorem dX7_findSticks_106 : decode cX7_findSticks 106 = .ok (.aload_n 0, 1) := by decide +kernel
theorem dX7_findSticks_107 : decode cX7_findSticks 107 = .ok (.getfield 43, 3) := by decide +kernel
theorem dX7_findSticks_110 : decode cX7_findSticks 110 = .ok (.iload 6, 2) := by decide +kernel
theorem dX7_findSticks_112 : decode cX7_findSticks 112 = .ok (.iaload, 1) := by decide +kernel
theorem dX7_findSticks_113 : decode cX7_findSticks 113 = .ok (.iastore, 1) := by decide +kernel
theorem dX7_findSticks_114 : decode cX7_findSticks 114 = .ok (.iinc 6 1, 3) := by decide +kernel
theorem dX7_findSticks_117 : decode cX7_findSticks 117 = .ok (.goto (-26), 3) := by decide +kernel
theorem dX7_findSticks_120 : decode cX7_findSticks 120 = .ok (.aload_n 0, 1) := by decide +kernel
theorem dX7_findSticks_121 : decode cX7_findSticks 121 = .ok (.invokevirtual 247, 3) := by decide +kernel
theorem dX7_findSticks_124 : decode cX7_findSticks 124 = .ok (.istore_n 3, 1) := by decide +kernel
theorem dX7_findSticks_125 : decode cX7_findSticks 125 = .ok (.goto (-113), 3) := by decide +kernel
theorem dX7_findSticks_128 : decode cX7_findSticks 128 = .ok (.iload_n 2, 1) := by decide +kernel
theorem dX7_findSticks_129 : decode cX7_findSticks 129 = .ok (.sipush 600, 3) := by decide +kernel
theorem dX7_findSticks_132 : decode cX7_findSticks 132 = .ok (.if_icmp .le 8, 3) := by decide +kernel
theorem dX7_findSticks_135 : decode cX7_findSticks 135 = .ok (.bipush (-6), 2) := by decide +kernel
theorem dX7_findSticks_137 : decode cX7_findSticks 137 = .ok (.goto 4, 3) := by decide +kernel
theorem dX7_findSticks_140 : decode cX7_findSticks 140 = .ok (.iload_n 2, 1) := by decide +kernel
theorem dX7_findSticks_141 : decode cX7_findSticks 141 = .ok (.ireturn, 1) := by decide +kernel
theorem l_X7_fs120 {d : List Nat} {T : vT} {M N : vM} {n k : Nat} {so f o : Int → Int} {b rule : Int} {v : (Int → Int) → Int} {x4 x5 x6 : Option vA} (hB : vB T) (h1 : 1 ≤ n) (hn : n ≤ 6) (hc : M 200 4 = n) (hI : rfI M N n so f o) (hf : pPm n f) (hfin : nFin n (k + 1) f = true) (hb0 : 0 ≤ b) (hb1 : b ≤ 601)
    (ih : ∀ (f : Int → Int) (b : Int) (o : Int → Int) (N : vM) (x4 x5 x6 : Option vA), rfI M N n so f o → pPm n f → nFin n k f = true → 0 ≤ b → b ≤ 601 → vV m_X7_findSticks d d (vPi fun r T1 M1 => T = T1 ∧ rfE M M1 n (stk v n k f b o) ∧ r = if (stk v n k f b o).1 ≤ 600 then (stk v n k f b o).1 else -6) 12 [some (vR 200), some (vI rule), some (vI b), some (vI 1), x4, x5, x6] [] d T N) :
    ∀ S, (nNx n f = none → S = (b, o)) → (∀ g, nNx n f = some g → S = stk v n k g b o) → vV m_X7_findSticks d d (vPi fun r T1 M1 => T = T1 ∧ rfE M M1 n S ∧ r = if S.1 ≤ 600 then S.1 else -6) 120 [some (vR 200), some (vI rule), some (vI b), some (vI 1), x4, x5, x6] [] d T N := by
  intro S hS0 hS1
  have e227 := hI.2.2.1
  have hcN : N 200 4 = n := by rw [hI.1.2.1 4 (by decide)]; exact hc
  cases hq : nNx n f with
  | none =>
    rw [hS0 hq]
    have hE : rfE M N n (b, o) := ⟨hI.1, hI.2.2.2⟩
    refine vV.aload_n dX7_findSticks_120 rfl ?_
    refine vV.cVi dX7_findSticks_121 ml_X7_247 cw_X7_nextOrder iw_X7_nextOrder (by first | rfl | assumption) rfl (by unfold vRoom; decide) (c_X7_nextOrder hB hcN h1 hn) rfl rfl (Nat.le_of_ble_eq_true rfl) ?_
    rintro x145 _ N1 hx145 ⟨rfl, hq145⟩
    rw [e227, hq] at hq145
    obtain ⟨rfl, rfl⟩ := hq145
    refine vV.istore_n (L' := [_, _, _, _, _, _, _]) dX7_findSticks_124 (by decide) rfl ?_
    refine vV.goto (tgt := 12) dX7_findSticks_125 (by decide) ?_
    refine vV.iload_n dX7_findSticks_12 rfl ?_
    refine vV.if_eq (tgt := 128) dX7_findSticks_13 (by decide) (fun h13 => ?_) (fun h13 => ?_)
    · skip
      refine vV.iload_n dX7_findSticks_128 rfl ?_
      refine vV.sipush (v := 600) dX7_findSticks_129 (by decide) (by decide) ?_
      refine vV.icmp_le (tgt := 140) dX7_findSticks_132 (by decide) (fun h132 => ?_) (fun h132 => ?_)
      · skip
        refine vV.iload_n dX7_findSticks_140 rfl ?_
        refine vV.ri dX7_findSticks_141 rfl ?_
        first | (rw [if_pos (by omega)]; exact ⟨rfl, hE, rfl⟩) | (rw [if_neg (by omega)]; exact ⟨rfl, hE, rfl⟩)
      · skip
        refine vV.bipush (v := (-6)) dX7_findSticks_135 (by decide) (by decide) ?_
        refine vV.goto (tgt := 141) dX7_findSticks_137 (by decide) ?_
        refine vV.ri dX7_findSticks_141 rfl ?_
        first | (rw [if_pos (by omega)]; exact ⟨rfl, hE, rfl⟩) | (rw [if_neg (by omega)]; exact ⟨rfl, hE, rfl⟩)
    · skip
      omega
  | some g =>
    rw [hS1 g hq]
    refine vV.aload_n dX7_findSticks_120 rfl ?_
    refine vV.cVi dX7_findSticks_121 ml_X7_247 cw_X7_nextOrder iw_X7_nextOrder (by first | rfl | assumption) rfl (by unfold vRoom; decide) (c_X7_nextOrder hB hcN h1 hn) rfl rfl (Nat.le_of_ble_eq_true rfl) ?_
    rintro x145 _ N1 hx145 ⟨rfl, hq145⟩
    rw [e227, hq] at hq145
    obtain ⟨rfl, rfl⟩ := hq145
    refine vV.istore_n (L' := [_, _, _, _, _, _, _]) dX7_findSticks_124 (by decide) rfl ?_
    refine vV.goto (tgt := 12) dX7_findSticks_125 (by decide) ?_
    exact ih g b o _ _ _ _ ⟨⟨fun y hy => by rw [vRow_n (by intro z; subst z; exact hy (by decide))]; exact hI.1.1 y hy, hI.1.2.1, hI.1.2.2.1, hI.1.2.2.2⟩, hI.2.1, vRow_s _ _ _, hI.2.2.2⟩ (nNx_pm hq hf) (nFin_s hq hfin) hb0 hb1
theorem l_X7_fs91 {d : List Nat} {T : vT} {N : vM} {n : Nat} {b rule : Int} {x4 x5 : Option vA} {Q : Option vA → vT → vM → Prop} (hB : vB T) (hn : n ≤ 6) (hc : N 200 4 = n)
    (h120 : ∀ x6, vV m_X7_findSticks d d Q 120 [some (vR 200), some (vI rule), some (vI b), some (vI 1), x4, x5, x6] [] d T (vRow N 228 (pMix n (N 227) (N 228)))) : ∀ k, k ≤ n →
    vV m_X7_findSticks d d Q 91 [some (vR 200), some (vI rule), some (vI b), some (vI 1), x4, x5, some (vI k)] [] d T (vRow N 228 (pMix k (N 227) (N 228))) := by
  refine vUp ?_
  intro k hk ih
  have e0 : vRow N 228 (pMix k (N 227) (N 228)) 200 = N 200 := vRow_n (by decide)
  have e1 : vRow N 228 (pMix k (N 227) (N 228)) 227 = N 227 := vRow_n (by decide)
  refine vV.iload dX7_findSticks_91 rfl ?_
  refine vV.aload_n dX7_findSticks_93 rfl ?_
  refine vV.geti (z := 4) dX7_findSticks_94 fl_X7_89 (by first | rfl | assumption) rfl rfl ?_
  rw [e0]
  refine vV.icmp_ge (tgt := 120) dX7_findSticks_97 (by decide) (fun h97 => ?_) (fun h97 => ?_)
  · skip
    rw [show k = n by omega]; exact h120 _
  · skip
    refine vV.aload_n dX7_findSticks_100 rfl ?_
    refine vV.getr dX7_findSticks_101 fl_X7_46 (by first | rfl | assumption) rfl (by first | assumption | exact hB _ _ _ rfl) ?_
    refine vV.iload dX7_findSticks_104 rfl ?_
    refine vV.aload_n dX7_findSticks_106 rfl ?_
    refine vV.getr dX7_findSticks_107 fl_X7_43 (by first | rfl | assumption) rfl (by first | assumption | exact hB _ _ _ rfl) ?_
    refine vV.iload dX7_findSticks_110 rfl ?_
    refine vV.iald dX7_findSticks_112 (by first | rfl | assumption) (by omega) (by omega) ?_
    rw [e1]
    refine vV.iast dX7_findSticks_113 (by first | rfl | assumption) (by omega) (by omega) ?_
    rw [vUpd_vRow, pMix_s]
    refine vV.iinc (L' := [_, _, _, _, _, _, _]) dX7_findSticks_114 (by decide) rfl (⟨by omega, by omega⟩) rfl ?_
    refine vV.goto (tgt := 91) dX7_findSticks_117 (by decide) ?_
    exact ih (by omega)
theorem mTj_pl {N : vM} {rule : Int} {P : pP} {lag : Nat} {s0 : pS} {pl : Int → Int} (h : mTj N rule P lag s0 0) (h7 : ∀ j : Nat, 0 ≤ pl j ∧ pl j ≤ 7) (hd : pDis P.1 pl) : mTj (vRow N 211 pl) rule (P.1, pl, P.2.2) lag s0 0 := by
  obtain ⟨a, b, ⟨hist, c, ⟨s1, s2, s3, s4, s5, s6, s7, s8, s9, s10, s11, s12, s13, s14, s15, s16⟩, t2, t3, t4, t5, t6, t7, t8⟩, e⟩ := h
  refine ⟨?_, b, ⟨hist, fun i hi => by rw [c i hi, show i = 0 by omega, pTr_0, pTr_0], ⟨s1, s2, s3, ?_, s5, s6, ?_, s8, s9, s10, s11, s12, s13, s14, s15, s16⟩, t2, t3, t4, t5, t6, t7, t8⟩, fun i hi => ?_⟩
  · rw [← a]; unfold mP; simp only; rw [vRow_s]; rfl
  · rw [vRow_s]; exact h7
  · rw [vRow_s]; exact hd
  · have := e i hi
    rw [show i = 0 by omega, pTr_0] at this ⊢
    exact this
theorem l_X7_fs23 {d : List Nat} {T : vT} {N : vM} {n : Nat} {b rule : Int} {so f : Int → Int} {x5 x6 : Option vA} {Q : Option vA → vT → vM → Prop} (hB : vB T) (hn : n ≤ 6) (hc : N 200 4 = n) (hso : pEq n (N 226) so) (h227 : N 227 = f) (hf : pPm n f)
    (h57 : ∀ x4, vV m_X7_findSticks d d Q 57 [some (vR 200), some (vI rule), some (vI b), some (vI 1), x4, x5, x6] [] d T (vRow N 211 (pPut f so (N 211) n))) : ∀ k, k ≤ n →
    vV m_X7_findSticks d d Q 23 [some (vR 200), some (vI rule), some (vI b), some (vI 1), some (vI k), x5, x6] [] d T (vRow N 211 (pPut f so (N 211) k)) := by
  refine vUp ?_
  intro k hk ih
  have e0 : vRow N 211 (pPut f so (N 211) k) 200 = N 200 := vRow_n (by decide)
  have e1 : vRow N 211 (pPut f so (N 211) k) 227 = f := by rw [vRow_n (by decide)]; exact h227
  have e2 : vRow N 211 (pPut f so (N 211) k) 226 = N 226 := vRow_n (by decide)
  refine vV.iload dX7_findSticks_23 rfl ?_
  refine vV.aload_n dX7_findSticks_25 rfl ?_
  refine vV.geti (z := 4) dX7_findSticks_26 fl_X7_89 (by first | rfl | assumption) rfl rfl ?_
  rw [e0]
  refine vV.icmp_ge (tgt := 57) dX7_findSticks_29 (by decide) (fun h29 => ?_) (fun h29 => ?_)
  · skip
    rw [show k = n by omega]; exact h57 _
  · skip
    have hfk := hf.1 k (by omega)
    have hsk := hso k (by omega)
    refine vV.aload_n dX7_findSticks_32 rfl ?_
    refine vV.getr dX7_findSticks_33 fl_X7_22 (by first | rfl | assumption) rfl (by first | assumption | exact hB _ _ _ rfl) ?_
    refine vV.aload_n dX7_findSticks_36 rfl ?_
    refine vV.getr dX7_findSticks_37 fl_X7_43 (by first | rfl | assumption) rfl (by first | assumption | exact hB _ _ _ rfl) ?_
    refine vV.iload dX7_findSticks_40 rfl ?_
    refine vV.iald dX7_findSticks_42 (by first | rfl | assumption) (by omega) (by omega) ?_
    rw [e1]
    refine vV.aload_n dX7_findSticks_43 rfl ?_
    refine vV.getr dX7_findSticks_44 fl_X7_40 (by first | rfl | assumption) rfl (by first | assumption | exact hB _ _ _ rfl) ?_
    refine vV.iload dX7_findSticks_47 rfl ?_
    refine vV.iald dX7_findSticks_49 (by first | rfl | assumption) (by omega) (by omega) ?_
    rw [e2, hsk]
    refine vV.iast dX7_findSticks_50 (by first | rfl | assumption) (by omega) (by omega) ?_
    rw [vUpd_vRow, ← pPut_s]
    refine vV.iinc (L' := [_, _, _, _, _, _, _]) dX7_findSticks_51 (by decide) rfl (⟨by omega, by omega⟩) rfl ?_
    refine vV.goto (tgt := 23) dX7_findSticks_54 (by decide) ?_
    exact ih (by omega)
theorem l_X7_fs12 {d : List Nat} {T : vT} {M : vM} {n lag : Nat} {so : Int → Int} {rule : Int} {v : (Int → Int) → Int} (hB : vB T) (h1 : 1 ≤ n) (hH : rfH M n lag rule so v) : ∀ k,
    ∀ (f : Int → Int) (b : Int) (o : Int → Int) (N : vM) (x4 x5 x6 : Option vA), rfI M N n so f o → pPm n f → nFin n k f = true → 0 ≤ b → b ≤ 601 → vV m_X7_findSticks d d (vPi fun r T1 M1 => T = T1 ∧ rfE M M1 n (stk v n k f b o) ∧ r = if (stk v n k f b o).1 ≤ 600 then (stk v n k f b o).1 else -6) 12 [some (vR 200), some (vI rule), some (vI b), some (vI 1), x4, x5, x6] [] d T N := by
  obtain ⟨hW, hlag, ⟨hr0, hr3⟩, hinc, hsr, hvv⟩ := hH
  have hcM := hW.1
  have hn : n ≤ 6 := hW.2.1.1
  intro k
  induction k with
  | zero => intro f b o N x4 x5 x6 hI hf hfin; cases hfin
  | succ k ih =>
    intro f b o N x4 x5 x6 hI hf hfin hb0 hb1
    obtain ⟨hv1, hv2, hv3⟩ := hvv f hf
    have hWN := hI.1.w hW
    have hlagN : N 200 8 = lag := by rw [hI.1.2.1 8 (by decide)]; exact hlag
    have hcN := hWN.1
    refine vV.iload_n dX7_findSticks_12 rfl ?_
    refine vV.if_eq (tgt := 128) dX7_findSticks_13 (by decide) (fun h13 => ?_) (fun h13 => ?_)
    · skip
      omega
    · skip
      refine vV.aload_n dX7_findSticks_16 rfl ?_
      refine vV.cVv dX7_findSticks_17 ml_X7_177 cw_X7_begin iw_X7_begin (by first | rfl | assumption) rfl (by unfold vRoom; decide) (c_X7_begin hB hWN) rfl rfl (Nat.le_of_ble_eq_true rfl) ?_
      rintro _ N1 ⟨rfl, hb⟩
      have hj := mTj_begin (rule := rule) hWN hlagN hb
      refine vV.iconst dX7_findSticks_20 (by decide) ?_
      refine vV.istore (L' := [_, _, _, _, _, _, _]) dX7_findSticks_21 (by decide) rfl ?_
      have b211 : ∀ j : Nat, 0 ≤ N1 211 j ∧ N1 211 j ≤ 7 := fun j => by
        rw [hb.2.2.1]; unfold pMix; split
        · exact hWN.2.1.2.2.2.1 j
        · exact hI.1.2.2.1 j
      have eN : vRow N1 211 (pPut f so (N1 211) 0) = N1 := vRow_id _ _
      rw [← eN]
      refine l_X7_fs23 (so := so) (f := f) hB hn (by rw [hb.2.1 4 (by decide)]; exact hcN) (by rw [hb.1 226 (by decide)]; exact hI.2.1) (by rw [hb.1 227 (by decide)]; exact hI.2.2.1) hf (fun x4 => ?_) 0 (by omega)
      clear eN
      have hj2 := mTj_pl hj (pPut_rg2 (f := f) hsr b211 (Nat.le_refl n)) (pPut_dis hf hinc)
      obtain ⟨V, hV⟩ : ∃ V, V = pPut f so (N1 211) n := ⟨_, rfl⟩
      have eL : pLasts rule ((mPb N n).1, V, (mPb N n).2.2) lag (mS0 N n) = pLasts rule (stP (mPb M n) f so) lag (mS0 M n) := by
        refine pLasts_cg ⟨rfl, ?_, ?_, ?_, ?_⟩ ⟨?_, ?_, rfl, (fun k h => absurd (show none = some k from h) (by simp)), (fun k h => absurd (show none = some k from h) (by simp))⟩
        · rw [hV]; exact pPut_cg hf hf pEq.rfl pEq.rfl
        · show pEq n (N 202) (M 202); rw [hI.1.1 202 (by decide)]; exact pEq.rfl
        · show pEq n (N 203) (M 203); rw [hI.1.1 203 (by decide)]; exact pEq.rfl
        · show (M 200 6, M 200 7) = (N 200 6, N 200 7); rw [hI.1.2.1 6 (by decide), hI.1.2.1 7 (by decide)]
        · show M 200 5 = N 200 5; rw [hI.1.2.1 5 (by decide)]
        · show pEq n (pMix n (N 204) (N 212)) (pMix n (M 204) (M 212))
          intro j hj; rw [pMix_lt hj, pMix_lt hj, hI.1.1 204 (by decide)]
      rw [← hV] at hj2 ⊢
      have hN1 : rfS M (vRow N1 211 V) := ⟨fun y hy => by rw [vRow_n (by intro z; subst z; exact hy (by decide)), hb.1 y (by unfold rfK at hy; simp at hy ⊢; omega)]; exact hI.1.1 y hy, fun j hj => by rw [vRow_n (by decide), hb.2.1 j hj]; exact hI.1.2.1 j hj, fun j => by rw [vRow_s, hV]; exact pPut_rg2 (f := f) hsr b211 (Nat.le_refl n) j, fun j => by rw [vRow_n (by decide), hb.2.2.2.1]; unfold pMix; split; exact ⟨(hWN.2.1.2.2.2.2.2.2.1 j).1, by have := hWN.2.1.2.2.2.2.2.2.1 j; have := hWN.2.1.2.2.2.2.1 j; omega⟩; exact hI.1.2.2.2 j⟩
      clear hV
      refine vV.aload_n dX7_findSticks_57 rfl ?_
      refine vV.iload_n dX7_findSticks_58 rfl ?_
      refine vV.cVi dX7_findSticks_59 ml_X7_232 cw_X7_lastsOf iw_X7_lastsOf (by first | rfl | assumption) rfl (by unfold vRoom; decide) (c_X7_lastsOf hB hr0 hr3 hj2) rfl rfl (Nat.le_of_ble_eq_true rfl) ?_
      rintro x59 _ W hx59 ⟨rfl, hkp, hx, hj3⟩
      rw [eL] at hx
      have hI2 : rfI M W n so f o := ⟨⟨fun y hy => (hkp.1 y (by unfold rfK at hy; simp at hy ⊢; omega)).trans (hN1.1 y hy), fun j hj => (hkp.2.1 j hj).trans (hN1.2.1 j hj), (hkp.2.2 ⟨hN1.2.2.1, hN1.2.2.2⟩).1, (hkp.2.2 ⟨hN1.2.2.1, hN1.2.2.2⟩).2⟩, by rw [hkp.1 226 (by decide), vRow_n (by decide), hb.1 226 (by decide)]; exact hI.2.1, by rw [hkp.1 227 (by decide), vRow_n (by decide), hb.1 227 (by decide)]; exact hI.2.2.1, by rw [hkp.1 228 (by decide), vRow_n (by decide), hb.1 228 (by decide)]; exact hI.2.2.2⟩
      have hcW : W 200 4 = n := by rw [hI2.1.2.1 4 (by decide)]; exact hcM
      clear hj3 hj2 hj eL
      refine vV.istore (L' := [_, _, _, _, _, _, _]) dX7_findSticks_62 (by decide) rfl ?_
      refine vV.iload dX7_findSticks_64 rfl ?_
      refine vV.if_ge (tgt := 75) dX7_findSticks_66 (by decide) (fun h66 => ?_) (fun h66 => ?_)
      · skip
        have hx5 : x59 = v f := by { rw [hv1]; cases hq : pLasts rule (stP (mPb M n) f so) lag (mS0 M n) with | none => rw [hq, pOr_n] at hx; omega | some q => rw [hq, pOr_s] at hx; rw [hx]; rfl }
        refine vV.iload dX7_findSticks_75 rfl ?_
        rw [hx5]
        clear hx5 hx hv1
        refine vV.istore (L' := [_, _, _, _, _, _, _]) dX7_findSticks_77 (by decide) rfl ?_
        refine vV.iload dX7_findSticks_79 rfl ?_
        refine vV.iload_n dX7_findSticks_81 rfl ?_
        refine vV.icmp_le (tgt := 120) dX7_findSticks_82 (by decide) (fun h82 => ?_) (fun h82 => ?_)
        · skip
          have e1 : stB b (v f) = b := if_neg (by omega)
          have e2 : stO b (v f) f o = o := if_neg (by omega)
          exact l_X7_fs120 (v := v) hB h1 hn hcM hI2 hf hfin hb0 hb1 ih _ (fun z => by rw [stk_n z, e1, e2]) (fun g z => by rw [stk_s z, e1, e2])
        · skip
          have e1 : stB b (v f) = v f := if_pos (by omega)
          have e2 : stO b (v f) f o = f := if_pos (by omega)
          have hI3 : rfI M (vRow W 228 (pMix n (W 227) (W 228))) n so f f := ⟨⟨fun y hy => by rw [vRow_n (by intro z; subst z; exact hy (by decide))]; exact hI2.1.1 y hy, hI2.1.2.1, hI2.1.2.2.1, hI2.1.2.2.2⟩, hI2.2.1, hI2.2.2.1, fun j hj => by rw [vRow_s, pMix_lt hj, hI2.2.2.1]⟩
          have h91 := fun x4 x5 => l_X7_fs91 (x4 := x4) (x5 := x5) hB hn hcW (fun x6 => l_X7_fs120 (x4 := x4) (x5 := x5) (v := v) hB h1 hn hcM hI3 hf hfin (by omega) hv3 ih (stk v n (k + 1) f b o) (fun z => by rw [stk_n z, e1, e2]) (fun g z => by rw [stk_s z, e1, e2])) 0 (by omega)
          rw [pMix_0, vRow_id] at h91
          refine vV.iload dX7_findSticks_85 rfl ?_
          refine vV.istore_n (L' := [_, _, _, _, _, _, _]) dX7_findSticks_87 (by decide) rfl ?_
          refine vV.iconst dX7_findSticks_88 (by decide) ?_
          refine vV.istore (L' := [_, _, _, _, _, _, _]) dX7_findSticks_89 (by decide) rfl ?_
          exact h91 _ _
      · skip
        have hx5 : (601 : Int) = v f := by { rw [hv1]; cases hq : pLasts rule (stP (mPb M n) f so) lag (mS0 M n) with | none => rfl | some q => rw [hq, pOr_s] at hx; omega }
        refine vV.sipush (v := 601) dX7_findSticks_69 (by decide) (by decide) ?_
        refine vV.goto (tgt := 77) dX7_findSticks_72 (by decide) ?_
        rw [hx5]
        clear hx5 hx hv1
        refine vV.istore (L' := [_, _, _, _, _, _, _]) dX7_findSticks_77 (by decide) rfl ?_
        refine vV.iload dX7_findSticks_79 rfl ?_
        refine vV.iload_n dX7_findSticks_81 rfl ?_
        refine vV.icmp_le (tgt := 120) dX7_findSticks_82 (by decide) (fun h82 => ?_) (fun h82 => ?_)
        · skip
          have e1 : stB b (v f) = b := if_neg (by omega)
          have e2 : stO b (v f) f o = o := if_neg (by omega)
          exact l_X7_fs120 (v := v) hB h1 hn hcM hI2 hf hfin hb0 hb1 ih _ (fun z => by rw [stk_n z, e1, e2]) (fun g z => by rw [stk_s z, e1, e2])
        · skip
          have e1 : stB b (v f) = v f := if_pos (by omega)
          have e2 : stO b (v f) f o = f := if_pos (by omega)
          have hI3 : rfI M (vRow W 228 (pMix n (W 227) (W 228))) n so f f := ⟨⟨fun y hy => by rw [vRow_n (by intro z; subst z; exact hy (by decide))]; exact hI2.1.1 y hy, hI2.1.2.1, hI2.1.2.2.1, hI2.1.2.2.2⟩, hI2.2.1, hI2.2.2.1, fun j hj => by rw [vRow_s, pMix_lt hj, hI2.2.2.1]⟩
          have h91 := fun x4 x5 => l_X7_fs91 (x4 := x4) (x5 := x5) hB hn hcW (fun x6 => l_X7_fs120 (x4 := x4) (x5 := x5) (v := v) hB h1 hn hcM hI3 hf hfin (by omega) hv3 ih (stk v n (k + 1) f b o) (fun z => by rw [stk_n z, e1, e2]) (fun g z => by rw [stk_s z, e1, e2])) 0 (by omega)
          rw [pMix_0, vRow_id] at h91
          refine vV.iload dX7_findSticks_85 rfl ?_
          refine vV.istore_n (L' := [_, _, _, _, _, _, _]) dX7_findSticks_87 (by decide) rfl ?_
          refine vV.iconst dX7_findSticks_88 (by decide) ?_
          refine vV.istore (L' := [_, _, _, _, _, _, _]) dX7_findSticks_89 (by decide) rfl ?_
          exact h91 _ _
theorem c_X7_findSticks {d : List Nat} {T : vT} {M : vM} {n lag : Nat} {rule : Int} {v : (Int → Int) → Int} (hB : vB T) (h1 : 1 ≤ n) (hH : rfH M n lag rule (pSo (M 201) (M 226) n) v) : vCon m_X7_findSticks d d [vR 200, vI rule] T M (vPi fun r T1 M1 => T = T1 ∧ ∃ S, S = stk v n 720 (pMix n (fun j => j) (M 227)) 0 (M 228) ∧ rfE M M1 n S ∧ r = if S.1 ≤ 600 then S.1 else -6) := by
  refine vCon.of (by decide) rfl rfl (Nat.le_of_ble_eq_true rfl) ?_
  have hW := hH.1
  have hc := hW.1
  have hn : n ≤ 6 := hW.2.1.1
  have hid : pEq n (pMix n (fun j => j) (M 227)) (fun j => j) := fun j hj => pMix_lt hj
  refine vV.aload_n dX7_findSticks_0 rfl ?_
  refine vV.cVv dX7_findSticks_1 ml_X7_241 cw_X7_sortPlaces iw_X7_sortPlaces (by first | rfl | assumption) rfl (by unfold vRoom; decide) (c_X7_sortPlaces hB hc hn) rfl rfl (Nat.le_of_ble_eq_true rfl) ?_
  rintro _ _ ⟨rfl, rfl⟩
  refine vV.aload_n dX7_findSticks_4 rfl ?_
  refine vV.cVv dX7_findSticks_5 ml_X7_244 cw_X7_layOrder iw_X7_layOrder (by first | rfl | assumption) rfl (by unfold vRoom; decide) (c_X7_layOrder hB hc hn) rfl rfl (Nat.le_of_ble_eq_true rfl) ?_
  rintro _ _ ⟨rfl, rfl⟩
  refine vV.iconst dX7_findSticks_8 (by decide) ?_
  refine vV.istore_n (L' := [_, _, _, _, _, _, _]) dX7_findSticks_9 (by decide) rfl ?_
  refine vV.iconst dX7_findSticks_10 (by decide) ?_
  refine vV.istore_n (L' := [_, _, _, _, _, _, _]) dX7_findSticks_11 (by decide) rfl ?_
  refine vV.imp (l_X7_fs12 hB h1 hH 720 (pMix n (fun j => j) (M 227)) 0 (M 228) _ _ _ _ ⟨⟨fun y hy => ?_, fun j hj => ?_, ?_, ?_⟩, ?_, ?_, ?_⟩ (pPm_cg (pPm_id n) hid) (nFin_720 h1 hn hid) (by omega) (by omega)) ?_
  · rw [vRow_n (by intro z; subst z; exact hy (by decide)), vRow_n (by intro z; subst z; exact hy (by decide))]
  · rw [vRow_n (by decide), vRow_n (by decide)]
  · rw [vRow_n (by decide), vRow_n (by decide)]; exact hW.2.2.1
  · rw [vRow_n (by decide), vRow_n (by decide)]; exact hW.2.2.2
  · rw [vRow_n (by decide), vRow_s]; exact pEq.rfl
  · rw [vRow_s, vRow_n (by decide)]
  · rw [vRow_n (by decide), vRow_n (by decide)]; exact pEq.rfl
  · rintro r T1 M1 ⟨x, hx1, hx2, hx3, hx4, hx5⟩
    exact ⟨x, hx1, hx2, hx3, _, rfl, hx4, hx5⟩
