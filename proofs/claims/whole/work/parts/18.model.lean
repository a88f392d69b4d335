/-! ===== own: the reference: thingBy, goBy ===== -/
theorem dX7_thingBy_0 : decode cX7_thingBy 0 = .ok (.aload_n 0, 1) := by decide +kernel
theorem dX7_thingBy_1 : decode cX7_thingBy 1 = .ok (.getfield 126, 3) := by decide +kernel
theorem dX7_thingBy_4 : decode cX7_thingBy 4 = .ok (.ifCond .lt 21, 3) := by decide +kernel
theorem dX7_thingBy_7 : decode cX7_thingBy 7 = .ok (.aload_n 0, 1) := by decide +kernel
theorem dX7_thingBy_8 : decode cX7_thingBy 8 = .ok (.getfield 25, 3) := by decide +kernel
theorem dX7_thingBy_11 : decode cX7_thingBy 11 = .ok (.aload_n 0, 1) := by decide +kernel
theorem dX7_thingBy_12 : decode cX7_thingBy 12 = .ok (.getfield 126, 3) := by decide +kernel
theorem dX7_thingBy_15 : decode cX7_thingBy 15 = .ok (.iaload, 1) := by decide +kernel
theorem dX7_thingBy_16 : decode cX7_thingBy 16 = .ok (.ifCond .ne 9, 3) := by decide +kernel
theorem dX7_thingBy_19 : decode cX7_thingBy 19 = .ok (.aload_n 0, 1) := by decide +kernel
theorem dX7_thingBy_20 : decode cX7_thingBy 20 = .ok (.bipush (-6), 2) := by decide +kernel
theorem dX7_thingBy_22 : decode cX7_thingBy 22 = .ok (.putfield 126, 3) := by decide +kernel
theorem dX7_thingBy_25 : decode cX7_thingBy 25 = .ok (.aload_n 0, 1) := by decide +kernel
theorem dX7_thingBy_26 : decode cX7_thingBy 26 = .ok (.getfield 126, 3) := by decide +kernel
theorem dX7_thingBy_29 : decode cX7_thingBy 29 = .ok (.ifCond .ge 73, 3) := by decide +kernel
theorem dX7_thingBy_32 : decode cX7_thingBy 32 = .ok (.aload_n 0, 1) := by decide +kernel
theorem dX7_thingBy_33 : decode cX7_thingBy 33 = .ok (.iconst 0, 1) := by decide +kernel
theorem dX7_thingBy_34 : decode cX7_thingBy 34 = .ok (.putfield 129, 3) := by decide +kernel
theorem dX7_thingBy_37 : decode cX7_thingBy 37 = .ok (.aload_n 0, 1) := by decide +kernel
theorem dX7_thingBy_38 : decode cX7_thingBy 38 = .ok (.iload_n 1, 1) := by decide +kernel
theorem dX7_thingBy_39 : decode cX7_thingBy 39 = .ok (.ifCond .ne 10, 3) := by decide +kernel
theorem dX7_thingBy_42 : decode cX7_thingBy 42 = .ok (.aload_n 0, 1) := by decide +kernel
theorem dX7_thingBy_43 : decode cX7_thingBy 43 = .ok (.invokevirtual 159, 3) := by decide +kernel
theorem dX7_thingBy_46 : decode cX7_thingBy 46 = .ok (.goto 31, 3) := by decide +kernel
theorem dX7_thingBy_49 : decode cX7_thingBy 49 = .ok (.iload_n 1, 1) := by decide +kernel
theorem dX7_thingBy_50 : decode cX7_thingBy 50 = .ok (.iconst 1, 1) := by decide +kernel
theorem dX7_thingBy_51 : decode cX7_thingBy 51 = .ok (.if_icmp .ne 10, 3) := by decide +kernel
theorem dX7_thingBy_54 : decode cX7_thingBy 54 = .ok (.aload_n 0, 1) := by decide +kernel
theorem dX7_thingBy_55 : decode cX7_thingBy 55 = .ok (.invokevirtual 162, 3) := by decide +kernel
theorem dX7_thingBy_58 : decode cX7_thingBy 58 = .ok (.goto 19, 3) := by decide +kernel
theorem dX7_thingBy_61 : decode cX7_thingBy 61 = .ok (.iload_n 1, 1) := by decide +kernel
theorem dX7_thingBy_62 : decode cX7_thingBy 62 = .ok (.iconst 2, 1) := by decide +kernel
theorem dX7_thingBy_63 : decode cX7_thingBy 63 = .ok (.if_icmp .ne 10, 3) := by decide +kernel
theorem dX7_thingBy_66 : decode cX7_thingBy 66 = .ok (.aload_n 0, 1) := by decide +kernel
theorem dX7_thingBy_67 : decode cX7_thingBy 67 = .ok (.invokevirtual 165, 3) := by decide +kernel
theorem dX7_thingBy_70 : decode cX7_thingBy 70 = .ok (.goto 7, 3) := by decide +kernel
theorem dX7_thingBy_73 : decode cX7_thingBy 73 = .ok (.aload_n 0, 1) := by decide +kernel
theorem dX7_thingBy_74 : decode cX7_thingBy 74 = .ok (.invokevirtual 168, 3) := by decide +kernel
theorem dX7_thingBy_77 : decode cX7_thingBy 77 = .ok (.putfield 126, 3) := by decide +kernel
theorem dX7_thingBy_80 : decode cX7_thingBy 80 = .ok (.aload_n 0, 1) := by decide +kernel
theorem dX7_thingBy_81 : decode cX7_thingBy 81 = .ok (.aload_n 0, 1) := by decide +kernel
theorem dX7_thingBy_82 : decode cX7_thingBy 82 = .ok (.getfield 126, 3) := by decide +kernel
theorem dX7_thingBy_85 : decode cX7_thingBy 85 = .ok (.ifCond .lt 10, 3) := by decide +kernel
theorem dX7_thingBy_88 : decode cX7_thingBy 88 = .ok (.aload_n 0, 1) := by decide +kernel
theorem dX7_thingBy_89 : decode cX7_thingBy 89 = .ok (.getfield 126, 3) := by decide +kernel
theorem dX7_thingBy_92 : decode cX7_thingBy 92 = .ok (.goto 7, 3) := by decide +kernel
theorem dX7_thingBy_95 : decode cX7_thingBy 95 = .ok (.aload_n 0, 1) := by decide +kernel
theorem dX7_thingBy_96 : decode cX7_thingBy 96 = .ok (.getfield 132, 3) := by decide +kernel
theorem dX7_thingBy_99 : decode cX7_thingBy 99 = .ok (.putfield 132, 3) := by decide +kernel
theorem dX7_thingBy_102 : decode cX7_thingBy 102 = .ok (.aload_n 0, 1) := by decide +kernel
theorem dX7_thingBy_103 : decode cX7_thingBy 103 = .ok (.getfield 126, 3) := by decide +kernel
theorem dX7_thingBy_106 : decode cX7_thingBy 106 = .ok (.ifCond .ge 5, 3) := by decide +kernel
theorem dX7_thingBy_109 : decode cX7_thingBy 109 = .ok (.iconst 0, 1) := by decide +kernel
theorem dX7_thingBy_110 : decode cX7_thingBy 110 = .ok (.ireturn, 1) := by decide +kernel
theorem dX7_thingBy_111 : decode cX7_thingBy 111 = .ok (.aload_n 0, 1) := by decide +kernel
theorem dX7_thingBy_112 : decode cX7_thingBy 112 = .ok (.getfield 22, 3) := by decide +kernel
theorem dX7_thingBy_115 : decode cX7_thingBy 115 = .ok (.aload_n 0, 1) := by decide +kernel
theorem dX7_thingBy_116 : decode cX7_thingBy 116 = .ok (.getfield 126, 3) := by decide +kernel
theorem dX7_thingBy_119 : decode cX7_thingBy 119 = .ok (.iaload, 1) := by decide +kernel
theorem dX7_thingBy_120 : decode cX7_thingBy 120 = .ok (.aload_n 0, 1) := by decide +kernel
theorem dX7_thingBy_121 : decode cX7_thingBy 121 = .ok (.getfield 123, 3) := by decide +kernel
theorem dX7_thingBy_124 : decode cX7_thingBy 124 = .ok (.if_icmp .ne 7, 3) := by decide +kernel
theorem dX7_thingBy_127 : decode cX7_thingBy 127 = .ok (.iconst 3, 1) := by decide +kernel
theorem dX7_thingBy_128 : decode cX7_thingBy 128 = .ok (.goto 24, 3) := by decide +kernel
theorem dX7_thingBy_131 : decode cX7_thingBy 131 = .ok (.aload_n 0, 1) := by decide +kernel
theorem dX7_thingBy_132 : decode cX7_thingBy 132 = .ok (.getfield 22, 3) := by decide +kernel
theorem dX7_thingBy_135 : decode cX7_thingBy 135 = .ok (.aload_n 0, 1) := by decide +kernel
theorem dX7_thingBy_136 : decode cX7_thingBy 136 = .ok (.getfield 126, 3) := by decide +kernel
theorem dX7_thingBy_139 : decode cX7_thingBy 139 = .ok (.iaload, 1) := by decide +kernel
theorem dX7_thingBy_140 : decode cX7_thingBy 140 = .ok (.aload_n 0, 1) := by decide +kernel
theorem dX7_thingBy_141 : decode cX7_thingBy 141 = .ok (.getfield 123, 3) := by decide +kernel
theorem dX7_thingBy_144 : decode cX7_thingBy 144 = .ok (.if_icmp .ge 7, 3) := by decide +kernel
theorem dX7_thingBy_147 : decode cX7_thingBy 147 = .ok (.iconst 1, 1) := by decide +kernel
theorem dX7_thingBy_148 : decode cX7_thingBy 148 = .ok (.goto 4, 3) := by decide +kernel
theorem dX7_thingBy_151 : decode cX7_thingBy 151 = .ok (.iconst 2, 1) := by decide +kernel
theorem dX7_thingBy_152 : decode cX7_thingBy 152 = .ok (.ireturn, 1) := by decide +kernel
theorem pThing_3 {pl : Int → Int} {man : Int} {p : Nat} (h : pl p = man) : pThing pl man (some p) = 3 := if_pos h
theorem pThing_1 {pl : Int → Int} {man : Int} {p : Nat} (h : pl p ≠ man) (h2 : pl p < man) : pThing pl man (some p) = 1 := (if_neg h).trans (if_pos h2)
theorem pThing_2 {pl : Int → Int} {man : Int} {p : Nat} (h : pl p ≠ man) (h2 : man ≤ pl p) : pThing pl man (some p) = 2 := (if_neg h).trans (if_neg (by omega))
theorem l_X7_tb102 {d : List Nat} {T : vT} {N : vM} {n : Nat} {g : Option Nat} {rule : Int} {P : Int → vT → vM → Prop} (hB : vB T) (hn : n ≤ 6) (hg : N 200 13 = pOr (-6) g) (hgn : ∀ k, g = some k → k < n) (hP : P (pThing (N 211) (N 200 12) g) T N) : vV m_X7_thingBy d d (vPi P) 102 [some (vR 200), some (vI rule)] [] d T N := by
  cases g with
  | none =>
    rw [pOr_n] at hg
    refine vV.aload_n dX7_thingBy_102 rfl ?_
    refine vV.geti (z := 13) dX7_thingBy_103 fl_X7_126 (by first | rfl | assumption) rfl rfl ?_
    refine vV.if_ge (tgt := 111) dX7_thingBy_106 (by decide) (fun h106 => ?_) (fun h106 => ?_)
    · skip
      omega
    · skip
      refine vV.iconst dX7_thingBy_109 (by decide) ?_
      refine vV.ri dX7_thingBy_110 rfl ?_
      exact hP
  | some p =>
    have hp := hgn p rfl
    rw [pOr_s] at hg
    refine vV.aload_n dX7_thingBy_102 rfl ?_
    refine vV.geti (z := 13) dX7_thingBy_103 fl_X7_126 (by first | rfl | assumption) rfl rfl ?_
    refine vV.if_ge (tgt := 111) dX7_thingBy_106 (by decide) (fun h106 => ?_) (fun h106 => ?_)
    · skip
      refine vV.aload_n dX7_thingBy_111 rfl ?_
      refine vV.getr dX7_thingBy_112 fl_X7_22 (by first | rfl | assumption) rfl (by first | assumption | exact hB _ _ _ rfl) ?_
      refine vV.aload_n dX7_thingBy_115 rfl ?_
      refine vV.geti (z := 13) dX7_thingBy_116 fl_X7_126 (by first | rfl | assumption) rfl rfl ?_
      rw [hg]
      refine vV.iald dX7_thingBy_119 (by first | rfl | assumption) (by omega) (by omega) ?_
      refine vV.aload_n dX7_thingBy_120 rfl ?_
      refine vV.geti (z := 12) dX7_thingBy_121 fl_X7_123 (by first | rfl | assumption) rfl rfl ?_
      refine vV.icmp_ne (tgt := 131) dX7_thingBy_124 (by decide) (fun h124 => ?_) (fun h124 => ?_)
      · skip
        refine vV.aload_n dX7_thingBy_131 rfl ?_
        refine vV.getr dX7_thingBy_132 fl_X7_22 (by first | rfl | assumption) rfl (by first | assumption | exact hB _ _ _ rfl) ?_
        refine vV.aload_n dX7_thingBy_135 rfl ?_
        refine vV.geti (z := 13) dX7_thingBy_136 fl_X7_126 (by first | rfl | assumption) rfl rfl ?_
        rw [hg]
        refine vV.iald dX7_thingBy_139 (by first | rfl | assumption) (by omega) (by omega) ?_
        refine vV.aload_n dX7_thingBy_140 rfl ?_
        refine vV.geti (z := 12) dX7_thingBy_141 fl_X7_123 (by first | rfl | assumption) rfl rfl ?_
        refine vV.icmp_ge (tgt := 151) dX7_thingBy_144 (by decide) (fun h144 => ?_) (fun h144 => ?_)
        · skip
          refine vV.iconst dX7_thingBy_151 (by decide) ?_
          refine vV.ri dX7_thingBy_152 rfl ?_
          first | (rw [pThing_3 h124] at hP; exact hP) | (rw [pThing_1 h124 h144] at hP; exact hP) | (rw [pThing_2 h124 h144] at hP; exact hP)
        · skip
          refine vV.iconst dX7_thingBy_147 (by decide) ?_
          refine vV.goto (tgt := 152) dX7_thingBy_148 (by decide) ?_
          refine vV.ri dX7_thingBy_152 rfl ?_
          first | (rw [pThing_3 h124] at hP; exact hP) | (rw [pThing_1 h124 h144] at hP; exact hP) | (rw [pThing_2 h124 h144] at hP; exact hP)
      · skip
        refine vV.iconst dX7_thingBy_127 (by decide) ?_
        refine vV.goto (tgt := 152) dX7_thingBy_128 (by decide) ?_
        refine vV.ri dX7_thingBy_152 rfl ?_
        first | (rw [pThing_3 h124] at hP; exact hP) | (rw [pThing_1 h124 h144] at hP; exact hP) | (rw [pThing_2 h124 h144] at hP; exact hP)
    · skip
      omega
theorem l_X7_tb77 {d : List Nat} {T : vT} {N : vM} {n : Nat} {l tk : Option Nat} {rule : Int} (hB : vB T) (hn : n ≤ 6) (hl : N 200 15 = pOr (-6) l) (htk : ∀ k, tk = some k → k < n) : vV m_X7_thingBy d d (vPi fun r T1 M1 => T = T1 ∧ r = pThing (N 211) (N 200 12) tk ∧ mSame [200] N M1 ∧ mSlot [13, 15] N M1 ∧ M1 200 13 = pOr (-6) tk ∧ M1 200 15 = pOr (-6) (tk.or l)) 77 [some (vR 200), some (vI rule)] [vI (pOr (-6) tk), vR 200] d T N := by
  have e211 : ∀ y z, vUpd (vUpd N 200 13 y) 200 15 z 211 = N 211 := fun y z => by funext j; rw [vUpd_nk (by decide), vUpd_nk (by decide)]
  have e12 : ∀ y z, vUpd (vUpd N 200 13 y) 200 15 z 200 12 = N 200 12 := fun y z => by rw [vUpd_ni (by decide), vUpd_ni (by decide)]
  have e13 : ∀ y z, vUpd (vUpd N 200 13 y) 200 15 z 200 13 = y := fun y z => by rw [vUpd_ni (by decide), vUpd_s]
  have hsm : ∀ y z, mSame [200] N (vUpd (vUpd N 200 13 y) 200 15 z) := fun y z k hk => by simp at hk; funext j; rw [vUpd_nk hk, vUpd_nk hk]
  have hsl : ∀ y z, mSlot [13, 15] N (vUpd (vUpd N 200 13 y) 200 15 z) := fun y z j hj => by simp at hj; rw [vUpd_ni hj.2, vUpd_ni hj.1]
  cases tk with
  | none =>
    rw [pOr_n]
    refine vV.puti (z := 13) dX7_thingBy_77 fl_X7_126 (by first | rfl | assumption) rfl rfl ?_
    refine vV.aload_n dX7_thingBy_80 rfl ?_
    refine vV.aload_n dX7_thingBy_81 rfl ?_
    refine vV.geti (z := 13) dX7_thingBy_82 fl_X7_126 (by first | rfl | assumption) rfl rfl ?_
    try simp (decide := true) only [vUpd_s, vUpd_nk, vUpd_ni, vRow_s, vRow_n, fSet_s, fSet_n, ne_eq, not_false_eq_true]
    refine vV.if_lt (tgt := 95) dX7_thingBy_85 (by decide) (fun h85 => ?_) (fun h85 => ?_)
    · skip
      refine vV.aload_n dX7_thingBy_95 rfl ?_
      refine vV.geti (z := 15) dX7_thingBy_96 fl_X7_132 (by first | rfl | assumption) rfl rfl ?_
      try simp (decide := true) only [vUpd_s, vUpd_nk, vUpd_ni, vRow_s, vRow_n, fSet_s, fSet_n, ne_eq, not_false_eq_true]
      rw [hl]
      refine vV.puti (z := 15) dX7_thingBy_99 fl_X7_132 (by first | rfl | assumption) rfl rfl ?_
      exact l_X7_tb102 (g := none) hB hn (by rw [e13]; rfl) (fun _ h => nomatch h) ⟨rfl, by rw [e211, e12], hsm _ _, hsl _ _, e13 _ _, by rw [vUpd_s]; rfl⟩
    · skip
      omega
  | some p =>
    rw [pOr_s]
    refine vV.puti (z := 13) dX7_thingBy_77 fl_X7_126 (by first | rfl | assumption) rfl rfl ?_
    refine vV.aload_n dX7_thingBy_80 rfl ?_
    refine vV.aload_n dX7_thingBy_81 rfl ?_
    refine vV.geti (z := 13) dX7_thingBy_82 fl_X7_126 (by first | rfl | assumption) rfl rfl ?_
    try simp (decide := true) only [vUpd_s, vUpd_nk, vUpd_ni, vRow_s, vRow_n, fSet_s, fSet_n, ne_eq, not_false_eq_true]
    refine vV.if_lt (tgt := 95) dX7_thingBy_85 (by decide) (fun h85 => ?_) (fun h85 => ?_)
    · skip
      omega
    · skip
      refine vV.aload_n dX7_thingBy_88 rfl ?_
      refine vV.geti (z := 13) dX7_thingBy_89 fl_X7_126 (by first | rfl | assumption) rfl rfl ?_
      try simp (decide := true) only [vUpd_s, vUpd_nk, vUpd_ni, vRow_s, vRow_n, fSet_s, fSet_n, ne_eq, not_false_eq_true]
      refine vV.goto (tgt := 99) dX7_thingBy_92 (by decide) ?_
      refine vV.puti (z := 15) dX7_thingBy_99 fl_X7_132 (by first | rfl | assumption) rfl rfl ?_
      exact l_X7_tb102 (g := some p) hB hn (by rw [e13]; rfl) htk ⟨rfl, by rw [e211, e12], hsm _ _, hsl _ _, e13 _ _, by rw [vUpd_s]; rfl⟩
/-- behind thingBy: the goal is g1, the last one l1 -/
def mTb (M M1 : vM) (w1 : Int) (g1 l1 : Option Nat) : Prop := mSame [200] M M1 ∧ mSlot [13, 14, 15] M M1 ∧ M1 200 13 = pOr (-6) g1 ∧ M1 200 14 = w1 ∧ M1 200 15 = pOr (-6) l1
theorem mS_tb {M M1 : vM} {n t : Nat} {g l g1 l1 : Option Nat} {w1 : Int} (hS : mS M n t g l) (h : mTb M M1 w1 g1 l1) (hw : 0 ≤ w1 ∧ w1 < M 200 7) (hg : ∀ k, g1 = some k → k < n) (hl : ∀ k, l1 = some k → k < n) : mS M1 n t g1 l1 := by
  obtain ⟨s1, s2, s3, s4, s5, s6, s7, s8, s9, s10, s11, s12, s13, s14, s15, s16⟩ := hS
  obtain ⟨t1, t2, t3, t4, t5⟩ := h
  exact ⟨by rw [t2 4 (by decide)]; exact s1, s2, by rw [t1 212 (by decide)]; exact s3, by rw [t1 211 (by decide)]; exact s4, by rw [t1 202 (by decide)]; exact s5, by rw [t1 203 (by decide)]; exact s6, by rw [t1 211 (by decide)]; exact s7, t3, hg, t5, hl, by rw [t4, t2 7 (by decide)]; exact hw, by rw [t2 7 (by decide)]; exact s13, by rw [t2 6 (by decide)]; exact s14, by rw [t2 12 (by decide)]; exact s15, by rw [t2 16 (by decide)]; exact s16⟩
theorem mL_tb {M M1 : vM} {n t : Nat} {hist : Nat → Int → Int} (hL : mL M n t hist) (h : M1 218 = M 218) : mL M1 n t hist := ⟨fun i hi => by rw [h]; exact hL.1 i hi, hL.2⟩
/-- a goal is taken, from N, where he has none -/
theorem l_X7_tb37 {d : List Nat} {T : vT} {N : vM} {n t lag : Nat} {l : Option Nat} {hist : Nat → Int → Int} {rule : Int} (hB : vB T) (hS : mS N n t none l) (hL : mL N n t hist) (ht : t ≤ 600) (hlag : N 200 8 = lag) (hl3 : lag ≤ 3) (hf1 : ∀ j : Nat, j < n → 1 ≤ N 203 j) (hr0 : 0 ≤ rule) (hr3 : rule ≤ 3) :
    vV m_X7_thingBy d d (vPi fun r T1 M1 => T = T1 ∧ r = pThing (N 211) (N 200 12) (pTake rule n (N 211) (N 203) (N 212) (hist (t - lag)) (N 200 12) l) ∧ mSame [200] N M1 ∧ mSlot [13, 15] N M1 ∧ M1 200 13 = pOr (-6) (pTake rule n (N 211) (N 203) (N 212) (hist (t - lag)) (N 200 12) l) ∧ M1 200 15 = pOr (-6) ((pTake rule n (N 211) (N 203) (N 212) (hist (t - lag)) (N 200 12) l).or l)) 37 [some (vR 200), some (vI rule)] [] d T N := by
  have hS2 := hS
  obtain ⟨s1, s2, s3, s4, s5, s6, s7, s8, s9, s10, s11, s12, s13, s14, s15, s16⟩ := hS2
  have h77 := l_X7_tb77 (d := d) (rule := rule) hB s2 s10 (fun k hk => pTake_lt (rule := rule) (n := n) (pl := N 211) (fa := N 203) (tu := N 212) (f := hist (t - lag)) (man := N 200 12) (l := l) hk)
  obtain ⟨tk, htk⟩ : ∃ tk, tk = pTake rule n (N 211) (N 203) (N 212) (hist (t - lag)) (N 200 12) l := ⟨_, rfl⟩
  rw [← htk] at h77 ⊢
  refine vV.aload_n dX7_thingBy_37 rfl ?_
  refine vV.iload_n dX7_thingBy_38 rfl ?_
  refine vV.if_ne (tgt := 49) dX7_thingBy_39 (by decide) (fun h39 => ?_) (fun h39 => ?_)
  · skip
    refine vV.iload_n dX7_thingBy_49 rfl ?_
    refine vV.iconst dX7_thingBy_50 (by decide) ?_
    refine vV.icmp_ne (tgt := 61) dX7_thingBy_51 (by decide) (fun h51 => ?_) (fun h51 => ?_)
    · skip
      refine vV.iload_n dX7_thingBy_61 rfl ?_
      refine vV.iconst dX7_thingBy_62 (by decide) ?_
      refine vV.icmp_ne (tgt := 73) dX7_thingBy_63 (by decide) (fun h63 => ?_) (fun h63 => ?_)
      · skip
        refine vV.aload_n dX7_thingBy_73 rfl ?_
        refine vV.cVi dX7_thingBy_74 ml_X7_168 cw_X7_left iw_X7_left (by first | rfl | assumption) rfl (by unfold vRoom; decide) (c_X7_left hB hS hL ht hlag hl3 hf1) rfl rfl (Nat.le_of_ble_eq_true rfl) ?_
        rintro x74 _ _ hx74 ⟨hxe, rfl, rfl⟩
        rw [show x74 = pOr (-6) tk from by rw [hxe, htk]; unfold pTake; rw [if_neg h39, if_neg h51, if_neg h63]]
        exact h77
      · skip
        refine vV.aload_n dX7_thingBy_66 rfl ?_
        refine vV.cVi dX7_thingBy_67 ml_X7_165 cw_X7_following iw_X7_following (by first | rfl | assumption) rfl (by unfold vRoom; decide) (c_X7_following hB s1 s2 s10 s11) rfl rfl (Nat.le_of_ble_eq_true rfl) ?_
        rintro x67 _ _ hx67 ⟨hxe, rfl, rfl⟩
        rw [show x67 = pOr (-6) tk from by rw [hxe, htk]; unfold pTake; rw [if_neg h39, if_neg h51, if_pos h63]]
        refine vV.goto (tgt := 77) dX7_thingBy_70 (by decide) ?_
        exact h77
    · skip
      refine vV.aload_n dX7_thingBy_54 rfl ?_
      refine vV.cVi dX7_thingBy_55 ml_X7_162 cw_X7_near iw_X7_near (by first | rfl | assumption) rfl (by unfold vRoom; decide) (c_X7_near hB hS hL ht hlag hl3) rfl rfl (Nat.le_of_ble_eq_true rfl) ?_
      rintro x55 _ _ hx55 ⟨hxe, rfl, rfl⟩
      rw [show x55 = pOr (-6) tk from by rw [hxe, htk]; unfold pTake; rw [if_neg h39, if_pos h51]]
      refine vV.goto (tgt := 77) dX7_thingBy_58 (by decide) ?_
      exact h77
  · skip
    refine vV.aload_n dX7_thingBy_42 rfl ?_
    refine vV.cVi dX7_thingBy_43 ml_X7_159 cw_X7_worst iw_X7_worst (by first | rfl | assumption) rfl (by unfold vRoom; decide) (c_X7_worst hB hS hL ht hlag hl3) rfl rfl (Nat.le_of_ble_eq_true rfl) ?_
    rintro x43 _ _ hx43 ⟨hxe, rfl, rfl⟩
    rw [show x43 = pOr (-6) tk from by rw [hxe, htk]; unfold pTake; rw [if_pos h39]; rfl]
    refine vV.goto (tgt := 77) dX7_thingBy_46 (by decide) ?_
    exact h77
/-- thingBy -/
theorem c_X7_thingBy {d : List Nat} {T : vT} {M : vM} {n t lag : Nat} {g l : Option Nat} {hist : Nat → Int → Int} {rule : Int} (hB : vB T) (hS : mS M n t g l) (hL : mL M n t hist) (ht : t ≤ 600) (hlag : M 200 8 = lag) (hl3 : lag ≤ 3) (hf1 : ∀ j : Nat, j < n → 1 ≤ M 203 j) (hr0 : 0 ≤ rule) (hr3 : rule ≤ 3) :
    vCon m_X7_thingBy d d [vR 200, vI rule] T M (vPi fun r T1 M1 => T = T1 ∧ r = pThing (M 211) (M 200 12) (pG1 rule n (M 211) (M 203) (M 212) (hist (t - lag)) (M 200 12) g l) ∧ mTb M M1 (pW1 (M 212) g (M 200 14)) (pG1 rule n (M 211) (M 203) (M 212) (hist (t - lag)) (M 200 12) g l) (pL1 rule n (M 211) (M 203) (M 212) (hist (t - lag)) (M 200 12) g l)) := by
  have hS2 := hS
  obtain ⟨s1, s2, s3, s4, s5, s6, s7, s8, s9, s10, s11, s12, s13, s14, s15, s16⟩ := hS2
  have key : ∀ N : vM, mSame [200] M N → mSlot [13, 14] M N → N 200 13 = -6 → N 200 14 = 0 → pNeed (M 212) g = true → vV m_X7_thingBy d d (vPi fun r T1 M1 => T = T1 ∧ r = pThing (M 211) (M 200 12) (pG1 rule n (M 211) (M 203) (M 212) (hist (t - lag)) (M 200 12) g l) ∧ mTb M M1 (pW1 (M 212) g (M 200 14)) (pG1 rule n (M 211) (M 203) (M 212) (hist (t - lag)) (M 200 12) g l) (pL1 rule n (M 211) (M 203) (M 212) (hist (t - lag)) (M 200 12) g l)) 37 [some (vR 200), some (vI rule)] [] d T N := by
    intro N n1 n2 n3 n4 hnd
    have e1 : N 211 = M 211 := n1 211 (by decide)
    have e2 : N 212 = M 212 := n1 212 (by decide)
    have e3 : N 203 = M 203 := n1 203 (by decide)
    have e4 : N 200 12 = M 200 12 := n2 12 (by decide)
    have hSN : mS N n t none l := mS_tb hS (w1 := 0) ⟨n1, fun j hj => n2 j (by simp at hj ⊢; omega), n3, n4, by rw [n2 15 (by decide)]; exact s10⟩ (by omega) (fun _ h => nomatch h) s11
    have h := l_X7_tb37 (d := d) (T := T) (N := N) hB hSN (mL_tb hL (n1 218 (by decide))) ht (by rw [n2 8 (by decide)]; exact hlag) hl3 (by rw [e3]; exact hf1) hr0 hr3
    refine h.imp ?_
    rintro r T1 M1 ⟨y, rfl, hy, rfl, rfl, b2, b3, b4, b5⟩
    rw [e1, e2, e3, e4] at b4 b5
    refine ⟨_, rfl, hy, rfl, ?_, ?_, ?_, ?_, ?_, ?_⟩
    · unfold pG1; rw [hnd, e1, e2, e3, e4]; rfl
    · intro k hk; rw [b2 k hk, n1 k hk]
    · intro j hj; simp at hj; rw [b3 j (by simp; omega), n2 j (by simp; omega)]
    · unfold pG1; rw [hnd]; exact b4
    · unfold pW1; rw [hnd, b3 14 (by decide)]; exact n4
    · unfold pL1; rw [hnd]; exact b5
  refine vCon.of (by decide) rfl rfl (Nat.le_of_ble_eq_true rfl) ?_
  cases g with
  | none =>
    rw [pOr_n] at s8
    refine vV.aload_n dX7_thingBy_0 rfl ?_
    refine vV.geti (z := 13) dX7_thingBy_1 fl_X7_126 (by first | rfl | assumption) rfl rfl ?_
    refine vV.if_lt (tgt := 25) dX7_thingBy_4 (by decide) (fun h4 => ?_) (fun h4 => ?_)
    · skip
      refine vV.aload_n dX7_thingBy_25 rfl ?_
      refine vV.geti (z := 13) dX7_thingBy_26 fl_X7_126 (by first | rfl | assumption) rfl rfl ?_
      refine vV.if_ge (tgt := 102) dX7_thingBy_29 (by decide) (fun h29 => ?_) (fun h29 => ?_)
      · skip
        omega
      · skip
        refine vV.aload_n dX7_thingBy_32 rfl ?_
        refine vV.iconst dX7_thingBy_33 (by decide) ?_
        refine vV.puti (z := 14) dX7_thingBy_34 fl_X7_129 (by first | rfl | assumption) rfl rfl ?_
        exact key _ (fun k hk => by simp at hk; funext j; rw [vUpd_nk hk]) (fun j hj => by simp at hj; rw [vUpd_ni hj.2]) (by rw [vUpd_ni (by decide)]; exact s8) (by rw [vUpd_s]) rfl
    · skip
      omega
  | some p =>
    have hp := s9 p rfl
    have b1 := s3 p
    rw [pOr_s] at s8
    refine vV.aload_n dX7_thingBy_0 rfl ?_
    refine vV.geti (z := 13) dX7_thingBy_1 fl_X7_126 (by first | rfl | assumption) rfl rfl ?_
    refine vV.if_lt (tgt := 25) dX7_thingBy_4 (by decide) (fun h4 => ?_) (fun h4 => ?_)
    · skip
      omega
    · skip
      refine vV.aload_n dX7_thingBy_7 rfl ?_
      refine vV.getr dX7_thingBy_8 fl_X7_25 (by first | rfl | assumption) rfl (by first | assumption | exact hB _ _ _ rfl) ?_
      refine vV.aload_n dX7_thingBy_11 rfl ?_
      refine vV.geti (z := 13) dX7_thingBy_12 fl_X7_126 (by first | rfl | assumption) rfl rfl ?_
      rw [s8]
      refine vV.iald dX7_thingBy_15 (by first | rfl | assumption) (by omega) (by omega) ?_
      refine vV.if_ne (tgt := 25) dX7_thingBy_16 (by decide) (fun h16 => ?_) (fun h16 => ?_)
      · skip
        have hnd : pNeed (M 212) (some p) = false := by simp [pNeed, h16]
        refine vV.aload_n dX7_thingBy_25 rfl ?_
        refine vV.geti (z := 13) dX7_thingBy_26 fl_X7_126 (by first | rfl | assumption) rfl rfl ?_
        refine vV.if_ge (tgt := 102) dX7_thingBy_29 (by decide) (fun h29 => ?_) (fun h29 => ?_)
        · skip
          exact l_X7_tb102 (g := some p) hB s2 s8 s9 ⟨rfl, by unfold pG1; rw [hnd]; rfl, fun k hk => rfl, fun j hj => rfl, by unfold pG1; rw [hnd]; exact s8, by unfold pW1; rw [hnd]; rfl, by unfold pL1; rw [hnd]; exact s10⟩
        · skip
          omega
        skip
      · skip
        have hnd : pNeed (M 212) (some p) = true := by simp [pNeed, h16]
        refine vV.aload_n dX7_thingBy_19 rfl ?_
        refine vV.bipush (v := (-6)) dX7_thingBy_20 (by decide) (by decide) ?_
        refine vV.puti (z := 13) dX7_thingBy_22 fl_X7_126 (by first | rfl | assumption) rfl rfl ?_
        refine vV.aload_n dX7_thingBy_25 rfl ?_
        refine vV.geti (z := 13) dX7_thingBy_26 fl_X7_126 (by first | rfl | assumption) rfl rfl ?_
        try simp (decide := true) only [vUpd_s]
        refine vV.if_ge (tgt := 102) dX7_thingBy_29 (by decide) (fun h29 => ?_) (fun h29 => ?_)
        · skip
          omega
        · skip
          refine vV.aload_n dX7_thingBy_32 rfl ?_
          refine vV.iconst dX7_thingBy_33 (by decide) ?_
          refine vV.puti (z := 14) dX7_thingBy_34 fl_X7_129 (by first | rfl | assumption) rfl rfl ?_
          exact key _ (fun k hk => by simp at hk; funext j; rw [vUpd_nk hk, vUpd_nk hk]) (fun j hj => by simp at hj; rw [vUpd_ni hj.2, vUpd_ni hj.1]) (by rw [vUpd_ni (by decide), vUpd_s]) (by rw [vUpd_s]) hnd
