/-! ===== own: the reference: fault ===== -/
theorem rHas_last {f : Int → Int} {l : List Int} {v : Int} (h : rHas f l) (hv : l.getLast? = some v) : f ((l.length : Int) - 1) = v := by
  have h0 : 0 < l.length := by
    cases l with
    | nil => simp at hv
    | cons a t => simp
  rw [List.getLast?_eq_getElem?] at hv
  have := h (l.length - 1) v hv
  rw [show ((l.length : Int) - 1) = ((l.length - 1 : Nat) : Int) by omega]; exact this
/-- the things are laid as l -/
def fS (M N : vM) (l : List Int) : Prop := mSame [200, 222] M N ∧ mSlot [22] M N ∧ N 200 22 = (l.length : Nat) ∧ rHas (N 222) l
theorem fS_app {M N : vM} {l : List Int} {v : Int} (h : fS M N l) : fS M (vUpd (vUpd N 222 (l.length : Nat) v) 200 22 ((l.length : Nat) + 1)) (l ++ [v]) := by
  obtain ⟨h1, h2, h3, h4⟩ := h
  refine ⟨fun k hk => ?_, fun j hj => ?_, ?_, ?_⟩
  · rw [← h1 k hk]; simp at hk; funext j; rw [vUpd_nk hk.1, vUpd_nk hk.2]
  · rw [← h2 j hj]; simp at hj; rw [vUpd_ni hj, vUpd_nk (by decide)]
  · rw [vUpd_s]; simp
  · rw [vUpd_row (by decide), vUpd_r, vRow_s]; exact rHas_app h4
theorem pTh_6 {c : Int} (h : 0 ≤ (if pTh c < 0 then -6 else pTh c)) : 0 ≤ pTh c := by split at h <;> omega
theorem pTh_7 {c : Int} (h : (if pTh c < 0 then -6 else pTh c) < 0) : pTh c < 0 := by split at h <;> omega
theorem pTh_8 {c : Int} (h : 0 ≤ pTh c) : (if pTh c < 0 then -6 else pTh c) = pTh c := if_neg (by omega)
theorem pL_lastB {sg : Int → Int} {i : Nat} (h : pBh sg i = true) : ∃ v, (pL sg i).getLast? = some v := by
  obtain ⟨k, hk, ht⟩ := pBh_t h
  subst hk
  exact ⟨pTh (sg k), by rw [pL_t ht]; simp⟩
theorem last_rep {l : List Int} {v : Int} (h : l.getLast? = some v) : ∀ j, (l ++ List.replicate j v).getLast? = some v
  | 0 => by simpa using h
  | j + 1 => by rw [rep_s]; simp
theorem dX7_fault_0 : decode cX7_fault 0 = .ok (.aload_n 0, 1) := by decide +kernel
theorem dX7_fault_1 : decode cX7_fault 1 = .ok (.iconst 0, 1) := by decide +kernel
theorem dX7_fault_2 : decode cX7_fault 2 = .ok (.putfield 196, 3) := by decide +kernel
theorem dX7_fault_5 : decode cX7_fault 5 = .ok (.iconst 0, 1) := by decide +kernel
theorem dX7_fault_6 : decode cX7_fault 6 = .ok (.istore_n 1, 1) := by decide +kernel
theorem dX7_fault_7 : decode cX7_fault 7 = .ok (.iconst 0, 1) := by decide +kernel
theorem dX7_fault_8 : decode cX7_fault 8 = .ok (.istore_n 2, 1) := by decide +kernel
theorem dX7_fault_9 : decode cX7_fault 9 = .ok (.iload_n 2, 1) := by decide +kernel
theorem dX7_fault_10 : decode cX7_fault 10 = .ok (.aload_n 0, 1) := by decide +kernel
theorem dX7_fault_11 : decode cX7_fault 11 = .ok (.getfield 193, 3) := by decide +kernel
theorem dX7_fault_14 : decode cX7_fault 14 = .ok (.if_icmp .ge 124, 3) := by decide +kernel
theorem dX7_fault_17 : decode cX7_fault 17 = .ok (.aload_n 0, 1) := by decide +kernel
theorem dX7_fault_18 : decode cX7_fault 18 = .ok (.getfield 34, 3) := by decide +kernel
theorem dX7_fault_21 : decode cX7_fault 21 = .ok (.iload_n 2, 1) := by decide +kernel
theorem dX7_fault_22 : decode cX7_fault 22 = .ok (.iaload, 1) := by decide +kernel
theorem dX7_fault_23 : decode cX7_fault 23 = .ok (.istore_n 3, 1) := by decide +kernel
theorem dX7_fault_24 : decode cX7_fault 24 = .ok (.iload_n 3, 1) := by decide +kernel
theorem dX7_fault_25 : decode cX7_fault 25 = .ok (.invokestatic 199, 3) := by decide +kernel
theorem dX7_fault_28 : decode cX7_fault 28 = .ok (.ifCond .lt 31, 3) := by decide +kernel
theorem dX7_fault_31 : decode cX7_fault 31 = .ok (.iconst 1, 1) := by decide +kernel
theorem dX7_fault_32 : decode cX7_fault 32 = .ok (.istore_n 1, 1) := by decide +kernel
theorem dX7_fault_33 : decode cX7_fault 33 = .ok (.aload_n 0, 1) := by decide +kernel
theorem dX7_fault_34 : decode cX7_fault 34 = .ok (.getfield 37, 3) := by decide +kernel
theorem dX7_fault_37 : decode cX7_fault 37 = .ok (.aload_n 0, 1) := by decide +kernel
theorem dX7_fault_38 : decode cX7_fault 38 = .ok (.getfield 196, 3) := by decide +kernel
theorem dX7_fault_41 : decode cX7_fault 41 = .ok (.iload_n 3, 1) := by decide +kernel
theorem dX7_fault_42 : decode cX7_fault 42 = .ok (.invokestatic 199, 3) := by decide +kernel
theorem dX7_fault_45 : decode cX7_fault 45 = .ok (.iastore, 1) := by decide +kernel
theorem dX7_fault_46 : decode cX7_fault 46 = .ok (.aload_n 0, 1) := by decide +kernel
theorem dX7_fault_47 : decode cX7_fault 47 = .ok (.dup, 1) := by decide +kernel
theorem dX7_fault_48 : decode cX7_fault 48 = .ok (.getfield 196, 3) := by decide +kernel
theorem dX7_fault_51 : decode cX7_fault 51 = .ok (.iconst 1, 1) := by decide +kernel
theorem dX7_fault_52 : decode cX7_fault 52 = .ok (.iadd, 1) := by decide +kernel
theorem dX7_fault_53 : decode cX7_fault 53 = .ok (.putfield 196, 3) := by decide +kernel
theorem dX7_fault_56 : decode cX7_fault 56 = .ok (.goto 76, 3) := by decide +kernel
theorem dX7_fault_59 : decode cX7_fault 59 = .ok (.iload_n 1, 1) := by decide +kernel
theorem dX7_fault_60 : decode cX7_fault 60 = .ok (.ifCond .eq 70, 3) := by decide +kernel
theorem dX7_fault_63 : decode cX7_fault 63 = .ok (.iload_n 3, 1) := by decide +kernel
theorem dX7_fault_64 : decode cX7_fault 64 = .ok (.i2l, 1) := by decide +kernel
theorem dX7_fault_65 : decode cX7_fault 65 = .ok (.ldc2_w 202, 3) := by decide +kernel
theorem dX7_fault_68 : decode cX7_fault 68 = .ok (.ldc2_w 204, 3) := by decide +kernel
theorem dX7_fault_71 : decode cX7_fault 71 = .ok (.invokestatic 92, 3) := by decide +kernel
theorem dX7_fault_74 : decode cX7_fault 74 = .ok (.ifCond .eq 56, 3) := by decide +kernel
theorem dX7_fault_77 : decode cX7_fault 77 = .ok (.iconst 0, 1) := by decide +kernel
theorem dX7_fault_78 : decode cX7_fault 78 = .ok (.istore_n 1, 1) := by decide +kernel
theorem dX7_fault_79 : decode cX7_fault 79 = .ok (.iconst 1, 1) := by decide +kernel
theorem dX7_fault_80 : decode cX7_fault 80 = .ok (.istore 4, 2) := by decide +kernel
theorem dX7_fault_82 : decode cX7_fault 82 = .ok (.iload 4, 2) := by decide +kernel
theorem dX7_fault_84 : decode cX7_fault 84 = .ok (.iload_n 3, 1) := by decide +kernel
theorem dX7_fault_85 : decode cX7_fault 85 = .ok (.bipush 48, 2) := by decide +kernel
theorem dX7_fault_87 : decode cX7_fault 87 = .ok (.isub, 1) := by decide +kernel
theorem dX7_fault_88 : decode cX7_fault 88 = .ok (.if_icmp .ge 39, 3) := by decide +kernel
theorem dX7_fault_91 : decode cX7_fault 91 = .ok (.aload_n 0, 1) := by decide +kernel
theorem dX7_fault_92 : decode cX7_fault 92 = .ok (.getfield 37, 3) := by decide +kernel
theorem dX7_fault_95 : decode cX7_fault 95 = .ok (.aload_n 0, 1) := by decide +kernel
theorem dX7_fault_96 : decode cX7_fault 96 = .ok (.getfield 196, 3) := by decide +kernel
theorem dX7_fault_99 : decode cX7_fault 99 = .ok (.aload_n 0, 1) := by decide +kernel
theorem dX7_fault_100 : decode cX7_fault 100 = .ok (.getfield 37, 3) := by decide +kernel
theorem dX7_fault_103 : decode cX7_fault 103 = .ok (.aload_n 0, 1) := by decide +kernel
theorem dX7_fault_104 : decode cX7_fault 104 = .ok (.getfield 196, 3) := by decide +kernel
theorem dX7_fault_107 : decode cX7_fault 107 = .ok (.iconst 1, 1) := by decide +kernel
theorem dX7_fault_108 : decode cX7_fault 108 = .ok (.isub, 1) := by decide +kernel
theorem dX7_fault_109 : decode cX7_fault 109 = .ok (.iaload, 1) := by decide +kernel
theorem dX7_fault_110 : decode cX7_fault 110 = .ok (.iastore, 1) := by decide +kernel
theorem dX7_fault_111 : decode cX7_fault 111 = .ok (.aload_n 0, 1) := by decide +kernel
theorem dX7_fault_112 : decode cX7_fault 112 = .ok (.dup, 1) := by decide +kernel
theorem dX7_fault_113 : decode cX7_fault 113 = .ok (.getfield 196, 3) := by decide +kernel
theorem dX7_fault_116 : decode cX7_fault 116 = .ok (.iconst 1, 1) := by decide +kernel
theorem dX7_fault_117 : decode cX7_fault 117 = .ok (.iadd, 1) := by decide +kernel
theorem dX7_fault_118 : decode cX7_fault 118 = .ok (.putfield 196, 3) := by decide +kernel
theorem dX7_fault_121 : decode cX7_fault 121 = .ok (.iinc 4 1, 3) := by decide +kernel
theorem dX7_fault_124 : decode cX7_fault 124 = .ok (.goto (-42), 3) := by decide +kernel
theorem dX7_fault_127 : decode cX7_fault 127 = .ok (.goto 5, 3) := by decide +kernel
theorem dX7_fault_130 : decode cX7_fault 130 = .ok (.iload_n 2, 1) := by decide +kernel
theorem dX7_fault_131 : decode cX7_fault 131 = .ok (.ireturn, 1) := by decide +kernel
theorem dX7_fault_132 : decode cX7_fault 132 = .ok (.iinc 2 1, 3) := by decide +kernel
theorem dX7_fault_135 : decode cX7_fault 135 = .ok (.goto (-126), 3) := by decide +kernel
theorem dX7_fault_138 : decode cX7_fault 138 = .ok (.bipush (-6), 2) := by decide +kernel
theorem dX7_fault_140 : decode cX7_fault 140 = .ok (.ireturn, 1) := by decide +kernel
theorem l_X7_fault82 {d : List Nat} {T : vT} {M : vM} {l : List Int} {c v bh i : Int} {Q : Int → vT → vM → Prop} (hB : vB T) (hc : 50 ≤ c ∧ c ≤ 57) (hv : l.getLast? = some v) (hl : l.length ≤ 300)
    (hend : ∀ N, fS M N (l ++ List.replicate (c - 49).toNat v) → ∀ x4, vV m_X7_fault d d (vPi Q) 127 [some (vR 200), some (vI bh), some (vI i), some (vI c), x4] [] d T N) : ∀ j, j ≤ (c - 49).toNat → ∀ N, fS M N (l ++ List.replicate j v) →
    vV m_X7_fault d d (vPi Q) 82 [some (vR 200), some (vI bh), some (vI i), some (vI c), some (vI ((j : Int) + 1))] [] d T N := by
  refine vUp ?_
  intro j hj ih N hS
  have h22 : N 200 22 = ((l ++ List.replicate j v).length : Nat) := hS.2.2.1
  have hla := rHas_last hS.2.2.2 (last_rep hv j)
  have hap := fS_app (v := v) hS
  rw [← rep_s] at hap
  have hln : (l ++ List.replicate j v).length = l.length + j := by simp
  have hpos : 0 < l.length := by
    cases l with
    | nil => simp at hv
    | cons a t => simp
  rw [hln] at h22 hla hap
  have e1 : (N 200 22) - 1 = ((l.length + j : Nat) : Int) - 1 := by rw [h22]
  refine vV.iload dX7_fault_82 rfl ?_
  refine vV.iload_n dX7_fault_84 rfl ?_
  refine vV.bipush (v := 48) dX7_fault_85 (by decide) (by decide) ?_
  refine vV.isub dX7_fault_87 (⟨by omega, by omega⟩) ?_
  refine vV.icmp_ge (tgt := 127) dX7_fault_88 (by decide) (fun h88 => ?_) (fun h88 => ?_)
  · skip
    have hjj : j = (c - 49).toNat := by omega
    subst hjj
    exact hend N hS _
  · skip
    refine vV.aload_n dX7_fault_91 rfl ?_
    refine vV.getr dX7_fault_92 fl_X7_37 (by first | rfl | assumption) rfl (by first | assumption | exact hB _ _ _ rfl) ?_
    try simp (decide := true) only [vUpd_s, vUpd_nk, vUpd_ni, vRow_s, vRow_n, fSet_s, fSet_n, ne_eq, not_false_eq_true]
    refine vV.aload_n dX7_fault_95 rfl ?_
    refine vV.geti (z := 22) dX7_fault_96 fl_X7_196 (by first | rfl | assumption) rfl rfl ?_
    try simp (decide := true) only [vUpd_s, vUpd_nk, vUpd_ni, vRow_s, vRow_n, fSet_s, fSet_n, ne_eq, not_false_eq_true]
    refine vV.aload_n dX7_fault_99 rfl ?_
    refine vV.getr dX7_fault_100 fl_X7_37 (by first | rfl | assumption) rfl (by first | assumption | exact hB _ _ _ rfl) ?_
    try simp (decide := true) only [vUpd_s, vUpd_nk, vUpd_ni, vRow_s, vRow_n, fSet_s, fSet_n, ne_eq, not_false_eq_true]
    refine vV.aload_n dX7_fault_103 rfl ?_
    refine vV.geti (z := 22) dX7_fault_104 fl_X7_196 (by first | rfl | assumption) rfl rfl ?_
    try simp (decide := true) only [vUpd_s, vUpd_nk, vUpd_ni, vRow_s, vRow_n, fSet_s, fSet_n, ne_eq, not_false_eq_true]
    refine vV.iconst dX7_fault_107 (by decide) ?_
    refine vV.isub dX7_fault_108 (⟨by omega, by omega⟩) ?_
    rw [h22]
    refine vV.iald dX7_fault_109 (by first | rfl | assumption) (by omega) (by omega) ?_
    try simp (decide := true) only [vUpd_s, vUpd_nk, vUpd_ni, vRow_s, vRow_n, fSet_s, fSet_n, ne_eq, not_false_eq_true]
    rw [hla]
    refine vV.iast dX7_fault_110 (by first | rfl | assumption) (by omega) (by omega) ?_
    refine vV.aload_n dX7_fault_111 rfl ?_
    refine vV.dup dX7_fault_112 rfl ?_
    refine vV.geti (z := 22) dX7_fault_113 fl_X7_196 (by first | rfl | assumption) rfl rfl ?_
    try simp (decide := true) only [vUpd_s, vUpd_nk, vUpd_ni, vRow_s, vRow_n, fSet_s, fSet_n, ne_eq, not_false_eq_true]
    refine vV.iconst dX7_fault_116 (by decide) ?_
    rw [h22]
    refine vV.iadd dX7_fault_117 (⟨by omega, by omega⟩) ?_
    refine vV.puti (z := 22) dX7_fault_118 fl_X7_196 (by first | rfl | assumption) rfl rfl ?_
    refine vV.iinc (L' := [_, _, _, _, _]) dX7_fault_121 (by decide) rfl (⟨by omega, by omega⟩) rfl ?_
    refine vV.goto (tgt := 82) dX7_fault_124 (by decide) ?_
    exact ih (by omega) _ hap
theorem l_X7_fault {d : List Nat} {T : vT} {M : vM} {m : Nat} (hB : vB T) (hm : M 200 20 = m) (hle : m ≤ 40) : ∀ i, i ≤ m → ∀ N x3 x4, fS M N (pL (M 220) i) → (∀ j : Nat, j < i → pBad (M 220) j = false) →
    vV m_X7_fault d d (vPi fun r T1 M1 => T = T1 ∧ r = pOr (-6) (pFind (pBad (M 220)) m) ∧ mSame [200, 222] M M1 ∧ mSlot [22] M M1 ∧ (pFind (pBad (M 220)) m = none → fS M M1 (pL (M 220) m))) 9 [some (vR 200), some (vI (bI (pBh (M 220) i))), some (vI i), x3, x4] [] d T N := by
  refine vUp ?_
  intro i hi ih N x3 x4 hS hno
  have h20 : N 200 20 = m := by rw [hS.2.1 20 (by decide)]; exact hm
  have h22 : N 200 22 = ((pL (M 220) i).length : Nat) := hS.2.2.1
  have e220 : N 220 = M 220 := hS.1 220 (by decide)
  have hlen := pL_len (m := i) (fun j hj => hno j hj) i (Nat.le_refl i)
  have hap := fS_app (v := pTh (M 220 i)) hS
  obtain ⟨R, hR⟩ : ∃ R, R = pFind (pBad (M 220)) m := ⟨_, rfl⟩
  have hR0 : i = m → R = none := fun h => by rw [hR]; exact pFind_no (fun j hj => hno j (by omega))
  have hR1 : i < m → pBad (M 220) i = true → R = some i := fun h h2 => by rw [hR]; exact pFind_yes h h2 hno
  rw [← hR] at ih ⊢
  clear hR
  have nxt : pBad (M 220) i = false → ∀ j : Nat, j < i + 1 → pBad (M 220) j = false := fun h j hj => (Nat.lt_succ_iff_lt_or_eq.mp hj).elim (hno j) (fun e => by subst e; exact h)
  refine vV.iload_n dX7_fault_9 rfl ?_
  refine vV.aload_n dX7_fault_10 rfl ?_
  refine vV.geti (z := 20) dX7_fault_11 fl_X7_193 (by first | rfl | assumption) rfl rfl ?_
  try simp (decide := true) only [vUpd_s, vUpd_nk, vUpd_ni, vRow_s, vRow_n, fSet_s, fSet_n, ne_eq, not_false_eq_true]
  refine vV.icmp_ge (tgt := 138) dX7_fault_14 (by decide) (fun h14 => ?_) (fun h14 => ?_)
  · skip
    have him : i = m := by omega
    subst him
    have hRn := hR0 rfl
    refine vV.bipush (v := (-6)) dX7_fault_138 (by decide) (by decide) ?_
    refine vV.ri dX7_fault_140 rfl ?_
    exact ⟨rfl, by rw [hRn]; rfl, hS.1, hS.2.1, fun _ => hS⟩
  · skip
    refine vV.aload_n dX7_fault_17 rfl ?_
    refine vV.getr dX7_fault_18 fl_X7_34 (by first | rfl | assumption) rfl (by first | assumption | exact hB _ _ _ rfl) ?_
    try simp (decide := true) only [vUpd_s, vUpd_nk, vUpd_ni, vRow_s, vRow_n, fSet_s, fSet_n, ne_eq, not_false_eq_true]
    refine vV.iload_n dX7_fault_21 rfl ?_
    refine vV.iald dX7_fault_22 (by first | rfl | assumption) (by omega) (by omega) ?_
    try simp (decide := true) only [vUpd_s, vUpd_nk, vUpd_ni, vRow_s, vRow_n, fSet_s, fSet_n, ne_eq, not_false_eq_true]
    rw [e220]
    refine vV.istore_n (L' := [_, _, _, _, _]) dX7_fault_23 (by decide) rfl ?_
    refine vV.iload_n dX7_fault_24 rfl ?_
    refine vV.cSi dX7_fault_25 ml_X7_199 cw_X7_thingOf sw_X7_thingOf (by unfold vRoom; decide) c_X7_thingOf rfl rfl (Nat.le_of_ble_eq_true rfl) ?_
    rintro x25 _ _ hx25 ⟨hy25, rfl, rfl⟩
    subst hy25
    refine vV.if_lt (tgt := 59) dX7_fault_28 (by decide) (fun h28 => ?_) (fun h28 => ?_)
    · skip
      have hth := pTh_7 h28
      refine vV.iload_n dX7_fault_59 rfl ?_
      refine vV.if_eq (tgt := 130) dX7_fault_60 (by decide) (fun h60 => ?_) (fun h60 => ?_)
      · skip
        have hbh := bI_eq h60
        have hRs := hR1 (by omega) (by unfold pBad; rw [hbh]; simp; exact hth)
        refine vV.iload_n dX7_fault_130 rfl ?_
        refine vV.ri dX7_fault_131 rfl ?_
        exact ⟨rfl, by rw [hRs]; rfl, hS.1, hS.2.1, fun z => by rw [hRs] at z; cases z⟩
      · skip
        have hbh := bI_ne h60
        refine vV.iload_n dX7_fault_63 rfl ?_
        refine vV.i2l dX7_fault_64 ?_
        refine vV.ldc2 (v := 50) dX7_fault_65 kl_X7_202 (by decide) (by decide) ?_
        refine vV.ldc2 (v := 57) dX7_fault_68 kl_X7_204 (by decide) (by decide) ?_
        refine vV.cSi dX7_fault_71 ml_X7_92 cw_X7_in sw_X7_in (by unfold vRoom; decide) c_X7_in rfl rfl (Nat.le_of_ble_eq_true rfl) ?_
        rintro x71 _ _ hx71 ⟨hy71, rfl, rfl⟩
        unfold pIn at hy71
        refine vV.if_eq (tgt := 130) dX7_fault_74 (by decide) (fun h74 => ?_) (fun h74 => ?_)
        · skip
          have hng := no01 hy71 h74
          have hRs := hR1 (by omega) (by unfold pBad; rw [hbh]; simp [pDg]; exact ⟨hth, by omega⟩)
          refine vV.iload_n dX7_fault_130 rfl ?_
          refine vV.ri dX7_fault_131 rfl ?_
          exact ⟨rfl, by rw [hRs]; rfl, hS.1, hS.2.1, fun z => by rw [hRs] at z; cases z⟩
        · skip
          have hg := yes01 hy71 h74
          refine vV.iconst dX7_fault_77 (by decide) ?_
          refine vV.istore_n (L' := [_, _, _, _, _]) dX7_fault_78 (by decide) rfl ?_
          refine vV.iconst dX7_fault_79 (by decide) ?_
          refine vV.istore (L' := [_, _, _, _, _]) dX7_fault_80 (by decide) rfl ?_
          obtain ⟨v, hv⟩ := pL_lastB hbh
          have hnb : pBad (M 220) i = false := by unfold pBad; rw [hbh]; simp [pDg]; intro _; omega
          have hbf : bI (decide (0 ≤ pTh (M 220 i))) = 0 := by rw [decide_eq_false (by omega)]; rfl
          rw [pL_d hth, hv, pBh_s, hbf] at ih
          refine l_X7_fault82 hB hg hv (by omega) ?_ 0 (by omega) N (by simpa using hS)
          intro N1 hS1 y4
          refine vV.goto (tgt := 132) dX7_fault_127 (by decide) ?_
          refine vV.iinc (L' := [_, _, _, _, _]) dX7_fault_132 (by decide) rfl (⟨by omega, by omega⟩) rfl ?_
          refine vV.goto (tgt := 9) dX7_fault_135 (by decide) ?_
          exact ih (by omega) _ _ _ hS1 (nxt hnb)
    · skip
      have hth := pTh_6 h28
      rw [pL_t hth, pBh_s, show bI (decide (0 ≤ pTh (M 220 i))) = 1 from by rw [decide_eq_true hth]; rfl] at ih
      have hnb : pBad (M 220) i = false := by { unfold pBad; simp; intro z; omega }
      refine vV.iconst dX7_fault_31 (by decide) ?_
      refine vV.istore_n (L' := [_, _, _, _, _]) dX7_fault_32 (by decide) rfl ?_
      refine vV.aload_n dX7_fault_33 rfl ?_
      refine vV.getr dX7_fault_34 fl_X7_37 (by first | rfl | assumption) rfl (by first | assumption | exact hB _ _ _ rfl) ?_
      try simp (decide := true) only [vUpd_s, vUpd_nk, vUpd_ni, vRow_s, vRow_n, fSet_s, fSet_n, ne_eq, not_false_eq_true]
      refine vV.aload_n dX7_fault_37 rfl ?_
      refine vV.geti (z := 22) dX7_fault_38 fl_X7_196 (by first | rfl | assumption) rfl rfl ?_
      try simp (decide := true) only [vUpd_s, vUpd_nk, vUpd_ni, vRow_s, vRow_n, fSet_s, fSet_n, ne_eq, not_false_eq_true]
      refine vV.iload_n dX7_fault_41 rfl ?_
      refine vV.cSi dX7_fault_42 ml_X7_199 cw_X7_thingOf sw_X7_thingOf (by unfold vRoom; decide) c_X7_thingOf rfl rfl (Nat.le_of_ble_eq_true rfl) ?_
      rintro x42 _ _ hx42 ⟨hy42, rfl, rfl⟩
      rw [pTh_8 hth] at hy42
      subst hy42
      rw [h22]
      refine vV.iast dX7_fault_45 (by first | rfl | assumption) (by omega) (by omega) ?_
      refine vV.aload_n dX7_fault_46 rfl ?_
      refine vV.dup dX7_fault_47 rfl ?_
      refine vV.geti (z := 22) dX7_fault_48 fl_X7_196 (by first | rfl | assumption) rfl rfl ?_
      try simp (decide := true) only [vUpd_s, vUpd_nk, vUpd_ni, vRow_s, vRow_n, fSet_s, fSet_n, ne_eq, not_false_eq_true]
      refine vV.iconst dX7_fault_51 (by decide) ?_
      rw [h22]
      refine vV.iadd dX7_fault_52 (⟨by omega, by omega⟩) ?_
      refine vV.puti (z := 22) dX7_fault_53 fl_X7_196 (by first | rfl | assumption) rfl rfl ?_
      refine vV.goto (tgt := 132) dX7_fault_56 (by decide) ?_
      refine vV.iinc (L' := [_, _, _, _, _]) dX7_fault_132 (by decide) rfl (⟨by omega, by omega⟩) rfl ?_
      refine vV.goto (tgt := 9) dX7_fault_135 (by decide) ?_
      exact ih (by omega) _ _ _ hap (nxt hnb)
theorem c_X7_fault {d : List Nat} {T : vT} {M : vM} {m : Nat} (hB : vB T) (hm : M 200 20 = m) (hle : m ≤ 40) : vCon m_X7_fault d d [vR 200] T M (vPi fun r T1 M1 => T = T1 ∧ r = pOr (-6) (pFind (pBad (M 220)) m) ∧ mSame [200, 222] M M1 ∧ mSlot [22] M M1 ∧ (pFind (pBad (M 220)) m = none → fS M M1 (pL (M 220) m))) := by
  refine vCon.of (by decide) rfl rfl (Nat.le_of_ble_eq_true rfl) ?_
  have h := fun x3 x4 => l_X7_fault (d := d) (T := T) hB hm hle 0 (by omega) (vUpd M 200 22 0) x3 x4 ⟨fun k hk => by simp at hk; funext j; rw [vUpd_nk hk.1], fun j hj => by simp at hj; rw [vUpd_ni hj], by rw [vUpd_s]; rfl, rHas_nil _⟩ (fun j hj => by omega)
  refine vV.aload_n dX7_fault_0 rfl ?_
  refine vV.iconst dX7_fault_1 (by decide) ?_
  refine vV.puti (z := 22) dX7_fault_2 fl_X7_196 (by first | rfl | assumption) rfl rfl ?_
  refine vV.iconst dX7_fault_5 (by decide) ?_
  refine vV.istore_n (L' := [_, _, _, _, _]) dX7_fault_6 (by decide) rfl ?_
  refine vV.iconst dX7_fault_7 (by decide) ?_
  refine vV.istore_n (L' := [_, _, _, _, _]) dX7_fault_8 (by decide) rfl ?_
  exact h _ _
