/-! ===== own: the reference: setUpOf, layTold, setUp, bestOrder ===== -/
theorem dX7_setUpOf_0 : decode cX7_setUpOf 0 = .ok (.iconst 0, 1) := by decide +kernel
theorem dX7_setUpOf_1 : decode cX7_setUpOf 1 = .ok (.istore_n 1, 1) := by decide +kernel
theorem dX7_setUpOf_2 : decode cX7_setUpOf 2 = .ok (.aload_n 0, 1) := by decide +kernel
theorem dX7_setUpOf_3 : decode cX7_setUpOf 3 = .ok (.getfield 117, 3) := by decide +kernel
theorem dX7_setUpOf_6 : decode cX7_setUpOf 6 = .ok (.istore_n 2, 1) := by decide +kernel
theorem dX7_setUpOf_7 : decode cX7_setUpOf 7 = .ok (.iconst 0, 1) := by decide +kernel
theorem dX7_setUpOf_8 : decode cX7_setUpOf 8 = .ok (.istore_n 3, 1) := by decide +kernel
theorem dX7_setUpOf_9 : decode cX7_setUpOf 9 = .ok (.iload_n 3, 1) := by decide +kernel
theorem dX7_setUpOf_10 : decode cX7_setUpOf 10 = .ok (.aload_n 0, 1) := by decide +kernel
theorem dX7_setUpOf_11 : decode cX7_setUpOf 11 = .ok (.getfield 89, 3) := by decide +kernel
theorem dX7_setUpOf_14 : decode cX7_setUpOf 14 = .ok (.if_icmp .ge 52, 3) := by decide +kernel
theorem dX7_setUpOf_17 : decode cX7_setUpOf 17 = .ok (.aload_n 0, 1) := by decide +kernel
theorem dX7_setUpOf_18 : decode cX7_setUpOf 18 = .ok (.getfield 43, 3) := by decide +kernel
theorem dX7_setUpOf_21 : decode cX7_setUpOf 21 = .ok (.iload_n 3, 1) := by decide +kernel
theorem dX7_setUpOf_22 : decode cX7_setUpOf 22 = .ok (.iaload, 1) := by decide +kernel
theorem dX7_setUpOf_23 : decode cX7_setUpOf 23 = .ok (.istore 4, 2) := by decide +kernel
theorem dX7_setUpOf_25 : decode cX7_setUpOf 25 = .ok (.iload_n 1, 1) := by decide +kernel
theorem dX7_setUpOf_26 : decode cX7_setUpOf 26 = .ok (.aload_n 0, 1) := by decide +kernel
theorem dX7_setUpOf_27 : decode cX7_setUpOf 27 = .ok (.getfield 7, 3) := by decide +kernel
theorem dX7_setUpOf_30 : decode cX7_setUpOf 30 = .ok (.iload 4, 2) := by decide +kernel
theorem dX7_setUpOf_32 : decode cX7_setUpOf 32 = .ok (.iaload, 1) := by decide +kernel
theorem dX7_setUpOf_33 : decode cX7_setUpOf 33 = .ok (.iload_n 2, 1) := by decide +kernel
theorem dX7_setUpOf_34 : decode cX7_setUpOf 34 = .ok (.invokestatic 149, 3) := by decide +kernel
theorem dX7_setUpOf_37 : decode cX7_setUpOf 37 = .ok (.aload_n 0, 1) := by decide +kernel
theorem dX7_setUpOf_38 : decode cX7_setUpOf 38 = .ok (.getfield 86, 3) := by decide +kernel
theorem dX7_setUpOf_41 : decode cX7_setUpOf 41 = .ok (.iadd, 1) := by decide +kernel
theorem dX7_setUpOf_42 : decode cX7_setUpOf 42 = .ok (.iadd, 1) := by decide +kernel
theorem dX7_setUpOf_43 : decode cX7_setUpOf 43 = .ok (.istore_n 1, 1) := by decide +kernel
theorem dX7_setUpOf_44 : decode cX7_setUpOf 44 = .ok (.aload_n 0, 1) := by decide +kernel
theorem dX7_setUpOf_45 : decode cX7_setUpOf 45 = .ok (.getfield 7, 3) := by decide +kernel
theorem dX7_setUpOf_48 : decode cX7_setUpOf 48 = .ok (.iload 4, 2) := by decide +kernel
theorem dX7_setUpOf_50 : decode cX7_setUpOf 50 = .ok (.iaload, 1) := by decide +kernel
theorem dX7_setUpOf_51 : decode cX7_setUpOf 51 = .ok (.istore_n 2, 1) := by decide +kernel
theorem dX7_setUpOf_52 : decode cX7_setUpOf 52 = .ok (.aload_n 0, 1) := by decide +kernel
theorem dX7_setUpOf_53 : decode cX7_setUpOf 53 = .ok (.getfield 70, 3) := by decide +kernel
theorem dX7_setUpOf_56 : decode cX7_setUpOf 56 = .ok (.iload 4, 2) := by decide +kernel
theorem dX7_setUpOf_58 : decode cX7_setUpOf 58 = .ok (.iload_n 1, 1) := by decide +kernel
theorem dX7_setUpOf_59 : decode cX7_setUpOf 59 = .ok (.iastore, 1) := by decide +kernel
theorem dX7_setUpOf_60 : decode cX7_setUpOf 60 = .ok (.iinc 3 1, 3) := by decide +kernel
theorem dX7_setUpOf_63 : decode cX7_setUpOf 63 = .ok (.goto (-54), 3) := by decide +kernel
theorem dX7_setUpOf_66 : decode cX7_setUpOf 66 = .ok (.bipush 15, 2) := by decide +kernel
theorem dX7_setUpOf_68 : decode cX7_setUpOf 68 = .ok (.istore_n 3, 1) := by decide +kernel
theorem dX7_setUpOf_69 : decode cX7_setUpOf 69 = .ok (.iconst 0, 1) := by decide +kernel
theorem dX7_setUpOf_70 : decode cX7_setUpOf 70 = .ok (.istore 4, 2) := by decide +kernel
theorem dX7_setUpOf_72 : decode cX7_setUpOf 72 = .ok (.iload 4, 2) := by decide +kernel
theorem dX7_setUpOf_74 : decode cX7_setUpOf 74 = .ok (.aload_n 0, 1) := by decide +kernel
theorem dX7_setUpOf_75 : decode cX7_setUpOf 75 = .ok (.getfield 89, 3) := by decide +kernel
theorem dX7_setUpOf_78 : decode cX7_setUpOf 78 = .ok (.if_icmp .ge 49, 3) := by decide +kernel
theorem dX7_setUpOf_81 : decode cX7_setUpOf 81 = .ok (.aload_n 0, 1) := by decide +kernel
theorem dX7_setUpOf_82 : decode cX7_setUpOf 82 = .ok (.getfield 13, 3) := by decide +kernel
theorem dX7_setUpOf_85 : decode cX7_setUpOf 85 = .ok (.iload 4, 2) := by decide +kernel
theorem dX7_setUpOf_87 : decode cX7_setUpOf 87 = .ok (.iaload, 1) := by decide +kernel
theorem dX7_setUpOf_88 : decode cX7_setUpOf 88 = .ok (.aload_n 0, 1) := by decide +kernel
theorem dX7_setUpOf_89 : decode cX7_setUpOf 89 = .ok (.getfield 16, 3) := by decide +kernel
theorem dX7_setUpOf_92 : decode cX7_setUpOf 92 = .ok (.iload 4, 2) := by decide +kernel
theorem dX7_setUpOf_94 : decode cX7_setUpOf 94 = .ok (.iaload, 1) := by decide +kernel
theorem dX7_setUpOf_95 : decode cX7_setUpOf 95 = .ok (.iload_n 1, 1) := by decide +kernel
theorem dX7_setUpOf_96 : decode cX7_setUpOf 96 = .ok (.aload_n 0, 1) := by decide +kernel
theorem dX7_setUpOf_97 : decode cX7_setUpOf 97 = .ok (.getfield 70, 3) := by decide +kernel
theorem dX7_setUpOf_100 : decode cX7_setUpOf 100 = .ok (.iload 4, 2) := by decide +kernel
theorem dX7_setUpOf_102 : decode cX7_setUpOf 102 = .ok (.iaload, 1) := by decide +kernel
theorem dX7_setUpOf_103 : decode cX7_setUpOf 103 = .ok (.isub, 1) := by decide +kernel
theorem dX7_setUpOf_104 : decode cX7_setUpOf 104 = .ok (.imul, 1) := by decide +kernel
theorem dX7_setUpOf_105 : decode cX7_setUpOf 105 = .ok (.isub, 1) := by decide +kernel
theorem dX7_setUpOf_106 : decode cX7_setUpOf 106 = .ok (.istore 5, 2) := by decide +kernel
theorem dX7_setUpOf_108 : decode cX7_setUpOf 108 = .ok (.iload 5, 2) := by decide +kernel
theorem dX7_setUpOf_110 : decode cX7_setUpOf 110 = .ok (.iload_n 3, 1) := by decide +kernel
theorem dX7_setUpOf_111 : decode cX7_setUpOf 111 = .ok (.if_icmp .ge 8, 3) := by decide +kernel
theorem dX7_setUpOf_114 : decode cX7_setUpOf 114 = .ok (.iload 5, 2) := by decide +kernel
theorem dX7_setUpOf_116 : decode cX7_setUpOf 116 = .ok (.goto 4, 3) := by decide +kernel
theorem dX7_setUpOf_119 : decode cX7_setUpOf 119 = .ok (.iload_n 3, 1) := by decide +kernel
theorem dX7_setUpOf_120 : decode cX7_setUpOf 120 = .ok (.istore_n 3, 1) := by decide +kernel
theorem dX7_setUpOf_121 : decode cX7_setUpOf 121 = .ok (.iinc 4 1, 3) := by decide +kernel
theorem dX7_setUpOf_124 : decode cX7_setUpOf 124 = .ok (.goto (-52), 3) := by decide +kernel
theorem dX7_setUpOf_127 : decode cX7_setUpOf 127 = .ok (.iload_n 3, 1) := by decide +kernel
theorem dX7_setUpOf_128 : decode cX7_setUpOf 128 = .ok (.ifCond .ge 7, 3) := by decide +kernel
theorem dX7_setUpOf_131 : decode cX7_setUpOf 131 = .ok (.iconst 0, 1) := by decide +kernel
theorem dX7_setUpOf_132 : decode cX7_setUpOf 132 = .ok (.goto 4, 3) := by decide +kernel
theorem dX7_setUpOf_135 : decode cX7_setUpOf 135 = .ok (.iload_n 3, 1) := by decide +kernel
theorem dX7_setUpOf_136 : decode cX7_setUpOf 136 = .ok (.ireturn, 1) := by decide +kernel
theorem l_X7_su72 {d : List Nat} {T : vT} {N : vM} {n : Nat} {wh Tn : Int} {w : Nat → Int} (hB : vB T) (hc : N 200 4 = n) (hn : n ≤ 6) (hT : 0 ≤ Tn ∧ Tn ≤ 78) (hup : ∀ j : Nat, j < n → 0 ≤ N 236 j ∧ N 236 j ≤ Tn) (hfu : ∀ j, 0 ≤ N 202 j ∧ N 202 j ≤ 15) (hfa : ∀ j, 0 ≤ N 203 j ∧ N 203 j ≤ 3) (hw : ∀ j : Nat, w j = N 202 j - N 203 j * (Tn - N 236 j)) : ∀ k, k ≤ n → ∀ x5,
    vV m_X7_setUpOf d d (vPi fun r T1 M1 => T = T1 ∧ N = M1 ∧ r = max 0 (suL w n)) 72 [some (vR 200), some (vI Tn), some (vI wh), some (vI (suL w k)), some (vI k), x5] [] d T N := by
  refine vUp ?_
  intro k hk ih x5
  have h15 := suL_15 w k
  have hs : suL w (k + 1) = min (suL w k) (w k) := rfl
  refine vV.iload dX7_setUpOf_72 rfl ?_
  refine vV.aload_n dX7_setUpOf_74 rfl ?_
  refine vV.geti (z := 4) dX7_setUpOf_75 fl_X7_89 (by first | rfl | assumption) rfl rfl ?_
  rw [hc]
  refine vV.icmp_ge (tgt := 127) dX7_setUpOf_78 (by decide) (fun h78 => ?_) (fun h78 => ?_)
  · skip
    refine vV.iload_n dX7_setUpOf_127 rfl ?_
    refine vV.if_ge (tgt := 135) dX7_setUpOf_128 (by decide) (fun h128 => ?_) (fun h128 => ?_)
    · skip
      refine vV.iload_n dX7_setUpOf_135 rfl ?_
      refine vV.ri dX7_setUpOf_136 rfl ?_
      first | exact ⟨rfl, rfl, by rw [show n = k by omega]; omega⟩
    · skip
      refine vV.iconst dX7_setUpOf_131 (by decide) ?_
      refine vV.goto (tgt := 136) dX7_setUpOf_132 (by decide) ?_
      refine vV.ri dX7_setUpOf_136 rfl ?_
      first | exact ⟨rfl, rfl, by rw [show n = k by omega]; omega⟩
  · skip
    have hk2 := hup k (by omega)
    have hfk2 := hfu k
    have hfk3 := mul_rg (b := 78) (hfa k) (x := Tn - N 236 k) (by omega)
    refine vV.aload_n dX7_setUpOf_81 rfl ?_
    refine vV.getr dX7_setUpOf_82 fl_X7_13 (by first | rfl | assumption) rfl (by first | assumption | exact hB _ _ _ rfl) ?_
    refine vV.iload dX7_setUpOf_85 rfl ?_
    refine vV.iald dX7_setUpOf_87 (by first | rfl | assumption) (by omega) (by omega) ?_
    refine vV.aload_n dX7_setUpOf_88 rfl ?_
    refine vV.getr dX7_setUpOf_89 fl_X7_16 (by first | rfl | assumption) rfl (by first | assumption | exact hB _ _ _ rfl) ?_
    refine vV.iload dX7_setUpOf_92 rfl ?_
    refine vV.iald dX7_setUpOf_94 (by first | rfl | assumption) (by omega) (by omega) ?_
    refine vV.iload_n dX7_setUpOf_95 rfl ?_
    refine vV.aload_n dX7_setUpOf_96 rfl ?_
    refine vV.getr dX7_setUpOf_97 fl_X7_70 (by first | rfl | assumption) rfl (by first | assumption | exact hB _ _ _ rfl) ?_
    refine vV.iload dX7_setUpOf_100 rfl ?_
    refine vV.iald dX7_setUpOf_102 (by first | rfl | assumption) (by omega) (by omega) ?_
    refine vV.isub dX7_setUpOf_103 (⟨by omega, by omega⟩) ?_
    refine vV.imul dX7_setUpOf_104 (⟨by omega, by omega⟩) ?_
    refine vV.isub dX7_setUpOf_105 (⟨by omega, by omega⟩) ?_
    rw [← hw k]
    refine vV.istore (L' := [_, _, _, _, _, _]) dX7_setUpOf_106 (by decide) rfl ?_
    refine vV.iload dX7_setUpOf_108 rfl ?_
    refine vV.iload_n dX7_setUpOf_110 rfl ?_
    refine vV.icmp_ge (tgt := 119) dX7_setUpOf_111 (by decide) (fun h111 => ?_) (fun h111 => ?_)
    · skip
      rw [show suL w k = suL w (k + 1) by omega]
      refine vV.iload_n dX7_setUpOf_119 rfl ?_
      refine vV.istore_n (L' := [_, _, _, _, _, _]) dX7_setUpOf_120 (by decide) rfl ?_
      refine vV.iinc (L' := [_, _, _, _, _, _]) dX7_setUpOf_121 (by decide) rfl (⟨by omega, by omega⟩) rfl ?_
      refine vV.goto (tgt := 72) dX7_setUpOf_124 (by decide) ?_
      exact ih (by omega) _
    · skip
      rw [show w k = suL w (k + 1) by omega]
      refine vV.iload dX7_setUpOf_114 rfl ?_
      refine vV.goto (tgt := 120) dX7_setUpOf_116 (by decide) ?_
      refine vV.istore_n (L' := [_, _, _, _, _, _]) dX7_setUpOf_120 (by decide) rfl ?_
      refine vV.iinc (L' := [_, _, _, _, _, _]) dX7_setUpOf_121 (by decide) rfl (⟨by omega, by omega⟩) rfl ?_
      refine vV.goto (tgt := 72) dX7_setUpOf_124 (by decide) ?_
      exact ih (by omega) _
theorem l_X7_su9 {d : List Nat} {T : vT} {M : vM} {n : Nat} {f : Int → Int} {man sets : Int} (hB : vB T) (hW : mW M n) (hf : pPm n f) (h227 : M 227 = f) (hman : M 200 5 = man) (hsets : M 200 9 = sets) : ∀ k, k ≤ n → ∀ x4 x5,
    vV m_X7_setUpOf d d (vPi fun r T1 M1 => T = T1 ∧ mSame [236] M M1 ∧ r = suR (M 201) (M 202) (M 203) man sets n f) 9 [some (vR 200), some (vI (suT (M 201) man sets f k)), some (vI (suM (M 201) man f k)), some (vI k), x4, x5] [] d T (vRow M 236 (pPut f (suG (M 201) man sets f) (M 236) k)) := by
  obtain ⟨hc, ⟨hn, p2, p3, h7, hfu, hfa, ptu, pm, pg, pp, plg, pst, -⟩, -, -⟩ := hW
  have hm : 0 ≤ man ∧ man ≤ 7 := by rw [← hman]; exact pm
  have hs : 1 ≤ sets ∧ sets ≤ 6 := by rw [← hsets]; exact pst
  refine vUp ?_
  intro k hk ih x4 x5
  have r : ∀ y, y ≠ 236 → vRow M 236 (pPut f (suG (M 201) man sets f) (M 236) k) y = M y := fun y hy => vRow_n hy
  have hTk := suT_rg (f := f) h7 hm hs k
  have hMk := suM_rg (f := f) h7 hm k
  have hTk1 := suT_rg (f := f) h7 hm hs (k + 1)
  have e : fSet (pPut f (suG (M 201) man sets f) (M 236) k) (f k) (suT (M 201) man sets f (k + 1)) = pPut f (suG (M 201) man sets f) (M 236) (k + 1) := rfl
  refine vV.iload_n dX7_setUpOf_9 rfl ?_
  refine vV.aload_n dX7_setUpOf_10 rfl ?_
  refine vV.geti (z := 4) dX7_setUpOf_11 fl_X7_89 (by first | rfl | assumption) rfl rfl ?_
  rw [r 200 (by decide), hc]
  refine vV.icmp_ge (tgt := 66) dX7_setUpOf_14 (by decide) (fun h14 => ?_) (fun h14 => ?_)
  · skip
    refine vV.bipush (v := 15) dX7_setUpOf_66 (by decide) (by decide) ?_
    refine vV.istore_n (L' := [_, _, _, _, _, _]) dX7_setUpOf_68 (by decide) rfl ?_
    refine vV.iconst dX7_setUpOf_69 (by decide) ?_
    refine vV.istore (L' := [_, _, _, _, _, _]) dX7_setUpOf_70 (by decide) rfl ?_
    have hkn : k = n := by omega
    subst hkn
    have hmo : ∀ j : Nat, j < k → suT (M 201) man sets f (j + 1) ≤ suT (M 201) man sets f k := fun j hj => suT_mono (f := f) h7 hm hs (by omega)
    have hup : ∀ j : Nat, j < k → ∃ i : Nat, i < k ∧ f i = j ∧ pPut f (suG (M 201) man sets f) (M 236) k j = suT (M 201) man sets f (i + 1) := fun j hj => by
      obtain ⟨i, i1, i2⟩ := hf.2.2 j hj
      exact ⟨i, i1, i2, by rw [← i2, pPut_at hf (Nat.le_refl k) i1]; rfl⟩
    have h := fun x5 => l_X7_su72 (d := d) (T := T) (N := vRow M 236 (pPut f (suG (M 201) man sets f) (M 236) k)) (n := k) (wh := suM (M 201) man f k) (Tn := suT (M 201) man sets f k) (w := fun j => M 202 j - M 203 j * (suT (M 201) man sets f k - pPut f (suG (M 201) man sets f) (M 236) k j)) hB (by rw [r 200 (by decide)]; exact hc) hn (by omega) (fun j hj => by
      obtain ⟨i, i1, i2, i3⟩ := hup j hj
      rw [vRow_s, i3]
      have := suT_rg (f := f) h7 hm hs (i + 1)
      have := hmo i i1
      omega) (by rw [r 202 (by decide)]; exact hfu) (by rw [r 203 (by decide)]; exact hfa) (fun j => by rw [r 202 (by decide), r 203 (by decide), vRow_s]) 0 (by omega) x5
    refine vV.imp (h _) ?_
    rintro y T1 M1 ⟨z, z1, z2, z3, z4, z5⟩
    refine ⟨z, z1, z2, z3, ?_, ?_⟩
    · rw [← z4]; exact fun y hy => vRow_n (by simpa using hy)
    · rw [z5]
      unfold suR
      congr 1
      refine (suL_eq (fun i hi => ?_) (fun j hj => ?_)).symm
      · obtain ⟨q, hq⟩ : ∃ q : Nat, f i = q := ⟨(f i).toNat, by have := hf.1 i hi; omega⟩
        refine ⟨q, by have := hf.1 i hi; omega, ?_⟩
        unfold suV
        rw [← hq, pPut_at hf (Nat.le_refl k) hi]; rfl
      · obtain ⟨i, i1, i2, i3⟩ := hup j hj
        refine ⟨i, i1, ?_⟩
        unfold suV
        rw [i2, i3]
  · skip
    have hfk := hf.1 k (by omega)
    have hpk := h7 (f k)
    have hab := pAbs_rg hpk hMk
    refine vV.aload_n dX7_setUpOf_17 rfl ?_
    refine vV.getr dX7_setUpOf_18 fl_X7_43 (by first | rfl | assumption) rfl (by first | assumption | exact hB _ _ _ rfl) ?_
    refine vV.iload_n dX7_setUpOf_21 rfl ?_
    refine vV.iald dX7_setUpOf_22 (by first | rfl | assumption) (by omega) (by omega) ?_
    rw [r 227 (by decide), h227]
    refine vV.istore (L' := [_, _, _, _, _, _]) dX7_setUpOf_23 (by decide) rfl ?_
    refine vV.iload_n dX7_setUpOf_25 rfl ?_
    refine vV.aload_n dX7_setUpOf_26 rfl ?_
    refine vV.getr dX7_setUpOf_27 fl_X7_7 (by first | rfl | assumption) rfl (by first | assumption | exact hB _ _ _ rfl) ?_
    refine vV.iload dX7_setUpOf_30 rfl ?_
    refine vV.iald dX7_setUpOf_32 (by first | rfl | assumption) (by omega) (by omega) ?_
    rw [r 201 (by decide)]
    refine vV.iload_n dX7_setUpOf_33 rfl ?_
    refine vV.cSi dX7_setUpOf_34 ml_X7_149 cw_X7_apart sw_X7_apart (by unfold vRoom; decide) (c_X7_apart (by omega) (by omega)) rfl rfl (Nat.le_of_ble_eq_true rfl) ?_
    rintro x34 _ _ hx34 ⟨rfl, rfl, rfl⟩
    refine vV.aload_n dX7_setUpOf_37 rfl ?_
    refine vV.geti (z := 9) dX7_setUpOf_38 fl_X7_86 (by first | rfl | assumption) rfl rfl ?_
    rw [r 200 (by decide), hsets]
    refine vV.iadd dX7_setUpOf_41 (⟨by omega, by omega⟩) ?_
    refine vV.iadd dX7_setUpOf_42 (⟨by omega, by omega⟩) ?_
    refine vV.istore_n (L' := [_, _, _, _, _, _]) dX7_setUpOf_43 (by decide) rfl ?_
    refine vV.aload_n dX7_setUpOf_44 rfl ?_
    refine vV.getr dX7_setUpOf_45 fl_X7_7 (by first | rfl | assumption) rfl (by first | assumption | exact hB _ _ _ rfl) ?_
    refine vV.iload dX7_setUpOf_48 rfl ?_
    refine vV.iald dX7_setUpOf_50 (by first | rfl | assumption) (by omega) (by omega) ?_
    rw [r 201 (by decide)]
    refine vV.istore_n (L' := [_, _, _, _, _, _]) dX7_setUpOf_51 (by decide) rfl ?_
    refine vV.aload_n dX7_setUpOf_52 rfl ?_
    refine vV.getr dX7_setUpOf_53 fl_X7_70 (by first | rfl | assumption) rfl (by first | assumption | exact hB _ _ _ rfl) ?_
    refine vV.iload dX7_setUpOf_56 rfl ?_
    refine vV.iload_n dX7_setUpOf_58 rfl ?_
    refine vV.iast dX7_setUpOf_59 (by first | rfl | assumption) (by omega) (by omega) ?_
    rw [vUpd_vRow, show suT (M 201) man sets f k + (pAbs (M 201 (f k)) (suM (M 201) man f k) + sets) = suT (M 201) man sets f (k + 1) from rfl, e]
    refine vV.iinc (L' := [_, _, _, _, _, _]) dX7_setUpOf_60 (by decide) rfl (⟨by omega, by omega⟩) rfl ?_
    refine vV.goto (tgt := 9) dX7_setUpOf_63 (by decide) ?_
    exact ih (by omega) _ _
theorem c_X7_setUpOf {d : List Nat} {T : vT} {M : vM} {n : Nat} {f : Int → Int} (hB : vB T) (hW : mW M n) (hf : pPm n f) (h227 : M 227 = f) : vCon m_X7_setUpOf d d [vR 200] T M (vPi fun r T1 M1 => T = T1 ∧ mSame [236] M M1 ∧ r = suR (M 201) (M 202) (M 203) (M 200 5) (M 200 9) n f) := by
  refine vCon.of (by decide) rfl rfl (Nat.le_of_ble_eq_true rfl) ?_
  have h := fun x4 x5 => l_X7_su9 (d := d) (T := T) hB hW hf h227 rfl rfl 0 (by omega) x4 x5
  rw [show pPut f (suG (M 201) (M 200 5) (M 200 9) f) (M 236) 0 = M 236 from rfl, vRow_id] at h
  refine vV.iconst dX7_setUpOf_0 (by decide) ?_
  refine vV.istore_n (L' := [_, _, _, _, _, _]) dX7_setUpOf_1 (by decide) rfl ?_
  refine vV.aload_n dX7_setUpOf_2 rfl ?_
  refine vV.geti (z := 5) dX7_setUpOf_3 fl_X7_117 (by first | rfl | assumption) rfl rfl ?_
  refine vV.istore_n (L' := [_, _, _, _, _, _]) dX7_setUpOf_6 (by decide) rfl ?_
  refine vV.iconst dX7_setUpOf_7 (by decide) ?_
  refine vV.istore_n (L' := [_, _, _, _, _, _]) dX7_setUpOf_8 (by decide) rfl ?_
  exact h _ _
theorem dX7_layTold_0 : decode cX7_layTold 0 = .ok (.iload_n 1, 1) := by decide +kernel
theorem dX7_layTold_1 : decode cX7_layTold 1 = .ok (.istore_n 2, 1) := by decide +kernel
theorem dX7_layTold_2 : decode cX7_layTold 2 = .ok (.iconst 0, 1) := by decide +kernel
theorem dX7_layTold_3 : decode cX7_layTold 3 = .ok (.istore_n 3, 1) := by decide +kernel
theorem dX7_layTold_4 : decode cX7_layTold 4 = .ok (.aload_n 0, 1) := by decide +kernel
theorem dX7_layTold_5 : decode cX7_layTold 5 = .ok (.getfield 89, 3) := by decide +kernel
theorem dX7_layTold_8 : decode cX7_layTold 8 = .ok (.iconst 1, 1) := by decide +kernel
theorem dX7_layTold_9 : decode cX7_layTold 9 = .ok (.isub, 1) := by decide +kernel
theorem dX7_layTold_10 : decode cX7_layTold 10 = .ok (.istore 4, 2) := by decide +kernel
theorem dX7_layTold_12 : decode cX7_layTold 12 = .ok (.iload 4, 2) := by decide +kernel
theorem dX7_layTold_14 : decode cX7_layTold 14 = .ok (.ifCond .lt 34, 3) := by decide +kernel
theorem dX7_layTold_17 : decode cX7_layTold 17 = .ok (.aload_n 0, 1) := by decide +kernel
theorem dX7_layTold_18 : decode cX7_layTold 18 = .ok (.getfield 43, 3) := by decide +kernel
theorem dX7_layTold_21 : decode cX7_layTold 21 = .ok (.iload 4, 2) := by decide +kernel
theorem dX7_layTold_23 : decode cX7_layTold 23 = .ok (.iload_n 2, 1) := by decide +kernel
theorem dX7_layTold_24 : decode cX7_layTold 24 = .ok (.bipush 10, 2) := by decide +kernel
theorem dX7_layTold_26 : decode cX7_layTold 26 = .ok (.irem, 1) := by decide +kernel
theorem dX7_layTold_27 : decode cX7_layTold 27 = .ok (.iastore, 1) := by decide +kernel
theorem dX7_layTold_28 : decode cX7_layTold 28 = .ok (.iload_n 3, 1) := by decide +kernel
theorem dX7_layTold_29 : decode cX7_layTold 29 = .ok (.iconst 1, 1) := by decide +kernel
theorem dX7_layTold_30 : decode cX7_layTold 30 = .ok (.iload_n 2, 1) := by decide +kernel
theorem dX7_layTold_31 : decode cX7_layTold 31 = .ok (.bipush 10, 2) := by decide +kernel
theorem dX7_layTold_33 : decode cX7_layTold 33 = .ok (.irem, 1) := by decide +kernel
theorem dX7_layTold_34 : decode cX7_layTold 34 = .ok (.ishl, 1) := by decide +kernel
theorem dX7_layTold_35 : decode cX7_layTold 35 = .ok (.ior, 1) := by decide +kernel
theorem dX7_layTold_36 : decode cX7_layTold 36 = .ok (.istore_n 3, 1) := by decide +kernel
theorem dX7_layTold_37 : decode cX7_layTold 37 = .ok (.iload_n 2, 1) := by decide +kernel
theorem dX7_layTold_38 : decode cX7_layTold 38 = .ok (.bipush 10, 2) := by decide +kernel
theorem dX7_layTold_40 : decode cX7_layTold 40 = .ok (.idiv, 1) := by decide +kernel
theorem dX7_layTold_41 : decode cX7_layTold 41 = .ok (.istore_n 2, 1) := by decide +kernel
theorem dX7_layTold_42 : decode cX7_layTold 42 = .ok (.iinc 4 (-1), 3) := by decide +kernel
theorem dX7_layTold_45 : decode cX7_layTold 45 = .ok (.goto (-33), 3) := by decide +kernel
theorem dX7_layTold_48 : decode cX7_layTold 48 = .ok (.iload_n 2, 1) := by decide +kernel
theorem dX7_layTold_49 : decode cX7_layTold 49 = .ok (.ifCond .ne 19, 3) := by decide +kernel
theorem dX7_layTold_52 : decode cX7_layTold 52 = .ok (.iload_n 3, 1) := by decide +kernel
theorem dX7_layTold_53 : decode cX7_layTold 53 = .ok (.iconst 1, 1) := by decide +kernel
theorem dX7_layTold_54 : decode cX7_layTold 54 = .ok (.aload_n 0, 1) := by decide +kernel
theorem dX7_layTold_55 : decode cX7_layTold 55 = .ok (.getfield 89, 3) := by decide +kernel
theorem dX7_layTold_58 : decode cX7_layTold 58 = .ok (.ishl, 1) := by decide +kernel
theorem dX7_layTold_59 : decode cX7_layTold 59 = .ok (.iconst 1, 1) := by decide +kernel
theorem dX7_layTold_60 : decode cX7_layTold 60 = .ok (.isub, 1) := by decide +kernel
theorem dX7_layTold_61 : decode cX7_layTold 61 = .ok (.if_icmp .ne 7, 3) := by decide +kernel
theorem dX7_layTold_64 : decode cX7_layTold 64 = .ok (.iconst 1, 1) := by decide +kernel
theorem dX7_layTold_65 : decode cX7_layTold 65 = .ok (.goto 4, 3) := by decide +kernel
theorem dX7_layTold_68 : decode cX7_layTold 68 = .ok (.iconst 0, 1) := by decide +kernel
theorem dX7_layTold_69 : decode cX7_layTold 69 = .ok (.ireturn, 1) := by decide +kernel
theorem vShl1 {n : Nat} (hn : n ≤ 20) : vShl 1 n = ((2 ^ n : Nat) : Int) := by
  have h2 : 2 ^ n ≤ 2 ^ 20 := Nat.pow_le_pow_right (by decide) hn
  rw [show (1 : Int) = ((1 : Nat) : Int) from rfl, vShl_nat (by omega) (by omega), Nat.one_mul]
theorem rdP_iff {n num : Nat} (hn : n ≤ 6) : rdP n num ↔ num / 10 ^ n = 0 ∧ pBits (hdF num n) 10 = ((2 ^ n - 1 : Nat) : Int) := by
  rw [hd_all hn]
  constructor
  · rintro ⟨a, b, c⟩
    refine ⟨a, fun v hv => ?_⟩
    rw [hdF_iff]
    exact ⟨fun ⟨j, j1, j2⟩ => by rw [← j2]; exact b j j1, fun h => inj_surj b c v h⟩
  · rintro ⟨a, b⟩
    have hr : ∀ j, j < n → dg num j < n := fun j hj => (b (dg num j) (dg_lt num j)).mp ((hdF_iff num n _).mpr ⟨j, hj, rfl⟩)
    refine ⟨a, hr, fun i j hi hj he => surj_inj (fun v hv => ?_) i j hi hj he⟩
    exact (hdF_iff num n v).mp ((b v (by omega)).mpr hv)
theorem l_X7_la12 {d : List Nat} {T : vT} {M : vM} {n num : Nat} (hB : vB T) (hc : M 200 4 = n) (hn : n ≤ 6) (hnum : num < 2147483648) : ∀ t, t ≤ n →
    vV m_X7_layTold d d (vPi fun r T1 M1 => T = T1 ∧ rdQ n num M M1 227 r) 12 [some (vR 200), some (vI num), some (vI (num / 10 ^ t : Nat)), some (vI (pBits (hdF num t) 10)), some (vI ((n : Int) - 1 - t))] [] d T (vRow M 227 (rdR n num t (M 227))) := by
  refine vUp ?_
  intro t ht ih
  obtain ⟨rest, hrest⟩ : ∃ rest, rest = num / 10 ^ t := ⟨_, rfl⟩
  have hdg : dg num t = rest % 10 := by rw [hrest]; rfl
  have hd10 := dg_lt num t
  have hnx : rest / 10 = num / 10 ^ (t + 1) := by rw [hrest]; exact dg_div num t
  have hle : rest ≤ num := by rw [hrest]; exact Nat.div_le_self _ _
  have hle2 : rest / 10 ≤ rest := Nat.div_le_self _ _
  have hsm : ∀ g, mSame [227] M (vRow M 227 g) := fun g y hy => vRow_n (by simpa using hy)
  have hir : pBits (hdF num t) 10 < 1024 ∧ 0 ≤ pBits (hdF num t) 10 := by have := pBits_rg (hdF num t) 10; omega
  have hp2 : 2 ^ n ≤ 2 ^ 6 := Nat.pow_le_pow_right (by decide) hn
  have hp1 : 1 ≤ 2 ^ n := Nat.one_le_two_pow
  have hok : t = n → rest = 0 → pBits (hdF num t) 10 = ((2 ^ n : Nat) : Int) - 1 → rdP n num := fun a b c => (rdP_iff hn).mpr ⟨by rw [← a, ← hrest]; exact b, by rw [← a, c, a]; omega⟩
  have hno : t = n → ¬ (rest = 0 ∧ pBits (hdF num t) 10 = ((2 ^ n : Nat) : Int) - 1) → ¬ rdP n num := fun a b c => by
    obtain ⟨c1, c2⟩ := (rdP_iff hn).mp c
    refine b ⟨by rw [hrest, a]; exact c1, by rw [a, c2]; omega⟩
  have er : vRow M 227 (rdR n num t (M 227)) 200 4 = n := by rw [vRow_n (by decide)]; exact hc
  rw [← hrest]
  refine vV.iload dX7_layTold_12 rfl ?_
  refine vV.if_lt (tgt := 48) dX7_layTold_14 (by decide) (fun h14 => ?_) (fun h14 => ?_)
  · skip
    refine vV.iload_n dX7_layTold_48 rfl ?_
    refine vV.if_ne (tgt := 68) dX7_layTold_49 (by decide) (fun h49 => ?_) (fun h49 => ?_)
    · skip
      refine vV.iconst dX7_layTold_68 (by decide) ?_
      refine vV.rz dX7_layTold_69 rfl (by first | exact Or.inl rfl | exact Or.inr rfl | assumption) ?_
      first | exact ⟨rfl, hsm _, Or.inl ⟨rfl, hok (by omega) (by omega) (by omega), fun j hj => by rw [vRow_s]; unfold rdR; rw [if_pos (by omega)]⟩⟩ | exact ⟨rfl, hsm _, Or.inr ⟨rfl, hno (by omega) (fun z => by omega)⟩⟩
    · skip
      refine vV.iload_n dX7_layTold_52 rfl ?_
      refine vV.iconst dX7_layTold_53 (by decide) ?_
      refine vV.aload_n dX7_layTold_54 rfl ?_
      refine vV.geti (z := 4) dX7_layTold_55 fl_X7_89 (by first | rfl | assumption) rfl rfl ?_
      rw [er]
      refine vV.ishl dX7_layTold_58 ?_
      rw [vShl1 (by omega)]
      refine vV.iconst dX7_layTold_59 (by decide) ?_
      refine vV.isub dX7_layTold_60 (⟨by omega, by omega⟩) ?_
      refine vV.icmp_ne (tgt := 68) dX7_layTold_61 (by decide) (fun h61 => ?_) (fun h61 => ?_)
      · skip
        refine vV.iconst dX7_layTold_68 (by decide) ?_
        refine vV.rz dX7_layTold_69 rfl (by first | exact Or.inl rfl | exact Or.inr rfl | assumption) ?_
        first | exact ⟨rfl, hsm _, Or.inl ⟨rfl, hok (by omega) (by omega) (by omega), fun j hj => by rw [vRow_s]; unfold rdR; rw [if_pos (by omega)]⟩⟩ | exact ⟨rfl, hsm _, Or.inr ⟨rfl, hno (by omega) (fun z => by omega)⟩⟩
      · skip
        refine vV.iconst dX7_layTold_64 (by decide) ?_
        refine vV.goto (tgt := 69) dX7_layTold_65 (by decide) ?_
        refine vV.rz dX7_layTold_69 rfl (by first | exact Or.inl rfl | exact Or.inr rfl | assumption) ?_
        first | exact ⟨rfl, hsm _, Or.inl ⟨rfl, hok (by omega) (by omega) (by omega), fun j hj => by rw [vRow_s]; unfold rdR; rw [if_pos (by omega)]⟩⟩ | exact ⟨rfl, hsm _, Or.inr ⟨rfl, hno (by omega) (fun z => by omega)⟩⟩
  · skip
    refine vV.aload_n dX7_layTold_17 rfl ?_
    refine vV.getr dX7_layTold_18 fl_X7_43 (by first | rfl | assumption) rfl (by first | assumption | exact hB _ _ _ rfl) ?_
    refine vV.iload dX7_layTold_21 rfl ?_
    refine vV.iload_n dX7_layTold_23 rfl ?_
    refine vV.bipush (v := 10) dX7_layTold_24 (by decide) (by decide) ?_
    refine vV.irem dX7_layTold_26 (by omega) (by rw [show (10 : Int) = ((10 : Nat) : Int) from rfl, td_nat]; exact ⟨by omega, by omega⟩) ?_
    rw [show (10 : Int) = ((10 : Nat) : Int) from rfl, tm_nat, ← hdg]
    refine vV.iast dX7_layTold_27 (by first | rfl | assumption) (by omega) (by omega) ?_
    rw [vUpd_vRow, rdR_s (by omega)]
    refine vV.iload_n dX7_layTold_28 rfl ?_
    refine vV.iconst dX7_layTold_29 (by decide) ?_
    refine vV.iload_n dX7_layTold_30 rfl ?_
    refine vV.bipush (v := 10) dX7_layTold_31 (by decide) (by decide) ?_
    refine vV.irem dX7_layTold_33 (by omega) (by rw [show (10 : Int) = ((10 : Nat) : Int) from rfl, td_nat]; exact ⟨by omega, by omega⟩) ?_
    rw [show (10 : Int) = ((10 : Nat) : Int) from rfl, tm_nat, ← hdg]
    refine vV.ishl dX7_layTold_34 ?_
    refine vV.ior dX7_layTold_35 ?_
    rw [hd_or hd10]
    refine vV.istore_n (L' := [_, _, _, _, _]) dX7_layTold_36 (by decide) rfl ?_
    refine vV.iload_n dX7_layTold_37 rfl ?_
    refine vV.bipush (v := 10) dX7_layTold_38 (by decide) (by decide) ?_
    refine vV.idiv dX7_layTold_40 (by omega) (by rw [show (10 : Int) = ((10 : Nat) : Int) from rfl, td_nat]; exact ⟨by omega, by omega⟩) ?_
    rw [show (10 : Int) = ((10 : Nat) : Int) from rfl, td_nat, hnx]
    refine vV.istore_n (L' := [_, _, _, _, _]) dX7_layTold_41 (by decide) rfl ?_
    refine vV.iinc (L' := [_, _, _, _, _]) dX7_layTold_42 (by decide) rfl (⟨by omega, by omega⟩) rfl ?_
    rw [show (n : Int) - 1 - t + -1 = (n : Int) - 1 - ((t + 1 : Nat) : Int) by omega]
    refine vV.goto (tgt := 12) dX7_layTold_45 (by decide) ?_
    exact ih (by omega)
theorem c_X7_layTold {d : List Nat} {T : vT} {M : vM} {n num : Nat} (hB : vB T) (hc : M 200 4 = n) (hn : n ≤ 6) (hnum : num < 2147483648) : vCon m_X7_layTold d d [vR 200, vI num] T M (vPi fun r T1 M1 => T = T1 ∧ rdQ n num M M1 227 r) := by
  refine vCon.of (by decide) rfl rfl (Nat.le_of_ble_eq_true rfl) ?_
  have h := l_X7_la12 (d := d) (T := T) (M := M) hB hc hn hnum 0 (by omega)
  rw [rdR_0, vRow_id, Nat.pow_zero, Nat.div_one, show ((0 : Nat) : Int) = 0 from rfl, Int.sub_zero] at h
  refine vV.iload_n dX7_layTold_0 rfl ?_
  refine vV.istore_n (L' := [_, _, _, _, _]) dX7_layTold_1 (by decide) rfl ?_
  refine vV.iconst dX7_layTold_2 (by decide) ?_
  refine vV.istore_n (L' := [_, _, _, _, _]) dX7_layTold_3 (by decide) rfl ?_
  refine vV.aload_n dX7_layTold_4 rfl ?_
  refine vV.geti (z := 4) dX7_layTold_5 fl_X7_89 (by first | rfl | assumption) rfl rfl ?_
  rw [hc]
  refine vV.iconst dX7_layTold_8 (by decide) ?_
  refine vV.isub dX7_layTold_9 (⟨by omega, by omega⟩) ?_
  refine vV.istore (L' := [_, _, _, _, _]) dX7_layTold_10 (by decide) rfl ?_
  exact h
theorem mW_row {M N : vM} {n : Nat} {S : List Nat} (h : mSame S M N) (h0 : 200 ∉ S) (h1 : 201 ∉ S) (h2 : 202 ∉ S) (h3 : 203 ∉ S) (h4 : 204 ∉ S) (h5 : 211 ∉ S) (h6 : 212 ∉ S) (hW : mW M n) : mW N n := by
  unfold mW seM
  rw [h 200 h0, h 201 h1, h 202 h2, h 203 h3, h 204 h4, h 211 h5, h 212 h6]
  exact hW
theorem dX7_setUp_0 : decode cX7_setUp 0 = .ok (.iload_n 1, 1) := by decide +kernel
theorem dX7_setUp_1 : decode cX7_setUp 1 = .ok (.ifCond .lt 18, 3) := by decide +kernel
theorem dX7_setUp_4 : decode cX7_setUp 4 = .ok (.aload_n 0, 1) := by decide +kernel
theorem dX7_setUp_5 : decode cX7_setUp 5 = .ok (.getfield 89, 3) := by decide +kernel
theorem dX7_setUp_8 : decode cX7_setUp 8 = .ok (.ifCond .le 14, 3) := by decide +kernel
theorem dX7_setUp_11 : decode cX7_setUp 11 = .ok (.aload_n 0, 1) := by decide +kernel
theorem dX7_setUp_12 : decode cX7_setUp 12 = .ok (.iload_n 1, 1) := by decide +kernel
theorem dX7_setUp_13 : decode cX7_setUp 13 = .ok (.invokevirtual 292, 3) := by decide +kernel
theorem dX7_setUp_16 : decode cX7_setUp 16 = .ok (.ifCond .ne 6, 3) := by decide +kernel
theorem dX7_setUp_19 : decode cX7_setUp 19 = .ok (.bipush (-2), 2) := by decide +kernel
theorem dX7_setUp_21 : decode cX7_setUp 21 = .ok (.ireturn, 1) := by decide +kernel
theorem dX7_setUp_22 : decode cX7_setUp 22 = .ok (.aload_n 0, 1) := by decide +kernel
theorem dX7_setUp_23 : decode cX7_setUp 23 = .ok (.getfield 89, 3) := by decide +kernel
theorem dX7_setUp_26 : decode cX7_setUp 26 = .ok (.ifCond .ne 8, 3) := by decide +kernel
theorem dX7_setUp_29 : decode cX7_setUp 29 = .ok (.bipush (-3), 2) := by decide +kernel
theorem dX7_setUp_31 : decode cX7_setUp 31 = .ok (.goto 7, 3) := by decide +kernel
theorem dX7_setUp_34 : decode cX7_setUp 34 = .ok (.aload_n 0, 1) := by decide +kernel
theorem dX7_setUp_35 : decode cX7_setUp 35 = .ok (.invokevirtual 295, 3) := by decide +kernel
theorem dX7_setUp_38 : decode cX7_setUp 38 = .ok (.ireturn, 1) := by decide +kernel
theorem c_X7_setUp {d : List Nat} {T : vT} {M : vM} {n : Nat} {num : Int} (hB : vB T) (hW : mW M n) (hnum : num < 2147483648) : vCon m_X7_setUp d d [vR 200, vI num] T M (vPi fun r T1 M1 => T = T1 ∧ mSame [227, 236] M M1 ∧ suQ n num r (suR (M 201) (M 202) (M 203) (M 200 5) (M 200 9) n (rdF n num.toNat))) := by
  refine vCon.of (by decide) rfl rfl (Nat.le_of_ble_eq_true rfl) ?_
  have hn : n ≤ 6 := hW.2.1.1
  refine vV.iload_n dX7_setUp_0 rfl ?_
  refine vV.if_lt (tgt := 19) dX7_setUp_1 (by decide) (fun h1 => ?_) (fun h1 => ?_)
  · skip
    refine vV.bipush (v := (-2)) dX7_setUp_19 (by decide) (by decide) ?_
    refine vV.ri dX7_setUp_21 rfl ?_
    first | exact ⟨rfl, fun _ _ => rfl, Or.inl ⟨by omega, rfl⟩⟩ | exact ⟨rfl, fun y hy => h1 y (by simp at hy ⊢; omega), Or.inr (Or.inr (Or.inr ⟨by omega, by omega, hnp, rfl⟩))⟩
  · skip
    refine vV.aload_n dX7_setUp_4 rfl ?_
    refine vV.geti (z := 4) dX7_setUp_5 fl_X7_89 (by first | rfl | assumption) rfl rfl ?_
    rw [hW.1]
    refine vV.if_le (tgt := 22) dX7_setUp_8 (by decide) (fun h8 => ?_) (fun h8 => ?_)
    · skip
      refine vV.aload_n dX7_setUp_22 rfl ?_
      refine vV.geti (z := 4) dX7_setUp_23 fl_X7_89 (by first | rfl | assumption) rfl rfl ?_
      rw [hW.1]
      refine vV.if_ne (tgt := 34) dX7_setUp_26 (by decide) (fun h26 => ?_) (fun h26 => ?_)
      · skip
        omega
      · skip
        refine vV.bipush (v := (-3)) dX7_setUp_29 (by decide) (by decide) ?_
        refine vV.goto (tgt := 38) dX7_setUp_31 (by decide) ?_
        refine vV.ri dX7_setUp_38 rfl ?_
        exact ⟨rfl, fun _ _ => rfl, Or.inr (Or.inl ⟨by omega, by omega, rfl⟩)⟩
    · skip
      obtain ⟨m, rfl⟩ : ∃ m : Nat, num = m := ⟨num.toNat, by omega⟩
      rw [Int.toNat_natCast] at *
      refine vV.aload_n dX7_setUp_11 rfl ?_
      refine vV.iload_n dX7_setUp_12 rfl ?_
      refine vV.cVi dX7_setUp_13 ml_X7_292 cw_X7_layTold iw_X7_layTold (by first | rfl | assumption) rfl (by unfold vRoom; decide) (c_X7_layTold (n := n) (num := m) hB hW.1 hn (by omega)) rfl rfl (Nat.le_of_ble_eq_true rfl) ?_
      rintro x13 _ N hx13 ⟨rfl, h1, h2⟩
      refine vV.if_ne (tgt := 22) dX7_setUp_16 (by decide) (fun h16 => ?_) (fun h16 => ?_)
      · skip
        have hyp : rdP n m ∧ pEq n (N 227) (rdF n m) := h2.elim (fun z => z.2) (fun z => by omega)
        have hpm := pPm_cg (rdP_pm hyp.1) hyp.2
        have hWN : mW N n := mW_row h1 (by decide) (by decide) (by decide) (by decide) (by decide) (by decide) (by decide) hW
        refine vV.aload_n dX7_setUp_22 rfl ?_
        refine vV.geti (z := 4) dX7_setUp_23 fl_X7_89 (by first | rfl | assumption) rfl rfl ?_
        rw [hWN.1]
        refine vV.if_ne (tgt := 34) dX7_setUp_26 (by decide) (fun h26 => ?_) (fun h26 => ?_)
        · skip
          refine vV.aload_n dX7_setUp_34 rfl ?_
          refine vV.cVi dX7_setUp_35 ml_X7_295 cw_X7_setUpOf iw_X7_setUpOf (by first | rfl | assumption) rfl (by unfold vRoom; decide) (c_X7_setUpOf (n := n) hB hWN hpm rfl) rfl rfl (Nat.le_of_ble_eq_true rfl) ?_
          rintro x35 _ N1 hx35 ⟨rfl, h3, hx⟩
          refine vV.ri dX7_setUp_38 rfl ?_
          exact ⟨rfl, fun y hy => (h3 y (by simp at hy ⊢; omega)).trans (h1 y (by simp at hy ⊢; omega)), Or.inr (Or.inr (Or.inl ⟨by omega, by omega, hyp.1, by rw [hx, h1 200 (by decide), h1 201 (by decide), h1 202 (by decide), h1 203 (by decide)]; exact suR_cg pEq.rfl pEq.rfl pEq.rfl hyp.2 hpm.1⟩))⟩
        · skip
          omega
      · skip
        have hnp : ¬ rdP n m := h2.elim (fun z => by omega) (fun z => z.2)
        refine vV.bipush (v := (-2)) dX7_setUp_19 (by decide) (by decide) ?_
        refine vV.ri dX7_setUp_21 rfl ?_
        first | exact ⟨rfl, fun _ _ => rfl, Or.inl ⟨by omega, rfl⟩⟩ | exact ⟨rfl, fun y hy => h1 y (by simp at hy ⊢; omega), Or.inr (Or.inr (Or.inr ⟨by omega, by omega, hnp, rfl⟩))⟩
theorem dX7_bestOrder_0 : decode cX7_bestOrder 0 = .ok (.aload_n 0, 1) := by decide +kernel
theorem dX7_bestOrder_1 : decode cX7_bestOrder 1 = .ok (.getfield 89, 3) := by decide +kernel
theorem dX7_bestOrder_4 : decode cX7_bestOrder 4 = .ok (.ifCond .ne 6, 3) := by decide +kernel
theorem dX7_bestOrder_7 : decode cX7_bestOrder 7 = .ok (.bipush (-3), 2) := by decide +kernel
theorem dX7_bestOrder_9 : decode cX7_bestOrder 9 = .ok (.ireturn, 1) := by decide +kernel
theorem dX7_bestOrder_10 : decode cX7_bestOrder 10 = .ok (.aload_n 0, 1) := by decide +kernel
theorem dX7_bestOrder_11 : decode cX7_bestOrder 11 = .ok (.invokevirtual 244, 3) := by decide +kernel
theorem dX7_bestOrder_14 : decode cX7_bestOrder 14 = .ok (.iconst 0, 1) := by decide +kernel
theorem dX7_bestOrder_15 : decode cX7_bestOrder 15 = .ok (.istore_n 1, 1) := by decide +kernel
theorem dX7_bestOrder_16 : decode cX7_bestOrder 16 = .ok (.bipush (-6), 2) := by decide +kernel
theorem dX7_bestOrder_18 : decode cX7_bestOrder 18 = .ok (.istore_n 2, 1) := by decide +kernel
theorem dX7_bestOrder_19 : decode cX7_bestOrder 19 = .ok (.iconst 1, 1) := by decide +kernel
theorem dX7_bestOrder_20 : decode cX7_bestOrder 20 = .ok (.istore_n 3, 1) := by decide +kernel
theorem dX7_bestOrder_21 : decode cX7_bestOrder 21 = .ok (.iload_n 3, 1) := by decide +kernel
theorem dX7_bestOrder_22 : decode cX7_bestOrder 22 = .ok (.ifCond .eq 59, 3) := by decide +kernel
theorem dX7_bestOrder_25 : decode cX7_bestOrder 25 = .ok (.aload_n 0, 1) := by decide +kernel
theorem dX7_bestOrder_26 : decode cX7_bestOrder 26 = .ok (.invokevirtual 295, 3) := by decide +kernel
theorem dX7_bestOrder_29 : decode cX7_bestOrder 29 = .ok (.istore 4, 2) := by decide +kernel
theorem dX7_bestOrder_31 : decode cX7_bestOrder 31 = .ok (.iload 4, 2) := by decide +kernel
theorem dX7_bestOrder_33 : decode cX7_bestOrder 33 = .ok (.iload_n 1, 1) := by decide +kernel
theorem dX7_bestOrder_34 : decode cX7_bestOrder 34 = .ok (.if_icmp .le 39, 3) := by decide +kernel
theorem dX7_bestOrder_37 : decode cX7_bestOrder 37 = .ok (.iload 4, 2) := by decide +kernel
theorem dX7_bestOrder_39 : decode cX7_bestOrder 39 = .ok (.istore_n 1, 1) := by decide +kernel
theorem dX7_bestOrder_40 : decode cX7_bestOrder 40 = .ok (.iconst 0, 1) := by decide +kernel
theorem dX7_bestOrder_41 : decode cX7_bestOrder 41 = .ok (.istore_n 2, 1) := by decide +kernel
theorem dX7_bestOrder_42 : decode cX7_bestOrder 42 = .ok (.iconst 0, 1) := by decide +kernel
theorem dX7_bestOrder_43 : decode cX7_bestOrder 43 = .ok (.istore 5, 2) := by decide +kernel
theorem dX7_bestOrder_45 : decode cX7_bestOrder 45 = .ok (.iload 5, 2) := by decide +kernel
theorem dX7_bestOrder_47 : decode cX7_bestOrder 47 = .ok (.aload_n 0, 1) := by decide +kernel
theorem dX7_bestOrder_48 : decode cX7_bestOrder 48 = .ok (.getfield 89, 3) := by decide +kernel
theorem dX7_bestOrder_51 : decode cX7_bestOrder 51 = .ok (.if_icmp .ge 22, 3) := by decide +kernel
theorem dX7_bestOrder_54 : decode cX7_bestOrder 54 = .ok (.bipush 10, 2) := by decide +kernel
theorem dX7_bestOrder_56 : decode cX7_bestOrder 56 = .ok (.iload_n 2, 1) := by decide +kernel
theorem dX7_bestOrder_57 : decode cX7_bestOrder 57 = .ok (.imul, 1) := by decide +kernel
theorem dX7_bestOrder_58 : decode cX7_bestOrder 58 = .ok (.aload_n 0, 1) := by decide +kernel
theorem dX7_bestOrder_59 : decode cX7_bestOrder 59 = .ok (.getfield 43, 3) := by decide +kernel
theorem dX7_bestOrder_62 : decode cX7_bestOrder 62 = .ok (.iload 5, 2) := by decide +kernel
theorem dX7_bestOrder_64 : decode cX7_bestOrder 64 = .ok (.iaload, 1) := by decide +kernel
theorem dX7_bestOrder_65 : decode cX7_bestOrder 65 = .ok (.iadd, 1) := by decide +kernel
theorem dX7_bestOrder_66 : decode cX7_bestOrder 66 = .ok (.istore_n 2, 1) := by decide +kernel
theorem dX7_bestOrder_67 : decode cX7_bestOrder 67 = .ok (.iinc 5 1, 3) := by decide +kernel
theorem dX7_bestOrder_70 : decode cX7_bestOrder 70 = .ok (.goto (-25), 3) := by decide +kernel
theorem dX7_bestOrder_73 : decode cX7_bestOrder 73 = .ok (.aload_n 0, 1) := by decide +kernel
theorem dX7_bestOrder_74 : decode cX7_bestOrder 74 = .ok (.invokevirtual 247, 3) := by decide +kernel
theorem dX7_bestOrder_77 : decode cX7_bestOrder 77 = .ok (.istore_n 3, 1) := by decide +kernel
theorem dX7_bestOrder_78 : decode cX7_bestOrder 78 = .ok (.goto (-57), 3) := by decide +kernel
theorem dX7_bestOrder_81 : decode cX7_bestOrder 81 = .ok (.iload_n 2, 1) := by decide +kernel
theorem dX7_bestOrder_82 : decode cX7_bestOrder 82 = .ok (.ireturn, 1) := by decide +kernel
theorem l_X7_bo73 {d : List Nat} {T : vT} {M N : vM} {n k : Nat} {f o : Int → Int} {b fd : Int} {v : (Int → Int) → Int} {x4 x5 : Option vA} (hB : vB T) (hc : M 200 4 = n) (h1 : 1 ≤ n) (hn : n ≤ 6) (hs : mSame [227, 236] M N) (h227 : N 227 = f) (hI : fbR (-6) fd n (b, o)) (hf : pPm n f) (hfin : nFin n (k + 1) f = true)
    (ih : ∀ (f : Int → Int) (b fd : Int) (o : Int → Int) (N : vM) (x4 x5 : Option vA), mSame [227, 236] M N → N 227 = f → fbR (-6) fd n (b, o) → pPm n f → nFin n k f = true → vV m_X7_bestOrder d d (vPi fun r T1 M1 => T = T1 ∧ mSame [227, 236] M M1 ∧ fbR (-6) r n (stk v n k f b o)) 21 [some (vR 200), some (vI b), some (vI fd), some (vI 1), x4, x5] [] d T N) :
    ∀ S, (nNx n f = none → S = (b, o)) → (∀ g, nNx n f = some g → S = stk v n k g b o) → vV m_X7_bestOrder d d (vPi fun r T1 M1 => T = T1 ∧ mSame [227, 236] M M1 ∧ fbR (-6) r n S) 73 [some (vR 200), some (vI b), some (vI fd), some (vI 1), x4, x5] [] d T N := by
  intro S hS0 hS1
  have hcN : N 200 4 = n := by rw [hs 200 (by decide)]; exact hc
  cases hq : nNx n f with
  | none =>
    rw [hS0 hq]
    refine vV.aload_n dX7_bestOrder_73 rfl ?_
    refine vV.cVi dX7_bestOrder_74 ml_X7_247 cw_X7_nextOrder iw_X7_nextOrder (by first | rfl | assumption) rfl (by unfold vRoom; decide) (c_X7_nextOrder hB hcN h1 hn) rfl rfl (Nat.le_of_ble_eq_true rfl) ?_
    rintro x63 _ N1 hx63 ⟨rfl, hq63⟩
    rw [h227, hq] at hq63
    obtain ⟨rfl, rfl⟩ := hq63
    refine vV.istore_n (L' := [_, _, _, _, _, _]) dX7_bestOrder_77 (by decide) rfl ?_
    refine vV.goto (tgt := 21) dX7_bestOrder_78 (by decide) ?_
    refine vV.iload_n dX7_bestOrder_21 rfl ?_
    refine vV.if_eq (tgt := 81) dX7_bestOrder_22 (by decide) (fun h22 => ?_) (fun h22 => ?_)
    · skip
      refine vV.iload_n dX7_bestOrder_81 rfl ?_
      refine vV.ri dX7_bestOrder_82 rfl ?_
      exact ⟨rfl, hs, hI⟩
    · skip
      omega
  | some g =>
    rw [hS1 g hq]
    refine vV.aload_n dX7_bestOrder_73 rfl ?_
    refine vV.cVi dX7_bestOrder_74 ml_X7_247 cw_X7_nextOrder iw_X7_nextOrder (by first | rfl | assumption) rfl (by unfold vRoom; decide) (c_X7_nextOrder hB hcN h1 hn) rfl rfl (Nat.le_of_ble_eq_true rfl) ?_
    rintro x63 _ N1 hx63 ⟨rfl, hq63⟩
    rw [h227, hq] at hq63
    obtain ⟨rfl, rfl⟩ := hq63
    refine vV.istore_n (L' := [_, _, _, _, _, _]) dX7_bestOrder_77 (by decide) rfl ?_
    refine vV.goto (tgt := 21) dX7_bestOrder_78 (by decide) ?_
    exact ih g b fd o _ _ _ (fun y hy => by rw [vRow_n (by intro z; subst z; exact hy (by decide))]; exact hs y hy) (vRow_s _ _ _) hI (nNx_pm hq hf) (nFin_s hq hfin)
theorem l_X7_bo45 {d : List Nat} {T : vT} {N : vM} {n : Nat} {f : Int → Int} {b : Int} {x4 : Option vA} {Q : Option vA → vT → vM → Prop} (hB : vB T) (hc : N 200 4 = n) (hn : n ≤ 6) (hf : ∀ j : Nat, j < n → 0 ≤ f j ∧ f j < 6) (h227 : N 227 = f)
    (h73 : ∀ x5, vV m_X7_bestOrder d d Q 73 [some (vR 200), some (vI b), some (vI (suN f n)), some (vI 1), x4, x5] [] d T N) : ∀ k, k ≤ n →
    vV m_X7_bestOrder d d Q 45 [some (vR 200), some (vI b), some (vI (suN f k)), some (vI 1), x4, some (vI k)] [] d T N := by
  refine vUp ?_
  intro k hk ih
  have h1 := suN_rg hf k hk
  have h2 : (10 : Int) ^ k ≤ 10 ^ 6 := by rcases (show k = 0 ∨ k = 1 ∨ k = 2 ∨ k = 3 ∨ k = 4 ∨ k = 5 ∨ k = 6 by omega) with z | z | z | z | z | z | z <;> rw [z] <;> decide
  refine vV.iload dX7_bestOrder_45 rfl ?_
  refine vV.aload_n dX7_bestOrder_47 rfl ?_
  refine vV.geti (z := 4) dX7_bestOrder_48 fl_X7_89 (by first | rfl | assumption) rfl rfl ?_
  rw [hc]
  refine vV.icmp_ge (tgt := 73) dX7_bestOrder_51 (by decide) (fun h51 => ?_) (fun h51 => ?_)
  · skip
    rw [show k = n by omega]; exact h73 _
  · skip
    have hfk := hf k (by omega)
    refine vV.bipush (v := 10) dX7_bestOrder_54 (by decide) (by decide) ?_
    refine vV.iload_n dX7_bestOrder_56 rfl ?_
    refine vV.imul dX7_bestOrder_57 (⟨by omega, by omega⟩) ?_
    refine vV.aload_n dX7_bestOrder_58 rfl ?_
    refine vV.getr dX7_bestOrder_59 fl_X7_43 (by first | rfl | assumption) rfl (by first | assumption | exact hB _ _ _ rfl) ?_
    refine vV.iload dX7_bestOrder_62 rfl ?_
    refine vV.iald dX7_bestOrder_64 (by first | rfl | assumption) (by omega) (by omega) ?_
    rw [h227]
    refine vV.iadd dX7_bestOrder_65 (⟨by omega, by omega⟩) ?_
    rw [show 10 * suN f k + f k = suN f (k + 1) from by show _ = suN f k * 10 + f k; omega]
    refine vV.istore_n (L' := [_, _, _, _, _, _]) dX7_bestOrder_66 (by decide) rfl ?_
    refine vV.iinc (L' := [_, _, _, _, _, _]) dX7_bestOrder_67 (by decide) rfl (⟨by omega, by omega⟩) rfl ?_
    refine vV.goto (tgt := 45) dX7_bestOrder_70 (by decide) ?_
    exact ih (by omega)
theorem l_X7_bo21 {d : List Nat} {T : vT} {M : vM} {n : Nat} {v : (Int → Int) → Int} (hB : vB T) (hW : mW M n) (h1 : 1 ≤ n) (hv : ∀ f, v f = suR (M 201) (M 202) (M 203) (M 200 5) (M 200 9) n f) : ∀ k,
    ∀ (f : Int → Int) (b fd : Int) (o : Int → Int) (N : vM) (x4 x5 : Option vA), mSame [227, 236] M N → N 227 = f → fbR (-6) fd n (b, o) → pPm n f → nFin n k f = true → vV m_X7_bestOrder d d (vPi fun r T1 M1 => T = T1 ∧ mSame [227, 236] M M1 ∧ fbR (-6) r n (stk v n k f b o)) 21 [some (vR 200), some (vI b), some (vI fd), some (vI 1), x4, x5] [] d T N := by
  have hn : n ≤ 6 := hW.2.1.1
  have hc := hW.1
  intro k
  induction k with
  | zero => intro f b fd o N x4 x5 _ _ _ _ hfin; cases hfin
  | succ k ih =>
    intro f b fd o N x4 x5 hs h227 hI hf hfin
    have hb0 : 0 ≤ b := hI.2.2
    have hWN : mW N n := mW_row hs (by decide) (by decide) (by decide) (by decide) (by decide) (by decide) (by decide) hW
    have hvr := suR_rg (M 201) (M 202) (M 203) (M 200 5) (M 200 9) n f
    rw [← hv] at hvr
    have hf6 : ∀ j : Nat, j < n → 0 ≤ f j ∧ f j < 6 := fun j hj => by have := hf.1 j hj; omega
    refine vV.iload_n dX7_bestOrder_21 rfl ?_
    refine vV.if_eq (tgt := 81) dX7_bestOrder_22 (by decide) (fun h22 => ?_) (fun h22 => ?_)
    · skip
      omega
    · skip
      refine vV.aload_n dX7_bestOrder_25 rfl ?_
      refine vV.cVi dX7_bestOrder_26 ml_X7_295 cw_X7_setUpOf iw_X7_setUpOf (by first | rfl | assumption) rfl (by unfold vRoom; decide) (c_X7_setUpOf (n := n) hB hWN hf h227) rfl rfl (Nat.le_of_ble_eq_true rfl) ?_
      rintro x26 _ N1 hx26 ⟨rfl, h3, hx⟩
      rw [hs 200 (by decide), hs 201 (by decide), hs 202 (by decide), hs 203 (by decide), ← hv] at hx
      subst hx
      have hs1 : mSame [227, 236] M N1 := fun y hy => (h3 y (by simp at hy ⊢; omega)).trans (hs y hy)
      have h2271 : N1 227 = f := by rw [h3 227 (by decide)]; exact h227
      refine vV.istore (L' := [_, _, _, _, _, _]) dX7_bestOrder_29 (by decide) rfl ?_
      refine vV.iload dX7_bestOrder_31 rfl ?_
      refine vV.iload_n dX7_bestOrder_33 rfl ?_
      refine vV.icmp_le (tgt := 73) dX7_bestOrder_34 (by decide) (fun h34 => ?_) (fun h34 => ?_)
      · skip
        exact l_X7_bo73 hB hc h1 hn hs1 h2271 hI hf hfin ih _ (fun z => by rw [stk_n z, stB_f (by omega), stO_f (by omega)]) (fun g z => by rw [stk_s z, stB_f (by omega), stO_f (by omega)])
      · skip
        refine vV.iload dX7_bestOrder_37 rfl ?_
        refine vV.istore_n (L' := [_, _, _, _, _, _]) dX7_bestOrder_39 (by decide) rfl ?_
        refine vV.iconst dX7_bestOrder_40 (by decide) ?_
        refine vV.istore_n (L' := [_, _, _, _, _, _]) dX7_bestOrder_41 (by decide) rfl ?_
        refine vV.iconst dX7_bestOrder_42 (by decide) ?_
        refine vV.istore (L' := [_, _, _, _, _, _]) dX7_bestOrder_43 (by decide) rfl ?_
        exact l_X7_bo45 hB (by rw [hs1 200 (by decide)]; exact hc) hn hf6 h2271 (fun x5 => l_X7_bo73 hB hc h1 hn hs1 h2271 (o := f) ⟨fun z => absurd z (by show v f ≠ 0; omega), fun _ => rfl, hvr.1⟩ hf hfin ih _ (fun z => by rw [stk_n z, stB_t (by omega), stO_t (by omega)]) (fun g z => by rw [stk_s z, stB_t (by omega), stO_t (by omega)])) 0 (by omega)
theorem c_X7_bestOrder {d : List Nat} {T : vT} {M : vM} {n : Nat} (hB : vB T) (hW : mW M n) : vCon m_X7_bestOrder d d [vR 200] T M (vPi fun r T1 M1 => T = T1 ∧ mSame [227, 236] M M1 ∧ boQ n r (stk (suR (M 201) (M 202) (M 203) (M 200 5) (M 200 9) n) n 720 (fun j => j) 0 (fun _ => 0))) := by
  have hn : n ≤ 6 := hW.2.1.1
  have hc := hW.1
  have hv : ∀ f f', pPm n f → pPm n f' → pEq n f f' → suR (M 201) (M 202) (M 203) (M 200 5) (M 200 9) n f = suR (M 201) (M 202) (M 203) (M 200 5) (M 200 9) n f' := fun f f' hf _ he => suR_cg pEq.rfl pEq.rfl pEq.rfl he hf.1
  obtain ⟨v, hve⟩ : ∃ v, v = suR (M 201) (M 202) (M 203) (M 200 5) (M 200 9) n := ⟨_, rfl⟩
  have hv2 : ∀ f, v f = suR (M 201) (M 202) (M 203) (M 200 5) (M 200 9) n f := fun f => by rw [hve]
  rw [← hve] at hv ⊢
  have hid : pEq n (pMix n (fun j => j) (M 227)) (fun j => j) := fun j hj => pMix_lt hj
  refine vCon.of (by decide) rfl rfl (Nat.le_of_ble_eq_true rfl) ?_
  refine vV.aload_n dX7_bestOrder_0 rfl ?_
  refine vV.geti (z := 4) dX7_bestOrder_1 fl_X7_89 (by first | rfl | assumption) rfl rfl ?_
  rw [hc]
  refine vV.if_ne (tgt := 10) dX7_bestOrder_4 (by decide) (fun h4 => ?_) (fun h4 => ?_)
  · skip
    have hcg := stk_cg (v := v) (v' := v) (show 1 ≤ n by omega) hv 720 (pMix n (fun j => j) (M 227)) (fun j => j) (fun _ => 0) (fun _ => 0) 0 (pPm_cg (pPm_id n) hid) (pPm_id n) hid pEq.rfl
    refine vV.aload_n dX7_bestOrder_10 rfl ?_
    refine vV.cVv dX7_bestOrder_11 ml_X7_244 cw_X7_layOrder iw_X7_layOrder (by first | rfl | assumption) rfl (by unfold vRoom; decide) (c_X7_layOrder hB hc hn) rfl rfl (Nat.le_of_ble_eq_true rfl) ?_
    rintro _ _ ⟨rfl, rfl⟩
    refine vV.iconst dX7_bestOrder_14 (by decide) ?_
    refine vV.istore_n (L' := [_, _, _, _, _, _]) dX7_bestOrder_15 (by decide) rfl ?_
    refine vV.bipush (v := (-6)) dX7_bestOrder_16 (by decide) (by decide) ?_
    refine vV.istore_n (L' := [_, _, _, _, _, _]) dX7_bestOrder_18 (by decide) rfl ?_
    refine vV.iconst dX7_bestOrder_19 (by decide) ?_
    refine vV.istore_n (L' := [_, _, _, _, _, _]) dX7_bestOrder_20 (by decide) rfl ?_
    refine vV.imp (l_X7_bo21 hB hW (by omega) hv2 720 _ 0 (-6) (fun _ => 0) _ _ _ (fun y hy => vRow_n (by intro z; subst z; exact hy (by decide))) (vRow_s _ _ _) ⟨fun _ => rfl, fun z => absurd rfl z, Int.le_refl 0⟩ (pPm_cg (pPm_id n) hid) (nFin_720 (by omega) hn hid)) ?_
    rintro y T1 M1 ⟨z, z1, z2, z3, z4, z5⟩
    refine ⟨z, z1, z2, z3, z4, Or.inr ⟨by omega, ?_⟩⟩
    obtain ⟨q1, q2, q3⟩ := z5
    rw [hcg.1] at q1 q2 q3
    rw [suN_cg hcg.2] at q2
    exact ⟨q1, q2, q3⟩
  · skip
    refine vV.bipush (v := (-3)) dX7_bestOrder_7 (by decide) (by decide) ?_
    refine vV.ri dX7_bestOrder_9 rfl ?_
    exact ⟨rfl, fun _ _ => rfl, Or.inl ⟨by omega, rfl⟩⟩
