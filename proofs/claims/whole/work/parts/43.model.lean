/-! ===== own: the reference: set ===== -/
def pLo (w : Int) : Int := if w = 0 ∨ w = 3 then 0 else 1
def pHi (w : Int) : Int := if w = 0 then 7 else if w = 1 ∨ w = 4 then 6 else if w = 2 then 9 else 3
def pSetR (se : Int → Int) (w v : Int) : Int := if ¬ ((0 ≤ w ∧ w ≤ 4) ∧ pLo w ≤ v ∧ v ≤ pHi w) then -2 else se w
theorem seM_0 (M : vM) : seM M 0 = M 200 5 := rfl
theorem seM_1 (M : vM) : seM M 1 = M 200 6 := rfl
theorem seM_2 (M : vM) : seM M 2 = M 200 7 := rfl
theorem seM_3 (M : vM) : seM M 3 = M 200 8 := rfl
theorem seM_4 (M : vM) : seM M 4 = M 200 9 := rfl
theorem seM_o (M : vM) {j : Int} (h0 : j ≠ 0) (h1 : j ≠ 1) (h2 : j ≠ 2) (h3 : j ≠ 3) (h4 : j ≠ 4) : seM M j = 0 := by unfold seM; rw [if_neg h0, if_neg h1, if_neg h2, if_neg h3, if_neg h4]
theorem seM_of {M N : vM} {w v : Int} (hw : 0 ≤ w ∧ w ≤ 4) (h : ∀ j, 5 ≤ j → j ≤ 9 → N 200 j = if j = 5 + w then v else M 200 j) : seM N = fSet (seM M) w v := by
  funext j
  by_cases hj : 0 ≤ j ∧ j ≤ 4
  · have h5 : ∀ K : vM, seM K j = K 200 (5 + j) := fun K => by
      have : j = 0 ∨ j = 1 ∨ j = 2 ∨ j = 3 ∨ j = 4 := by omega
      rcases this with rfl | rfl | rfl | rfl | rfl <;> rfl
    rw [h5, h (5 + j) (by omega) (by omega)]
    unfold fSet
    by_cases e : j = w
    · rw [if_pos (by omega), if_pos e]
    · rw [if_neg (by omega), if_neg e, h5]
  · rw [seM_o N (by omega) (by omega) (by omega) (by omega) (by omega), fSet_n (by omega), seM_o M (by omega) (by omega) (by omega) (by omega) (by omega)]
def mSetq (M M1 : vM) (w v : Int) : Prop := mSame [200] M M1 ∧ mSlot [5, 6, 7, 8, 9, 31] M M1 ∧ seM M1 = (if 0 ≤ pSetR (seM M) w v then fSet (seM M) w v else seM M) ∧ M1 200 31 = (if w = 1 ∧ 0 ≤ pSetR (seM M) w v then -6 else M 200 31)
theorem mSetq_no {M : vM} {w v : Int} (h : pSetR (seM M) w v = -2) : mSetq M M w v := by
  refine ⟨fun _ _ => rfl, fun _ _ => rfl, by rw [h]; rfl, by rw [h, if_neg (by omega)]⟩
theorem mSetq_ok {M : vM} {w v : Int} (hw : 0 ≤ w ∧ w ≤ 4) (h1 : w ≠ 1) (h : 0 ≤ pSetR (seM M) w v) : mSetq M (vUpd M 200 (5 + w) v) w v := by
  refine ⟨fun k hk => ?_, fun j hj => ?_, ?_, ?_⟩
  · simp at hk; exact vUpd_row hk
  · simp at hj; exact vUpd_ni (by omega)
  · rw [if_pos h]
    refine seM_of hw (fun j _ _ => ?_)
    by_cases e : j = 5 + w
    · rw [if_pos e, e, vUpd_s]
    · rw [if_neg e, vUpd_ni e]
  · rw [if_neg (by omega), vUpd_ni (by omega)]
theorem mSetq_1 {M : vM} {v : Int} (h : 0 ≤ pSetR (seM M) 1 v) : mSetq M (vUpd (vUpd M 200 6 v) 200 31 (-6)) 1 v := by
  refine ⟨fun k hk => ?_, fun j hj => ?_, ?_, ?_⟩
  · simp at hk; rw [vUpd_row hk, vUpd_row hk]
  · simp at hj; rw [vUpd_ni (by omega), vUpd_ni (by omega)]
  · rw [if_pos h]
    refine seM_of (by omega) (fun j _ _ => ?_)
    by_cases e : j = 5 + 1
    · rw [if_pos e, e, vUpd_ni (by decide)]; exact vUpd_s _ _ _ _
    · rw [if_neg e, vUpd_ni (by omega), vUpd_ni (by omega)]
  · rw [if_pos ⟨rfl, h⟩, vUpd_s]
theorem dX7_set_0 : decode cX7_set 0 = .ok (.iload_n 1, 1) := by decide +kernel
theorem dX7_set_1 : decode cX7_set 1 = .ok (.ifCond .eq 8, 3) := by decide +kernel
theorem dX7_set_4 : decode cX7_set 4 = .ok (.iload_n 1, 1) := by decide +kernel
theorem dX7_set_5 : decode cX7_set 5 = .ok (.iconst 3, 1) := by decide +kernel
theorem dX7_set_6 : decode cX7_set 6 = .ok (.if_icmp .ne 7, 3) := by decide +kernel
theorem dX7_set_9 : decode cX7_set 9 = .ok (.iconst 0, 1) := by decide +kernel
theorem dX7_set_10 : decode cX7_set 10 = .ok (.goto 4, 3) := by decide +kernel
theorem dX7_set_13 : decode cX7_set 13 = .ok (.iconst 1, 1) := by decide +kernel
theorem dX7_set_14 : decode cX7_set 14 = .ok (.istore_n 3, 1) := by decide +kernel
theorem dX7_set_15 : decode cX7_set 15 = .ok (.iload_n 1, 1) := by decide +kernel
theorem dX7_set_16 : decode cX7_set 16 = .ok (.ifCond .ne 8, 3) := by decide +kernel
theorem dX7_set_19 : decode cX7_set 19 = .ok (.bipush 7, 2) := by decide +kernel
theorem dX7_set_21 : decode cX7_set 21 = .ok (.goto 29, 3) := by decide +kernel
theorem dX7_set_24 : decode cX7_set 24 = .ok (.iload_n 1, 1) := by decide +kernel
theorem dX7_set_25 : decode cX7_set 25 = .ok (.iconst 1, 1) := by decide +kernel
theorem dX7_set_26 : decode cX7_set 26 = .ok (.if_icmp .eq 8, 3) := by decide +kernel
theorem dX7_set_29 : decode cX7_set 29 = .ok (.iload_n 1, 1) := by decide +kernel
theorem dX7_set_30 : decode cX7_set 30 = .ok (.iconst 4, 1) := by decide +kernel
theorem dX7_set_31 : decode cX7_set 31 = .ok (.if_icmp .ne 8, 3) := by decide +kernel
theorem dX7_set_34 : decode cX7_set 34 = .ok (.bipush 6, 2) := by decide +kernel
theorem dX7_set_36 : decode cX7_set 36 = .ok (.goto 14, 3) := by decide +kernel
theorem dX7_set_39 : decode cX7_set 39 = .ok (.iload_n 1, 1) := by decide +kernel
theorem dX7_set_40 : decode cX7_set 40 = .ok (.iconst 2, 1) := by decide +kernel
theorem dX7_set_41 : decode cX7_set 41 = .ok (.if_icmp .ne 8, 3) := by decide +kernel
theorem dX7_set_44 : decode cX7_set 44 = .ok (.bipush 9, 2) := by decide +kernel
theorem dX7_set_46 : decode cX7_set 46 = .ok (.goto 4, 3) := by decide +kernel
theorem dX7_set_49 : decode cX7_set 49 = .ok (.iconst 3, 1) := by decide +kernel
theorem dX7_set_50 : decode cX7_set 50 = .ok (.istore 4, 2) := by decide +kernel
theorem dX7_set_52 : decode cX7_set 52 = .ok (.iload_n 1, 1) := by decide +kernel
theorem dX7_set_53 : decode cX7_set 53 = .ok (.i2l, 1) := by decide +kernel
theorem dX7_set_54 : decode cX7_set 54 = .ok (.lconst 0, 1) := by decide +kernel
theorem dX7_set_55 : decode cX7_set 55 = .ok (.ldc2_w 112, 3) := by decide +kernel
theorem dX7_set_58 : decode cX7_set 58 = .ok (.invokestatic 92, 3) := by decide +kernel
theorem dX7_set_61 : decode cX7_set 61 = .ok (.ifCond .eq 16, 3) := by decide +kernel
theorem dX7_set_64 : decode cX7_set 64 = .ok (.iload_n 2, 1) := by decide +kernel
theorem dX7_set_65 : decode cX7_set 65 = .ok (.i2l, 1) := by decide +kernel
theorem dX7_set_66 : decode cX7_set 66 = .ok (.iload_n 3, 1) := by decide +kernel
theorem dX7_set_67 : decode cX7_set 67 = .ok (.i2l, 1) := by decide +kernel
theorem dX7_set_68 : decode cX7_set 68 = .ok (.iload 4, 2) := by decide +kernel
theorem dX7_set_70 : decode cX7_set 70 = .ok (.i2l, 1) := by decide +kernel
theorem dX7_set_71 : decode cX7_set 71 = .ok (.invokestatic 92, 3) := by decide +kernel
theorem dX7_set_74 : decode cX7_set 74 = .ok (.ifCond .ne 6, 3) := by decide +kernel
theorem dX7_set_77 : decode cX7_set 77 = .ok (.bipush (-2), 2) := by decide +kernel
theorem dX7_set_79 : decode cX7_set 79 = .ok (.ireturn, 1) := by decide +kernel
theorem dX7_set_80 : decode cX7_set 80 = .ok (.aload_n 0, 1) := by decide +kernel
theorem dX7_set_81 : decode cX7_set 81 = .ok (.iload_n 1, 1) := by decide +kernel
theorem dX7_set_82 : decode cX7_set 82 = .ok (.invokevirtual 114, 3) := by decide +kernel
theorem dX7_set_85 : decode cX7_set 85 = .ok (.istore 5, 2) := by decide +kernel
theorem dX7_set_87 : decode cX7_set 87 = .ok (.iload_n 1, 1) := by decide +kernel
theorem dX7_set_88 : decode cX7_set 88 = .ok (.ifCond .ne 11, 3) := by decide +kernel
theorem dX7_set_91 : decode cX7_set 91 = .ok (.aload_n 0, 1) := by decide +kernel
theorem dX7_set_92 : decode cX7_set 92 = .ok (.iload_n 2, 1) := by decide +kernel
theorem dX7_set_93 : decode cX7_set 93 = .ok (.putfield 117, 3) := by decide +kernel
theorem dX7_set_96 : decode cX7_set 96 = .ok (.goto 53, 3) := by decide +kernel
theorem dX7_set_99 : decode cX7_set 99 = .ok (.iload_n 1, 1) := by decide +kernel
theorem dX7_set_100 : decode cX7_set 100 = .ok (.iconst 1, 1) := by decide +kernel
theorem dX7_set_101 : decode cX7_set 101 = .ok (.if_icmp .ne 17, 3) := by decide +kernel
theorem dX7_set_104 : decode cX7_set 104 = .ok (.aload_n 0, 1) := by decide +kernel
theorem dX7_set_105 : decode cX7_set 105 = .ok (.iload_n 2, 1) := by decide +kernel
theorem dX7_set_106 : decode cX7_set 106 = .ok (.putfield 80, 3) := by decide +kernel
theorem dX7_set_109 : decode cX7_set 109 = .ok (.aload_n 0, 1) := by decide +kernel
theorem dX7_set_110 : decode cX7_set 110 = .ok (.bipush (-6), 2) := by decide +kernel
theorem dX7_set_112 : decode cX7_set 112 = .ok (.putfield 56, 3) := by decide +kernel
theorem dX7_set_115 : decode cX7_set 115 = .ok (.goto 34, 3) := by decide +kernel
theorem dX7_set_118 : decode cX7_set 118 = .ok (.iload_n 1, 1) := by decide +kernel
theorem dX7_set_119 : decode cX7_set 119 = .ok (.iconst 2, 1) := by decide +kernel
theorem dX7_set_120 : decode cX7_set 120 = .ok (.if_icmp .ne 11, 3) := by decide +kernel
theorem dX7_set_123 : decode cX7_set 123 = .ok (.aload_n 0, 1) := by decide +kernel
theorem dX7_set_124 : decode cX7_set 124 = .ok (.iload_n 2, 1) := by decide +kernel
theorem dX7_set_125 : decode cX7_set 125 = .ok (.putfield 83, 3) := by decide +kernel
theorem dX7_set_128 : decode cX7_set 128 = .ok (.goto 21, 3) := by decide +kernel
theorem dX7_set_131 : decode cX7_set 131 = .ok (.iload_n 1, 1) := by decide +kernel
theorem dX7_set_132 : decode cX7_set 132 = .ok (.iconst 3, 1) := by decide +kernel
theorem dX7_set_133 : decode cX7_set 133 = .ok (.if_icmp .ne 11, 3) := by decide +kernel
theorem dX7_set_136 : decode cX7_set 136 = .ok (.aload_n 0, 1) := by decide +kernel
theorem dX7_set_137 : decode cX7_set 137 = .ok (.iload_n 2, 1) := by decide +kernel
theorem dX7_set_138 : decode cX7_set 138 = .ok (.putfield 120, 3) := by decide +kernel
theorem dX7_set_141 : decode cX7_set 141 = .ok (.goto 8, 3) := by decide +kernel
theorem dX7_set_144 : decode cX7_set 144 = .ok (.aload_n 0, 1) := by decide +kernel
theorem dX7_set_145 : decode cX7_set 145 = .ok (.iload_n 2, 1) := by decide +kernel
theorem dX7_set_146 : decode cX7_set 146 = .ok (.putfield 86, 3) := by decide +kernel
theorem dX7_set_149 : decode cX7_set 149 = .ok (.iload 5, 2) := by decide +kernel
theorem dX7_set_151 : decode cX7_set 151 = .ok (.ireturn, 1) := by decide +kernel
theorem l_X7_set52 {d : List Nat} {T : vT} {M : vM} {w v lo hi : Int} (hB : vB T) (hse : ∀ j, 0 ≤ seM M j) (hlo : lo = pLo w) (hhi : hi = pHi w) (x5 : Option vA) : vV m_X7_set d d (vPi fun r T1 M1 => T = T1 ∧ r = pSetR (seM M) w v ∧ mSetq M M1 w v) 52 [some (vR 200), some (vI w), some (vI v), some (vI lo), some (vI hi), x5] [] d T M := by
  subst hlo hhi
  refine vV.iload_n dX7_set_52 rfl ?_
  refine vV.i2l dX7_set_53 ?_
  refine vV.lconst (v := 0) dX7_set_54 (by decide) (by decide) ?_
  refine vV.ldc2 (v := 4) dX7_set_55 kl_X7_112 (by decide) (by decide) ?_
  refine vV.cSi dX7_set_58 ml_X7_92 cw_X7_in sw_X7_in (by unfold vRoom; decide) c_X7_in rfl rfl (Nat.le_of_ble_eq_true rfl) ?_
  rintro x58 _ _ hx58 ⟨hy58, rfl, rfl⟩
  unfold pIn at hy58
  refine vV.if_eq (tgt := 77) dX7_set_61 (by decide) (fun h61 => ?_) (fun h61 => ?_)
  · skip
    have e2 : pSetR (seM M) w v = -2 := if_pos (fun c => no01 hy58 h61 c.1)
    refine vV.bipush (v := (-2)) dX7_set_77 (by decide) (by decide) ?_
    refine vV.ri dX7_set_79 rfl ?_
    exact ⟨rfl, e2.symm, mSetq_no e2⟩
  · skip
    have g1 := yes01 hy58 h61
    refine vV.iload_n dX7_set_64 rfl ?_
    refine vV.i2l dX7_set_65 ?_
    refine vV.iload_n dX7_set_66 rfl ?_
    refine vV.i2l dX7_set_67 ?_
    refine vV.iload dX7_set_68 rfl ?_
    refine vV.i2l dX7_set_70 ?_
    refine vV.cSi dX7_set_71 ml_X7_92 cw_X7_in sw_X7_in (by unfold vRoom; decide) c_X7_in rfl rfl (Nat.le_of_ble_eq_true rfl) ?_
    rintro x71 _ _ hx71 ⟨hy71, rfl, rfl⟩
    unfold pIn at hy71
    refine vV.if_ne (tgt := 80) dX7_set_74 (by decide) (fun h74 => ?_) (fun h74 => ?_)
    · skip
      have g2 := yes01 hy71 h74
      have e2 : pSetR (seM M) w v = seM M w := if_neg (fun c => c ⟨g1, g2⟩)
      have hp : 0 ≤ pSetR (seM M) w v := by { rw [e2]; exact hse w }
      refine vV.aload_n dX7_set_80 rfl ?_
      refine vV.iload_n dX7_set_81 rfl ?_
      refine vV.cVi dX7_set_82 ml_X7_114 cw_X7_setNow iw_X7_setNow (by first | rfl | assumption) rfl (by unfold vRoom; decide) (c_X7_setNow hB g1) rfl rfl (Nat.le_of_ble_eq_true rfl) ?_
      rintro x82 _ _ hx82 ⟨rfl, rfl, rfl⟩
      refine vV.istore (L' := [_, _, _, _, _, _]) dX7_set_85 (by decide) rfl ?_
      refine vV.iload_n dX7_set_87 rfl ?_
      refine vV.if_ne (tgt := 99) dX7_set_88 (by decide) (fun h88 => ?_) (fun h88 => ?_)
      · skip
        refine vV.iload_n dX7_set_99 rfl ?_
        refine vV.iconst dX7_set_100 (by decide) ?_
        refine vV.icmp_ne (tgt := 118) dX7_set_101 (by decide) (fun h101 => ?_) (fun h101 => ?_)
        · skip
          refine vV.iload_n dX7_set_118 rfl ?_
          refine vV.iconst dX7_set_119 (by decide) ?_
          refine vV.icmp_ne (tgt := 131) dX7_set_120 (by decide) (fun h120 => ?_) (fun h120 => ?_)
          · skip
            refine vV.iload_n dX7_set_131 rfl ?_
            refine vV.iconst dX7_set_132 (by decide) ?_
            refine vV.icmp_ne (tgt := 144) dX7_set_133 (by decide) (fun h133 => ?_) (fun h133 => ?_)
            · skip
              have h4 : w = 4 := by omega
              subst h4
              refine vV.aload_n dX7_set_144 rfl ?_
              refine vV.iload_n dX7_set_145 rfl ?_
              refine vV.puti (z := 9) dX7_set_146 fl_X7_86 (by first | rfl | assumption) rfl rfl ?_
              refine vV.iload dX7_set_149 rfl ?_
              refine vV.ri dX7_set_151 rfl ?_
              first | exact ⟨rfl, e2.symm, mSetq_1 hp⟩ | exact ⟨rfl, e2.symm, mSetq_ok g1 (by decide) hp⟩
            · skip
              subst h133
              refine vV.aload_n dX7_set_136 rfl ?_
              refine vV.iload_n dX7_set_137 rfl ?_
              refine vV.puti (z := 8) dX7_set_138 fl_X7_120 (by first | rfl | assumption) rfl rfl ?_
              refine vV.goto (tgt := 149) dX7_set_141 (by decide) ?_
              refine vV.iload dX7_set_149 rfl ?_
              refine vV.ri dX7_set_151 rfl ?_
              first | exact ⟨rfl, e2.symm, mSetq_1 hp⟩ | exact ⟨rfl, e2.symm, mSetq_ok g1 (by decide) hp⟩
          · skip
            subst h120
            refine vV.aload_n dX7_set_123 rfl ?_
            refine vV.iload_n dX7_set_124 rfl ?_
            refine vV.puti (z := 7) dX7_set_125 fl_X7_83 (by first | rfl | assumption) rfl rfl ?_
            refine vV.goto (tgt := 149) dX7_set_128 (by decide) ?_
            refine vV.iload dX7_set_149 rfl ?_
            refine vV.ri dX7_set_151 rfl ?_
            first | exact ⟨rfl, e2.symm, mSetq_1 hp⟩ | exact ⟨rfl, e2.symm, mSetq_ok g1 (by decide) hp⟩
        · skip
          subst h101
          refine vV.aload_n dX7_set_104 rfl ?_
          refine vV.iload_n dX7_set_105 rfl ?_
          refine vV.puti (z := 6) dX7_set_106 fl_X7_80 (by first | rfl | assumption) rfl rfl ?_
          refine vV.aload_n dX7_set_109 rfl ?_
          refine vV.bipush (v := (-6)) dX7_set_110 (by decide) (by decide) ?_
          refine vV.puti (z := 31) dX7_set_112 fl_X7_56 (by first | rfl | assumption) rfl rfl ?_
          refine vV.goto (tgt := 149) dX7_set_115 (by decide) ?_
          refine vV.iload dX7_set_149 rfl ?_
          refine vV.ri dX7_set_151 rfl ?_
          first | exact ⟨rfl, e2.symm, mSetq_1 hp⟩ | exact ⟨rfl, e2.symm, mSetq_ok g1 (by decide) hp⟩
      · skip
        subst h88
        refine vV.aload_n dX7_set_91 rfl ?_
        refine vV.iload_n dX7_set_92 rfl ?_
        refine vV.puti (z := 5) dX7_set_93 fl_X7_117 (by first | rfl | assumption) rfl rfl ?_
        refine vV.goto (tgt := 149) dX7_set_96 (by decide) ?_
        refine vV.iload dX7_set_149 rfl ?_
        refine vV.ri dX7_set_151 rfl ?_
        first | exact ⟨rfl, e2.symm, mSetq_1 hp⟩ | exact ⟨rfl, e2.symm, mSetq_ok g1 (by decide) hp⟩
    · skip
      have e2 : pSetR (seM M) w v = -2 := if_pos (fun c => no01 hy71 h74 c.2)
      refine vV.bipush (v := (-2)) dX7_set_77 (by decide) (by decide) ?_
      refine vV.ri dX7_set_79 rfl ?_
      exact ⟨rfl, e2.symm, mSetq_no e2⟩
theorem c_X7_set {d : List Nat} {T : vT} {M : vM} {w v : Int} (hB : vB T) (hse : ∀ j, 0 ≤ seM M j) : vCon m_X7_set d d [vR 200, vI w, vI v] T M (vPi fun r T1 M1 => T = T1 ∧ r = pSetR (seM M) w v ∧ mSetq M M1 w v) := by
  refine vCon.of (by decide) rfl rfl (Nat.le_of_ble_eq_true rfl) ?_
  have h := fun lo hi => l_X7_set52 (d := d) (T := T) (w := w) (v := v) (lo := lo) (hi := hi) hB hse
  refine vV.iload_n dX7_set_0 rfl ?_
  refine vV.if_eq (tgt := 9) dX7_set_1 (by decide) (fun h1 => ?_) (fun h1 => ?_)
  · skip
    refine vV.iconst dX7_set_9 (by decide) ?_
    refine vV.goto (tgt := 14) dX7_set_10 (by decide) ?_
    refine vV.istore_n (L' := [_, _, _, _, _, _]) dX7_set_14 (by decide) rfl ?_
    refine vV.iload_n dX7_set_15 rfl ?_
    refine vV.if_ne (tgt := 24) dX7_set_16 (by decide) (fun h16 => ?_) (fun h16 => ?_)
    · skip
      refine vV.iload_n dX7_set_24 rfl ?_
      refine vV.iconst dX7_set_25 (by decide) ?_
      refine vV.icmp_eq (tgt := 34) dX7_set_26 (by decide) (fun h26 => ?_) (fun h26 => ?_)
      · skip
        refine vV.bipush (v := 6) dX7_set_34 (by decide) (by decide) ?_
        refine vV.goto (tgt := 50) dX7_set_36 (by decide) ?_
        refine vV.istore (L' := [_, _, _, _, _, _]) dX7_set_50 (by decide) rfl ?_
        exact h _ _ (by unfold pLo; split <;> omega) (by unfold pHi; split <;> (try split) <;> (try split) <;> omega) _
      · skip
        refine vV.iload_n dX7_set_29 rfl ?_
        refine vV.iconst dX7_set_30 (by decide) ?_
        refine vV.icmp_ne (tgt := 39) dX7_set_31 (by decide) (fun h31 => ?_) (fun h31 => ?_)
        · skip
          refine vV.iload_n dX7_set_39 rfl ?_
          refine vV.iconst dX7_set_40 (by decide) ?_
          refine vV.icmp_ne (tgt := 49) dX7_set_41 (by decide) (fun h41 => ?_) (fun h41 => ?_)
          · skip
            refine vV.iconst dX7_set_49 (by decide) ?_
            refine vV.istore (L' := [_, _, _, _, _, _]) dX7_set_50 (by decide) rfl ?_
            exact h _ _ (by unfold pLo; split <;> omega) (by unfold pHi; split <;> (try split) <;> (try split) <;> omega) _
          · skip
            refine vV.bipush (v := 9) dX7_set_44 (by decide) (by decide) ?_
            refine vV.goto (tgt := 50) dX7_set_46 (by decide) ?_
            refine vV.istore (L' := [_, _, _, _, _, _]) dX7_set_50 (by decide) rfl ?_
            exact h _ _ (by unfold pLo; split <;> omega) (by unfold pHi; split <;> (try split) <;> (try split) <;> omega) _
        · skip
          refine vV.bipush (v := 6) dX7_set_34 (by decide) (by decide) ?_
          refine vV.goto (tgt := 50) dX7_set_36 (by decide) ?_
          refine vV.istore (L' := [_, _, _, _, _, _]) dX7_set_50 (by decide) rfl ?_
          exact h _ _ (by unfold pLo; split <;> omega) (by unfold pHi; split <;> (try split) <;> (try split) <;> omega) _
    · skip
      refine vV.bipush (v := 7) dX7_set_19 (by decide) (by decide) ?_
      refine vV.goto (tgt := 50) dX7_set_21 (by decide) ?_
      refine vV.istore (L' := [_, _, _, _, _, _]) dX7_set_50 (by decide) rfl ?_
      exact h _ _ (by unfold pLo; split <;> omega) (by unfold pHi; split <;> (try split) <;> (try split) <;> omega) _
  · skip
    refine vV.iload_n dX7_set_4 rfl ?_
    refine vV.iconst dX7_set_5 (by decide) ?_
    refine vV.icmp_ne (tgt := 13) dX7_set_6 (by decide) (fun h6 => ?_) (fun h6 => ?_)
    · skip
      refine vV.iconst dX7_set_13 (by decide) ?_
      refine vV.istore_n (L' := [_, _, _, _, _, _]) dX7_set_14 (by decide) rfl ?_
      refine vV.iload_n dX7_set_15 rfl ?_
      refine vV.if_ne (tgt := 24) dX7_set_16 (by decide) (fun h16 => ?_) (fun h16 => ?_)
      · skip
        refine vV.iload_n dX7_set_24 rfl ?_
        refine vV.iconst dX7_set_25 (by decide) ?_
        refine vV.icmp_eq (tgt := 34) dX7_set_26 (by decide) (fun h26 => ?_) (fun h26 => ?_)
        · skip
          refine vV.bipush (v := 6) dX7_set_34 (by decide) (by decide) ?_
          refine vV.goto (tgt := 50) dX7_set_36 (by decide) ?_
          refine vV.istore (L' := [_, _, _, _, _, _]) dX7_set_50 (by decide) rfl ?_
          exact h _ _ (by unfold pLo; split <;> omega) (by unfold pHi; split <;> (try split) <;> (try split) <;> omega) _
        · skip
          refine vV.iload_n dX7_set_29 rfl ?_
          refine vV.iconst dX7_set_30 (by decide) ?_
          refine vV.icmp_ne (tgt := 39) dX7_set_31 (by decide) (fun h31 => ?_) (fun h31 => ?_)
          · skip
            refine vV.iload_n dX7_set_39 rfl ?_
            refine vV.iconst dX7_set_40 (by decide) ?_
            refine vV.icmp_ne (tgt := 49) dX7_set_41 (by decide) (fun h41 => ?_) (fun h41 => ?_)
            · skip
              refine vV.iconst dX7_set_49 (by decide) ?_
              refine vV.istore (L' := [_, _, _, _, _, _]) dX7_set_50 (by decide) rfl ?_
              exact h _ _ (by unfold pLo; split <;> omega) (by unfold pHi; split <;> (try split) <;> (try split) <;> omega) _
            · skip
              refine vV.bipush (v := 9) dX7_set_44 (by decide) (by decide) ?_
              refine vV.goto (tgt := 50) dX7_set_46 (by decide) ?_
              refine vV.istore (L' := [_, _, _, _, _, _]) dX7_set_50 (by decide) rfl ?_
              exact h _ _ (by unfold pLo; split <;> omega) (by unfold pHi; split <;> (try split) <;> (try split) <;> omega) _
          · skip
            refine vV.bipush (v := 6) dX7_set_34 (by decide) (by decide) ?_
            refine vV.goto (tgt := 50) dX7_set_36 (by decide) ?_
            refine vV.istore (L' := [_, _, _, _, _, _]) dX7_set_50 (by decide) rfl ?_
            exact h _ _ (by unfold pLo; split <;> omega) (by unfold pHi; split <;> (try split) <;> (try split) <;> omega) _
      · skip
        refine vV.bipush (v := 7) dX7_set_19 (by decide) (by decide) ?_
        refine vV.goto (tgt := 50) dX7_set_21 (by decide) ?_
        refine vV.istore (L' := [_, _, _, _, _, _]) dX7_set_50 (by decide) rfl ?_
        exact h _ _ (by unfold pLo; split <;> omega) (by unfold pHi; split <;> (try split) <;> (try split) <;> omega) _
    · skip
      refine vV.iconst dX7_set_9 (by decide) ?_
      refine vV.goto (tgt := 14) dX7_set_10 (by decide) ?_
      refine vV.istore_n (L' := [_, _, _, _, _, _]) dX7_set_14 (by decide) rfl ?_
      refine vV.iload_n dX7_set_15 rfl ?_
      refine vV.if_ne (tgt := 24) dX7_set_16 (by decide) (fun h16 => ?_) (fun h16 => ?_)
      · skip
        refine vV.iload_n dX7_set_24 rfl ?_
        refine vV.iconst dX7_set_25 (by decide) ?_
        refine vV.icmp_eq (tgt := 34) dX7_set_26 (by decide) (fun h26 => ?_) (fun h26 => ?_)
        · skip
          refine vV.bipush (v := 6) dX7_set_34 (by decide) (by decide) ?_
          refine vV.goto (tgt := 50) dX7_set_36 (by decide) ?_
          refine vV.istore (L' := [_, _, _, _, _, _]) dX7_set_50 (by decide) rfl ?_
          exact h _ _ (by unfold pLo; split <;> omega) (by unfold pHi; split <;> (try split) <;> (try split) <;> omega) _
        · skip
          refine vV.iload_n dX7_set_29 rfl ?_
          refine vV.iconst dX7_set_30 (by decide) ?_
          refine vV.icmp_ne (tgt := 39) dX7_set_31 (by decide) (fun h31 => ?_) (fun h31 => ?_)
          · skip
            refine vV.iload_n dX7_set_39 rfl ?_
            refine vV.iconst dX7_set_40 (by decide) ?_
            refine vV.icmp_ne (tgt := 49) dX7_set_41 (by decide) (fun h41 => ?_) (fun h41 => ?_)
            · skip
              refine vV.iconst dX7_set_49 (by decide) ?_
              refine vV.istore (L' := [_, _, _, _, _, _]) dX7_set_50 (by decide) rfl ?_
              exact h _ _ (by unfold pLo; split <;> omega) (by unfold pHi; split <;> (try split) <;> (try split) <;> omega) _
            · skip
              refine vV.bipush (v := 9) dX7_set_44 (by decide) (by decide) ?_
              refine vV.goto (tgt := 50) dX7_set_46 (by decide) ?_
              refine vV.istore (L' := [_, _, _, _, _, _]) dX7_set_50 (by decide) rfl ?_
              exact h _ _ (by unfold pLo; split <;> omega) (by unfold pHi; split <;> (try split) <;> (try split) <;> omega) _
          · skip
            refine vV.bipush (v := 6) dX7_set_34 (by decide) (by decide) ?_
            refine vV.goto (tgt := 50) dX7_set_36 (by decide) ?_
            refine vV.istore (L' := [_, _, _, _, _, _]) dX7_set_50 (by decide) rfl ?_
            exact h _ _ (by unfold pLo; split <;> omega) (by unfold pHi; split <;> (try split) <;> (try split) <;> omega) _
      · skip
        refine vV.bipush (v := 7) dX7_set_19 (by decide) (by decide) ?_
        refine vV.goto (tgt := 50) dX7_set_21 (by decide) ?_
        refine vV.istore (L' := [_, _, _, _, _, _]) dX7_set_50 (by decide) rfl ?_
        exact h _ _ (by unfold pLo; split <;> omega) (by unfold pHi; split <;> (try split) <;> (try split) <;> omega) _
