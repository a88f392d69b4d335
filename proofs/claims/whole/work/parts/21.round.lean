/-! ===== own: the reference: at, round ===== -/
theorem dX7_at_0 : decode cX7_at 0 = .ok (.iload_n 3, 1) := by decide +kernel
theorem dX7_at_1 : decode cX7_at 1 = .ok (.iconst (-1), 1) := by decide +kernel
theorem dX7_at_2 : decode cX7_at 2 = .ok (.if_icmp .eq 19, 3) := by decide +kernel
theorem dX7_at_5 : decode cX7_at 5 = .ok (.iload_n 3, 1) := by decide +kernel
theorem dX7_at_6 : decode cX7_at 6 = .ok (.bipush (-2), 2) := by decide +kernel
theorem dX7_at_8 : decode cX7_at 8 = .ok (.if_icmp .eq 13, 3) := by decide +kernel
theorem dX7_at_11 : decode cX7_at 11 = .ok (.aload_n 0, 1) := by decide +kernel
theorem dX7_at_12 : decode cX7_at 12 = .ok (.iload_n 3, 1) := by decide +kernel
theorem dX7_at_13 : decode cX7_at 13 = .ok (.invokevirtual 108, 3) := by decide +kernel
theorem dX7_at_16 : decode cX7_at 16 = .ok (.ifCond .ne 5, 3) := by decide +kernel
theorem dX7_at_19 : decode cX7_at 19 = .ok (.iconst (-1), 1) := by decide +kernel
theorem dX7_at_20 : decode cX7_at 20 = .ok (.ireturn, 1) := by decide +kernel
theorem dX7_at_21 : decode cX7_at 21 = .ok (.iload_n 1, 1) := by decide +kernel
theorem dX7_at_22 : decode cX7_at 22 = .ok (.invokestatic 229, 3) := by decide +kernel
theorem dX7_at_25 : decode cX7_at 25 = .ok (.ifCond .eq 15, 3) := by decide +kernel
theorem dX7_at_28 : decode cX7_at 28 = .ok (.iload_n 2, 1) := by decide +kernel
theorem dX7_at_29 : decode cX7_at 29 = .ok (.i2l, 1) := by decide +kernel
theorem dX7_at_30 : decode cX7_at 30 = .ok (.lconst 0, 1) := by decide +kernel
theorem dX7_at_31 : decode cX7_at 31 = .ok (.ldc2_w 235, 3) := by decide +kernel
theorem dX7_at_34 : decode cX7_at 34 = .ok (.invokestatic 92, 3) := by decide +kernel
theorem dX7_at_37 : decode cX7_at 37 = .ok (.ifCond .ne 6, 3) := by decide +kernel
theorem dX7_at_40 : decode cX7_at 40 = .ok (.bipush (-2), 2) := by decide +kernel
theorem dX7_at_42 : decode cX7_at 42 = .ok (.ireturn, 1) := by decide +kernel
theorem dX7_at_43 : decode cX7_at 43 = .ok (.aload_n 0, 1) := by decide +kernel
theorem dX7_at_44 : decode cX7_at 44 = .ok (.invokevirtual 177, 3) := by decide +kernel
theorem dX7_at_47 : decode cX7_at 47 = .ok (.iconst 0, 1) := by decide +kernel
theorem dX7_at_48 : decode cX7_at 48 = .ok (.istore 4, 2) := by decide +kernel
theorem dX7_at_50 : decode cX7_at 50 = .ok (.iload 4, 2) := by decide +kernel
theorem dX7_at_52 : decode cX7_at 52 = .ok (.iload_n 2, 1) := by decide +kernel
theorem dX7_at_53 : decode cX7_at 53 = .ok (.if_icmp .ge 14, 3) := by decide +kernel
theorem dX7_at_56 : decode cX7_at 56 = .ok (.aload_n 0, 1) := by decide +kernel
theorem dX7_at_57 : decode cX7_at 57 = .ok (.iload_n 1, 1) := by decide +kernel
theorem dX7_at_58 : decode cX7_at 58 = .ok (.invokevirtual 226, 3) := by decide +kernel
theorem dX7_at_61 : decode cX7_at 61 = .ok (.iinc 4 1, 3) := by decide +kernel
theorem dX7_at_64 : decode cX7_at 64 = .ok (.goto (-14), 3) := by decide +kernel
theorem dX7_at_67 : decode cX7_at 67 = .ok (.iload_n 3, 1) := by decide +kernel
theorem dX7_at_68 : decode cX7_at 68 = .ok (.iconst (-1), 1) := by decide +kernel
theorem dX7_at_69 : decode cX7_at 69 = .ok (.if_icmp .ne 10, 3) := by decide +kernel
theorem dX7_at_72 : decode cX7_at 72 = .ok (.aload_n 0, 1) := by decide +kernel
theorem dX7_at_73 : decode cX7_at 73 = .ok (.getfield 123, 3) := by decide +kernel
theorem dX7_at_76 : decode cX7_at 76 = .ok (.goto 22, 3) := by decide +kernel
theorem dX7_at_79 : decode cX7_at 79 = .ok (.iload_n 3, 1) := by decide +kernel
theorem dX7_at_80 : decode cX7_at 80 = .ok (.bipush (-2), 2) := by decide +kernel
theorem dX7_at_82 : decode cX7_at 82 = .ok (.if_icmp .ne 10, 3) := by decide +kernel
theorem dX7_at_85 : decode cX7_at 85 = .ok (.aload_n 0, 1) := by decide +kernel
theorem dX7_at_86 : decode cX7_at 86 = .ok (.getfield 126, 3) := by decide +kernel
theorem dX7_at_89 : decode cX7_at 89 = .ok (.goto 9, 3) := by decide +kernel
theorem dX7_at_92 : decode cX7_at 92 = .ok (.aload_n 0, 1) := by decide +kernel
theorem dX7_at_93 : decode cX7_at 93 = .ok (.getfield 25, 3) := by decide +kernel
theorem dX7_at_96 : decode cX7_at 96 = .ok (.iload_n 3, 1) := by decide +kernel
theorem dX7_at_97 : decode cX7_at 97 = .ok (.iaload, 1) := by decide +kernel
theorem dX7_at_98 : decode cX7_at 98 = .ok (.ireturn, 1) := by decide +kernel
def rAt (rule ticks plate : Int) (P : pP) (lag : Nat) (s0 : pS) : Int :=
  if plate ≠ -1 ∧ plate ≠ -2 ∧ ¬ (0 ≤ plate ∧ plate < P.1) then -1 else if ¬ (0 ≤ rule ∧ rule ≤ 3) ∨ ¬ (0 ≤ ticks ∧ ticks ≤ 600) then -2 else
  if plate = -1 then (pTr rule P lag s0 ticks.toNat).1 else if plate = -2 then pOr (-6) (pTr rule P lag s0 ticks.toNat).2.2.1 else (pTr rule P lag s0 ticks.toNat).2.1 plate
theorem l_X7_at {d : List Nat} {T : vT} {M : vM} {rule plate : Int} {P : pP} {lag m : Nat} {s0 : pS} (hB : vB T) (hr0 : 0 ≤ rule) (hr3 : rule ≤ 3) (hm : m ≤ 600) (hpl : plate = -1 ∨ plate = -2 ∨ (0 ≤ plate ∧ plate < P.1)) : ∀ t, t ≤ m → ∀ N, mKeepB M N → mTj N rule P lag s0 t →
    vV m_X7_at d d (vPi fun r T1 M1 => T = T1 ∧ mKeepB M M1 ∧ r = (if plate = -1 then (pTr rule P lag s0 m).1 else if plate = -2 then pOr (-6) (pTr rule P lag s0 m).2.2.1 else (pTr rule P lag s0 m).2.1 plate)) 50 [some (vR 200), some (vI rule), some (vI m), some (vI plate), some (vI t)] [] d T N := by
  refine vUp ?_
  intro t ht ih N hk hj
  have hS := hj.S
  have hn := hS.2.1
  refine vV.iload dX7_at_50 rfl ?_
  refine vV.iload_n dX7_at_52 rfl ?_
  refine vV.icmp_ge (tgt := 67) dX7_at_53 (by decide) (fun h53 => ?_) (fun h53 => ?_)
  · skip
    have htm : t = m := by omega
    subst htm
    refine vV.iload_n dX7_at_67 rfl ?_
    refine vV.iconst dX7_at_68 (by decide) ?_
    refine vV.icmp_ne (tgt := 79) dX7_at_69 (by decide) (fun h69 => ?_) (fun h69 => ?_)
    · skip
      refine vV.iload_n dX7_at_79 rfl ?_
      refine vV.bipush (v := (-2)) dX7_at_80 (by decide) (by decide) ?_
      refine vV.icmp_ne (tgt := 92) dX7_at_82 (by decide) (fun h82 => ?_) (fun h82 => ?_)
      · skip
        refine vV.aload_n dX7_at_92 rfl ?_
        refine vV.getr dX7_at_93 fl_X7_25 (by first | rfl | assumption) rfl (by first | assumption | exact hB _ _ _ rfl) ?_
        refine vV.iload_n dX7_at_96 rfl ?_
        refine vV.iald dX7_at_97 (by first | rfl | assumption) (by omega) (by omega) ?_
        refine vV.ri dX7_at_98 rfl ?_
        exact ⟨rfl, hk, by rw [if_neg h69, if_neg h82, hj.tu]⟩
      · skip
        refine vV.aload_n dX7_at_85 rfl ?_
        refine vV.geti (z := 13) dX7_at_86 fl_X7_126 (by first | rfl | assumption) rfl rfl ?_
        refine vV.goto (tgt := 98) dX7_at_89 (by decide) ?_
        refine vV.ri dX7_at_98 rfl ?_
        exact ⟨rfl, hk, by rw [if_neg h69, if_pos h82]; exact hS.2.2.2.2.2.2.2.1⟩
        skip
    · skip
      refine vV.aload_n dX7_at_72 rfl ?_
      refine vV.geti (z := 12) dX7_at_73 fl_X7_123 (by first | rfl | assumption) rfl rfl ?_
      refine vV.goto (tgt := 98) dX7_at_76 (by decide) ?_
      refine vV.ri dX7_at_98 rfl ?_
      exact ⟨rfl, hk, by rw [if_pos h69]; exact hj.man⟩
      skip
  · skip
    refine vV.aload_n dX7_at_56 rfl ?_
    refine vV.iload_n dX7_at_57 rfl ?_
    refine vV.cVv dX7_at_58 ml_X7_226 cw_X7_goBy iw_X7_goBy (by first | rfl | assumption) rfl (by unfold vRoom; decide) (c_X7_goByT hB hj (by omega) hr0 hr3) rfl rfl (Nat.le_of_ble_eq_true rfl) ?_
    rintro _ N1 ⟨rfl, hk1, hj1⟩
    refine vV.iinc (L' := [_, _, _, _, _]) dX7_at_61 (by decide) rfl (⟨by omega, by omega⟩) rfl ?_
    refine vV.goto (tgt := 50) dX7_at_64 (by decide) ?_
    exact ih (by omega) N1 (hk.tr hk1) hj1
theorem c_X7_at {d : List Nat} {T : vT} {M : vM} {n lag : Nat} {rule ticks plate : Int} (hB : vB T) (hW : mW M n) (hlag : M 200 8 = lag) : vCon m_X7_at d d [vR 200, vI rule, vI ticks, vI plate] T M (vPi fun r T1 M1 => T = T1 ∧ mKeepB M M1 ∧ r = rAt rule ticks plate (mPb M n) lag (mS0 M n)) := by
  unfold rAt
  have hn := hW.2.1.1
  have hPn : ((mPb M n).1 : Int) = (n : Int) := rfl
  refine vCon.of (by decide) rfl rfl (Nat.le_of_ble_eq_true rfl) ?_
  have hgo : (plate = -1 ∨ plate = -2 ∨ (0 ≤ plate ∧ plate < n)) → vV m_X7_at d d (vPi fun r T1 M1 => T = T1 ∧ mKeepB M M1 ∧ r = (if plate ≠ -1 ∧ plate ≠ -2 ∧ ¬ (0 ≤ plate ∧ plate < (mPb M n).1) then -1 else if ¬ (0 ≤ rule ∧ rule ≤ 3) ∨ ¬ (0 ≤ ticks ∧ ticks ≤ 600) then -2 else if plate = -1 then (pTr rule (mPb M n) lag (mS0 M n) ticks.toNat).1 else if plate = -2 then pOr (-6) (pTr rule (mPb M n) lag (mS0 M n) ticks.toNat).2.2.1 else (pTr rule (mPb M n) lag (mS0 M n) ticks.toNat).2.1 plate)) 21 [some (vR 200), some (vI rule), some (vI ticks), some (vI plate), none] [] d T M := by
    intro hpl
    rw [if_neg (by rw [hPn]; omega)]
    refine vV.iload_n dX7_at_21 rfl ?_
    refine vV.cSi dX7_at_22 ml_X7_229 cw_X7_isRule sw_X7_isRule (by unfold vRoom; decide) c_X7_isRule rfl rfl (Nat.le_of_ble_eq_true rfl) ?_
    rintro x22 _ _ hx22 ⟨hxe, rfl, rfl⟩
    refine vV.if_eq (tgt := 40) dX7_at_25 (by decide) (fun h25 => ?_) (fun h25 => ?_)
    · skip
      have hnr : ¬ (0 ≤ rule ∧ rule ≤ 3) := by { intro z; rw [hxe, if_pos z] at h25; omega }
      rw [if_pos (Or.inl hnr)]
      refine vV.bipush (v := (-2)) dX7_at_40 (by decide) (by decide) ?_
      refine vV.ri dX7_at_42 rfl ?_
      exact ⟨rfl, mKeepB.rf M, rfl⟩
    · skip
      have hir : 0 ≤ rule ∧ rule ≤ 3 := by { rcases Decidable.em (0 ≤ rule ∧ rule ≤ 3) with z | z; exact z; rw [hxe, if_neg z] at h25; omega }
      refine vV.iload_n dX7_at_28 rfl ?_
      refine vV.i2l dX7_at_29 ?_
      refine vV.lconst (v := 0) dX7_at_30 (by decide) (by decide) ?_
      refine vV.ldc2 (v := 600) dX7_at_31 kl_X7_235 (by decide) (by decide) ?_
      refine vV.cSi dX7_at_34 ml_X7_92 cw_X7_in sw_X7_in (by unfold vRoom; decide) c_X7_in rfl rfl (Nat.le_of_ble_eq_true rfl) ?_
      rintro x34 _ _ hx34 ⟨rfl, rfl, rfl⟩
      unfold pIn
      refine vV.if_ne (tgt := 43) dX7_at_37 (by decide) (fun h37 => ?_) (fun h37 => ?_)
      · skip
        have hti : 0 ≤ ticks ∧ ticks ≤ 600 := by { rcases Decidable.em (0 ≤ ticks ∧ ticks ≤ 600) with z | z; exact z; rw [if_neg z] at h37; omega }
        rw [if_neg (by omega)]
        refine vV.aload_n dX7_at_43 rfl ?_
        refine vV.cVv dX7_at_44 ml_X7_177 cw_X7_begin iw_X7_begin (by first | rfl | assumption) rfl (by unfold vRoom; decide) (c_X7_begin hB hW) rfl rfl (Nat.le_of_ble_eq_true rfl) ?_
        rintro _ N ⟨rfl, hb⟩
        have hj := mTj_begin (rule := rule) hW hlag hb
        obtain ⟨m, hm⟩ : ∃ m : Nat, (m : Int) = ticks := ⟨ticks.toNat, by omega⟩
        subst hm
        rw [Int.toNat_natCast]
        refine vV.iconst dX7_at_47 (by decide) ?_
        refine vV.istore (L' := [_, _, _, _, _]) dX7_at_48 (by decide) rfl ?_
        exact l_X7_at hB hir.1 hir.2 (by omega) (by rw [hPn]; exact hpl) 0 (by omega) N (hb.keep hW) hj
      · skip
        have hti : ¬ (0 ≤ ticks ∧ ticks ≤ 600) := by { intro z; rw [if_pos z] at h37; omega }
        rw [if_pos (Or.inr hti)]
        refine vV.bipush (v := (-2)) dX7_at_40 (by decide) (by decide) ?_
        refine vV.ri dX7_at_42 rfl ?_
        exact ⟨rfl, mKeepB.rf M, rfl⟩
  refine vV.iload_n dX7_at_0 rfl ?_
  refine vV.iconst dX7_at_1 (by decide) ?_
  refine vV.icmp_eq (tgt := 21) dX7_at_2 (by decide) (fun h2 => ?_) (fun h2 => ?_)
  · skip
    exact hgo (by omega)
  · skip
    refine vV.iload_n dX7_at_5 rfl ?_
    refine vV.bipush (v := (-2)) dX7_at_6 (by decide) (by decide) ?_
    refine vV.icmp_eq (tgt := 21) dX7_at_8 (by decide) (fun h8 => ?_) (fun h8 => ?_)
    · skip
      exact hgo (by omega)
    · skip
      refine vV.aload_n dX7_at_11 rfl ?_
      refine vV.iload_n dX7_at_12 rfl ?_
      refine vV.cVi dX7_at_13 ml_X7_108 cw_X7_isPlate iw_X7_isPlate (by first | rfl | assumption) rfl (by unfold vRoom; decide) (c_X7_isPlate hW.1 hn) rfl rfl (Nat.le_of_ble_eq_true rfl) ?_
      rintro x13 _ _ hx13 ⟨hxe, rfl, rfl⟩
      refine vV.if_ne (tgt := 21) dX7_at_16 (by decide) (fun h16 => ?_) (fun h16 => ?_)
      · skip
        have hip : 0 ≤ plate ∧ plate < n := by { rcases Decidable.em (0 ≤ plate ∧ plate < (n : Int)) with z | z; exact z; rw [hxe, if_neg z] at h16; omega }
        exact hgo (by omega)
      · skip
        have hip : ¬ (0 ≤ plate ∧ plate < n) := by { intro z; rw [hxe, if_pos z] at h16; omega }
        refine vV.iconst dX7_at_19 (by decide) ?_
        refine vV.ri dX7_at_20 rfl ?_
        exact ⟨rfl, mKeepB.rf M, by rw [if_pos (by rw [hPn]; exact ⟨h2, h8, hip⟩)]⟩
theorem dX7_isAs_0 : decode cX7_isAs 0 = .ok (.aload_n 0, 1) := by decide +kernel
theorem dX7_isAs_1 : decode cX7_isAs 1 = .ok (.getfield 31, 3) := by decide +kernel
theorem dX7_isAs_4 : decode cX7_isAs 4 = .ok (.iload_n 1, 1) := by decide +kernel
theorem dX7_isAs_5 : decode cX7_isAs 5 = .ok (.iaload, 1) := by decide +kernel
theorem dX7_isAs_6 : decode cX7_isAs 6 = .ok (.aload_n 0, 1) := by decide +kernel
theorem dX7_isAs_7 : decode cX7_isAs 7 = .ok (.getfield 31, 3) := by decide +kernel
theorem dX7_isAs_10 : decode cX7_isAs 10 = .ok (.iload_n 2, 1) := by decide +kernel
theorem dX7_isAs_11 : decode cX7_isAs 11 = .ok (.iaload, 1) := by decide +kernel
theorem dX7_isAs_12 : decode cX7_isAs 12 = .ok (.if_icmp .ne 7, 3) := by decide +kernel
theorem dX7_isAs_15 : decode cX7_isAs 15 = .ok (.iconst 1, 1) := by decide +kernel
theorem dX7_isAs_16 : decode cX7_isAs 16 = .ok (.goto 4, 3) := by decide +kernel
theorem dX7_isAs_19 : decode cX7_isAs 19 = .ok (.iconst 0, 1) := by decide +kernel
theorem dX7_isAs_20 : decode cX7_isAs 20 = .ok (.istore_n 3, 1) := by decide +kernel
theorem dX7_isAs_21 : decode cX7_isAs 21 = .ok (.iconst 0, 1) := by decide +kernel
theorem dX7_isAs_22 : decode cX7_isAs 22 = .ok (.istore 4, 2) := by decide +kernel
theorem dX7_isAs_24 : decode cX7_isAs 24 = .ok (.iload 4, 2) := by decide +kernel
theorem dX7_isAs_26 : decode cX7_isAs 26 = .ok (.aload_n 0, 1) := by decide +kernel
theorem dX7_isAs_27 : decode cX7_isAs 27 = .ok (.getfield 120, 3) := by decide +kernel
theorem dX7_isAs_30 : decode cX7_isAs 30 = .ok (.if_icmp .gt 60, 3) := by decide +kernel
theorem dX7_isAs_33 : decode cX7_isAs 33 = .ok (.iload_n 3, 1) := by decide +kernel
theorem dX7_isAs_34 : decode cX7_isAs 34 = .ok (.ifCond .eq 56, 3) := by decide +kernel
theorem dX7_isAs_37 : decode cX7_isAs 37 = .ok (.aload_n 0, 1) := by decide +kernel
theorem dX7_isAs_38 : decode cX7_isAs 38 = .ok (.getfield 28, 3) := by decide +kernel
theorem dX7_isAs_41 : decode cX7_isAs 41 = .ok (.iload_n 1, 1) := by decide +kernel
theorem dX7_isAs_42 : decode cX7_isAs 42 = .ok (.iload 4, 2) := by decide +kernel
theorem dX7_isAs_44 : decode cX7_isAs 44 = .ok (.if_icmp .ge 7, 3) := by decide +kernel
theorem dX7_isAs_47 : decode cX7_isAs 47 = .ok (.iconst 0, 1) := by decide +kernel
theorem dX7_isAs_48 : decode cX7_isAs 48 = .ok (.goto 7, 3) := by decide +kernel
theorem dX7_isAs_51 : decode cX7_isAs 51 = .ok (.iload_n 1, 1) := by decide +kernel
theorem dX7_isAs_52 : decode cX7_isAs 52 = .ok (.iload 4, 2) := by decide +kernel
theorem dX7_isAs_54 : decode cX7_isAs 54 = .ok (.isub, 1) := by decide +kernel
theorem dX7_isAs_55 : decode cX7_isAs 55 = .ok (.iaload, 1) := by decide +kernel
theorem dX7_isAs_56 : decode cX7_isAs 56 = .ok (.aload_n 0, 1) := by decide +kernel
theorem dX7_isAs_57 : decode cX7_isAs 57 = .ok (.getfield 28, 3) := by decide +kernel
theorem dX7_isAs_60 : decode cX7_isAs 60 = .ok (.iload_n 2, 1) := by decide +kernel
theorem dX7_isAs_61 : decode cX7_isAs 61 = .ok (.iload 4, 2) := by decide +kernel
theorem dX7_isAs_63 : decode cX7_isAs 63 = .ok (.if_icmp .ge 7, 3) := by decide +kernel
theorem dX7_isAs_66 : decode cX7_isAs 66 = .ok (.iconst 0, 1) := by decide +kernel
theorem dX7_isAs_67 : decode cX7_isAs 67 = .ok (.goto 7, 3) := by decide +kernel
theorem dX7_isAs_70 : decode cX7_isAs 70 = .ok (.iload_n 2, 1) := by decide +kernel
theorem dX7_isAs_71 : decode cX7_isAs 71 = .ok (.iload 4, 2) := by decide +kernel
theorem dX7_isAs_73 : decode cX7_isAs 73 = .ok (.isub, 1) := by decide +kernel
theorem dX7_isAs_74 : decode cX7_isAs 74 = .ok (.iaload, 1) := by decide +kernel
theorem dX7_isAs_75 : decode cX7_isAs 75 = .ok (.if_icmp .ne 7, 3) := by decide +kernel
theorem dX7_isAs_78 : decode cX7_isAs 78 = .ok (.iconst 1, 1) := by decide +kernel
theorem dX7_isAs_79 : decode cX7_isAs 79 = .ok (.goto 4, 3) := by decide +kernel
theorem dX7_isAs_82 : decode cX7_isAs 82 = .ok (.iconst 0, 1) := by decide +kernel
theorem dX7_isAs_83 : decode cX7_isAs 83 = .ok (.istore_n 3, 1) := by decide +kernel
theorem dX7_isAs_84 : decode cX7_isAs 84 = .ok (.iinc 4 1, 3) := by decide +kernel
theorem dX7_isAs_87 : decode cX7_isAs 87 = .ok (.goto (-63), 3) := by decide +kernel
theorem dX7_isAs_90 : decode cX7_isAs 90 = .ok (.iload_n 3, 1) := by decide +kernel
theorem dX7_isAs_91 : decode cX7_isAs 91 = .ok (.ireturn, 1) := by decide +kernel
def pAll (rule : Int) (P : pP) (lag : Nat) (s0 : pS) (a b : Nat) : Nat → Bool
  | 0 => true
  | k + 1 => pAll rule P lag s0 a b k && decide (pPack (pTr rule P lag s0 (a - k)).2.1 P.1 = pPack (pTr rule P lag s0 (b - k)).2.1 P.1)
theorem pAll_mono {rule : Int} {P : pP} {lag : Nat} {s0 : pS} {a b k : Nat} : ∀ {m}, k ≤ m → pAll rule P lag s0 a b k = false → pAll rule P lag s0 a b m = false
  | 0, h, hf => by rw [show k = 0 by omega] at hf; cases hf
  | m + 1, h, hf => by
    by_cases hk : k ≤ m
    · unfold pAll; rw [pAll_mono hk hf]; rfl
    · rw [show m + 1 = k by omega]; exact hf
/-- all is at tick a as at tick b -/
def pAs (rule : Int) (P : pP) (lag : Nat) (s0 : pS) (a b : Nat) : Bool := decide (pRS (pTr rule P lag s0 a) = pRS (pTr rule P lag s0 b)) && pAll rule P lag s0 a b (lag + 1)
theorem mTj.log {M : vM} {rule : Int} {P : pP} {lag : Nat} {s0 : pS} {t i : Nat} (h : mTj M rule P lag s0 t) (hi : i ≤ t) : M 218 i = pPack (pTr rule P lag s0 i).2.1 P.1 := by
  obtain ⟨-, -, ⟨hist, h1, -, h2, -⟩, -⟩ := h
  rw [h2.1 i hi, h1 i hi]
theorem l_X7_isAs {d : List Nat} {T : vT} {M : vM} {rule : Int} {P : pP} {lag a b : Nat} {s0 : pS} (hB : vB T) (hj : mTj M rule P lag s0 600) (ha : a ≤ 600) (hb : b ≤ 600) (hl3 : lag ≤ 3) (e : Bool) : ∀ k, k ≤ lag + 1 →
    vV m_X7_isAs d d (vPi fun r T1 M1 => r = bI (e && pAll rule P lag s0 a b (lag + 1)) ∧ T = T1 ∧ M = M1) 24 [some (vR 200), some (vI a), some (vI b), some (vI (bI (e && pAll rule P lag s0 a b k))), some (vI k)] [] d T M := by
  have hlag := hj.2.1
  refine vUp ?_
  intro k hk ih
  have h01 := bI_01 (e && pAll rule P lag s0 a b k)
  have hL1 := hj.log (i := a - k) (by omega)
  have hL2 := hj.log (i := b - k) (by omega)
  have hfe : k ≤ lag → (e && pAll rule P lag s0 a b k) = false → bI (e && pAll rule P lag s0 a b (lag + 1)) = 0 := by
    intro h1 h2
    cases he : e with
    | false => rfl
    | true => rw [he] at h2; simp at h2; rw [pAll_mono (show k ≤ lag + 1 by omega) h2]; rfl
  have hnx : (e && pAll rule P lag s0 a b k) = true → bI (e && pAll rule P lag s0 a b (k + 1)) = (if M 218 ((a - k : Nat) : Int) = M 218 ((b - k : Nat) : Int) then 1 else 0) := by
    intro h
    simp at h
    rw [hL1, hL2]
    unfold bI
    rw [show pAll rule P lag s0 a b (k + 1) = (pAll rule P lag s0 a b k && decide (pPack (pTr rule P lag s0 (a - k)).2.1 P.1 = pPack (pTr rule P lag s0 (b - k)).2.1 P.1)) from rfl, h.1, h.2]
    simp
  obtain ⟨c, hcc⟩ : ∃ c : Bool, c = (e && pAll rule P lag s0 a b k) := ⟨_, rfl⟩
  rw [← hcc] at hfe hnx h01 ⊢
  cases c with
  | false =>
    have hz := fun h => hfe h rfl
    refine vV.iload dX7_isAs_24 rfl ?_
    refine vV.aload_n dX7_isAs_26 rfl ?_
    refine vV.geti (z := 8) dX7_isAs_27 fl_X7_120 (by first | rfl | assumption) rfl rfl ?_
    refine vV.icmp_gt (tgt := 90) dX7_isAs_30 (by decide) (fun h30 => ?_) (fun h30 => ?_)
    · skip
      refine vV.iload_n dX7_isAs_90 rfl ?_
      refine vV.rz dX7_isAs_91 rfl (by first | exact Or.inl rfl | exact Or.inr rfl | assumption) ?_
      first | exact ⟨(hz (by omega)).symm, rfl, rfl⟩ | (refine ⟨?_, rfl, rfl⟩; rw [hcc, show k = lag + 1 by omega])
    · skip
      refine vV.iload_n dX7_isAs_33 rfl ?_
      refine vV.if_eq (tgt := 90) dX7_isAs_34 (by decide) (fun h34 => ?_) (fun h34 => ?_)
      · skip
        refine vV.iload_n dX7_isAs_90 rfl ?_
        refine vV.rz dX7_isAs_91 rfl (by first | exact Or.inl rfl | exact Or.inr rfl | assumption) ?_
        first | exact ⟨(hz (by omega)).symm, rfl, rfl⟩ | (refine ⟨?_, rfl, rfl⟩; rw [hcc, show k = lag + 1 by omega])
      · skip
        exact absurd rfl h34
  | true =>
    have hz := hnx rfl
    refine vV.iload dX7_isAs_24 rfl ?_
    refine vV.aload_n dX7_isAs_26 rfl ?_
    refine vV.geti (z := 8) dX7_isAs_27 fl_X7_120 (by first | rfl | assumption) rfl rfl ?_
    refine vV.icmp_gt (tgt := 90) dX7_isAs_30 (by decide) (fun h30 => ?_) (fun h30 => ?_)
    · skip
      refine vV.iload_n dX7_isAs_90 rfl ?_
      refine vV.rz dX7_isAs_91 rfl (by first | exact Or.inl rfl | exact Or.inr rfl | assumption) ?_
      (refine ⟨?_, rfl, rfl⟩; rw [hcc, show k = lag + 1 by omega])
    · skip
      refine vV.iload_n dX7_isAs_33 rfl ?_
      refine vV.if_eq (tgt := 90) dX7_isAs_34 (by decide) (fun h34 => ?_) (fun h34 => ?_)
      · skip
        exact absurd h34 (by decide)
      · skip
        refine vV.aload_n dX7_isAs_37 rfl ?_
        refine vV.getr dX7_isAs_38 fl_X7_28 (by first | rfl | assumption) rfl (by first | assumption | exact hB _ _ _ rfl) ?_
        refine vV.iload_n dX7_isAs_41 rfl ?_
        refine vV.iload dX7_isAs_42 rfl ?_
        refine vV.icmp_ge (tgt := 51) dX7_isAs_44 (by decide) (fun h44 => ?_) (fun h44 => ?_)
        · skip
          have ea : ((a : Int) - k) = ((a - k : Nat) : Int) := by omega
          refine vV.iload_n dX7_isAs_51 rfl ?_
          refine vV.iload dX7_isAs_52 rfl ?_
          refine vV.isub dX7_isAs_54 (⟨by omega, by omega⟩) ?_
          rw [ea]
          refine vV.iald dX7_isAs_55 (by first | rfl | assumption) (by omega) (by omega) ?_
          refine vV.aload_n dX7_isAs_56 rfl ?_
          refine vV.getr dX7_isAs_57 fl_X7_28 (by first | rfl | assumption) rfl (by first | assumption | exact hB _ _ _ rfl) ?_
          refine vV.iload_n dX7_isAs_60 rfl ?_
          refine vV.iload dX7_isAs_61 rfl ?_
          refine vV.icmp_ge (tgt := 70) dX7_isAs_63 (by decide) (fun h63 => ?_) (fun h63 => ?_)
          · skip
            have eb : ((b : Int) - k) = ((b - k : Nat) : Int) := by omega
            refine vV.iload_n dX7_isAs_70 rfl ?_
            refine vV.iload dX7_isAs_71 rfl ?_
            refine vV.isub dX7_isAs_73 (⟨by omega, by omega⟩) ?_
            rw [eb]
            refine vV.iald dX7_isAs_74 (by first | rfl | assumption) (by omega) (by omega) ?_
            refine vV.icmp_ne (tgt := 82) dX7_isAs_75 (by decide) (fun h75 => ?_) (fun h75 => ?_)
            · skip
              rw [if_neg h75] at hz
              refine vV.iconst dX7_isAs_82 (by decide) ?_
              refine vV.istore_n (L' := [_, _, _, _, _]) dX7_isAs_83 (by decide) rfl ?_
              refine vV.iinc (L' := [_, _, _, _, _]) dX7_isAs_84 (by decide) rfl (⟨by omega, by omega⟩) rfl ?_
              refine vV.goto (tgt := 24) dX7_isAs_87 (by decide) ?_
              rw [hz] at ih; exact ih (by omega)
            · skip
              rw [if_pos h75] at hz
              refine vV.iconst dX7_isAs_78 (by decide) ?_
              refine vV.goto (tgt := 83) dX7_isAs_79 (by decide) ?_
              refine vV.istore_n (L' := [_, _, _, _, _]) dX7_isAs_83 (by decide) rfl ?_
              refine vV.iinc (L' := [_, _, _, _, _]) dX7_isAs_84 (by decide) rfl (⟨by omega, by omega⟩) rfl ?_
              refine vV.goto (tgt := 24) dX7_isAs_87 (by decide) ?_
              rw [hz] at ih; exact ih (by omega)
          · skip
            have eb : (0 : Int) = ((b - k : Nat) : Int) := by omega
            refine vV.iconst dX7_isAs_66 (by decide) ?_
            refine vV.goto (tgt := 74) dX7_isAs_67 (by decide) ?_
            rw [eb]
            refine vV.iald dX7_isAs_74 (by first | rfl | assumption) (by omega) (by omega) ?_
            refine vV.icmp_ne (tgt := 82) dX7_isAs_75 (by decide) (fun h75 => ?_) (fun h75 => ?_)
            · skip
              rw [if_neg h75] at hz
              refine vV.iconst dX7_isAs_82 (by decide) ?_
              refine vV.istore_n (L' := [_, _, _, _, _]) dX7_isAs_83 (by decide) rfl ?_
              refine vV.iinc (L' := [_, _, _, _, _]) dX7_isAs_84 (by decide) rfl (⟨by omega, by omega⟩) rfl ?_
              refine vV.goto (tgt := 24) dX7_isAs_87 (by decide) ?_
              rw [hz] at ih; exact ih (by omega)
            · skip
              rw [if_pos h75] at hz
              refine vV.iconst dX7_isAs_78 (by decide) ?_
              refine vV.goto (tgt := 83) dX7_isAs_79 (by decide) ?_
              refine vV.istore_n (L' := [_, _, _, _, _]) dX7_isAs_83 (by decide) rfl ?_
              refine vV.iinc (L' := [_, _, _, _, _]) dX7_isAs_84 (by decide) rfl (⟨by omega, by omega⟩) rfl ?_
              refine vV.goto (tgt := 24) dX7_isAs_87 (by decide) ?_
              rw [hz] at ih; exact ih (by omega)
        · skip
          have ea : (0 : Int) = ((a - k : Nat) : Int) := by omega
          refine vV.iconst dX7_isAs_47 (by decide) ?_
          refine vV.goto (tgt := 55) dX7_isAs_48 (by decide) ?_
          rw [ea]
          refine vV.iald dX7_isAs_55 (by first | rfl | assumption) (by omega) (by omega) ?_
          refine vV.aload_n dX7_isAs_56 rfl ?_
          refine vV.getr dX7_isAs_57 fl_X7_28 (by first | rfl | assumption) rfl (by first | assumption | exact hB _ _ _ rfl) ?_
          refine vV.iload_n dX7_isAs_60 rfl ?_
          refine vV.iload dX7_isAs_61 rfl ?_
          refine vV.icmp_ge (tgt := 70) dX7_isAs_63 (by decide) (fun h63 => ?_) (fun h63 => ?_)
          · skip
            have eb : ((b : Int) - k) = ((b - k : Nat) : Int) := by omega
            refine vV.iload_n dX7_isAs_70 rfl ?_
            refine vV.iload dX7_isAs_71 rfl ?_
            refine vV.isub dX7_isAs_73 (⟨by omega, by omega⟩) ?_
            rw [eb]
            refine vV.iald dX7_isAs_74 (by first | rfl | assumption) (by omega) (by omega) ?_
            refine vV.icmp_ne (tgt := 82) dX7_isAs_75 (by decide) (fun h75 => ?_) (fun h75 => ?_)
            · skip
              rw [if_neg h75] at hz
              refine vV.iconst dX7_isAs_82 (by decide) ?_
              refine vV.istore_n (L' := [_, _, _, _, _]) dX7_isAs_83 (by decide) rfl ?_
              refine vV.iinc (L' := [_, _, _, _, _]) dX7_isAs_84 (by decide) rfl (⟨by omega, by omega⟩) rfl ?_
              refine vV.goto (tgt := 24) dX7_isAs_87 (by decide) ?_
              rw [hz] at ih; exact ih (by omega)
            · skip
              rw [if_pos h75] at hz
              refine vV.iconst dX7_isAs_78 (by decide) ?_
              refine vV.goto (tgt := 83) dX7_isAs_79 (by decide) ?_
              refine vV.istore_n (L' := [_, _, _, _, _]) dX7_isAs_83 (by decide) rfl ?_
              refine vV.iinc (L' := [_, _, _, _, _]) dX7_isAs_84 (by decide) rfl (⟨by omega, by omega⟩) rfl ?_
              refine vV.goto (tgt := 24) dX7_isAs_87 (by decide) ?_
              rw [hz] at ih; exact ih (by omega)
          · skip
            have eb : (0 : Int) = ((b - k : Nat) : Int) := by omega
            refine vV.iconst dX7_isAs_66 (by decide) ?_
            refine vV.goto (tgt := 74) dX7_isAs_67 (by decide) ?_
            rw [eb]
            refine vV.iald dX7_isAs_74 (by first | rfl | assumption) (by omega) (by omega) ?_
            refine vV.icmp_ne (tgt := 82) dX7_isAs_75 (by decide) (fun h75 => ?_) (fun h75 => ?_)
            · skip
              rw [if_neg h75] at hz
              refine vV.iconst dX7_isAs_82 (by decide) ?_
              refine vV.istore_n (L' := [_, _, _, _, _]) dX7_isAs_83 (by decide) rfl ?_
              refine vV.iinc (L' := [_, _, _, _, _]) dX7_isAs_84 (by decide) rfl (⟨by omega, by omega⟩) rfl ?_
              refine vV.goto (tgt := 24) dX7_isAs_87 (by decide) ?_
              rw [hz] at ih; exact ih (by omega)
            · skip
              rw [if_pos h75] at hz
              refine vV.iconst dX7_isAs_78 (by decide) ?_
              refine vV.goto (tgt := 83) dX7_isAs_79 (by decide) ?_
              refine vV.istore_n (L' := [_, _, _, _, _]) dX7_isAs_83 (by decide) rfl ?_
              refine vV.iinc (L' := [_, _, _, _, _]) dX7_isAs_84 (by decide) rfl (⟨by omega, by omega⟩) rfl ?_
              refine vV.goto (tgt := 24) dX7_isAs_87 (by decide) ?_
              rw [hz] at ih; exact ih (by omega)
theorem c_X7_isAs {d : List Nat} {T : vT} {M : vM} {rule : Int} {P : pP} {lag a b : Nat} {s0 : pS} (hB : vB T) (hj : mTj M rule P lag s0 600) (ha : a ≤ 600) (hb : b ≤ 600) (hl3 : lag ≤ 3) : vCon m_X7_isAs d d [vR 200, vI a, vI b] T M (vPi fun r T1 M1 => r = bI (pAs rule P lag s0 a b) ∧ T = T1 ∧ M = M1) := by
  have h1 := hj.2.2.2 a ha
  have h2 := hj.2.2.2 b hb
  refine vCon.of (by decide) rfl rfl (Nat.le_of_ble_eq_true rfl) ?_
  have h := l_X7_isAs (d := d) hB hj ha hb hl3 (decide (pRS (pTr rule P lag s0 a) = pRS (pTr rule P lag s0 b))) 0 (by omega)
  rw [← h1, ← h2] at h
  unfold pAs
  rw [← h1, ← h2]
  refine vV.aload_n dX7_isAs_0 rfl ?_
  refine vV.getr dX7_isAs_1 fl_X7_31 (by first | rfl | assumption) rfl (by first | assumption | exact hB _ _ _ rfl) ?_
  refine vV.iload_n dX7_isAs_4 rfl ?_
  refine vV.iald dX7_isAs_5 (by first | rfl | assumption) (by omega) (by omega) ?_
  refine vV.aload_n dX7_isAs_6 rfl ?_
  refine vV.getr dX7_isAs_7 fl_X7_31 (by first | rfl | assumption) rfl (by first | assumption | exact hB _ _ _ rfl) ?_
  refine vV.iload_n dX7_isAs_10 rfl ?_
  refine vV.iald dX7_isAs_11 (by first | rfl | assumption) (by omega) (by omega) ?_
  refine vV.icmp_ne (tgt := 19) dX7_isAs_12 (by decide) (fun h12 => ?_) (fun h12 => ?_)
  · skip
    rw [show decide (M 219 a = M 219 b) = false by simpa using h12] at h
    refine vV.iconst dX7_isAs_19 (by decide) ?_
    refine vV.istore_n (L' := [_, _, _, _, _]) dX7_isAs_20 (by decide) rfl ?_
    refine vV.iconst dX7_isAs_21 (by decide) ?_
    refine vV.istore (L' := [_, _, _, _, _]) dX7_isAs_22 (by decide) rfl ?_
    first | (rw [show decide (M 219 a = M 219 b) = false by simpa using h12]; exact h) | (rw [show decide (M 219 a = M 219 b) = true by simpa using h12]; exact h)
  · skip
    rw [show decide (M 219 a = M 219 b) = true by simpa using h12] at h
    refine vV.iconst dX7_isAs_15 (by decide) ?_
    refine vV.goto (tgt := 20) dX7_isAs_16 (by decide) ?_
    refine vV.istore_n (L' := [_, _, _, _, _]) dX7_isAs_20 (by decide) rfl ?_
    refine vV.iconst dX7_isAs_21 (by decide) ?_
    refine vV.istore (L' := [_, _, _, _, _]) dX7_isAs_22 (by decide) rfl ?_
    first | (rw [show decide (M 219 a = M 219 b) = false by simpa using h12]; exact h) | (rw [show decide (M 219 a = M 219 b) = true by simpa using h12]; exact h)
