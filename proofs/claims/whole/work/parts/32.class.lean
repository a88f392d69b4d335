/-! ===== own: the class: plate, turn, about, tick, say, wipe, fault ===== -/
theorem yes01 {c : Prop} [Decidable c] {y : Int} (h : y = if c then 1 else 0) (hy : y ≠ 0) : c := by
  rcases Decidable.em c with z | z
  · exact z
  · rw [if_neg z] at h; exact absurd h hy
theorem no01 {c : Prop} [Decidable c] {y : Int} (h : y = if c then 1 else 0) (hy : y = 0) : ¬ c := by
  intro z; rw [if_pos z] at h; omega
def pPlateR (n : Nat) (pl : Int → Int) (x y z : Int) : Int := if ¬ ((0 ≤ x ∧ x ≤ 7) ∧ (2 ≤ y ∧ y ≤ 15) ∧ 1 ≤ z ∧ z ≤ 3) then -2 else if (pAt n pl x).isSome then -5 else if 6 ≤ n then -4 else n
theorem pPlate_2 {n : Nat} {pl : Int → Int} {x y z : Int} (h : ¬ ((0 ≤ x ∧ x ≤ 7) ∧ (2 ≤ y ∧ y ≤ 15) ∧ 1 ≤ z ∧ z ≤ 3)) : pPlateR n pl x y z = -2 := if_pos h
theorem pPlate_5 {n : Nat} {pl : Int → Int} {x y z : Int} (h : (0 ≤ x ∧ x ≤ 7) ∧ (2 ≤ y ∧ y ≤ 15) ∧ 1 ≤ z ∧ z ≤ 3) (h2 : (pAt n pl x).isSome = true) : pPlateR n pl x y z = -5 := by unfold pPlateR; rw [if_neg (fun c => c h), if_pos h2]
theorem pPlate_4 {n : Nat} {pl : Int → Int} {x y z : Int} (h : (0 ≤ x ∧ x ≤ 7) ∧ (2 ≤ y ∧ y ≤ 15) ∧ 1 ≤ z ∧ z ≤ 3) (h2 : pAt n pl x = none) (h3 : 6 ≤ n) : pPlateR n pl x y z = -4 := by unfold pPlateR; rw [if_neg (fun c => c h), h2, if_neg (by simp), if_pos h3]
theorem pPlate_0 {n : Nat} {pl : Int → Int} {x y z : Int} (h : (0 ≤ x ∧ x ≤ 7) ∧ (2 ≤ y ∧ y ≤ 15) ∧ 1 ≤ z ∧ z ≤ 3) (h2 : pAt n pl x = none) (h3 : n < 6) : pPlateR n pl x y z = n := by unfold pPlateR; rw [if_neg (fun c => c h), h2, if_neg (by simp), if_neg (by omega)]
theorem pOr_none {o : Option Nat} (h : pOr (-1) o < 0) : o = none := by
  cases o with
  | none => rfl
  | some p => rw [pOr_s] at h; omega
theorem pOr_some {o : Option Nat} (h : 0 ≤ pOr (-1) o) : o.isSome = true := by
  cases o with
  | none => rw [pOr_n] at h; omega
  | some p => rfl
def sAdd (M : vM) (n : Nat) (x y z : Int) : vM := vUpd (vUpd (vUpd (vUpd (vUpd M 11 n x) 12 n y) 13 n z) 14 n y) 10 0 (n + 1)
theorem dX6_plate_0 : decode cX6_plate 0 = .ok (.iload_n 1, 1) := by decide +kernel
theorem dX6_plate_1 : decode cX6_plate 1 = .ok (.iconst 0, 1) := by decide +kernel
theorem dX6_plate_2 : decode cX6_plate 2 = .ok (.bipush 7, 2) := by decide +kernel
theorem dX6_plate_4 : decode cX6_plate 4 = .ok (.invokestatic 58, 3) := by decide +kernel
theorem dX6_plate_7 : decode cX6_plate 7 = .ok (.ifCond .eq 22, 3) := by decide +kernel
theorem dX6_plate_10 : decode cX6_plate 10 = .ok (.iload_n 2, 1) := by decide +kernel
theorem dX6_plate_11 : decode cX6_plate 11 = .ok (.iconst 2, 1) := by decide +kernel
theorem dX6_plate_12 : decode cX6_plate 12 = .ok (.bipush 15, 2) := by decide +kernel
theorem dX6_plate_14 : decode cX6_plate 14 = .ok (.invokestatic 58, 3) := by decide +kernel
theorem dX6_plate_17 : decode cX6_plate 17 = .ok (.ifCond .eq 12, 3) := by decide +kernel
theorem dX6_plate_20 : decode cX6_plate 20 = .ok (.iload_n 3, 1) := by decide +kernel
theorem dX6_plate_21 : decode cX6_plate 21 = .ok (.iconst 1, 1) := by decide +kernel
theorem dX6_plate_22 : decode cX6_plate 22 = .ok (.iconst 3, 1) := by decide +kernel
theorem dX6_plate_23 : decode cX6_plate 23 = .ok (.invokestatic 58, 3) := by decide +kernel
theorem dX6_plate_26 : decode cX6_plate 26 = .ok (.ifCond .ne 6, 3) := by decide +kernel
theorem dX6_plate_29 : decode cX6_plate 29 = .ok (.bipush (-2), 2) := by decide +kernel
theorem dX6_plate_31 : decode cX6_plate 31 = .ok (.ireturn, 1) := by decide +kernel
theorem dX6_plate_32 : decode cX6_plate 32 = .ok (.aload_n 0, 1) := by decide +kernel
theorem dX6_plate_33 : decode cX6_plate 33 = .ok (.getfield 10, 3) := by decide +kernel
theorem dX6_plate_36 : decode cX6_plate 36 = .ok (.iload_n 1, 1) := by decide +kernel
theorem dX6_plate_37 : decode cX6_plate 37 = .ok (.invokevirtual 62, 3) := by decide +kernel
theorem dX6_plate_40 : decode cX6_plate 40 = .ok (.ifCond .lt 6, 3) := by decide +kernel
theorem dX6_plate_43 : decode cX6_plate 43 = .ok (.bipush (-5), 2) := by decide +kernel
theorem dX6_plate_45 : decode cX6_plate 45 = .ok (.ireturn, 1) := by decide +kernel
theorem dX6_plate_46 : decode cX6_plate 46 = .ok (.aload_n 0, 1) := by decide +kernel
theorem dX6_plate_47 : decode cX6_plate 47 = .ok (.getfield 10, 3) := by decide +kernel
theorem dX6_plate_50 : decode cX6_plate 50 = .ok (.getfield 66, 3) := by decide +kernel
theorem dX6_plate_53 : decode cX6_plate 53 = .ok (.bipush 6, 2) := by decide +kernel
theorem dX6_plate_55 : decode cX6_plate 55 = .ok (.if_icmp .lt 6, 3) := by decide +kernel
theorem dX6_plate_58 : decode cX6_plate 58 = .ok (.bipush (-4), 2) := by decide +kernel
theorem dX6_plate_60 : decode cX6_plate 60 = .ok (.ireturn, 1) := by decide +kernel
theorem dX6_plate_61 : decode cX6_plate 61 = .ok (.aload_n 0, 1) := by decide +kernel
theorem dX6_plate_62 : decode cX6_plate 62 = .ok (.getfield 10, 3) := by decide +kernel
theorem dX6_plate_65 : decode cX6_plate 65 = .ok (.iload_n 1, 1) := by decide +kernel
theorem dX6_plate_66 : decode cX6_plate 66 = .ok (.iload_n 2, 1) := by decide +kernel
theorem dX6_plate_67 : decode cX6_plate 67 = .ok (.iload_n 3, 1) := by decide +kernel
theorem dX6_plate_68 : decode cX6_plate 68 = .ok (.invokevirtual 70, 3) := by decide +kernel
theorem dX6_plate_71 : decode cX6_plate 71 = .ok (.ireturn, 1) := by decide +kernel
theorem c_X6_plate {d : List Nat} {T : vT} {M : vM} {n : Nat} {x y z : Int} (hB : vB T) (hW : sgW M 10 n) : vCon m_X6_plate d d [vR 0, vI x, vI y, vI z] T M (vPi fun r T1 M1 => T = T1 ∧ r = pPlateR n (M 11) x y z ∧ M1 = (if 0 ≤ pPlateR n (M 11) x y z then sAdd M n x y z else M)) := by
  have hc : M 10 0 = n := hW.cnt
  refine vCon.of (by decide) rfl rfl (Nat.le_of_ble_eq_true rfl) ?_
  refine vV.iload_n dX6_plate_0 rfl ?_
  refine vV.iconst dX6_plate_1 (by decide) ?_
  refine vV.bipush (v := 7) dX6_plate_2 (by decide) (by decide) ?_
  refine vV.cSi dX6_plate_4 ml_X6_58 cw_X6_within sw_X6_within (by unfold vRoom; decide) c_X6_within rfl rfl (Nat.le_of_ble_eq_true rfl) ?_
  rintro x4 _ _ hx4 ⟨hy4, rfl, rfl⟩
  refine vV.if_eq (tgt := 29) dX6_plate_7 (by decide) (fun h7 => ?_) (fun h7 => ?_)
  · skip
    have e2 : pPlateR n (M 11) x y z = -2 := pPlate_2 (fun c => no01 hy4 h7 c.1)
    refine vV.bipush (v := (-2)) dX6_plate_29 (by decide) (by decide) ?_
    refine vV.ri dX6_plate_31 rfl ?_
    exact ⟨rfl, e2.symm, by rw [e2]; rfl⟩
  · skip
    have g1 := yes01 hy4 h7
    refine vV.iload_n dX6_plate_10 rfl ?_
    refine vV.iconst dX6_plate_11 (by decide) ?_
    refine vV.bipush (v := 15) dX6_plate_12 (by decide) (by decide) ?_
    refine vV.cSi dX6_plate_14 ml_X6_58 cw_X6_within sw_X6_within (by unfold vRoom; decide) c_X6_within rfl rfl (Nat.le_of_ble_eq_true rfl) ?_
    rintro x14 _ _ hx14 ⟨hy14, rfl, rfl⟩
    refine vV.if_eq (tgt := 29) dX6_plate_17 (by decide) (fun h17 => ?_) (fun h17 => ?_)
    · skip
      have e2 : pPlateR n (M 11) x y z = -2 := pPlate_2 (fun c => no01 hy14 h17 c.2.1)
      refine vV.bipush (v := (-2)) dX6_plate_29 (by decide) (by decide) ?_
      refine vV.ri dX6_plate_31 rfl ?_
      exact ⟨rfl, e2.symm, by rw [e2]; rfl⟩
    · skip
      have g2 := yes01 hy14 h17
      refine vV.iload_n dX6_plate_20 rfl ?_
      refine vV.iconst dX6_plate_21 (by decide) ?_
      refine vV.iconst dX6_plate_22 (by decide) ?_
      refine vV.cSi dX6_plate_23 ml_X6_58 cw_X6_within sw_X6_within (by unfold vRoom; decide) c_X6_within rfl rfl (Nat.le_of_ble_eq_true rfl) ?_
      rintro x23 _ _ hx23 ⟨hy23, rfl, rfl⟩
      refine vV.if_ne (tgt := 32) dX6_plate_26 (by decide) (fun h26 => ?_) (fun h26 => ?_)
      · skip
        have g3 := yes01 hy23 h26
        refine vV.aload_n dX6_plate_32 rfl ?_
        refine vV.getr dX6_plate_33 fl_X6_10 (by first | rfl | assumption) rfl (by first | assumption | exact hB _ _ _ rfl) ?_
        refine vV.iload_n dX6_plate_36 rfl ?_
        refine vV.cVi dX6_plate_37 ml_X6_62 cw_X3_plateOn iw_X3_plateOn (by first | rfl | assumption) rfl (by unfold vRoom; decide) (c_X3_plateOn sgK_10 (sgT_10 hB) hW.cnt hW.le) rfl rfl (Nat.le_of_ble_eq_true rfl) ?_
        rintro x37 _ _ hx37 ⟨hy37, rfl, rfl⟩
        rw [hy37]
        refine vV.if_lt (tgt := 46) dX6_plate_40 (by decide) (fun h40 => ?_) (fun h40 => ?_)
        · skip
          have g4 : pAt n (M 11) x = none := pOr_none h40
          refine vV.aload_n dX6_plate_46 rfl ?_
          refine vV.getr dX6_plate_47 fl_X6_10 (by first | rfl | assumption) rfl (by first | assumption | exact hB _ _ _ rfl) ?_
          refine vV.geti (z := 0) dX6_plate_50 fl_X6_66 (by first | rfl | assumption) rfl rfl ?_
          refine vV.bipush (v := 6) dX6_plate_53 (by decide) (by decide) ?_
          refine vV.icmp_lt (tgt := 61) dX6_plate_55 (by decide) (fun h55 => ?_) (fun h55 => ?_)
          · skip
            have e2 : pPlateR n (M 11) x y z = n := pPlate_0 ⟨g1, g2, g3⟩ g4 (by omega)
            refine vV.aload_n dX6_plate_61 rfl ?_
            refine vV.getr dX6_plate_62 fl_X6_10 (by first | rfl | assumption) rfl (by first | assumption | exact hB _ _ _ rfl) ?_
            refine vV.iload_n dX6_plate_65 rfl ?_
            refine vV.iload_n dX6_plate_66 rfl ?_
            refine vV.iload_n dX6_plate_67 rfl ?_
            refine vV.cVi dX6_plate_68 ml_X6_70 cw_X3_add iw_X3_add (by first | rfl | assumption) rfl (by unfold vRoom; decide) (c_X3_add sgK_10 (sgT_10 hB) hW.cnt (by omega)) rfl rfl (Nat.le_of_ble_eq_true rfl) ?_
            rintro x68 _ _ hx68 ⟨rfl, rfl, rfl⟩
            refine vV.ri dX6_plate_71 rfl ?_
            exact ⟨rfl, e2.symm, by rw [e2, if_pos (by omega)]; rfl⟩
          · skip
            have e2 : pPlateR n (M 11) x y z = -4 := pPlate_4 ⟨g1, g2, g3⟩ g4 (by omega)
            refine vV.bipush (v := (-4)) dX6_plate_58 (by decide) (by decide) ?_
            refine vV.ri dX6_plate_60 rfl ?_
            exact ⟨rfl, e2.symm, by rw [e2]; rfl⟩
        · skip
          have e2 : pPlateR n (M 11) x y z = -5 := pPlate_5 ⟨g1, g2, g3⟩ (pOr_some h40)
          refine vV.bipush (v := (-5)) dX6_plate_43 (by decide) (by decide) ?_
          refine vV.ri dX6_plate_45 rfl ?_
          exact ⟨rfl, e2.symm, by rw [e2]; rfl⟩
      · skip
        have e2 : pPlateR n (M 11) x y z = -2 := pPlate_2 (fun c => no01 hy23 h26 c.2.2)
        refine vV.bipush (v := (-2)) dX6_plate_29 (by decide) (by decide) ?_
        refine vV.ri dX6_plate_31 rfl ?_
        exact ⟨rfl, e2.symm, by rw [e2]; rfl⟩
def pTurnR (n : Nat) (fu tu : Int → Int) (p v : Int) : Int := if ¬ (0 ≤ p ∧ p < n) then -1 else if ¬ (0 ≤ v ∧ v ≤ fu p) then -2 else tu p
theorem dX6_turn_0 : decode cX6_turn 0 = .ok (.aload_n 0, 1) := by decide +kernel
theorem dX6_turn_1 : decode cX6_turn 1 = .ok (.getfield 10, 3) := by decide +kernel
theorem dX6_turn_4 : decode cX6_turn 4 = .ok (.iload_n 1, 1) := by decide +kernel
theorem dX6_turn_5 : decode cX6_turn 5 = .ok (.invokevirtual 74, 3) := by decide +kernel
theorem dX6_turn_8 : decode cX6_turn 8 = .ok (.ifCond .ne 5, 3) := by decide +kernel
theorem dX6_turn_11 : decode cX6_turn 11 = .ok (.iconst (-1), 1) := by decide +kernel
theorem dX6_turn_12 : decode cX6_turn 12 = .ok (.ireturn, 1) := by decide +kernel
theorem dX6_turn_13 : decode cX6_turn 13 = .ok (.iload_n 2, 1) := by decide +kernel
theorem dX6_turn_14 : decode cX6_turn 14 = .ok (.iconst 0, 1) := by decide +kernel
theorem dX6_turn_15 : decode cX6_turn 15 = .ok (.aload_n 0, 1) := by decide +kernel
theorem dX6_turn_16 : decode cX6_turn 16 = .ok (.getfield 10, 3) := by decide +kernel
theorem dX6_turn_19 : decode cX6_turn 19 = .ok (.getfield 78, 3) := by decide +kernel
theorem dX6_turn_22 : decode cX6_turn 22 = .ok (.iload_n 1, 1) := by decide +kernel
theorem dX6_turn_23 : decode cX6_turn 23 = .ok (.iaload, 1) := by decide +kernel
theorem dX6_turn_24 : decode cX6_turn 24 = .ok (.invokestatic 58, 3) := by decide +kernel
theorem dX6_turn_27 : decode cX6_turn 27 = .ok (.ifCond .ne 6, 3) := by decide +kernel
theorem dX6_turn_30 : decode cX6_turn 30 = .ok (.bipush (-2), 2) := by decide +kernel
theorem dX6_turn_32 : decode cX6_turn 32 = .ok (.ireturn, 1) := by decide +kernel
theorem dX6_turn_33 : decode cX6_turn 33 = .ok (.aload_n 0, 1) := by decide +kernel
theorem dX6_turn_34 : decode cX6_turn 34 = .ok (.getfield 10, 3) := by decide +kernel
theorem dX6_turn_37 : decode cX6_turn 37 = .ok (.getfield 82, 3) := by decide +kernel
theorem dX6_turn_40 : decode cX6_turn 40 = .ok (.iload_n 1, 1) := by decide +kernel
theorem dX6_turn_41 : decode cX6_turn 41 = .ok (.iaload, 1) := by decide +kernel
theorem dX6_turn_42 : decode cX6_turn 42 = .ok (.istore_n 3, 1) := by decide +kernel
theorem dX6_turn_43 : decode cX6_turn 43 = .ok (.aload_n 0, 1) := by decide +kernel
theorem dX6_turn_44 : decode cX6_turn 44 = .ok (.getfield 10, 3) := by decide +kernel
theorem dX6_turn_47 : decode cX6_turn 47 = .ok (.getfield 82, 3) := by decide +kernel
theorem dX6_turn_50 : decode cX6_turn 50 = .ok (.iload_n 1, 1) := by decide +kernel
theorem dX6_turn_51 : decode cX6_turn 51 = .ok (.iload_n 2, 1) := by decide +kernel
theorem dX6_turn_52 : decode cX6_turn 52 = .ok (.iastore, 1) := by decide +kernel
theorem dX6_turn_53 : decode cX6_turn 53 = .ok (.iload_n 3, 1) := by decide +kernel
theorem dX6_turn_54 : decode cX6_turn 54 = .ok (.ireturn, 1) := by decide +kernel
theorem c_X6_turn {d : List Nat} {T : vT} {M : vM} {n : Nat} {p v : Int} (hB : vB T) (hW : sgW M 10 n) : vCon m_X6_turn d d [vR 0, vI p, vI v] T M (vPi fun r T1 M1 => T = T1 ∧ r = pTurnR n (M 12) (M 14) p v ∧ M1 = (if 0 ≤ pTurnR n (M 12) (M 14) p v then vUpd M 14 p v else M)) := by
  have hc : M 10 0 = n := hW.cnt
  have hn := hW.le
  have htu : 0 ≤ M 14 p := (hW.2.2.2.2.2.2.2.1 p).1
  refine vCon.of (by decide) rfl rfl (Nat.le_of_ble_eq_true rfl) ?_
  refine vV.aload_n dX6_turn_0 rfl ?_
  refine vV.getr dX6_turn_1 fl_X6_10 (by first | rfl | assumption) rfl (by first | assumption | exact hB _ _ _ rfl) ?_
  refine vV.iload_n dX6_turn_4 rfl ?_
  refine vV.cVi dX6_turn_5 ml_X6_74 cw_X3_has iw_X3_has (by first | rfl | assumption) rfl (by unfold vRoom; decide) (c_X3_has sgK_10) rfl rfl (Nat.le_of_ble_eq_true rfl) ?_
  rintro x5 _ _ hx5 ⟨hy5, rfl, rfl⟩
  rw [hc] at hy5
  refine vV.if_ne (tgt := 13) dX6_turn_8 (by decide) (fun h8 => ?_) (fun h8 => ?_)
  · skip
    have g1 := yes01 hy5 h8
    refine vV.iload_n dX6_turn_13 rfl ?_
    refine vV.iconst dX6_turn_14 (by decide) ?_
    refine vV.aload_n dX6_turn_15 rfl ?_
    refine vV.getr dX6_turn_16 fl_X6_10 (by first | rfl | assumption) rfl (by first | assumption | exact hB _ _ _ rfl) ?_
    refine vV.getr dX6_turn_19 fl_X6_78 (by first | rfl | assumption) rfl (by first | assumption | exact hB _ _ _ rfl) ?_
    refine vV.iload_n dX6_turn_22 rfl ?_
    refine vV.iald dX6_turn_23 (by first | rfl | assumption) (by omega) (by omega) ?_
    refine vV.cSi dX6_turn_24 ml_X6_58 cw_X6_within sw_X6_within (by unfold vRoom; decide) c_X6_within rfl rfl (Nat.le_of_ble_eq_true rfl) ?_
    rintro x24 _ _ hx24 ⟨hy24, rfl, rfl⟩
    refine vV.if_ne (tgt := 33) dX6_turn_27 (by decide) (fun h27 => ?_) (fun h27 => ?_)
    · skip
      have e2 : pTurnR n (M 12) (M 14) p v = M 14 p := by { unfold pTurnR; rw [if_neg (fun c => c g1), if_neg (fun c => c (yes01 hy24 h27))] }
      refine vV.aload_n dX6_turn_33 rfl ?_
      refine vV.getr dX6_turn_34 fl_X6_10 (by first | rfl | assumption) rfl (by first | assumption | exact hB _ _ _ rfl) ?_
      refine vV.getr dX6_turn_37 fl_X6_82 (by first | rfl | assumption) rfl (by first | assumption | exact hB _ _ _ rfl) ?_
      refine vV.iload_n dX6_turn_40 rfl ?_
      refine vV.iald dX6_turn_41 (by first | rfl | assumption) (by omega) (by omega) ?_
      refine vV.istore_n (L' := [_, _, _, _]) dX6_turn_42 (by decide) rfl ?_
      refine vV.aload_n dX6_turn_43 rfl ?_
      refine vV.getr dX6_turn_44 fl_X6_10 (by first | rfl | assumption) rfl (by first | assumption | exact hB _ _ _ rfl) ?_
      refine vV.getr dX6_turn_47 fl_X6_82 (by first | rfl | assumption) rfl (by first | assumption | exact hB _ _ _ rfl) ?_
      refine vV.iload_n dX6_turn_50 rfl ?_
      refine vV.iload_n dX6_turn_51 rfl ?_
      refine vV.iast dX6_turn_52 (by first | rfl | assumption) (by omega) (by omega) ?_
      refine vV.iload_n dX6_turn_53 rfl ?_
      refine vV.ri dX6_turn_54 rfl ?_
      exact ⟨rfl, e2.symm, by rw [e2, if_pos htu]⟩
    · skip
      have e2 : pTurnR n (M 12) (M 14) p v = -2 := by { unfold pTurnR; rw [if_neg (fun c => c g1), if_pos (no01 hy24 h27)] }
      refine vV.bipush (v := (-2)) dX6_turn_30 (by decide) (by decide) ?_
      refine vV.ri dX6_turn_32 rfl ?_
      exact ⟨rfl, e2.symm, by rw [e2]; rfl⟩
  · skip
    have e2 : pTurnR n (M 12) (M 14) p v = -1 := if_pos (no01 hy5 h8)
    refine vV.iconst dX6_turn_11 (by decide) ?_
    refine vV.ri dX6_turn_12 rfl ?_
    exact ⟨rfl, e2.symm, by rw [e2]; rfl⟩
def pAboutR (n : Nat) (pl fu fa tu : Int → Int) (p w : Int) : Int := if ¬ (0 ≤ p ∧ p < n) then -1 else if w = 0 then pl p else if w = 1 then fu p else if w = 2 then fa p else if w = 3 then tu p else -2
theorem dX6_about_0 : decode cX6_about 0 = .ok (.aload_n 0, 1) := by decide +kernel
theorem dX6_about_1 : decode cX6_about 1 = .ok (.getfield 10, 3) := by decide +kernel
theorem dX6_about_4 : decode cX6_about 4 = .ok (.iload_n 1, 1) := by decide +kernel
theorem dX6_about_5 : decode cX6_about 5 = .ok (.invokevirtual 74, 3) := by decide +kernel
theorem dX6_about_8 : decode cX6_about 8 = .ok (.ifCond .ne 5, 3) := by decide +kernel
theorem dX6_about_11 : decode cX6_about 11 = .ok (.iconst (-1), 1) := by decide +kernel
theorem dX6_about_12 : decode cX6_about 12 = .ok (.ireturn, 1) := by decide +kernel
theorem dX6_about_13 : decode cX6_about 13 = .ok (.iload_n 2, 1) := by decide +kernel
theorem dX6_about_14 : decode cX6_about 14 = .ok (.tableswitch 70 0 3 #[30, 40, 50, 60], 30) := by decide +kernel
theorem dX6_about_44 : decode cX6_about 44 = .ok (.aload_n 0, 1) := by decide +kernel
theorem dX6_about_45 : decode cX6_about 45 = .ok (.getfield 10, 3) := by decide +kernel
theorem dX6_about_48 : decode cX6_about 48 = .ok (.getfield 94, 3) := by decide +kernel
theorem dX6_about_51 : decode cX6_about 51 = .ok (.iload_n 1, 1) := by decide +kernel
theorem dX6_about_52 : decode cX6_about 52 = .ok (.iaload, 1) := by decide +kernel
theorem dX6_about_53 : decode cX6_about 53 = .ok (.ireturn, 1) := by decide +kernel
theorem dX6_about_54 : decode cX6_about 54 = .ok (.aload_n 0, 1) := by decide +kernel
theorem dX6_about_55 : decode cX6_about 55 = .ok (.getfield 10, 3) := by decide +kernel
theorem dX6_about_58 : decode cX6_about 58 = .ok (.getfield 78, 3) := by decide +kernel
theorem dX6_about_61 : decode cX6_about 61 = .ok (.iload_n 1, 1) := by decide +kernel
theorem dX6_about_62 : decode cX6_about 62 = .ok (.iaload, 1) := by decide +kernel
theorem dX6_about_63 : decode cX6_about 63 = .ok (.ireturn, 1) := by decide +kernel
theorem dX6_about_64 : decode cX6_about 64 = .ok (.aload_n 0, 1) := by decide +kernel
theorem dX6_about_65 : decode cX6_about 65 = .ok (.getfield 10, 3) := by decide +kernel
theorem dX6_about_68 : decode cX6_about 68 = .ok (.getfield 97, 3) := by decide +kernel
theorem dX6_about_71 : decode cX6_about 71 = .ok (.iload_n 1, 1) := by decide +kernel
theorem dX6_about_72 : decode cX6_about 72 = .ok (.iaload, 1) := by decide +kernel
theorem dX6_about_73 : decode cX6_about 73 = .ok (.ireturn, 1) := by decide +kernel
theorem dX6_about_74 : decode cX6_about 74 = .ok (.aload_n 0, 1) := by decide +kernel
theorem dX6_about_75 : decode cX6_about 75 = .ok (.getfield 10, 3) := by decide +kernel
theorem dX6_about_78 : decode cX6_about 78 = .ok (.getfield 82, 3) := by decide +kernel
theorem dX6_about_81 : decode cX6_about 81 = .ok (.iload_n 1, 1) := by decide +kernel
theorem dX6_about_82 : decode cX6_about 82 = .ok (.iaload, 1) := by decide +kernel
theorem dX6_about_83 : decode cX6_about 83 = .ok (.ireturn, 1) := by decide +kernel
theorem dX6_about_84 : decode cX6_about 84 = .ok (.bipush (-2), 2) := by decide +kernel
theorem dX6_about_86 : decode cX6_about 86 = .ok (.ireturn, 1) := by decide +kernel
theorem c_X6_about {d : List Nat} {T : vT} {M : vM} {n : Nat} {p w : Int} (hB : vB T) (hW : sgW M 10 n) : vCon m_X6_about d d [vR 0, vI p, vI w] T M (vPi fun r T1 M1 => r = pAboutR n (M 11) (M 12) (M 13) (M 14) p w ∧ T = T1 ∧ M = M1) := by
  have hc : M 10 0 = n := hW.cnt
  have hn := hW.le
  unfold pAboutR
  refine vCon.of (by decide) rfl rfl (Nat.le_of_ble_eq_true rfl) ?_
  refine vV.aload_n dX6_about_0 rfl ?_
  refine vV.getr dX6_about_1 fl_X6_10 (by first | rfl | assumption) rfl (by first | assumption | exact hB _ _ _ rfl) ?_
  refine vV.iload_n dX6_about_4 rfl ?_
  refine vV.cVi dX6_about_5 ml_X6_74 cw_X3_has iw_X3_has (by first | rfl | assumption) rfl (by unfold vRoom; decide) (c_X3_has sgK_10) rfl rfl (Nat.le_of_ble_eq_true rfl) ?_
  rintro x5 _ _ hx5 ⟨hy5, rfl, rfl⟩
  rw [hc] at hy5
  refine vV.if_ne (tgt := 13) dX6_about_8 (by decide) (fun h8 => ?_) (fun h8 => ?_)
  · skip
    have g1 := yes01 hy5 h8
    rw [if_neg (fun c => c g1)]
    refine vV.iload_n dX6_about_13 rfl ?_
    have hs14 : (w < 0 ∨ 3 < w) ∨ w = 0 ∨ w = 1 ∨ w = 2 ∨ w = 3 := by omega
    rcases hs14 with h14 | h14 | h14 | h14 | h14
    · refine vV.tswD (tgt := 84) dX6_about_14 h14 (by decide) ?_
      refine vV.bipush (v := (-2)) dX6_about_84 (by decide) (by decide) ?_
      refine vV.ri dX6_about_86 rfl ?_
      exact ⟨by rw [if_neg (by omega), if_neg (by omega), if_neg (by omega), if_neg (by omega)], rfl, rfl⟩
    · refine vV.tsw (tgt := 44) dX6_about_14 (0) h14 (by decide) (by decide) rfl (by decide) ?_
      refine vV.aload_n dX6_about_44 rfl ?_
      refine vV.getr dX6_about_45 fl_X6_10 (by first | rfl | assumption) rfl (by first | assumption | exact hB _ _ _ rfl) ?_
      refine vV.getr dX6_about_48 fl_X6_94 (by first | rfl | assumption) rfl (by first | assumption | exact hB _ _ _ rfl) ?_
      refine vV.iload_n dX6_about_51 rfl ?_
      refine vV.iald dX6_about_52 (by first | rfl | assumption) (by omega) (by omega) ?_
      refine vV.ri dX6_about_53 rfl ?_
      exact ⟨by rw [if_pos h14], rfl, rfl⟩
    · refine vV.tsw (tgt := 54) dX6_about_14 (1) h14 (by decide) (by decide) rfl (by decide) ?_
      refine vV.aload_n dX6_about_54 rfl ?_
      refine vV.getr dX6_about_55 fl_X6_10 (by first | rfl | assumption) rfl (by first | assumption | exact hB _ _ _ rfl) ?_
      refine vV.getr dX6_about_58 fl_X6_78 (by first | rfl | assumption) rfl (by first | assumption | exact hB _ _ _ rfl) ?_
      refine vV.iload_n dX6_about_61 rfl ?_
      refine vV.iald dX6_about_62 (by first | rfl | assumption) (by omega) (by omega) ?_
      refine vV.ri dX6_about_63 rfl ?_
      exact ⟨by rw [if_neg (by omega), if_pos h14], rfl, rfl⟩
    · refine vV.tsw (tgt := 64) dX6_about_14 (2) h14 (by decide) (by decide) rfl (by decide) ?_
      refine vV.aload_n dX6_about_64 rfl ?_
      refine vV.getr dX6_about_65 fl_X6_10 (by first | rfl | assumption) rfl (by first | assumption | exact hB _ _ _ rfl) ?_
      refine vV.getr dX6_about_68 fl_X6_97 (by first | rfl | assumption) rfl (by first | assumption | exact hB _ _ _ rfl) ?_
      refine vV.iload_n dX6_about_71 rfl ?_
      refine vV.iald dX6_about_72 (by first | rfl | assumption) (by omega) (by omega) ?_
      refine vV.ri dX6_about_73 rfl ?_
      exact ⟨by rw [if_neg (by omega), if_neg (by omega), if_pos h14], rfl, rfl⟩
    · refine vV.tsw (tgt := 74) dX6_about_14 (3) h14 (by decide) (by decide) rfl (by decide) ?_
      refine vV.aload_n dX6_about_74 rfl ?_
      refine vV.getr dX6_about_75 fl_X6_10 (by first | rfl | assumption) rfl (by first | assumption | exact hB _ _ _ rfl) ?_
      refine vV.getr dX6_about_78 fl_X6_82 (by first | rfl | assumption) rfl (by first | assumption | exact hB _ _ _ rfl) ?_
      refine vV.iload_n dX6_about_81 rfl ?_
      refine vV.iald dX6_about_82 (by first | rfl | assumption) (by omega) (by omega) ?_
      refine vV.ri dX6_about_83 rfl ?_
      exact ⟨by rw [if_neg (by omega), if_neg (by omega), if_neg (by omega), if_pos h14], rfl, rfl⟩
  · skip
    rw [if_pos (no01 hy5 h8)]
    refine vV.iconst dX6_about_11 (by decide) ?_
    refine vV.ri dX6_about_12 rfl ?_
    exact ⟨rfl, rfl, rfl⟩
