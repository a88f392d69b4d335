theorem dX3_can_0 : decode cX3_can 0 = .ok (.aload_n 0, 1) := by decide +kernel
theorem dX3_can_1 : decode cX3_can 1 = .ok (.getfield 32, 3) := by decide +kernel
theorem dX3_can_4 : decode cX3_can 4 = .ok (.iconst 0, 1) := by decide +kernel
theorem dX3_can_5 : decode cX3_can 5 = .ok (.iaload, 1) := by decide +kernel
theorem dX3_can_6 : decode cX3_can 6 = .ok (.istore_n 2, 1) := by decide +kernel
theorem dX3_can_7 : decode cX3_can 7 = .ok (.iload_n 1, 1) := by decide +kernel
theorem dX3_can_8 : decode cX3_can 8 = .ok (.tableswitch 52 0 2 #[28, 30, 40], 28) := by decide +kernel
theorem dX3_can_36 : decode cX3_can 36 = .ok (.iconst 1, 1) := by decide +kernel
theorem dX3_can_37 : decode cX3_can 37 = .ok (.ireturn, 1) := by decide +kernel
theorem dX3_can_38 : decode cX3_can 38 = .ok (.iload_n 2, 1) := by decide +kernel
theorem dX3_can_39 : decode cX3_can 39 = .ok (.ifCond .le 7, 3) := by decide +kernel
theorem dX3_can_42 : decode cX3_can 42 = .ok (.iconst 1, 1) := by decide +kernel
theorem dX3_can_43 : decode cX3_can 43 = .ok (.goto 4, 3) := by decide +kernel
theorem dX3_can_46 : decode cX3_can 46 = .ok (.iconst 0, 1) := by decide +kernel
theorem dX3_can_47 : decode cX3_can 47 = .ok (.ireturn, 1) := by decide +kernel
theorem dX3_can_48 : decode cX3_can 48 = .ok (.iload_n 2, 1) := by decide +kernel
theorem dX3_can_49 : decode cX3_can 49 = .ok (.bipush 7, 2) := by decide +kernel
theorem dX3_can_51 : decode cX3_can 51 = .ok (.if_icmp .ge 7, 3) := by decide +kernel
theorem dX3_can_54 : decode cX3_can 54 = .ok (.iconst 1, 1) := by decide +kernel
theorem dX3_can_55 : decode cX3_can 55 = .ok (.goto 4, 3) := by decide +kernel
theorem dX3_can_58 : decode cX3_can 58 = .ok (.iconst 0, 1) := by decide +kernel
theorem dX3_can_59 : decode cX3_can 59 = .ok (.ireturn, 1) := by decide +kernel
theorem dX3_can_60 : decode cX3_can 60 = .ok (.aload_n 0, 1) := by decide +kernel
theorem dX3_can_61 : decode cX3_can 61 = .ok (.iload_n 2, 1) := by decide +kernel
theorem dX3_can_62 : decode cX3_can 62 = .ok (.invokevirtual 45, 3) := by decide +kernel
theorem dX3_can_65 : decode cX3_can 65 = .ok (.istore_n 3, 1) := by decide +kernel
theorem dX3_can_66 : decode cX3_can 66 = .ok (.iload_n 3, 1) := by decide +kernel
theorem dX3_can_67 : decode cX3_can 67 = .ok (.ifCond .lt 16, 3) := by decide +kernel
theorem dX3_can_70 : decode cX3_can 70 = .ok (.aload_n 0, 1) := by decide +kernel
theorem dX3_can_71 : decode cX3_can 71 = .ok (.getfield 21, 3) := by decide +kernel
theorem dX3_can_74 : decode cX3_can 74 = .ok (.iload_n 3, 1) := by decide +kernel
theorem dX3_can_75 : decode cX3_can 75 = .ok (.iaload, 1) := by decide +kernel
theorem dX3_can_76 : decode cX3_can 76 = .ok (.ifCond .le 7, 3) := by decide +kernel
theorem dX3_can_79 : decode cX3_can 79 = .ok (.iconst 1, 1) := by decide +kernel
theorem dX3_can_80 : decode cX3_can 80 = .ok (.goto 4, 3) := by decide +kernel
theorem dX3_can_83 : decode cX3_can 83 = .ok (.iconst 0, 1) := by decide +kernel
theorem dX3_can_84 : decode cX3_can 84 = .ok (.ireturn, 1) := by decide +kernel
/-- Stage.can -/
theorem c_X3_can {d : List Nat} {T : vT} {M : vM} {a n : Nat} {x : Int} (hK : sgK a) (hT : sgT T a) (hW : sgW M a n) (h0 : 0 ≤ x) (h3 : x ≤ 3) : vCon m_X3_can d d [vR a, vI x] T M (vPi fun r T1 M1 => r = bI (pCan n (M (a + 1)) (M (a + 4)) (M (a + 5) 0) x) ∧ T = T1 ∧ M = M1) := by
  have hcn := hW.cnt
  have hle := hW.le
  have hKK := hK
  have hTT := hT
  obtain ⟨k0, k1, k2, k3, k4, k5⟩ := hK
  obtain ⟨t1, t2, t3, t4, t5⟩ := hT
  refine vCon.of (by decide) rfl rfl (Nat.le_of_ble_eq_true rfl) ?_
  refine vV.aload_n dX3_can_0 rfl ?_
  refine vV.getr dX3_can_1 fl_X3_32 (by first | rfl | assumption) rfl (by first | assumption | exact hB _ _ _ rfl) ?_
  refine vV.iconst dX3_can_4 (by decide) ?_
  refine vV.iald dX3_can_5 (by first | rfl | assumption) (by omega) (by omega) ?_
  refine vV.istore_n (L' := [_, _, _, _]) dX3_can_6 (by decide) rfl ?_
  refine vV.iload_n dX3_can_7 rfl ?_
  have hs8 : (x < 0 ∨ 2 < x) ∨ x = 0 ∨ x = 1 ∨ x = 2 := by omega
  rcases hs8 with h8 | h8 | h8 | h8
  · refine vV.tswD (tgt := 60) dX3_can_8 h8 (by decide) ?_
    refine vV.aload_n dX3_can_60 rfl ?_
    refine vV.iload_n dX3_can_61 rfl ?_
    refine vV.cVi dX3_can_62 ml_X3_45 cw_X3_plateOn iw_X3_plateOn (by first | rfl | assumption) rfl (by unfold vRoom; decide) (c_X3_plateOn hKK hTT hcn hle) rfl rfl (Nat.le_of_ble_eq_true rfl) ?_
    rintro x62 _ _ hx62 ⟨rfl, rfl, rfl⟩
    have hx3 : x = 3 := by omega
    subst hx3
    obtain ⟨r, hr⟩ : ∃ r, pFind (fun j => decide (M (a + 1) j = M (a + 5) 0)) n = r := ⟨_, rfl⟩
    have hp : pCan n (M (a + 1)) (M (a + 4)) (M (a + 5) 0) 3 = pStd (M (a + 4)) r := by unfold pCan pAt; rw [hr]; simp
    have hr2 : ∀ p, r = some p → p < n := fun p e => (pFind_some (hr.trans e)).1
    rw [hr]
    cases r with
    | none =>
      rw [pOr_n]
      refine vV.istore_n (L' := [_, _, _, _]) dX3_can_65 (by decide) rfl ?_
      refine vV.iload_n dX3_can_66 rfl ?_
      refine vV.if_lt (tgt := 83) dX3_can_67 (by decide) (fun h67 => ?_) (fun h67 => ?_)
      · skip
        refine vV.iconst dX3_can_83 (by decide) ?_
        refine vV.rz dX3_can_84 rfl (by first | exact Or.inl rfl | exact Or.inr rfl | assumption) ?_
        rw [hp]; exact ⟨rfl, rfl, rfl⟩
      · skip
        omega
    | some p =>
      have hpn := hr2 p rfl
      rw [pOr_s]
      refine vV.istore_n (L' := [_, _, _, _]) dX3_can_65 (by decide) rfl ?_
      refine vV.iload_n dX3_can_66 rfl ?_
      refine vV.if_lt (tgt := 83) dX3_can_67 (by decide) (fun h67 => ?_) (fun h67 => ?_)
      · skip
        omega
      · skip
        refine vV.aload_n dX3_can_70 rfl ?_
        refine vV.getr dX3_can_71 fl_X3_21 (by first | rfl | assumption) rfl (by first | assumption | exact hB _ _ _ rfl) ?_
        refine vV.iload_n dX3_can_74 rfl ?_
        refine vV.iald dX3_can_75 (by first | rfl | assumption) (by omega) (by omega) ?_
        refine vV.if_le (tgt := 83) dX3_can_76 (by decide) (fun h76 => ?_) (fun h76 => ?_)
        · skip
          refine vV.iconst dX3_can_83 (by decide) ?_
          refine vV.rz dX3_can_84 rfl (by first | exact Or.inl rfl | exact Or.inr rfl | assumption) ?_
          refine ⟨?_, rfl, rfl⟩; rw [hp]; simp [bI, pStd]; omega
        · skip
          refine vV.iconst dX3_can_79 (by decide) ?_
          refine vV.goto (tgt := 84) dX3_can_80 (by decide) ?_
          refine vV.rz dX3_can_84 rfl (by first | exact Or.inl rfl | exact Or.inr rfl | assumption) ?_
          refine ⟨?_, rfl, rfl⟩; rw [hp]; simp [bI, pStd]; omega
    skip
  · refine vV.tsw (tgt := 36) dX3_can_8 (0) h8 (by decide) (by decide) rfl (by decide) ?_
    refine vV.iconst dX3_can_36 (by decide) ?_
    refine vV.rz dX3_can_37 rfl (by first | exact Or.inl rfl | exact Or.inr rfl | assumption) ?_
    exact ⟨by rw [h8]; rfl, rfl, rfl⟩
  · refine vV.tsw (tgt := 38) dX3_can_8 (1) h8 (by decide) (by decide) rfl (by decide) ?_
    refine vV.iload_n dX3_can_38 rfl ?_
    refine vV.if_le (tgt := 46) dX3_can_39 (by decide) (fun h39 => ?_) (fun h39 => ?_)
    · skip
      refine vV.iconst dX3_can_46 (by decide) ?_
      refine vV.rz dX3_can_47 rfl (by first | exact Or.inl rfl | exact Or.inr rfl | assumption) ?_
      refine ⟨?_, rfl, rfl⟩; rw [h8]; simp [pCan, bI]; omega
    · skip
      refine vV.iconst dX3_can_42 (by decide) ?_
      refine vV.goto (tgt := 47) dX3_can_43 (by decide) ?_
      refine vV.rz dX3_can_47 rfl (by first | exact Or.inl rfl | exact Or.inr rfl | assumption) ?_
      refine ⟨?_, rfl, rfl⟩; rw [h8]; simp [pCan, bI]; omega
  · refine vV.tsw (tgt := 48) dX3_can_8 (2) h8 (by decide) (by decide) rfl (by decide) ?_
    refine vV.iload_n dX3_can_48 rfl ?_
    refine vV.bipush (v := 7) dX3_can_49 (by decide) (by decide) ?_
    refine vV.icmp_ge (tgt := 58) dX3_can_51 (by decide) (fun h51 => ?_) (fun h51 => ?_)
    · skip
      refine vV.iconst dX3_can_58 (by decide) ?_
      refine vV.rz dX3_can_59 rfl (by first | exact Or.inl rfl | exact Or.inr rfl | assumption) ?_
      refine ⟨?_, rfl, rfl⟩; rw [h8]; simp [pCan, bI]; omega
    · skip
      refine vV.iconst dX3_can_54 (by decide) ?_
      refine vV.goto (tgt := 59) dX3_can_55 (by decide) ?_
      refine vV.rz dX3_can_59 rfl (by first | exact Or.inl rfl | exact Or.inr rfl | assumption) ?_
      refine ⟨?_, rfl, rfl⟩; rw [h8]; simp [pCan, bI]; omega
theorem dX3_move_0 : decode cX3_move 0 = .ok (.iload_n 1, 1) := by decide +kernel
theorem dX3_move_1 : decode cX3_move 1 = .ok (.iconst 1, 1) := by decide +kernel
theorem dX3_move_2 : decode cX3_move 2 = .ok (.if_icmp .ne 16, 3) := by decide +kernel
theorem dX3_move_5 : decode cX3_move 5 = .ok (.aload_n 0, 1) := by decide +kernel
theorem dX3_move_6 : decode cX3_move 6 = .ok (.getfield 32, 3) := by decide +kernel
theorem dX3_move_9 : decode cX3_move 9 = .ok (.iconst 0, 1) := by decide +kernel
theorem dX3_move_10 : decode cX3_move 10 = .ok (.dup2, 1) := by decide +kernel
theorem dX3_move_11 : decode cX3_move 11 = .ok (.iaload, 1) := by decide +kernel
theorem dX3_move_12 : decode cX3_move 12 = .ok (.iconst 1, 1) := by decide +kernel
theorem dX3_move_13 : decode cX3_move 13 = .ok (.isub, 1) := by decide +kernel
theorem dX3_move_14 : decode cX3_move 14 = .ok (.iastore, 1) := by decide +kernel
theorem dX3_move_15 : decode cX3_move 15 = .ok (.goto 69, 3) := by decide +kernel
theorem dX3_move_18 : decode cX3_move 18 = .ok (.iload_n 1, 1) := by decide +kernel
theorem dX3_move_19 : decode cX3_move 19 = .ok (.iconst 2, 1) := by decide +kernel
theorem dX3_move_20 : decode cX3_move 20 = .ok (.if_icmp .ne 16, 3) := by decide +kernel
theorem dX3_move_23 : decode cX3_move 23 = .ok (.aload_n 0, 1) := by decide +kernel
theorem dX3_move_24 : decode cX3_move 24 = .ok (.getfield 32, 3) := by decide +kernel
theorem dX3_move_27 : decode cX3_move 27 = .ok (.iconst 0, 1) := by decide +kernel
theorem dX3_move_28 : decode cX3_move 28 = .ok (.dup2, 1) := by decide +kernel
theorem dX3_move_29 : decode cX3_move 29 = .ok (.iaload, 1) := by decide +kernel
theorem dX3_move_30 : decode cX3_move 30 = .ok (.iconst 1, 1) := by decide +kernel
theorem dX3_move_31 : decode cX3_move 31 = .ok (.iadd, 1) := by decide +kernel
theorem dX3_move_32 : decode cX3_move 32 = .ok (.iastore, 1) := by decide +kernel
theorem dX3_move_33 : decode cX3_move 33 = .ok (.goto 51, 3) := by decide +kernel
theorem dX3_move_36 : decode cX3_move 36 = .ok (.iload_n 1, 1) := by decide +kernel
theorem dX3_move_37 : decode cX3_move 37 = .ok (.iconst 3, 1) := by decide +kernel
theorem dX3_move_38 : decode cX3_move 38 = .ok (.if_icmp .ne 46, 3) := by decide +kernel
theorem dX3_move_41 : decode cX3_move 41 = .ok (.aload_n 0, 1) := by decide +kernel
theorem dX3_move_42 : decode cX3_move 42 = .ok (.aload_n 0, 1) := by decide +kernel
theorem dX3_move_43 : decode cX3_move 43 = .ok (.getfield 32, 3) := by decide +kernel
theorem dX3_move_46 : decode cX3_move 46 = .ok (.iconst 0, 1) := by decide +kernel
theorem dX3_move_47 : decode cX3_move 47 = .ok (.iaload, 1) := by decide +kernel
theorem dX3_move_48 : decode cX3_move 48 = .ok (.invokevirtual 45, 3) := by decide +kernel
theorem dX3_move_51 : decode cX3_move 51 = .ok (.istore_n 2, 1) := by decide +kernel
theorem dX3_move_52 : decode cX3_move 52 = .ok (.iload_n 2, 1) := by decide +kernel
theorem dX3_move_53 : decode cX3_move 53 = .ok (.ifCond .lt 31, 3) := by decide +kernel
theorem dX3_move_56 : decode cX3_move 56 = .ok (.aload_n 0, 1) := by decide +kernel
theorem dX3_move_57 : decode cX3_move 57 = .ok (.getfield 21, 3) := by decide +kernel
theorem dX3_move_60 : decode cX3_move 60 = .ok (.iload_n 2, 1) := by decide +kernel
theorem dX3_move_61 : decode cX3_move 61 = .ok (.aload_n 0, 1) := by decide +kernel
theorem dX3_move_62 : decode cX3_move 62 = .ok (.getfield 15, 3) := by decide +kernel
theorem dX3_move_65 : decode cX3_move 65 = .ok (.iload_n 2, 1) := by decide +kernel
theorem dX3_move_66 : decode cX3_move 66 = .ok (.iaload, 1) := by decide +kernel
theorem dX3_move_67 : decode cX3_move 67 = .ok (.aload_n 0, 1) := by decide +kernel
theorem dX3_move_68 : decode cX3_move 68 = .ok (.getfield 21, 3) := by decide +kernel
theorem dX3_move_71 : decode cX3_move 71 = .ok (.iload_n 2, 1) := by decide +kernel
theorem dX3_move_72 : decode cX3_move 72 = .ok (.iaload, 1) := by decide +kernel
theorem dX3_move_73 : decode cX3_move 73 = .ok (.aload_n 0, 1) := by decide +kernel
theorem dX3_move_74 : decode cX3_move 74 = .ok (.getfield 32, 3) := by decide +kernel
theorem dX3_move_77 : decode cX3_move 77 = .ok (.iconst 1, 1) := by decide +kernel
theorem dX3_move_78 : decode cX3_move 78 = .ok (.iaload, 1) := by decide +kernel
theorem dX3_move_79 : decode cX3_move 79 = .ok (.iadd, 1) := by decide +kernel
theorem dX3_move_80 : decode cX3_move 80 = .ok (.invokestatic 56, 3) := by decide +kernel
theorem dX3_move_83 : decode cX3_move 83 = .ok (.iastore, 1) := by decide +kernel
theorem dX3_move_84 : decode cX3_move 84 = .ok (.return_, 1) := by decide +kernel
def sgMv (M : vM) (a n : Nat) (x : Int) : vM := vRow (vRow M (a + 5) (fSet (M (a + 5)) 0 (pMan (M (a + 5) 0) x))) (a + 4) (pWind n (M (a + 1)) (M (a + 2)) (M (a + 4)) (M (a + 5) 0) (M (a + 5) 1) x)
/-- Stage.move -/
theorem c_X3_move {d : List Nat} {T : vT} {M : vM} {a n : Nat} {x : Int} (hK : sgK a) (hT : sgT T a) (hW : sgW M a n) : vCon m_X3_move d d [vR a, vI x] T M (vPv fun T1 M1 => T = T1 ∧ M1 = sgMv M a n x) := by
  have hcn := hW.cnt
  have hle := hW.le
  have htu := hW.tu
  have hKK := hK
  have hTT := hT
  obtain ⟨-, -, -, -, -, hfu, -, -, hs0, hs1, -⟩ := hW
  obtain ⟨k0, k1, k2, k3, k4, k5⟩ := hK
  obtain ⟨t1, t2, t3, t4, t5⟩ := hT
  refine vCon.of (by decide) rfl rfl (Nat.le_of_ble_eq_true rfl) ?_
  refine vV.iload_n dX3_move_0 rfl ?_
  refine vV.iconst dX3_move_1 (by decide) ?_
  refine vV.icmp_ne (tgt := 18) dX3_move_2 (by decide) (fun h2 => ?_) (fun h2 => ?_)
  · skip
    refine vV.iload_n dX3_move_18 rfl ?_
    refine vV.iconst dX3_move_19 (by decide) ?_
    refine vV.icmp_ne (tgt := 36) dX3_move_20 (by decide) (fun h20 => ?_) (fun h20 => ?_)
    · skip
      refine vV.iload_n dX3_move_36 rfl ?_
      refine vV.iconst dX3_move_37 (by decide) ?_
      refine vV.icmp_ne (tgt := 84) dX3_move_38 (by decide) (fun h38 => ?_) (fun h38 => ?_)
      · skip
        refine vV.rv dX3_move_84 rfl ?_
        refine ⟨rfl, ?_⟩; unfold sgMv; first | (simp [pMan, pWind, vUpd_r]; rw [← vRow_n (M := M) (k := a + 5) (a := a + 4) (by omega), vRow_id]; done) | (unfold pMan pWind; rw [if_neg h2, if_neg h20, if_neg h38, fSet_id, vRow_id, vRow_id])
      · skip
        refine vV.aload_n dX3_move_41 rfl ?_
        refine vV.aload_n dX3_move_42 rfl ?_
        refine vV.getr dX3_move_43 fl_X3_32 (by first | rfl | assumption) rfl (by first | assumption | exact hB _ _ _ rfl) ?_
        refine vV.iconst dX3_move_46 (by decide) ?_
        refine vV.iald dX3_move_47 (by first | rfl | assumption) (by omega) (by omega) ?_
        refine vV.cVi dX3_move_48 ml_X3_45 cw_X3_plateOn iw_X3_plateOn (by first | rfl | assumption) rfl (by unfold vRoom; decide) (c_X3_plateOn hKK hTT hcn hle) rfl rfl (Nat.le_of_ble_eq_true rfl) ?_
        rintro x48 _ _ hx48 ⟨rfl, rfl, rfl⟩
        obtain ⟨r, hr⟩ : ∃ r, pFind (fun j => decide (M (a + 1) j = M (a + 5) 0)) n = r := ⟨_, rfl⟩
        have hr2 : ∀ p, r = some p → p < n := fun p e => (pFind_some (hr.trans e)).1
        rw [hr]
        cases r with
        | none =>
          rw [pOr_n]
          refine vV.istore_n (L' := [_, _, _]) dX3_move_51 (by decide) rfl ?_
          refine vV.iload_n dX3_move_52 rfl ?_
          refine vV.if_lt (tgt := 84) dX3_move_53 (by decide) (fun h53 => ?_) (fun h53 => ?_)
          · skip
            refine vV.rv dX3_move_84 rfl ?_
            refine ⟨rfl, ?_⟩; subst h38; unfold sgMv pWind pAt; rw [hr]; simp [pMan, pWd, fSet_id, vRow_id]
          · skip
            omega
        | some p =>
          have hpn := hr2 p rfl
          have b1 := hfu p
          have b2 := htu p
          rw [pOr_s]
          refine vV.istore_n (L' := [_, _, _]) dX3_move_51 (by decide) rfl ?_
          refine vV.iload_n dX3_move_52 rfl ?_
          refine vV.if_lt (tgt := 84) dX3_move_53 (by decide) (fun h53 => ?_) (fun h53 => ?_)
          · skip
            omega
          · skip
            refine vV.aload_n dX3_move_56 rfl ?_
            refine vV.getr dX3_move_57 fl_X3_21 (by first | rfl | assumption) rfl (by first | assumption | exact hB _ _ _ rfl) ?_
            refine vV.iload_n dX3_move_60 rfl ?_
            refine vV.aload_n dX3_move_61 rfl ?_
            refine vV.getr dX3_move_62 fl_X3_15 (by first | rfl | assumption) rfl (by first | assumption | exact hB _ _ _ rfl) ?_
            refine vV.iload_n dX3_move_65 rfl ?_
            refine vV.iald dX3_move_66 (by first | rfl | assumption) (by omega) (by omega) ?_
            refine vV.aload_n dX3_move_67 rfl ?_
            refine vV.getr dX3_move_68 fl_X3_21 (by first | rfl | assumption) rfl (by first | assumption | exact hB _ _ _ rfl) ?_
            refine vV.iload_n dX3_move_71 rfl ?_
            refine vV.iald dX3_move_72 (by first | rfl | assumption) (by omega) (by omega) ?_
            refine vV.aload_n dX3_move_73 rfl ?_
            refine vV.getr dX3_move_74 fl_X3_32 (by first | rfl | assumption) rfl (by first | assumption | exact hB _ _ _ rfl) ?_
            refine vV.iconst dX3_move_77 (by decide) ?_
            refine vV.iald dX3_move_78 (by first | rfl | assumption) (by omega) (by omega) ?_
            refine vV.iadd dX3_move_79 (⟨by omega, by omega⟩) ?_
            refine vV.mmin dX3_move_80 ml_X3_56 mm_min (by decide) (Nat.le_of_ble_eq_true rfl) ?_
            refine vV.iast dX3_move_83 (by first | rfl | assumption) (by omega) (by omega) ?_
            refine vV.rv dX3_move_84 rfl ?_
            refine ⟨rfl, ?_⟩; subst h38; unfold sgMv pWind pAt; rw [hr]; simp [pMan, pWd, fSet_id, vRow_id, vUpd_r]
        skip
    · skip
      subst h20
      refine vV.aload_n dX3_move_23 rfl ?_
      refine vV.getr dX3_move_24 fl_X3_32 (by first | rfl | assumption) rfl (by first | assumption | exact hB _ _ _ rfl) ?_
      refine vV.iconst dX3_move_27 (by decide) ?_
      refine vV.dup2 dX3_move_28 rfl rfl ?_
      refine vV.iald dX3_move_29 (by first | rfl | assumption) (by omega) (by omega) ?_
      refine vV.iconst dX3_move_30 (by decide) ?_
      refine vV.iadd dX3_move_31 (⟨by omega, by omega⟩) ?_
      refine vV.iast dX3_move_32 (by first | rfl | assumption) (by omega) (by omega) ?_
      refine vV.goto (tgt := 84) dX3_move_33 (by decide) ?_
      refine vV.rv dX3_move_84 rfl ?_
      refine ⟨rfl, ?_⟩; unfold sgMv; first | (simp [pMan, pWind, vUpd_r]; rw [← vRow_n (M := M) (k := a + 5) (a := a + 4) (by omega), vRow_id]; done) | (unfold pMan pWind; rw [if_neg h2, if_neg h20, if_neg h38, fSet_id, vRow_id, vRow_id])
  · skip
    subst h2
    refine vV.aload_n dX3_move_5 rfl ?_
    refine vV.getr dX3_move_6 fl_X3_32 (by first | rfl | assumption) rfl (by first | assumption | exact hB _ _ _ rfl) ?_
    refine vV.iconst dX3_move_9 (by decide) ?_
    refine vV.dup2 dX3_move_10 rfl rfl ?_
    refine vV.iald dX3_move_11 (by first | rfl | assumption) (by omega) (by omega) ?_
    refine vV.iconst dX3_move_12 (by decide) ?_
    refine vV.isub dX3_move_13 (⟨by omega, by omega⟩) ?_
    refine vV.iast dX3_move_14 (by first | rfl | assumption) (by omega) (by omega) ?_
    refine vV.goto (tgt := 84) dX3_move_15 (by decide) ?_
    refine vV.rv dX3_move_84 rfl ?_
    refine ⟨rfl, ?_⟩; unfold sgMv; first | (simp [pMan, pWind, vUpd_r]; rw [← vRow_n (M := M) (k := a + 5) (a := a + 4) (by omega), vRow_id]; done) | (unfold pMan pWind; rw [if_neg h2, if_neg h20, if_neg h38, fSet_id, vRow_id, vRow_id])
theorem dX3_act_0 : decode cX3_act 0 = .ok (.aload_n 0, 1) := by decide +kernel
theorem dX3_act_1 : decode cX3_act 1 = .ok (.iload_n 1, 1) := by decide +kernel
theorem dX3_act_2 : decode cX3_act 2 = .ok (.invokevirtual 49, 3) := by decide +kernel
theorem dX3_act_5 : decode cX3_act 5 = .ok (.aload_n 0, 1) := by decide +kernel
theorem dX3_act_6 : decode cX3_act 6 = .ok (.invokevirtual 53, 3) := by decide +kernel
theorem dX3_act_9 : decode cX3_act 9 = .ok (.return_, 1) := by decide +kernel
def sgAct (M : vM) (a n : Nat) (x : Int) : vM := vRow (vRow M (a + 5) (fSet (M (a + 5)) 0 (pMan (M (a + 5) 0) x))) (a + 4) (pDown n (M (a + 3)) (pWind n (M (a + 1)) (M (a + 2)) (M (a + 4)) (M (a + 5) 0) (M (a + 5) 1) x))
theorem pWind_rg {n : Nat} {pl fu fa tu se : Int → Int} (h : pW n pl fu fa tu se) (x : Int) (j : Int) : 0 ≤ pWind n pl fu tu (se 0) (se 1) x j ∧ pWind n pl fu tu (se 0) (se 1) x j ≤ fu j := by
  obtain ⟨-, -, -, -, hfu, hfa, htu, hs0, hs1, -⟩ := h
  have h1 := htu j
  unfold pWind
  split
  · cases pAt n pl (se 0) with
    | none => exact h1
    | some p =>
      show 0 ≤ fSet _ _ _ j ∧ fSet _ _ _ j ≤ _
      unfold fSet
      split
      · rename_i hj; subst hj; have := hfu p; have := htu p; omega
      · exact h1
  · exact h1
theorem pDown_rg {n : Nat} {fa tu fu : Int → Int} (hfa : ∀ j, 0 ≤ fa j) (h : ∀ j, 0 ≤ tu j ∧ tu j ≤ fu j) (j : Int) : 0 ≤ pDown n fa tu j ∧ pDown n fa tu j ≤ fu j := by
  have := h j; have := hfa j
  unfold pDown; split <;> omega
/-- a tick that can be done leaves the rows as told -/
theorem pW_act {n : Nat} {pl fu fa tu se : Int → Int} (h : pW n pl fu fa tu se) {x : Int} (hc : pCan n pl tu (se 0) x = true) : pW n pl fu fa (pDown n fa (pWind n pl fu tu (se 0) (se 1) x)) (fSet se 0 (pMan (se 0) x)) := by
  have hw := pWind_rg h x
  obtain ⟨h1, h2, h3, h4, h5, h6, h7, h8, h9, h10, h11, h12, h13, h14⟩ := h
  have hd := pDown_rg (n := n) (fa := fa) (fun j => (h6 j).1) hw
  refine ⟨h1, fun j hj => ?_, fun j hj => ?_, h4, h5, h6, hd, ?_, ?_, ?_, ?_, ?_, h13, h14⟩
  · obtain ⟨a1, a2, a3, a4⟩ := h2 j hj
    have := hd j
    exact ⟨a1, a2, a3, by omega⟩
  · rw [fSet_n (by omega)]; exact h3 j hj
  · rw [fSet_s]
    unfold pMan; unfold pCan at hc
    by_cases c1 : x = 1
    · subst c1; simp at hc ⊢; omega
    · by_cases c2 : x = 2
      · subst c2; simp at hc ⊢; omega
      · simp [c1, c2]; omega
  · rw [fSet_n (by omega)]; exact h9
  · rw [fSet_n (by omega)]; exact h10
  · rw [fSet_n (by omega)]; exact h11
  · rw [fSet_n (by omega)]; exact h12
theorem sgW_act {M : vM} {a n : Nat} (h : sgW M a n) {x : Int} (hc : pCan n (M (a + 1)) (M (a + 4)) (M (a + 5) 0) x = true) : sgW (sgAct M a n x) a n := by
  refine ⟨?_, ?_⟩
  · unfold sgAct; rw [vRow_n (by omega), vRow_n (by omega)]; exact h.1
  · have := pW_act h.2 hc
    unfold sgAct
    rw [vRow_s, vRow_n (a := a + 1) (by omega), vRow_n (a := a + 1) (by omega), vRow_n (a := a + 2) (by omega), vRow_n (a := a + 2) (by omega), vRow_n (a := a + 3) (by omega), vRow_n (a := a + 3) (by omega), vRow_n (a := a + 5) (by omega), vRow_s]
    exact this
/-- Stage.act -/
theorem c_X3_act {d : List Nat} {T : vT} {M : vM} {a n : Nat} {x : Int} (hK : sgK a) (hT : sgT T a) (hW : sgW M a n) : vCon m_X3_act d d [vR a, vI x] T M (vPv fun T1 M1 => T = T1 ∧ M1 = sgAct M a n x) := by
  have hle := hW.le
  have hw := pWind_rg hW.2 x
  have hfu := hW.2.2.2.2.2.1
  have hfa := hW.fa
  have e0 : sgMv M a n x a 0 = n := by unfold sgMv; rw [vRow_n (by omega), vRow_n (by omega)]; exact hW.cnt
  have e3 : sgMv M a n x (a + 3) = M (a + 3) := by unfold sgMv; rw [vRow_n (by omega), vRow_n (by omega)]
  have e4 : sgMv M a n x (a + 4) = pWind n (M (a + 1)) (M (a + 2)) (M (a + 4)) (M (a + 5) 0) (M (a + 5) 1) x := by unfold sgMv; rw [vRow_s]
  have k0 := hK.1
  refine vCon.of (by decide) rfl rfl (Nat.le_of_ble_eq_true rfl) ?_
  refine vV.aload_n dX3_act_0 rfl ?_
  refine vV.iload_n dX3_act_1 rfl ?_
  refine vV.cVv dX3_act_2 ml_X3_49 cw_X3_move iw_X3_move (by first | rfl | assumption) rfl (by unfold vRoom; decide) (c_X3_move hK hT hW) rfl rfl (Nat.le_of_ble_eq_true rfl) ?_
  rintro _ _ ⟨rfl, rfl⟩
  refine vV.aload_n dX3_act_5 rfl ?_
  refine vV.cVv dX3_act_6 ml_X3_53 cw_X3_runDown iw_X3_runDown (by first | rfl | assumption) rfl (by unfold vRoom; decide) (c_X3_runDown hK hT e0 hle (fun j => by rw [e4]; have := hw j; have := hfu j; omega) (fun j => by rw [e3]; exact hfa j)) rfl rfl (Nat.le_of_ble_eq_true rfl) ?_
  rintro _ _ ⟨rfl, rfl⟩
  refine vV.rv dX3_act_9 rfl ?_
  refine ⟨rfl, ?_⟩; rw [e3, e4]; unfold sgMv sgAct; rw [vRow_vRow]
theorem dX3_copyFrom_0 : decode cX3_copyFrom 0 = .ok (.aload_n 0, 1) := by decide +kernel
theorem dX3_copyFrom_1 : decode cX3_copyFrom 1 = .ok (.aload_n 1, 1) := by decide +kernel
theorem dX3_copyFrom_2 : decode cX3_copyFrom 2 = .ok (.getfield 35, 3) := by decide +kernel
theorem dX3_copyFrom_5 : decode cX3_copyFrom 5 = .ok (.putfield 35, 3) := by decide +kernel
theorem dX3_copyFrom_8 : decode cX3_copyFrom 8 = .ok (.aload_n 1, 1) := by decide +kernel
theorem dX3_copyFrom_9 : decode cX3_copyFrom 9 = .ok (.getfield 9, 3) := by decide +kernel
theorem dX3_copyFrom_12 : decode cX3_copyFrom 12 = .ok (.iconst 0, 1) := by decide +kernel
theorem dX3_copyFrom_13 : decode cX3_copyFrom 13 = .ok (.aload_n 0, 1) := by decide +kernel
theorem dX3_copyFrom_14 : decode cX3_copyFrom 14 = .ok (.getfield 9, 3) := by decide +kernel
theorem dX3_copyFrom_17 : decode cX3_copyFrom 17 = .ok (.iconst 0, 1) := by decide +kernel
theorem dX3_copyFrom_18 : decode cX3_copyFrom 18 = .ok (.bipush 6, 2) := by decide +kernel
theorem dX3_copyFrom_20 : decode cX3_copyFrom 20 = .ok (.invokestatic 39, 3) := by decide +kernel
theorem dX3_copyFrom_23 : decode cX3_copyFrom 23 = .ok (.aload_n 1, 1) := by decide +kernel
theorem dX3_copyFrom_24 : decode cX3_copyFrom 24 = .ok (.getfield 15, 3) := by decide +kernel
theorem dX3_copyFrom_27 : decode cX3_copyFrom 27 = .ok (.iconst 0, 1) := by decide +kernel
theorem dX3_copyFrom_28 : decode cX3_copyFrom 28 = .ok (.aload_n 0, 1) := by decide +kernel
theorem dX3_copyFrom_29 : decode cX3_copyFrom 29 = .ok (.getfield 15, 3) := by decide +kernel
theorem dX3_copyFrom_32 : decode cX3_copyFrom 32 = .ok (.iconst 0, 1) := by decide +kernel
theorem dX3_copyFrom_33 : decode cX3_copyFrom 33 = .ok (.bipush 6, 2) := by decide +kernel
theorem dX3_copyFrom_35 : decode cX3_copyFrom 35 = .ok (.invokestatic 39, 3) := by decide +kernel
theorem dX3_copyFrom_38 : decode cX3_copyFrom 38 = .ok (.aload_n 1, 1) := by decide +kernel
theorem dX3_copyFrom_39 : decode cX3_copyFrom 39 = .ok (.getfield 18, 3) := by decide +kernel
theorem dX3_copyFrom_42 : decode cX3_copyFrom 42 = .ok (.iconst 0, 1) := by decide +kernel
theorem dX3_copyFrom_43 : decode cX3_copyFrom 43 = .ok (.aload_n 0, 1) := by decide +kernel
theorem dX3_copyFrom_44 : decode cX3_copyFrom 44 = .ok (.getfield 18, 3) := by decide +kernel
theorem dX3_copyFrom_47 : decode cX3_copyFrom 47 = .ok (.iconst 0, 1) := by decide +kernel
theorem dX3_copyFrom_48 : decode cX3_copyFrom 48 = .ok (.bipush 6, 2) := by decide +kernel
theorem dX3_copyFrom_50 : decode cX3_copyFrom 50 = .ok (.invokestatic 39, 3) := by decide +kernel
theorem dX3_copyFrom_53 : decode cX3_copyFrom 53 = .ok (.aload_n 1, 1) := by decide +kernel
theorem dX3_copyFrom_54 : decode cX3_copyFrom 54 = .ok (.getfield 21, 3) := by decide +kernel
theorem dX3_copyFrom_57 : decode cX3_copyFrom 57 = .ok (.iconst 0, 1) := by decide +kernel
theorem dX3_copyFrom_58 : decode cX3_copyFrom 58 = .ok (.aload_n 0, 1) := by decide +kernel
theorem dX3_copyFrom_59 : decode cX3_copyFrom 59 = .ok (.getfield 21, 3) := by decide +kernel
theorem dX3_copyFrom_62 : decode cX3_copyFrom 62 = .ok (.iconst 0, 1) := by decide +kernel
theorem dX3_copyFrom_63 : decode cX3_copyFrom 63 = .ok (.bipush 6, 2) := by decide +kernel
theorem dX3_copyFrom_65 : decode cX3_copyFrom 65 = .ok (.invokestatic 39, 3) := by decide +kernel
theorem dX3_copyFrom_68 : decode cX3_copyFrom 68 = .ok (.aload_n 1, 1) := by decide +kernel
theorem dX3_copyFrom_69 : decode cX3_copyFrom 69 = .ok (.getfield 32, 3) := by decide +kernel
theorem dX3_copyFrom_72 : decode cX3_copyFrom 72 = .ok (.iconst 0, 1) := by decide +kernel
theorem dX3_copyFrom_73 : decode cX3_copyFrom 73 = .ok (.aload_n 0, 1) := by decide +kernel
theorem dX3_copyFrom_74 : decode cX3_copyFrom 74 = .ok (.getfield 32, 3) := by decide +kernel
theorem dX3_copyFrom_77 : decode cX3_copyFrom 77 = .ok (.iconst 0, 1) := by decide +kernel
theorem dX3_copyFrom_78 : decode cX3_copyFrom 78 = .ok (.iconst 5, 1) := by decide +kernel
theorem dX3_copyFrom_79 : decode cX3_copyFrom 79 = .ok (.invokestatic 39, 3) := by decide +kernel
theorem dX3_copyFrom_82 : decode cX3_copyFrom 82 = .ok (.return_, 1) := by decide +kernel
def sgCp (M : vM) (a b : Nat) : vM := vRow (vRow (vRow (vRow (vRow (vRow M a (fSet (M a) 0 (M b 0))) (a + 1) (M (b + 1))) (a + 2) (M (b + 2))) (a + 3) (M (b + 3))) (a + 4) (M (b + 4))) (a + 5) (M (b + 5))
theorem cp_eq {f g : Int → Int} {n : Int} (hf : ∀ j, (j < 0 ∨ n ≤ j) → f j = 0) (hg : ∀ j, (j < 0 ∨ n ≤ j) → g j = 0) : (fun j => if 0 ≤ j ∧ j < n then f j else g j) = f := by
  funext j
  split
  · rfl
  · rw [hf j (by omega), hg j (by omega)]
/-- rows outside their places are 0 -/
def sgZ (M : vM) (a : Nat) : Prop := (∀ j, (j < 0 ∨ 6 ≤ j) → M (a + 1) j = 0 ∧ M (a + 2) j = 0 ∧ M (a + 3) j = 0 ∧ M (a + 4) j = 0) ∧ ∀ j, (j < 0 ∨ 5 ≤ j) → M (a + 5) j = 0
theorem sgW.z {M : vM} {a n : Nat} (h : sgW M a n) : sgZ M a := ⟨h.2.2.1, h.2.2.2.1⟩
/-- Stage.copyFrom -/
theorem c_X3_copyFrom {d : List Nat} {T : vT} {M : vM} {a b : Nat} (hK : sgK a) (hT : sgT T a) (hKb : sgK b) (hTb : sgT T b) (hab : a + 5 < b ∨ b + 5 < a) (hZ : sgZ M a) (hZb : sgZ M b) : vCon m_X3_copyFrom d d [vR a, vR b] T M (vPv fun T1 M1 => T = T1 ∧ M1 = sgCp M a b) := by
  obtain ⟨k0, k1, k2, k3, k4, k5⟩ := hK
  obtain ⟨t1, t2, t3, t4, t5⟩ := hT
  obtain ⟨q0, q1, q2, q3, q4, q5⟩ := hKb
  obtain ⟨r1, r2, r3, r4, r5⟩ := hTb
  refine vCon.of (by decide) rfl rfl (Nat.le_of_ble_eq_true rfl) ?_
  refine vV.aload_n dX3_copyFrom_0 rfl ?_
  refine vV.aload_n dX3_copyFrom_1 rfl ?_
  refine vV.geti (z := 0) dX3_copyFrom_2 fl_X3_35 (by first | rfl | assumption) rfl rfl ?_
  refine vV.puti (z := 0) dX3_copyFrom_5 fl_X3_35 (by first | rfl | assumption) rfl rfl ?_
  rw [vUpd_r]
  refine vV.aload_n dX3_copyFrom_8 rfl ?_
  refine vV.getr dX3_copyFrom_9 fl_X3_9 (by first | rfl | assumption) rfl (by first | assumption | exact hB _ _ _ rfl) ?_
  refine vV.iconst dX3_copyFrom_12 (by decide) ?_
  refine vV.aload_n dX3_copyFrom_13 rfl ?_
  refine vV.getr dX3_copyFrom_14 fl_X3_9 (by first | rfl | assumption) rfl (by first | assumption | exact hB _ _ _ rfl) ?_
  refine vV.iconst dX3_copyFrom_17 (by decide) ?_
  refine vV.bipush (v := 6) dX3_copyFrom_18 (by decide) (by decide) ?_
  refine vV.copy dX3_copyFrom_20 ml_X3_39 mm_ac (by first | rfl | assumption) (by first | rfl | assumption) (by omega) (by omega) (by omega) (by omega) (by omega) (by decide) (Nat.le_of_ble_eq_true rfl) ?_
  rw [vCpy_r, vRow_n (by omega), vRow_n (by omega), cp_eq (fun j h => (hZb.1 j h).1) (fun j h => (hZ.1 j h).1)]
  refine vV.aload_n dX3_copyFrom_23 rfl ?_
  refine vV.getr dX3_copyFrom_24 fl_X3_15 (by first | rfl | assumption) rfl (by first | assumption | exact hB _ _ _ rfl) ?_
  refine vV.iconst dX3_copyFrom_27 (by decide) ?_
  refine vV.aload_n dX3_copyFrom_28 rfl ?_
  refine vV.getr dX3_copyFrom_29 fl_X3_15 (by first | rfl | assumption) rfl (by first | assumption | exact hB _ _ _ rfl) ?_
  refine vV.iconst dX3_copyFrom_32 (by decide) ?_
  refine vV.bipush (v := 6) dX3_copyFrom_33 (by decide) (by decide) ?_
  refine vV.copy dX3_copyFrom_35 ml_X3_39 mm_ac (by first | rfl | assumption) (by first | rfl | assumption) (by omega) (by omega) (by omega) (by omega) (by omega) (by decide) (Nat.le_of_ble_eq_true rfl) ?_
  rw [vCpy_r, vRow_n (by omega), vRow_n (by omega), vRow_n (by omega), vRow_n (by omega), cp_eq (fun j h => (hZb.1 j h).2.1) (fun j h => (hZ.1 j h).2.1)]
  refine vV.aload_n dX3_copyFrom_38 rfl ?_
  refine vV.getr dX3_copyFrom_39 fl_X3_18 (by first | rfl | assumption) rfl (by first | assumption | exact hB _ _ _ rfl) ?_
  refine vV.iconst dX3_copyFrom_42 (by decide) ?_
  refine vV.aload_n dX3_copyFrom_43 rfl ?_
  refine vV.getr dX3_copyFrom_44 fl_X3_18 (by first | rfl | assumption) rfl (by first | assumption | exact hB _ _ _ rfl) ?_
  refine vV.iconst dX3_copyFrom_47 (by decide) ?_
  refine vV.bipush (v := 6) dX3_copyFrom_48 (by decide) (by decide) ?_
  refine vV.copy dX3_copyFrom_50 ml_X3_39 mm_ac (by first | rfl | assumption) (by first | rfl | assumption) (by omega) (by omega) (by omega) (by omega) (by omega) (by decide) (Nat.le_of_ble_eq_true rfl) ?_
  rw [vCpy_r, vRow_n (by omega), vRow_n (by omega), vRow_n (by omega), vRow_n (by omega), vRow_n (by omega), vRow_n (by omega), cp_eq (fun j h => (hZb.1 j h).2.2.1) (fun j h => (hZ.1 j h).2.2.1)]
  refine vV.aload_n dX3_copyFrom_53 rfl ?_
  refine vV.getr dX3_copyFrom_54 fl_X3_21 (by first | rfl | assumption) rfl (by first | assumption | exact hB _ _ _ rfl) ?_
  refine vV.iconst dX3_copyFrom_57 (by decide) ?_
  refine vV.aload_n dX3_copyFrom_58 rfl ?_
  refine vV.getr dX3_copyFrom_59 fl_X3_21 (by first | rfl | assumption) rfl (by first | assumption | exact hB _ _ _ rfl) ?_
  refine vV.iconst dX3_copyFrom_62 (by decide) ?_
  refine vV.bipush (v := 6) dX3_copyFrom_63 (by decide) (by decide) ?_
  refine vV.copy dX3_copyFrom_65 ml_X3_39 mm_ac (by first | rfl | assumption) (by first | rfl | assumption) (by omega) (by omega) (by omega) (by omega) (by omega) (by decide) (Nat.le_of_ble_eq_true rfl) ?_
  rw [vCpy_r, vRow_n (by omega), vRow_n (by omega), vRow_n (by omega), vRow_n (by omega), vRow_n (by omega), vRow_n (by omega), vRow_n (by omega), vRow_n (by omega), cp_eq (fun j h => (hZb.1 j h).2.2.2) (fun j h => (hZ.1 j h).2.2.2)]
  refine vV.aload_n dX3_copyFrom_68 rfl ?_
  refine vV.getr dX3_copyFrom_69 fl_X3_32 (by first | rfl | assumption) rfl (by first | assumption | exact hB _ _ _ rfl) ?_
  refine vV.iconst dX3_copyFrom_72 (by decide) ?_
  refine vV.aload_n dX3_copyFrom_73 rfl ?_
  refine vV.getr dX3_copyFrom_74 fl_X3_32 (by first | rfl | assumption) rfl (by first | assumption | exact hB _ _ _ rfl) ?_
  refine vV.iconst dX3_copyFrom_77 (by decide) ?_
  refine vV.iconst dX3_copyFrom_78 (by decide) ?_
  refine vV.copy dX3_copyFrom_79 ml_X3_39 mm_ac (by first | rfl | assumption) (by first | rfl | assumption) (by omega) (by omega) (by omega) (by omega) (by omega) (by decide) (Nat.le_of_ble_eq_true rfl) ?_
  rw [vCpy_r, vRow_n (by omega), vRow_n (by omega), vRow_n (by omega), vRow_n (by omega), vRow_n (by omega), vRow_n (by omega), vRow_n (by omega), vRow_n (by omega), vRow_n (by omega), vRow_n (by omega), cp_eq hZb.2 hZ.2]
  refine vV.rv dX3_copyFrom_82 rfl ?_
  exact ⟨rfl, rfl⟩
