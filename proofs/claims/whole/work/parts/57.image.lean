/-! ===== own: told of both; the reference: pass, passAll, image, restore ===== -/
def pToldR (n m : Nat) (bits : Int) (se : Int → Int) (w : Int) : Int := if w = 0 then n else if w = 1 then m else if w = 2 then bits else if 3 ≤ w ∧ w ≤ 7 then se (w - 3) else -2
theorem dX6_told_0 : decode cX6_told 0 = .ok (.iload_n 1, 1) := by decide +kernel
theorem dX6_told_1 : decode cX6_told 1 = .ok (.tableswitch 51 0 2 #[27, 35, 43], 27) := by decide +kernel
theorem dX6_told_28 : decode cX6_told 28 = .ok (.aload_n 0, 1) := by decide +kernel
theorem dX6_told_29 : decode cX6_told 29 = .ok (.getfield 10, 3) := by decide +kernel
theorem dX6_told_32 : decode cX6_told 32 = .ok (.getfield 66, 3) := by decide +kernel
theorem dX6_told_35 : decode cX6_told 35 = .ok (.ireturn, 1) := by decide +kernel
theorem dX6_told_36 : decode cX6_told 36 = .ok (.aload_n 0, 1) := by decide +kernel
theorem dX6_told_37 : decode cX6_told 37 = .ok (.getfield 26, 3) := by decide +kernel
theorem dX6_told_40 : decode cX6_told 40 = .ok (.getfield 113, 3) := by decide +kernel
theorem dX6_told_43 : decode cX6_told 43 = .ok (.ireturn, 1) := by decide +kernel
theorem dX6_told_44 : decode cX6_told 44 = .ok (.aload_n 0, 1) := by decide +kernel
theorem dX6_told_45 : decode cX6_told 45 = .ok (.getfield 10, 3) := by decide +kernel
theorem dX6_told_48 : decode cX6_told 48 = .ok (.invokevirtual 107, 3) := by decide +kernel
theorem dX6_told_51 : decode cX6_told 51 = .ok (.ireturn, 1) := by decide +kernel
theorem dX6_told_52 : decode cX6_told 52 = .ok (.iload_n 1, 1) := by decide +kernel
theorem dX6_told_53 : decode cX6_told 53 = .ok (.iconst 3, 1) := by decide +kernel
theorem dX6_told_54 : decode cX6_told 54 = .ok (.bipush 7, 2) := by decide +kernel
theorem dX6_told_56 : decode cX6_told 56 = .ok (.invokestatic 58, 3) := by decide +kernel
theorem dX6_told_59 : decode cX6_told 59 = .ok (.ifCond .eq 17, 3) := by decide +kernel
theorem dX6_told_62 : decode cX6_told 62 = .ok (.aload_n 0, 1) := by decide +kernel
theorem dX6_told_63 : decode cX6_told 63 = .ok (.getfield 10, 3) := by decide +kernel
theorem dX6_told_66 : decode cX6_told 66 = .ok (.getfield 91, 3) := by decide +kernel
theorem dX6_told_69 : decode cX6_told 69 = .ok (.iload_n 1, 1) := by decide +kernel
theorem dX6_told_70 : decode cX6_told 70 = .ok (.iconst 3, 1) := by decide +kernel
theorem dX6_told_71 : decode cX6_told 71 = .ok (.isub, 1) := by decide +kernel
theorem dX6_told_72 : decode cX6_told 72 = .ok (.iaload, 1) := by decide +kernel
theorem dX6_told_73 : decode cX6_told 73 = .ok (.goto 5, 3) := by decide +kernel
theorem dX6_told_76 : decode cX6_told 76 = .ok (.bipush (-2), 2) := by decide +kernel
theorem dX6_told_78 : decode cX6_told 78 = .ok (.ireturn, 1) := by decide +kernel
theorem c_X6_told {d : List Nat} {T : vT} {M : vM} {n m : Nat} {w : Int} (hB : vB T) (hW : sgW M 10 n) (hm : M 60 0 = m) : vCon m_X6_told d d [vR 0, vI w] T M (vPi fun r T1 M1 => r = pToldR n m (pBits (M 14) n) (M 15) w ∧ T = T1 ∧ M = M1) := by
  unfold pToldR
  refine vCon.of (by decide) rfl rfl (Nat.le_of_ble_eq_true rfl) ?_
  refine vV.iload_n dX6_told_0 rfl ?_
  have hs1 : (w < 0 ∨ 2 < w) ∨ w = 0 ∨ w = 1 ∨ w = 2 := by omega
  rcases hs1 with h1 | h1 | h1 | h1
  · refine vV.tswD (tgt := 52) dX6_told_1 h1 (by decide) ?_
    refine vV.iload_n dX6_told_52 rfl ?_
    refine vV.iconst dX6_told_53 (by decide) ?_
    refine vV.bipush (v := 7) dX6_told_54 (by decide) (by decide) ?_
    refine vV.cSi dX6_told_56 ml_X6_58 cw_X6_within sw_X6_within (by unfold vRoom; decide) c_X6_within rfl rfl (Nat.le_of_ble_eq_true rfl) ?_
    rintro x56 _ _ hx56 ⟨hy56, rfl, rfl⟩
    refine vV.if_eq (tgt := 76) dX6_told_59 (by decide) (fun h59 => ?_) (fun h59 => ?_)
    · skip
      have hin := no01 hy56 h59
      refine vV.bipush (v := (-2)) dX6_told_76 (by decide) (by decide) ?_
      refine vV.ri dX6_told_78 rfl ?_
      rw [if_neg (by omega), if_neg (by omega), if_neg (by omega)]; first | (rw [if_pos hin]; exact ⟨rfl, rfl, rfl⟩) | (rw [if_neg hin]; exact ⟨rfl, rfl, rfl⟩)
    · skip
      have hin := yes01 hy56 h59
      refine vV.aload_n dX6_told_62 rfl ?_
      refine vV.getr dX6_told_63 fl_X6_10 (by first | rfl | assumption) rfl (by first | assumption | exact hB _ _ _ rfl) ?_
      refine vV.getr dX6_told_66 fl_X6_91 (by first | rfl | assumption) rfl (by first | assumption | exact hB _ _ _ rfl) ?_
      refine vV.iload_n dX6_told_69 rfl ?_
      refine vV.iconst dX6_told_70 (by decide) ?_
      refine vV.isub dX6_told_71 (⟨by omega, by omega⟩) ?_
      refine vV.iald dX6_told_72 (by first | rfl | assumption) (by omega) (by omega) ?_
      refine vV.goto (tgt := 78) dX6_told_73 (by decide) ?_
      refine vV.ri dX6_told_78 rfl ?_
      rw [if_neg (by omega), if_neg (by omega), if_neg (by omega)]; first | (rw [if_pos hin]; exact ⟨rfl, rfl, rfl⟩) | (rw [if_neg hin]; exact ⟨rfl, rfl, rfl⟩)
  · refine vV.tsw (tgt := 28) dX6_told_1 (0) h1 (by decide) (by decide) rfl (by decide) ?_
    refine vV.aload_n dX6_told_28 rfl ?_
    refine vV.getr dX6_told_29 fl_X6_10 (by first | rfl | assumption) rfl (by first | assumption | exact hB _ _ _ rfl) ?_
    refine vV.geti (z := 0) dX6_told_32 fl_X6_66 (by first | rfl | assumption) rfl rfl ?_
    refine vV.ri dX6_told_35 rfl ?_
    rw [if_pos h1]; exact ⟨hW.1, rfl, rfl⟩
  · refine vV.tsw (tgt := 36) dX6_told_1 (1) h1 (by decide) (by decide) rfl (by decide) ?_
    refine vV.aload_n dX6_told_36 rfl ?_
    refine vV.getr dX6_told_37 fl_X6_26 (by first | rfl | assumption) rfl (by first | assumption | exact hB _ _ _ rfl) ?_
    refine vV.geti (z := 0) dX6_told_40 fl_X6_113 (by first | rfl | assumption) rfl rfl ?_
    refine vV.ri dX6_told_43 rfl ?_
    rw [if_neg (by omega), if_pos h1]; exact ⟨hm, rfl, rfl⟩
  · refine vV.tsw (tgt := 44) dX6_told_1 (2) h1 (by decide) (by decide) rfl (by decide) ?_
    refine vV.aload_n dX6_told_44 rfl ?_
    refine vV.getr dX6_told_45 fl_X6_10 (by first | rfl | assumption) rfl (by first | assumption | exact hB _ _ _ rfl) ?_
    refine vV.cVi dX6_told_48 ml_X6_107 cw_X3_standing iw_X3_standing (by first | rfl | assumption) rfl (by unfold vRoom; decide) (c_X3_standing sgK_10 (sgT_10 hB) hW.cnt hW.le) rfl rfl (Nat.le_of_ble_eq_true rfl) ?_
    rintro x14 _ _ hx14 ⟨rfl, rfl, rfl⟩
    refine vV.ri dX6_told_51 rfl ?_
    rw [if_neg (by omega), if_neg (by omega), if_pos h1]; exact ⟨rfl, rfl, rfl⟩
theorem dX7_told_0 : decode cX7_told 0 = .ok (.iload_n 1, 1) := by decide +kernel
theorem dX7_told_1 : decode cX7_told 1 = .ok (.i2l, 1) := by decide +kernel
theorem dX7_told_2 : decode cX7_told 2 = .ok (.ldc2_w 102, 3) := by decide +kernel
theorem dX7_told_5 : decode cX7_told 5 = .ok (.ldc2_w 96, 3) := by decide +kernel
theorem dX7_told_8 : decode cX7_told 8 = .ok (.invokestatic 92, 3) := by decide +kernel
theorem dX7_told_11 : decode cX7_told 11 = .ok (.ifCond .eq 11, 3) := by decide +kernel
theorem dX7_told_14 : decode cX7_told 14 = .ok (.aload_n 0, 1) := by decide +kernel
theorem dX7_told_15 : decode cX7_told 15 = .ok (.iload_n 1, 1) := by decide +kernel
theorem dX7_told_16 : decode cX7_told 16 = .ok (.iconst 3, 1) := by decide +kernel
theorem dX7_told_17 : decode cX7_told 17 = .ok (.isub, 1) := by decide +kernel
theorem dX7_told_18 : decode cX7_told 18 = .ok (.invokevirtual 114, 3) := by decide +kernel
theorem dX7_told_21 : decode cX7_told 21 = .ok (.ireturn, 1) := by decide +kernel
theorem dX7_told_22 : decode cX7_told 22 = .ok (.iload_n 1, 1) := by decide +kernel
theorem dX7_told_23 : decode cX7_told 23 = .ok (.ifCond .ne 10, 3) := by decide +kernel
theorem dX7_told_26 : decode cX7_told 26 = .ok (.aload_n 0, 1) := by decide +kernel
theorem dX7_told_27 : decode cX7_told 27 = .ok (.getfield 89, 3) := by decide +kernel
theorem dX7_told_30 : decode cX7_told 30 = .ok (.goto 29, 3) := by decide +kernel
theorem dX7_told_33 : decode cX7_told 33 = .ok (.iload_n 1, 1) := by decide +kernel
theorem dX7_told_34 : decode cX7_told 34 = .ok (.iconst 1, 1) := by decide +kernel
theorem dX7_told_35 : decode cX7_told 35 = .ok (.if_icmp .ne 10, 3) := by decide +kernel
theorem dX7_told_38 : decode cX7_told 38 = .ok (.aload_n 0, 1) := by decide +kernel
theorem dX7_told_39 : decode cX7_told 39 = .ok (.getfield 193, 3) := by decide +kernel
theorem dX7_told_42 : decode cX7_told 42 = .ok (.goto 17, 3) := by decide +kernel
theorem dX7_told_45 : decode cX7_told 45 = .ok (.iload_n 1, 1) := by decide +kernel
theorem dX7_told_46 : decode cX7_told 46 = .ok (.iconst 2, 1) := by decide +kernel
theorem dX7_told_47 : decode cX7_told 47 = .ok (.if_icmp .ne 10, 3) := by decide +kernel
theorem dX7_told_50 : decode cX7_told 50 = .ok (.aload_n 0, 1) := by decide +kernel
theorem dX7_told_51 : decode cX7_told 51 = .ok (.invokevirtual 186, 3) := by decide +kernel
theorem dX7_told_54 : decode cX7_told 54 = .ok (.goto 5, 3) := by decide +kernel
theorem dX7_told_57 : decode cX7_told 57 = .ok (.bipush (-2), 2) := by decide +kernel
theorem dX7_told_59 : decode cX7_told 59 = .ok (.ireturn, 1) := by decide +kernel
theorem c_X7_told {d : List Nat} {T : vT} {M : vM} {n m : Nat} {w : Int} (hB : vB T) (hc : M 200 4 = n) (hn : n ≤ 6) (hm : M 200 20 = m) : vCon m_X7_told d d [vR 200, vI w] T M (vPi fun r T1 M1 => r = pToldR n m (pBits (M 204) n) (seM M) w ∧ T = T1 ∧ M = M1) := by
  unfold pToldR
  refine vCon.of (by decide) rfl rfl (Nat.le_of_ble_eq_true rfl) ?_
  refine vV.iload_n dX7_told_0 rfl ?_
  refine vV.i2l dX7_told_1 ?_
  refine vV.ldc2 (v := 3) dX7_told_2 kl_X7_102 (by decide) (by decide) ?_
  refine vV.ldc2 (v := 7) dX7_told_5 kl_X7_96 (by decide) (by decide) ?_
  refine vV.cSi dX7_told_8 ml_X7_92 cw_X7_in sw_X7_in (by unfold vRoom; decide) c_X7_in rfl rfl (Nat.le_of_ble_eq_true rfl) ?_
  rintro x8 _ _ hx8 ⟨hy8, rfl, rfl⟩
  unfold pIn at hy8
  refine vV.if_eq (tgt := 22) dX7_told_11 (by decide) (fun h11 => ?_) (fun h11 => ?_)
  · skip
    have hin := no01 hy8 h11
    refine vV.iload_n dX7_told_22 rfl ?_
    refine vV.if_ne (tgt := 33) dX7_told_23 (by decide) (fun h23 => ?_) (fun h23 => ?_)
    · skip
      refine vV.iload_n dX7_told_33 rfl ?_
      refine vV.iconst dX7_told_34 (by decide) ?_
      refine vV.icmp_ne (tgt := 45) dX7_told_35 (by decide) (fun h35 => ?_) (fun h35 => ?_)
      · skip
        refine vV.iload_n dX7_told_45 rfl ?_
        refine vV.iconst dX7_told_46 (by decide) ?_
        refine vV.icmp_ne (tgt := 57) dX7_told_47 (by decide) (fun h47 => ?_) (fun h47 => ?_)
        · skip
          refine vV.bipush (v := (-2)) dX7_told_57 (by decide) (by decide) ?_
          refine vV.ri dX7_told_59 rfl ?_
          first | (rw [if_pos h23]; exact ⟨hc, rfl, rfl⟩) | (rw [if_neg h23, if_pos h35]; exact ⟨hm, rfl, rfl⟩) | (rw [if_neg h23, if_neg h35, if_pos h47]; exact ⟨rfl, rfl, rfl⟩) | (rw [if_neg h23, if_neg h35, if_neg h47, if_neg hin]; exact ⟨rfl, rfl, rfl⟩)
        · skip
          refine vV.aload_n dX7_told_50 rfl ?_
          refine vV.cVi dX7_told_51 ml_X7_186 cw_X7_standing iw_X7_standing (by first | rfl | assumption) rfl (by unfold vRoom; decide) (c_X7_standing hB hc hn) rfl rfl (Nat.le_of_ble_eq_true rfl) ?_
          rintro x51 _ _ hx51 ⟨rfl, rfl, rfl⟩
          refine vV.goto (tgt := 59) dX7_told_54 (by decide) ?_
          refine vV.ri dX7_told_59 rfl ?_
          first | (rw [if_pos h23]; exact ⟨hc, rfl, rfl⟩) | (rw [if_neg h23, if_pos h35]; exact ⟨hm, rfl, rfl⟩) | (rw [if_neg h23, if_neg h35, if_pos h47]; exact ⟨rfl, rfl, rfl⟩) | (rw [if_neg h23, if_neg h35, if_neg h47, if_neg hin]; exact ⟨rfl, rfl, rfl⟩)
      · skip
        refine vV.aload_n dX7_told_38 rfl ?_
        refine vV.geti (z := 20) dX7_told_39 fl_X7_193 (by first | rfl | assumption) rfl rfl ?_
        refine vV.goto (tgt := 59) dX7_told_42 (by decide) ?_
        refine vV.ri dX7_told_59 rfl ?_
        first | (rw [if_pos h23]; exact ⟨hc, rfl, rfl⟩) | (rw [if_neg h23, if_pos h35]; exact ⟨hm, rfl, rfl⟩) | (rw [if_neg h23, if_neg h35, if_pos h47]; exact ⟨rfl, rfl, rfl⟩) | (rw [if_neg h23, if_neg h35, if_neg h47, if_neg hin]; exact ⟨rfl, rfl, rfl⟩)
    · skip
      refine vV.aload_n dX7_told_26 rfl ?_
      refine vV.geti (z := 4) dX7_told_27 fl_X7_89 (by first | rfl | assumption) rfl rfl ?_
      refine vV.goto (tgt := 59) dX7_told_30 (by decide) ?_
      refine vV.ri dX7_told_59 rfl ?_
      first | (rw [if_pos h23]; exact ⟨hc, rfl, rfl⟩) | (rw [if_neg h23, if_pos h35]; exact ⟨hm, rfl, rfl⟩) | (rw [if_neg h23, if_neg h35, if_pos h47]; exact ⟨rfl, rfl, rfl⟩) | (rw [if_neg h23, if_neg h35, if_neg h47, if_neg hin]; exact ⟨rfl, rfl, rfl⟩)
  · skip
    have hin := yes01 hy8 h11
    refine vV.aload_n dX7_told_14 rfl ?_
    refine vV.iload_n dX7_told_15 rfl ?_
    refine vV.iconst dX7_told_16 (by decide) ?_
    refine vV.isub dX7_told_17 (⟨by omega, by omega⟩) ?_
    refine vV.cVi dX7_told_18 ml_X7_114 cw_X7_setNow iw_X7_setNow (by first | rfl | assumption) rfl (by unfold vRoom; decide) (c_X7_setNow hB (by omega)) rfl rfl (Nat.le_of_ble_eq_true rfl) ?_
    rintro x18 _ _ hx18 ⟨rfl, rfl, rfl⟩
    refine vV.ri dX7_told_21 rfl ?_
    rw [if_neg (by omega), if_neg (by omega), if_neg (by omega), if_pos hin]; exact ⟨rfl, rfl, rfl⟩
theorem dX7_pass_0 : decode cX7_pass 0 = .ok (.aload_n 0, 1) := by decide +kernel
theorem dX7_pass_1 : decode cX7_pass 1 = .ok (.getfield 301, 3) := by decide +kernel
theorem dX7_pass_4 : decode cX7_pass 4 = .ok (.ifCond .eq 7, 3) := by decide +kernel
theorem dX7_pass_7 : decode cX7_pass 7 = .ok (.iload_n 1, 1) := by decide +kernel
theorem dX7_pass_8 : decode cX7_pass 8 = .ok (.goto 12, 3) := by decide +kernel
theorem dX7_pass_11 : decode cX7_pass 11 = .ok (.aload_n 0, 1) := by decide +kernel
theorem dX7_pass_12 : decode cX7_pass 12 = .ok (.getfield 73, 3) := by decide +kernel
theorem dX7_pass_15 : decode cX7_pass 15 = .ok (.aload_n 0, 1) := by decide +kernel
theorem dX7_pass_16 : decode cX7_pass 16 = .ok (.getfield 305, 3) := by decide +kernel
theorem dX7_pass_19 : decode cX7_pass 19 = .ok (.iaload, 1) := by decide +kernel
theorem dX7_pass_20 : decode cX7_pass 20 = .ok (.istore_n 2, 1) := by decide +kernel
theorem dX7_pass_21 : decode cX7_pass 21 = .ok (.aload_n 0, 1) := by decide +kernel
theorem dX7_pass_22 : decode cX7_pass 22 = .ok (.getfield 73, 3) := by decide +kernel
theorem dX7_pass_25 : decode cX7_pass 25 = .ok (.aload_n 0, 1) := by decide +kernel
theorem dX7_pass_26 : decode cX7_pass 26 = .ok (.getfield 305, 3) := by decide +kernel
theorem dX7_pass_29 : decode cX7_pass 29 = .ok (.iload_n 2, 1) := by decide +kernel
theorem dX7_pass_30 : decode cX7_pass 30 = .ok (.iastore, 1) := by decide +kernel
theorem dX7_pass_31 : decode cX7_pass 31 = .ok (.aload_n 0, 1) := by decide +kernel
theorem dX7_pass_32 : decode cX7_pass 32 = .ok (.dup, 1) := by decide +kernel
theorem dX7_pass_33 : decode cX7_pass 33 = .ok (.getfield 305, 3) := by decide +kernel
theorem dX7_pass_36 : decode cX7_pass 36 = .ok (.iconst 1, 1) := by decide +kernel
theorem dX7_pass_37 : decode cX7_pass 37 = .ok (.iadd, 1) := by decide +kernel
theorem dX7_pass_38 : decode cX7_pass 38 = .ok (.putfield 305, 3) := by decide +kernel
theorem dX7_pass_41 : decode cX7_pass 41 = .ok (.iload_n 2, 1) := by decide +kernel
theorem dX7_pass_42 : decode cX7_pass 42 = .ok (.ireturn, 1) := by decide +kernel
theorem c_X7_pass {d : List Nat} {T : vT} {M : vM} {a v : Int} (hB : vB T) (ha : M 200 38 = a) (h0 : 0 ≤ a) (h80 : a < 80) : vCon m_X7_pass d d [vR 200, vI v] T M (vPi fun r T1 M1 => T = T1 ∧ r = (if M 200 39 = 0 then M 237 a else v) ∧ M1 = vUpd (vUpd M 237 a r) 200 38 (a + 1)) := by
  refine vCon.of (by decide) rfl rfl (Nat.le_of_ble_eq_true rfl) ?_
  refine vV.aload_n dX7_pass_0 rfl ?_
  refine vV.getz (z := 39) dX7_pass_1 fl_X7_301 (by first | rfl | assumption) rfl rfl ?_
  refine vV.if_eq (tgt := 11) dX7_pass_4 (by decide) (fun h4 => ?_) (fun h4 => ?_)
  · skip
    refine vV.aload_n dX7_pass_11 rfl ?_
    refine vV.getr dX7_pass_12 fl_X7_73 (by first | rfl | assumption) rfl (by first | assumption | exact hB _ _ _ rfl) ?_
    refine vV.aload_n dX7_pass_15 rfl ?_
    refine vV.geti (z := 38) dX7_pass_16 fl_X7_305 (by first | rfl | assumption) rfl rfl ?_
    rw [ha]
    refine vV.iald dX7_pass_19 (by first | rfl | assumption) (by omega) (by omega) ?_
    refine vV.istore_n (L' := [_, _, _]) dX7_pass_20 (by decide) rfl ?_
    refine vV.aload_n dX7_pass_21 rfl ?_
    refine vV.getr dX7_pass_22 fl_X7_73 (by first | rfl | assumption) rfl (by first | assumption | exact hB _ _ _ rfl) ?_
    refine vV.aload_n dX7_pass_25 rfl ?_
    refine vV.geti (z := 38) dX7_pass_26 fl_X7_305 (by first | rfl | assumption) rfl rfl ?_
    rw [ha]
    refine vV.iload_n dX7_pass_29 rfl ?_
    refine vV.iast dX7_pass_30 (by first | rfl | assumption) (by omega) (by omega) ?_
    refine vV.aload_n dX7_pass_31 rfl ?_
    refine vV.dup dX7_pass_32 rfl ?_
    refine vV.geti (z := 38) dX7_pass_33 fl_X7_305 (by first | rfl | assumption) rfl rfl ?_
    rw [vUpd_nk (by decide), ha]
    refine vV.iconst dX7_pass_36 (by decide) ?_
    refine vV.iadd dX7_pass_37 (⟨by omega, by omega⟩) ?_
    refine vV.puti (z := 38) dX7_pass_38 fl_X7_305 (by first | rfl | assumption) rfl rfl ?_
    refine vV.iload_n dX7_pass_41 rfl ?_
    refine vV.ri dX7_pass_42 rfl ?_
    first | (rw [if_pos h4]; exact ⟨rfl, rfl, rfl⟩) | (rw [if_neg h4]; exact ⟨rfl, rfl, rfl⟩)
  · skip
    refine vV.iload_n dX7_pass_7 rfl ?_
    refine vV.goto (tgt := 20) dX7_pass_8 (by decide) ?_
    refine vV.istore_n (L' := [_, _, _]) dX7_pass_20 (by decide) rfl ?_
    refine vV.aload_n dX7_pass_21 rfl ?_
    refine vV.getr dX7_pass_22 fl_X7_73 (by first | rfl | assumption) rfl (by first | assumption | exact hB _ _ _ rfl) ?_
    refine vV.aload_n dX7_pass_25 rfl ?_
    refine vV.geti (z := 38) dX7_pass_26 fl_X7_305 (by first | rfl | assumption) rfl rfl ?_
    rw [ha]
    refine vV.iload_n dX7_pass_29 rfl ?_
    refine vV.iast dX7_pass_30 (by first | rfl | assumption) (by omega) (by omega) ?_
    refine vV.aload_n dX7_pass_31 rfl ?_
    refine vV.dup dX7_pass_32 rfl ?_
    refine vV.geti (z := 38) dX7_pass_33 fl_X7_305 (by first | rfl | assumption) rfl rfl ?_
    rw [vUpd_nk (by decide), ha]
    refine vV.iconst dX7_pass_36 (by decide) ?_
    refine vV.iadd dX7_pass_37 (⟨by omega, by omega⟩) ?_
    refine vV.puti (z := 38) dX7_pass_38 fl_X7_305 (by first | rfl | assumption) rfl rfl ?_
    refine vV.iload_n dX7_pass_41 rfl ?_
    refine vV.ri dX7_pass_42 rfl ?_
    first | (rw [if_pos h4]; exact ⟨rfl, rfl, rfl⟩) | (rw [if_neg h4]; exact ⟨rfl, rfl, rfl⟩)
/-- the k-th number of an image -/
def kpI (M : vM) (k : Int) : Int := if k < 6 then M 200 (4 + k) else if (k - 6) % 4 = 0 then M 201 ((k - 6) / 4) else if (k - 6) % 4 = 1 then M 202 ((k - 6) / 4) else if (k - 6) % 4 = 2 then M 203 ((k - 6) / 4) else M 204 ((k - 6) / 4)
def kpW (M : vM) (b : Int) (k : Nat) : vM := vUpd (vRow M 237 (fun j => if b ≤ j ∧ j < b + k then kpI M (j - b) else M 237 j)) 200 38 (b + k)
theorem kpW_0 {M : vM} {b : Int} (h : M 200 38 = b) : kpW M b 0 = M := by
  funext a j
  unfold kpW vUpd vRow
  split
  · rename_i z; rw [z.1, z.2, h]; simp
  · split
    · rename_i z; subst z; simp only; rw [if_neg (by omega)]
    · rfl
theorem kpW_s (M : vM) (b : Int) (k : Nat) : vUpd (vUpd (kpW M b k) 237 (b + k) (kpI M k)) 200 38 (b + k + 1) = kpW M b (k + 1) := by
  funext a j
  unfold kpW vUpd vRow
  by_cases h1 : a = 200 ∧ j = 38
  · rw [if_pos h1, if_pos h1]; omega
  · simp only [if_neg h1]
    by_cases h2 : a = 237
    · subst h2
      simp only [if_true]
      by_cases h3 : j = b + k
      · rw [if_pos ⟨trivial, h3⟩, if_pos (by omega), h3]; congr 1; omega
      · rw [if_neg (fun z => h3 z.2)]
        by_cases h4 : b ≤ j ∧ j < b + k
        · rw [if_pos h4, if_pos (by omega)]
        · rw [if_neg h4, if_neg (by omega)]
    · rw [if_neg (fun z => h2 z.1), if_neg h2, if_neg h2]
theorem kpW_id {M : vM} {b : Int} {k a : Nat} {j : Int} (h : a ≠ 237) (h2 : a = 200 → j ≠ 38) : kpW M b k a j = M a j := by
  unfold kpW vUpd vRow
  rw [if_neg (fun z => h2 z.1 z.2), if_neg h]
theorem kpW_u {M : vM} {b : Int} {k a : Nat} {j : Int} (h : a ≠ 237) (h2 : a = 200 → j ≠ 38) : vUpd (kpW M b k) a j (M a j) = kpW M b k := by
  funext c i
  unfold vUpd
  split
  · rename_i z; rw [z.1, z.2, kpW_id h h2]
  · rfl
theorem c_passW {d : List Nat} {T : vT} {M : vM} {b v : Int} {k : Nat} (hB : vB T) (hw : M 200 39 = 1) (hb : 0 ≤ b) (hk : b + k < 80) (hv : v = kpI M k) : vCon m_X7_pass d d [vR 200, vI v] T (kpW M b k) (vPi fun r T1 M1 => T = T1 ∧ r = v ∧ M1 = kpW M b (k + 1)) := by
  refine vCon.imp (c_X7_pass (a := b + k) hB (by unfold kpW; rw [vUpd_s]) (by omega) (by omega)) (fun x T1 M1 ⟨h1, h2, h3⟩ => ?_)
  rw [kpW_id (by decide) (fun _ => by decide), hw, if_neg (by decide)] at h2
  exact ⟨h1, h2, by rw [h3, h2, hv, kpW_s]⟩
/-- k numbers of an image are taken -/
def kpR (M : vM) (b : Int) (k : Nat) : vM := fun a j => if a = 200 ∧ j = 38 then b + k else if a = 200 ∧ 4 ≤ j ∧ j < 10 ∧ j - 4 < k then M 237 (b + (j - 4)) else if (201 ≤ a ∧ a ≤ 204) ∧ 0 ≤ j ∧ j < 6 ∧ 6 + 4 * j + ((a : Int) - 201) < k then M 237 (b + (6 + 4 * j + ((a : Int) - 201))) else M a j
theorem kpR_0 {M : vM} {b : Int} (h : M 200 38 = b) : kpR M b 0 = M := by
  funext a j
  unfold kpR
  split
  · rename_i z; rw [z.1, z.2, h]; simp
  · rw [if_neg (by omega), if_neg (by omega)]
theorem kpR_s1 {M : vM} {b : Int} {k : Nat} (hk : k < 6) : vUpd (vUpd (kpR M b k) 200 38 (b + k + 1)) 200 (4 + (k : Int)) (M 237 (b + k)) = kpR M b (k + 1) := by
  funext a j
  unfold vUpd kpR
  repeat' split
  all_goals first | rfl | (exfalso; omega) | omega | (congr 1; omega)
theorem kpR_237 {M : vM} {b : Int} {k : Nat} : kpR M b k 237 = M 237 := by
  funext j; unfold kpR; rw [if_neg (by omega), if_neg (by omega), if_neg (by omega)]
theorem c_passR {d : List Nat} {T : vT} {M : vM} {b v : Int} {k : Nat} (hB : vB T) (hw : M 200 39 = 0) (hb : 0 ≤ b) (hk : b + k < 80) : vCon m_X7_pass d d [vR 200, vI v] T (kpR M b k) (vPi fun r T1 M1 => T = T1 ∧ r = M 237 (b + k) ∧ M1 = vUpd (kpR M b k) 200 38 (b + k + 1)) := by
  refine vCon.imp (c_X7_pass (a := b + k) hB (by unfold kpR; rw [if_pos ⟨rfl, rfl⟩]) (by omega) (by omega)) (fun x T1 M1 ⟨h1, h2, h3⟩ => ?_)
  have e39 : kpR M b k 200 39 = 0 := by unfold kpR; rw [if_neg (by omega), if_neg (by omega), if_neg (by omega)]; exact hw
  rw [if_pos e39, kpR_237] at h2
  refine ⟨h1, h2, ?_⟩
  have e : vUpd (kpR M b k) 237 (b + k) x = kpR M b k := by
    funext a j
    unfold vUpd
    split
    · rename_i z; rw [z.1, z.2, kpR_237, h2]
    · rfl
  rw [h3, e]

theorem kpR_q0 {M : vM} {b : Int} {p : Nat} (hp : p < 6) : vUpd (vUpd (kpR M b (6 + 4 * p + 0)) 200 38 (b + (6 + 4 * p + 0 : Nat) + 1)) 201 p (M 237 (b + (6 + 4 * p + 0 : Nat))) = kpR M b (6 + 4 * p + 0 + 1) := by
  funext a j
  unfold vUpd kpR
  repeat' split
  all_goals first | rfl | (exfalso; omega) | omega | (congr 1; omega)
theorem kpI_q0 {M : vM} {p : Nat} : kpI M (6 + 4 * p + 0 : Nat) = M 201 p := by
  have e1 : (((6 + 4 * p + 0 : Nat) : Int) - 6) % 4 = 0 := by omega
  have e2 : (((6 + 4 * p + 0 : Nat) : Int) - 6) / 4 = p := by omega
  unfold kpI
  rw [if_neg (by omega), e1, e2]
  rfl

theorem kpR_q1 {M : vM} {b : Int} {p : Nat} (hp : p < 6) : vUpd (vUpd (kpR M b (6 + 4 * p + 1)) 200 38 (b + (6 + 4 * p + 1 : Nat) + 1)) 202 p (M 237 (b + (6 + 4 * p + 1 : Nat))) = kpR M b (6 + 4 * p + 1 + 1) := by
  funext a j
  unfold vUpd kpR
  repeat' split
  all_goals first | rfl | (exfalso; omega) | omega | (congr 1; omega)
theorem kpI_q1 {M : vM} {p : Nat} : kpI M (6 + 4 * p + 1 : Nat) = M 202 p := by
  have e1 : (((6 + 4 * p + 1 : Nat) : Int) - 6) % 4 = 1 := by omega
  have e2 : (((6 + 4 * p + 1 : Nat) : Int) - 6) / 4 = p := by omega
  unfold kpI
  rw [if_neg (by omega), e1, e2]
  rfl

theorem kpR_q2 {M : vM} {b : Int} {p : Nat} (hp : p < 6) : vUpd (vUpd (kpR M b (6 + 4 * p + 2)) 200 38 (b + (6 + 4 * p + 2 : Nat) + 1)) 203 p (M 237 (b + (6 + 4 * p + 2 : Nat))) = kpR M b (6 + 4 * p + 2 + 1) := by
  funext a j
  unfold vUpd kpR
  repeat' split
  all_goals first | rfl | (exfalso; omega) | omega | (congr 1; omega)
theorem kpI_q2 {M : vM} {p : Nat} : kpI M (6 + 4 * p + 2 : Nat) = M 203 p := by
  have e1 : (((6 + 4 * p + 2 : Nat) : Int) - 6) % 4 = 2 := by omega
  have e2 : (((6 + 4 * p + 2 : Nat) : Int) - 6) / 4 = p := by omega
  unfold kpI
  rw [if_neg (by omega), e1, e2]
  rfl

theorem kpR_q3 {M : vM} {b : Int} {p : Nat} (hp : p < 6) : vUpd (vUpd (kpR M b (6 + 4 * p + 3)) 200 38 (b + (6 + 4 * p + 3 : Nat) + 1)) 204 p (M 237 (b + (6 + 4 * p + 3 : Nat))) = kpR M b (6 + 4 * p + 3 + 1) := by
  funext a j
  unfold vUpd kpR
  repeat' split
  all_goals first | rfl | (exfalso; omega) | omega | (congr 1; omega)
theorem kpI_q3 {M : vM} {p : Nat} : kpI M (6 + 4 * p + 3 : Nat) = M 204 p := by
  have e1 : (((6 + 4 * p + 3 : Nat) : Int) - 6) % 4 = 3 := by omega
  have e2 : (((6 + 4 * p + 3 : Nat) : Int) - 6) / 4 = p := by omega
  unfold kpI
  rw [if_neg (by omega), e1, e2]
  rfl

theorem dX7_passAll_0 : decode cX7_passAll 0 = .ok (.aload_n 0, 1) := by decide +kernel
theorem dX7_passAll_1 : decode cX7_passAll 1 = .ok (.aload_n 0, 1) := by decide +kernel
theorem dX7_passAll_2 : decode cX7_passAll 2 = .ok (.aload_n 0, 1) := by decide +kernel
theorem dX7_passAll_3 : decode cX7_passAll 3 = .ok (.getfield 89, 3) := by decide +kernel
theorem dX7_passAll_6 : decode cX7_passAll 6 = .ok (.invokevirtual 308, 3) := by decide +kernel
theorem dX7_passAll_9 : decode cX7_passAll 9 = .ok (.putfield 89, 3) := by decide +kernel
theorem dX7_passAll_12 : decode cX7_passAll 12 = .ok (.aload_n 0, 1) := by decide +kernel
theorem dX7_passAll_13 : decode cX7_passAll 13 = .ok (.aload_n 0, 1) := by decide +kernel
theorem dX7_passAll_14 : decode cX7_passAll 14 = .ok (.aload_n 0, 1) := by decide +kernel
theorem dX7_passAll_15 : decode cX7_passAll 15 = .ok (.getfield 117, 3) := by decide +kernel
theorem dX7_passAll_18 : decode cX7_passAll 18 = .ok (.invokevirtual 308, 3) := by decide +kernel
theorem dX7_passAll_21 : decode cX7_passAll 21 = .ok (.putfield 117, 3) := by decide +kernel
theorem dX7_passAll_24 : decode cX7_passAll 24 = .ok (.aload_n 0, 1) := by decide +kernel
theorem dX7_passAll_25 : decode cX7_passAll 25 = .ok (.aload_n 0, 1) := by decide +kernel
theorem dX7_passAll_26 : decode cX7_passAll 26 = .ok (.aload_n 0, 1) := by decide +kernel
theorem dX7_passAll_27 : decode cX7_passAll 27 = .ok (.getfield 80, 3) := by decide +kernel
theorem dX7_passAll_30 : decode cX7_passAll 30 = .ok (.invokevirtual 308, 3) := by decide +kernel
theorem dX7_passAll_33 : decode cX7_passAll 33 = .ok (.putfield 80, 3) := by decide +kernel
theorem dX7_passAll_36 : decode cX7_passAll 36 = .ok (.aload_n 0, 1) := by decide +kernel
theorem dX7_passAll_37 : decode cX7_passAll 37 = .ok (.aload_n 0, 1) := by decide +kernel
theorem dX7_passAll_38 : decode cX7_passAll 38 = .ok (.aload_n 0, 1) := by decide +kernel
theorem dX7_passAll_39 : decode cX7_passAll 39 = .ok (.getfield 83, 3) := by decide +kernel
theorem dX7_passAll_42 : decode cX7_passAll 42 = .ok (.invokevirtual 308, 3) := by decide +kernel
theorem dX7_passAll_45 : decode cX7_passAll 45 = .ok (.putfield 83, 3) := by decide +kernel
theorem dX7_passAll_48 : decode cX7_passAll 48 = .ok (.aload_n 0, 1) := by decide +kernel
theorem dX7_passAll_49 : decode cX7_passAll 49 = .ok (.aload_n 0, 1) := by decide +kernel
theorem dX7_passAll_50 : decode cX7_passAll 50 = .ok (.aload_n 0, 1) := by decide +kernel
theorem dX7_passAll_51 : decode cX7_passAll 51 = .ok (.getfield 120, 3) := by decide +kernel
theorem dX7_passAll_54 : decode cX7_passAll 54 = .ok (.invokevirtual 308, 3) := by decide +kernel
theorem dX7_passAll_57 : decode cX7_passAll 57 = .ok (.putfield 120, 3) := by decide +kernel
theorem dX7_passAll_60 : decode cX7_passAll 60 = .ok (.aload_n 0, 1) := by decide +kernel
theorem dX7_passAll_61 : decode cX7_passAll 61 = .ok (.aload_n 0, 1) := by decide +kernel
theorem dX7_passAll_62 : decode cX7_passAll 62 = .ok (.aload_n 0, 1) := by decide +kernel
theorem dX7_passAll_63 : decode cX7_passAll 63 = .ok (.getfield 86, 3) := by decide +kernel
theorem dX7_passAll_66 : decode cX7_passAll 66 = .ok (.invokevirtual 308, 3) := by decide +kernel
theorem dX7_passAll_69 : decode cX7_passAll 69 = .ok (.putfield 86, 3) := by decide +kernel
theorem dX7_passAll_72 : decode cX7_passAll 72 = .ok (.iconst 0, 1) := by decide +kernel
theorem dX7_passAll_73 : decode cX7_passAll 73 = .ok (.istore_n 1, 1) := by decide +kernel
theorem dX7_passAll_74 : decode cX7_passAll 74 = .ok (.iload_n 1, 1) := by decide +kernel
theorem dX7_passAll_75 : decode cX7_passAll 75 = .ok (.bipush 6, 2) := by decide +kernel
theorem dX7_passAll_77 : decode cX7_passAll 77 = .ok (.if_icmp .ge 73, 3) := by decide +kernel
theorem dX7_passAll_80 : decode cX7_passAll 80 = .ok (.aload_n 0, 1) := by decide +kernel
theorem dX7_passAll_81 : decode cX7_passAll 81 = .ok (.getfield 7, 3) := by decide +kernel
theorem dX7_passAll_84 : decode cX7_passAll 84 = .ok (.iload_n 1, 1) := by decide +kernel
theorem dX7_passAll_85 : decode cX7_passAll 85 = .ok (.aload_n 0, 1) := by decide +kernel
theorem dX7_passAll_86 : decode cX7_passAll 86 = .ok (.aload_n 0, 1) := by decide +kernel
theorem dX7_passAll_87 : decode cX7_passAll 87 = .ok (.getfield 7, 3) := by decide +kernel
theorem dX7_passAll_90 : decode cX7_passAll 90 = .ok (.iload_n 1, 1) := by decide +kernel
theorem dX7_passAll_91 : decode cX7_passAll 91 = .ok (.iaload, 1) := by decide +kernel
theorem dX7_passAll_92 : decode cX7_passAll 92 = .ok (.invokevirtual 308, 3) := by decide +kernel
theorem dX7_passAll_95 : decode cX7_passAll 95 = .ok (.iastore, 1) := by decide +kernel
theorem dX7_passAll_96 : decode cX7_passAll 96 = .ok (.aload_n 0, 1) := by decide +kernel
theorem dX7_passAll_97 : decode cX7_passAll 97 = .ok (.getfield 13, 3) := by decide +kernel
theorem dX7_passAll_100 : decode cX7_passAll 100 = .ok (.iload_n 1, 1) := by decide +kernel
theorem dX7_passAll_101 : decode cX7_passAll 101 = .ok (.aload_n 0, 1) := by decide +kernel
theorem dX7_passAll_102 : decode cX7_passAll 102 = .ok (.aload_n 0, 1) := by decide +kernel
theorem dX7_passAll_103 : decode cX7_passAll 103 = .ok (.getfield 13, 3) := by decide +kernel
theorem dX7_passAll_106 : decode cX7_passAll 106 = .ok (.iload_n 1, 1) := by decide +kernel
theorem dX7_passAll_107 : decode cX7_passAll 107 = .ok (.iaload, 1) := by decide +kernel
theorem dX7_passAll_108 : decode cX7_passAll 108 = .ok (.invokevirtual 308, 3) := by decide +kernel
theorem dX7_passAll_111 : decode cX7_passAll 111 = .ok (.iastore, 1) := by decide +kernel
theorem dX7_passAll_112 : decode cX7_passAll 112 = .ok (.aload_n 0, 1) := by decide +kernel
theorem dX7_passAll_113 : decode cX7_passAll 113 = .ok (.getfield 16, 3) := by decide +kernel
theorem dX7_passAll_116 : decode cX7_passAll 116 = .ok (.iload_n 1, 1) := by decide +kernel
theorem dX7_passAll_117 : decode cX7_passAll 117 = .ok (.aload_n 0, 1) := by decide +kernel
theorem dX7_passAll_118 : decode cX7_passAll 118 = .ok (.aload_n 0, 1) := by decide +kernel
theorem dX7_passAll_119 : decode cX7_passAll 119 = .ok (.getfield 16, 3) := by decide +kernel
theorem dX7_passAll_122 : decode cX7_passAll 122 = .ok (.iload_n 1, 1) := by decide +kernel
theorem dX7_passAll_123 : decode cX7_passAll 123 = .ok (.iaload, 1) := by decide +kernel
theorem dX7_passAll_124 : decode cX7_passAll 124 = .ok (.invokevirtual 308, 3) := by decide +kernel
theorem dX7_passAll_127 : decode cX7_passAll 127 = .ok (.iastore, 1) := by decide +kernel
theorem dX7_passAll_128 : decode cX7_passAll 128 = .ok (.aload_n 0, 1) := by decide +kernel
theorem dX7_passAll_129 : decode cX7_passAll 129 = .ok (.getfield 19, 3) := by decide +kernel
theorem dX7_passAll_132 : decode cX7_passAll 132 = .ok (.iload_n 1, 1) := by decide +kernel
theorem dX7_passAll_133 : decode cX7_passAll 133 = .ok (.aload_n 0, 1) := by decide +kernel
theorem dX7_passAll_134 : decode cX7_passAll 134 = .ok (.aload_n 0, 1) := by decide +kernel
theorem dX7_passAll_135 : decode cX7_passAll 135 = .ok (.getfield 19, 3) := by decide +kernel
theorem dX7_passAll_138 : decode cX7_passAll 138 = .ok (.iload_n 1, 1) := by decide +kernel
theorem dX7_passAll_139 : decode cX7_passAll 139 = .ok (.iaload, 1) := by decide +kernel
theorem dX7_passAll_140 : decode cX7_passAll 140 = .ok (.invokevirtual 308, 3) := by decide +kernel
theorem dX7_passAll_143 : decode cX7_passAll 143 = .ok (.iastore, 1) := by decide +kernel
theorem dX7_passAll_144 : decode cX7_passAll 144 = .ok (.iinc 1 1, 3) := by decide +kernel
theorem dX7_passAll_147 : decode cX7_passAll 147 = .ok (.goto (-73), 3) := by decide +kernel
theorem dX7_passAll_150 : decode cX7_passAll 150 = .ok (.aload_n 0, 1) := by decide +kernel
theorem dX7_passAll_151 : decode cX7_passAll 151 = .ok (.bipush (-6), 2) := by decide +kernel
theorem dX7_passAll_153 : decode cX7_passAll 153 = .ok (.putfield 56, 3) := by decide +kernel
theorem dX7_passAll_156 : decode cX7_passAll 156 = .ok (.return_, 1) := by decide +kernel

theorem l_X7_paW {d : List Nat} {T : vT} {M : vM} {b : Int} (hB : vB T) (hw : M 200 39 = 1) (hb : 0 ≤ b) (hk : b + 30 ≤ 80) : ∀ p : Nat, p ≤ 6 →
    vV m_X7_passAll d d (vPv fun T1 M1 => T = T1 ∧ M1 = vUpd (kpW M b 30) 200 31 (-6)) 74 [some (vR 200), some (vI p)] [] d T (kpW M b (6 + 4 * p)) := by
  refine vUp ?_
  intro p hp ih
  refine vV.iload_n dX7_passAll_74 rfl ?_
  refine vV.bipush (v := 6) dX7_passAll_75 (by decide) (by decide) ?_
  refine vV.icmp_ge (tgt := 150) dX7_passAll_77 (by decide) (fun h77 => ?_) (fun h77 => ?_)
  · skip
    refine vV.aload_n dX7_passAll_150 rfl ?_
    refine vV.bipush (v := (-6)) dX7_passAll_151 (by decide) (by decide) ?_
    refine vV.puti (z := 31) dX7_passAll_153 fl_X7_56 (by first | rfl | assumption) rfl rfl ?_
    refine vV.rv dX7_passAll_156 rfl ?_
    rw [show p = 6 by omega]; exact ⟨rfl, rfl⟩
  · skip
    refine vV.aload_n dX7_passAll_80 rfl ?_
    refine vV.getr dX7_passAll_81 fl_X7_7 (by first | rfl | assumption) rfl (by first | assumption | exact hB _ _ _ rfl) ?_
    refine vV.iload_n dX7_passAll_84 rfl ?_
    refine vV.aload_n dX7_passAll_85 rfl ?_
    refine vV.aload_n dX7_passAll_86 rfl ?_
    refine vV.getr dX7_passAll_87 fl_X7_7 (by first | rfl | assumption) rfl (by first | assumption | exact hB _ _ _ rfl) ?_
    refine vV.iload_n dX7_passAll_90 rfl ?_
    refine vV.iald dX7_passAll_91 (by first | rfl | assumption) (by omega) (by omega) ?_
    rw [kpW_id (by decide) (fun z => by cases z)]
    refine vV.cVi dX7_passAll_92 ml_X7_308 cw_X7_pass iw_X7_pass (by first | rfl | assumption) rfl (by unfold vRoom; decide) (c_passW (k := 6 + 4 * p + 0) hB hw hb (by omega) kpI_q0.symm) rfl rfl (Nat.le_of_ble_eq_true rfl) ?_
    rintro x92 _ _ hx92 ⟨rfl, rfl, rfl⟩
    refine vV.iast dX7_passAll_95 (by first | rfl | assumption) (by omega) (by omega) ?_
    rw [kpW_u (by decide) (fun z => by cases z)]
    refine vV.aload_n dX7_passAll_96 rfl ?_
    refine vV.getr dX7_passAll_97 fl_X7_13 (by first | rfl | assumption) rfl (by first | assumption | exact hB _ _ _ rfl) ?_
    refine vV.iload_n dX7_passAll_100 rfl ?_
    refine vV.aload_n dX7_passAll_101 rfl ?_
    refine vV.aload_n dX7_passAll_102 rfl ?_
    refine vV.getr dX7_passAll_103 fl_X7_13 (by first | rfl | assumption) rfl (by first | assumption | exact hB _ _ _ rfl) ?_
    refine vV.iload_n dX7_passAll_106 rfl ?_
    refine vV.iald dX7_passAll_107 (by first | rfl | assumption) (by omega) (by omega) ?_
    rw [kpW_id (by decide) (fun z => by cases z)]
    refine vV.cVi dX7_passAll_108 ml_X7_308 cw_X7_pass iw_X7_pass (by first | rfl | assumption) rfl (by unfold vRoom; decide) (c_passW (k := 6 + 4 * p + 1) hB hw hb (by omega) kpI_q1.symm) rfl rfl (Nat.le_of_ble_eq_true rfl) ?_
    rintro x108 _ _ hx108 ⟨rfl, rfl, rfl⟩
    refine vV.iast dX7_passAll_111 (by first | rfl | assumption) (by omega) (by omega) ?_
    rw [kpW_u (by decide) (fun z => by cases z)]
    refine vV.aload_n dX7_passAll_112 rfl ?_
    refine vV.getr dX7_passAll_113 fl_X7_16 (by first | rfl | assumption) rfl (by first | assumption | exact hB _ _ _ rfl) ?_
    refine vV.iload_n dX7_passAll_116 rfl ?_
    refine vV.aload_n dX7_passAll_117 rfl ?_
    refine vV.aload_n dX7_passAll_118 rfl ?_
    refine vV.getr dX7_passAll_119 fl_X7_16 (by first | rfl | assumption) rfl (by first | assumption | exact hB _ _ _ rfl) ?_
    refine vV.iload_n dX7_passAll_122 rfl ?_
    refine vV.iald dX7_passAll_123 (by first | rfl | assumption) (by omega) (by omega) ?_
    rw [kpW_id (by decide) (fun z => by cases z)]
    refine vV.cVi dX7_passAll_124 ml_X7_308 cw_X7_pass iw_X7_pass (by first | rfl | assumption) rfl (by unfold vRoom; decide) (c_passW (k := 6 + 4 * p + 2) hB hw hb (by omega) kpI_q2.symm) rfl rfl (Nat.le_of_ble_eq_true rfl) ?_
    rintro x124 _ _ hx124 ⟨rfl, rfl, rfl⟩
    refine vV.iast dX7_passAll_127 (by first | rfl | assumption) (by omega) (by omega) ?_
    rw [kpW_u (by decide) (fun z => by cases z)]
    refine vV.aload_n dX7_passAll_128 rfl ?_
    refine vV.getr dX7_passAll_129 fl_X7_19 (by first | rfl | assumption) rfl (by first | assumption | exact hB _ _ _ rfl) ?_
    refine vV.iload_n dX7_passAll_132 rfl ?_
    refine vV.aload_n dX7_passAll_133 rfl ?_
    refine vV.aload_n dX7_passAll_134 rfl ?_
    refine vV.getr dX7_passAll_135 fl_X7_19 (by first | rfl | assumption) rfl (by first | assumption | exact hB _ _ _ rfl) ?_
    refine vV.iload_n dX7_passAll_138 rfl ?_
    refine vV.iald dX7_passAll_139 (by first | rfl | assumption) (by omega) (by omega) ?_
    rw [kpW_id (by decide) (fun z => by cases z)]
    refine vV.cVi dX7_passAll_140 ml_X7_308 cw_X7_pass iw_X7_pass (by first | rfl | assumption) rfl (by unfold vRoom; decide) (c_passW (k := 6 + 4 * p + 3) hB hw hb (by omega) kpI_q3.symm) rfl rfl (Nat.le_of_ble_eq_true rfl) ?_
    rintro x140 _ _ hx140 ⟨rfl, rfl, rfl⟩
    refine vV.iast dX7_passAll_143 (by first | rfl | assumption) (by omega) (by omega) ?_
    rw [kpW_u (by decide) (fun z => by cases z)]
    refine vV.iinc (L' := [_, _]) dX7_passAll_144 (by decide) rfl (⟨by omega, by omega⟩) rfl ?_
    refine vV.goto (tgt := 74) dX7_passAll_147 (by decide) ?_
    exact ih (by omega)
theorem c_passAllW {d : List Nat} {T : vT} {M : vM} {b : Int} (hB : vB T) (hw : M 200 39 = 1) (h38 : M 200 38 = b) (hb : 0 ≤ b) (hk : b + 30 ≤ 80) : vCon m_X7_passAll d d [vR 200] T M (vPv fun T1 M1 => T = T1 ∧ M1 = vUpd (kpW M b 30) 200 31 (-6)) := by
  have h0 : vCon m_X7_passAll d d [vR 200] T (kpW M b 0) (vPv fun T1 M1 => T = T1 ∧ M1 = vUpd (kpW M b 30) 200 31 (-6)) := by
    refine vCon.of (by decide) rfl rfl (Nat.le_of_ble_eq_true rfl) ?_
    refine vV.aload_n dX7_passAll_0 rfl ?_
    refine vV.aload_n dX7_passAll_1 rfl ?_
    refine vV.aload_n dX7_passAll_2 rfl ?_
    refine vV.geti (z := 4) dX7_passAll_3 fl_X7_89 (by first | rfl | assumption) rfl rfl ?_
    rw [kpW_id (by decide) (fun _ => by decide)]
    refine vV.cVi dX7_passAll_6 ml_X7_308 cw_X7_pass iw_X7_pass (by first | rfl | assumption) rfl (by unfold vRoom; decide) (c_passW (k := 0) (v := M 200 4) hB hw hb (by omega) rfl) rfl rfl (Nat.le_of_ble_eq_true rfl) ?_
    rintro x6 _ _ hx6 ⟨rfl, rfl, rfl⟩
    refine vV.puti (z := 4) dX7_passAll_9 fl_X7_89 (by first | rfl | assumption) rfl rfl ?_
    rw [kpW_u (by decide) (fun _ => by decide)]
    refine vV.aload_n dX7_passAll_12 rfl ?_
    refine vV.aload_n dX7_passAll_13 rfl ?_
    refine vV.aload_n dX7_passAll_14 rfl ?_
    refine vV.geti (z := 5) dX7_passAll_15 fl_X7_117 (by first | rfl | assumption) rfl rfl ?_
    rw [kpW_id (by decide) (fun _ => by decide)]
    refine vV.cVi dX7_passAll_18 ml_X7_308 cw_X7_pass iw_X7_pass (by first | rfl | assumption) rfl (by unfold vRoom; decide) (c_passW (k := 1) (v := M 200 5) hB hw hb (by omega) rfl) rfl rfl (Nat.le_of_ble_eq_true rfl) ?_
    rintro x18 _ _ hx18 ⟨rfl, rfl, rfl⟩
    refine vV.puti (z := 5) dX7_passAll_21 fl_X7_117 (by first | rfl | assumption) rfl rfl ?_
    rw [kpW_u (by decide) (fun _ => by decide)]
    refine vV.aload_n dX7_passAll_24 rfl ?_
    refine vV.aload_n dX7_passAll_25 rfl ?_
    refine vV.aload_n dX7_passAll_26 rfl ?_
    refine vV.geti (z := 6) dX7_passAll_27 fl_X7_80 (by first | rfl | assumption) rfl rfl ?_
    rw [kpW_id (by decide) (fun _ => by decide)]
    refine vV.cVi dX7_passAll_30 ml_X7_308 cw_X7_pass iw_X7_pass (by first | rfl | assumption) rfl (by unfold vRoom; decide) (c_passW (k := 2) (v := M 200 6) hB hw hb (by omega) rfl) rfl rfl (Nat.le_of_ble_eq_true rfl) ?_
    rintro x30 _ _ hx30 ⟨rfl, rfl, rfl⟩
    refine vV.puti (z := 6) dX7_passAll_33 fl_X7_80 (by first | rfl | assumption) rfl rfl ?_
    rw [kpW_u (by decide) (fun _ => by decide)]
    refine vV.aload_n dX7_passAll_36 rfl ?_
    refine vV.aload_n dX7_passAll_37 rfl ?_
    refine vV.aload_n dX7_passAll_38 rfl ?_
    refine vV.geti (z := 7) dX7_passAll_39 fl_X7_83 (by first | rfl | assumption) rfl rfl ?_
    rw [kpW_id (by decide) (fun _ => by decide)]
    refine vV.cVi dX7_passAll_42 ml_X7_308 cw_X7_pass iw_X7_pass (by first | rfl | assumption) rfl (by unfold vRoom; decide) (c_passW (k := 3) (v := M 200 7) hB hw hb (by omega) rfl) rfl rfl (Nat.le_of_ble_eq_true rfl) ?_
    rintro x42 _ _ hx42 ⟨rfl, rfl, rfl⟩
    refine vV.puti (z := 7) dX7_passAll_45 fl_X7_83 (by first | rfl | assumption) rfl rfl ?_
    rw [kpW_u (by decide) (fun _ => by decide)]
    refine vV.aload_n dX7_passAll_48 rfl ?_
    refine vV.aload_n dX7_passAll_49 rfl ?_
    refine vV.aload_n dX7_passAll_50 rfl ?_
    refine vV.geti (z := 8) dX7_passAll_51 fl_X7_120 (by first | rfl | assumption) rfl rfl ?_
    rw [kpW_id (by decide) (fun _ => by decide)]
    refine vV.cVi dX7_passAll_54 ml_X7_308 cw_X7_pass iw_X7_pass (by first | rfl | assumption) rfl (by unfold vRoom; decide) (c_passW (k := 4) (v := M 200 8) hB hw hb (by omega) rfl) rfl rfl (Nat.le_of_ble_eq_true rfl) ?_
    rintro x54 _ _ hx54 ⟨rfl, rfl, rfl⟩
    refine vV.puti (z := 8) dX7_passAll_57 fl_X7_120 (by first | rfl | assumption) rfl rfl ?_
    rw [kpW_u (by decide) (fun _ => by decide)]
    refine vV.aload_n dX7_passAll_60 rfl ?_
    refine vV.aload_n dX7_passAll_61 rfl ?_
    refine vV.aload_n dX7_passAll_62 rfl ?_
    refine vV.geti (z := 9) dX7_passAll_63 fl_X7_86 (by first | rfl | assumption) rfl rfl ?_
    rw [kpW_id (by decide) (fun _ => by decide)]
    refine vV.cVi dX7_passAll_66 ml_X7_308 cw_X7_pass iw_X7_pass (by first | rfl | assumption) rfl (by unfold vRoom; decide) (c_passW (k := 5) (v := M 200 9) hB hw hb (by omega) rfl) rfl rfl (Nat.le_of_ble_eq_true rfl) ?_
    rintro x66 _ _ hx66 ⟨rfl, rfl, rfl⟩
    refine vV.puti (z := 9) dX7_passAll_69 fl_X7_86 (by first | rfl | assumption) rfl rfl ?_
    rw [kpW_u (by decide) (fun _ => by decide)]
    refine vV.iconst dX7_passAll_72 (by decide) ?_
    refine vV.istore_n (L' := [_, _]) dX7_passAll_73 (by decide) rfl ?_
    exact l_X7_paW hB hw hb hk 0 (by omega)
  rw [kpW_0 h38] at h0
  exact h0

theorem l_X7_paR {d : List Nat} {T : vT} {M : vM} {b : Int} (hB : vB T) (hw : M 200 39 = 0) (hb : 0 ≤ b) (hk : b + 30 ≤ 80) : ∀ p : Nat, p ≤ 6 →
    vV m_X7_passAll d d (vPv fun T1 M1 => T = T1 ∧ M1 = vUpd (kpR M b 30) 200 31 (-6)) 74 [some (vR 200), some (vI p)] [] d T (kpR M b (6 + 4 * p)) := by
  refine vUp ?_
  intro p hp ih
  refine vV.iload_n dX7_passAll_74 rfl ?_
  refine vV.bipush (v := 6) dX7_passAll_75 (by decide) (by decide) ?_
  refine vV.icmp_ge (tgt := 150) dX7_passAll_77 (by decide) (fun h77 => ?_) (fun h77 => ?_)
  · skip
    refine vV.aload_n dX7_passAll_150 rfl ?_
    refine vV.bipush (v := (-6)) dX7_passAll_151 (by decide) (by decide) ?_
    refine vV.puti (z := 31) dX7_passAll_153 fl_X7_56 (by first | rfl | assumption) rfl rfl ?_
    refine vV.rv dX7_passAll_156 rfl ?_
    rw [show p = 6 by omega]; exact ⟨rfl, rfl⟩
  · skip
    refine vV.aload_n dX7_passAll_80 rfl ?_
    refine vV.getr dX7_passAll_81 fl_X7_7 (by first | rfl | assumption) rfl (by first | assumption | exact hB _ _ _ rfl) ?_
    refine vV.iload_n dX7_passAll_84 rfl ?_
    refine vV.aload_n dX7_passAll_85 rfl ?_
    refine vV.aload_n dX7_passAll_86 rfl ?_
    refine vV.getr dX7_passAll_87 fl_X7_7 (by first | rfl | assumption) rfl (by first | assumption | exact hB _ _ _ rfl) ?_
    refine vV.iload_n dX7_passAll_90 rfl ?_
    refine vV.iald dX7_passAll_91 (by first | rfl | assumption) (by omega) (by omega) ?_
    refine vV.cVi dX7_passAll_92 ml_X7_308 cw_X7_pass iw_X7_pass (by first | rfl | assumption) rfl (by unfold vRoom; decide) (c_passR (k := 6 + 4 * p + 0) hB hw hb (by omega)) rfl rfl (Nat.le_of_ble_eq_true rfl) ?_
    rintro x92 _ _ hx92 ⟨rfl, rfl, rfl⟩
    refine vV.iast dX7_passAll_95 (by first | rfl | assumption) (by omega) (by omega) ?_
    rw [kpR_q0 (by omega)]
    refine vV.aload_n dX7_passAll_96 rfl ?_
    refine vV.getr dX7_passAll_97 fl_X7_13 (by first | rfl | assumption) rfl (by first | assumption | exact hB _ _ _ rfl) ?_
    refine vV.iload_n dX7_passAll_100 rfl ?_
    refine vV.aload_n dX7_passAll_101 rfl ?_
    refine vV.aload_n dX7_passAll_102 rfl ?_
    refine vV.getr dX7_passAll_103 fl_X7_13 (by first | rfl | assumption) rfl (by first | assumption | exact hB _ _ _ rfl) ?_
    refine vV.iload_n dX7_passAll_106 rfl ?_
    refine vV.iald dX7_passAll_107 (by first | rfl | assumption) (by omega) (by omega) ?_
    refine vV.cVi dX7_passAll_108 ml_X7_308 cw_X7_pass iw_X7_pass (by first | rfl | assumption) rfl (by unfold vRoom; decide) (c_passR (k := 6 + 4 * p + 1) hB hw hb (by omega)) rfl rfl (Nat.le_of_ble_eq_true rfl) ?_
    rintro x108 _ _ hx108 ⟨rfl, rfl, rfl⟩
    refine vV.iast dX7_passAll_111 (by first | rfl | assumption) (by omega) (by omega) ?_
    rw [kpR_q1 (by omega)]
    refine vV.aload_n dX7_passAll_112 rfl ?_
    refine vV.getr dX7_passAll_113 fl_X7_16 (by first | rfl | assumption) rfl (by first | assumption | exact hB _ _ _ rfl) ?_
    refine vV.iload_n dX7_passAll_116 rfl ?_
    refine vV.aload_n dX7_passAll_117 rfl ?_
    refine vV.aload_n dX7_passAll_118 rfl ?_
    refine vV.getr dX7_passAll_119 fl_X7_16 (by first | rfl | assumption) rfl (by first | assumption | exact hB _ _ _ rfl) ?_
    refine vV.iload_n dX7_passAll_122 rfl ?_
    refine vV.iald dX7_passAll_123 (by first | rfl | assumption) (by omega) (by omega) ?_
    refine vV.cVi dX7_passAll_124 ml_X7_308 cw_X7_pass iw_X7_pass (by first | rfl | assumption) rfl (by unfold vRoom; decide) (c_passR (k := 6 + 4 * p + 2) hB hw hb (by omega)) rfl rfl (Nat.le_of_ble_eq_true rfl) ?_
    rintro x124 _ _ hx124 ⟨rfl, rfl, rfl⟩
    refine vV.iast dX7_passAll_127 (by first | rfl | assumption) (by omega) (by omega) ?_
    rw [kpR_q2 (by omega)]
    refine vV.aload_n dX7_passAll_128 rfl ?_
    refine vV.getr dX7_passAll_129 fl_X7_19 (by first | rfl | assumption) rfl (by first | assumption | exact hB _ _ _ rfl) ?_
    refine vV.iload_n dX7_passAll_132 rfl ?_
    refine vV.aload_n dX7_passAll_133 rfl ?_
    refine vV.aload_n dX7_passAll_134 rfl ?_
    refine vV.getr dX7_passAll_135 fl_X7_19 (by first | rfl | assumption) rfl (by first | assumption | exact hB _ _ _ rfl) ?_
    refine vV.iload_n dX7_passAll_138 rfl ?_
    refine vV.iald dX7_passAll_139 (by first | rfl | assumption) (by omega) (by omega) ?_
    refine vV.cVi dX7_passAll_140 ml_X7_308 cw_X7_pass iw_X7_pass (by first | rfl | assumption) rfl (by unfold vRoom; decide) (c_passR (k := 6 + 4 * p + 3) hB hw hb (by omega)) rfl rfl (Nat.le_of_ble_eq_true rfl) ?_
    rintro x140 _ _ hx140 ⟨rfl, rfl, rfl⟩
    refine vV.iast dX7_passAll_143 (by first | rfl | assumption) (by omega) (by omega) ?_
    rw [kpR_q3 (by omega)]
    refine vV.iinc (L' := [_, _]) dX7_passAll_144 (by decide) rfl (⟨by omega, by omega⟩) rfl ?_
    refine vV.goto (tgt := 74) dX7_passAll_147 (by decide) ?_
    exact ih (by omega)
theorem c_passAllR {d : List Nat} {T : vT} {M : vM} {b : Int} (hB : vB T) (hw : M 200 39 = 0) (h38 : M 200 38 = b) (hb : 0 ≤ b) (hk : b + 30 ≤ 80) : vCon m_X7_passAll d d [vR 200] T M (vPv fun T1 M1 => T = T1 ∧ M1 = vUpd (kpR M b 30) 200 31 (-6)) := by
  have h0 : vCon m_X7_passAll d d [vR 200] T (kpR M b 0) (vPv fun T1 M1 => T = T1 ∧ M1 = vUpd (kpR M b 30) 200 31 (-6)) := by
    have f0 := kpR_s1 (M := M) (b := b) (k := 0) (by decide)
    have f1 := kpR_s1 (M := M) (b := b) (k := 1) (by decide)
    have f2 := kpR_s1 (M := M) (b := b) (k := 2) (by decide)
    have f3 := kpR_s1 (M := M) (b := b) (k := 3) (by decide)
    have f4 := kpR_s1 (M := M) (b := b) (k := 4) (by decide)
    have f5 := kpR_s1 (M := M) (b := b) (k := 5) (by decide)
    refine vCon.of (by decide) rfl rfl (Nat.le_of_ble_eq_true rfl) ?_
    refine vV.aload_n dX7_passAll_0 rfl ?_
    refine vV.aload_n dX7_passAll_1 rfl ?_
    refine vV.aload_n dX7_passAll_2 rfl ?_
    refine vV.geti (z := 4) dX7_passAll_3 fl_X7_89 (by first | rfl | assumption) rfl rfl ?_
    refine vV.cVi dX7_passAll_6 ml_X7_308 cw_X7_pass iw_X7_pass (by first | rfl | assumption) rfl (by unfold vRoom; decide) (c_passR (k := 0) hB hw hb (by omega)) rfl rfl (Nat.le_of_ble_eq_true rfl) ?_
    rintro x6 _ _ hx6 ⟨rfl, rfl, rfl⟩
    refine vV.puti (z := 4) dX7_passAll_9 fl_X7_89 (by first | rfl | assumption) rfl rfl ?_
    have g6 : vUpd (vUpd (kpR M b 0) 200 38 (b + (0 : Nat) + 1)) 200 4 (M 237 (b + (0 : Nat))) = kpR M b 1 := f0
    rw [g6]
    refine vV.aload_n dX7_passAll_12 rfl ?_
    refine vV.aload_n dX7_passAll_13 rfl ?_
    refine vV.aload_n dX7_passAll_14 rfl ?_
    refine vV.geti (z := 5) dX7_passAll_15 fl_X7_117 (by first | rfl | assumption) rfl rfl ?_
    refine vV.cVi dX7_passAll_18 ml_X7_308 cw_X7_pass iw_X7_pass (by first | rfl | assumption) rfl (by unfold vRoom; decide) (c_passR (k := 1) hB hw hb (by omega)) rfl rfl (Nat.le_of_ble_eq_true rfl) ?_
    rintro x18 _ _ hx18 ⟨rfl, rfl, rfl⟩
    refine vV.puti (z := 5) dX7_passAll_21 fl_X7_117 (by first | rfl | assumption) rfl rfl ?_
    have g18 : vUpd (vUpd (kpR M b 1) 200 38 (b + (1 : Nat) + 1)) 200 5 (M 237 (b + (1 : Nat))) = kpR M b 2 := f1
    rw [g18]
    refine vV.aload_n dX7_passAll_24 rfl ?_
    refine vV.aload_n dX7_passAll_25 rfl ?_
    refine vV.aload_n dX7_passAll_26 rfl ?_
    refine vV.geti (z := 6) dX7_passAll_27 fl_X7_80 (by first | rfl | assumption) rfl rfl ?_
    refine vV.cVi dX7_passAll_30 ml_X7_308 cw_X7_pass iw_X7_pass (by first | rfl | assumption) rfl (by unfold vRoom; decide) (c_passR (k := 2) hB hw hb (by omega)) rfl rfl (Nat.le_of_ble_eq_true rfl) ?_
    rintro x30 _ _ hx30 ⟨rfl, rfl, rfl⟩
    refine vV.puti (z := 6) dX7_passAll_33 fl_X7_80 (by first | rfl | assumption) rfl rfl ?_
    have g30 : vUpd (vUpd (kpR M b 2) 200 38 (b + (2 : Nat) + 1)) 200 6 (M 237 (b + (2 : Nat))) = kpR M b 3 := f2
    rw [g30]
    refine vV.aload_n dX7_passAll_36 rfl ?_
    refine vV.aload_n dX7_passAll_37 rfl ?_
    refine vV.aload_n dX7_passAll_38 rfl ?_
    refine vV.geti (z := 7) dX7_passAll_39 fl_X7_83 (by first | rfl | assumption) rfl rfl ?_
    refine vV.cVi dX7_passAll_42 ml_X7_308 cw_X7_pass iw_X7_pass (by first | rfl | assumption) rfl (by unfold vRoom; decide) (c_passR (k := 3) hB hw hb (by omega)) rfl rfl (Nat.le_of_ble_eq_true rfl) ?_
    rintro x42 _ _ hx42 ⟨rfl, rfl, rfl⟩
    refine vV.puti (z := 7) dX7_passAll_45 fl_X7_83 (by first | rfl | assumption) rfl rfl ?_
    have g42 : vUpd (vUpd (kpR M b 3) 200 38 (b + (3 : Nat) + 1)) 200 7 (M 237 (b + (3 : Nat))) = kpR M b 4 := f3
    rw [g42]
    refine vV.aload_n dX7_passAll_48 rfl ?_
    refine vV.aload_n dX7_passAll_49 rfl ?_
    refine vV.aload_n dX7_passAll_50 rfl ?_
    refine vV.geti (z := 8) dX7_passAll_51 fl_X7_120 (by first | rfl | assumption) rfl rfl ?_
    refine vV.cVi dX7_passAll_54 ml_X7_308 cw_X7_pass iw_X7_pass (by first | rfl | assumption) rfl (by unfold vRoom; decide) (c_passR (k := 4) hB hw hb (by omega)) rfl rfl (Nat.le_of_ble_eq_true rfl) ?_
    rintro x54 _ _ hx54 ⟨rfl, rfl, rfl⟩
    refine vV.puti (z := 8) dX7_passAll_57 fl_X7_120 (by first | rfl | assumption) rfl rfl ?_
    have g54 : vUpd (vUpd (kpR M b 4) 200 38 (b + (4 : Nat) + 1)) 200 8 (M 237 (b + (4 : Nat))) = kpR M b 5 := f4
    rw [g54]
    refine vV.aload_n dX7_passAll_60 rfl ?_
    refine vV.aload_n dX7_passAll_61 rfl ?_
    refine vV.aload_n dX7_passAll_62 rfl ?_
    refine vV.geti (z := 9) dX7_passAll_63 fl_X7_86 (by first | rfl | assumption) rfl rfl ?_
    refine vV.cVi dX7_passAll_66 ml_X7_308 cw_X7_pass iw_X7_pass (by first | rfl | assumption) rfl (by unfold vRoom; decide) (c_passR (k := 5) hB hw hb (by omega)) rfl rfl (Nat.le_of_ble_eq_true rfl) ?_
    rintro x66 _ _ hx66 ⟨rfl, rfl, rfl⟩
    refine vV.puti (z := 9) dX7_passAll_69 fl_X7_86 (by first | rfl | assumption) rfl rfl ?_
    have g66 : vUpd (vUpd (kpR M b 5) 200 38 (b + (5 : Nat) + 1)) 200 9 (M 237 (b + (5 : Nat))) = kpR M b 6 := f5
    rw [g66]
    refine vV.iconst dX7_passAll_72 (by decide) ?_
    refine vV.istore_n (L' := [_, _]) dX7_passAll_73 (by decide) rfl ?_
    exact l_X7_paR hB hw hb hk 0 (by omega)
  rw [kpR_0 h38] at h0
  exact h0
