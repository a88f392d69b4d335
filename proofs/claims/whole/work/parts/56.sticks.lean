/-! ===== own: the reference: sticks ===== -/
theorem rfS.rf {M : vM} {n : Nat} (hW : mW M n) : rfS M M := ⟨fun _ _ => rfl, fun _ _ => rfl, hW.2.2.1, hW.2.2.2⟩
theorem dX7_sticks_0 : decode cX7_sticks 0 = .ok (.iload_n 1, 1) := by decide +kernel
theorem dX7_sticks_1 : decode cX7_sticks 1 = .ok (.invokestatic 229, 3) := by decide +kernel
theorem dX7_sticks_4 : decode cX7_sticks 4 = .ok (.ifCond .ne 6, 3) := by decide +kernel
theorem dX7_sticks_7 : decode cX7_sticks 7 = .ok (.bipush (-2), 2) := by decide +kernel
theorem dX7_sticks_9 : decode cX7_sticks 9 = .ok (.ireturn, 1) := by decide +kernel
theorem dX7_sticks_10 : decode cX7_sticks 10 = .ok (.aload_n 0, 1) := by decide +kernel
theorem dX7_sticks_11 : decode cX7_sticks 11 = .ok (.invokevirtual 186, 3) := by decide +kernel
theorem dX7_sticks_14 : decode cX7_sticks 14 = .ok (.ifCond .ne 6, 3) := by decide +kernel
theorem dX7_sticks_17 : decode cX7_sticks 17 = .ok (.bipush (-3), 2) := by decide +kernel
theorem dX7_sticks_19 : decode cX7_sticks 19 = .ok (.ireturn, 1) := by decide +kernel
theorem dX7_sticks_20 : decode cX7_sticks 20 = .ok (.aload_n 0, 1) := by decide +kernel
theorem dX7_sticks_21 : decode cX7_sticks 21 = .ok (.iload_n 1, 1) := by decide +kernel
theorem dX7_sticks_22 : decode cX7_sticks 22 = .ok (.invokevirtual 251, 3) := by decide +kernel
theorem dX7_sticks_25 : decode cX7_sticks 25 = .ok (.istore_n 3, 1) := by decide +kernel
theorem dX7_sticks_26 : decode cX7_sticks 26 = .ok (.iload_n 2, 1) := by decide +kernel
theorem dX7_sticks_27 : decode cX7_sticks 27 = .ok (.iconst (-1), 1) := by decide +kernel
theorem dX7_sticks_28 : decode cX7_sticks 28 = .ok (.if_icmp .ne 7, 3) := by decide +kernel
theorem dX7_sticks_31 : decode cX7_sticks 31 = .ok (.iload_n 3, 1) := by decide +kernel
theorem dX7_sticks_32 : decode cX7_sticks 32 = .ok (.goto 30, 3) := by decide +kernel
theorem dX7_sticks_35 : decode cX7_sticks 35 = .ok (.iload_n 2, 1) := by decide +kernel
theorem dX7_sticks_36 : decode cX7_sticks 36 = .ok (.i2l, 1) := by decide +kernel
theorem dX7_sticks_37 : decode cX7_sticks 37 = .ok (.lconst 0, 1) := by decide +kernel
theorem dX7_sticks_38 : decode cX7_sticks 38 = .ok (.aload_n 0, 1) := by decide +kernel
theorem dX7_sticks_39 : decode cX7_sticks 39 = .ok (.getfield 89, 3) := by decide +kernel
theorem dX7_sticks_42 : decode cX7_sticks 42 = .ok (.iconst 1, 1) := by decide +kernel
theorem dX7_sticks_43 : decode cX7_sticks 43 = .ok (.isub, 1) := by decide +kernel
theorem dX7_sticks_44 : decode cX7_sticks 44 = .ok (.i2l, 1) := by decide +kernel
theorem dX7_sticks_45 : decode cX7_sticks 45 = .ok (.invokestatic 92, 3) := by decide +kernel
theorem dX7_sticks_48 : decode cX7_sticks 48 = .ok (.ifCond .eq 12, 3) := by decide +kernel
theorem dX7_sticks_51 : decode cX7_sticks 51 = .ok (.aload_n 0, 1) := by decide +kernel
theorem dX7_sticks_52 : decode cX7_sticks 52 = .ok (.getfield 46, 3) := by decide +kernel
theorem dX7_sticks_55 : decode cX7_sticks 55 = .ok (.iload_n 2, 1) := by decide +kernel
theorem dX7_sticks_56 : decode cX7_sticks 56 = .ok (.iaload, 1) := by decide +kernel
theorem dX7_sticks_57 : decode cX7_sticks 57 = .ok (.goto 5, 3) := by decide +kernel
theorem dX7_sticks_60 : decode cX7_sticks 60 = .ok (.bipush (-6), 2) := by decide +kernel
theorem dX7_sticks_62 : decode cX7_sticks 62 = .ok (.ireturn, 1) := by decide +kernel
theorem c_X7_sticks {d : List Nat} {T : vT} {M : vM} {n lag : Nat} {rule i : Int} (hB : vB T) (hW : mW M n) (hlag : M 200 8 = lag) : vCon m_X7_sticks d d [vR 200, vI rule, vI i] T M (vPi fun r T1 M1 => T = T1 ∧ rfS M M1 ∧ r = rSticks rule i n (pBits (M 204) n) (stR (stV rule (mPb M n) lag (mS0 M n) (pSo (M 201) (M 226) n)) n)) := by
  have hfd : 1 ≤ n → (0 ≤ rule ∧ rule ≤ 3) → vCon m_X7_findSticks d d [vR 200, vI rule] T M (vPi fun r T1 M1 => T = T1 ∧ rfE M M1 n (stR (stV rule (mPb M n) lag (mS0 M n) (pSo (M 201) (M 226) n)) n) ∧ r = if (stR (stV rule (mPb M n) lag (mS0 M n) (pSo (M 201) (M 226) n)) n).1 ≤ 600 then (stR (stV rule (mPb M n) lag (mS0 M n) (pSo (M 201) (M 226) n)) n).1 else -6) := fun h1 hr => by
    have hid : pEq n (pMix n (fun j => j) (M 227)) (fun j => j) := fun j hj => pMix_lt hj
    obtain ⟨e1, e2⟩ := stR_eq (v := stV rule (mPb M n) lag (mS0 M n) (pSo (M 201) (M 226) n)) (o := M 228) (b := 0) h1 (fun f f' hf hf' he => stV_cg (P := mPb M n) (PEq.rf _) (SEq.rf rfl rfl) pEq.rfl hf hf' he) (fun f => (stV_rg _ _ _ _ _ _).1) hid (by omega)
    refine vCon.imp (c_X7_findSticks (lag := lag) (v := stV rule (mPb M n) lag (mS0 M n) (pSo (M 201) (M 226) n)) hB h1 ⟨hW, hlag, hr, (pSo_ok n hW.2.1.2.2.2.2.2.2.2.2.2.2.2.2.2).1, so_rg hW.2.1.2.2.2.2.2.2.2.2.2.2.2.2.2 (fun j => hW.2.1.2.2.2.1 j), fun f _ => ⟨rfl, stV_rg _ _ _ _ _ _⟩⟩) (fun y T1 M1 ⟨a, S, hS, c1, c2⟩ => ?_)
    subst hS
    exact ⟨a, ⟨c1.1, c1.2.trans e2⟩, by rw [c2, e1]⟩
  obtain ⟨S, hS⟩ : ∃ S, S = stR (stV rule (mPb M n) lag (mS0 M n) (pSo (M 201) (M 226) n)) n := ⟨_, rfl⟩
  rw [← hS] at hfd ⊢
  clear hS
  unfold rSticks
  refine vCon.of (by decide) rfl rfl (Nat.le_of_ble_eq_true rfl) ?_
  have hn : n ≤ 6 := hW.2.1.1
  have hb0 : n = 0 → pBits (M 204) n = 0 := fun z => by rw [z]; rfl
  refine vV.iload_n dX7_sticks_0 rfl ?_
  refine vV.cSi dX7_sticks_1 ml_X7_229 cw_X7_isRule sw_X7_isRule (by unfold vRoom; decide) c_X7_isRule rfl rfl (Nat.le_of_ble_eq_true rfl) ?_
  rintro x1 _ _ hx1 ⟨hxe, rfl, rfl⟩
  refine vV.if_ne (tgt := 10) dX7_sticks_4 (by decide) (fun h4 => ?_) (fun h4 => ?_)
  · skip
    have hir : 0 ≤ rule ∧ rule ≤ 3 := by { rcases Decidable.em (0 ≤ rule ∧ rule ≤ 3) with z | z; exact z; rw [hxe, if_neg z] at h4; omega }
    rw [if_neg (by omega)]
    refine vV.aload_n dX7_sticks_10 rfl ?_
    refine vV.cVi dX7_sticks_11 ml_X7_186 cw_X7_standing iw_X7_standing (by first | rfl | assumption) rfl (by unfold vRoom; decide) (c_X7_standing hB hW.1 hn) rfl rfl (Nat.le_of_ble_eq_true rfl) ?_
    rintro x11 _ _ hx11 ⟨rfl, rfl, rfl⟩
    refine vV.if_ne (tgt := 20) dX7_sticks_14 (by decide) (fun h14 => ?_) (fun h14 => ?_)
    · skip
      rw [if_neg h14]
      have h1 : 1 ≤ n := (Nat.eq_zero_or_pos n).elim (fun z => absurd (hb0 z) h14) id
      refine vV.aload_n dX7_sticks_20 rfl ?_
      refine vV.iload_n dX7_sticks_21 rfl ?_
      refine vV.cVi dX7_sticks_22 ml_X7_251 cw_X7_findSticks iw_X7_findSticks (by first | rfl | assumption) rfl (by unfold vRoom; decide) (hfd h1 hir) rfl rfl (Nat.le_of_ble_eq_true rfl) ?_
      rintro x22 _ N hx22 ⟨rfl, ⟨f1, f2⟩, f3⟩
      have hcN : N 200 4 = n := by rw [f1.2.1 4 (by decide)]; exact hW.1
      refine vV.istore_n (L' := [_, _, _, _]) dX7_sticks_25 (by decide) rfl ?_
      refine vV.iload_n dX7_sticks_26 rfl ?_
      refine vV.iconst dX7_sticks_27 (by decide) ?_
      refine vV.icmp_ne (tgt := 35) dX7_sticks_28 (by decide) (fun h28 => ?_) (fun h28 => ?_)
      · skip
        refine vV.iload_n dX7_sticks_35 rfl ?_
        refine vV.i2l dX7_sticks_36 ?_
        refine vV.lconst (v := 0) dX7_sticks_37 (by decide) (by decide) ?_
        refine vV.aload_n dX7_sticks_38 rfl ?_
        refine vV.geti (z := 4) dX7_sticks_39 fl_X7_89 (by first | rfl | assumption) rfl rfl ?_
        rw [hcN]
        refine vV.iconst dX7_sticks_42 (by decide) ?_
        refine vV.isub dX7_sticks_43 (⟨by omega, by omega⟩) ?_
        refine vV.i2l dX7_sticks_44 ?_
        refine vV.cSi dX7_sticks_45 ml_X7_92 cw_X7_in sw_X7_in (by unfold vRoom; decide) c_X7_in rfl rfl (Nat.le_of_ble_eq_true rfl) ?_
        rintro x45 _ _ hx45 ⟨hy45, rfl, rfl⟩
        unfold pIn at hy45
        refine vV.if_eq (tgt := 60) dX7_sticks_48 (by decide) (fun h48 => ?_) (fun h48 => ?_)
        · skip
          have hin : ¬ (0 ≤ i ∧ i < n) := by { have := no01 hy45 h48; omega }
          refine vV.bipush (v := (-6)) dX7_sticks_60 (by decide) (by decide) ?_
          refine vV.ri dX7_sticks_62 rfl ?_
          first | (rw [if_pos h28]; exact ⟨rfl, f1, f3⟩) | (rw [if_neg h28, if_neg hin]; exact ⟨rfl, f1, rfl⟩) | (rw [if_neg h28, if_pos hin]; exact ⟨rfl, f1, by obtain ⟨q, rfl⟩ : ∃ q : Nat, i = q := ⟨i.toNat, by omega⟩; exact f2 q (by omega)⟩)
        · skip
          have hin : 0 ≤ i ∧ i < n := by { have := yes01 hy45 h48; omega }
          refine vV.aload_n dX7_sticks_51 rfl ?_
          refine vV.getr dX7_sticks_52 fl_X7_46 (by first | rfl | assumption) rfl (by first | assumption | exact hB _ _ _ rfl) ?_
          refine vV.iload_n dX7_sticks_55 rfl ?_
          refine vV.iald dX7_sticks_56 (by first | rfl | assumption) (by omega) (by omega) ?_
          refine vV.goto (tgt := 62) dX7_sticks_57 (by decide) ?_
          refine vV.ri dX7_sticks_62 rfl ?_
          first | (rw [if_pos h28]; exact ⟨rfl, f1, f3⟩) | (rw [if_neg h28, if_neg hin]; exact ⟨rfl, f1, rfl⟩) | (rw [if_neg h28, if_pos hin]; exact ⟨rfl, f1, by obtain ⟨q, rfl⟩ : ∃ q : Nat, i = q := ⟨i.toNat, by omega⟩; exact f2 q (by omega)⟩)
      · skip
        refine vV.iload_n dX7_sticks_31 rfl ?_
        refine vV.goto (tgt := 62) dX7_sticks_32 (by decide) ?_
        refine vV.ri dX7_sticks_62 rfl ?_
        first | (rw [if_pos h28]; exact ⟨rfl, f1, f3⟩) | (rw [if_neg h28, if_neg hin]; exact ⟨rfl, f1, rfl⟩) | (rw [if_neg h28, if_pos hin]; exact ⟨rfl, f1, by obtain ⟨q, rfl⟩ : ∃ q : Nat, i = q := ⟨i.toNat, by omega⟩; exact f2 q (by omega)⟩)
    · skip
      rw [if_pos h14]
      refine vV.bipush (v := (-3)) dX7_sticks_17 (by decide) (by decide) ?_
      refine vV.ri dX7_sticks_19 rfl ?_
      exact ⟨rfl, rfS.rf hW, rfl⟩
  · skip
    have hnr : ¬ (0 ≤ rule ∧ rule ≤ 3) := by { intro z; rw [hxe, if_pos z] at h4; omega }
    rw [if_pos hnr]
    refine vV.bipush (v := (-2)) dX7_sticks_7 (by decide) (by decide) ?_
    refine vV.ri dX7_sticks_9 rfl ?_
    exact ⟨rfl, rfS.rf hW, rfl⟩
