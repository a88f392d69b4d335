/-! ===== own: the reference: round ===== -/
theorem dX7_round_0 : decode cX7_round 0 = .ok (.iload_n 1, 1) := by decide +kernel
theorem dX7_round_1 : decode cX7_round 1 = .ok (.invokestatic 229, 3) := by decide +kernel
theorem dX7_round_4 : decode cX7_round 4 = .ok (.ifCond .eq 13, 3) := by decide +kernel
theorem dX7_round_7 : decode cX7_round 7 = .ok (.iload_n 2, 1) := by decide +kernel
theorem dX7_round_8 : decode cX7_round 8 = .ok (.i2l, 1) := by decide +kernel
theorem dX7_round_9 : decode cX7_round 9 = .ok (.lconst 0, 1) := by decide +kernel
theorem dX7_round_10 : decode cX7_round 10 = .ok (.lconst 1, 1) := by decide +kernel
theorem dX7_round_11 : decode cX7_round 11 = .ok (.invokestatic 92, 3) := by decide +kernel
theorem dX7_round_14 : decode cX7_round 14 = .ok (.ifCond .ne 6, 3) := by decide +kernel
theorem dX7_round_17 : decode cX7_round 17 = .ok (.bipush (-2), 2) := by decide +kernel
theorem dX7_round_19 : decode cX7_round 19 = .ok (.ireturn, 1) := by decide +kernel
theorem dX7_round_20 : decode cX7_round 20 = .ok (.aload_n 0, 1) := by decide +kernel
theorem dX7_round_21 : decode cX7_round 21 = .ok (.invokevirtual 186, 3) := by decide +kernel
theorem dX7_round_24 : decode cX7_round 24 = .ok (.ifCond .ne 6, 3) := by decide +kernel
theorem dX7_round_27 : decode cX7_round 27 = .ok (.bipush (-3), 2) := by decide +kernel
theorem dX7_round_29 : decode cX7_round 29 = .ok (.ireturn, 1) := by decide +kernel
theorem dX7_round_30 : decode cX7_round 30 = .ok (.aload_n 0, 1) := by decide +kernel
theorem dX7_round_31 : decode cX7_round 31 = .ok (.invokevirtual 177, 3) := by decide +kernel
theorem dX7_round_34 : decode cX7_round 34 = .ok (.aload_n 0, 1) := by decide +kernel
theorem dX7_round_35 : decode cX7_round 35 = .ok (.iload_n 1, 1) := by decide +kernel
theorem dX7_round_36 : decode cX7_round 36 = .ok (.invokevirtual 232, 3) := by decide +kernel
theorem dX7_round_39 : decode cX7_round 39 = .ok (.ifCond .lt 6, 3) := by decide +kernel
theorem dX7_round_42 : decode cX7_round 42 = .ok (.bipush (-6), 2) := by decide +kernel
theorem dX7_round_44 : decode cX7_round 44 = .ok (.ireturn, 1) := by decide +kernel
theorem dX7_round_45 : decode cX7_round 45 = .ok (.iconst 0, 1) := by decide +kernel
theorem dX7_round_46 : decode cX7_round 46 = .ok (.istore_n 3, 1) := by decide +kernel
theorem dX7_round_47 : decode cX7_round 47 = .ok (.iload_n 3, 1) := by decide +kernel
theorem dX7_round_48 : decode cX7_round 48 = .ok (.sipush 600, 3) := by decide +kernel
theorem dX7_round_51 : decode cX7_round 51 = .ok (.if_icmp .ge 51, 3) := by decide +kernel
theorem dX7_round_54 : decode cX7_round 54 = .ok (.iload_n 3, 1) := by decide +kernel
theorem dX7_round_55 : decode cX7_round 55 = .ok (.iconst 1, 1) := by decide +kernel
theorem dX7_round_56 : decode cX7_round 56 = .ok (.iadd, 1) := by decide +kernel
theorem dX7_round_57 : decode cX7_round 57 = .ok (.istore 4, 2) := by decide +kernel
theorem dX7_round_59 : decode cX7_round 59 = .ok (.iload 4, 2) := by decide +kernel
theorem dX7_round_61 : decode cX7_round 61 = .ok (.sipush 600, 3) := by decide +kernel
theorem dX7_round_64 : decode cX7_round 64 = .ok (.if_icmp .gt 32, 3) := by decide +kernel
theorem dX7_round_67 : decode cX7_round 67 = .ok (.aload_n 0, 1) := by decide +kernel
theorem dX7_round_68 : decode cX7_round 68 = .ok (.iload_n 3, 1) := by decide +kernel
theorem dX7_round_69 : decode cX7_round 69 = .ok (.iload 4, 2) := by decide +kernel
theorem dX7_round_71 : decode cX7_round 71 = .ok (.invokevirtual 237, 3) := by decide +kernel
theorem dX7_round_74 : decode cX7_round 74 = .ok (.ifCond .eq 16, 3) := by decide +kernel
theorem dX7_round_77 : decode cX7_round 77 = .ok (.iload_n 2, 1) := by decide +kernel
theorem dX7_round_78 : decode cX7_round 78 = .ok (.ifCond .ne 7, 3) := by decide +kernel
theorem dX7_round_81 : decode cX7_round 81 = .ok (.iload_n 3, 1) := by decide +kernel
theorem dX7_round_82 : decode cX7_round 82 = .ok (.goto 7, 3) := by decide +kernel
theorem dX7_round_85 : decode cX7_round 85 = .ok (.iload 4, 2) := by decide +kernel
theorem dX7_round_87 : decode cX7_round 87 = .ok (.iload_n 3, 1) := by decide +kernel
theorem dX7_round_88 : decode cX7_round 88 = .ok (.isub, 1) := by decide +kernel
theorem dX7_round_89 : decode cX7_round 89 = .ok (.ireturn, 1) := by decide +kernel
theorem dX7_round_90 : decode cX7_round 90 = .ok (.iinc 4 1, 3) := by decide +kernel
theorem dX7_round_93 : decode cX7_round 93 = .ok (.goto (-34), 3) := by decide +kernel
theorem dX7_round_96 : decode cX7_round 96 = .ok (.iinc 3 1, 3) := by decide +kernel
theorem dX7_round_99 : decode cX7_round 99 = .ok (.goto (-52), 3) := by decide +kernel
theorem dX7_round_102 : decode cX7_round 102 = .ok (.bipush (-6), 2) := by decide +kernel
theorem dX7_round_104 : decode cX7_round 104 = .ok (.ireturn, 1) := by decide +kernel
/-- how long behind a it first comes again, less one -/
def pRb (rule : Int) (P : pP) (lag : Nat) (s0 : pS) (a : Nat) : Option Nat := pFind (fun j => pAs rule P lag s0 a (a + 1 + j)) (600 - a)
def pRd (rule what : Int) (P : pP) (lag : Nat) (s0 : pS) : Option Nat → Int
  | none => -6
  | some a => if what = 0 then a else pOr 0 (pRb rule P lag s0 a) + 1
def pRa (rule : Int) (P : pP) (lag : Nat) (s0 : pS) : Option Nat := pFind (fun a => (pRb rule P lag s0 a).isSome) 600
theorem l_X7_round59 {d : List Nat} {T : vT} {M : vM} {rule what : Int} {P : pP} {lag a : Nat} {s0 : pS} {Pp : Int → vT → vM → Prop} (hB : vB T) (hj : mTj M rule P lag s0 600) (hl3 : lag ≤ 3) (ha : a < 600)
    (hno : (∀ i, i < 600 - a → pAs rule P lag s0 a (a + 1 + i) = false) → vV m_X7_round d d (vPi Pp) 96 [some (vR 200), some (vI rule), some (vI what), some (vI a), some (vI 601)] [] d T M)
    (hyes : ∀ j, pRb rule P lag s0 a = some j → Pp (if what = 0 then a else (j : Int) + 1) T M) : ∀ j, j ≤ 600 - a → (∀ i, i < j → pAs rule P lag s0 a (a + 1 + i) = false) →
    vV m_X7_round d d (vPi Pp) 59 [some (vR 200), some (vI rule), some (vI what), some (vI a), some (vI ((a + 1 + j : Nat) : Int))] [] d T M := by
  refine vUp ?_
  intro j hjl ih hf
  have hfd : a + 1 + j ≤ 600 → pAs rule P lag s0 a (a + 1 + j) = true → pRb rule P lag s0 a = some j := fun h1 h2 => pFind_yes (by omega) h2 hf
  refine vV.iload dX7_round_59 rfl ?_
  refine vV.sipush (v := 600) dX7_round_61 (by decide) (by decide) ?_
  refine vV.icmp_gt (tgt := 96) dX7_round_64 (by decide) (fun h64 => ?_) (fun h64 => ?_)
  · skip
    have h601 : a + 1 + j = 601 := by omega
    rw [h601]
    exact hno (fun i hi => hf i (by omega))
  · skip
    refine vV.aload_n dX7_round_67 rfl ?_
    refine vV.iload_n dX7_round_68 rfl ?_
    refine vV.iload dX7_round_69 rfl ?_
    refine vV.cVi dX7_round_71 ml_X7_237 cw_X7_isAs iw_X7_isAs (by first | rfl | assumption) rfl (by unfold vRoom; decide) (c_X7_isAs hB hj (a := a) (b := a + 1 + j) (by omega) (by omega) hl3) rfl rfl (Nat.le_of_ble_eq_true rfl) ?_
    rintro x71 _ _ hx71 ⟨rfl, rfl, rfl⟩
    refine vV.if_eq (tgt := 90) dX7_round_74 (by decide) (fun h74 => ?_) (fun h74 => ?_)
    · skip
      have has : pAs rule P lag s0 a (a + 1 + j) = false := by { revert h74; cases pAs rule P lag s0 a (a + 1 + j) <;> simp [bI] }
      refine vV.iinc (L' := [_, _, _, _, _]) dX7_round_90 (by decide) rfl (⟨by omega, by omega⟩) rfl ?_
      refine vV.goto (tgt := 59) dX7_round_93 (by decide) ?_
      exact ih (by omega) (fun i hi => (Nat.lt_succ_iff_lt_or_eq.mp hi).elim (hf i) (fun e => by subst e; exact has))
    · skip
      have has := hfd (by omega) (by { revert h74; cases pAs rule P lag s0 a (a + 1 + j) <;> simp [bI] })
      have hy := hyes j has
      refine vV.iload_n dX7_round_77 rfl ?_
      refine vV.if_ne (tgt := 85) dX7_round_78 (by decide) (fun h78 => ?_) (fun h78 => ?_)
      · skip
        rw [if_neg h78] at hy
        refine vV.iload dX7_round_85 rfl ?_
        refine vV.iload_n dX7_round_87 rfl ?_
        refine vV.isub dX7_round_88 (⟨by omega, by omega⟩) ?_
        refine vV.ri dX7_round_89 rfl ?_
        first | exact hy | (rw [show ((a + 1 + j : Nat) : Int) - a = (j : Int) + 1 by omega]; exact hy)
      · skip
        rw [if_pos h78] at hy
        refine vV.iload_n dX7_round_81 rfl ?_
        refine vV.goto (tgt := 89) dX7_round_82 (by decide) ?_
        refine vV.ri dX7_round_89 rfl ?_
        first | exact hy | (rw [show ((a + 1 + j : Nat) : Int) - a = (j : Int) + 1 by omega]; exact hy)
theorem l_X7_round47 {d : List Nat} {T : vT} {M0 M : vM} {rule what : Int} {P : pP} {lag : Nat} {s0 : pS} (hB : vB T) (hj : mTj M rule P lag s0 600) (hl3 : lag ≤ 3) (hk : mKeepB M0 M) : ∀ a, a ≤ 600 → (∀ i, i < a → (pRb rule P lag s0 i).isSome = false) → ∀ x4,
    vV m_X7_round d d (vPi fun r T1 M1 => T = T1 ∧ mKeepB M0 M1 ∧ r = pRd rule what P lag s0 (pRa rule P lag s0)) 47 [some (vR 200), some (vI rule), some (vI what), some (vI a), x4] [] d T M := by
  refine vUp ?_
  intro a ha ih hf x4
  refine vV.iload_n dX7_round_47 rfl ?_
  refine vV.sipush (v := 600) dX7_round_48 (by decide) (by decide) ?_
  refine vV.icmp_ge (tgt := 102) dX7_round_51 (by decide) (fun h51 => ?_) (fun h51 => ?_)
  · skip
    refine vV.bipush (v := (-6)) dX7_round_102 (by decide) (by decide) ?_
    refine vV.ri dX7_round_104 rfl ?_
    have h600 : pRa rule P lag s0 = none := pFind_no (fun i hi => hf i (by omega))
    exact ⟨rfl, hk, by rw [h600]; rfl⟩
  · skip
    refine vV.iload_n dX7_round_54 rfl ?_
    refine vV.iconst dX7_round_55 (by decide) ?_
    refine vV.iadd dX7_round_56 (⟨by omega, by omega⟩) ?_
    refine vV.istore (L' := [_, _, _, _, _]) dX7_round_57 (by decide) rfl ?_
    refine l_X7_round59 hB hj hl3 (by omega) ?_ ?_ 0 (by omega) (fun i hi => by omega)
    · intro hno
      have hnone : pRb rule P lag s0 a = none := pFind_no hno
      refine vV.iinc (L' := [_, _, _, _, _]) dX7_round_96 (by decide) rfl (⟨by omega, by omega⟩) rfl ?_
      refine vV.goto (tgt := 47) dX7_round_99 (by decide) ?_
      exact ih (by omega) (fun i hi => (Nat.lt_succ_iff_lt_or_eq.mp hi).elim (hf i) (fun e => by subst e; rw [hnone]; rfl)) _
    · intro j hjs
      have hra : pRa rule P lag s0 = some a := pFind_yes (by omega) (by rw [hjs]; rfl) hf
      refine ⟨rfl, hk, ?_⟩
      rw [hra]
      show _ = if what = 0 then (a : Int) else pOr 0 (pRb rule P lag s0 a) + 1
      rw [hjs, pOr_s]
def rRound (rule what : Int) (P : pP) (lag : Nat) (s0 : pS) (bits : Int) : Int := if ¬ (0 ≤ rule ∧ rule ≤ 3) ∨ ¬ (0 ≤ what ∧ what ≤ 1) then -2 else if bits = 0 then -3 else if (pLasts rule P lag s0).isSome then -6 else pRd rule what P lag s0 (pRa rule P lag s0)
theorem c_X7_round {d : List Nat} {T : vT} {M : vM} {n lag : Nat} {rule what : Int} (hB : vB T) (hW : mW M n) (hlag : M 200 8 = lag) : vCon m_X7_round d d [vR 200, vI rule, vI what] T M (vPi fun r T1 M1 => T = T1 ∧ mKeepB M M1 ∧ r = rRound rule what (mPb M n) lag (mS0 M n) (pBits (M 204) n)) := by
  unfold rRound
  have hl3 : lag ≤ 3 := by have := hW.2.1.2.2.2.2.2.2.2.2.2.2.1; have h8 : M 200 8 ≤ 3 := this.2; omega
  refine vCon.of (by decide) rfl rfl (Nat.le_of_ble_eq_true rfl) ?_
  refine vV.iload_n dX7_round_0 rfl ?_
  refine vV.cSi dX7_round_1 ml_X7_229 cw_X7_isRule sw_X7_isRule (by unfold vRoom; decide) c_X7_isRule rfl rfl (Nat.le_of_ble_eq_true rfl) ?_
  rintro x1 _ _ hx1 ⟨hxe, rfl, rfl⟩
  refine vV.if_eq (tgt := 17) dX7_round_4 (by decide) (fun h4 => ?_) (fun h4 => ?_)
  · skip
    have hnr : ¬ (0 ≤ rule ∧ rule ≤ 3) := by { intro z; rw [hxe, if_pos z] at h4; omega }
    rw [if_pos (Or.inl hnr)]
    refine vV.bipush (v := (-2)) dX7_round_17 (by decide) (by decide) ?_
    refine vV.ri dX7_round_19 rfl ?_
    exact ⟨rfl, mKeepB.rf M, rfl⟩
  · skip
    have hir : 0 ≤ rule ∧ rule ≤ 3 := by { rcases Decidable.em (0 ≤ rule ∧ rule ≤ 3) with z | z; exact z; rw [hxe, if_neg z] at h4; omega }
    refine vV.iload_n dX7_round_7 rfl ?_
    refine vV.i2l dX7_round_8 ?_
    refine vV.lconst (v := 0) dX7_round_9 (by decide) (by decide) ?_
    refine vV.lconst (v := 1) dX7_round_10 (by decide) (by decide) ?_
    refine vV.cSi dX7_round_11 ml_X7_92 cw_X7_in sw_X7_in (by unfold vRoom; decide) c_X7_in rfl rfl (Nat.le_of_ble_eq_true rfl) ?_
    rintro x11 _ _ hx11 ⟨rfl, rfl, rfl⟩
    unfold pIn
    refine vV.if_ne (tgt := 20) dX7_round_14 (by decide) (fun h14 => ?_) (fun h14 => ?_)
    · skip
      have hti : 0 ≤ what ∧ what ≤ 1 := by { rcases Decidable.em (0 ≤ what ∧ what ≤ 1) with z | z; exact z; rw [if_neg z] at h14; omega }
      rw [if_neg (by omega)]
      refine vV.aload_n dX7_round_20 rfl ?_
      refine vV.cVi dX7_round_21 ml_X7_186 cw_X7_standing iw_X7_standing (by first | rfl | assumption) rfl (by unfold vRoom; decide) (c_X7_standing hB hW.1 hW.2.1.1) rfl rfl (Nat.le_of_ble_eq_true rfl) ?_
      rintro x21 _ _ hx21 ⟨rfl, rfl, rfl⟩
      refine vV.if_ne (tgt := 30) dX7_round_24 (by decide) (fun h24 => ?_) (fun h24 => ?_)
      · skip
        rw [if_neg h24]
        refine vV.aload_n dX7_round_30 rfl ?_
        refine vV.cVv dX7_round_31 ml_X7_177 cw_X7_begin iw_X7_begin (by first | rfl | assumption) rfl (by unfold vRoom; decide) (c_X7_begin hB hW) rfl rfl (Nat.le_of_ble_eq_true rfl) ?_
        rintro _ N ⟨rfl, hb⟩
        have hj := mTj_begin (rule := rule) hW hlag hb
        refine vV.aload_n dX7_round_34 rfl ?_
        refine vV.iload_n dX7_round_35 rfl ?_
        refine vV.cVi dX7_round_36 ml_X7_232 cw_X7_lastsOf iw_X7_lastsOf (by first | rfl | assumption) rfl (by unfold vRoom; decide) (c_X7_lastsOf hB hir.1 hir.2 hj) rfl rfl (Nat.le_of_ble_eq_true rfl) ?_
        rintro x36 _ M1 hx36 ⟨rfl, hk1, hre, hno⟩
        rw [hre]
        refine vV.if_lt (tgt := 45) dX7_round_39 (by decide) (fun h39 => ?_) (fun h39 => ?_)
        · skip
          have hz : pLasts rule (mPb M n) lag (mS0 M n) = none := by { cases hq : pLasts rule (mPb M n) lag (mS0 M n) with | none => rfl | some q => rw [hq] at h39; simp [pOr] at h39; omega }
          rw [hz, if_neg (by simp)]
          refine vV.iconst dX7_round_45 (by decide) ?_
          refine vV.istore_n (L' := [_, _, _, _, _]) dX7_round_46 (by decide) rfl ?_
          exact l_X7_round47 hB (hno hz) hl3 ((hb.keep hW).tr hk1) 0 (by omega) (fun i hi => by omega) _
        · skip
          have hz : (pLasts rule (mPb M n) lag (mS0 M n)).isSome = true := by { cases hq : pLasts rule (mPb M n) lag (mS0 M n) with | none => rw [hq] at h39; simp [pOr] at h39 | some q => rfl }
          rw [if_pos hz]
          refine vV.bipush (v := (-6)) dX7_round_42 (by decide) (by decide) ?_
          refine vV.ri dX7_round_44 rfl ?_
          exact ⟨rfl, (hb.keep hW).tr hk1, rfl⟩
      · skip
        rw [if_pos h24]
        refine vV.bipush (v := (-3)) dX7_round_27 (by decide) (by decide) ?_
        refine vV.ri dX7_round_29 rfl ?_
        exact ⟨rfl, mKeepB.rf M, rfl⟩
    · skip
      have hti : ¬ (0 ≤ what ∧ what ≤ 1) := by { intro z; rw [if_pos z] at h14; omega }
      rw [if_pos (Or.inr hti)]
      refine vV.bipush (v := (-2)) dX7_round_17 (by decide) (by decide) ?_
      refine vV.ri dX7_round_19 rfl ?_
      exact ⟨rfl, mKeepB.rf M, rfl⟩
