/-! ===== own: AllWays.take; the class: kept, longest, step ===== -/
section VGR
variable {mt mt' : vMt} {d0 d1 dF : List Nat} {Q : Option vA → vT → vM → Prop} {P : Int → vT → vM → Prop} {Pv : vT → vM → Prop} {pc idx n : Nat} {L : List (Option vA)} {S rest As : List vA} {d : List Nat} {T : vT} {M : vM}
theorem vV.cVig {b ci : Nat} (hd : decode mt.2.1 pc = .ok (.invokevirtual idx, 3)) (hlk : Cond.methodLink mt.1.cls idx mt'.1 ∈ vTb) (hw : vCw mt' n) (hw2 : Cond.instanceMethod mt'.1 ∈ vTb ∧ Cond.selects mt'.1.cls mt'.1 mt'.1 ∈ vTb) (hb0 : vKK b = (0, ci)) (hC : (vCl[ci]?).map (fun q => q.1) = some mt'.1.cls) (hrm : vRoom mt mt')
    (hc : vCon mt' d d1 (vR b :: As) T M (vPi P)) (hlen : As.length = n) (hS0 : S = As.reverse ++ vR b :: rest) (hcat : (rest.map vCat).sum ≤ 8) (hle : vLe d d1 dF) (kk : ∀ x T' M', vIn x → P x T' M' → vV mt d0 dF Q (pc + 3) L (vI x :: rest) d1 T' M') : vV mt d0 dF Q pc L S d T M :=
  vV.callV hd hlk hw hw2 hb0 hC hc hlen hS0 hrm hcat hle (fun r T' M' h => by obtain ⟨x, rfl, h1, h2⟩ := h; exact kk x T' M' h1 h2)
theorem vV.cVvg {b ci : Nat} (hd : decode mt.2.1 pc = .ok (.invokevirtual idx, 3)) (hlk : Cond.methodLink mt.1.cls idx mt'.1 ∈ vTb) (hw : vCw mt' n) (hw2 : Cond.instanceMethod mt'.1 ∈ vTb ∧ Cond.selects mt'.1.cls mt'.1 mt'.1 ∈ vTb) (hb0 : vKK b = (0, ci)) (hC : (vCl[ci]?).map (fun q => q.1) = some mt'.1.cls) (hrm : vRoom mt mt')
    (hc : vCon mt' d d1 (vR b :: As) T M (vPv Pv)) (hlen : As.length = n) (hS0 : S = As.reverse ++ vR b :: rest) (hcat : (rest.map vCat).sum ≤ 8) (hle : vLe d d1 dF) (kk : ∀ T' M', Pv T' M' → vV mt d0 dF Q (pc + 3) L rest d1 T' M') : vV mt d0 dF Q pc L S d T M :=
  vV.callV hd hlk hw hw2 hb0 hC hc hlen hS0 hrm hcat hle (fun r T' M' h => by obtain ⟨rfl, h2⟩ := h; exact kk T' M' h2)
end VGR
/-- one to three plates stand -/
def xok3 (M : vM) (n : Nat) : Prop := 1 ≤ exc (M 14) n ∧ exc (M 14) n ≤ 3
def xEc (M : vM) (n : Nat) : xE := xEof n (M 11) (M 12) (M 13) (M 14) (M 15 1)
def xSc (M : vM) (n : Nat) : xS := xS0 n (M 14) (M 15 0)
/-- the cells that are there when the exact part ends -/
def tkH (T : vT) (M : vM) (n : Nat) (d d1 : List Nat) : Prop := (¬ xok3 M n ∧ d1 = d) ∨ (xok3 M n ∧ awT T ∧ awM M ∧ d1 = d) ∨ (xok3 M n ∧ T 100 6 = none ∧ (0 ≤ M 100 5 ∧ M 100 5 < 16000) ∧ 106 ∉ d ∧ 107 ∉ d ∧ 108 ∉ d ∧ d1 = d ++ [106] ++ [107] ++ [108])
theorem tkH.le {T : vT} {M : vM} {n : Nat} {d d1 : List Nat} (h : tkH T M n d d1) : vLe d d1 d1 := by
  rcases h with ⟨-, e⟩ | ⟨-, -, -, e⟩ | ⟨-, -, -, -, -, -, e⟩
  · rw [e]; exact vLe_rf _
  · rw [e]; exact vLe_rf _
  · rw [e]; exact vLe_m (vLe_m (vLe_m (vLe_rf _)))
def xoT (T T1 : vT) : Prop := (∀ k, k ∉ [100, 106, 107, 108] → T1 k = T k) ∧ vB T1
def xoK : List Nat := [100, 102, 103, 104, 106, 107, 108]
/-- behind the exact part -/
def xoS (T : vT) (M : vM) (n : Nat) (T1 : vT) (M1 : vM) : Prop := mSame xoK M M1 ∧ xoT T T1 ∧ (xok3 M n → awT T1 ∧ awM M1) ∧ (¬ xok3 M n → T1 = T ∧ M1 = M)
theorem vB_awN {T : vT} (h : vB T) : vB (awN T) := by
  intro k j v hv
  have h1 := h k j v hv
  by_cases h100 : k = 100
  · subst h100
    have hj : j ≠ 6 ∧ j ≠ 7 ∧ j ≠ 8 := by
      refine ⟨?_, ?_, ?_⟩
      · rintro rfl; exact absurd ((show vBt 100 6 = none by decide).symm.trans hv) (by simp)
      · rintro rfl; exact absurd ((show vBt 100 7 = none by decide).symm.trans hv) (by simp)
      · rintro rfl; exact absurd ((show vBt 100 8 = none by decide).symm.trans hv) (by simp)
    unfold awN vUpT vClT
    simp only [hj.1, hj.2.1, hj.2.2, and_false, if_false, show ¬ (100 : Nat) = 108 by decide, show ¬ (100 : Nat) = 107 by decide, show ¬ (100 : Nat) = 106 by decide]
    exact h1
  · have hk : k ≠ 106 ∧ k ≠ 107 ∧ k ≠ 108 := by
      refine ⟨?_, ?_, ?_⟩
      · rintro rfl; rw [show vBt 106 j = none from vBt_none (by decide) j] at hv; cases hv
      · rintro rfl; rw [show vBt 107 j = none from vBt_none (by decide) j] at hv; cases hv
      · rintro rfl; rw [show vBt 108 j = none from vBt_none (by decide) j] at hv; cases hv
    unfold awN vUpT vClT
    simp only [h100, false_and, if_false, hk.1, hk.2.1, hk.2.2]
    exact h1
theorem awT_awN (T : vT) : awT (awN T) := by
  unfold awT awN vUpT vClT
  refine ⟨?_, ?_, ?_⟩ <;> simp
theorem awN_o {T : vT} {k : Nat} (hk : k ∉ [100, 106, 107, 108]) : awN T k = T k := by
  simp at hk
  funext j
  unfold awN vUpT vClT
  simp only [hk.1, hk.2.1, hk.2.2.1, hk.2.2.2, false_and, if_false]
theorem tkI.c {M N : vM} {n : Nat} (h : tkI M N n n) : xC N (xEc M n) := by
  obtain ⟨a1, a2, a3, a4, a5, a6⟩ := h
  exact ⟨a3, a4, a5, a6⟩
theorem awZ_o {M : vM} {k : Nat} (hk : k ∉ [106, 107, 108]) : awZ M k = M k := by
  simp at hk
  funext j
  unfold awZ vClr
  simp only [hk.1, hk.2.1, hk.2.2, if_false]
theorem enK_S {M : vM} {n : Nat} (h : exc (M 14) n ≤ 3) : enK (M 15 0).toNat (xdg n (M 14)) (exc (M 14) n) = enC (xSc M n) := by
  rw [enK_C h (fun k hk => by unfold xdg; rw [if_neg (by omega)])]; rfl
def tkQ (T : vT) (M : vM) (n : Nat) (T1 : vT) (M1 : vM) (r : Int) : Prop := (¬ xok3 M n ∧ r = -1 ∧ T1 = T ∧ M1 = M) ∨ (xok3 M n ∧ r = (enC (xSc M n) : Nat) ∧ mSame xoK M M1 ∧ xoT T T1 ∧ awT T1 ∧ awM M1 ∧ xC M1 (xEc M n))
theorem tk_0 {M : vM} {n : Nat} (hW : sgW M 10 n) : M 15 0 = ((enK (M 15 0).toNat (xdg n (M 14)) (exc (M 14) 0) : Nat) : Int) := by
  have h : 0 ≤ M 15 0 ∧ M 15 0 ≤ 7 := hW.2.2.2.2.2.2.2.2.1
  show M 15 0 = ((M 15 0).toNat : Int)
  omega
theorem tkI_0 (M : vM) (n : Nat) : tkI M (vUpd (vUpd (vRow M 104 (pMix 8 (fun _ => -1) (M 104))) 100 1 (M 15 1)) 100 0 0) n 0 := by
  refine ⟨fun k hk => ?_, fun j h0 h1 => ?_, ?_, ?_, fun k hk => ?_, fun w hw => ?_⟩
  · simp at hk; rw [vUpd_row hk.1, vUpd_row hk.1, vRow_n hk.2.2.2]
  · rw [vUpd_ni h0, vUpd_ni h1, vRow_n (by decide)]
  · rw [vUpd_s]; rfl
  · rw [vUpd_ni (by decide), vUpd_s]
  · unfold exc at hk; omega
  · rw [vUpd_nk (by decide), vUpd_nk (by decide), vRow_s, pMix_lt hw]; rfl
theorem c_X0_take {d d1 : List Nat} {T : vT} {M : vM} {n : Nat} (hB : vB T) (hW : sgW M 10 n) (hH : tkH T M n d d1) : vCon m_X0_take d d1 [vR 100, vR 10] T M (vPi fun r T1 M1 => tkQ T M n T1 M1 r) := by
  have hn := hW.le
  have hbl : pbN (M 14) n < 64 := by have := pbN_lt (M 14) n; have h2 : 2 ^ n ≤ 2 ^ 6 := Nat.pow_le_pow_right (by decide) hn; omega
  have hbc := bc_ex (tu := M 14) hn
  have hcle : exc (M 14) n ≤ 6 := by rw [← exL_len]; have : ∀ m, (exL (M 14) m).length ≤ m := fun m => by { induction m with | zero => exact Nat.le_refl _ | succ m ih => (unfold exL; split; simp; exact ih; omega) }; have := this n; omega
  refine vCon.of (by decide) rfl rfl (Nat.le_of_ble_eq_true rfl) ?_
  rcases hH with ⟨hno, rfl⟩ | ⟨hok, hA, hM, rfl⟩ | ⟨hok, hT6, hpg, f1, f2, f3, rfl⟩
  · skip
    refine vV.aload_n dX0_take_0 rfl ?_
    refine vV.cVi dX0_take_1 ml_X0_21 cw_X3_standing iw_X3_standing (by first | rfl | assumption) rfl (by unfold vRoom; decide) (c_X3_standing sgK_10 (sgT_10 hB) hW.cnt hW.le) rfl rfl (Nat.le_of_ble_eq_true rfl) ?_
    rintro x1 _ _ hx1 ⟨rfl, rfl, rfl⟩
    rw [show (10 : Nat) + 4 = 14 from rfl, pbN_e]
    refine vV.cSi dX0_take_4 ml_X0_27 cw_J6_bitCount_0f7a4 sw_J6_bitCount_0f7a4 (by unfold vRoom; decide) (c_J6_bitCount hbl) rfl rfl (Nat.le_of_ble_eq_true rfl) ?_
    rintro x4 _ _ hx4 ⟨rfl, rfl, rfl⟩
    rw [hbc]
    refine vV.istore_n (L' := [_, _, _, _, _]) dX0_take_7 (by decide) rfl ?_
    refine vV.iload_n dX0_take_8 rfl ?_
    refine vV.iconst dX0_take_9 (by decide) ?_
    refine vV.icmp_lt (tgt := 18) dX0_take_10 (by decide) (fun h10 => ?_) (fun h10 => ?_)
    · skip
      refine vV.iconst dX0_take_18 (by decide) ?_
      refine vV.ri dX0_take_19 rfl ?_
      exact Or.inl ⟨hno, rfl, rfl, rfl⟩
    · skip
      refine vV.iload_n dX0_take_13 rfl ?_
      refine vV.iconst dX0_take_14 (by decide) ?_
      refine vV.icmp_le (tgt := 20) dX0_take_15 (by decide) (fun h15 => ?_) (fun h15 => ?_)
      · skip
        exact absurd (show xok3 M n from ⟨by omega, by omega⟩) hno
      · skip
        refine vV.iconst dX0_take_18 (by decide) ?_
        refine vV.ri dX0_take_19 rfl ?_
        exact Or.inl ⟨hno, rfl, rfl, rfl⟩
  · have hA2 := hA
    obtain ⟨aa1, aa2, aa3⟩ := hA2
    refine vV.aload_n dX0_take_0 rfl ?_
    refine vV.cVi dX0_take_1 ml_X0_21 cw_X3_standing iw_X3_standing (by first | rfl | assumption) rfl (by unfold vRoom; decide) (c_X3_standing sgK_10 (sgT_10 hB) hW.cnt hW.le) rfl rfl (Nat.le_of_ble_eq_true rfl) ?_
    rintro x1 _ _ hx1 ⟨rfl, rfl, rfl⟩
    rw [show (10 : Nat) + 4 = 14 from rfl, pbN_e]
    refine vV.cSi dX0_take_4 ml_X0_27 cw_J6_bitCount_0f7a4 sw_J6_bitCount_0f7a4 (by unfold vRoom; decide) (c_J6_bitCount hbl) rfl rfl (Nat.le_of_ble_eq_true rfl) ?_
    rintro x4 _ _ hx4 ⟨rfl, rfl, rfl⟩
    rw [hbc]
    refine vV.istore_n (L' := [_, _, _, _, _]) dX0_take_7 (by decide) rfl ?_
    refine vV.iload_n dX0_take_8 rfl ?_
    refine vV.iconst dX0_take_9 (by decide) ?_
    refine vV.icmp_lt (tgt := 18) dX0_take_10 (by decide) (fun h10 => ?_) (fun h10 => ?_)
    · skip
      exact absurd hok.1 (by omega)
    · skip
      refine vV.iload_n dX0_take_13 rfl ?_
      refine vV.iconst dX0_take_14 (by decide) ?_
      refine vV.icmp_le (tgt := 20) dX0_take_15 (by decide) (fun h15 => ?_) (fun h15 => ?_)
      · skip
        refine vV.aload_n dX0_take_20 rfl ?_
        refine vV.getr dX0_take_21 fl_X0_18 (by first | rfl | assumption) rfl (by first | assumption | exact hB _ _ _ rfl) ?_
        refine vV.iconst dX0_take_24 (by decide) ?_
        refine vV.cSv dX0_take_25 ml_X0_33 cw_J7_fill_53178 sw_J7_fill_53178 (by unfold vRoom; decide) (c_J7_fill (a := 104) (n := 8) rfl (by decide)) rfl rfl (Nat.le_of_ble_eq_true rfl) ?_
        rintro _ _ ⟨rfl, rfl⟩
        refine vV.aload_n dX0_take_28 rfl ?_
        refine vV.aload_n dX0_take_29 rfl ?_
        refine vV.getr dX0_take_30 fl_X0_39 (by first | rfl | assumption) rfl (by first | assumption | exact hB _ _ _ rfl) ?_
        refine vV.iconst dX0_take_33 (by decide) ?_
        refine vV.iald dX0_take_34 (by first | rfl | assumption) (by omega) (by omega) ?_
        rw [show vRow M 104 (pMix 8 (fun _ => -1) (M 104)) 15 = M 15 from vRow_n (by decide)]
        refine vV.puti (z := 1) dX0_take_35 fl_X0_42 (by first | rfl | assumption) rfl rfl ?_
        refine vV.aload_n dX0_take_38 rfl ?_
        refine vV.iconst dX0_take_39 (by decide) ?_
        refine vV.puti (z := 0) dX0_take_40 fl_X0_46 (by first | rfl | assumption) rfl rfl ?_
        refine vV.aload_n dX0_take_43 rfl ?_
        refine vV.getr dX0_take_44 fl_X0_39 (by first | rfl | assumption) rfl (by first | assumption | exact hB _ _ _ rfl) ?_
        refine vV.iconst dX0_take_47 (by decide) ?_
        refine vV.iald dX0_take_48 (by first | rfl | assumption) (by omega) (by omega) ?_
        rw [vUpd_nk (by decide), vUpd_nk (by decide), show vRow M 104 (pMix 8 (fun _ => -1) (M 104)) 15 = M 15 from vRow_n (by decide), show M 15 0 = ((enK (M 15 0).toNat (xdg n (M 14)) (exc (M 14) 0) : Nat) : Int) from tk_0 hW]
        refine vV.istore_n (L' := [_, _, _, _, _]) dX0_take_49 (by decide) rfl ?_
        refine vV.iconst dX0_take_50 (by decide) ?_
        refine vV.istore (L' := [_, _, _, _, _]) dX0_take_51 (by decide) rfl ?_
        refine l_X0_tk53 (n := n) hB hW hok.2 (fun N x4 hI => ?_) 0 (by omega) _ (tkI_0 M n)
        have hmN : mSame xoK M N := fun k hk => hI.1 k (by unfold xoK at hk; simp at hk ⊢; omega)
        have hMN : awM N := by
          unfold awM
          rw [hI.2.1 5 (by decide) (by decide), hI.1 106 (by decide)]
          exact hM
        refine vV.aload_n dX0_take_162 rfl ?_
        refine vV.cVv dX0_take_163 ml_X0_61 cw_X0_makeRows iw_X0_makeRows (by first | rfl | assumption) rfl (by unfold vRoom; decide) (c_X0_makeRows_s hA) rfl rfl (Nat.le_of_ble_eq_true rfl) ?_
        rintro _ _ ⟨rfl, rfl⟩
        refine vV.iload_n dX0_take_166 rfl ?_
        refine vV.ri dX0_take_167 rfl ?_
        exact Or.inr ⟨hok, by rw [enK_S hok.2], hmN, ⟨fun _ _ => rfl, hB⟩, hA, hMN, hI.c⟩
      · skip
        exact absurd hok.2 (by omega)
  · skip
    refine vV.aload_n dX0_take_0 rfl ?_
    refine vV.cVi dX0_take_1 ml_X0_21 cw_X3_standing iw_X3_standing (by first | rfl | assumption) rfl (by unfold vRoom; decide) (c_X3_standing sgK_10 (sgT_10 hB) hW.cnt hW.le) rfl rfl (Nat.le_of_ble_eq_true rfl) ?_
    rintro x1 _ _ hx1 ⟨rfl, rfl, rfl⟩
    rw [show (10 : Nat) + 4 = 14 from rfl, pbN_e]
    refine vV.cSi dX0_take_4 ml_X0_27 cw_J6_bitCount_0f7a4 sw_J6_bitCount_0f7a4 (by unfold vRoom; decide) (c_J6_bitCount hbl) rfl rfl (Nat.le_of_ble_eq_true rfl) ?_
    rintro x4 _ _ hx4 ⟨rfl, rfl, rfl⟩
    rw [hbc]
    refine vV.istore_n (L' := [_, _, _, _, _]) dX0_take_7 (by decide) rfl ?_
    refine vV.iload_n dX0_take_8 rfl ?_
    refine vV.iconst dX0_take_9 (by decide) ?_
    refine vV.icmp_lt (tgt := 18) dX0_take_10 (by decide) (fun h10 => ?_) (fun h10 => ?_)
    · skip
      exact absurd hok.1 (by omega)
    · skip
      refine vV.iload_n dX0_take_13 rfl ?_
      refine vV.iconst dX0_take_14 (by decide) ?_
      refine vV.icmp_le (tgt := 20) dX0_take_15 (by decide) (fun h15 => ?_) (fun h15 => ?_)
      · skip
        refine vV.aload_n dX0_take_20 rfl ?_
        refine vV.getr dX0_take_21 fl_X0_18 (by first | rfl | assumption) rfl (by first | assumption | exact hB _ _ _ rfl) ?_
        refine vV.iconst dX0_take_24 (by decide) ?_
        refine vV.cSv dX0_take_25 ml_X0_33 cw_J7_fill_53178 sw_J7_fill_53178 (by unfold vRoom; decide) (c_J7_fill (a := 104) (n := 8) rfl (by decide)) rfl rfl (Nat.le_of_ble_eq_true rfl) ?_
        rintro _ _ ⟨rfl, rfl⟩
        refine vV.aload_n dX0_take_28 rfl ?_
        refine vV.aload_n dX0_take_29 rfl ?_
        refine vV.getr dX0_take_30 fl_X0_39 (by first | rfl | assumption) rfl (by first | assumption | exact hB _ _ _ rfl) ?_
        refine vV.iconst dX0_take_33 (by decide) ?_
        refine vV.iald dX0_take_34 (by first | rfl | assumption) (by omega) (by omega) ?_
        rw [show vRow M 104 (pMix 8 (fun _ => -1) (M 104)) 15 = M 15 from vRow_n (by decide)]
        refine vV.puti (z := 1) dX0_take_35 fl_X0_42 (by first | rfl | assumption) rfl rfl ?_
        refine vV.aload_n dX0_take_38 rfl ?_
        refine vV.iconst dX0_take_39 (by decide) ?_
        refine vV.puti (z := 0) dX0_take_40 fl_X0_46 (by first | rfl | assumption) rfl rfl ?_
        refine vV.aload_n dX0_take_43 rfl ?_
        refine vV.getr dX0_take_44 fl_X0_39 (by first | rfl | assumption) rfl (by first | assumption | exact hB _ _ _ rfl) ?_
        refine vV.iconst dX0_take_47 (by decide) ?_
        refine vV.iald dX0_take_48 (by first | rfl | assumption) (by omega) (by omega) ?_
        rw [vUpd_nk (by decide), vUpd_nk (by decide), show vRow M 104 (pMix 8 (fun _ => -1) (M 104)) 15 = M 15 from vRow_n (by decide), show M 15 0 = ((enK (M 15 0).toNat (xdg n (M 14)) (exc (M 14) 0) : Nat) : Int) from tk_0 hW]
        refine vV.istore_n (L' := [_, _, _, _, _]) dX0_take_49 (by decide) rfl ?_
        refine vV.iconst dX0_take_50 (by decide) ?_
        refine vV.istore (L' := [_, _, _, _, _]) dX0_take_51 (by decide) rfl ?_
        refine l_X0_tk53 (n := n) hB hW hok.2 (fun N x4 hI => ?_) 0 (by omega) _ (tkI_0 M n)
        have hmN : mSame xoK M (awZ N) := fun k hk => by
          rw [awZ_o (by unfold xoK at hk; simp at hk ⊢; omega)]; exact hI.1 k (by unfold xoK at hk; simp at hk ⊢; omega)
        have hMN : awM (awZ N) := by
          unfold awM
          rw [awZ_o (show 100 ∉ [106, 107, 108] by decide), hI.2.1 5 (by decide) (by decide)]
          refine ⟨hpg, fun p hp => ?_⟩
          have h0 : awZ N 106 p = 0 := by unfold awZ vClr; simp
          rw [h0]; omega
        have hCN : xC (awZ N) (xEc M n) := by
          have h := hI.c
          unfold xC at h ⊢
          rw [awZ_o (show 100 ∉ [106, 107, 108] by decide), awZ_o (show 102 ∉ [106, 107, 108] by decide), awZ_o (show 103 ∉ [106, 107, 108] by decide), awZ_o (show 104 ∉ [106, 107, 108] by decide)]
          exact h
        refine vV.aload_n dX0_take_162 rfl ?_
        refine vV.cVvg dX0_take_163 ml_X0_61 cw_X0_makeRows iw_X0_makeRows (by first | rfl | assumption) rfl (by unfold vRoom; decide) (c_X0_makeRows_n hT6 f1 f2 f3) rfl rfl (Nat.le_of_ble_eq_true rfl) (vLe_m (vLe_m (vLe_m (vLe_rf _)))) ?_
        rintro _ _ ⟨rfl, rfl⟩
        refine vV.iload_n dX0_take_166 rfl ?_
        refine vV.ri dX0_take_167 rfl ?_
        exact Or.inr ⟨hok, by rw [enK_S hok.2], hmN, ⟨fun k hk => awN_o hk, vB_awN hB⟩, awT_awN T, hMN, hCN⟩
      · skip
        exact absurd hok.2 (by omega)
