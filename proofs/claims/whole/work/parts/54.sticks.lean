/-! ===== own: sticks of the class ===== -/
def stV (rule : Int) (P : pP) (lag : Nat) (s0 : pS) (so f : Int → Int) : Int := pOr 601 (pLasts rule (stP P f so) lag s0)
def stR (v : (Int → Int) → Int) (n : Nat) : Int × (Int → Int) := stk v n 720 (fun j => j) 0 (fun _ => 0)
theorem stV_rg (rule : Int) (P : pP) (lag : Nat) (s0 : pS) (so f : Int → Int) : 1 ≤ stV rule P lag s0 so f ∧ stV rule P lag s0 so f ≤ 601 := by
  unfold stV pLasts
  cases h : pFind (pFell rule (stP P f so) lag s0) 600 with
  | none => exact ⟨by decide, by decide⟩
  | some q => have := (pFind_some h).1; show (1 : Int) ≤ ((q + 1 : Nat) : Int) ∧ ((q + 1 : Nat) : Int) ≤ 601; omega
theorem stV_cg {rule : Int} {P P' : pP} {lag : Nat} {s s' : pS} {so so' f f' : Int → Int} (hP : PEq P P') (hs : SEq P.1 s s') (hso : pEq P.1 so so') (hf : pPm P.1 f) (hf' : pPm P.1 f') (h : pEq P.1 f f') : stV rule P lag s so f = stV rule P' lag s' so' f' := by
  unfold stV
  have e : PEq (stP P f so) (stP P' f' so') := by
    obtain ⟨a, b, c⟩ := hP
    refine ⟨a, ?_, c⟩
    show pEq P.1 (pPut f so P.2.1 P.1) (pPut f' so' P'.2.1 P'.1)
    rw [a]
    exact pPut_cg hf hf' h hso
  rw [pLasts_cg e hs]
theorem SEq.rf {n : Nat} {s : pS} (h1 : s.2.2.1 = none) (h2 : s.2.2.2.2 = none) : SEq n s s := ⟨rfl, pEq.rfl, rfl, fun k h => (by rw [h1] at h; cases h), fun k h => (by rw [h2] at h; cases h)⟩
theorem PEq.rf (P : pP) : PEq P P := ⟨rfl, pEq.rfl, pEq.rfl, pEq.rfl, rfl⟩
theorem stR_eq {v : (Int → Int) → Int} {n : Nat} {f o : Int → Int} {b : Int} (h1 : 1 ≤ n) (hv : ∀ f f', pPm n f → pPm n f' → pEq n f f' → v f = v f') (hp : ∀ f, 1 ≤ v f) (hf : pEq n f (fun j => j)) (hb : b ≤ 0) : (stk v n 720 f b o).1 = (stR v n).1 ∧ pEq n (stk v n 720 f b o).2 (stR v n).2 := by
  have e : stk v n (719 + 1) f b o = stk v n (719 + 1) f 0 (fun _ => 0) := stk_first (by have := hp f; omega) (by have := hp f; omega)
  rw [show (720 : Nat) = 719 + 1 from rfl, e]
  exact stk_cg h1 hv 720 _ _ _ _ _ (pPm_cg (pPm_id n) hf) (pPm_id n) hf pEq.rfl
def rSticks (rule i : Int) (n : Nat) (bits : Int) (r : Int × (Int → Int)) : Int := if ¬ (0 ≤ rule ∧ rule ≤ 3) then -2 else if bits = 0 then -3 else if i = -1 then (if r.1 ≤ 600 then r.1 else -6) else if 0 ≤ i ∧ i < n then r.2 i else -6
def cKeepF (M M1 : vM) : Prop := mSame fdK M M1 ∧ (sgZ M 30 → sgZ M1 30)
theorem cKeepF.rf (M : vM) : cKeepF M M := ⟨fun _ _ => rfl, id⟩
theorem so_rg {n : Nat} {pl g : Int → Int} (hd : pDis n pl) (h7 : ∀ j : Nat, 0 ≤ pl j ∧ pl j ≤ 7) : ∀ k : Nat, k < n → 0 ≤ pSo pl g n k ∧ pSo pl g n k ≤ 7 := fun j hj => by
  obtain ⟨q, q1, q2⟩ := ((pSo_ok (g := g) n hd).2 _).mp ⟨j, hj, rfl⟩
  rw [← q2]; exact h7 q
theorem vCon.impv {mt : vMt} {d dF : List Nat} {T : vT} {M : vM} {As : List vA} {P P' : vT → vM → Prop} (h : vCon mt d dF As T M (vPv P)) (hi : ∀ T' M', P T' M' → P' T' M') : vCon mt d dF As T M (vPv P') := by
  intro l D q ρ sz hok hle
  have h1 := h l D q ρ sz hok hle
  intro p e ha hc hk s m args below hf hap hP hK
  obtain ⟨k, o, a1, a2, a3, a4, a5⟩ := h1 p e ha hc hk s m args below hf hap hP hK
  refine ⟨k, o, a1, a2, a3, ?_, a5⟩
  obtain ⟨⟨r, T', M', ρ', b1, ⟨b2, b4⟩, b5⟩, b6⟩ := a4
  exact ⟨⟨r, T', M', ρ', b1, ⟨b2, hi _ _ b4⟩, b5⟩, b6⟩
theorem dX6_sticks_0 : decode cX6_sticks 0 = .ok (.iload_n 1, 1) := by decide +kernel
theorem dX6_sticks_1 : decode cX6_sticks 1 = .ok (.invokestatic 132, 3) := by decide +kernel
theorem dX6_sticks_4 : decode cX6_sticks 4 = .ok (.ifCond .ne 6, 3) := by decide +kernel
theorem dX6_sticks_7 : decode cX6_sticks 7 = .ok (.bipush (-2), 2) := by decide +kernel
theorem dX6_sticks_9 : decode cX6_sticks 9 = .ok (.ireturn, 1) := by decide +kernel
theorem dX6_sticks_10 : decode cX6_sticks 10 = .ok (.aload_n 0, 1) := by decide +kernel
theorem dX6_sticks_11 : decode cX6_sticks 11 = .ok (.getfield 10, 3) := by decide +kernel
theorem dX6_sticks_14 : decode cX6_sticks 14 = .ok (.invokevirtual 107, 3) := by decide +kernel
theorem dX6_sticks_17 : decode cX6_sticks 17 = .ok (.ifCond .ne 6, 3) := by decide +kernel
theorem dX6_sticks_20 : decode cX6_sticks 20 = .ok (.bipush (-3), 2) := by decide +kernel
theorem dX6_sticks_22 : decode cX6_sticks 22 = .ok (.ireturn, 1) := by decide +kernel
theorem dX6_sticks_23 : decode cX6_sticks 23 = .ok (.iload_n 2, 1) := by decide +kernel
theorem dX6_sticks_24 : decode cX6_sticks 24 = .ok (.iconst (-1), 1) := by decide +kernel
theorem dX6_sticks_25 : decode cX6_sticks 25 = .ok (.if_icmp .eq 17, 3) := by decide +kernel
theorem dX6_sticks_28 : decode cX6_sticks 28 = .ok (.aload_n 0, 1) := by decide +kernel
theorem dX6_sticks_29 : decode cX6_sticks 29 = .ok (.getfield 10, 3) := by decide +kernel
theorem dX6_sticks_32 : decode cX6_sticks 32 = .ok (.iload_n 2, 1) := by decide +kernel
theorem dX6_sticks_33 : decode cX6_sticks 33 = .ok (.invokevirtual 74, 3) := by decide +kernel
theorem dX6_sticks_36 : decode cX6_sticks 36 = .ok (.ifCond .ne 6, 3) := by decide +kernel
theorem dX6_sticks_39 : decode cX6_sticks 39 = .ok (.bipush (-6), 2) := by decide +kernel
theorem dX6_sticks_41 : decode cX6_sticks 41 = .ok (.ireturn, 1) := by decide +kernel
theorem dX6_sticks_42 : decode cX6_sticks 42 = .ok (.aload_n 0, 1) := by decide +kernel
theorem dX6_sticks_43 : decode cX6_sticks 43 = .ok (.getfield 40, 3) := by decide +kernel
theorem dX6_sticks_46 : decode cX6_sticks 46 = .ok (.aload_n 0, 1) := by decide +kernel
theorem dX6_sticks_47 : decode cX6_sticks 47 = .ok (.getfield 10, 3) := by decide +kernel
theorem dX6_sticks_50 : decode cX6_sticks 50 = .ok (.aload_n 0, 1) := by decide +kernel
theorem dX6_sticks_51 : decode cX6_sticks 51 = .ok (.getfield 33, 3) := by decide +kernel
theorem dX6_sticks_54 : decode cX6_sticks 54 = .ok (.iload_n 1, 1) := by decide +kernel
theorem dX6_sticks_55 : decode cX6_sticks 55 = .ok (.invokevirtual 160, 3) := by decide +kernel
theorem dX6_sticks_58 : decode cX6_sticks 58 = .ok (.iload_n 2, 1) := by decide +kernel
theorem dX6_sticks_59 : decode cX6_sticks 59 = .ok (.iconst (-1), 1) := by decide +kernel
theorem dX6_sticks_60 : decode cX6_sticks 60 = .ok (.if_icmp .ne 16, 3) := by decide +kernel
theorem dX6_sticks_63 : decode cX6_sticks 63 = .ok (.aload_n 0, 1) := by decide +kernel
theorem dX6_sticks_64 : decode cX6_sticks 64 = .ok (.getfield 40, 3) := by decide +kernel
theorem dX6_sticks_67 : decode cX6_sticks 67 = .ok (.getfield 164, 3) := by decide +kernel
theorem dX6_sticks_70 : decode cX6_sticks 70 = .ok (.invokestatic 141, 3) := by decide +kernel
theorem dX6_sticks_73 : decode cX6_sticks 73 = .ok (.goto 12, 3) := by decide +kernel
theorem dX6_sticks_76 : decode cX6_sticks 76 = .ok (.aload_n 0, 1) := by decide +kernel
theorem dX6_sticks_77 : decode cX6_sticks 77 = .ok (.getfield 40, 3) := by decide +kernel
theorem dX6_sticks_80 : decode cX6_sticks 80 = .ok (.getfield 167, 3) := by decide +kernel
theorem dX6_sticks_83 : decode cX6_sticks 83 = .ok (.iload_n 2, 1) := by decide +kernel
theorem dX6_sticks_84 : decode cX6_sticks 84 = .ok (.iaload, 1) := by decide +kernel
theorem dX6_sticks_85 : decode cX6_sticks 85 = .ok (.ireturn, 1) := by decide +kernel
theorem c_X6_sticks {d : List Nat} {T : vT} {M : vM} {n lag : Nat} {rule i : Int} (hB : vB T) (hW : sgW M 10 n) (hZ : sgZ M 30) (hlag : M 15 3 = lag) : vCon m_X6_sticks d d [vR 0, vI rule, vI i] T M (vPi fun r T1 M1 => T = T1 ∧ cKeepF M M1 ∧ r = rSticks rule i n (pBits (M 14) n) (stR (stV rule (cP M n) lag (cS0 M) (pSo (M 11) (fun _ => 0) n)) n)) := by
  have hfd : 1 ≤ n → (0 ≤ rule ∧ rule ≤ 3) → vCon m_X4_find d d [vR 80, vR 10, vR 70, vI rule] T M (vPv fun T1 M1 => T = T1 ∧ fdE M M1 n (stR (stV rule (cP M n) lag (cS0 M) (pSo (M 11) (fun _ => 0) n)) n)) := fun h1 hr => by
    have hid : pEq n (pMix 6 (fun j => j) (M 82)) (fun j => j) := fun j hj => pMix_lt (by have := hW.le; omega)
    obtain ⟨e1, e2⟩ := stR_eq (v := stV rule (cP M n) lag (cS0 M) (pSo (M 11) (fun _ => 0) n)) (o := M 81) (b := -1) h1 (fun f f' hf hf' he => stV_cg (P := cP M n) (PEq.rf _) (SEq.rf rfl rfl) pEq.rfl hf hf' he) (fun f => (stV_rg _ _ _ _ _ _).1) hid (by omega)
    refine vCon.impv (c_X4_find (lag := lag) (v := stV rule (cP M n) lag (cS0 M) (pSo (M 11) (fun _ => 0) n)) hB h1 hZ ⟨hW, hlag, hr, (pSo_ok n hW.2.2.2.2.2.2.2.2.2.2.2.2.2.2).1, so_rg hW.2.2.2.2.2.2.2.2.2.2.2.2.2.2 (fun j => hW.2.2.2.2.1 j), fun f _ => ⟨rfl, stV_rg _ _ _ _ _ _⟩⟩) (fun T1 M1 ⟨a, c1, c2, c3, c4⟩ => ⟨a, c1, c2, c3.trans e1, c4.trans e2⟩)
  obtain ⟨S, hS⟩ : ∃ S, S = stR (stV rule (cP M n) lag (cS0 M) (pSo (M 11) (fun _ => 0) n)) n := ⟨_, rfl⟩
  rw [← hS] at hfd ⊢
  clear hS
  unfold rSticks
  refine vCon.of (by decide) rfl rfl (Nat.le_of_ble_eq_true rfl) ?_
  have hn := hW.le
  have hb0 : n = 0 → pBits (M 14) n = 0 := fun z => by rw [z]; rfl
  refine vV.iload_n dX6_sticks_0 rfl ?_
  refine vV.cSi dX6_sticks_1 ml_X6_132 cw_X6_isRule sw_X6_isRule (by unfold vRoom; decide) c_X6_isRule rfl rfl (Nat.le_of_ble_eq_true rfl) ?_
  rintro x1 _ _ hx1 ⟨hxe, rfl, rfl⟩
  refine vV.if_ne (tgt := 10) dX6_sticks_4 (by decide) (fun h4 => ?_) (fun h4 => ?_)
  · skip
    have hir : 0 ≤ rule ∧ rule ≤ 3 := by { rcases Decidable.em (0 ≤ rule ∧ rule ≤ 3) with z | z; exact z; rw [hxe, if_neg z] at h4; omega }
    rw [if_neg (by omega)]
    refine vV.aload_n dX6_sticks_10 rfl ?_
    refine vV.getr dX6_sticks_11 fl_X6_10 (by first | rfl | assumption) rfl (by first | assumption | exact hB _ _ _ rfl) ?_
    refine vV.cVi dX6_sticks_14 ml_X6_107 cw_X3_standing iw_X3_standing (by first | rfl | assumption) rfl (by unfold vRoom; decide) (c_X3_standing sgK_10 (sgT_10 hB) hW.cnt hW.le) rfl rfl (Nat.le_of_ble_eq_true rfl) ?_
    rintro x14 _ _ hx14 ⟨rfl, rfl, rfl⟩
    rw [show (10 : Nat) + 4 = 14 from rfl]
    refine vV.if_ne (tgt := 23) dX6_sticks_17 (by decide) (fun h17 => ?_) (fun h17 => ?_)
    · skip
      rw [if_neg h17]
      have h1 : 1 ≤ n := (Nat.eq_zero_or_pos n).elim (fun z => absurd (hb0 z) h17) id
      refine vV.iload_n dX6_sticks_23 rfl ?_
      refine vV.iconst dX6_sticks_24 (by decide) ?_
      refine vV.icmp_eq (tgt := 42) dX6_sticks_25 (by decide) (fun h25 => ?_) (fun h25 => ?_)
      · skip
        refine vV.aload_n dX6_sticks_42 rfl ?_
        refine vV.getr dX6_sticks_43 fl_X6_40 (by first | rfl | assumption) rfl (by first | assumption | exact hB _ _ _ rfl) ?_
        refine vV.aload_n dX6_sticks_46 rfl ?_
        refine vV.getr dX6_sticks_47 fl_X6_10 (by first | rfl | assumption) rfl (by first | assumption | exact hB _ _ _ rfl) ?_
        refine vV.aload_n dX6_sticks_50 rfl ?_
        refine vV.getr dX6_sticks_51 fl_X6_33 (by first | rfl | assumption) rfl (by first | assumption | exact hB _ _ _ rfl) ?_
        refine vV.iload_n dX6_sticks_54 rfl ?_
        refine vV.cVv dX6_sticks_55 ml_X6_160 cw_X4_find iw_X4_find (by first | rfl | assumption) rfl (by unfold vRoom; decide) (hfd h1 hir) rfl rfl (Nat.le_of_ble_eq_true rfl) ?_
        rintro _ N ⟨rfl, f1, f2, f3, f4⟩
        refine vV.iload_n dX6_sticks_58 rfl ?_
        refine vV.iconst dX6_sticks_59 (by decide) ?_
        refine vV.icmp_ne (tgt := 76) dX6_sticks_60 (by decide) (fun h60 => ?_) (fun h60 => ?_)
        · skip
          refine vV.aload_n dX6_sticks_76 rfl ?_
          refine vV.getr dX6_sticks_77 fl_X6_40 (by first | rfl | assumption) rfl (by first | assumption | exact hB _ _ _ rfl) ?_
          refine vV.getr dX6_sticks_80 fl_X6_167 (by first | rfl | assumption) rfl (by first | assumption | exact hB _ _ _ rfl) ?_
          refine vV.iload_n dX6_sticks_83 rfl ?_
          refine vV.iald dX6_sticks_84 (by first | rfl | assumption) (by omega) (by omega) ?_
          refine vV.ri dX6_sticks_85 rfl ?_
          first | (exfalso; omega) | (rw [if_pos h60]; exact ⟨rfl, ⟨f1, fun _ => f2⟩, by rw [f3]⟩) | (rw [if_neg h60, if_pos hin]; exact ⟨rfl, ⟨f1, fun _ => f2⟩, by obtain ⟨q, rfl⟩ : ∃ q : Nat, i = q := ⟨i.toNat, by omega⟩; exact f4 q (by omega)⟩)
        · skip
          refine vV.aload_n dX6_sticks_63 rfl ?_
          refine vV.getr dX6_sticks_64 fl_X6_40 (by first | rfl | assumption) rfl (by first | assumption | exact hB _ _ _ rfl) ?_
          refine vV.geti (z := 0) dX6_sticks_67 fl_X6_164 (by first | rfl | assumption) rfl rfl ?_
          refine vV.cSi dX6_sticks_70 ml_X6_141 cw_X6_orNone sw_X6_orNone (by unfold vRoom; decide) c_X6_orNone rfl rfl (Nat.le_of_ble_eq_true rfl) ?_
          rintro x70 _ _ hx70 ⟨rfl, rfl, rfl⟩
          refine vV.goto (tgt := 85) dX6_sticks_73 (by decide) ?_
          refine vV.ri dX6_sticks_85 rfl ?_
          first | (exfalso; omega) | (rw [if_pos h60]; exact ⟨rfl, ⟨f1, fun _ => f2⟩, by rw [f3]⟩) | (rw [if_neg h60, if_pos hin]; exact ⟨rfl, ⟨f1, fun _ => f2⟩, by obtain ⟨q, rfl⟩ : ∃ q : Nat, i = q := ⟨i.toNat, by omega⟩; exact f4 q (by omega)⟩)
      · skip
        refine vV.aload_n dX6_sticks_28 rfl ?_
        refine vV.getr dX6_sticks_29 fl_X6_10 (by first | rfl | assumption) rfl (by first | assumption | exact hB _ _ _ rfl) ?_
        refine vV.iload_n dX6_sticks_32 rfl ?_
        refine vV.cVi dX6_sticks_33 ml_X6_74 cw_X3_has iw_X3_has (by first | rfl | assumption) rfl (by unfold vRoom; decide) (c_X3_has sgK_10) rfl rfl (Nat.le_of_ble_eq_true rfl) ?_
        rintro x33 _ _ hx33 ⟨hhas, rfl, rfl⟩
        rw [hW.1] at hhas
        refine vV.if_ne (tgt := 42) dX6_sticks_36 (by decide) (fun h36 => ?_) (fun h36 => ?_)
        · skip
          have hin : 0 ≤ i ∧ i < n := by { rcases Decidable.em (0 ≤ i ∧ i < (n : Int)) with z | z; exact z; rw [hhas, if_neg z] at h36; omega }
          refine vV.aload_n dX6_sticks_42 rfl ?_
          refine vV.getr dX6_sticks_43 fl_X6_40 (by first | rfl | assumption) rfl (by first | assumption | exact hB _ _ _ rfl) ?_
          refine vV.aload_n dX6_sticks_46 rfl ?_
          refine vV.getr dX6_sticks_47 fl_X6_10 (by first | rfl | assumption) rfl (by first | assumption | exact hB _ _ _ rfl) ?_
          refine vV.aload_n dX6_sticks_50 rfl ?_
          refine vV.getr dX6_sticks_51 fl_X6_33 (by first | rfl | assumption) rfl (by first | assumption | exact hB _ _ _ rfl) ?_
          refine vV.iload_n dX6_sticks_54 rfl ?_
          refine vV.cVv dX6_sticks_55 ml_X6_160 cw_X4_find iw_X4_find (by first | rfl | assumption) rfl (by unfold vRoom; decide) (hfd h1 hir) rfl rfl (Nat.le_of_ble_eq_true rfl) ?_
          rintro _ N ⟨rfl, f1, f2, f3, f4⟩
          refine vV.iload_n dX6_sticks_58 rfl ?_
          refine vV.iconst dX6_sticks_59 (by decide) ?_
          refine vV.icmp_ne (tgt := 76) dX6_sticks_60 (by decide) (fun h60 => ?_) (fun h60 => ?_)
          · skip
            refine vV.aload_n dX6_sticks_76 rfl ?_
            refine vV.getr dX6_sticks_77 fl_X6_40 (by first | rfl | assumption) rfl (by first | assumption | exact hB _ _ _ rfl) ?_
            refine vV.getr dX6_sticks_80 fl_X6_167 (by first | rfl | assumption) rfl (by first | assumption | exact hB _ _ _ rfl) ?_
            refine vV.iload_n dX6_sticks_83 rfl ?_
            refine vV.iald dX6_sticks_84 (by first | rfl | assumption) (by omega) (by omega) ?_
            refine vV.ri dX6_sticks_85 rfl ?_
            first | (exfalso; omega) | (rw [if_pos h60]; exact ⟨rfl, ⟨f1, fun _ => f2⟩, by rw [f3]⟩) | (rw [if_neg h60, if_pos hin]; exact ⟨rfl, ⟨f1, fun _ => f2⟩, by obtain ⟨q, rfl⟩ : ∃ q : Nat, i = q := ⟨i.toNat, by omega⟩; exact f4 q (by omega)⟩)
          · skip
            refine vV.aload_n dX6_sticks_63 rfl ?_
            refine vV.getr dX6_sticks_64 fl_X6_40 (by first | rfl | assumption) rfl (by first | assumption | exact hB _ _ _ rfl) ?_
            refine vV.geti (z := 0) dX6_sticks_67 fl_X6_164 (by first | rfl | assumption) rfl rfl ?_
            refine vV.cSi dX6_sticks_70 ml_X6_141 cw_X6_orNone sw_X6_orNone (by unfold vRoom; decide) c_X6_orNone rfl rfl (Nat.le_of_ble_eq_true rfl) ?_
            rintro x70 _ _ hx70 ⟨rfl, rfl, rfl⟩
            refine vV.goto (tgt := 85) dX6_sticks_73 (by decide) ?_
            refine vV.ri dX6_sticks_85 rfl ?_
            first | (exfalso; omega) | (rw [if_pos h60]; exact ⟨rfl, ⟨f1, fun _ => f2⟩, by rw [f3]⟩) | (rw [if_neg h60, if_pos hin]; exact ⟨rfl, ⟨f1, fun _ => f2⟩, by obtain ⟨q, rfl⟩ : ∃ q : Nat, i = q := ⟨i.toNat, by omega⟩; exact f4 q (by omega)⟩)
        · skip
          have hin : ¬ (0 ≤ i ∧ i < n) := by { intro z; rw [hhas, if_pos z] at h36; omega }
          refine vV.bipush (v := (-6)) dX6_sticks_39 (by decide) (by decide) ?_
          refine vV.ri dX6_sticks_41 rfl ?_
          rw [if_neg h25, if_neg hin]; exact ⟨rfl, cKeepF.rf M, rfl⟩
    · skip
      rw [if_pos h17]
      refine vV.bipush (v := (-3)) dX6_sticks_20 (by decide) (by decide) ?_
      refine vV.ri dX6_sticks_22 rfl ?_
      exact ⟨rfl, cKeepF.rf M, rfl⟩
  · skip
    have hnr : ¬ (0 ≤ rule ∧ rule ≤ 3) := by { intro z; rw [hxe, if_pos z] at h4; omega }
    rw [if_pos hnr]
    refine vV.bipush (v := (-2)) dX6_sticks_7 (by decide) (by decide) ?_
    refine vV.ri dX6_sticks_9 rfl ?_
    exact ⟨rfl, cKeepF.rf M, rfl⟩
