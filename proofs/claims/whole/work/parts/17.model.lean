/-! ===== own: the reference: goals ===== -/
theorem dX7_near_0 : decode cX7_near 0 = .ok (.bipush (-6), 2) := by decide +kernel
theorem dX7_near_2 : decode cX7_near 2 = .ok (.istore_n 1, 1) := by decide +kernel
theorem dX7_near_3 : decode cX7_near 3 = .ok (.iconst 0, 1) := by decide +kernel
theorem dX7_near_4 : decode cX7_near 4 = .ok (.istore_n 2, 1) := by decide +kernel
theorem dX7_near_5 : decode cX7_near 5 = .ok (.iload_n 2, 1) := by decide +kernel
theorem dX7_near_6 : decode cX7_near 6 = .ok (.aload_n 0, 1) := by decide +kernel
theorem dX7_near_7 : decode cX7_near 7 = .ok (.getfield 89, 3) := by decide +kernel
theorem dX7_near_10 : decode cX7_near 10 = .ok (.if_icmp .ge 50, 3) := by decide +kernel
theorem dX7_near_13 : decode cX7_near 13 = .ok (.aload_n 0, 1) := by decide +kernel
theorem dX7_near_14 : decode cX7_near 14 = .ok (.getfield 25, 3) := by decide +kernel
theorem dX7_near_17 : decode cX7_near 17 = .ok (.iload_n 2, 1) := by decide +kernel
theorem dX7_near_18 : decode cX7_near 18 = .ok (.iaload, 1) := by decide +kernel
theorem dX7_near_19 : decode cX7_near 19 = .ok (.ifCond .le 33, 3) := by decide +kernel
theorem dX7_near_22 : decode cX7_near 22 = .ok (.aload_n 0, 1) := by decide +kernel
theorem dX7_near_23 : decode cX7_near 23 = .ok (.iload_n 2, 1) := by decide +kernel
theorem dX7_near_24 : decode cX7_near 24 = .ok (.invokevirtual 153, 3) := by decide +kernel
theorem dX7_near_27 : decode cX7_near 27 = .ok (.iconst 5, 1) := by decide +kernel
theorem dX7_near_28 : decode cX7_near 28 = .ok (.if_icmp .gt 24, 3) := by decide +kernel
theorem dX7_near_31 : decode cX7_near 31 = .ok (.iload_n 1, 1) := by decide +kernel
theorem dX7_near_32 : decode cX7_near 32 = .ok (.ifCond .lt 16, 3) := by decide +kernel
theorem dX7_near_35 : decode cX7_near 35 = .ok (.aload_n 0, 1) := by decide +kernel
theorem dX7_near_36 : decode cX7_near 36 = .ok (.iload_n 2, 1) := by decide +kernel
theorem dX7_near_37 : decode cX7_near 37 = .ok (.invokevirtual 156, 3) := by decide +kernel
theorem dX7_near_40 : decode cX7_near 40 = .ok (.aload_n 0, 1) := by decide +kernel
theorem dX7_near_41 : decode cX7_near 41 = .ok (.iload_n 1, 1) := by decide +kernel
theorem dX7_near_42 : decode cX7_near 42 = .ok (.invokevirtual 156, 3) := by decide +kernel
theorem dX7_near_45 : decode cX7_near 45 = .ok (.if_icmp .ge 7, 3) := by decide +kernel
theorem dX7_near_48 : decode cX7_near 48 = .ok (.iload_n 2, 1) := by decide +kernel
theorem dX7_near_49 : decode cX7_near 49 = .ok (.goto 4, 3) := by decide +kernel
theorem dX7_near_52 : decode cX7_near 52 = .ok (.iload_n 1, 1) := by decide +kernel
theorem dX7_near_53 : decode cX7_near 53 = .ok (.istore_n 1, 1) := by decide +kernel
theorem dX7_near_54 : decode cX7_near 54 = .ok (.iinc 2 1, 3) := by decide +kernel
theorem dX7_near_57 : decode cX7_near 57 = .ok (.goto (-52), 3) := by decide +kernel
theorem dX7_near_60 : decode cX7_near 60 = .ok (.iload_n 1, 1) := by decide +kernel
theorem dX7_near_61 : decode cX7_near 61 = .ok (.ifCond .ge 10, 3) := by decide +kernel
theorem dX7_near_64 : decode cX7_near 64 = .ok (.aload_n 0, 1) := by decide +kernel
theorem dX7_near_65 : decode cX7_near 65 = .ok (.invokevirtual 159, 3) := by decide +kernel
theorem dX7_near_68 : decode cX7_near 68 = .ok (.goto 4, 3) := by decide +kernel
theorem dX7_near_71 : decode cX7_near 71 = .ok (.iload_n 1, 1) := by decide +kernel
theorem dX7_near_72 : decode cX7_near 72 = .ok (.ireturn, 1) := by decide +kernel
theorem l_X7_near {d : List Nat} {T : vT} {M : vM} {n t lag : Nat} {g l : Option Nat} {hist : Nat → Int → Int} (hB : vB T) (hS : mS M n t g l) (hL : mL M n t hist) (ht : t ≤ 600) (hlag : M 200 8 = lag) (hl3 : lag ≤ 3) (S : Nat → Bool) (hSd : S = fun j : Nat => decide (0 < M 212 j) && decide (pSeen (M 211) (M 212) (hist (t - lag)) (M 200 12) j ≤ 5)) (v : Nat → Int) (hvd : v = pFar (M 211) (M 200 12)) (Wr : Option Nat) (hWr : Wr = pMin (fun j => decide (0 < M 212 j)) (pSeen (M 211) (M 212) (hist (t - lag)) (M 200 12)) n) : ∀ p, p ≤ n →
    vV m_X7_near d d (vPi fun r T1 M1 => r = pOr (-6) ((pMin S v n).or Wr) ∧ T = T1 ∧ M = M1) 5 [some (vR 200), some (vI (pOr (-6) (pMin S v p))), some (vI p)] [] d T M := by
  have hc := hS.1
  have hn := hS.2.1
  refine vUp ?_
  intro p hp ih
  obtain ⟨r, hr⟩ : ∃ r, pMin S v p = r := ⟨_, rfl⟩
  rw [hr]
  have keep : (S p = false ∨ ∃ b, r = some b ∧ v b ≤ v p) → pMin S v (p + 1) = r := fun h => by rw [← hr]; exact pMin_keep (by rw [hr]; exact h)
  have take : S p = true → (∀ b, r = some b → v p < v b) → pMin S v (p + 1) = some p := fun h1 h2 => pMin_take h1 (by rw [hr]; exact h2)
  have hlt : ∀ b, r = some b → b < p := fun b hb => pMin_lt (hr.trans hb)
  cases r with
  | none =>
    rw [pOr_n]
    refine vV.iload_n dX7_near_5 rfl ?_
    refine vV.aload_n dX7_near_6 rfl ?_
    refine vV.geti (z := 4) dX7_near_7 fl_X7_89 (by first | rfl | assumption) rfl rfl ?_
    refine vV.icmp_ge (tgt := 60) dX7_near_10 (by decide) (fun h10 => ?_) (fun h10 => ?_)
    · skip
      refine vV.iload_n dX7_near_60 rfl ?_
      refine vV.if_ge (tgt := 71) dX7_near_61 (by decide) (fun h61 => ?_) (fun h61 => ?_)
      · skip
        omega
      · skip
        refine vV.aload_n dX7_near_64 rfl ?_
        refine vV.cVi dX7_near_65 ml_X7_159 cw_X7_worst iw_X7_worst (by first | rfl | assumption) rfl (by unfold vRoom; decide) (c_X7_worst hB hS hL ht hlag hl3) rfl rfl (Nat.le_of_ble_eq_true rfl) ?_
        rintro x65 _ _ hx65 ⟨rfl, rfl, rfl⟩
        refine vV.goto (tgt := 72) dX7_near_68 (by decide) ?_
        refine vV.ri dX7_near_72 rfl ?_
        have hpn : p = n := by omega
        subst hpn
        rw [hr, hWr]; exact ⟨rfl, rfl, rfl⟩
    · skip
      refine vV.aload_n dX7_near_13 rfl ?_
      refine vV.getr dX7_near_14 fl_X7_25 (by first | rfl | assumption) rfl (by first | assumption | exact hB _ _ _ rfl) ?_
      refine vV.iload_n dX7_near_17 rfl ?_
      refine vV.iald dX7_near_18 (by first | rfl | assumption) (by omega) (by omega) ?_
      refine vV.if_le (tgt := 52) dX7_near_19 (by decide) (fun h19 => ?_) (fun h19 => ?_)
      · skip
        rw [keep (Or.inl (by rw [hSd]; simp; omega)), pOr_n] at ih
        refine vV.iload_n dX7_near_52 rfl ?_
        refine vV.istore_n (L' := [_, _, _]) dX7_near_53 (by decide) rfl ?_
        refine vV.iinc (L' := [_, _, _]) dX7_near_54 (by decide) rfl (⟨by omega, by omega⟩) rfl ?_
        refine vV.goto (tgt := 5) dX7_near_57 (by decide) ?_
        exact ih (by omega)
      · skip
        refine vV.aload_n dX7_near_22 rfl ?_
        refine vV.iload_n dX7_near_23 rfl ?_
        refine vV.cVi dX7_near_24 ml_X7_153 cw_X7_seen iw_X7_seen (by first | rfl | assumption) rfl (by unfold vRoom; decide) (c_X7_seen hB hS hL ht hlag hl3 (p := p) (by omega)) rfl rfl (Nat.le_of_ble_eq_true rfl) ?_
        rintro x24 _ _ hx24 ⟨rfl, rfl, rfl⟩
        refine vV.iconst dX7_near_27 (by decide) ?_
        refine vV.icmp_gt (tgt := 52) dX7_near_28 (by decide) (fun h28 => ?_) (fun h28 => ?_)
        · skip
          rw [keep (Or.inl (by rw [hSd]; simp; omega)), pOr_n] at ih
          refine vV.iload_n dX7_near_52 rfl ?_
          refine vV.istore_n (L' := [_, _, _]) dX7_near_53 (by decide) rfl ?_
          refine vV.iinc (L' := [_, _, _]) dX7_near_54 (by decide) rfl (⟨by omega, by omega⟩) rfl ?_
          refine vV.goto (tgt := 5) dX7_near_57 (by decide) ?_
          exact ih (by omega)
        · skip
          refine vV.iload_n dX7_near_31 rfl ?_
          refine vV.if_lt (tgt := 48) dX7_near_32 (by decide) (fun h32 => ?_) (fun h32 => ?_)
          · skip
            rw [take (by rw [hSd]; simp; omega) (fun b hb => nomatch hb), pOr_s] at ih
            refine vV.iload_n dX7_near_48 rfl ?_
            refine vV.goto (tgt := 53) dX7_near_49 (by decide) ?_
            refine vV.istore_n (L' := [_, _, _]) dX7_near_53 (by decide) rfl ?_
            refine vV.iinc (L' := [_, _, _]) dX7_near_54 (by decide) rfl (⟨by omega, by omega⟩) rfl ?_
            refine vV.goto (tgt := 5) dX7_near_57 (by decide) ?_
            exact ih (by omega)
          · skip
            omega
  | some b =>
    have hbp := hlt b rfl
    rw [pOr_s]
    refine vV.iload_n dX7_near_5 rfl ?_
    refine vV.aload_n dX7_near_6 rfl ?_
    refine vV.geti (z := 4) dX7_near_7 fl_X7_89 (by first | rfl | assumption) rfl rfl ?_
    refine vV.icmp_ge (tgt := 60) dX7_near_10 (by decide) (fun h10 => ?_) (fun h10 => ?_)
    · skip
      refine vV.iload_n dX7_near_60 rfl ?_
      refine vV.if_ge (tgt := 71) dX7_near_61 (by decide) (fun h61 => ?_) (fun h61 => ?_)
      · skip
        refine vV.iload_n dX7_near_71 rfl ?_
        refine vV.ri dX7_near_72 rfl ?_
        rw [show n = p by omega, hr]; exact ⟨rfl, rfl, rfl⟩
      · skip
        omega
    · skip
      refine vV.aload_n dX7_near_13 rfl ?_
      refine vV.getr dX7_near_14 fl_X7_25 (by first | rfl | assumption) rfl (by first | assumption | exact hB _ _ _ rfl) ?_
      refine vV.iload_n dX7_near_17 rfl ?_
      refine vV.iald dX7_near_18 (by first | rfl | assumption) (by omega) (by omega) ?_
      refine vV.if_le (tgt := 52) dX7_near_19 (by decide) (fun h19 => ?_) (fun h19 => ?_)
      · skip
        rw [keep (Or.inl (by rw [hSd]; simp; omega)), pOr_s] at ih
        refine vV.iload_n dX7_near_52 rfl ?_
        refine vV.istore_n (L' := [_, _, _]) dX7_near_53 (by decide) rfl ?_
        refine vV.iinc (L' := [_, _, _]) dX7_near_54 (by decide) rfl (⟨by omega, by omega⟩) rfl ?_
        refine vV.goto (tgt := 5) dX7_near_57 (by decide) ?_
        exact ih (by omega)
      · skip
        refine vV.aload_n dX7_near_22 rfl ?_
        refine vV.iload_n dX7_near_23 rfl ?_
        refine vV.cVi dX7_near_24 ml_X7_153 cw_X7_seen iw_X7_seen (by first | rfl | assumption) rfl (by unfold vRoom; decide) (c_X7_seen hB hS hL ht hlag hl3 (p := p) (by omega)) rfl rfl (Nat.le_of_ble_eq_true rfl) ?_
        rintro x24 _ _ hx24 ⟨rfl, rfl, rfl⟩
        refine vV.iconst dX7_near_27 (by decide) ?_
        refine vV.icmp_gt (tgt := 52) dX7_near_28 (by decide) (fun h28 => ?_) (fun h28 => ?_)
        · skip
          rw [keep (Or.inl (by rw [hSd]; simp; omega)), pOr_s] at ih
          refine vV.iload_n dX7_near_52 rfl ?_
          refine vV.istore_n (L' := [_, _, _]) dX7_near_53 (by decide) rfl ?_
          refine vV.iinc (L' := [_, _, _]) dX7_near_54 (by decide) rfl (⟨by omega, by omega⟩) rfl ?_
          refine vV.goto (tgt := 5) dX7_near_57 (by decide) ?_
          exact ih (by omega)
        · skip
          refine vV.iload_n dX7_near_31 rfl ?_
          refine vV.if_lt (tgt := 48) dX7_near_32 (by decide) (fun h32 => ?_) (fun h32 => ?_)
          · skip
            omega
          · skip
            refine vV.aload_n dX7_near_35 rfl ?_
            refine vV.iload_n dX7_near_36 rfl ?_
            refine vV.cVi dX7_near_37 ml_X7_156 cw_X7_far iw_X7_far (by first | rfl | assumption) rfl (by unfold vRoom; decide) (c_X7_far hB hS (p := p) (by omega)) rfl rfl (Nat.le_of_ble_eq_true rfl) ?_
            rintro x37 _ _ hx37 ⟨rfl, rfl, rfl⟩
            refine vV.aload_n dX7_near_40 rfl ?_
            refine vV.iload_n dX7_near_41 rfl ?_
            refine vV.cVi dX7_near_42 ml_X7_156 cw_X7_far iw_X7_far (by first | rfl | assumption) rfl (by unfold vRoom; decide) (c_X7_far hB hS (p := b) (by omega)) rfl rfl (Nat.le_of_ble_eq_true rfl) ?_
            rintro x42 _ _ hx42 ⟨rfl, rfl, rfl⟩
            refine vV.icmp_ge (tgt := 52) dX7_near_45 (by decide) (fun h45 => ?_) (fun h45 => ?_)
            · skip
              rw [keep (Or.inr ⟨b, rfl, by rw [hvd]; exact h45⟩), pOr_s] at ih
              refine vV.iload_n dX7_near_52 rfl ?_
              refine vV.istore_n (L' := [_, _, _]) dX7_near_53 (by decide) rfl ?_
              refine vV.iinc (L' := [_, _, _]) dX7_near_54 (by decide) rfl (⟨by omega, by omega⟩) rfl ?_
              refine vV.goto (tgt := 5) dX7_near_57 (by decide) ?_
              exact ih (by omega)
            · skip
              rw [take (by rw [hSd]; simp; omega) (fun b' hb => by cases hb; rw [hvd]; exact h45), pOr_s] at ih
              refine vV.iload_n dX7_near_48 rfl ?_
              refine vV.goto (tgt := 53) dX7_near_49 (by decide) ?_
              refine vV.istore_n (L' := [_, _, _]) dX7_near_53 (by decide) rfl ?_
              refine vV.iinc (L' := [_, _, _]) dX7_near_54 (by decide) rfl (⟨by omega, by omega⟩) rfl ?_
              refine vV.goto (tgt := 5) dX7_near_57 (by decide) ?_
              exact ih (by omega)
def pWorst (n : Nat) (pl tu f : Int → Int) (man : Int) : Option Nat := pMin (fun j => decide (0 < tu j)) (pSeen pl tu f man) n
def pNear (n : Nat) (pl tu f : Int → Int) (man : Int) : Option Nat := (pMin (fun j => decide (0 < tu j) && decide (pSeen pl tu f man j ≤ 5)) (pFar pl man) n).or (pWorst n pl tu f man)
theorem c_X7_near {d : List Nat} {T : vT} {M : vM} {n t lag : Nat} {g l : Option Nat} {hist : Nat → Int → Int} (hB : vB T) (hS : mS M n t g l) (hL : mL M n t hist) (ht : t ≤ 600) (hlag : M 200 8 = lag) (hl3 : lag ≤ 3) : vCon m_X7_near d d [vR 200] T M (vPi fun r T1 M1 => r = pOr (-6) (pNear n (M 211) (M 212) (hist (t - lag)) (M 200 12)) ∧ T = T1 ∧ M = M1) := by
  refine vCon.of (by decide) rfl rfl (Nat.le_of_ble_eq_true rfl) ?_
  have h := l_X7_near (d := d) hB hS hL ht hlag hl3 _ rfl _ rfl _ rfl 0 (by omega)
  refine vV.bipush (v := (-6)) dX7_near_0 (by decide) (by decide) ?_
  refine vV.istore_n (L' := [_, _, _]) dX7_near_2 (by decide) rfl ?_
  refine vV.iconst dX7_near_3 (by decide) ?_
  refine vV.istore_n (L' := [_, _, _]) dX7_near_4 (by decide) rfl ?_
  exact h
theorem dX7_left_0 : decode cX7_left 0 = .ok (.bipush (-6), 2) := by decide +kernel
theorem dX7_left_2 : decode cX7_left 2 = .ok (.istore_n 1, 1) := by decide +kernel
theorem dX7_left_3 : decode cX7_left 3 = .ok (.iconst 0, 1) := by decide +kernel
theorem dX7_left_4 : decode cX7_left 4 = .ok (.istore_n 2, 1) := by decide +kernel
theorem dX7_left_5 : decode cX7_left 5 = .ok (.iconst 0, 1) := by decide +kernel
theorem dX7_left_6 : decode cX7_left 6 = .ok (.istore_n 3, 1) := by decide +kernel
theorem dX7_left_7 : decode cX7_left 7 = .ok (.iload_n 3, 1) := by decide +kernel
theorem dX7_left_8 : decode cX7_left 8 = .ok (.aload_n 0, 1) := by decide +kernel
theorem dX7_left_9 : decode cX7_left 9 = .ok (.getfield 89, 3) := by decide +kernel
theorem dX7_left_12 : decode cX7_left 12 = .ok (.if_icmp .ge 53, 3) := by decide +kernel
theorem dX7_left_15 : decode cX7_left 15 = .ok (.aload_n 0, 1) := by decide +kernel
theorem dX7_left_16 : decode cX7_left 16 = .ok (.iload_n 3, 1) := by decide +kernel
theorem dX7_left_17 : decode cX7_left 17 = .ok (.invokevirtual 153, 3) := by decide +kernel
theorem dX7_left_20 : decode cX7_left 20 = .ok (.aload_n 0, 1) := by decide +kernel
theorem dX7_left_21 : decode cX7_left 21 = .ok (.getfield 16, 3) := by decide +kernel
theorem dX7_left_24 : decode cX7_left 24 = .ok (.iload_n 3, 1) := by decide +kernel
theorem dX7_left_25 : decode cX7_left 25 = .ok (.iaload, 1) := by decide +kernel
theorem dX7_left_26 : decode cX7_left 26 = .ok (.idiv, 1) := by decide +kernel
theorem dX7_left_27 : decode cX7_left 27 = .ok (.aload_n 0, 1) := by decide +kernel
theorem dX7_left_28 : decode cX7_left 28 = .ok (.iload_n 3, 1) := by decide +kernel
theorem dX7_left_29 : decode cX7_left 29 = .ok (.invokevirtual 156, 3) := by decide +kernel
theorem dX7_left_32 : decode cX7_left 32 = .ok (.isub, 1) := by decide +kernel
theorem dX7_left_33 : decode cX7_left 33 = .ok (.istore 4, 2) := by decide +kernel
theorem dX7_left_35 : decode cX7_left 35 = .ok (.aload_n 0, 1) := by decide +kernel
theorem dX7_left_36 : decode cX7_left 36 = .ok (.getfield 25, 3) := by decide +kernel
theorem dX7_left_39 : decode cX7_left 39 = .ok (.iload_n 3, 1) := by decide +kernel
theorem dX7_left_40 : decode cX7_left 40 = .ok (.iaload, 1) := by decide +kernel
theorem dX7_left_41 : decode cX7_left 41 = .ok (.ifCond .le 18, 3) := by decide +kernel
theorem dX7_left_44 : decode cX7_left 44 = .ok (.iload_n 1, 1) := by decide +kernel
theorem dX7_left_45 : decode cX7_left 45 = .ok (.ifCond .lt 9, 3) := by decide +kernel
theorem dX7_left_48 : decode cX7_left 48 = .ok (.iload 4, 2) := by decide +kernel
theorem dX7_left_50 : decode cX7_left 50 = .ok (.iload_n 2, 1) := by decide +kernel
theorem dX7_left_51 : decode cX7_left 51 = .ok (.if_icmp .ge 8, 3) := by decide +kernel
theorem dX7_left_54 : decode cX7_left 54 = .ok (.iload_n 3, 1) := by decide +kernel
theorem dX7_left_55 : decode cX7_left 55 = .ok (.istore_n 1, 1) := by decide +kernel
theorem dX7_left_56 : decode cX7_left 56 = .ok (.iload 4, 2) := by decide +kernel
theorem dX7_left_58 : decode cX7_left 58 = .ok (.istore_n 2, 1) := by decide +kernel
theorem dX7_left_59 : decode cX7_left 59 = .ok (.iinc 3 1, 3) := by decide +kernel
theorem dX7_left_62 : decode cX7_left 62 = .ok (.goto (-55), 3) := by decide +kernel
theorem dX7_left_65 : decode cX7_left 65 = .ok (.iload_n 1, 1) := by decide +kernel
theorem dX7_left_66 : decode cX7_left 66 = .ok (.ireturn, 1) := by decide +kernel
/-- TURN by FALLS, less how far -/
def pLv (pl fa tu f : Int → Int) (man : Int) (p : Nat) : Int := pSeen pl tu f man p / fa p - pFar pl man p
def pLeft (n : Nat) (pl fa tu f : Int → Int) (man : Int) : Option Nat := pMin (fun j => decide (0 < tu j)) (pLv pl fa tu f man) n
theorem pSeen_rg {pl tu f : Int → Int} {man : Int} (h1 : ∀ j : Nat, 0 ≤ tu j ∧ tu j ≤ 15) (h2 : ∀ j : Nat, 0 ≤ f j ∧ f j ≤ 15) (p : Nat) : 0 ≤ pSeen pl tu f man p ∧ pSeen pl tu f man p ≤ 15 := by
  unfold pSeen; split
  · exact h1 p
  · exact h2 p
theorem pFar_rg {pl : Int → Int} {man : Int} (h1 : ∀ j : Nat, 0 ≤ pl j ∧ pl j ≤ 7) (h2 : 0 ≤ man ∧ man ≤ 7) (p : Nat) : 0 ≤ pFar pl man p ∧ pFar pl man p ≤ 7 := by
  unfold pFar pAbs; have := h1 p; split <;> omega
theorem tdiv_nn {x y : Int} (hx : 0 ≤ x) : x.tdiv y = x / y := Int.tdiv_eq_ediv_of_nonneg hx
theorem ediv_rg {x y : Int} (hx : 0 ≤ x) (hy : 0 < y) : 0 ≤ x / y ∧ x / y ≤ x := ⟨Int.ediv_nonneg hx (by omega), Int.ediv_le_self _ hx⟩
theorem l_X7_left {d : List Nat} {T : vT} {M : vM} {n t lag : Nat} {g l : Option Nat} {hist : Nat → Int → Int} (hB : vB T) (hS : mS M n t g l) (hL : mL M n t hist) (ht : t ≤ 600) (hlag : M 200 8 = lag) (hl3 : lag ≤ 3) (hf1 : ∀ j : Nat, j < n → 1 ≤ M 203 j) : ∀ p, p ≤ n → ∀ (y : Int) (x4 : Option vA), (∀ b, pMin (fun j => decide (0 < M 212 j)) (pLv (M 211) (M 203) (M 212) (hist (t - lag)) (M 200 12)) p = some b → y = pLv (M 211) (M 203) (M 212) (hist (t - lag)) (M 200 12) b) →
    vV m_X7_left d d (vPi fun r T1 M1 => r = pOr (-6) (pLeft n (M 211) (M 203) (M 212) (hist (t - lag)) (M 200 12)) ∧ T = T1 ∧ M = M1) 7 [some (vR 200), some (vI (pOr (-6) (pMin (fun j => decide (0 < M 212 j)) (pLv (M 211) (M 203) (M 212) (hist (t - lag)) (M 200 12)) p))), some (vI y), some (vI p), x4] [] d T M := by
  have hc := hS.1
  have hn := hS.2.1
  have hS2 := hS
  obtain ⟨s1, s2, s3, s4, s5, s6, s7, s8, s9, s10, s11, s12, s13, s14, s15, s16⟩ := hS2
  unfold pLeft
  obtain ⟨S, hSd⟩ : ∃ S : Nat → Bool, S = fun j : Nat => decide (0 < M 212 j) := ⟨_, rfl⟩
  obtain ⟨v, hvd⟩ : ∃ v, v = pLv (M 211) (M 203) (M 212) (hist (t - lag)) (M 200 12) := ⟨_, rfl⟩
  rw [← hSd, ← hvd]
  refine vUp ?_
  intro p hp ih y x4 hy
  have r1 := pSeen_rg (pl := M 211) (man := M 200 12) s3 (hL.2 (t - lag)) p
  have r2 := pFar_rg s4 s15 p
  obtain ⟨r, hr⟩ : ∃ r, pMin S v p = r := ⟨_, rfl⟩
  rw [hr] at hy ⊢
  have keep : (S p = false ∨ ∃ b, r = some b ∧ v b ≤ v p) → pMin S v (p + 1) = r := fun h => by rw [← hr]; exact pMin_keep (by rw [hr]; exact h)
  have take : S p = true → (∀ b, r = some b → v p < v b) → pMin S v (p + 1) = some p := fun h1 h2 => pMin_take h1 (by rw [hr]; exact h2)
  have hlt : ∀ b, r = some b → b < p := fun b hb => pMin_lt (hr.trans hb)
  cases r with
  | none =>
    rw [pOr_n]
    refine vV.iload_n dX7_left_7 rfl ?_
    refine vV.aload_n dX7_left_8 rfl ?_
    refine vV.geti (z := 4) dX7_left_9 fl_X7_89 (by first | rfl | assumption) rfl rfl ?_
    refine vV.icmp_ge (tgt := 65) dX7_left_12 (by decide) (fun h12 => ?_) (fun h12 => ?_)
    · skip
      refine vV.iload_n dX7_left_65 rfl ?_
      refine vV.ri dX7_left_66 rfl ?_
      rw [show n = p by omega, hr]; exact ⟨rfl, rfl, rfl⟩
    · skip
      refine vV.aload_n dX7_left_15 rfl ?_
      refine vV.iload_n dX7_left_16 rfl ?_
      refine vV.cVi dX7_left_17 ml_X7_153 cw_X7_seen iw_X7_seen (by first | rfl | assumption) rfl (by unfold vRoom; decide) (c_X7_seen hB hS hL ht hlag hl3 (p := p) (by omega)) rfl rfl (Nat.le_of_ble_eq_true rfl) ?_
      rintro x17 _ _ hx17 ⟨rfl, rfl, rfl⟩
      refine vV.aload_n dX7_left_20 rfl ?_
      refine vV.getr dX7_left_21 fl_X7_16 (by first | rfl | assumption) rfl (by first | assumption | exact hB _ _ _ rfl) ?_
      refine vV.iload_n dX7_left_24 rfl ?_
      refine vV.iald dX7_left_25 (by first | rfl | assumption) (by omega) (by omega) ?_
      have f1 := hf1 p (by omega)
      have r3 := ediv_rg (y := M 203 p) r1.1 (by omega)
      refine vV.idiv dX7_left_26 (by omega) (by rw [tdiv_nn r1.1]; exact ⟨by omega, by omega⟩) ?_
      rw [tdiv_nn r1.1]
      refine vV.aload_n dX7_left_27 rfl ?_
      refine vV.iload_n dX7_left_28 rfl ?_
      refine vV.cVi dX7_left_29 ml_X7_156 cw_X7_far iw_X7_far (by first | rfl | assumption) rfl (by unfold vRoom; decide) (c_X7_far hB hS (p := p) (by omega)) rfl rfl (Nat.le_of_ble_eq_true rfl) ?_
      rintro x29 _ _ hx29 ⟨rfl, rfl, rfl⟩
      refine vV.isub dX7_left_32 (⟨by omega, by omega⟩) ?_
      refine vV.istore (L' := [_, _, _, _, _]) dX7_left_33 (by decide) rfl ?_
      refine vV.aload_n dX7_left_35 rfl ?_
      refine vV.getr dX7_left_36 fl_X7_25 (by first | rfl | assumption) rfl (by first | assumption | exact hB _ _ _ rfl) ?_
      refine vV.iload_n dX7_left_39 rfl ?_
      refine vV.iald dX7_left_40 (by first | rfl | assumption) (by omega) (by omega) ?_
      refine vV.if_le (tgt := 59) dX7_left_41 (by decide) (fun h41 => ?_) (fun h41 => ?_)
      · skip
        rw [keep (Or.inl (by rw [hSd]; simp; omega)), pOr_n] at ih
        refine vV.iinc (L' := [_, _, _, _, _]) dX7_left_59 (by decide) rfl (⟨by omega, by omega⟩) rfl ?_
        refine vV.goto (tgt := 7) dX7_left_62 (by decide) ?_
        exact ih (by omega) _ _ (fun b hb => by cases hb <;> (rw [hvd]; rfl))
      · skip
        refine vV.iload_n dX7_left_44 rfl ?_
        refine vV.if_lt (tgt := 54) dX7_left_45 (by decide) (fun h45 => ?_) (fun h45 => ?_)
        · skip
          rw [take (by rw [hSd]; simp; omega) (fun b hb => nomatch hb), pOr_s] at ih
          refine vV.iload_n dX7_left_54 rfl ?_
          refine vV.istore_n (L' := [_, _, _, _, _]) dX7_left_55 (by decide) rfl ?_
          refine vV.iload dX7_left_56 rfl ?_
          refine vV.istore_n (L' := [_, _, _, _, _]) dX7_left_58 (by decide) rfl ?_
          refine vV.iinc (L' := [_, _, _, _, _]) dX7_left_59 (by decide) rfl (⟨by omega, by omega⟩) rfl ?_
          refine vV.goto (tgt := 7) dX7_left_62 (by decide) ?_
          exact ih (by omega) _ _ (fun b hb => by cases hb <;> (rw [hvd]; rfl))
        · skip
          omega
  | some b =>
    have hbp := hlt b rfl
    have hyb := hy b rfl
    rw [pOr_s]
    refine vV.iload_n dX7_left_7 rfl ?_
    refine vV.aload_n dX7_left_8 rfl ?_
    refine vV.geti (z := 4) dX7_left_9 fl_X7_89 (by first | rfl | assumption) rfl rfl ?_
    refine vV.icmp_ge (tgt := 65) dX7_left_12 (by decide) (fun h12 => ?_) (fun h12 => ?_)
    · skip
      refine vV.iload_n dX7_left_65 rfl ?_
      refine vV.ri dX7_left_66 rfl ?_
      rw [show n = p by omega, hr]; exact ⟨rfl, rfl, rfl⟩
    · skip
      refine vV.aload_n dX7_left_15 rfl ?_
      refine vV.iload_n dX7_left_16 rfl ?_
      refine vV.cVi dX7_left_17 ml_X7_153 cw_X7_seen iw_X7_seen (by first | rfl | assumption) rfl (by unfold vRoom; decide) (c_X7_seen hB hS hL ht hlag hl3 (p := p) (by omega)) rfl rfl (Nat.le_of_ble_eq_true rfl) ?_
      rintro x17 _ _ hx17 ⟨rfl, rfl, rfl⟩
      refine vV.aload_n dX7_left_20 rfl ?_
      refine vV.getr dX7_left_21 fl_X7_16 (by first | rfl | assumption) rfl (by first | assumption | exact hB _ _ _ rfl) ?_
      refine vV.iload_n dX7_left_24 rfl ?_
      refine vV.iald dX7_left_25 (by first | rfl | assumption) (by omega) (by omega) ?_
      have f1 := hf1 p (by omega)
      have r3 := ediv_rg (y := M 203 p) r1.1 (by omega)
      refine vV.idiv dX7_left_26 (by omega) (by rw [tdiv_nn r1.1]; exact ⟨by omega, by omega⟩) ?_
      rw [tdiv_nn r1.1]
      refine vV.aload_n dX7_left_27 rfl ?_
      refine vV.iload_n dX7_left_28 rfl ?_
      refine vV.cVi dX7_left_29 ml_X7_156 cw_X7_far iw_X7_far (by first | rfl | assumption) rfl (by unfold vRoom; decide) (c_X7_far hB hS (p := p) (by omega)) rfl rfl (Nat.le_of_ble_eq_true rfl) ?_
      rintro x29 _ _ hx29 ⟨rfl, rfl, rfl⟩
      refine vV.isub dX7_left_32 (⟨by omega, by omega⟩) ?_
      refine vV.istore (L' := [_, _, _, _, _]) dX7_left_33 (by decide) rfl ?_
      refine vV.aload_n dX7_left_35 rfl ?_
      refine vV.getr dX7_left_36 fl_X7_25 (by first | rfl | assumption) rfl (by first | assumption | exact hB _ _ _ rfl) ?_
      refine vV.iload_n dX7_left_39 rfl ?_
      refine vV.iald dX7_left_40 (by first | rfl | assumption) (by omega) (by omega) ?_
      refine vV.if_le (tgt := 59) dX7_left_41 (by decide) (fun h41 => ?_) (fun h41 => ?_)
      · skip
        rw [keep (Or.inl (by rw [hSd]; simp; omega)), pOr_s] at ih
        refine vV.iinc (L' := [_, _, _, _, _]) dX7_left_59 (by decide) rfl (⟨by omega, by omega⟩) rfl ?_
        refine vV.goto (tgt := 7) dX7_left_62 (by decide) ?_
        exact ih (by omega) _ _ (fun b' hb => by cases hb; first | exact hyb | (rw [hvd]; rfl))
      · skip
        refine vV.iload_n dX7_left_44 rfl ?_
        refine vV.if_lt (tgt := 54) dX7_left_45 (by decide) (fun h45 => ?_) (fun h45 => ?_)
        · skip
          omega
        · skip
          refine vV.iload dX7_left_48 rfl ?_
          refine vV.iload_n dX7_left_50 rfl ?_
          refine vV.icmp_ge (tgt := 59) dX7_left_51 (by decide) (fun h51 => ?_) (fun h51 => ?_)
          · skip
            rw [hyb] at h51
            rw [keep (Or.inr ⟨b, rfl, by rw [hvd] at h51 ⊢; exact h51⟩), pOr_s] at ih
            refine vV.iinc (L' := [_, _, _, _, _]) dX7_left_59 (by decide) rfl (⟨by omega, by omega⟩) rfl ?_
            refine vV.goto (tgt := 7) dX7_left_62 (by decide) ?_
            exact ih (by omega) _ _ (fun b' hb => by cases hb; first | exact hyb | (rw [hvd]; rfl))
          · skip
            rw [hyb] at h51
            rw [take (by rw [hSd]; simp; omega) (fun b' hb => by cases hb; rw [hvd] at h51 ⊢; exact h51), pOr_s] at ih
            refine vV.iload_n dX7_left_54 rfl ?_
            refine vV.istore_n (L' := [_, _, _, _, _]) dX7_left_55 (by decide) rfl ?_
            refine vV.iload dX7_left_56 rfl ?_
            refine vV.istore_n (L' := [_, _, _, _, _]) dX7_left_58 (by decide) rfl ?_
            refine vV.iinc (L' := [_, _, _, _, _]) dX7_left_59 (by decide) rfl (⟨by omega, by omega⟩) rfl ?_
            refine vV.goto (tgt := 7) dX7_left_62 (by decide) ?_
            exact ih (by omega) _ _ (fun b' hb => by cases hb; first | exact hyb | (rw [hvd]; rfl))
theorem c_X7_left {d : List Nat} {T : vT} {M : vM} {n t lag : Nat} {g l : Option Nat} {hist : Nat → Int → Int} (hB : vB T) (hS : mS M n t g l) (hL : mL M n t hist) (ht : t ≤ 600) (hlag : M 200 8 = lag) (hl3 : lag ≤ 3) (hf1 : ∀ j : Nat, j < n → 1 ≤ M 203 j) : vCon m_X7_left d d [vR 200] T M (vPi fun r T1 M1 => r = pOr (-6) (pLeft n (M 211) (M 203) (M 212) (hist (t - lag)) (M 200 12)) ∧ T = T1 ∧ M = M1) := by
  refine vCon.of (by decide) rfl rfl (Nat.le_of_ble_eq_true rfl) ?_
  have h := fun y x4 => l_X7_left (d := d) hB hS hL ht hlag hl3 hf1 0 (by omega) y x4 (fun b hb => nomatch hb)
  refine vV.bipush (v := (-6)) dX7_left_0 (by decide) (by decide) ?_
  refine vV.istore_n (L' := [_, _, _, _, _]) dX7_left_2 (by decide) rfl ?_
  refine vV.iconst dX7_left_3 (by decide) ?_
  refine vV.istore_n (L' := [_, _, _, _, _]) dX7_left_4 (by decide) rfl ?_
  refine vV.iconst dX7_left_5 (by decide) ?_
  refine vV.istore_n (L' := [_, _, _, _, _]) dX7_left_6 (by decide) rfl ?_
  exact h _ _
theorem dX7_following_0 : decode cX7_following 0 = .ok (.iconst 1, 1) := by decide +kernel
theorem dX7_following_1 : decode cX7_following 1 = .ok (.istore_n 1, 1) := by decide +kernel
theorem dX7_following_2 : decode cX7_following 2 = .ok (.iload_n 1, 1) := by decide +kernel
theorem dX7_following_3 : decode cX7_following 3 = .ok (.aload_n 0, 1) := by decide +kernel
theorem dX7_following_4 : decode cX7_following 4 = .ok (.getfield 89, 3) := by decide +kernel
theorem dX7_following_7 : decode cX7_following 7 = .ok (.if_icmp .gt 45, 3) := by decide +kernel
theorem dX7_following_10 : decode cX7_following 10 = .ok (.aload_n 0, 1) := by decide +kernel
theorem dX7_following_11 : decode cX7_following 11 = .ok (.getfield 132, 3) := by decide +kernel
theorem dX7_following_14 : decode cX7_following 14 = .ok (.ifCond .ge 9, 3) := by decide +kernel
theorem dX7_following_17 : decode cX7_following 17 = .ok (.iload_n 1, 1) := by decide +kernel
theorem dX7_following_18 : decode cX7_following 18 = .ok (.iconst 1, 1) := by decide +kernel
theorem dX7_following_19 : decode cX7_following 19 = .ok (.isub, 1) := by decide +kernel
theorem dX7_following_20 : decode cX7_following 20 = .ok (.goto 14, 3) := by decide +kernel
theorem dX7_following_23 : decode cX7_following 23 = .ok (.aload_n 0, 1) := by decide +kernel
theorem dX7_following_24 : decode cX7_following 24 = .ok (.getfield 132, 3) := by decide +kernel
theorem dX7_following_27 : decode cX7_following 27 = .ok (.iload_n 1, 1) := by decide +kernel
theorem dX7_following_28 : decode cX7_following 28 = .ok (.iadd, 1) := by decide +kernel
theorem dX7_following_29 : decode cX7_following 29 = .ok (.aload_n 0, 1) := by decide +kernel
theorem dX7_following_30 : decode cX7_following 30 = .ok (.getfield 89, 3) := by decide +kernel
theorem dX7_following_33 : decode cX7_following 33 = .ok (.irem, 1) := by decide +kernel
theorem dX7_following_34 : decode cX7_following 34 = .ok (.istore_n 2, 1) := by decide +kernel
theorem dX7_following_35 : decode cX7_following 35 = .ok (.aload_n 0, 1) := by decide +kernel
theorem dX7_following_36 : decode cX7_following 36 = .ok (.getfield 25, 3) := by decide +kernel
theorem dX7_following_39 : decode cX7_following 39 = .ok (.iload_n 2, 1) := by decide +kernel
theorem dX7_following_40 : decode cX7_following 40 = .ok (.iaload, 1) := by decide +kernel
theorem dX7_following_41 : decode cX7_following 41 = .ok (.ifCond .le 5, 3) := by decide +kernel
theorem dX7_following_44 : decode cX7_following 44 = .ok (.iload_n 2, 1) := by decide +kernel
theorem dX7_following_45 : decode cX7_following 45 = .ok (.ireturn, 1) := by decide +kernel
theorem dX7_following_46 : decode cX7_following 46 = .ok (.iinc 1 1, 3) := by decide +kernel
theorem dX7_following_49 : decode cX7_following 49 = .ok (.goto (-47), 3) := by decide +kernel
theorem dX7_following_52 : decode cX7_following 52 = .ok (.bipush (-6), 2) := by decide +kernel
theorem dX7_following_54 : decode cX7_following 54 = .ok (.ireturn, 1) := by decide +kernel
def pIdx (n : Nat) (l : Option Nat) (k : Nat) : Nat := match l with
  | none => k
  | some q => (q + 1 + k) % n
def pNext (n : Nat) (tu : Int → Int) (l : Option Nat) : Option Nat := (pFind (fun k => decide (0 < tu (pIdx n l k))) n).map (pIdx n l)
theorem pIdx_lt {n : Nat} {l : Option Nat} {k : Nat} (h : k < n) : pIdx n l k < n := by
  cases l with
  | none => exact h
  | some q => exact Nat.mod_lt _ (by omega)
theorem l_X7_following {d : List Nat} {T : vT} {M : vM} {n : Nat} {l : Option Nat} (hB : vB T) (hc : M 200 4 = n) (hn : n ≤ 6) (hl : M 200 15 = pOr (-6) l) (hln : ∀ k, l = some k → k < n) : ∀ p, p ≤ n → (∀ j : Nat, j < p → decide (0 < M 212 (pIdx n l j)) = false) → ∀ x2 : Option vA,
    vV m_X7_following d d (vPi fun r T1 M1 => r = pOr (-6) (pNext n (M 212) l) ∧ T = T1 ∧ M = M1) 2 [some (vR 200), some (vI ((p : Int) + 1)), x2] [] d T M := by
  unfold pNext
  refine vUp ?_
  intro p hp ih hj x2
  have hF0 : p = n → pOr (-6) ((pFind (fun k => decide (0 < M 212 (pIdx n l k))) n).map (pIdx n l)) = -6 := fun h => by rw [pFind_no (fun j hjn => hj j (by omega))]; rfl
  have hF1 : p < n → 0 < M 212 (pIdx n l p) → pOr (-6) ((pFind (fun k => decide (0 < M 212 (pIdx n l k))) n).map (pIdx n l)) = (pIdx n l p : Nat) := fun h h2 => by rw [pFind_yes h (by simpa using h2) hj]; rfl
  have hI : p < n → pIdx n l p < n := fun h => pIdx_lt h
  have hnx : ¬ 0 < M 212 (pIdx n l p) → ∀ j : Nat, j < p + 1 → decide (0 < M 212 (pIdx n l j)) = false := fun h j hjp => (Nat.lt_succ_iff_lt_or_eq.mp hjp).elim (hj j) (fun e => by subst e; simpa using h)
  cases l with
  | none =>
    rw [pOr_n] at hl
    obtain ⟨i, hi⟩ : ∃ i, i = pIdx n none p := ⟨_, rfl⟩
    have hip : i = p := hi
    rw [← hi] at hF1 hI hnx
    refine vV.iload_n dX7_following_2 rfl ?_
    refine vV.aload_n dX7_following_3 rfl ?_
    refine vV.geti (z := 4) dX7_following_4 fl_X7_89 (by first | rfl | assumption) rfl rfl ?_
    refine vV.icmp_gt (tgt := 52) dX7_following_7 (by decide) (fun h7 => ?_) (fun h7 => ?_)
    · skip
      refine vV.bipush (v := (-6)) dX7_following_52 (by decide) (by decide) ?_
      refine vV.ri dX7_following_54 rfl ?_
      exact ⟨(hF0 (by omega)).symm, rfl, rfl⟩
    · skip
      have hI' := hI (by omega)
      refine vV.aload_n dX7_following_10 rfl ?_
      refine vV.geti (z := 15) dX7_following_11 fl_X7_132 (by first | rfl | assumption) rfl rfl ?_
      refine vV.if_ge (tgt := 23) dX7_following_14 (by decide) (fun h14 => ?_) (fun h14 => ?_)
      · skip
        omega
      · skip
        refine vV.iload_n dX7_following_17 rfl ?_
        refine vV.iconst dX7_following_18 (by decide) ?_
        refine vV.isub dX7_following_19 (⟨by omega, by omega⟩) ?_
        refine vV.goto (tgt := 34) dX7_following_20 (by decide) ?_
        rw [show (p : Int) + 1 - 1 = (i : Int) by omega]
        refine vV.istore_n (L' := [_, _, _]) dX7_following_34 (by decide) rfl ?_
        refine vV.aload_n dX7_following_35 rfl ?_
        refine vV.getr dX7_following_36 fl_X7_25 (by first | rfl | assumption) rfl (by first | assumption | exact hB _ _ _ rfl) ?_
        refine vV.iload_n dX7_following_39 rfl ?_
        refine vV.iald dX7_following_40 (by first | rfl | assumption) (by omega) (by omega) ?_
        refine vV.if_le (tgt := 46) dX7_following_41 (by decide) (fun h41 => ?_) (fun h41 => ?_)
        · skip
          refine vV.iinc (L' := [_, _, _]) dX7_following_46 (by decide) rfl (⟨by omega, by omega⟩) rfl ?_
          refine vV.goto (tgt := 2) dX7_following_49 (by decide) ?_
          exact ih (by omega) (hnx (by omega)) _
        · skip
          refine vV.iload_n dX7_following_44 rfl ?_
          refine vV.ri dX7_following_45 rfl ?_
          exact ⟨(hF1 (by omega) (by omega)).symm, rfl, rfl⟩
  | some q =>
    have hq := hln q rfl
    rw [pOr_s] at hl
    obtain ⟨i, hi⟩ : ∃ i, i = pIdx n (some q) p := ⟨_, rfl⟩
    have hiq : (i : Int) = ((q : Int) + ((p : Int) + 1)) % (n : Int) := by rw [hi]; unfold pIdx; simp; congr 1; omega
    rw [← hi] at hF1 hI hnx
    refine vV.iload_n dX7_following_2 rfl ?_
    refine vV.aload_n dX7_following_3 rfl ?_
    refine vV.geti (z := 4) dX7_following_4 fl_X7_89 (by first | rfl | assumption) rfl rfl ?_
    refine vV.icmp_gt (tgt := 52) dX7_following_7 (by decide) (fun h7 => ?_) (fun h7 => ?_)
    · skip
      refine vV.bipush (v := (-6)) dX7_following_52 (by decide) (by decide) ?_
      refine vV.ri dX7_following_54 rfl ?_
      exact ⟨(hF0 (by omega)).symm, rfl, rfl⟩
    · skip
      have hI' := hI (by omega)
      refine vV.aload_n dX7_following_10 rfl ?_
      refine vV.geti (z := 15) dX7_following_11 fl_X7_132 (by first | rfl | assumption) rfl rfl ?_
      refine vV.if_ge (tgt := 23) dX7_following_14 (by decide) (fun h14 => ?_) (fun h14 => ?_)
      · skip
        refine vV.aload_n dX7_following_23 rfl ?_
        refine vV.geti (z := 15) dX7_following_24 fl_X7_132 (by first | rfl | assumption) rfl rfl ?_
        refine vV.iload_n dX7_following_27 rfl ?_
        refine vV.iadd dX7_following_28 (⟨by omega, by omega⟩) ?_
        refine vV.aload_n dX7_following_29 rfl ?_
        refine vV.geti (z := 4) dX7_following_30 fl_X7_89 (by first | rfl | assumption) rfl rfl ?_
        refine vV.irem dX7_following_33 (by omega) (by rw [hc, hl, tdiv_nn (by omega)]; have := ediv_rg (x := (q : Int) + ((p : Int) + 1)) (y := (n : Int)) (by omega) (by omega); exact ⟨by omega, by omega⟩) ?_
        rw [hl, hc, Int.tmod_eq_emod_of_nonneg (by omega), ← hiq]
        refine vV.istore_n (L' := [_, _, _]) dX7_following_34 (by decide) rfl ?_
        refine vV.aload_n dX7_following_35 rfl ?_
        refine vV.getr dX7_following_36 fl_X7_25 (by first | rfl | assumption) rfl (by first | assumption | exact hB _ _ _ rfl) ?_
        refine vV.iload_n dX7_following_39 rfl ?_
        refine vV.iald dX7_following_40 (by first | rfl | assumption) (by omega) (by omega) ?_
        refine vV.if_le (tgt := 46) dX7_following_41 (by decide) (fun h41 => ?_) (fun h41 => ?_)
        · skip
          refine vV.iinc (L' := [_, _, _]) dX7_following_46 (by decide) rfl (⟨by omega, by omega⟩) rfl ?_
          refine vV.goto (tgt := 2) dX7_following_49 (by decide) ?_
          exact ih (by omega) (hnx (by omega)) _
        · skip
          refine vV.iload_n dX7_following_44 rfl ?_
          refine vV.ri dX7_following_45 rfl ?_
          exact ⟨(hF1 (by omega) (by omega)).symm, rfl, rfl⟩
      · skip
        omega
theorem c_X7_following {d : List Nat} {T : vT} {M : vM} {n : Nat} {l : Option Nat} (hB : vB T) (hc : M 200 4 = n) (hn : n ≤ 6) (hl : M 200 15 = pOr (-6) l) (hln : ∀ k, l = some k → k < n) : vCon m_X7_following d d [vR 200] T M (vPi fun r T1 M1 => r = pOr (-6) (pNext n (M 212) l) ∧ T = T1 ∧ M = M1) := by
  refine vCon.of (by decide) rfl rfl (Nat.le_of_ble_eq_true rfl) ?_
  have h := l_X7_following (d := d) hB hc hn hl hln 0 (by omega) (fun j hj => by omega)
  refine vV.iconst dX7_following_0 (by decide) ?_
  refine vV.istore_n (L' := [_, _, _]) dX7_following_1 (by decide) rfl ?_
  exact h _
def pTake (rule : Int) (n : Nat) (pl fa tu f : Int → Int) (man : Int) (l : Option Nat) : Option Nat :=
  if rule = 0 then pWorst n pl tu f man else if rule = 1 then pNear n pl tu f man else if rule = 2 then pNext n tu l else pLeft n pl fa tu f man
def pNeed (tu : Int → Int) : Option Nat → Bool
  | none => true
  | some p => decide (tu p = 0)
def pG1 (rule : Int) (n : Nat) (pl fa tu f : Int → Int) (man : Int) (g l : Option Nat) : Option Nat := if pNeed tu g then pTake rule n pl fa tu f man l else g
def pW1 (tu : Int → Int) (g : Option Nat) (w : Int) : Int := if pNeed tu g then 0 else w
def pL1 (rule : Int) (n : Nat) (pl fa tu f : Int → Int) (man : Int) (g l : Option Nat) : Option Nat := if pNeed tu g then (pTake rule n pl fa tu f man l).or l else l
def pThing (pl : Int → Int) (man : Int) : Option Nat → Int
  | none => 0
  | some p => if pl p = man then 3 else if pl p < man then 1 else 2
theorem pNear_lt {n k : Nat} {pl tu f : Int → Int} {man : Int} (h : pNear n pl tu f man = some k) : k < n := by
  unfold pNear at h
  cases hz : pMin (fun j => decide (0 < tu j) && decide (pSeen pl tu f man j ≤ 5)) (pFar pl man) n with
  | none => rw [hz] at h; exact pMin_lt h
  | some b => rw [hz] at h; cases h; exact pMin_lt hz
theorem pNext_lt {n k : Nat} {tu : Int → Int} {l : Option Nat} (h : pNext n tu l = some k) : k < n := by
  unfold pNext at h
  cases hz : pFind (fun k => decide (0 < tu (pIdx n l k))) n with
  | none => rw [hz] at h; cases h
  | some b => rw [hz] at h; cases h; exact pIdx_lt (pFind_some hz).1
theorem pTake_lt {rule : Int} {n k : Nat} {pl fa tu f : Int → Int} {man : Int} {l : Option Nat} (h : pTake rule n pl fa tu f man l = some k) : k < n := by
  unfold pTake at h
  split at h
  · exact pMin_lt h
  · split at h
    · exact pNear_lt h
    · split at h
      · exact pNext_lt h
      · exact pMin_lt h
theorem pG1_lt {rule : Int} {n : Nat} {pl fa tu f : Int → Int} {man : Int} {g l : Option Nat} (hg : ∀ k, g = some k → k < n) : ∀ k, pG1 rule n pl fa tu f man g l = some k → k < n := by
  intro k h; unfold pG1 at h; split at h
  · exact pTake_lt h
  · exact hg k h
theorem pL1_lt {rule : Int} {n : Nat} {pl fa tu f : Int → Int} {man : Int} {g l : Option Nat} (hl : ∀ k, l = some k → k < n) : ∀ k, pL1 rule n pl fa tu f man g l = some k → k < n := by
  intro k h; unfold pL1 at h; split at h
  · cases hz : pTake rule n pl fa tu f man l with
    | none => rw [hz] at h; exact hl k h
    | some b => rw [hz] at h; cases h; exact pTake_lt hz
  · exact hl k h
