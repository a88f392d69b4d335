/-! ===== own: the class's walker: choose, act ===== -/
theorem dX5_nextByNumber_0 : decode cX5_nextByNumber 0 = .ok (.aload_n 0, 1) := by decide +kernel
theorem dX5_nextByNumber_1 : decode cX5_nextByNumber 1 = .ok (.getfield 42, 3) := by decide +kernel
theorem dX5_nextByNumber_4 : decode cX5_nextByNumber 4 = .ok (.istore_n 1, 1) := by decide +kernel
theorem dX5_nextByNumber_5 : decode cX5_nextByNumber 5 = .ok (.iconst 0, 1) := by decide +kernel
theorem dX5_nextByNumber_6 : decode cX5_nextByNumber 6 = .ok (.istore_n 2, 1) := by decide +kernel
theorem dX5_nextByNumber_7 : decode cX5_nextByNumber 7 = .ok (.iload_n 2, 1) := by decide +kernel
theorem dX5_nextByNumber_8 : decode cX5_nextByNumber 8 = .ok (.aload_n 0, 1) := by decide +kernel
theorem dX5_nextByNumber_9 : decode cX5_nextByNumber 9 = .ok (.getfield 12, 3) := by decide +kernel
theorem dX5_nextByNumber_12 : decode cX5_nextByNumber 12 = .ok (.getfield 93, 3) := by decide +kernel
theorem dX5_nextByNumber_15 : decode cX5_nextByNumber 15 = .ok (.if_icmp .ge 44, 3) := by decide +kernel
theorem dX5_nextByNumber_18 : decode cX5_nextByNumber 18 = .ok (.iload_n 1, 1) := by decide +kernel
theorem dX5_nextByNumber_19 : decode cX5_nextByNumber 19 = .ok (.iconst 1, 1) := by decide +kernel
theorem dX5_nextByNumber_20 : decode cX5_nextByNumber 20 = .ok (.iadd, 1) := by decide +kernel
theorem dX5_nextByNumber_21 : decode cX5_nextByNumber 21 = .ok (.aload_n 0, 1) := by decide +kernel
theorem dX5_nextByNumber_22 : decode cX5_nextByNumber 22 = .ok (.getfield 12, 3) := by decide +kernel
theorem dX5_nextByNumber_25 : decode cX5_nextByNumber 25 = .ok (.getfield 93, 3) := by decide +kernel
theorem dX5_nextByNumber_28 : decode cX5_nextByNumber 28 = .ok (.if_icmp .ge 9, 3) := by decide +kernel
theorem dX5_nextByNumber_31 : decode cX5_nextByNumber 31 = .ok (.iload_n 1, 1) := by decide +kernel
theorem dX5_nextByNumber_32 : decode cX5_nextByNumber 32 = .ok (.iconst 1, 1) := by decide +kernel
theorem dX5_nextByNumber_33 : decode cX5_nextByNumber 33 = .ok (.iadd, 1) := by decide +kernel
theorem dX5_nextByNumber_34 : decode cX5_nextByNumber 34 = .ok (.goto 4, 3) := by decide +kernel
theorem dX5_nextByNumber_37 : decode cX5_nextByNumber 37 = .ok (.iconst 0, 1) := by decide +kernel
theorem dX5_nextByNumber_38 : decode cX5_nextByNumber 38 = .ok (.istore_n 1, 1) := by decide +kernel
theorem dX5_nextByNumber_39 : decode cX5_nextByNumber 39 = .ok (.aload_n 0, 1) := by decide +kernel
theorem dX5_nextByNumber_40 : decode cX5_nextByNumber 40 = .ok (.getfield 12, 3) := by decide +kernel
theorem dX5_nextByNumber_43 : decode cX5_nextByNumber 43 = .ok (.getfield 55, 3) := by decide +kernel
theorem dX5_nextByNumber_46 : decode cX5_nextByNumber 46 = .ok (.iload_n 1, 1) := by decide +kernel
theorem dX5_nextByNumber_47 : decode cX5_nextByNumber 47 = .ok (.iaload, 1) := by decide +kernel
theorem dX5_nextByNumber_48 : decode cX5_nextByNumber 48 = .ok (.ifCond .le 5, 3) := by decide +kernel
theorem dX5_nextByNumber_51 : decode cX5_nextByNumber 51 = .ok (.iload_n 1, 1) := by decide +kernel
theorem dX5_nextByNumber_52 : decode cX5_nextByNumber 52 = .ok (.ireturn, 1) := by decide +kernel
theorem dX5_nextByNumber_53 : decode cX5_nextByNumber 53 = .ok (.iinc 2 1, 3) := by decide +kernel
theorem dX5_nextByNumber_56 : decode cX5_nextByNumber 56 = .ok (.goto (-49), 3) := by decide +kernel
theorem dX5_nextByNumber_59 : decode cX5_nextByNumber 59 = .ok (.iconst (-1), 1) := by decide +kernel
theorem dX5_nextByNumber_60 : decode cX5_nextByNumber 60 = .ok (.ireturn, 1) := by decide +kernel
theorem mod_next {m n : Nat} (hn : 0 < n) : (m + 1) % n = if m % n + 1 < n then m % n + 1 else 0 := by
  have h1 : (m % n + 1) % n = (m + 1) % n := Nat.mod_add_mod m n 1
  have h2 := Nat.mod_lt m hn
  rw [← h1]
  split
  · rename_i h; exact Nat.mod_eq_of_lt h
  · rw [show m % n + 1 = n by omega, Nat.mod_self]
def pPv (n : Nat) (l : Option Nat) (i : Nat) : Int := match l with
  | none => (i : Int) - 1
  | some q => (((q + i) % n : Nat) : Int)
theorem pPv_n {n : Nat} {l : Option Nat} {i : Nat} (h : i < n) : (if pPv n l i + 1 < n then pPv n l i + 1 else 0) = (pIdx n l i : Nat) := by
  cases l with
  | none => show (if (i : Int) - 1 + 1 < n then (i : Int) - 1 + 1 else 0) = (i : Int); rw [if_pos (by omega)]; omega
  | some q =>
    have hm := mod_next (m := q + i) (n := n) (by omega)
    show (if (((q + i) % n : Nat) : Int) + 1 < n then (((q + i) % n : Nat) : Int) + 1 else 0) = (((q + 1 + i) % n : Nat) : Int)
    rw [show q + 1 + i = q + i + 1 by omega, hm]
    by_cases hh : (q + i) % n + 1 < n
    · rw [if_pos hh, if_pos (by omega)]; omega
    · rw [if_neg hh, if_neg (by omega)]; rfl
theorem pPv_s {n : Nat} {l : Option Nat} {i : Nat} : pPv n l (i + 1) = (pIdx n l i : Nat) := by
  cases l with
  | none => show ((i + 1 : Nat) : Int) - 1 = (i : Int); omega
  | some q => show (((q + (i + 1)) % n : Nat) : Int) = (((q + 1 + i) % n : Nat) : Int); rw [show q + (i + 1) = q + 1 + i by omega]
theorem pPv_rg {n : Nat} {l : Option Nat} {i : Nat} (hn : 0 < n) (h : i ≤ n) : -1 ≤ pPv n l i ∧ pPv n l i < n := by
  cases l with
  | none => show -1 ≤ (i : Int) - 1 ∧ (i : Int) - 1 < n; omega
  | some q => have := Nat.mod_lt (q + i) hn; show -1 ≤ (((q + i) % n : Nat) : Int) ∧ (((q + i) % n : Nat) : Int) < n; omega
theorem l_X5_next {d : List Nat} {T : vT} {M : vM} {n : Nat} {l : Option Nat} (hB : vB T) (hW : sgW M 30 n) : ∀ i, i ≤ n → (∀ j : Nat, j < i → decide (0 < M 34 (pIdx n l j)) = false) →
    vV m_X5_nextByNumber d d (vPi fun r T1 M1 => r = pOr (-1) (pNext n (M 34) l) ∧ T = T1 ∧ M = M1) 7 [some (vR 70), some (vI (pPv n l i)), some (vI i)] [] d T M := by
  have hn := hW.le
  have hc : M 30 0 = n := hW.cnt
  obtain ⟨R, hR⟩ : ∃ R, R = pOr (-1) (pNext n (M 34) l) := ⟨_, rfl⟩
  rw [← hR]
  unfold pNext at hR
  refine vUp ?_
  intro i hi ih hj
  have hF0 : i = n → R = -1 := fun h => by rw [hR, pFind_no (fun j hjn => hj j (by omega))]; rfl
  have hF1 : i < n → 0 < M 34 (pIdx n l i) → R = (pIdx n l i : Nat) := fun h h2 => by rw [hR, pFind_yes h (by simpa using h2) hj]; rfl
  have hI : i < n → pIdx n l i < n := fun h => pIdx_lt h
  have hnx : ¬ 0 < M 34 (pIdx n l i) → ∀ j : Nat, j < i + 1 → decide (0 < M 34 (pIdx n l j)) = false := fun h j hjp => (Nat.lt_succ_iff_lt_or_eq.mp hjp).elim (hj j) (fun e => by subst e; simpa using h)
  rw [pPv_s] at ih
  refine vV.iload_n dX5_nextByNumber_7 rfl ?_
  refine vV.aload_n dX5_nextByNumber_8 rfl ?_
  refine vV.getr dX5_nextByNumber_9 fl_X5_12 (by first | rfl | assumption) rfl (by first | assumption | exact hB _ _ _ rfl) ?_
  refine vV.geti (z := 0) dX5_nextByNumber_12 fl_X5_93 (by first | rfl | assumption) rfl rfl ?_
  refine vV.icmp_ge (tgt := 59) dX5_nextByNumber_15 (by decide) (fun h15 => ?_) (fun h15 => ?_)
  · skip
    refine vV.iconst dX5_nextByNumber_59 (by decide) ?_
    refine vV.ri dX5_nextByNumber_60 rfl ?_
    exact ⟨(hF0 (by omega)).symm, rfl, rfl⟩
  · skip
    have hI2 := hI (by omega)
    have hrg := pPv_rg (n := n) (l := l) (i := i) (by omega) hi
    have hpv := pPv_n (l := l) (show i < n by omega)
    refine vV.iload_n dX5_nextByNumber_18 rfl ?_
    refine vV.iconst dX5_nextByNumber_19 (by decide) ?_
    refine vV.iadd dX5_nextByNumber_20 (⟨by omega, by omega⟩) ?_
    refine vV.aload_n dX5_nextByNumber_21 rfl ?_
    refine vV.getr dX5_nextByNumber_22 fl_X5_12 (by first | rfl | assumption) rfl (by first | assumption | exact hB _ _ _ rfl) ?_
    refine vV.geti (z := 0) dX5_nextByNumber_25 fl_X5_93 (by first | rfl | assumption) rfl rfl ?_
    refine vV.icmp_ge (tgt := 37) dX5_nextByNumber_28 (by decide) (fun h28 => ?_) (fun h28 => ?_)
    · skip
      rw [if_neg (by omega)] at hpv
      refine vV.iconst dX5_nextByNumber_37 (by decide) ?_
      rw [hpv]
      refine vV.istore_n (L' := [_, _, _]) dX5_nextByNumber_38 (by decide) rfl ?_
      refine vV.aload_n dX5_nextByNumber_39 rfl ?_
      refine vV.getr dX5_nextByNumber_40 fl_X5_12 (by first | rfl | assumption) rfl (by first | assumption | exact hB _ _ _ rfl) ?_
      refine vV.getr dX5_nextByNumber_43 fl_X5_55 (by first | rfl | assumption) rfl (by first | assumption | exact hB _ _ _ rfl) ?_
      refine vV.iload_n dX5_nextByNumber_46 rfl ?_
      refine vV.iald dX5_nextByNumber_47 (by first | rfl | assumption) (by omega) (by omega) ?_
      refine vV.if_le (tgt := 53) dX5_nextByNumber_48 (by decide) (fun h48 => ?_) (fun h48 => ?_)
      · skip
        refine vV.iinc (L' := [_, _, _]) dX5_nextByNumber_53 (by decide) rfl (⟨by omega, by omega⟩) rfl ?_
        refine vV.goto (tgt := 7) dX5_nextByNumber_56 (by decide) ?_
        exact ih (by omega) (hnx (by omega))
      · skip
        refine vV.iload_n dX5_nextByNumber_51 rfl ?_
        refine vV.ri dX5_nextByNumber_52 rfl ?_
        exact ⟨(hF1 (by omega) (by omega)).symm, rfl, rfl⟩
    · skip
      rw [if_pos (by omega)] at hpv
      refine vV.iload_n dX5_nextByNumber_31 rfl ?_
      refine vV.iconst dX5_nextByNumber_32 (by decide) ?_
      refine vV.iadd dX5_nextByNumber_33 (⟨by omega, by omega⟩) ?_
      refine vV.goto (tgt := 38) dX5_nextByNumber_34 (by decide) ?_
      rw [hpv]
      refine vV.istore_n (L' := [_, _, _]) dX5_nextByNumber_38 (by decide) rfl ?_
      refine vV.aload_n dX5_nextByNumber_39 rfl ?_
      refine vV.getr dX5_nextByNumber_40 fl_X5_12 (by first | rfl | assumption) rfl (by first | assumption | exact hB _ _ _ rfl) ?_
      refine vV.getr dX5_nextByNumber_43 fl_X5_55 (by first | rfl | assumption) rfl (by first | assumption | exact hB _ _ _ rfl) ?_
      refine vV.iload_n dX5_nextByNumber_46 rfl ?_
      refine vV.iald dX5_nextByNumber_47 (by first | rfl | assumption) (by omega) (by omega) ?_
      refine vV.if_le (tgt := 53) dX5_nextByNumber_48 (by decide) (fun h48 => ?_) (fun h48 => ?_)
      · skip
        refine vV.iinc (L' := [_, _, _]) dX5_nextByNumber_53 (by decide) rfl (⟨by omega, by omega⟩) rfl ?_
        refine vV.goto (tgt := 7) dX5_nextByNumber_56 (by decide) ?_
        exact ih (by omega) (hnx (by omega))
      · skip
        refine vV.iload_n dX5_nextByNumber_51 rfl ?_
        refine vV.ri dX5_nextByNumber_52 rfl ?_
        exact ⟨(hF1 (by omega) (by omega)).symm, rfl, rfl⟩
theorem c_X5_nextByNumber {d : List Nat} {T : vT} {M : vM} {n : Nat} {l : Option Nat} (hB : vB T) (hW : sgW M 30 n) (hl : M 70 4 = pOr (-1) l) (hln : ∀ k, l = some k → k < n) : vCon m_X5_nextByNumber d d [vR 70] T M (vPi fun r T1 M1 => r = pOr (-1) (pNext n (M 34) l) ∧ T = T1 ∧ M = M1) := by
  refine vCon.of (by decide) rfl rfl (Nat.le_of_ble_eq_true rfl) ?_
  have h := l_X5_next (d := d) (l := l) hB hW 0 (by omega) (fun j hj => by omega)
  have e : pPv n l 0 = pOr (-1) l := by
    cases l with
    | none => rfl
    | some q => show (((q + 0) % n : Nat) : Int) = (q : Int); rw [Nat.add_zero, Nat.mod_eq_of_lt (hln q rfl)]
  rw [e] at h
  refine vV.aload_n dX5_nextByNumber_0 rfl ?_
  refine vV.geti (z := 4) dX5_nextByNumber_1 fl_X5_42 (by first | rfl | assumption) rfl rfl ?_
  rw [hl]
  refine vV.istore_n (L' := [_, _, _]) dX5_nextByNumber_4 (by decide) rfl ?_
  refine vV.iconst dX5_nextByNumber_5 (by decide) ?_
  refine vV.istore_n (L' := [_, _, _]) dX5_nextByNumber_6 (by decide) rfl ?_
  exact h
def wSlot (J : List Int) (M M1 : vM) : Prop := ∀ j, j ∉ J → M1 70 j = M 70 j
theorem dX5_takeGoal_0 : decode cX5_takeGoal 0 = .ok (.aload_n 0, 1) := by decide +kernel
theorem dX5_takeGoal_1 : decode cX5_takeGoal 1 = .ok (.aload_n 0, 1) := by decide +kernel
theorem dX5_takeGoal_2 : decode cX5_takeGoal 2 = .ok (.getfield 18, 3) := by decide +kernel
theorem dX5_takeGoal_5 : decode cX5_takeGoal 5 = .ok (.aload_n 0, 1) := by decide +kernel
theorem dX5_takeGoal_6 : decode cX5_takeGoal 6 = .ok (.getfield 32, 3) := by decide +kernel
theorem dX5_takeGoal_9 : decode cX5_takeGoal 9 = .ok (.aload_n 0, 1) := by decide +kernel
theorem dX5_takeGoal_10 : decode cX5_takeGoal 10 = .ok (.getfield 12, 3) := by decide +kernel
theorem dX5_takeGoal_13 : decode cX5_takeGoal 13 = .ok (.getfield 52, 3) := by decide +kernel
theorem dX5_takeGoal_16 : decode cX5_takeGoal 16 = .ok (.iconst 3, 1) := by decide +kernel
theorem dX5_takeGoal_17 : decode cX5_takeGoal 17 = .ok (.iaload, 1) := by decide +kernel
theorem dX5_takeGoal_18 : decode cX5_takeGoal 18 = .ok (.isub, 1) := by decide +kernel
theorem dX5_takeGoal_19 : decode cX5_takeGoal 19 = .ok (.invokestatic 75, 3) := by decide +kernel
theorem dX5_takeGoal_22 : decode cX5_takeGoal 22 = .ok (.iaload, 1) := by decide +kernel
theorem dX5_takeGoal_23 : decode cX5_takeGoal 23 = .ok (.putfield 78, 3) := by decide +kernel
theorem dX5_takeGoal_26 : decode cX5_takeGoal 26 = .ok (.iload_n 1, 1) := by decide +kernel
theorem dX5_takeGoal_27 : decode cX5_takeGoal 27 = .ok (.tableswitch 53 0 2 #[25, 30, 48], 25) := by decide +kernel
theorem dX5_takeGoal_52 : decode cX5_takeGoal 52 = .ok (.aload_n 0, 1) := by decide +kernel
theorem dX5_takeGoal_53 : decode cX5_takeGoal 53 = .ok (.invokevirtual 81, 3) := by decide +kernel
theorem dX5_takeGoal_56 : decode cX5_takeGoal 56 = .ok (.ireturn, 1) := by decide +kernel
theorem dX5_takeGoal_57 : decode cX5_takeGoal 57 = .ok (.aload_n 0, 1) := by decide +kernel
theorem dX5_takeGoal_58 : decode cX5_takeGoal 58 = .ok (.invokevirtual 84, 3) := by decide +kernel
theorem dX5_takeGoal_61 : decode cX5_takeGoal 61 = .ok (.istore_n 2, 1) := by decide +kernel
theorem dX5_takeGoal_62 : decode cX5_takeGoal 62 = .ok (.iload_n 2, 1) := by decide +kernel
theorem dX5_takeGoal_63 : decode cX5_takeGoal 63 = .ok (.ifCond .ge 10, 3) := by decide +kernel
theorem dX5_takeGoal_66 : decode cX5_takeGoal 66 = .ok (.aload_n 0, 1) := by decide +kernel
theorem dX5_takeGoal_67 : decode cX5_takeGoal 67 = .ok (.invokevirtual 81, 3) := by decide +kernel
theorem dX5_takeGoal_70 : decode cX5_takeGoal 70 = .ok (.goto 4, 3) := by decide +kernel
theorem dX5_takeGoal_73 : decode cX5_takeGoal 73 = .ok (.iload_n 2, 1) := by decide +kernel
theorem dX5_takeGoal_74 : decode cX5_takeGoal 74 = .ok (.ireturn, 1) := by decide +kernel
theorem dX5_takeGoal_75 : decode cX5_takeGoal 75 = .ok (.aload_n 0, 1) := by decide +kernel
theorem dX5_takeGoal_76 : decode cX5_takeGoal 76 = .ok (.invokevirtual 87, 3) := by decide +kernel
theorem dX5_takeGoal_79 : decode cX5_takeGoal 79 = .ok (.ireturn, 1) := by decide +kernel
theorem dX5_takeGoal_80 : decode cX5_takeGoal 80 = .ok (.aload_n 0, 1) := by decide +kernel
theorem dX5_takeGoal_81 : decode cX5_takeGoal 81 = .ok (.invokevirtual 90, 3) := by decide +kernel
theorem dX5_takeGoal_84 : decode cX5_takeGoal 84 = .ok (.ireturn, 1) := by decide +kernel
theorem c_X5_takeGoal {d : List Nat} {T : vT} {M : vM} {n t lag : Nat} {g l : Option Nat} {hist : Nat → Int → Int} {rule : Int} (hB : vB T) (hS : wS M n t g l) (hL : wL M n t hist) (ht : t ≤ 600) (hlag : M 35 3 = lag) (hl3 : lag ≤ 3) (hr0 : 0 ≤ rule) (hr3 : rule ≤ 3) :
    vCon m_X5_takeGoal d d [vR 70, vI rule] T M (vPi fun r T1 M1 => T = T1 ∧ mSame [70] M M1 ∧ wSlot [5] M M1 ∧ r = pOr (-1) (pTake rule n (M 31) (M 33) (M 34) (hist (t - lag)) (M 35 0) l)) := by
  obtain ⟨s1, s2, s3, s4, s5, s6, s7⟩ := hS
  have hlog := hL.1 (t - lag) (by omega)
  have hlg : (if M 70 1 - M 35 3 < 0 then 0 else if 600 < M 70 1 - M 35 3 then 600 else M 70 1 - M 35 3) = ((t - lag : Nat) : Int) := by
    rw [s7, hlag]
    split
    · omega
    · split <;> omega
  refine vCon.of (by decide) rfl rfl (Nat.le_of_ble_eq_true rfl) ?_
  refine vV.aload_n dX5_takeGoal_0 rfl ?_
  refine vV.aload_n dX5_takeGoal_1 rfl ?_
  refine vV.getr dX5_takeGoal_2 fl_X5_18 (by first | rfl | assumption) rfl (by first | assumption | exact hB _ _ _ rfl) ?_
  refine vV.aload_n dX5_takeGoal_5 rfl ?_
  refine vV.geti (z := 1) dX5_takeGoal_6 fl_X5_32 (by first | rfl | assumption) rfl rfl ?_
  refine vV.aload_n dX5_takeGoal_9 rfl ?_
  refine vV.getr dX5_takeGoal_10 fl_X5_12 (by first | rfl | assumption) rfl (by first | assumption | exact hB _ _ _ rfl) ?_
  refine vV.getr dX5_takeGoal_13 fl_X5_52 (by first | rfl | assumption) rfl (by first | assumption | exact hB _ _ _ rfl) ?_
  refine vV.iconst dX5_takeGoal_16 (by decide) ?_
  refine vV.iald dX5_takeGoal_17 (by first | rfl | assumption) (by omega) (by omega) ?_
  refine vV.isub dX5_takeGoal_18 (⟨by omega, by omega⟩) ?_
  refine vV.cSi dX5_takeGoal_19 ml_X5_75 cw_X5_logged sw_X5_logged (by unfold vRoom; decide) c_X5_logged rfl rfl (Nat.le_of_ble_eq_true rfl) ?_
  rintro x19 _ _ hx19 ⟨hxe, rfl, rfl⟩
  rw [hxe, hlg]
  refine vV.iald dX5_takeGoal_22 (by first | rfl | assumption) (by omega) (by omega) ?_
  rw [hlog]
  refine vV.puti (z := 5) dX5_takeGoal_23 fl_X5_78 (by first | rfl | assumption) rfl rfl ?_
  obtain ⟨N, hN⟩ : ∃ N, N = vUpd M 70 5 (pPack (hist (t - lag)) n) := ⟨_, rfl⟩
  rw [← hN]
  have hsm : mSame [70] M N := fun k hk => by simp at hk; rw [hN]; funext j; rw [vUpd_nk hk]
  have hsl : wSlot [5] M N := fun j hj => by simp at hj; rw [hN, vUpd_ni hj]
  have hl5 : N 70 5 = pPack (hist (t - lag)) n := by rw [hN, vUpd_s]
  have n31 : N 31 = M 31 := hsm 31 (by decide)
  have n33 : N 33 = M 33 := hsm 33 (by decide)
  have n34 : N 34 = M 34 := hsm 34 (by decide)
  have n35 : N 35 = M 35 := hsm 35 (by decide)
  have hWN : sgW N 30 n := by
    have e30 : N 30 = M 30 := hsm 30 (by decide)
    have e32 : N 32 = M 32 := hsm 32 (by decide)
    unfold sgW
    rw [e30, show N (30 + 1) = M (30 + 1) from n31, show N (30 + 2) = M (30 + 2) from e32, show N (30 + 3) = M (30 + 3) from n33, show N (30 + 4) = M (30 + 4) from n34, show N (30 + 5) = M (30 + 5) from n35]
    exact s1
  refine vV.iload_n dX5_takeGoal_26 rfl ?_
  have hs27 : (rule < 0 ∨ 2 < rule) ∨ rule = 0 ∨ rule = 1 ∨ rule = 2 := by omega
  rcases hs27 with h27 | h27 | h27 | h27
  · refine vV.tswD (tgt := 80) dX5_takeGoal_27 h27 (by decide) ?_
    refine vV.aload_n dX5_takeGoal_80 rfl ?_
    refine vV.cVi dX5_takeGoal_81 ml_X5_90 cw_X5_leastLeft iw_X5_leastLeft (by first | rfl | assumption) rfl (by unfold vRoom; decide) (c_X5_leastLeft hB hWN hl5 (hL.2 (t - lag))) rfl rfl (Nat.le_of_ble_eq_true rfl) ?_
    rintro x81 _ _ hx81 ⟨hxe2, rfl, rfl⟩
    rw [n31, n33, n34, n35] at hxe2
    refine vV.ri dX5_takeGoal_84 rfl ?_
    exact ⟨rfl, hsm, hsl, by rw [hxe2]; unfold pTake; rw [if_neg (by omega), if_neg (by omega), if_neg (by omega)]⟩
  · refine vV.tsw (tgt := 52) dX5_takeGoal_27 (0) h27 (by decide) (by decide) rfl (by decide) ?_
    refine vV.aload_n dX5_takeGoal_52 rfl ?_
    refine vV.cVi dX5_takeGoal_53 ml_X5_81 cw_X5_worst iw_X5_worst (by first | rfl | assumption) rfl (by unfold vRoom; decide) (c_X5_worst hB hWN hl5 (hL.2 (t - lag))) rfl rfl (Nat.le_of_ble_eq_true rfl) ?_
    rintro x53 _ _ hx53 ⟨hxe2, rfl, rfl⟩
    rw [n31, n34, n35] at hxe2
    refine vV.ri dX5_takeGoal_56 rfl ?_
    exact ⟨rfl, hsm, hsl, by rw [hxe2]; unfold pTake; rw [if_pos h27]⟩
  · refine vV.tsw (tgt := 57) dX5_takeGoal_27 (1) h27 (by decide) (by decide) rfl (by decide) ?_
    refine vV.aload_n dX5_takeGoal_57 rfl ?_
    refine vV.cVi dX5_takeGoal_58 ml_X5_84 cw_X5_near iw_X5_near (by first | rfl | assumption) rfl (by unfold vRoom; decide) (c_X5_near hB hWN hl5 (hL.2 (t - lag))) rfl rfl (Nat.le_of_ble_eq_true rfl) ?_
    rintro x58 _ _ hx58 ⟨hxe3, rfl, rfl⟩
    rw [n31, n34, n35] at hxe3
    refine vV.istore_n (L' := [_, _, _]) dX5_takeGoal_61 (by decide) rfl ?_
    refine vV.iload_n dX5_takeGoal_62 rfl ?_
    refine vV.if_ge (tgt := 73) dX5_takeGoal_63 (by decide) (fun h63 => ?_) (fun h63 => ?_)
    · skip
      refine vV.iload_n dX5_takeGoal_73 rfl ?_
      refine vV.ri dX5_takeGoal_74 rfl ?_
      refine ⟨rfl, hsm, hsl, ?_⟩; unfold pTake pNear; rw [if_neg (by omega), if_pos h27, show pMin _ _ n = pNearO n (M 31) (M 34) (hist (t - lag)) (M 35 0) from rfl]; cases hq : pNearO n (M 31) (M 34) (hist (t - lag)) (M 35 0) with | none => (rw [hq, pOr_n] at hxe3; first | (exact hxe2) | omega) | some q => (rw [hq, pOr_s] at hxe3; first | (exact hxe3) | omega)
    · skip
      refine vV.aload_n dX5_takeGoal_66 rfl ?_
      refine vV.cVi dX5_takeGoal_67 ml_X5_81 cw_X5_worst iw_X5_worst (by first | rfl | assumption) rfl (by unfold vRoom; decide) (c_X5_worst hB hWN hl5 (hL.2 (t - lag))) rfl rfl (Nat.le_of_ble_eq_true rfl) ?_
      rintro x53 _ _ hx53 ⟨hxe2, rfl, rfl⟩
      rw [n31, n34, n35] at hxe2
      refine vV.goto (tgt := 74) dX5_takeGoal_70 (by decide) ?_
      refine vV.ri dX5_takeGoal_74 rfl ?_
      refine ⟨rfl, hsm, hsl, ?_⟩; unfold pTake pNear; rw [if_neg (by omega), if_pos h27, show pMin _ _ n = pNearO n (M 31) (M 34) (hist (t - lag)) (M 35 0) from rfl]; cases hq : pNearO n (M 31) (M 34) (hist (t - lag)) (M 35 0) with | none => (rw [hq, pOr_n] at hxe3; first | (exact hxe2) | omega) | some q => (rw [hq, pOr_s] at hxe3; first | (exact hxe3) | omega)
  · refine vV.tsw (tgt := 75) dX5_takeGoal_27 (2) h27 (by decide) (by decide) rfl (by decide) ?_
    refine vV.aload_n dX5_takeGoal_75 rfl ?_
    refine vV.cVi dX5_takeGoal_76 ml_X5_87 cw_X5_nextByNumber iw_X5_nextByNumber (by first | rfl | assumption) rfl (by unfold vRoom; decide) (c_X5_nextByNumber hB hWN (by rw [hsl 4 (by decide)]; exact s4) s5) rfl rfl (Nat.le_of_ble_eq_true rfl) ?_
    rintro x76 _ _ hx76 ⟨hxe2, rfl, rfl⟩
    rw [n34] at hxe2
    refine vV.ri dX5_takeGoal_79 rfl ?_
    exact ⟨rfl, hsm, hsl, by rw [hxe2]; unfold pTake; rw [if_neg (by omega), if_neg (by omega), if_pos h27]⟩
  skip
