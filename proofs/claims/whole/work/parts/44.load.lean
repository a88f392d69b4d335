/-! ===== own: load, on both sides ===== -/
theorem tm_nat (x y : Nat) : Int.tmod (x : Int) (y : Int) = ((x % y : Nat) : Int) := rfl
theorem td_nat (x y : Nat) : Int.tdiv (x : Int) (y : Int) = ((x / y : Nat) : Int) := rfl
theorem gcd_st (x y : Nat) : Nat.gcd y (x % y) = Nat.gcd x y := by rw [Nat.gcd_comm y (x % y), ← Nat.gcd_rec, Nat.gcd_comm]
theorem dX6_commonDivisor_0 : decode cX6_commonDivisor 0 = .ok (.iload_n 0, 1) := by decide +kernel
theorem dX6_commonDivisor_1 : decode cX6_commonDivisor 1 = .ok (.istore_n 2, 1) := by decide +kernel
theorem dX6_commonDivisor_2 : decode cX6_commonDivisor 2 = .ok (.iload_n 1, 1) := by decide +kernel
theorem dX6_commonDivisor_3 : decode cX6_commonDivisor 3 = .ok (.istore_n 3, 1) := by decide +kernel
theorem dX6_commonDivisor_4 : decode cX6_commonDivisor 4 = .ok (.iconst 0, 1) := by decide +kernel
theorem dX6_commonDivisor_5 : decode cX6_commonDivisor 5 = .ok (.istore 4, 2) := by decide +kernel
theorem dX6_commonDivisor_7 : decode cX6_commonDivisor 7 = .ok (.iload 4, 2) := by decide +kernel
theorem dX6_commonDivisor_9 : decode cX6_commonDivisor 9 = .ok (.bipush 32, 2) := by decide +kernel
theorem dX6_commonDivisor_11 : decode cX6_commonDivisor 11 = .ok (.if_icmp .ge 23, 3) := by decide +kernel
theorem dX6_commonDivisor_14 : decode cX6_commonDivisor 14 = .ok (.iload_n 3, 1) := by decide +kernel
theorem dX6_commonDivisor_15 : decode cX6_commonDivisor 15 = .ok (.ifCond .le 19, 3) := by decide +kernel
theorem dX6_commonDivisor_18 : decode cX6_commonDivisor 18 = .ok (.iload_n 2, 1) := by decide +kernel
theorem dX6_commonDivisor_19 : decode cX6_commonDivisor 19 = .ok (.iload_n 3, 1) := by decide +kernel
theorem dX6_commonDivisor_20 : decode cX6_commonDivisor 20 = .ok (.irem, 1) := by decide +kernel
theorem dX6_commonDivisor_21 : decode cX6_commonDivisor 21 = .ok (.istore 5, 2) := by decide +kernel
theorem dX6_commonDivisor_23 : decode cX6_commonDivisor 23 = .ok (.iload_n 3, 1) := by decide +kernel
theorem dX6_commonDivisor_24 : decode cX6_commonDivisor 24 = .ok (.istore_n 2, 1) := by decide +kernel
theorem dX6_commonDivisor_25 : decode cX6_commonDivisor 25 = .ok (.iload 5, 2) := by decide +kernel
theorem dX6_commonDivisor_27 : decode cX6_commonDivisor 27 = .ok (.istore_n 3, 1) := by decide +kernel
theorem dX6_commonDivisor_28 : decode cX6_commonDivisor 28 = .ok (.iinc 4 1, 3) := by decide +kernel
theorem dX6_commonDivisor_31 : decode cX6_commonDivisor 31 = .ok (.goto (-24), 3) := by decide +kernel
theorem dX6_commonDivisor_34 : decode cX6_commonDivisor 34 = .ok (.iload_n 2, 1) := by decide +kernel
theorem dX6_commonDivisor_35 : decode cX6_commonDivisor 35 = .ok (.ireturn, 1) := by decide +kernel
theorem l_X6_cd {d : List Nat} {T : vT} {M : vM} {D : Nat} {a b : Int} : ∀ y : Nat, ∀ (x i : Nat) (x5 : Option vA), i + y ≤ 31 → x ≤ 100 → y ≤ 100 → Nat.gcd x y = D → vV m_X6_commonDivisor d d (vPi fun r T1 M1 => r = (D : Int) ∧ T = T1 ∧ M = M1) 7 [some (vI a), some (vI b), some (vI x), some (vI y), some (vI i), x5] [] d T M := by
  intro y
  induction y using Nat.strongRecOn with
  | ind y ih =>
    intro x i x5 hi hx hy hD
    have hdiv : x / y ≤ x := Nat.div_le_self x y
    obtain ⟨q, hq⟩ : ∃ q : Nat, x / y = q := ⟨_, rfl⟩
    rw [hq] at hdiv
    refine vV.iload dX6_commonDivisor_7 rfl ?_
    refine vV.bipush (v := 32) dX6_commonDivisor_9 (by decide) (by decide) ?_
    refine vV.icmp_ge (tgt := 34) dX6_commonDivisor_11 (by decide) (fun h11 => ?_) (fun h11 => ?_)
    · skip
      omega
    · skip
      refine vV.iload_n dX6_commonDivisor_14 rfl ?_
      refine vV.if_le (tgt := 34) dX6_commonDivisor_15 (by decide) (fun h15 => ?_) (fun h15 => ?_)
      · skip
        refine vV.iload_n dX6_commonDivisor_34 rfl ?_
        refine vV.ri dX6_commonDivisor_35 rfl ?_
        have hy0 : y = 0 := by omega
        subst hy0
        rw [Nat.gcd_zero_right] at hD
        subst hD
        exact ⟨rfl, rfl, rfl⟩
      · skip
        have hlt : x % y < y := Nat.mod_lt x (by omega)
        refine vV.iload_n dX6_commonDivisor_18 rfl ?_
        refine vV.iload_n dX6_commonDivisor_19 rfl ?_
        refine vV.irem dX6_commonDivisor_20 (by omega) (by rw [td_nat, hq]; exact ⟨by omega, by omega⟩) ?_
        rw [tm_nat]
        refine vV.istore (L' := [_, _, _, _, _, _]) dX6_commonDivisor_21 (by decide) rfl ?_
        refine vV.iload_n dX6_commonDivisor_23 rfl ?_
        refine vV.istore_n (L' := [_, _, _, _, _, _]) dX6_commonDivisor_24 (by decide) rfl ?_
        refine vV.iload dX6_commonDivisor_25 rfl ?_
        refine vV.istore_n (L' := [_, _, _, _, _, _]) dX6_commonDivisor_27 (by decide) rfl ?_
        refine vV.iinc (L' := [_, _, _, _, _, _]) dX6_commonDivisor_28 (by decide) rfl (⟨by omega, by omega⟩) rfl ?_
        refine vV.goto (tgt := 7) dX6_commonDivisor_31 (by decide) ?_
        exact ih (x % y) hlt y (i + 1) _ (by omega) (by omega) (by omega) ((gcd_st x y).trans hD)
theorem c_X6_commonDivisor {d : List Nat} {T : vT} {M : vM} {x y : Nat} (hx : x ≤ 100) (hy : y ≤ 20) : vCon m_X6_commonDivisor d d [vI x, vI y] T M (vPi fun r T1 M1 => r = (Nat.gcd x y : Nat) ∧ T = T1 ∧ M = M1) := by
  refine vCon.of (by decide) rfl rfl (Nat.le_of_ble_eq_true rfl) ?_
  have h := fun x5 => l_X6_cd (d := d) (T := T) (M := M) (D := Nat.gcd x y) (a := x) (b := y) y x 0 x5 (by omega) hx (by omega) rfl
  refine vV.iload_n dX6_commonDivisor_0 rfl ?_
  refine vV.istore_n (L' := [_, _, _, _, _, _]) dX6_commonDivisor_1 (by decide) rfl ?_
  refine vV.iload_n dX6_commonDivisor_2 rfl ?_
  refine vV.istore_n (L' := [_, _, _, _, _, _]) dX6_commonDivisor_3 (by decide) rfl ?_
  refine vV.iconst dX6_commonDivisor_4 (by decide) ?_
  refine vV.istore (L' := [_, _, _, _, _, _]) dX6_commonDivisor_5 (by decide) rfl ?_
  exact h _
/-- how much falls in a tick -/
def pFl (fa tu : Int → Int) : Nat → Nat
  | 0 => 0
  | n + 1 => pFl fa tu n + if 0 < tu n then (fa n).toNat else 0
theorem pFl_le {fa tu : Int → Int} (h : ∀ j : Nat, 0 ≤ fa j ∧ fa j ≤ 3) : ∀ n, pFl fa tu n ≤ 3 * n
  | 0 => Nat.le_refl 0
  | n + 1 => by have := pFl_le (tu := tu) h n; have := h n; unfold pFl; split <;> omega
theorem pFl_y {fa tu : Int → Int} {n : Nat} (h : 0 < tu n) (hf : 0 ≤ fa n) : ((pFl fa tu (n + 1) : Nat) : Int) = (pFl fa tu n : Int) + fa n := by
  show ((pFl fa tu n + if 0 < tu n then (fa n).toNat else 0 : Nat) : Int) = _
  rw [if_pos h]; omega
theorem pFl_n {fa tu : Int → Int} {n : Nat} (h : ¬ 0 < tu n) : pFl fa tu (n + 1) = pFl fa tu n := by
  show (pFl fa tu n + if 0 < tu n then (fa n).toNat else 0) = _
  rw [if_neg h]; omega
def pLoadR (u g : Nat) (w : Int) : Int := if ¬ (0 ≤ w ∧ w ≤ 1) then -2 else if u = 0 then w else if w = 0 then ((u / Nat.gcd u g : Nat) : Int) else ((g / Nat.gcd u g : Nat) : Int)
theorem dX6_load_0 : decode cX6_load 0 = .ok (.iload_n 1, 1) := by decide +kernel
theorem dX6_load_1 : decode cX6_load 1 = .ok (.iconst 0, 1) := by decide +kernel
theorem dX6_load_2 : decode cX6_load 2 = .ok (.iconst 1, 1) := by decide +kernel
theorem dX6_load_3 : decode cX6_load 3 = .ok (.invokestatic 58, 3) := by decide +kernel
theorem dX6_load_6 : decode cX6_load 6 = .ok (.ifCond .ne 6, 3) := by decide +kernel
theorem dX6_load_9 : decode cX6_load 9 = .ok (.bipush (-2), 2) := by decide +kernel
theorem dX6_load_11 : decode cX6_load 11 = .ok (.ireturn, 1) := by decide +kernel
theorem dX6_load_12 : decode cX6_load 12 = .ok (.iconst 0, 1) := by decide +kernel
theorem dX6_load_13 : decode cX6_load 13 = .ok (.istore_n 2, 1) := by decide +kernel
theorem dX6_load_14 : decode cX6_load 14 = .ok (.iconst 0, 1) := by decide +kernel
theorem dX6_load_15 : decode cX6_load 15 = .ok (.istore_n 3, 1) := by decide +kernel
theorem dX6_load_16 : decode cX6_load 16 = .ok (.iload_n 3, 1) := by decide +kernel
theorem dX6_load_17 : decode cX6_load 17 = .ok (.aload_n 0, 1) := by decide +kernel
theorem dX6_load_18 : decode cX6_load 18 = .ok (.getfield 10, 3) := by decide +kernel
theorem dX6_load_21 : decode cX6_load 21 = .ok (.getfield 66, 3) := by decide +kernel
theorem dX6_load_24 : decode cX6_load 24 = .ok (.if_icmp .ge 33, 3) := by decide +kernel
theorem dX6_load_27 : decode cX6_load 27 = .ok (.aload_n 0, 1) := by decide +kernel
theorem dX6_load_28 : decode cX6_load 28 = .ok (.getfield 10, 3) := by decide +kernel
theorem dX6_load_31 : decode cX6_load 31 = .ok (.getfield 82, 3) := by decide +kernel
theorem dX6_load_34 : decode cX6_load 34 = .ok (.iload_n 3, 1) := by decide +kernel
theorem dX6_load_35 : decode cX6_load 35 = .ok (.iaload, 1) := by decide +kernel
theorem dX6_load_36 : decode cX6_load 36 = .ok (.ifCond .le 15, 3) := by decide +kernel
theorem dX6_load_39 : decode cX6_load 39 = .ok (.iload_n 2, 1) := by decide +kernel
theorem dX6_load_40 : decode cX6_load 40 = .ok (.aload_n 0, 1) := by decide +kernel
theorem dX6_load_41 : decode cX6_load 41 = .ok (.getfield 10, 3) := by decide +kernel
theorem dX6_load_44 : decode cX6_load 44 = .ok (.getfield 97, 3) := by decide +kernel
theorem dX6_load_47 : decode cX6_load 47 = .ok (.iload_n 3, 1) := by decide +kernel
theorem dX6_load_48 : decode cX6_load 48 = .ok (.iaload, 1) := by decide +kernel
theorem dX6_load_49 : decode cX6_load 49 = .ok (.iadd, 1) := by decide +kernel
theorem dX6_load_50 : decode cX6_load 50 = .ok (.istore_n 2, 1) := by decide +kernel
theorem dX6_load_51 : decode cX6_load 51 = .ok (.iinc 3 1, 3) := by decide +kernel
theorem dX6_load_54 : decode cX6_load 54 = .ok (.goto (-38), 3) := by decide +kernel
theorem dX6_load_57 : decode cX6_load 57 = .ok (.aload_n 0, 1) := by decide +kernel
theorem dX6_load_58 : decode cX6_load 58 = .ok (.getfield 10, 3) := by decide +kernel
theorem dX6_load_61 : decode cX6_load 61 = .ok (.getfield 91, 3) := by decide +kernel
theorem dX6_load_64 : decode cX6_load 64 = .ok (.iconst 1, 1) := by decide +kernel
theorem dX6_load_65 : decode cX6_load 65 = .ok (.iaload, 1) := by decide +kernel
theorem dX6_load_66 : decode cX6_load 66 = .ok (.istore_n 3, 1) := by decide +kernel
theorem dX6_load_67 : decode cX6_load 67 = .ok (.iload_n 2, 1) := by decide +kernel
theorem dX6_load_68 : decode cX6_load 68 = .ok (.iload_n 3, 1) := by decide +kernel
theorem dX6_load_69 : decode cX6_load 69 = .ok (.invokestatic 197, 3) := by decide +kernel
theorem dX6_load_72 : decode cX6_load 72 = .ok (.istore 4, 2) := by decide +kernel
theorem dX6_load_74 : decode cX6_load 74 = .ok (.iload 4, 2) := by decide +kernel
theorem dX6_load_76 : decode cX6_load 76 = .ok (.iconst 1, 1) := by decide +kernel
theorem dX6_load_77 : decode cX6_load 77 = .ok (.if_icmp .ge 5, 3) := by decide +kernel
theorem dX6_load_80 : decode cX6_load 80 = .ok (.iload_n 1, 1) := by decide +kernel
theorem dX6_load_81 : decode cX6_load 81 = .ok (.ireturn, 1) := by decide +kernel
theorem dX6_load_82 : decode cX6_load 82 = .ok (.iload_n 1, 1) := by decide +kernel
theorem dX6_load_83 : decode cX6_load 83 = .ok (.ifCond .ne 7, 3) := by decide +kernel
theorem dX6_load_86 : decode cX6_load 86 = .ok (.iload_n 2, 1) := by decide +kernel
theorem dX6_load_87 : decode cX6_load 87 = .ok (.goto 4, 3) := by decide +kernel
theorem dX6_load_90 : decode cX6_load 90 = .ok (.iload_n 3, 1) := by decide +kernel
theorem dX6_load_91 : decode cX6_load 91 = .ok (.iload 4, 2) := by decide +kernel
theorem dX6_load_93 : decode cX6_load 93 = .ok (.idiv, 1) := by decide +kernel
theorem dX6_load_94 : decode cX6_load 94 = .ok (.ireturn, 1) := by decide +kernel
theorem l_X6_load {d : List Nat} {T : vT} {M : vM} {n : Nat} {w : Int} (hB : vB T) (hW : sgW M 10 n) (hw : 0 ≤ w ∧ w ≤ 1) (hfa3 : ∀ j : Nat, 0 ≤ M 13 j ∧ M 13 j ≤ 3) (hg6 : 1 ≤ M 15 1 ∧ M 15 1 ≤ 6) : ∀ p, p ≤ n →
    vV m_X6_load d d (vPi fun r T1 M1 => r = pLoadR (pFl (M 13) (M 14) n) (M 15 1).toNat w ∧ T = T1 ∧ M = M1) 16 [some (vR 0), some (vI w), some (vI (pFl (M 13) (M 14) p : Nat)), some (vI p), none] [] d T M := by
  have hn := hW.le
  have hc : M 10 0 = n := hW.cnt
  refine vUp ?_
  intro p hp ih
  have h3 := pFl_le (tu := M 14) hfa3 p
  have h4 := hfa3 p
  refine vV.iload_n dX6_load_16 rfl ?_
  refine vV.aload_n dX6_load_17 rfl ?_
  refine vV.getr dX6_load_18 fl_X6_10 (by first | rfl | assumption) rfl (by first | assumption | exact hB _ _ _ rfl) ?_
  refine vV.geti (z := 0) dX6_load_21 fl_X6_66 (by first | rfl | assumption) rfl rfl ?_
  refine vV.icmp_ge (tgt := 57) dX6_load_24 (by decide) (fun h24 => ?_) (fun h24 => ?_)
  · skip
    have hpn : p = n := by omega
    subst hpn
    have hle := pFl_le (tu := M 14) hfa3 p
    obtain ⟨u, hu⟩ : ∃ u, u = pFl (M 13) (M 14) p := ⟨_, rfl⟩
    rw [← hu] at hle ⊢
    obtain ⟨g, hg⟩ : ∃ g : Nat, M 15 1 = g := ⟨(M 15 1).toNat, by omega⟩
    have hgt : (M 15 1).toNat = g := by omega
    rw [hgt]
    have hgp : 0 < Nat.gcd u g := Nat.gcd_pos_of_pos_right u (by omega)
    have hd1 : u / Nat.gcd u g ≤ u := Nat.div_le_self _ _
    have hd2 : g / Nat.gcd u g ≤ g := Nat.div_le_self _ _
    obtain ⟨q1, hq1⟩ : ∃ q1 : Nat, u / Nat.gcd u g = q1 := ⟨_, rfl⟩
    obtain ⟨q2, hq2⟩ : ∃ q2 : Nat, g / Nat.gcd u g = q2 := ⟨_, rfl⟩
    rw [hq1] at hd1
    rw [hq2] at hd2
    refine vV.aload_n dX6_load_57 rfl ?_
    refine vV.getr dX6_load_58 fl_X6_10 (by first | rfl | assumption) rfl (by first | assumption | exact hB _ _ _ rfl) ?_
    refine vV.getr dX6_load_61 fl_X6_91 (by first | rfl | assumption) rfl (by first | assumption | exact hB _ _ _ rfl) ?_
    refine vV.iconst dX6_load_64 (by decide) ?_
    refine vV.iald dX6_load_65 (by first | rfl | assumption) (by omega) (by omega) ?_
    rw [hg]
    refine vV.istore_n (L' := [_, _, _, _, _]) dX6_load_66 (by decide) rfl ?_
    refine vV.iload_n dX6_load_67 rfl ?_
    refine vV.iload_n dX6_load_68 rfl ?_
    refine vV.cSi dX6_load_69 ml_X6_197 cw_X6_commonDivisor sw_X6_commonDivisor (by unfold vRoom; decide) (c_X6_commonDivisor (x := u) (y := g) (by omega) (by omega)) rfl rfl (Nat.le_of_ble_eq_true rfl) ?_
    rintro x69 _ _ hx69 ⟨rfl, rfl, rfl⟩
    refine vV.istore (L' := [_, _, _, _, _]) dX6_load_72 (by decide) rfl ?_
    refine vV.iload dX6_load_74 rfl ?_
    refine vV.iconst dX6_load_76 (by decide) ?_
    refine vV.icmp_ge (tgt := 82) dX6_load_77 (by decide) (fun h77 => ?_) (fun h77 => ?_)
    · skip
      refine vV.iload_n dX6_load_82 rfl ?_
      refine vV.if_ne (tgt := 90) dX6_load_83 (by decide) (fun h83 => ?_) (fun h83 => ?_)
      · skip
        refine vV.iload_n dX6_load_90 rfl ?_
        refine vV.iload dX6_load_91 rfl ?_
        refine vV.idiv dX6_load_93 (by omega) (by rw [td_nat]; (first | rw [hq1] | rw [hq2]); exact ⟨by omega, by omega⟩) ?_
        rw [td_nat]
        refine vV.ri dX6_load_94 rfl ?_
        refine ⟨?_, rfl, rfl⟩
        unfold pLoadR
        rw [if_neg (fun c => c hw)]
        by_cases hu0 : u = 0
        · subst hu0
          rw [if_pos rfl]
          first | (rw [h83]; simp; done) | (rw [Nat.gcd_zero_left, Nat.div_self (by omega)]; omega)
        · rw [if_neg hu0]
          first | rw [if_pos h83] | rw [if_neg h83]
      · skip
        refine vV.iload_n dX6_load_86 rfl ?_
        refine vV.goto (tgt := 91) dX6_load_87 (by decide) ?_
        refine vV.iload dX6_load_91 rfl ?_
        refine vV.idiv dX6_load_93 (by omega) (by rw [td_nat]; (first | rw [hq1] | rw [hq2]); exact ⟨by omega, by omega⟩) ?_
        rw [td_nat]
        refine vV.ri dX6_load_94 rfl ?_
        refine ⟨?_, rfl, rfl⟩
        unfold pLoadR
        rw [if_neg (fun c => c hw)]
        by_cases hu0 : u = 0
        · subst hu0
          rw [if_pos rfl]
          first | (rw [h83]; simp; done) | (rw [Nat.gcd_zero_left, Nat.div_self (by omega)]; omega)
        · rw [if_neg hu0]
          first | rw [if_pos h83] | rw [if_neg h83]
    · skip
      omega
  · skip
    refine vV.aload_n dX6_load_27 rfl ?_
    refine vV.getr dX6_load_28 fl_X6_10 (by first | rfl | assumption) rfl (by first | assumption | exact hB _ _ _ rfl) ?_
    refine vV.getr dX6_load_31 fl_X6_82 (by first | rfl | assumption) rfl (by first | assumption | exact hB _ _ _ rfl) ?_
    refine vV.iload_n dX6_load_34 rfl ?_
    refine vV.iald dX6_load_35 (by first | rfl | assumption) (by omega) (by omega) ?_
    refine vV.if_le (tgt := 51) dX6_load_36 (by decide) (fun h36 => ?_) (fun h36 => ?_)
    · skip
      rw [pFl_n (by omega)] at ih
      refine vV.iinc (L' := [_, _, _, _, _]) dX6_load_51 (by decide) rfl (⟨by omega, by omega⟩) rfl ?_
      refine vV.goto (tgt := 16) dX6_load_54 (by decide) ?_
      exact ih (by omega)
    · skip
      rw [pFl_y (by omega) h4.1] at ih
      refine vV.iload_n dX6_load_39 rfl ?_
      refine vV.aload_n dX6_load_40 rfl ?_
      refine vV.getr dX6_load_41 fl_X6_10 (by first | rfl | assumption) rfl (by first | assumption | exact hB _ _ _ rfl) ?_
      refine vV.getr dX6_load_44 fl_X6_97 (by first | rfl | assumption) rfl (by first | assumption | exact hB _ _ _ rfl) ?_
      refine vV.iload_n dX6_load_47 rfl ?_
      refine vV.iald dX6_load_48 (by first | rfl | assumption) (by omega) (by omega) ?_
      refine vV.iadd dX6_load_49 (⟨by omega, by omega⟩) ?_
      refine vV.istore_n (L' := [_, _, _, _, _]) dX6_load_50 (by decide) rfl ?_
      refine vV.iinc (L' := [_, _, _, _, _]) dX6_load_51 (by decide) rfl (⟨by omega, by omega⟩) rfl ?_
      refine vV.goto (tgt := 16) dX6_load_54 (by decide) ?_
      exact ih (by omega)
theorem c_X6_load {d : List Nat} {T : vT} {M : vM} {n : Nat} {w : Int} (hB : vB T) (hW : sgW M 10 n) (hfa3 : ∀ j : Nat, 0 ≤ M 13 j ∧ M 13 j ≤ 3) (hg6 : 1 ≤ M 15 1 ∧ M 15 1 ≤ 6) : vCon m_X6_load d d [vR 0, vI w] T M (vPi fun r T1 M1 => r = pLoadR (pFl (M 13) (M 14) n) (M 15 1).toNat w ∧ T = T1 ∧ M = M1) := by
  refine vCon.of (by decide) rfl rfl (Nat.le_of_ble_eq_true rfl) ?_
  refine vV.iload_n dX6_load_0 rfl ?_
  refine vV.iconst dX6_load_1 (by decide) ?_
  refine vV.iconst dX6_load_2 (by decide) ?_
  refine vV.cSi dX6_load_3 ml_X6_58 cw_X6_within sw_X6_within (by unfold vRoom; decide) c_X6_within rfl rfl (Nat.le_of_ble_eq_true rfl) ?_
  rintro x3 _ _ hx3 ⟨hy3, rfl, rfl⟩
  refine vV.if_ne (tgt := 12) dX6_load_6 (by decide) (fun h6 => ?_) (fun h6 => ?_)
  · skip
    have hw := yes01 hy3 h6
    refine vV.iconst dX6_load_12 (by decide) ?_
    refine vV.istore_n (L' := [_, _, _, _, _]) dX6_load_13 (by decide) rfl ?_
    refine vV.iconst dX6_load_14 (by decide) ?_
    refine vV.istore_n (L' := [_, _, _, _, _]) dX6_load_15 (by decide) rfl ?_
    exact l_X6_load hB hW hw hfa3 hg6 0 (by omega)
  · skip
    have e2 : pLoadR (pFl (M 13) (M 14) n) (M 15 1).toNat w = -2 := if_pos (no01 hy3 h6)
    refine vV.bipush (v := (-2)) dX6_load_9 (by decide) (by decide) ?_
    refine vV.ri dX6_load_11 rfl ?_
    exact ⟨e2.symm, rfl, rfl⟩
