/-! ===== own: the class's walker: alike, goUntilItComesAgain ===== -/
theorem dX5_alike_0 : decode cX5_alike 0 = .ok (.aload_n 0, 1) := by decide +kernel
theorem dX5_alike_1 : decode cX5_alike 1 = .ok (.getfield 22, 3) := by decide +kernel
theorem dX5_alike_4 : decode cX5_alike 4 = .ok (.iload_n 1, 1) := by decide +kernel
theorem dX5_alike_5 : decode cX5_alike 5 = .ok (.iaload, 1) := by decide +kernel
theorem dX5_alike_6 : decode cX5_alike 6 = .ok (.aload_n 0, 1) := by decide +kernel
theorem dX5_alike_7 : decode cX5_alike 7 = .ok (.getfield 22, 3) := by decide +kernel
theorem dX5_alike_10 : decode cX5_alike 10 = .ok (.iload_n 2, 1) := by decide +kernel
theorem dX5_alike_11 : decode cX5_alike 11 = .ok (.iaload, 1) := by decide +kernel
theorem dX5_alike_12 : decode cX5_alike 12 = .ok (.if_icmp .eq 5, 3) := by decide +kernel
theorem dX5_alike_15 : decode cX5_alike 15 = .ok (.iconst 0, 1) := by decide +kernel
theorem dX5_alike_16 : decode cX5_alike 16 = .ok (.ireturn, 1) := by decide +kernel
theorem dX5_alike_17 : decode cX5_alike 17 = .ok (.iconst 0, 1) := by decide +kernel
theorem dX5_alike_18 : decode cX5_alike 18 = .ok (.istore_n 3, 1) := by decide +kernel
theorem dX5_alike_19 : decode cX5_alike 19 = .ok (.iload_n 3, 1) := by decide +kernel
theorem dX5_alike_20 : decode cX5_alike 20 = .ok (.aload_n 0, 1) := by decide +kernel
theorem dX5_alike_21 : decode cX5_alike 21 = .ok (.getfield 12, 3) := by decide +kernel
theorem dX5_alike_24 : decode cX5_alike 24 = .ok (.getfield 52, 3) := by decide +kernel
theorem dX5_alike_27 : decode cX5_alike 27 = .ok (.iconst 3, 1) := by decide +kernel
theorem dX5_alike_28 : decode cX5_alike 28 = .ok (.iaload, 1) := by decide +kernel
theorem dX5_alike_29 : decode cX5_alike 29 = .ok (.if_icmp .gt 36, 3) := by decide +kernel
theorem dX5_alike_32 : decode cX5_alike 32 = .ok (.aload_n 0, 1) := by decide +kernel
theorem dX5_alike_33 : decode cX5_alike 33 = .ok (.getfield 18, 3) := by decide +kernel
theorem dX5_alike_36 : decode cX5_alike 36 = .ok (.iload_n 1, 1) := by decide +kernel
theorem dX5_alike_37 : decode cX5_alike 37 = .ok (.iload_n 3, 1) := by decide +kernel
theorem dX5_alike_38 : decode cX5_alike 38 = .ok (.isub, 1) := by decide +kernel
theorem dX5_alike_39 : decode cX5_alike 39 = .ok (.invokestatic 75, 3) := by decide +kernel
theorem dX5_alike_42 : decode cX5_alike 42 = .ok (.iaload, 1) := by decide +kernel
theorem dX5_alike_43 : decode cX5_alike 43 = .ok (.aload_n 0, 1) := by decide +kernel
theorem dX5_alike_44 : decode cX5_alike 44 = .ok (.getfield 18, 3) := by decide +kernel
theorem dX5_alike_47 : decode cX5_alike 47 = .ok (.iload_n 2, 1) := by decide +kernel
theorem dX5_alike_48 : decode cX5_alike 48 = .ok (.iload_n 3, 1) := by decide +kernel
theorem dX5_alike_49 : decode cX5_alike 49 = .ok (.isub, 1) := by decide +kernel
theorem dX5_alike_50 : decode cX5_alike 50 = .ok (.invokestatic 75, 3) := by decide +kernel
theorem dX5_alike_53 : decode cX5_alike 53 = .ok (.iaload, 1) := by decide +kernel
theorem dX5_alike_54 : decode cX5_alike 54 = .ok (.if_icmp .eq 5, 3) := by decide +kernel
theorem dX5_alike_57 : decode cX5_alike 57 = .ok (.iconst 0, 1) := by decide +kernel
theorem dX5_alike_58 : decode cX5_alike 58 = .ok (.ireturn, 1) := by decide +kernel
theorem dX5_alike_59 : decode cX5_alike 59 = .ok (.iinc 3 1, 3) := by decide +kernel
theorem dX5_alike_62 : decode cX5_alike 62 = .ok (.goto (-43), 3) := by decide +kernel
theorem dX5_alike_65 : decode cX5_alike 65 = .ok (.iconst 1, 1) := by decide +kernel
theorem dX5_alike_66 : decode cX5_alike 66 = .ok (.ireturn, 1) := by decide +kernel
def pWa (rule : Int) (P : pP) (lag : Nat) (s0 : pS) (a b : Nat) : Bool := decide (pLS (pTr rule P lag s0 a) = pLS (pTr rule P lag s0 b)) && pAll rule P lag s0 a b (lag + 1)
theorem lg_nat {a k t : Nat} (h : a ≤ 600) : (if (a : Int) - k < 0 then (0 : Int) else if 600 < (a : Int) - k then 600 else (a : Int) - k) = ((a - k : Nat) : Int) := by
  split
  · omega
  · split <;> omega
theorem l_X5_alike {d : List Nat} {T : vT} {M : vM} {rule : Int} {P : pP} {lag a b t : Nat} {s0 : pS} (hB : vB T) (hj : wTj M rule P lag s0 t) (ht : t ≤ 600) (ha : a ≤ t) (hb : b ≤ t) : ∀ k, k ≤ lag + 1 → pAll rule P lag s0 a b k = true →
    vV m_X5_alike d d (vPi fun r T1 M1 => r = bI (pAll rule P lag s0 a b (lag + 1)) ∧ T = T1 ∧ M = M1) 19 [some (vR 70), some (vI a), some (vI b), some (vI k)] [] d T M := by
  have hlag := hj.2.1
  have hl3 := hj.lag3
  refine vUp ?_
  intro k hk ih hal
  have hL1 := hj.log (i := a - k) (by omega)
  have hL2 := hj.log (i := b - k) (by omega)
  have hnx : pAll rule P lag s0 a b (k + 1) = decide (M 76 ((a - k : Nat) : Int) = M 76 ((b - k : Nat) : Int)) := by
    rw [show pAll rule P lag s0 a b (k + 1) = (pAll rule P lag s0 a b k && decide (pPack (pTr rule P lag s0 (a - k)).2.1 P.1 = pPack (pTr rule P lag s0 (b - k)).2.1 P.1)) from rfl, hal, hL1, hL2, Bool.true_and]
  refine vV.iload_n dX5_alike_19 rfl ?_
  refine vV.aload_n dX5_alike_20 rfl ?_
  refine vV.getr dX5_alike_21 fl_X5_12 (by first | rfl | assumption) rfl (by first | assumption | exact hB _ _ _ rfl) ?_
  refine vV.getr dX5_alike_24 fl_X5_52 (by first | rfl | assumption) rfl (by first | assumption | exact hB _ _ _ rfl) ?_
  refine vV.iconst dX5_alike_27 (by decide) ?_
  refine vV.iald dX5_alike_28 (by first | rfl | assumption) (by omega) (by omega) ?_
  refine vV.icmp_gt (tgt := 65) dX5_alike_29 (by decide) (fun h29 => ?_) (fun h29 => ?_)
  · skip
    refine vV.iconst dX5_alike_65 (by decide) ?_
    refine vV.rz dX5_alike_66 rfl (by first | exact Or.inl rfl | exact Or.inr rfl | assumption) ?_
    refine ⟨?_, rfl, rfl⟩; rw [show lag + 1 = k by omega, hal]; rfl
  · skip
    refine vV.aload_n dX5_alike_32 rfl ?_
    refine vV.getr dX5_alike_33 fl_X5_18 (by first | rfl | assumption) rfl (by first | assumption | exact hB _ _ _ rfl) ?_
    refine vV.iload_n dX5_alike_36 rfl ?_
    refine vV.iload_n dX5_alike_37 rfl ?_
    refine vV.isub dX5_alike_38 (⟨by omega, by omega⟩) ?_
    refine vV.cSi dX5_alike_39 ml_X5_75 cw_X5_logged sw_X5_logged (by unfold vRoom; decide) c_X5_logged rfl rfl (Nat.le_of_ble_eq_true rfl) ?_
    rintro x39 _ _ hx39 ⟨hxa, rfl, rfl⟩
    rw [lg_nat (t := t) (by omega)] at hxa
    subst hxa
    refine vV.iald dX5_alike_42 (by first | rfl | assumption) (by omega) (by omega) ?_
    refine vV.aload_n dX5_alike_43 rfl ?_
    refine vV.getr dX5_alike_44 fl_X5_18 (by first | rfl | assumption) rfl (by first | assumption | exact hB _ _ _ rfl) ?_
    refine vV.iload_n dX5_alike_47 rfl ?_
    refine vV.iload_n dX5_alike_48 rfl ?_
    refine vV.isub dX5_alike_49 (⟨by omega, by omega⟩) ?_
    refine vV.cSi dX5_alike_50 ml_X5_75 cw_X5_logged sw_X5_logged (by unfold vRoom; decide) c_X5_logged rfl rfl (Nat.le_of_ble_eq_true rfl) ?_
    rintro x50 _ _ hx50 ⟨hxb, rfl, rfl⟩
    rw [lg_nat (t := t) (by omega)] at hxb
    subst hxb
    refine vV.iald dX5_alike_53 (by first | rfl | assumption) (by omega) (by omega) ?_
    refine vV.icmp_eq (tgt := 59) dX5_alike_54 (by decide) (fun h54 => ?_) (fun h54 => ?_)
    · skip
      refine vV.iinc (L' := [_, _, _, _]) dX5_alike_59 (by decide) rfl (⟨by omega, by omega⟩) rfl ?_
      refine vV.goto (tgt := 19) dX5_alike_62 (by decide) ?_
      exact ih (by omega) (by rw [hnx]; simpa using h54)
    · skip
      refine vV.iconst dX5_alike_57 (by decide) ?_
      refine vV.rz dX5_alike_58 rfl (by first | exact Or.inl rfl | exact Or.inr rfl | assumption) ?_
      refine ⟨?_, rfl, rfl⟩; rw [pAll_mono (k := k + 1) (by omega) (by rw [hnx]; simpa using h54)]; rfl
theorem c_X5_alike {d : List Nat} {T : vT} {M : vM} {rule : Int} {P : pP} {lag a b t : Nat} {s0 : pS} (hB : vB T) (hj : wTj M rule P lag s0 t) (ht : t ≤ 600) (ha : a ≤ t) (hb : b ≤ t) : vCon m_X5_alike d d [vR 70, vI a, vI b] T M (vPi fun r T1 M1 => r = bI (pWa rule P lag s0 a b) ∧ T = T1 ∧ M = M1) := by
  have h1 := hj.2.2.2 a ha
  have h2 := hj.2.2.2 b hb
  unfold pWa
  rw [← h1, ← h2]
  have h := l_X5_alike (d := d) hB hj ht ha hb 0 (by omega) rfl
  refine vCon.of (by decide) rfl rfl (Nat.le_of_ble_eq_true rfl) ?_
  refine vV.aload_n dX5_alike_0 rfl ?_
  refine vV.getr dX5_alike_1 fl_X5_22 (by first | rfl | assumption) rfl (by first | assumption | exact hB _ _ _ rfl) ?_
  refine vV.iload_n dX5_alike_4 rfl ?_
  refine vV.iald dX5_alike_5 (by first | rfl | assumption) (by omega) (by omega) ?_
  refine vV.aload_n dX5_alike_6 rfl ?_
  refine vV.getr dX5_alike_7 fl_X5_22 (by first | rfl | assumption) rfl (by first | assumption | exact hB _ _ _ rfl) ?_
  refine vV.iload_n dX5_alike_10 rfl ?_
  refine vV.iald dX5_alike_11 (by first | rfl | assumption) (by omega) (by omega) ?_
  refine vV.icmp_eq (tgt := 17) dX5_alike_12 (by decide) (fun h12 => ?_) (fun h12 => ?_)
  · skip
    refine vV.iconst dX5_alike_17 (by decide) ?_
    refine vV.istore_n (L' := [_, _, _, _]) dX5_alike_18 (by decide) rfl ?_
    rw [show decide (M 77 a = M 77 b) = true by simpa using h12, Bool.true_and]; exact h
  · skip
    refine vV.iconst dX5_alike_15 (by decide) ?_
    refine vV.rz dX5_alike_16 rfl (by first | exact Or.inl rfl | exact Or.inr rfl | assumption) ?_
    refine ⟨?_, rfl, rfl⟩; rw [show decide (M 77 a = M 77 b) = false by simpa using h12]; rfl
theorem dX5_goUntilItComesAgain_0 : decode cX5_goUntilItComesAgain 0 = .ok (.aload_n 0, 1) := by decide +kernel
theorem dX5_goUntilItComesAgain_1 : decode cX5_goUntilItComesAgain 1 = .ok (.getfield 12, 3) := by decide +kernel
theorem dX5_goUntilItComesAgain_4 : decode cX5_goUntilItComesAgain 4 = .ok (.invokevirtual 105, 3) := by decide +kernel
theorem dX5_goUntilItComesAgain_7 : decode cX5_goUntilItComesAgain 7 = .ok (.istore_n 2, 1) := by decide +kernel
theorem dX5_goUntilItComesAgain_8 : decode cX5_goUntilItComesAgain 8 = .ok (.iconst 1, 1) := by decide +kernel
theorem dX5_goUntilItComesAgain_9 : decode cX5_goUntilItComesAgain 9 = .ok (.istore_n 3, 1) := by decide +kernel
theorem dX5_goUntilItComesAgain_10 : decode cX5_goUntilItComesAgain 10 = .ok (.iload_n 3, 1) := by decide +kernel
theorem dX5_goUntilItComesAgain_11 : decode cX5_goUntilItComesAgain 11 = .ok (.sipush 600, 3) := by decide +kernel
theorem dX5_goUntilItComesAgain_14 : decode cX5_goUntilItComesAgain 14 = .ok (.if_icmp .gt 59, 3) := by decide +kernel
theorem dX5_goUntilItComesAgain_17 : decode cX5_goUntilItComesAgain 17 = .ok (.aload_n 0, 1) := by decide +kernel
theorem dX5_goUntilItComesAgain_18 : decode cX5_goUntilItComesAgain 18 = .ok (.aload_n 0, 1) := by decide +kernel
theorem dX5_goUntilItComesAgain_19 : decode cX5_goUntilItComesAgain 19 = .ok (.iload_n 1, 1) := by decide +kernel
theorem dX5_goUntilItComesAgain_20 : decode cX5_goUntilItComesAgain 20 = .ok (.invokevirtual 108, 3) := by decide +kernel
theorem dX5_goUntilItComesAgain_23 : decode cX5_goUntilItComesAgain 23 = .ok (.invokevirtual 111, 3) := by decide +kernel
theorem dX5_goUntilItComesAgain_26 : decode cX5_goUntilItComesAgain 26 = .ok (.aload_n 0, 1) := by decide +kernel
theorem dX5_goUntilItComesAgain_27 : decode cX5_goUntilItComesAgain 27 = .ok (.getfield 12, 3) := by decide +kernel
theorem dX5_goUntilItComesAgain_30 : decode cX5_goUntilItComesAgain 30 = .ok (.invokevirtual 105, 3) := by decide +kernel
theorem dX5_goUntilItComesAgain_33 : decode cX5_goUntilItComesAgain 33 = .ok (.iload_n 2, 1) := by decide +kernel
theorem dX5_goUntilItComesAgain_34 : decode cX5_goUntilItComesAgain 34 = .ok (.if_icmp .eq 5, 3) := by decide +kernel
theorem dX5_goUntilItComesAgain_37 : decode cX5_goUntilItComesAgain 37 = .ok (.iconst (-1), 1) := by decide +kernel
theorem dX5_goUntilItComesAgain_38 : decode cX5_goUntilItComesAgain 38 = .ok (.ireturn, 1) := by decide +kernel
theorem dX5_goUntilItComesAgain_39 : decode cX5_goUntilItComesAgain 39 = .ok (.iconst 0, 1) := by decide +kernel
theorem dX5_goUntilItComesAgain_40 : decode cX5_goUntilItComesAgain 40 = .ok (.istore 4, 2) := by decide +kernel
theorem dX5_goUntilItComesAgain_42 : decode cX5_goUntilItComesAgain 42 = .ok (.iload 4, 2) := by decide +kernel
theorem dX5_goUntilItComesAgain_44 : decode cX5_goUntilItComesAgain 44 = .ok (.iload_n 3, 1) := by decide +kernel
theorem dX5_goUntilItComesAgain_45 : decode cX5_goUntilItComesAgain 45 = .ok (.if_icmp .ge 22, 3) := by decide +kernel
theorem dX5_goUntilItComesAgain_48 : decode cX5_goUntilItComesAgain 48 = .ok (.aload_n 0, 1) := by decide +kernel
theorem dX5_goUntilItComesAgain_49 : decode cX5_goUntilItComesAgain 49 = .ok (.iload 4, 2) := by decide +kernel
theorem dX5_goUntilItComesAgain_51 : decode cX5_goUntilItComesAgain 51 = .ok (.iload_n 3, 1) := by decide +kernel
theorem dX5_goUntilItComesAgain_52 : decode cX5_goUntilItComesAgain 52 = .ok (.invokevirtual 114, 3) := by decide +kernel
theorem dX5_goUntilItComesAgain_55 : decode cX5_goUntilItComesAgain 55 = .ok (.ifCond .eq 6, 3) := by decide +kernel
theorem dX5_goUntilItComesAgain_58 : decode cX5_goUntilItComesAgain 58 = .ok (.iload 4, 2) := by decide +kernel
theorem dX5_goUntilItComesAgain_60 : decode cX5_goUntilItComesAgain 60 = .ok (.ireturn, 1) := by decide +kernel
theorem dX5_goUntilItComesAgain_61 : decode cX5_goUntilItComesAgain 61 = .ok (.iinc 4 1, 3) := by decide +kernel
theorem dX5_goUntilItComesAgain_64 : decode cX5_goUntilItComesAgain 64 = .ok (.goto (-22), 3) := by decide +kernel
theorem dX5_goUntilItComesAgain_67 : decode cX5_goUntilItComesAgain 67 = .ok (.iinc 3 1, 3) := by decide +kernel
theorem dX5_goUntilItComesAgain_70 : decode cX5_goUntilItComesAgain 70 = .ok (.goto (-60), 3) := by decide +kernel
theorem dX5_goUntilItComesAgain_73 : decode cX5_goUntilItComesAgain 73 = .ok (.iconst (-1), 1) := by decide +kernel
theorem dX5_goUntilItComesAgain_74 : decode cX5_goUntilItComesAgain 74 = .ok (.ireturn, 1) := by decide +kernel
/-- the first tick that was as tick t -/
def pFe (rule : Int) (P : pP) (lag : Nat) (s0 : pS) (t : Nat) : Option Nat := pFind (fun e => pWa rule P lag s0 e t) t
def pGx (rule : Int) (P : pP) (lag : Nat) (s0 : pS) (t : Nat) : Bool := pFell rule P lag s0 t || (pFe rule P lag s0 (t + 1)).isSome
def pGr (rule : Int) (P : pP) (lag : Nat) (s0 : pS) : Option (Nat × Nat) := match pFind (pGx rule P lag s0) 600 with
  | none => none
  | some t => if pFell rule P lag s0 t then none else (pFe rule P lag s0 (t + 1)).map (fun e => (e, t + 1))
def pGq (r : Int) (M1 : vM) : Option (Nat × Nat) → Prop
  | none => r = -1
  | some (e, u) => r = (e : Int) ∧ M1 70 1 = (u : Int)
theorem l_X5_gu42 {d : List Nat} {T : vT} {M : vM} {rule bits : Int} {P : pP} {lag t : Nat} {s0 : pS} {Pp : Int → vT → vM → Prop} (hB : vB T) (hj : wTj M rule P lag s0 t) (ht : t ≤ 600)
    (hno : pFe rule P lag s0 t = none → vV m_X5_goUntilItComesAgain d d (vPi Pp) 67 [some (vR 70), some (vI rule), some (vI bits), some (vI t), some (vI t)] [] d T M)
    (hyes : ∀ e, pFe rule P lag s0 t = some e → Pp e T M) : ∀ e, e ≤ t → (∀ i, i < e → pWa rule P lag s0 i t = false) →
    vV m_X5_goUntilItComesAgain d d (vPi Pp) 42 [some (vR 70), some (vI rule), some (vI bits), some (vI t), some (vI e)] [] d T M := by
  refine vUp ?_
  intro e he ih hf
  refine vV.iload dX5_goUntilItComesAgain_42 rfl ?_
  refine vV.iload_n dX5_goUntilItComesAgain_44 rfl ?_
  refine vV.icmp_ge (tgt := 67) dX5_goUntilItComesAgain_45 (by decide) (fun h45 => ?_) (fun h45 => ?_)
  · skip
    have het : e = t := by omega
    subst het
    exact hno (pFind_no hf)
  · skip
    refine vV.aload_n dX5_goUntilItComesAgain_48 rfl ?_
    refine vV.iload dX5_goUntilItComesAgain_49 rfl ?_
    refine vV.iload_n dX5_goUntilItComesAgain_51 rfl ?_
    refine vV.cVi dX5_goUntilItComesAgain_52 ml_X5_114 cw_X5_alike iw_X5_alike (by first | rfl | assumption) rfl (by unfold vRoom; decide) (c_X5_alike hB hj ht (a := e) (b := t) he (Nat.le_refl t)) rfl rfl (Nat.le_of_ble_eq_true rfl) ?_
    rintro x52 _ _ hx52 ⟨rfl, rfl, rfl⟩
    refine vV.if_eq (tgt := 61) dX5_goUntilItComesAgain_55 (by decide) (fun h55 => ?_) (fun h55 => ?_)
    · skip
      have has : pWa rule P lag s0 e t = false := by { revert h55; cases pWa rule P lag s0 e t <;> simp [bI] }
      refine vV.iinc (L' := [_, _, _, _, _]) dX5_goUntilItComesAgain_61 (by decide) rfl (⟨by omega, by omega⟩) rfl ?_
      refine vV.goto (tgt := 42) dX5_goUntilItComesAgain_64 (by decide) ?_
      exact ih (by omega) (fun i hi => (Nat.lt_succ_iff_lt_or_eq.mp hi).elim (hf i) (fun e => by subst e; exact has))
    · skip
      have has : pWa rule P lag s0 e t = true := by { revert h55; cases pWa rule P lag s0 e t <;> simp [bI] }
      refine vV.iload dX5_goUntilItComesAgain_58 rfl ?_
      refine vV.ri dX5_goUntilItComesAgain_60 rfl ?_
      exact hyes e (pFind_yes (by omega) has hf)
theorem l_X5_gu10 {d : List Nat} {T : vT} {M : vM} {rule : Int} {P : pP} {lag : Nat} {s0 : pS} (hB : vB T) (hr0 : 0 ≤ rule) (hr3 : rule ≤ 3) : ∀ t, t ≤ 600 → ∀ N, wKeep M N → wTj N rule P lag s0 t → (∀ i, i < t → pGx rule P lag s0 i = false) → ∀ x4,
    vV m_X5_goUntilItComesAgain d d (vPi fun r T1 M1 => T = T1 ∧ wKeep M M1 ∧ ∃ o, o = pGr rule P lag s0 ∧ pGq r M1 o) 10 [some (vR 70), some (vI rule), some (vI (pBits s0.2.1 P.1)), some (vI ((t : Int) + 1)), x4] [] d T N := by
  refine vUp ?_
  intro t ht ih N hk hj hf x4
  refine vV.iload_n dX5_goUntilItComesAgain_10 rfl ?_
  refine vV.sipush (v := 600) dX5_goUntilItComesAgain_11 (by decide) (by decide) ?_
  refine vV.icmp_gt (tgt := 73) dX5_goUntilItComesAgain_14 (by decide) (fun h14 => ?_) (fun h14 => ?_)
  · skip
    refine vV.iconst dX5_goUntilItComesAgain_73 (by decide) ?_
    refine vV.ri dX5_goUntilItComesAgain_74 rfl ?_
    refine ⟨rfl, hk, _, rfl, ?_⟩; unfold pGr; rw [pFind_no (fun i hi => hf i (by omega))]; rfl
  · skip
    refine vV.aload_n dX5_goUntilItComesAgain_17 rfl ?_
    refine vV.aload_n dX5_goUntilItComesAgain_18 rfl ?_
    refine vV.iload_n dX5_goUntilItComesAgain_19 rfl ?_
    refine vV.cVi dX5_goUntilItComesAgain_20 ml_X5_108 cw_X5_choose iw_X5_choose (by first | rfl | assumption) rfl (by unfold vRoom; decide) (c_X5_chooseT hB hj (by omega) hr0 hr3) rfl rfl (Nat.le_of_ble_eq_true rfl) ?_
    rintro x20 _ N0 hx20 ⟨rfl, hch⟩
    refine vV.cVv dX5_goUntilItComesAgain_23 ml_X5_111 cw_X5_act iw_X5_act (by first | rfl | assumption) rfl (by unfold vRoom; decide) (c_X5_actT hB hj (by omega) hch) rfl rfl (Nat.le_of_ble_eq_true rfl) ?_
    rintro _ N1 ⟨rfl, hk1, hj1⟩
    have hS1 := hj1.S
    refine vV.aload_n dX5_goUntilItComesAgain_26 rfl ?_
    refine vV.getr dX5_goUntilItComesAgain_27 fl_X5_12 (by first | rfl | assumption) rfl (by first | assumption | exact hB _ _ _ rfl) ?_
    refine vV.cVi dX5_goUntilItComesAgain_30 ml_X5_105 cw_X3_standing iw_X3_standing (by first | rfl | assumption) rfl (by unfold vRoom; decide) (c_X3_standing sgK_30 (sgT_30 hB) hS1.1.cnt hS1.1.le) rfl rfl (Nat.le_of_ble_eq_true rfl) ?_
    rintro x30 _ _ hx30 ⟨rfl, rfl, rfl⟩
    rw [show (30 : Nat) + 4 = 34 from rfl, hj1.tu]
    refine vV.iload_n dX5_goUntilItComesAgain_33 rfl ?_
    refine vV.icmp_eq (tgt := 39) dX5_goUntilItComesAgain_34 (by decide) (fun h34 => ?_) (fun h34 => ?_)
    · skip
      have hfe : pFell rule P lag s0 t = false := by simpa [pFell] using h34
      refine vV.iconst dX5_goUntilItComesAgain_39 (by decide) ?_
      refine vV.istore (L' := [_, _, _, _, _]) dX5_goUntilItComesAgain_40 (by decide) rfl ?_
      refine l_X5_gu42 (t := t + 1) hB hj1 (by omega) ?_ ?_ 0 (by omega) (fun i hi => by omega)
      · intro hno
        refine vV.iinc (L' := [_, _, _, _, _]) dX5_goUntilItComesAgain_67 (by decide) rfl (⟨by omega, by omega⟩) rfl ?_
        refine vV.goto (tgt := 10) dX5_goUntilItComesAgain_70 (by decide) ?_
        exact ih (by omega) N1 (hk.tr hk1) hj1 (fun i hi => (Nat.lt_succ_iff_lt_or_eq.mp hi).elim (hf i) (fun e => by subst e; unfold pGx; rw [hfe, hno]; rfl)) _
      · intro e hes
        refine ⟨rfl, hk.tr hk1, _, rfl, ?_⟩
        unfold pGr
        rw [pFind_yes (p := t) (by omega) (by unfold pGx; rw [hes]; simp) hf]
        simp only
        rw [if_neg (by rw [hfe]; simp), hes]
        exact ⟨rfl, hS1.2.2.2.2.2.2⟩
    · skip
      have hfe : pFell rule P lag s0 t = true := by simpa [pFell] using h34
      refine vV.iconst dX5_goUntilItComesAgain_37 (by decide) ?_
      refine vV.ri dX5_goUntilItComesAgain_38 rfl ?_
      refine ⟨rfl, hk.tr hk1, _, rfl, ?_⟩; unfold pGr; rw [pFind_yes (p := t) (by omega) (by unfold pGx; rw [hfe]; rfl) hf]; simp only; rw [if_pos hfe]; rfl
theorem c_X5_goUntilItComesAgain {d : List Nat} {T : vT} {M : vM} {rule : Int} {P : pP} {lag : Nat} {s0 : pS} (hB : vB T) (hr0 : 0 ≤ rule) (hr3 : rule ≤ 3) (hj : wTj M rule P lag s0 0) : vCon m_X5_goUntilItComesAgain d d [vR 70, vI rule] T M (vPi fun r T1 M1 => T = T1 ∧ wKeep M M1 ∧ ∃ o, o = pGr rule P lag s0 ∧ pGq r M1 o) := by
  have hS := hj.S
  refine vCon.of (by decide) rfl rfl (Nat.le_of_ble_eq_true rfl) ?_
  have h := l_X5_gu10 (d := d) (M := M) hB hr0 hr3 0 (by omega) M (wKeep.rf M) hj (fun i hi => by omega)
  refine vV.aload_n dX5_goUntilItComesAgain_0 rfl ?_
  refine vV.getr dX5_goUntilItComesAgain_1 fl_X5_12 (by first | rfl | assumption) rfl (by first | assumption | exact hB _ _ _ rfl) ?_
  refine vV.cVi dX5_goUntilItComesAgain_4 ml_X5_105 cw_X3_standing iw_X3_standing (by first | rfl | assumption) rfl (by unfold vRoom; decide) (c_X3_standing sgK_30 (sgT_30 hB) hS.1.cnt hS.1.le) rfl rfl (Nat.le_of_ble_eq_true rfl) ?_
  rintro x1 _ _ hx1 ⟨rfl, rfl, rfl⟩
  rw [show (30 : Nat) + 4 = 34 from rfl, hj.tu, pTr_0]
  refine vV.istore_n (L' := [_, _, _, _, _]) dX5_goUntilItComesAgain_7 (by decide) rfl ?_
  refine vV.iconst dX5_goUntilItComesAgain_8 (by decide) ?_
  refine vV.istore_n (L' := [_, _, _, _, _]) dX5_goUntilItComesAgain_9 (by decide) rfl ?_
  exact h _
