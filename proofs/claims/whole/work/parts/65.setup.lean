/-! ===== own: the class: bestOrder ===== -/
def fbR (none r : Int) (n : Nat) (S : Int × (Int → Int)) : Prop := (S.1 = 0 → r = none) ∧ (S.1 ≠ 0 → r = suN S.2 n) ∧ 0 ≤ S.1
theorem suR_rg (pl fu fa : Int → Int) (man sets : Int) (n : Nat) (f : Int → Int) : 0 ≤ suR pl fu fa man sets n f ∧ suR pl fu fa man sets n f ≤ 15 := by
  have := suL_15 (suV pl fu fa man sets n f) n
  unfold suR; omega
theorem suN_nn {f : Int → Int} : ∀ n : Nat, (∀ j : Nat, j < n → 0 ≤ f j) → 0 ≤ suN f n
  | 0, _ => Int.le_refl 0
  | n + 1, h => by have h1 := suN_nn n (fun j hj => h j (by omega)); have h2 := h n (by omega); unfold suN; omega
theorem stk_nn {v : (Int → Int) → Int} {n : Nat} : ∀ (k : Nat) (f o : Int → Int) (b : Int), pPm n f → (∀ j : Nat, j < n → 0 ≤ o j) → ∀ j : Nat, j < n → 0 ≤ (stk v n k f b o).2 j
  | 0, f, o, b, _, ho => ho
  | k + 1, f, o, b, hf, ho => by
    have h2 : ∀ j : Nat, j < n → 0 ≤ stO b (v f) f o j := by
      unfold stO; split
      · exact fun j hj => (hf.1 j hj).1
      · exact ho
    cases hq : nNx n f with
    | none => rw [stk_n hq]; exact h2
    | some g => rw [stk_s hq]; exact stk_nn k g _ _ (nNx_pm hq hf) h2
theorem stB_t {b y : Int} (h : b < y) : stB b y = y := if_pos h
theorem stB_f {b y : Int} (h : ¬ b < y) : stB b y = b := if_neg h
theorem stO_t {b y : Int} {f o : Int → Int} (h : b < y) : stO b y f o = f := if_pos h
theorem stO_f {b y : Int} {f o : Int → Int} (h : ¬ b < y) : stO b y f o = o := if_neg h
theorem dX2_findBest_0 : decode cX2_findBest 0 = .ok (.aload_n 0, 1) := by decide +kernel
theorem dX2_findBest_1 : decode cX2_findBest 1 = .ok (.getfield 9, 3) := by decide +kernel
theorem dX2_findBest_4 : decode cX2_findBest 4 = .ok (.invokestatic 49, 3) := by decide +kernel
theorem dX2_findBest_7 : decode cX2_findBest 7 = .ok (.iconst 0, 1) := by decide +kernel
theorem dX2_findBest_8 : decode cX2_findBest 8 = .ok (.istore_n 2, 1) := by decide +kernel
theorem dX2_findBest_9 : decode cX2_findBest 9 = .ok (.iconst (-1), 1) := by decide +kernel
theorem dX2_findBest_10 : decode cX2_findBest 10 = .ok (.istore_n 3, 1) := by decide +kernel
theorem dX2_findBest_11 : decode cX2_findBest 11 = .ok (.iconst 1, 1) := by decide +kernel
theorem dX2_findBest_12 : decode cX2_findBest 12 = .ok (.istore 4, 2) := by decide +kernel
theorem dX2_findBest_14 : decode cX2_findBest 14 = .ok (.iconst 0, 1) := by decide +kernel
theorem dX2_findBest_15 : decode cX2_findBest 15 = .ok (.istore 5, 2) := by decide +kernel
theorem dX2_findBest_17 : decode cX2_findBest 17 = .ok (.iload 5, 2) := by decide +kernel
theorem dX2_findBest_19 : decode cX2_findBest 19 = .ok (.sipush 720, 3) := by decide +kernel
theorem dX2_findBest_22 : decode cX2_findBest 22 = .ok (.if_icmp .ge 52, 3) := by decide +kernel
theorem dX2_findBest_25 : decode cX2_findBest 25 = .ok (.iload 4, 2) := by decide +kernel
theorem dX2_findBest_27 : decode cX2_findBest 27 = .ok (.ifCond .eq 47, 3) := by decide +kernel
theorem dX2_findBest_30 : decode cX2_findBest 30 = .ok (.aload_n 0, 1) := by decide +kernel
theorem dX2_findBest_31 : decode cX2_findBest 31 = .ok (.aload_n 1, 1) := by decide +kernel
theorem dX2_findBest_32 : decode cX2_findBest 32 = .ok (.invokevirtual 53, 3) := by decide +kernel
theorem dX2_findBest_35 : decode cX2_findBest 35 = .ok (.istore 6, 2) := by decide +kernel
theorem dX2_findBest_37 : decode cX2_findBest 37 = .ok (.iload 6, 2) := by decide +kernel
theorem dX2_findBest_39 : decode cX2_findBest 39 = .ok (.iload_n 2, 1) := by decide +kernel
theorem dX2_findBest_40 : decode cX2_findBest 40 = .ok (.if_icmp .le 15, 3) := by decide +kernel
theorem dX2_findBest_43 : decode cX2_findBest 43 = .ok (.iload 6, 2) := by decide +kernel
theorem dX2_findBest_45 : decode cX2_findBest 45 = .ok (.istore_n 2, 1) := by decide +kernel
theorem dX2_findBest_46 : decode cX2_findBest 46 = .ok (.aload_n 0, 1) := by decide +kernel
theorem dX2_findBest_47 : decode cX2_findBest 47 = .ok (.aload_n 1, 1) := by decide +kernel
theorem dX2_findBest_48 : decode cX2_findBest 48 = .ok (.getfield 18, 3) := by decide +kernel
theorem dX2_findBest_51 : decode cX2_findBest 51 = .ok (.invokevirtual 57, 3) := by decide +kernel
theorem dX2_findBest_54 : decode cX2_findBest 54 = .ok (.istore_n 3, 1) := by decide +kernel
theorem dX2_findBest_55 : decode cX2_findBest 55 = .ok (.aload_n 0, 1) := by decide +kernel
theorem dX2_findBest_56 : decode cX2_findBest 56 = .ok (.getfield 9, 3) := by decide +kernel
theorem dX2_findBest_59 : decode cX2_findBest 59 = .ok (.aload_n 1, 1) := by decide +kernel
theorem dX2_findBest_60 : decode cX2_findBest 60 = .ok (.getfield 18, 3) := by decide +kernel
theorem dX2_findBest_63 : decode cX2_findBest 63 = .ok (.invokestatic 60, 3) := by decide +kernel
theorem dX2_findBest_66 : decode cX2_findBest 66 = .ok (.istore 4, 2) := by decide +kernel
theorem dX2_findBest_68 : decode cX2_findBest 68 = .ok (.iinc 5 1, 3) := by decide +kernel
theorem dX2_findBest_71 : decode cX2_findBest 71 = .ok (.goto (-54), 3) := by decide +kernel
theorem dX2_findBest_74 : decode cX2_findBest 74 = .ok (.iload_n 3, 1) := by decide +kernel
theorem dX2_findBest_75 : decode cX2_findBest 75 = .ok (.ireturn, 1) := by decide +kernel
theorem l_X2_fb55 {d : List Nat} {T : vT} {M N : vM} {n k : Nat} {f o : Int → Int} {b fd i : Int} {v : (Int → Int) → Int} {x6 : Option vA} (hB : vB T) (hc : M 10 0 = n) (h1 : 1 ≤ n) (hn : n ≤ 6) (hs : mSame [91, 92] M N) (h91 : N 91 = f) (hI : fbR (-1) fd n (b, o)) (hf : pPm n f) (hfin : nFin n (k + 1) f = true) (hi : i = 720 - ((k : Int) + 1)) (hk : k < 720)
    (ih : ∀ (f : Int → Int) (b fd : Int) (o : Int → Int) (N : vM) (x6 : Option vA), mSame [91, 92] M N → N 91 = f → fbR (-1) fd n (b, o) → pPm n f → nFin n k f = true → vV m_X2_findBest d d (vPi fun r T1 M1 => T = T1 ∧ mSame [91, 92] M M1 ∧ fbR (-1) r n (stk v n k f b o)) 17 [some (vR 90), some (vR 10), some (vI b), some (vI fd), some (vI 1), some (vI (720 - (k : Int))), x6] [] d T N) :
    ∀ S, (nNx n f = none → S = (b, o)) → (∀ g, nNx n f = some g → S = stk v n k g b o) → vV m_X2_findBest d d (vPi fun r T1 M1 => T = T1 ∧ mSame [91, 92] M M1 ∧ fbR (-1) r n S) 55 [some (vR 90), some (vR 10), some (vI b), some (vI fd), some (vI 1), some (vI i), x6] [] d T N := by
  intro S hS0 hS1
  have hcN : N 10 0 = n := by rw [hs 10 (by decide)]; exact hc
  cases hq : nNx n f with
  | none =>
    rw [hS0 hq]
    refine vV.aload_n dX2_findBest_55 rfl ?_
    refine vV.getr dX2_findBest_56 fl_X2_9 (by first | rfl | assumption) rfl (by first | assumption | exact hB _ _ _ rfl) ?_
    refine vV.aload_n dX2_findBest_59 rfl ?_
    refine vV.geti (z := 0) dX2_findBest_60 fl_X2_18 (by first | rfl | assumption) rfl rfl ?_
    rw [hcN]
    refine vV.cNi dX2_findBest_63 ml_X2_60 cw_X6_nextOrder sw_X6_nextOrder (by unfold vRoom; decide) (c_X6_nextOrder (a := 91) rfl h1 hn) rfl rfl (Nat.le_of_ble_eq_true rfl) ?_
    rintro x63 _ N1 hx63 ⟨rfl, hq63⟩
    rw [h91, hq] at hq63
    obtain ⟨rfl, rfl⟩ := hq63
    refine vV.istore (L' := [_, _, _, _, _, _, _]) dX2_findBest_66 (by decide) rfl ?_
    refine vV.iinc (L' := [_, _, _, _, _, _, _]) dX2_findBest_68 (by decide) rfl (⟨by omega, by omega⟩) rfl ?_
    refine vV.goto (tgt := 17) dX2_findBest_71 (by decide) ?_
    refine vV.iload dX2_findBest_17 rfl ?_
    refine vV.sipush (v := 720) dX2_findBest_19 (by decide) (by decide) ?_
    refine vV.icmp_ge (tgt := 74) dX2_findBest_22 (by decide) (fun h22 => ?_) (fun h22 => ?_)
    · skip
      refine vV.iload_n dX2_findBest_74 rfl ?_
      refine vV.ri dX2_findBest_75 rfl ?_
      exact ⟨rfl, hs, hI⟩
    · skip
      refine vV.iload dX2_findBest_25 rfl ?_
      refine vV.if_eq (tgt := 74) dX2_findBest_27 (by decide) (fun h27 => ?_) (fun h27 => ?_)
      · skip
        refine vV.iload_n dX2_findBest_74 rfl ?_
        refine vV.ri dX2_findBest_75 rfl ?_
        exact ⟨rfl, hs, hI⟩
      · skip
        omega
  | some g =>
    rw [hS1 g hq]
    refine vV.aload_n dX2_findBest_55 rfl ?_
    refine vV.getr dX2_findBest_56 fl_X2_9 (by first | rfl | assumption) rfl (by first | assumption | exact hB _ _ _ rfl) ?_
    refine vV.aload_n dX2_findBest_59 rfl ?_
    refine vV.geti (z := 0) dX2_findBest_60 fl_X2_18 (by first | rfl | assumption) rfl rfl ?_
    rw [hcN]
    refine vV.cNi dX2_findBest_63 ml_X2_60 cw_X6_nextOrder sw_X6_nextOrder (by unfold vRoom; decide) (c_X6_nextOrder (a := 91) rfl h1 hn) rfl rfl (Nat.le_of_ble_eq_true rfl) ?_
    rintro x63 _ N1 hx63 ⟨rfl, hq63⟩
    rw [h91, hq] at hq63
    obtain ⟨rfl, rfl⟩ := hq63
    refine vV.istore (L' := [_, _, _, _, _, _, _]) dX2_findBest_66 (by decide) rfl ?_
    refine vV.iinc (L' := [_, _, _, _, _, _, _]) dX2_findBest_68 (by decide) rfl (⟨by omega, by omega⟩) rfl ?_
    rw [show i + 1 = 720 - (k : Int) by omega]
    refine vV.goto (tgt := 17) dX2_findBest_71 (by decide) ?_
    exact ih g b fd o _ _ (fun y hy => by rw [vRow_n (by intro z; subst z; exact hy (by decide))]; exact hs y hy) (vRow_s _ _ _) hI (nNx_pm hq hf) (nFin_s hq hfin)
theorem l_X2_fb17 {d : List Nat} {T : vT} {M : vM} {n : Nat} {v : (Int → Int) → Int} (hB : vB T) (hW : sgW M 10 n) (h1 : 1 ≤ n) (hv : ∀ f, v f = suR (M 11) (M 12) (M 13) (M 15 0) (M 15 4) n f) : ∀ k, k ≤ 720 →
    ∀ (f : Int → Int) (b fd : Int) (o : Int → Int) (N : vM) (x6 : Option vA), mSame [91, 92] M N → N 91 = f → fbR (-1) fd n (b, o) → pPm n f → nFin n k f = true → vV m_X2_findBest d d (vPi fun r T1 M1 => T = T1 ∧ mSame [91, 92] M M1 ∧ fbR (-1) r n (stk v n k f b o)) 17 [some (vR 90), some (vR 10), some (vI b), some (vI fd), some (vI 1), some (vI (720 - (k : Int))), x6] [] d T N := by
  have hn := hW.le
  have hc := hW.1
  intro k
  induction k with
  | zero => intro _ f b fd o N x6 _ _ _ _ hfin; cases hfin
  | succ k ih =>
    intro hk f b fd o N x6 hs h91 hI hf hfin
    have hb0 : 0 ≤ b := hI.2.2
    obtain ⟨i, hi⟩ : ∃ i : Int, i = 720 - ((k + 1 : Nat) : Int) := ⟨_, rfl⟩
    have hWN : sgW N 10 n := sgW_rows (hs 10 (by decide)) (hs 11 (by decide)) (hs 12 (by decide)) (hs 13 (by decide)) (hs 14 (by decide)) (hs 15 (by decide)) hW
    have hvr := suR_rg (M 11) (M 12) (M 13) (M 15 0) (M 15 4) n f
    rw [← hv] at hvr
    have hf6 : ∀ j : Nat, j < n → 0 ≤ f j ∧ f j < 6 := fun j hj => by have := hf.1 j hj; omega
    rw [← hi]
    refine vV.iload dX2_findBest_17 rfl ?_
    refine vV.sipush (v := 720) dX2_findBest_19 (by decide) (by decide) ?_
    refine vV.icmp_ge (tgt := 74) dX2_findBest_22 (by decide) (fun h22 => ?_) (fun h22 => ?_)
    · skip
      omega
    · skip
      refine vV.iload dX2_findBest_25 rfl ?_
      refine vV.if_eq (tgt := 74) dX2_findBest_27 (by decide) (fun h27 => ?_) (fun h27 => ?_)
      · skip
        omega
      · skip
        refine vV.aload_n dX2_findBest_30 rfl ?_
        refine vV.aload_n dX2_findBest_31 rfl ?_
        refine vV.cVi dX2_findBest_32 ml_X2_53 cw_X2_leastTurn iw_X2_leastTurn (by first | rfl | assumption) rfl (by unfold vRoom; decide) (c_X2_leastTurn (n := n) hB hWN hf.1 h91) rfl rfl (Nat.le_of_ble_eq_true rfl) ?_
        rintro x32 _ N1 hx32 ⟨rfl, h3, hx⟩
        rw [hs 11 (by decide), hs 12 (by decide), hs 13 (by decide), hs 15 (by decide), ← hv] at hx
        subst hx
        have hs1 : mSame [91, 92] M N1 := fun y hy => (h3 y (by simp at hy ⊢; omega)).trans (hs y hy)
        have h911 : N1 91 = f := by rw [h3 91 (by decide)]; exact h91
        refine vV.istore (L' := [_, _, _, _, _, _, _]) dX2_findBest_35 (by decide) rfl ?_
        refine vV.iload dX2_findBest_37 rfl ?_
        refine vV.iload_n dX2_findBest_39 rfl ?_
        refine vV.icmp_le (tgt := 55) dX2_findBest_40 (by decide) (fun h40 => ?_) (fun h40 => ?_)
        · skip
          exact l_X2_fb55 hB hc h1 hn hs1 h911 hI hf hfin (by omega) (by omega) (ih (by omega)) _ (fun z => by rw [stk_n z, stB_f (by omega), stO_f (by omega)]) (fun g z => by rw [stk_s z, stB_f (by omega), stO_f (by omega)])
        · skip
          refine vV.iload dX2_findBest_43 rfl ?_
          refine vV.istore_n (L' := [_, _, _, _, _, _, _]) dX2_findBest_45 (by decide) rfl ?_
          refine vV.aload_n dX2_findBest_46 rfl ?_
          refine vV.aload_n dX2_findBest_47 rfl ?_
          refine vV.geti (z := 0) dX2_findBest_48 fl_X2_18 (by first | rfl | assumption) rfl rfl ?_
          rw [show N1 10 0 = n from by rw [hs1 10 (by decide)]; exact hc]
          refine vV.cVi dX2_findBest_51 ml_X2_57 cw_X2_asNumber iw_X2_asNumber (by first | rfl | assumption) rfl (by unfold vRoom; decide) (c_X2_asNumber (n := n) hB hn hf6 h911) rfl rfl (Nat.le_of_ble_eq_true rfl) ?_
          rintro x51 _ _ hx51 ⟨rfl, rfl, rfl⟩
          refine vV.istore_n (L' := [_, _, _, _, _, _, _]) dX2_findBest_54 (by decide) rfl ?_
          exact l_X2_fb55 hB hc h1 hn hs1 h911 (o := f) ⟨fun z => absurd z (by show v f ≠ 0; omega), fun _ => rfl, hvr.1⟩ hf hfin (by omega) (by omega) (ih (by omega)) _ (fun z => by rw [stk_n z, stB_t (by omega), stO_t (by omega)]) (fun g z => by rw [stk_s z, stB_t (by omega), stO_t (by omega)])
theorem c_X2_findBest {d : List Nat} {T : vT} {M : vM} {n : Nat} {v : (Int → Int) → Int} (hB : vB T) (hW : sgW M 10 n) (h1 : 1 ≤ n) (hv : ∀ f, v f = suR (M 11) (M 12) (M 13) (M 15 0) (M 15 4) n f) : vCon m_X2_findBest d d [vR 90, vR 10] T M (vPi fun r T1 M1 => T = T1 ∧ mSame [91, 92] M M1 ∧ fbR (-1) r n (stk v n 720 (pMix 6 (fun j => j) (M 91)) 0 (fun _ => 0))) := by
  refine vCon.of (by decide) rfl rfl (Nat.le_of_ble_eq_true rfl) ?_
  have hn := hW.le
  have hid : pEq n (pMix 6 (fun j => j) (M 91)) (fun j => j) := fun j hj => pMix_lt (by omega)
  refine vV.aload_n dX2_findBest_0 rfl ?_
  refine vV.getr dX2_findBest_1 fl_X2_9 (by first | rfl | assumption) rfl (by first | assumption | exact hB _ _ _ rfl) ?_
  refine vV.cNv dX2_findBest_4 ml_X2_49 cw_X6_firstOrder sw_X6_firstOrder (by unfold vRoom; decide) (c_X6_firstOrder (a := 91) rfl) rfl rfl (Nat.le_of_ble_eq_true rfl) ?_
  rintro _ _ ⟨rfl, rfl⟩
  refine vV.iconst dX2_findBest_7 (by decide) ?_
  refine vV.istore_n (L' := [_, _, _, _, _, _, _]) dX2_findBest_8 (by decide) rfl ?_
  refine vV.iconst dX2_findBest_9 (by decide) ?_
  refine vV.istore_n (L' := [_, _, _, _, _, _, _]) dX2_findBest_10 (by decide) rfl ?_
  refine vV.iconst dX2_findBest_11 (by decide) ?_
  refine vV.istore (L' := [_, _, _, _, _, _, _]) dX2_findBest_12 (by decide) rfl ?_
  refine vV.iconst dX2_findBest_14 (by decide) ?_
  refine vV.istore (L' := [_, _, _, _, _, _, _]) dX2_findBest_15 (by decide) rfl ?_
  exact l_X2_fb17 hB hW h1 hv 720 (by omega) _ 0 (-1) (fun _ => 0) _ _ (fun y hy => vRow_n (by intro z; subst z; exact hy (by decide))) (vRow_s _ _ _) ⟨fun _ => rfl, fun z => absurd rfl z, Int.le_refl 0⟩ (pPm_cg (pPm_id n) hid) (nFin_720 h1 hn hid)
def boQ (n : Nat) (r : Int) (S : Int × (Int → Int)) : Prop := (n = 0 ∧ r = -3) ∨ (0 < n ∧ fbR (-6) r n S)
theorem dX6_bestOrder_0 : decode cX6_bestOrder 0 = .ok (.aload_n 0, 1) := by decide +kernel
theorem dX6_bestOrder_1 : decode cX6_bestOrder 1 = .ok (.getfield 10, 3) := by decide +kernel
theorem dX6_bestOrder_4 : decode cX6_bestOrder 4 = .ok (.getfield 66, 3) := by decide +kernel
theorem dX6_bestOrder_7 : decode cX6_bestOrder 7 = .ok (.ifCond .ne 6, 3) := by decide +kernel
theorem dX6_bestOrder_10 : decode cX6_bestOrder 10 = .ok (.bipush (-3), 2) := by decide +kernel
theorem dX6_bestOrder_12 : decode cX6_bestOrder 12 = .ok (.ireturn, 1) := by decide +kernel
theorem dX6_bestOrder_13 : decode cX6_bestOrder 13 = .ok (.aload_n 0, 1) := by decide +kernel
theorem dX6_bestOrder_14 : decode cX6_bestOrder 14 = .ok (.getfield 47, 3) := by decide +kernel
theorem dX6_bestOrder_17 : decode cX6_bestOrder 17 = .ok (.aload_n 0, 1) := by decide +kernel
theorem dX6_bestOrder_18 : decode cX6_bestOrder 18 = .ok (.getfield 10, 3) := by decide +kernel
theorem dX6_bestOrder_21 : decode cX6_bestOrder 21 = .ok (.invokevirtual 207, 3) := by decide +kernel
theorem dX6_bestOrder_24 : decode cX6_bestOrder 24 = .ok (.istore_n 1, 1) := by decide +kernel
theorem dX6_bestOrder_25 : decode cX6_bestOrder 25 = .ok (.iload_n 1, 1) := by decide +kernel
theorem dX6_bestOrder_26 : decode cX6_bestOrder 26 = .ok (.ifCond .ge 8, 3) := by decide +kernel
theorem dX6_bestOrder_29 : decode cX6_bestOrder 29 = .ok (.bipush (-6), 2) := by decide +kernel
theorem dX6_bestOrder_31 : decode cX6_bestOrder 31 = .ok (.goto 4, 3) := by decide +kernel
theorem dX6_bestOrder_34 : decode cX6_bestOrder 34 = .ok (.iload_n 1, 1) := by decide +kernel
theorem dX6_bestOrder_35 : decode cX6_bestOrder 35 = .ok (.ireturn, 1) := by decide +kernel
theorem c_X6_bestOrder {d : List Nat} {T : vT} {M : vM} {n : Nat} (hB : vB T) (hW : sgW M 10 n) : vCon m_X6_bestOrder d d [vR 0] T M (vPi fun r T1 M1 => T = T1 ∧ mSame [91, 92] M M1 ∧ boQ n r (stk (suR (M 11) (M 12) (M 13) (M 15 0) (M 15 4) n) n 720 (fun j => j) 0 (fun _ => 0))) := by
  have hn := hW.le
  have hv : ∀ f f', pPm n f → pPm n f' → pEq n f f' → suR (M 11) (M 12) (M 13) (M 15 0) (M 15 4) n f = suR (M 11) (M 12) (M 13) (M 15 0) (M 15 4) n f' := fun f f' hf _ he => suR_cg pEq.rfl pEq.rfl pEq.rfl he hf.1
  obtain ⟨v, hve⟩ : ∃ v, v = suR (M 11) (M 12) (M 13) (M 15 0) (M 15 4) n := ⟨_, rfl⟩
  have hv2 : ∀ f, v f = suR (M 11) (M 12) (M 13) (M 15 0) (M 15 4) n f := fun f => by rw [hve]
  rw [← hve] at hv ⊢
  have hid : pEq n (pMix 6 (fun j => j) (M 91)) (fun j => j) := fun j hj => pMix_lt (by omega)
  refine vCon.of (by decide) rfl rfl (Nat.le_of_ble_eq_true rfl) ?_
  refine vV.aload_n dX6_bestOrder_0 rfl ?_
  refine vV.getr dX6_bestOrder_1 fl_X6_10 (by first | rfl | assumption) rfl (by first | assumption | exact hB _ _ _ rfl) ?_
  refine vV.geti (z := 0) dX6_bestOrder_4 fl_X6_66 (by first | rfl | assumption) rfl rfl ?_
  rw [hW.1]
  refine vV.if_ne (tgt := 13) dX6_bestOrder_7 (by decide) (fun h7 => ?_) (fun h7 => ?_)
  · skip
    have hcg := stk_cg (v := v) (v' := v) (show 1 ≤ n by omega) hv 720 (pMix 6 (fun j => j) (M 91)) (fun j => j) (fun _ => 0) (fun _ => 0) 0 (pPm_cg (pPm_id n) hid) (pPm_id n) hid pEq.rfl
    refine vV.aload_n dX6_bestOrder_13 rfl ?_
    refine vV.getr dX6_bestOrder_14 fl_X6_47 (by first | rfl | assumption) rfl (by first | assumption | exact hB _ _ _ rfl) ?_
    refine vV.aload_n dX6_bestOrder_17 rfl ?_
    refine vV.getr dX6_bestOrder_18 fl_X6_10 (by first | rfl | assumption) rfl (by first | assumption | exact hB _ _ _ rfl) ?_
    refine vV.cVi dX6_bestOrder_21 ml_X6_207 cw_X2_findBest iw_X2_findBest (by first | rfl | assumption) rfl (by unfold vRoom; decide) (c_X2_findBest hB hW (by omega) hv2) rfl rfl (Nat.le_of_ble_eq_true rfl) ?_
    rintro x21 _ N hx21 ⟨rfl, hs, q1, q2, q3⟩
    rw [hcg.1] at q1 q2 q3
    rw [suN_cg hcg.2] at q2
    have q4 : (stk v n 720 (fun j => j) 0 (fun _ => 0)).1 ≠ 0 → 0 ≤ x21 := fun z => by { rw [q2 z]; exact suN_nn n (stk_nn 720 _ _ _ (pPm_id n) (fun j hj => Int.le_refl 0)) }
    refine vV.istore_n (L' := [_, _]) dX6_bestOrder_24 (by decide) rfl ?_
    refine vV.iload_n dX6_bestOrder_25 rfl ?_
    refine vV.if_ge (tgt := 34) dX6_bestOrder_26 (by decide) (fun h26 => ?_) (fun h26 => ?_)
    · skip
      have hnz : (stk v n 720 (fun j => j) 0 (fun _ => 0)).1 ≠ 0 := fun z => by have := q1 z; omega
      refine vV.iload_n dX6_bestOrder_34 rfl ?_
      refine vV.ri dX6_bestOrder_35 rfl ?_
      first | exact ⟨rfl, hs, Or.inr ⟨by omega, fun z => absurd z hnz, q2, q3⟩⟩ | exact ⟨rfl, hs, Or.inr ⟨by omega, fun _ => rfl, fun z => absurd hnz z, q3⟩⟩
    · skip
      have hnz : (stk v n 720 (fun j => j) 0 (fun _ => 0)).1 = 0 := Decidable.byContradiction fun z => by have := q4 z; omega
      refine vV.bipush (v := (-6)) dX6_bestOrder_29 (by decide) (by decide) ?_
      refine vV.goto (tgt := 35) dX6_bestOrder_31 (by decide) ?_
      refine vV.ri dX6_bestOrder_35 rfl ?_
      first | exact ⟨rfl, hs, Or.inr ⟨by omega, fun z => absurd z hnz, q2, q3⟩⟩ | exact ⟨rfl, hs, Or.inr ⟨by omega, fun _ => rfl, fun z => absurd hnz z, q3⟩⟩
  · skip
    refine vV.bipush (v := (-3)) dX6_bestOrder_10 (by decide) (by decide) ?_
    refine vV.ri dX6_bestOrder_12 rfl ?_
    exact ⟨rfl, fun _ _ => rfl, Or.inl ⟨by omega, rfl⟩⟩
