/-! ===== own: the class: kept, longest, step, bow, gasps ===== -/
def kpQ (ok : Prop) (E : xE) (s : xS) (r : Int) : Prop := (¬ ok ∧ r = -3) ∨ (ok ∧ ((r = 1 ∧ xever E s) ∨ (r = 0 ∧ ¬ xever E s)))
def lgQ (ok : Prop) (E : xE) (s : xS) (r : Int) : Prop := (¬ ok ∧ r = -3) ∨ (ok ∧ ((r = -6 ∧ xever E s) ∨ ∃ w : Nat, r = w ∧ xL E s w))
def spQ (ok : Prop) (E : xE) (s : xS) (r : Int) : Prop := (¬ ok ∧ r = -3) ∨ (ok ∧ stQ (-6) E s r)
def bwQ (ok : Prop) (E : xE) (s : xS) (n r : Int) : Prop := (¬ ok ∧ r = -3) ∨ (ok ∧ bowQ (-6) E s n r)
def gaQ (E : xE) (s : xS) (n : Nat) (what r : Int) : Prop := (r = -6 ∧ ∀ s' w, ¬ xW E s n s' w) ∨ ∃ w : Nat, (∃ s', xW E s n s' w) ∧ (∀ s' w', xW E s n s' w' → w' ≤ w) ∧ r = if what = 0 then ((w / 4 : Nat) : Int) else 3 - ((w % 4 : Nat) : Int)
def gzQ (ok : Prop) (E : xE) (s : xS) (n : Nat) (what r : Int) : Prop := (¬ ok ∧ r = -3) ∨ (ok ∧ gaQ E s n what r)
theorem xoS.no {T : vT} {M : vM} {n : Nat} (hB : vB T) (h : ¬ xok3 M n) : xoS T M n T M := ⟨fun _ _ => rfl, ⟨fun _ _ => rfl, hB⟩, fun z => absurd z h, fun _ => ⟨rfl, rfl⟩⟩
theorem xoS.ye {T T1 : vT} {M M1 M2 : vM} {n : Nat} (h : xok3 M n) (h1 : mSame xoK M M1) (h2 : xoT T T1) (h3 : awT T1) (h4 : awS M1 M2) (h5 : awM M2) : xoS T M n T1 M2 := ⟨fun k hk => (h4.1 k (by unfold xoK at hk; simp at hk ⊢; omega)).trans (h1 k hk), h2, fun _ => ⟨h3, h5⟩, fun z => absurd h z⟩
theorem xLq_ev {E : xE} {s : xS} {r : Int} (h : xLq E s r) : (r = 65535 ∧ xever E s) ∨ (r ≠ 65535 ∧ ∃ w : Nat, r = w ∧ xL E s w) := by
  rcases h with h | ⟨w, a, b, c⟩
  · exact Or.inl h
  · exact Or.inr ⟨by omega, w, a, c⟩
theorem xEc_ok {M : vM} {n : Nat} (hW : sgW M 10 n) (h : xok3 M n) : xEok (xEc M n) := xEof_ok hW.2 h.1 h.2
theorem xSc_st {M : vM} {n : Nat} (hW : sgW M 10 n) : xSt (xEc M n) (xSc M n) := xS0_st hW.2
theorem dX6_kept_0 : decode cX6_kept 0 = .ok (.aload_n 0, 1) := by decide +kernel
theorem dX6_kept_1 : decode cX6_kept 1 = .ok (.getfield 54, 3) := by decide +kernel
theorem dX6_kept_4 : decode cX6_kept 4 = .ok (.aload_n 0, 1) := by decide +kernel
theorem dX6_kept_5 : decode cX6_kept 5 = .ok (.getfield 10, 3) := by decide +kernel
theorem dX6_kept_8 : decode cX6_kept 8 = .ok (.invokevirtual 170, 3) := by decide +kernel
theorem dX6_kept_11 : decode cX6_kept 11 = .ok (.istore_n 1, 1) := by decide +kernel
theorem dX6_kept_12 : decode cX6_kept 12 = .ok (.iload_n 1, 1) := by decide +kernel
theorem dX6_kept_13 : decode cX6_kept 13 = .ok (.ifCond .ge 6, 3) := by decide +kernel
theorem dX6_kept_16 : decode cX6_kept 16 = .ok (.bipush (-3), 2) := by decide +kernel
theorem dX6_kept_18 : decode cX6_kept 18 = .ok (.ireturn, 1) := by decide +kernel
theorem dX6_kept_19 : decode cX6_kept 19 = .ok (.aload_n 0, 1) := by decide +kernel
theorem dX6_kept_20 : decode cX6_kept 20 = .ok (.getfield 54, 3) := by decide +kernel
theorem dX6_kept_23 : decode cX6_kept 23 = .ok (.invokevirtual 174, 3) := by decide +kernel
theorem dX6_kept_26 : decode cX6_kept 26 = .ok (.aload_n 0, 1) := by decide +kernel
theorem dX6_kept_27 : decode cX6_kept 27 = .ok (.getfield 54, 3) := by decide +kernel
theorem dX6_kept_30 : decode cX6_kept 30 = .ok (.iload_n 1, 1) := by decide +kernel
theorem dX6_kept_31 : decode cX6_kept 31 = .ok (.invokevirtual 177, 3) := by decide +kernel
theorem dX6_kept_34 : decode cX6_kept 34 = .ok (.ldc 180, 2) := by decide +kernel
theorem dX6_kept_36 : decode cX6_kept 36 = .ok (.if_icmp .ne 7, 3) := by decide +kernel
theorem dX6_kept_39 : decode cX6_kept 39 = .ok (.iconst 1, 1) := by decide +kernel
theorem dX6_kept_40 : decode cX6_kept 40 = .ok (.goto 4, 3) := by decide +kernel
theorem dX6_kept_43 : decode cX6_kept 43 = .ok (.iconst 0, 1) := by decide +kernel
theorem dX6_kept_44 : decode cX6_kept 44 = .ok (.ireturn, 1) := by decide +kernel
theorem c_X6_kept {d d1 : List Nat} {T : vT} {M : vM} {n : Nat} (hB : vB T) (hW : sgW M 10 n) (hH : tkH T M n d d1) : vCon m_X6_kept d d1 [vR 0] T M (vPi fun r T1 M1 => xoS T M n T1 M1 ∧ kpQ (xok3 M n) (xEc M n) (xSc M n) r) := by
  refine vCon.of (by decide) rfl rfl (Nat.le_of_ble_eq_true rfl) ?_
  refine vV.aload_n dX6_kept_0 rfl ?_
  refine vV.getr dX6_kept_1 fl_X6_54 (by first | rfl | assumption) rfl (by first | assumption | exact hB _ _ _ rfl) ?_
  refine vV.aload_n dX6_kept_4 rfl ?_
  refine vV.getr dX6_kept_5 fl_X6_10 (by first | rfl | assumption) rfl (by first | assumption | exact hB _ _ _ rfl) ?_
  refine vV.cVig dX6_kept_8 ml_X6_170 cw_X0_take iw_X0_take (by first | rfl | assumption) rfl (by unfold vRoom; decide) (c_X0_take hB hW hH) rfl rfl (Nat.le_of_ble_eq_true rfl) (hH.le) ?_
  rintro x8 T1 M1 hx8 (⟨q1, rfl, rfl, rfl⟩ | ⟨q1, rfl, q2, q3, q4, q5, q6⟩)
  · skip
    refine vV.istore_n (L' := [_, _]) dX6_kept_11 (by decide) rfl ?_
    refine vV.iload_n dX6_kept_12 rfl ?_
    refine vV.if_ge (tgt := 19) dX6_kept_13 (by decide) (fun h13 => ?_) (fun h13 => ?_)
    · skip
      omega
    · skip
      refine vV.bipush (v := (-3)) dX6_kept_16 (by decide) (by decide) ?_
      refine vV.ri dX6_kept_18 rfl ?_
      exact ⟨xoS.no hB q1, Or.inl ⟨q1, rfl⟩⟩
  · have hE := xEc_ok hW q1
    have hs := xSc_st hW
    have hB := q3.2
    refine vV.istore_n (L' := [_, _]) dX6_kept_11 (by decide) rfl ?_
    refine vV.iload_n dX6_kept_12 rfl ?_
    refine vV.if_ge (tgt := 19) dX6_kept_13 (by decide) (fun h13 => ?_) (fun h13 => ?_)
    · skip
      refine vV.aload_n dX6_kept_19 rfl ?_
      refine vV.getr dX6_kept_20 fl_X6_54 (by first | rfl | assumption) rfl (by first | assumption | exact hB _ _ _ rfl) ?_
      refine vV.cVv dX6_kept_23 ml_X6_174 cw_X0_openPage iw_X0_openPage (by first | rfl | assumption) rfl (by unfold vRoom; decide) (c_X0_openPage q4 q5) rfl rfl (Nat.le_of_ble_eq_true rfl) ?_
      rintro _ N ⟨rfl, hO⟩
      refine vV.aload_n dX6_kept_26 rfl ?_
      refine vV.getr dX6_kept_27 fl_X6_54 (by first | rfl | assumption) rfl (by first | assumption | exact hB _ _ _ rfl) ?_
      refine vV.iload_n dX6_kept_30 rfl ?_
      refine vV.cVi dX6_kept_31 ml_X6_177 cw_X0_measure iw_X0_measure (by first | rfl | assumption) rfl (by unfold vRoom; decide) (c_X0_measure q3.2 q4 hE (((awS.rf _).o hO).c q6) hs hO.2.2.1 (hO.p hE)) rfl rfl (Nat.le_of_ble_eq_true rfl) ?_
      rintro x31 _ N1 hx31 ⟨rfl, m1, m2, m3, m4⟩
      have hS : xoS T M n T1 N1 := xoS.ye q1 q2 q3 q4 (((awS.rf _).o hO).m m1) m2
      refine vV.ldc (v := 65535) dX6_kept_34 kc_X6_180 (by decide) (by decide) ?_
      refine vV.icmp_ne (tgt := 43) dX6_kept_36 (by decide) (fun h36 => ?_) (fun h36 => ?_)
      · skip
        refine vV.iconst dX6_kept_43 (by decide) ?_
        refine vV.ri dX6_kept_44 rfl ?_
        first | exact ⟨hS, Or.inr ⟨q1, (xLq_ev m4).elim (fun z => Or.inl ⟨rfl, z.2⟩) (fun z => absurd h36 z.1)⟩⟩ | exact ⟨hS, Or.inr ⟨q1, (xLq_ev m4).elim (fun z => absurd z.1 h36) (fun z => Or.inr ⟨rfl, by obtain ⟨w, -, w2⟩ := z.2; exact xL_e w2⟩)⟩⟩
      · skip
        refine vV.iconst dX6_kept_39 (by decide) ?_
        refine vV.goto (tgt := 44) dX6_kept_40 (by decide) ?_
        refine vV.ri dX6_kept_44 rfl ?_
        first | exact ⟨hS, Or.inr ⟨q1, (xLq_ev m4).elim (fun z => Or.inl ⟨rfl, z.2⟩) (fun z => absurd h36 z.1)⟩⟩ | exact ⟨hS, Or.inr ⟨q1, (xLq_ev m4).elim (fun z => absurd z.1 h36) (fun z => Or.inr ⟨rfl, by obtain ⟨w, -, w2⟩ := z.2; exact xL_e w2⟩)⟩⟩
    · skip
      omega
  skip
theorem dX6_longest_0 : decode cX6_longest 0 = .ok (.aload_n 0, 1) := by decide +kernel
theorem dX6_longest_1 : decode cX6_longest 1 = .ok (.getfield 54, 3) := by decide +kernel
theorem dX6_longest_4 : decode cX6_longest 4 = .ok (.aload_n 0, 1) := by decide +kernel
theorem dX6_longest_5 : decode cX6_longest 5 = .ok (.getfield 10, 3) := by decide +kernel
theorem dX6_longest_8 : decode cX6_longest 8 = .ok (.invokevirtual 170, 3) := by decide +kernel
theorem dX6_longest_11 : decode cX6_longest 11 = .ok (.istore_n 1, 1) := by decide +kernel
theorem dX6_longest_12 : decode cX6_longest 12 = .ok (.iload_n 1, 1) := by decide +kernel
theorem dX6_longest_13 : decode cX6_longest 13 = .ok (.ifCond .ge 6, 3) := by decide +kernel
theorem dX6_longest_16 : decode cX6_longest 16 = .ok (.bipush (-3), 2) := by decide +kernel
theorem dX6_longest_18 : decode cX6_longest 18 = .ok (.ireturn, 1) := by decide +kernel
theorem dX6_longest_19 : decode cX6_longest 19 = .ok (.aload_n 0, 1) := by decide +kernel
theorem dX6_longest_20 : decode cX6_longest 20 = .ok (.getfield 54, 3) := by decide +kernel
theorem dX6_longest_23 : decode cX6_longest 23 = .ok (.invokevirtual 174, 3) := by decide +kernel
theorem dX6_longest_26 : decode cX6_longest 26 = .ok (.aload_n 0, 1) := by decide +kernel
theorem dX6_longest_27 : decode cX6_longest 27 = .ok (.getfield 54, 3) := by decide +kernel
theorem dX6_longest_30 : decode cX6_longest 30 = .ok (.iload_n 1, 1) := by decide +kernel
theorem dX6_longest_31 : decode cX6_longest 31 = .ok (.invokevirtual 177, 3) := by decide +kernel
theorem dX6_longest_34 : decode cX6_longest 34 = .ok (.istore_n 2, 1) := by decide +kernel
theorem dX6_longest_35 : decode cX6_longest 35 = .ok (.iload_n 2, 1) := by decide +kernel
theorem dX6_longest_36 : decode cX6_longest 36 = .ok (.ldc 180, 2) := by decide +kernel
theorem dX6_longest_38 : decode cX6_longest 38 = .ok (.if_icmp .ne 8, 3) := by decide +kernel
theorem dX6_longest_41 : decode cX6_longest 41 = .ok (.bipush (-6), 2) := by decide +kernel
theorem dX6_longest_43 : decode cX6_longest 43 = .ok (.goto 4, 3) := by decide +kernel
theorem dX6_longest_46 : decode cX6_longest 46 = .ok (.iload_n 2, 1) := by decide +kernel
theorem dX6_longest_47 : decode cX6_longest 47 = .ok (.ireturn, 1) := by decide +kernel
theorem c_X6_longest {d d1 : List Nat} {T : vT} {M : vM} {n : Nat} (hB : vB T) (hW : sgW M 10 n) (hH : tkH T M n d d1) : vCon m_X6_longest d d1 [vR 0] T M (vPi fun r T1 M1 => xoS T M n T1 M1 ∧ lgQ (xok3 M n) (xEc M n) (xSc M n) r) := by
  refine vCon.of (by decide) rfl rfl (Nat.le_of_ble_eq_true rfl) ?_
  refine vV.aload_n dX6_longest_0 rfl ?_
  refine vV.getr dX6_longest_1 fl_X6_54 (by first | rfl | assumption) rfl (by first | assumption | exact hB _ _ _ rfl) ?_
  refine vV.aload_n dX6_longest_4 rfl ?_
  refine vV.getr dX6_longest_5 fl_X6_10 (by first | rfl | assumption) rfl (by first | assumption | exact hB _ _ _ rfl) ?_
  refine vV.cVig dX6_longest_8 ml_X6_170 cw_X0_take iw_X0_take (by first | rfl | assumption) rfl (by unfold vRoom; decide) (c_X0_take hB hW hH) rfl rfl (Nat.le_of_ble_eq_true rfl) (hH.le) ?_
  rintro x8 T1 M1 hx8 (⟨q1, rfl, rfl, rfl⟩ | ⟨q1, rfl, q2, q3, q4, q5, q6⟩)
  · skip
    refine vV.istore_n (L' := [_, _, _]) dX6_longest_11 (by decide) rfl ?_
    refine vV.iload_n dX6_longest_12 rfl ?_
    refine vV.if_ge (tgt := 19) dX6_longest_13 (by decide) (fun h13 => ?_) (fun h13 => ?_)
    · skip
      omega
    · skip
      refine vV.bipush (v := (-3)) dX6_longest_16 (by decide) (by decide) ?_
      refine vV.ri dX6_longest_18 rfl ?_
      exact ⟨xoS.no hB q1, Or.inl ⟨q1, rfl⟩⟩
  · have hE := xEc_ok hW q1
    have hs := xSc_st hW
    have hB := q3.2
    refine vV.istore_n (L' := [_, _, _]) dX6_longest_11 (by decide) rfl ?_
    refine vV.iload_n dX6_longest_12 rfl ?_
    refine vV.if_ge (tgt := 19) dX6_longest_13 (by decide) (fun h13 => ?_) (fun h13 => ?_)
    · skip
      refine vV.aload_n dX6_longest_19 rfl ?_
      refine vV.getr dX6_longest_20 fl_X6_54 (by first | rfl | assumption) rfl (by first | assumption | exact hB _ _ _ rfl) ?_
      refine vV.cVv dX6_longest_23 ml_X6_174 cw_X0_openPage iw_X0_openPage (by first | rfl | assumption) rfl (by unfold vRoom; decide) (c_X0_openPage q4 q5) rfl rfl (Nat.le_of_ble_eq_true rfl) ?_
      rintro _ N ⟨rfl, hO⟩
      refine vV.aload_n dX6_longest_26 rfl ?_
      refine vV.getr dX6_longest_27 fl_X6_54 (by first | rfl | assumption) rfl (by first | assumption | exact hB _ _ _ rfl) ?_
      refine vV.iload_n dX6_longest_30 rfl ?_
      refine vV.cVi dX6_longest_31 ml_X6_177 cw_X0_measure iw_X0_measure (by first | rfl | assumption) rfl (by unfold vRoom; decide) (c_X0_measure q3.2 q4 hE (((awS.rf _).o hO).c q6) hs hO.2.2.1 (hO.p hE)) rfl rfl (Nat.le_of_ble_eq_true rfl) ?_
      rintro x31 _ N1 hx31 ⟨rfl, m1, m2, m3, m4⟩
      have hS : xoS T M n T1 N1 := xoS.ye q1 q2 q3 q4 (((awS.rf _).o hO).m m1) m2
      refine vV.istore_n (L' := [_, _, _]) dX6_longest_34 (by decide) rfl ?_
      refine vV.iload_n dX6_longest_35 rfl ?_
      refine vV.ldc (v := 65535) dX6_longest_36 kc_X6_180 (by decide) (by decide) ?_
      refine vV.icmp_ne (tgt := 46) dX6_longest_38 (by decide) (fun h38 => ?_) (fun h38 => ?_)
      · skip
        refine vV.iload_n dX6_longest_46 rfl ?_
        refine vV.ri dX6_longest_47 rfl ?_
        first | exact ⟨hS, Or.inr ⟨q1, (xLq_ev m4).elim (fun z => Or.inl ⟨rfl, z.2⟩) (fun z => absurd h38 z.1)⟩⟩ | exact ⟨hS, Or.inr ⟨q1, (xLq_ev m4).elim (fun z => absurd z.1 h38) (fun z => Or.inr z.2)⟩⟩
      · skip
        refine vV.bipush (v := (-6)) dX6_longest_41 (by decide) (by decide) ?_
        refine vV.goto (tgt := 47) dX6_longest_43 (by decide) ?_
        refine vV.ri dX6_longest_47 rfl ?_
        first | exact ⟨hS, Or.inr ⟨q1, (xLq_ev m4).elim (fun z => Or.inl ⟨rfl, z.2⟩) (fun z => absurd h38 z.1)⟩⟩ | exact ⟨hS, Or.inr ⟨q1, (xLq_ev m4).elim (fun z => absurd z.1 h38) (fun z => Or.inr z.2)⟩⟩
    · skip
      omega
  skip
theorem dX6_step_0 : decode cX6_step 0 = .ok (.aload_n 0, 1) := by decide +kernel
theorem dX6_step_1 : decode cX6_step 1 = .ok (.getfield 54, 3) := by decide +kernel
theorem dX6_step_4 : decode cX6_step 4 = .ok (.aload_n 0, 1) := by decide +kernel
theorem dX6_step_5 : decode cX6_step 5 = .ok (.getfield 10, 3) := by decide +kernel
theorem dX6_step_8 : decode cX6_step 8 = .ok (.invokevirtual 170, 3) := by decide +kernel
theorem dX6_step_11 : decode cX6_step 11 = .ok (.istore_n 1, 1) := by decide +kernel
theorem dX6_step_12 : decode cX6_step 12 = .ok (.iload_n 1, 1) := by decide +kernel
theorem dX6_step_13 : decode cX6_step 13 = .ok (.ifCond .ge 6, 3) := by decide +kernel
theorem dX6_step_16 : decode cX6_step 16 = .ok (.bipush (-3), 2) := by decide +kernel
theorem dX6_step_18 : decode cX6_step 18 = .ok (.ireturn, 1) := by decide +kernel
theorem dX6_step_19 : decode cX6_step 19 = .ok (.aload_n 0, 1) := by decide +kernel
theorem dX6_step_20 : decode cX6_step 20 = .ok (.getfield 54, 3) := by decide +kernel
theorem dX6_step_23 : decode cX6_step 23 = .ok (.iload_n 1, 1) := by decide +kernel
theorem dX6_step_24 : decode cX6_step 24 = .ok (.invokevirtual 181, 3) := by decide +kernel
theorem dX6_step_27 : decode cX6_step 27 = .ok (.istore_n 2, 1) := by decide +kernel
theorem dX6_step_28 : decode cX6_step 28 = .ok (.iload_n 2, 1) := by decide +kernel
theorem dX6_step_29 : decode cX6_step 29 = .ok (.ifCond .ge 8, 3) := by decide +kernel
theorem dX6_step_32 : decode cX6_step 32 = .ok (.bipush (-6), 2) := by decide +kernel
theorem dX6_step_34 : decode cX6_step 34 = .ok (.goto 4, 3) := by decide +kernel
theorem dX6_step_37 : decode cX6_step 37 = .ok (.iload_n 2, 1) := by decide +kernel
theorem dX6_step_38 : decode cX6_step 38 = .ok (.ireturn, 1) := by decide +kernel
theorem stQ_6 {E : xE} {s : xS} {r : Int} (h : stQ (-1) E s r) : stQ (-6) E s (if r < 0 then -6 else r) := by
  rcases h with ⟨a, b⟩ | ⟨t, a, b, c⟩
  · rw [if_pos (by omega)]; exact Or.inl ⟨rfl, b⟩
  · rw [if_neg (by omega)]; exact Or.inr ⟨t, a, b, c⟩
theorem c_X6_step {d d1 : List Nat} {T : vT} {M : vM} {n : Nat} (hB : vB T) (hW : sgW M 10 n) (hH : tkH T M n d d1) : vCon m_X6_step d d1 [vR 0] T M (vPi fun r T1 M1 => xoS T M n T1 M1 ∧ spQ (xok3 M n) (xEc M n) (xSc M n) r) := by
  refine vCon.of (by decide) rfl rfl (Nat.le_of_ble_eq_true rfl) ?_
  refine vV.aload_n dX6_step_0 rfl ?_
  refine vV.getr dX6_step_1 fl_X6_54 (by first | rfl | assumption) rfl (by first | assumption | exact hB _ _ _ rfl) ?_
  refine vV.aload_n dX6_step_4 rfl ?_
  refine vV.getr dX6_step_5 fl_X6_10 (by first | rfl | assumption) rfl (by first | assumption | exact hB _ _ _ rfl) ?_
  refine vV.cVig dX6_step_8 ml_X6_170 cw_X0_take iw_X0_take (by first | rfl | assumption) rfl (by unfold vRoom; decide) (c_X0_take hB hW hH) rfl rfl (Nat.le_of_ble_eq_true rfl) (hH.le) ?_
  rintro x8 T1 M1 hx8 (⟨q1, rfl, rfl, rfl⟩ | ⟨q1, rfl, q2, q3, q4, q5, q6⟩)
  · skip
    refine vV.istore_n (L' := [_, _, _]) dX6_step_11 (by decide) rfl ?_
    refine vV.iload_n dX6_step_12 rfl ?_
    refine vV.if_ge (tgt := 19) dX6_step_13 (by decide) (fun h13 => ?_) (fun h13 => ?_)
    · skip
      omega
    · skip
      refine vV.bipush (v := (-3)) dX6_step_16 (by decide) (by decide) ?_
      refine vV.ri dX6_step_18 rfl ?_
      exact ⟨xoS.no hB q1, Or.inl ⟨q1, rfl⟩⟩
  · have hE := xEc_ok hW q1
    have hs := xSc_st hW
    have hB := q3.2
    refine vV.istore_n (L' := [_, _, _]) dX6_step_11 (by decide) rfl ?_
    refine vV.iload_n dX6_step_12 rfl ?_
    refine vV.if_ge (tgt := 19) dX6_step_13 (by decide) (fun h13 => ?_) (fun h13 => ?_)
    · skip
      refine vV.aload_n dX6_step_19 rfl ?_
      refine vV.getr dX6_step_20 fl_X6_54 (by first | rfl | assumption) rfl (by first | assumption | exact hB _ _ _ rfl) ?_
      refine vV.iload_n dX6_step_23 rfl ?_
      refine vV.cVi dX6_step_24 ml_X6_181 cw_X0_bestThing iw_X0_bestThing (by first | rfl | assumption) rfl (by unfold vRoom; decide) (c_X0_bestThing q3.2 q4 hE q6 hs q5) rfl rfl (Nat.le_of_ble_eq_true rfl) ?_
      rintro x24 _ N hx24 ⟨rfl, m1, m2, m3⟩
      have hS : xoS T M n T1 N := xoS.ye q1 q2 q3 q4 m1 m2
      have h6 := stQ_6 m3
      refine vV.istore_n (L' := [_, _, _]) dX6_step_27 (by decide) rfl ?_
      refine vV.iload_n dX6_step_28 rfl ?_
      refine vV.if_ge (tgt := 37) dX6_step_29 (by decide) (fun h29 => ?_) (fun h29 => ?_)
      · skip
        refine vV.iload_n dX6_step_37 rfl ?_
        refine vV.ri dX6_step_38 rfl ?_
        first | (rw [if_pos (by omega)] at h6; exact ⟨hS, Or.inr ⟨q1, h6⟩⟩) | (rw [if_neg (by omega)] at h6; exact ⟨hS, Or.inr ⟨q1, h6⟩⟩)
      · skip
        refine vV.bipush (v := (-6)) dX6_step_32 (by decide) (by decide) ?_
        refine vV.goto (tgt := 38) dX6_step_34 (by decide) ?_
        refine vV.ri dX6_step_38 rfl ?_
        first | (rw [if_pos (by omega)] at h6; exact ⟨hS, Or.inr ⟨q1, h6⟩⟩) | (rw [if_neg (by omega)] at h6; exact ⟨hS, Or.inr ⟨q1, h6⟩⟩)
    · skip
      omega
  skip
theorem dX6_bow_0 : decode cX6_bow 0 = .ok (.iload_n 1, 1) := by decide +kernel
theorem dX6_bow_1 : decode cX6_bow 1 = .ok (.iconst 1, 1) := by decide +kernel
theorem dX6_bow_2 : decode cX6_bow 2 = .ok (.bipush 9, 2) := by decide +kernel
theorem dX6_bow_4 : decode cX6_bow 4 = .ok (.invokestatic 58, 3) := by decide +kernel
theorem dX6_bow_7 : decode cX6_bow 7 = .ok (.ifCond .ne 6, 3) := by decide +kernel
theorem dX6_bow_10 : decode cX6_bow 10 = .ok (.bipush (-2), 2) := by decide +kernel
theorem dX6_bow_12 : decode cX6_bow 12 = .ok (.ireturn, 1) := by decide +kernel
theorem dX6_bow_13 : decode cX6_bow 13 = .ok (.aload_n 0, 1) := by decide +kernel
theorem dX6_bow_14 : decode cX6_bow 14 = .ok (.getfield 54, 3) := by decide +kernel
theorem dX6_bow_17 : decode cX6_bow 17 = .ok (.aload_n 0, 1) := by decide +kernel
theorem dX6_bow_18 : decode cX6_bow 18 = .ok (.getfield 10, 3) := by decide +kernel
theorem dX6_bow_21 : decode cX6_bow 21 = .ok (.invokevirtual 170, 3) := by decide +kernel
theorem dX6_bow_24 : decode cX6_bow 24 = .ok (.istore_n 2, 1) := by decide +kernel
theorem dX6_bow_25 : decode cX6_bow 25 = .ok (.iload_n 2, 1) := by decide +kernel
theorem dX6_bow_26 : decode cX6_bow 26 = .ok (.ifCond .ge 6, 3) := by decide +kernel
theorem dX6_bow_29 : decode cX6_bow 29 = .ok (.bipush (-3), 2) := by decide +kernel
theorem dX6_bow_31 : decode cX6_bow 31 = .ok (.ireturn, 1) := by decide +kernel
theorem dX6_bow_32 : decode cX6_bow 32 = .ok (.aload_n 0, 1) := by decide +kernel
theorem dX6_bow_33 : decode cX6_bow 33 = .ok (.getfield 54, 3) := by decide +kernel
theorem dX6_bow_36 : decode cX6_bow 36 = .ok (.iload_n 2, 1) := by decide +kernel
theorem dX6_bow_37 : decode cX6_bow 37 = .ok (.iload_n 1, 1) := by decide +kernel
theorem dX6_bow_38 : decode cX6_bow 38 = .ok (.invokevirtual 184, 3) := by decide +kernel
theorem dX6_bow_41 : decode cX6_bow 41 = .ok (.istore_n 3, 1) := by decide +kernel
theorem dX6_bow_42 : decode cX6_bow 42 = .ok (.iload_n 3, 1) := by decide +kernel
theorem dX6_bow_43 : decode cX6_bow 43 = .ok (.ifCond .ge 8, 3) := by decide +kernel
theorem dX6_bow_46 : decode cX6_bow 46 = .ok (.bipush (-6), 2) := by decide +kernel
theorem dX6_bow_48 : decode cX6_bow 48 = .ok (.goto 4, 3) := by decide +kernel
theorem dX6_bow_51 : decode cX6_bow 51 = .ok (.iload_n 3, 1) := by decide +kernel
theorem dX6_bow_52 : decode cX6_bow 52 = .ok (.ireturn, 1) := by decide +kernel
theorem bowQ_6 {E : xE} {s : xS} {n r : Int} (h : bowQ (-1) E s n r) : bowQ (-6) E s n (if r < 0 then -6 else r) := by
  rcases h with ⟨t, a, b, c⟩ | ⟨a, b⟩
  · rw [if_neg (by omega)]; exact Or.inl ⟨t, a, b, c⟩
  · rw [if_pos (by omega)]; exact Or.inr ⟨rfl, b⟩
theorem c_X6_bow_o {d : List Nat} {T : vT} {M : vM} {m : Int} (h : ¬ (1 ≤ m ∧ m ≤ 9)) : vCon m_X6_bow d d [vR 0, vI m] T M (vPi fun r T1 M1 => r = -2 ∧ T = T1 ∧ M = M1) := by
  refine vCon.of (by decide) rfl rfl (Nat.le_of_ble_eq_true rfl) ?_
  refine vV.iload_n dX6_bow_0 rfl ?_
  refine vV.iconst dX6_bow_1 (by decide) ?_
  refine vV.bipush (v := 9) dX6_bow_2 (by decide) (by decide) ?_
  refine vV.cSi dX6_bow_4 ml_X6_58 cw_X6_within sw_X6_within (by unfold vRoom; decide) c_X6_within rfl rfl (Nat.le_of_ble_eq_true rfl) ?_
  rintro x4 _ _ hx4 ⟨hy4, rfl, rfl⟩
  refine vV.if_ne (tgt := 13) dX6_bow_7 (by decide) (fun h7 => ?_) (fun h7 => ?_)
  · skip
    exact absurd (yes01 hy4 h7) h
  · skip
    refine vV.bipush (v := (-2)) dX6_bow_10 (by decide) (by decide) ?_
    refine vV.ri dX6_bow_12 rfl ?_
    exact ⟨rfl, rfl, rfl⟩
theorem c_X6_bow {d d1 : List Nat} {T : vT} {M : vM} {n : Nat} {m : Int} (hB : vB T) (hW : sgW M 10 n) (hH : tkH T M n d d1) (hm : 1 ≤ m ∧ m ≤ 9) : vCon m_X6_bow d d1 [vR 0, vI m] T M (vPi fun r T1 M1 => xoS T M n T1 M1 ∧ bwQ (xok3 M n) (xEc M n) (xSc M n) m r) := by
  refine vCon.of (by decide) rfl rfl (Nat.le_of_ble_eq_true rfl) ?_
  refine vV.iload_n dX6_bow_0 rfl ?_
  refine vV.iconst dX6_bow_1 (by decide) ?_
  refine vV.bipush (v := 9) dX6_bow_2 (by decide) (by decide) ?_
  refine vV.cSi dX6_bow_4 ml_X6_58 cw_X6_within sw_X6_within (by unfold vRoom; decide) c_X6_within rfl rfl (Nat.le_of_ble_eq_true rfl) ?_
  rintro x4 _ _ hx4 ⟨hy4, rfl, rfl⟩
  refine vV.if_ne (tgt := 13) dX6_bow_7 (by decide) (fun h7 => ?_) (fun h7 => ?_)
  · skip
    refine vV.aload_n dX6_bow_13 rfl ?_
    refine vV.getr dX6_bow_14 fl_X6_54 (by first | rfl | assumption) rfl (by first | assumption | exact hB _ _ _ rfl) ?_
    refine vV.aload_n dX6_bow_17 rfl ?_
    refine vV.getr dX6_bow_18 fl_X6_10 (by first | rfl | assumption) rfl (by first | assumption | exact hB _ _ _ rfl) ?_
    refine vV.cVig dX6_bow_21 ml_X6_170 cw_X0_take iw_X0_take (by first | rfl | assumption) rfl (by unfold vRoom; decide) (c_X0_take hB hW hH) rfl rfl (Nat.le_of_ble_eq_true rfl) (hH.le) ?_
    rintro x8 T1 M1 hx8 (⟨q1, rfl, rfl, rfl⟩ | ⟨q1, rfl, q2, q3, q4, q5, q6⟩)
    · skip
      refine vV.istore_n (L' := [_, _, _, _]) dX6_bow_24 (by decide) rfl ?_
      refine vV.iload_n dX6_bow_25 rfl ?_
      refine vV.if_ge (tgt := 32) dX6_bow_26 (by decide) (fun h26 => ?_) (fun h26 => ?_)
      · skip
        omega
      · skip
        refine vV.bipush (v := (-3)) dX6_bow_29 (by decide) (by decide) ?_
        refine vV.ri dX6_bow_31 rfl ?_
        exact ⟨xoS.no hB q1, Or.inl ⟨q1, rfl⟩⟩
    · have hE := xEc_ok hW q1
      have hs := xSc_st hW
      have hB := q3.2
      refine vV.istore_n (L' := [_, _, _, _]) dX6_bow_24 (by decide) rfl ?_
      refine vV.iload_n dX6_bow_25 rfl ?_
      refine vV.if_ge (tgt := 32) dX6_bow_26 (by decide) (fun h26 => ?_) (fun h26 => ?_)
      · skip
        refine vV.aload_n dX6_bow_32 rfl ?_
        refine vV.getr dX6_bow_33 fl_X6_54 (by first | rfl | assumption) rfl (by first | assumption | exact hB _ _ _ rfl) ?_
        refine vV.iload_n dX6_bow_36 rfl ?_
        refine vV.iload_n dX6_bow_37 rfl ?_
        refine vV.cVi dX6_bow_38 ml_X6_184 cw_X0_soonestBow iw_X0_soonestBow (by first | rfl | assumption) rfl (by unfold vRoom; decide) (c_X0_soonestBow q3.2 q4 hE q6 hs q5 hm) rfl rfl (Nat.le_of_ble_eq_true rfl) ?_
        rintro x38 _ N hx38 ⟨rfl, m1, m2, m3⟩
        have hS : xoS T M n T1 N := xoS.ye q1 q2 q3 q4 m1 m2
        have h6 := bowQ_6 m3
        refine vV.istore_n (L' := [_, _, _, _]) dX6_bow_41 (by decide) rfl ?_
        refine vV.iload_n dX6_bow_42 rfl ?_
        refine vV.if_ge (tgt := 51) dX6_bow_43 (by decide) (fun h43 => ?_) (fun h43 => ?_)
        · skip
          refine vV.iload_n dX6_bow_51 rfl ?_
          refine vV.ri dX6_bow_52 rfl ?_
          first | (rw [if_pos (by omega)] at h6; exact ⟨hS, Or.inr ⟨q1, h6⟩⟩) | (rw [if_neg (by omega)] at h6; exact ⟨hS, Or.inr ⟨q1, h6⟩⟩)
        · skip
          refine vV.bipush (v := (-6)) dX6_bow_46 (by decide) (by decide) ?_
          refine vV.goto (tgt := 52) dX6_bow_48 (by decide) ?_
          refine vV.ri dX6_bow_52 rfl ?_
          first | (rw [if_pos (by omega)] at h6; exact ⟨hS, Or.inr ⟨q1, h6⟩⟩) | (rw [if_neg (by omega)] at h6; exact ⟨hS, Or.inr ⟨q1, h6⟩⟩)
      · skip
        omega
    skip
  · skip
    exact absurd hm (no01 hy4 h7)
theorem dX6_gasps_0 : decode cX6_gasps 0 = .ok (.iload_n 1, 1) := by decide +kernel
theorem dX6_gasps_1 : decode cX6_gasps 1 = .ok (.iconst 1, 1) := by decide +kernel
theorem dX6_gasps_2 : decode cX6_gasps 2 = .ok (.bipush 30, 2) := by decide +kernel
theorem dX6_gasps_4 : decode cX6_gasps 4 = .ok (.invokestatic 58, 3) := by decide +kernel
theorem dX6_gasps_7 : decode cX6_gasps 7 = .ok (.ifCond .eq 12, 3) := by decide +kernel
theorem dX6_gasps_10 : decode cX6_gasps 10 = .ok (.iload_n 2, 1) := by decide +kernel
theorem dX6_gasps_11 : decode cX6_gasps 11 = .ok (.iconst 0, 1) := by decide +kernel
theorem dX6_gasps_12 : decode cX6_gasps 12 = .ok (.iconst 1, 1) := by decide +kernel
theorem dX6_gasps_13 : decode cX6_gasps 13 = .ok (.invokestatic 58, 3) := by decide +kernel
theorem dX6_gasps_16 : decode cX6_gasps 16 = .ok (.ifCond .ne 6, 3) := by decide +kernel
theorem dX6_gasps_19 : decode cX6_gasps 19 = .ok (.bipush (-2), 2) := by decide +kernel
theorem dX6_gasps_21 : decode cX6_gasps 21 = .ok (.ireturn, 1) := by decide +kernel
theorem dX6_gasps_22 : decode cX6_gasps 22 = .ok (.aload_n 0, 1) := by decide +kernel
theorem dX6_gasps_23 : decode cX6_gasps 23 = .ok (.getfield 54, 3) := by decide +kernel
theorem dX6_gasps_26 : decode cX6_gasps 26 = .ok (.aload_n 0, 1) := by decide +kernel
theorem dX6_gasps_27 : decode cX6_gasps 27 = .ok (.getfield 10, 3) := by decide +kernel
theorem dX6_gasps_30 : decode cX6_gasps 30 = .ok (.invokevirtual 170, 3) := by decide +kernel
theorem dX6_gasps_33 : decode cX6_gasps 33 = .ok (.istore_n 3, 1) := by decide +kernel
theorem dX6_gasps_34 : decode cX6_gasps 34 = .ok (.iload_n 3, 1) := by decide +kernel
theorem dX6_gasps_35 : decode cX6_gasps 35 = .ok (.ifCond .ge 6, 3) := by decide +kernel
theorem dX6_gasps_38 : decode cX6_gasps 38 = .ok (.bipush (-3), 2) := by decide +kernel
theorem dX6_gasps_40 : decode cX6_gasps 40 = .ok (.ireturn, 1) := by decide +kernel
theorem dX6_gasps_41 : decode cX6_gasps 41 = .ok (.aload_n 0, 1) := by decide +kernel
theorem dX6_gasps_42 : decode cX6_gasps 42 = .ok (.getfield 54, 3) := by decide +kernel
theorem dX6_gasps_45 : decode cX6_gasps 45 = .ok (.iload_n 3, 1) := by decide +kernel
theorem dX6_gasps_46 : decode cX6_gasps 46 = .ok (.iload_n 1, 1) := by decide +kernel
theorem dX6_gasps_47 : decode cX6_gasps 47 = .ok (.invokevirtual 188, 3) := by decide +kernel
theorem dX6_gasps_50 : decode cX6_gasps 50 = .ok (.istore 4, 2) := by decide +kernel
theorem dX6_gasps_52 : decode cX6_gasps 52 = .ok (.iload 4, 2) := by decide +kernel
theorem dX6_gasps_54 : decode cX6_gasps 54 = .ok (.ifCond .ge 6, 3) := by decide +kernel
theorem dX6_gasps_57 : decode cX6_gasps 57 = .ok (.bipush (-6), 2) := by decide +kernel
theorem dX6_gasps_59 : decode cX6_gasps 59 = .ok (.ireturn, 1) := by decide +kernel
theorem dX6_gasps_60 : decode cX6_gasps 60 = .ok (.iload_n 2, 1) := by decide +kernel
theorem dX6_gasps_61 : decode cX6_gasps 61 = .ok (.ifCond .ne 11, 3) := by decide +kernel
theorem dX6_gasps_64 : decode cX6_gasps 64 = .ok (.iload 4, 2) := by decide +kernel
theorem dX6_gasps_66 : decode cX6_gasps 66 = .ok (.invokestatic 191, 3) := by decide +kernel
theorem dX6_gasps_69 : decode cX6_gasps 69 = .ok (.goto 8, 3) := by decide +kernel
theorem dX6_gasps_72 : decode cX6_gasps 72 = .ok (.iload 4, 2) := by decide +kernel
theorem dX6_gasps_74 : decode cX6_gasps 74 = .ok (.invokestatic 194, 3) := by decide +kernel
theorem dX6_gasps_77 : decode cX6_gasps 77 = .ok (.ireturn, 1) := by decide +kernel
theorem c_X6_gasps_o {d : List Nat} {T : vT} {M : vM} {m w : Int} (h : ¬ ((1 ≤ m ∧ m ≤ 30) ∧ 0 ≤ w ∧ w ≤ 1)) : vCon m_X6_gasps d d [vR 0, vI m, vI w] T M (vPi fun r T1 M1 => r = -2 ∧ T = T1 ∧ M = M1) := by
  refine vCon.of (by decide) rfl rfl (Nat.le_of_ble_eq_true rfl) ?_
  refine vV.iload_n dX6_gasps_0 rfl ?_
  refine vV.iconst dX6_gasps_1 (by decide) ?_
  refine vV.bipush (v := 30) dX6_gasps_2 (by decide) (by decide) ?_
  refine vV.cSi dX6_gasps_4 ml_X6_58 cw_X6_within sw_X6_within (by unfold vRoom; decide) c_X6_within rfl rfl (Nat.le_of_ble_eq_true rfl) ?_
  rintro x4 _ _ hx4 ⟨hy4, rfl, rfl⟩
  refine vV.if_eq (tgt := 19) dX6_gasps_7 (by decide) (fun h7 => ?_) (fun h7 => ?_)
  · skip
    refine vV.bipush (v := (-2)) dX6_gasps_19 (by decide) (by decide) ?_
    refine vV.ri dX6_gasps_21 rfl ?_
    exact ⟨rfl, rfl, rfl⟩
  · skip
    refine vV.iload_n dX6_gasps_10 rfl ?_
    refine vV.iconst dX6_gasps_11 (by decide) ?_
    refine vV.iconst dX6_gasps_12 (by decide) ?_
    refine vV.cSi dX6_gasps_13 ml_X6_58 cw_X6_within sw_X6_within (by unfold vRoom; decide) c_X6_within rfl rfl (Nat.le_of_ble_eq_true rfl) ?_
    rintro x13 _ _ hx13 ⟨hy13, rfl, rfl⟩
    refine vV.if_ne (tgt := 22) dX6_gasps_16 (by decide) (fun h16 => ?_) (fun h16 => ?_)
    · skip
      exact absurd ⟨yes01 hy4 h7, yes01 hy13 h16⟩ h
    · skip
      refine vV.bipush (v := (-2)) dX6_gasps_19 (by decide) (by decide) ?_
      refine vV.ri dX6_gasps_21 rfl ?_
      exact ⟨rfl, rfl, rfl⟩
theorem c_X6_gasps {d d1 : List Nat} {T : vT} {M : vM} {n m : Nat} {w : Int} (hB : vB T) (hW : sgW M 10 n) (hH : tkH T M n d d1) (hm : 1 ≤ m ∧ m ≤ 30) (hw : 0 ≤ w ∧ w ≤ 1) : vCon m_X6_gasps d d1 [vR 0, vI m, vI w] T M (vPi fun r T1 M1 => xoS T M n T1 M1 ∧ gzQ (xok3 M n) (xEc M n) (xSc M n) m w r) := by
  refine vCon.of (by decide) rfl rfl (Nat.le_of_ble_eq_true rfl) ?_
  refine vV.iload_n dX6_gasps_0 rfl ?_
  refine vV.iconst dX6_gasps_1 (by decide) ?_
  refine vV.bipush (v := 30) dX6_gasps_2 (by decide) (by decide) ?_
  refine vV.cSi dX6_gasps_4 ml_X6_58 cw_X6_within sw_X6_within (by unfold vRoom; decide) c_X6_within rfl rfl (Nat.le_of_ble_eq_true rfl) ?_
  rintro x4 _ _ hx4 ⟨hy4, rfl, rfl⟩
  refine vV.if_eq (tgt := 19) dX6_gasps_7 (by decide) (fun h7 => ?_) (fun h7 => ?_)
  · skip
    exact absurd (show (1 : Int) ≤ (m : Int) ∧ (m : Int) ≤ 30 by omega) (no01 hy4 h7)
  · skip
    refine vV.iload_n dX6_gasps_10 rfl ?_
    refine vV.iconst dX6_gasps_11 (by decide) ?_
    refine vV.iconst dX6_gasps_12 (by decide) ?_
    refine vV.cSi dX6_gasps_13 ml_X6_58 cw_X6_within sw_X6_within (by unfold vRoom; decide) c_X6_within rfl rfl (Nat.le_of_ble_eq_true rfl) ?_
    rintro x13 _ _ hx13 ⟨hy13, rfl, rfl⟩
    refine vV.if_ne (tgt := 22) dX6_gasps_16 (by decide) (fun h16 => ?_) (fun h16 => ?_)
    · skip
      refine vV.aload_n dX6_gasps_22 rfl ?_
      refine vV.getr dX6_gasps_23 fl_X6_54 (by first | rfl | assumption) rfl (by first | assumption | exact hB _ _ _ rfl) ?_
      refine vV.aload_n dX6_gasps_26 rfl ?_
      refine vV.getr dX6_gasps_27 fl_X6_10 (by first | rfl | assumption) rfl (by first | assumption | exact hB _ _ _ rfl) ?_
      refine vV.cVig dX6_gasps_30 ml_X6_170 cw_X0_take iw_X0_take (by first | rfl | assumption) rfl (by unfold vRoom; decide) (c_X0_take hB hW hH) rfl rfl (Nat.le_of_ble_eq_true rfl) (hH.le) ?_
      rintro x8 T1 M1 hx8 (⟨q1, rfl, rfl, rfl⟩ | ⟨q1, rfl, q2, q3, q4, q5, q6⟩)
      · skip
        refine vV.istore_n (L' := [_, _, _, _, _]) dX6_gasps_33 (by decide) rfl ?_
        refine vV.iload_n dX6_gasps_34 rfl ?_
        refine vV.if_ge (tgt := 41) dX6_gasps_35 (by decide) (fun h35 => ?_) (fun h35 => ?_)
        · skip
          omega
        · skip
          refine vV.bipush (v := (-3)) dX6_gasps_38 (by decide) (by decide) ?_
          refine vV.ri dX6_gasps_40 rfl ?_
          exact ⟨xoS.no hB q1, Or.inl ⟨q1, rfl⟩⟩
      · have hE := xEc_ok hW q1
        have hs := xSc_st hW
        have hB := q3.2
        refine vV.istore_n (L' := [_, _, _, _, _]) dX6_gasps_33 (by decide) rfl ?_
        refine vV.iload_n dX6_gasps_34 rfl ?_
        refine vV.if_ge (tgt := 41) dX6_gasps_35 (by decide) (fun h35 => ?_) (fun h35 => ?_)
        · skip
          refine vV.aload_n dX6_gasps_41 rfl ?_
          refine vV.getr dX6_gasps_42 fl_X6_54 (by first | rfl | assumption) rfl (by first | assumption | exact hB _ _ _ rfl) ?_
          refine vV.iload_n dX6_gasps_45 rfl ?_
          refine vV.iload_n dX6_gasps_46 rfl ?_
          refine vV.cVi dX6_gasps_47 ml_X6_188 cw_X0_mostWorth iw_X0_mostWorth (by first | rfl | assumption) rfl (by unfold vRoom; decide) (c_X0_mostWorth q3.2 q4 hE q6 hs q5 hm) rfl rfl (Nat.le_of_ble_eq_true rfl) ?_
          rintro x47 _ N hx47 ⟨rfl, m1, m2, m3⟩
          have hS : xoS T M n T1 N := xoS.ye q1 q2 q3 q4 m1 m2
          refine vV.istore (L' := [_, _, _, _, _]) dX6_gasps_50 (by decide) rfl ?_
          refine vV.iload dX6_gasps_52 rfl ?_
          refine vV.if_ge (tgt := 60) dX6_gasps_54 (by decide) (fun h54 => ?_) (fun h54 => ?_)
          · skip
            obtain ⟨w2, rfl, z1, z2⟩ := m3.resolve_left (fun z => by omega)
            have hwl : w2 ≤ 12 * m + 3 := by { obtain ⟨s2, hs2⟩ := z1; exact xW_le hE hs2 }
            refine vV.iload_n dX6_gasps_60 rfl ?_
            refine vV.if_ne (tgt := 72) dX6_gasps_61 (by decide) (fun h61 => ?_) (fun h61 => ?_)
            · skip
              refine vV.iload dX6_gasps_72 rfl ?_
              refine vV.cSi dX6_gasps_74 ml_X6_194 cw_X0_firstThingOf sw_X0_firstThingOf (by unfold vRoom; decide) (c_X0_firstThingOf (by omega)) rfl rfl (Nat.le_of_ble_eq_true rfl) ?_
              rintro x74 _ _ hx74 ⟨rfl, rfl, rfl⟩
              refine vV.ri dX6_gasps_77 rfl ?_
              first | exact ⟨hS, Or.inr ⟨q1, Or.inr ⟨w2, z1, z2, by rw [if_pos (by omega)]⟩⟩⟩ | exact ⟨hS, Or.inr ⟨q1, Or.inr ⟨w2, z1, z2, by rw [if_neg (by omega)]⟩⟩⟩
            · skip
              refine vV.iload dX6_gasps_64 rfl ?_
              refine vV.cSi dX6_gasps_66 ml_X6_191 cw_X0_gaspsOf sw_X0_gaspsOf (by unfold vRoom; decide) (c_X0_gaspsOf (by omega)) rfl rfl (Nat.le_of_ble_eq_true rfl) ?_
              rintro x66 _ _ hx66 ⟨rfl, rfl, rfl⟩
              refine vV.goto (tgt := 77) dX6_gasps_69 (by decide) ?_
              refine vV.ri dX6_gasps_77 rfl ?_
              first | exact ⟨hS, Or.inr ⟨q1, Or.inr ⟨w2, z1, z2, by rw [if_pos (by omega)]⟩⟩⟩ | exact ⟨hS, Or.inr ⟨q1, Or.inr ⟨w2, z1, z2, by rw [if_neg (by omega)]⟩⟩⟩
          · skip
            refine vV.bipush (v := (-6)) dX6_gasps_57 (by decide) (by decide) ?_
            refine vV.ri dX6_gasps_59 rfl ?_
            exact ⟨hS, Or.inr ⟨q1, Or.inl ⟨rfl, m3.elim (fun z => z.2) (fun ⟨w2, z, _⟩ => by omega)⟩⟩⟩
        · skip
          omega
      skip
    · skip
      exact absurd hw (no01 hy13 h16)
