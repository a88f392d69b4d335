/-! ===== own: the reference: kept, longest, step ===== -/
def kxK : List Nat := [200, 229, 231, 233, 234, 235]
def kxS (M M1 : vM) : Prop := mSame kxK M M1 ∧ mSlot [29, 31] M M1
def xokR (M : vM) (n : Nat) : Prop := 1 ≤ exc (M 204) n ∧ exc (M 204) n ≤ 3
theorem feI.k {M N : vM} {n : Nat} (h : feI M N n) : kxS M N := ⟨fun k hk => h.1 k (by unfold kxK at hk; simp at hk ⊢; omega), fun j hj => h.2.1 j (by simp at hj ⊢; omega)⟩
theorem kxS.ly {M M1 M2 : vM} (h : kxS M M1) (h2 : lyS M1 M2) : kxS M M2 := ⟨fun k hk => (h2.1 k (by unfold kxK at hk; simp at hk ⊢; omega)).trans (h.1 k hk), fun j hj => (h2.2 j (by simp at hj ⊢; omega)).trans (h.2 j hj)⟩
theorem kxS.e {M N : vM} {n : Nat} (h : kxS M N) : xEr N n = xEr M n ∧ xSr N n = xSr M n := by
  unfold xEr xSr
  rw [h.1 201 (by decide), h.1 202 (by decide), h.1 203 (by decide), h.1 204 (by decide), h.2 5 (by decide), h.2 6 (by decide)]
  exact ⟨rfl, rfl⟩
theorem kxS.w {M N : vM} {n : Nat} (h : kxS M N) (hW : mW M n) : mW N n := by
  obtain ⟨w1, w2, w3, w4⟩ := hW
  have e : seM N = seM M := by unfold seM; rw [h.2 5 (by decide), h.2 6 (by decide), h.2 7 (by decide), h.2 8 (by decide), h.2 9 (by decide)]
  refine ⟨by rw [h.2 4 (by decide)]; exact w1, ?_, by rw [h.1 211 (by decide)]; exact w3, by rw [h.1 212 (by decide)]; exact w4⟩
  rw [e, h.1 201 (by decide), h.1 202 (by decide), h.1 203 (by decide), h.1 204 (by decide)]
  exact w2
theorem feI.self {M N : vM} {n : Nat} (h : feI M N n) : feI N N n := by
  obtain ⟨a1, a2, a3, a4⟩ := h
  have e : N 204 = M 204 := a1 204 (by decide)
  exact ⟨fun _ _ => rfl, fun _ _ => rfl, by rw [e]; exact a3, fun k h1 h2 => by rw [e] at h1 ⊢; exact a4 k h1 h2⟩
theorem feI.mv {N N2 : vM} {n : Nat} (h : feI N N n) (h204 : N2 204 = N 204) (h29 : N2 200 29 = N 200 29) (h229 : N2 229 = N 229) : feI N2 N2 n := by
  obtain ⟨a1, a2, a3, a4⟩ := h
  exact ⟨fun _ _ => rfl, fun _ _ => rfl, by rw [h204, h29]; exact a3, fun k h1 h2 => by rw [h204] at h1 ⊢; rw [h229]; exact a4 k h1 h2⟩
theorem lvC_fe {M N : vM} {n : Nat} (h : feI M N n) (hC : lvC M n) : lvC N n := by
  unfold lvC at hC ⊢
  rw [h.2.1 31 (by decide), h.1 201 (by decide), h.1 202 (by decide), h.1 203 (by decide), h.1 231 (by decide), h.2.1 6 (by decide)]
  exact hC
theorem xEr_ok {M : vM} {n : Nat} (hW : mW M n) (h : xokR M n) : xEok (xEr M n) := xEof_ok (se := seM M) hW.2.1 h.1 h.2
theorem xSr_st {M : vM} {n : Nat} (hW : mW M n) : xSt (xEr M n) (xSr M n) := xS0_st (se := seM M) hW.2.1
theorem dX7_kept_0 : decode cX7_kept 0 = .ok (.aload_n 0, 1) := by decide +kernel
theorem dX7_kept_1 : decode cX7_kept 1 = .ok (.invokevirtual 269, 3) := by decide +kernel
theorem dX7_kept_4 : decode cX7_kept 4 = .ok (.ifCond .ne 6, 3) := by decide +kernel
theorem dX7_kept_7 : decode cX7_kept 7 = .ok (.bipush (-3), 2) := by decide +kernel
theorem dX7_kept_9 : decode cX7_kept 9 = .ok (.ireturn, 1) := by decide +kernel
theorem dX7_kept_10 : decode cX7_kept 10 = .ok (.aload_n 0, 1) := by decide +kernel
theorem dX7_kept_11 : decode cX7_kept 11 = .ok (.invokevirtual 272, 3) := by decide +kernel
theorem dX7_kept_14 : decode cX7_kept 14 = .ok (.aload_n 0, 1) := by decide +kernel
theorem dX7_kept_15 : decode cX7_kept 15 = .ok (.getfield 53, 3) := by decide +kernel
theorem dX7_kept_18 : decode cX7_kept 18 = .ok (.aload_n 0, 1) := by decide +kernel
theorem dX7_kept_19 : decode cX7_kept 19 = .ok (.invokevirtual 275, 3) := by decide +kernel
theorem dX7_kept_22 : decode cX7_kept 22 = .ok (.iaload, 1) := by decide +kernel
theorem dX7_kept_23 : decode cX7_kept 23 = .ok (.ifCond .ge 7, 3) := by decide +kernel
theorem dX7_kept_26 : decode cX7_kept 26 = .ok (.iconst 1, 1) := by decide +kernel
theorem dX7_kept_27 : decode cX7_kept 27 = .ok (.goto 4, 3) := by decide +kernel
theorem dX7_kept_30 : decode cX7_kept 30 = .ok (.iconst 0, 1) := by decide +kernel
theorem dX7_kept_31 : decode cX7_kept 31 = .ok (.ireturn, 1) := by decide +kernel
theorem c_X7_kept {d : List Nat} {T : vT} {M : vM} {n : Nat} (hB : vB T) (hW : mW M n) (hC : lvC M n) : vCon m_X7_kept d d [vR 200] T M (vPi fun r T1 M1 => T = T1 ∧ kxS M M1 ∧ lvC M1 n ∧ kpQ (xokR M n) (xEr M n) (xSr M n) r) := by
  have hn : n ≤ 6 := hW.2.1.1
  refine vCon.of (by decide) rfl rfl (Nat.le_of_ble_eq_true rfl) ?_
  refine vV.aload_n dX7_kept_0 rfl ?_
  refine vV.cVi dX7_kept_1 ml_X7_269 cw_X7_findExact iw_X7_findExact (by first | rfl | assumption) rfl (by unfold vRoom; decide) (c_X7_findExact hB hW.1 hn) rfl rfl (Nat.le_of_ble_eq_true rfl) ?_
  rintro x1 _ N hx1 ⟨rfl, hI, hy1⟩
  have hkN := hI.k
  have hWN := hkN.w hW
  obtain ⟨eE, eS⟩ := hkN.e (n := n)
  have hIN := hI.self
  have hCN := lvC_fe hI hC
  have r204 : N 204 = M 204 := hI.1 204 (by decide)
  refine vV.if_ne (tgt := 10) dX7_kept_4 (by decide) (fun h4 => ?_) (fun h4 => ?_)
  · skip
    have hok : xokR M n := (show 1 ≤ exc (M 204) n ∧ exc (M 204) n ≤ 3 from yes01 hy1 (by assumption))
    have hokN : 1 ≤ exc (N 204) n ∧ exc (N 204) n ≤ 3 := by rw [r204]; exact hok
    have hE := xEr_ok hW hok
    have hs := xSr_st hW
    have hEN : xEok (xEr N n) := by rw [eE]; exact hE
    have hXN : rX N (xEr N n) := hIN.x hn hokN.2
    have hps := enR_lt (hs.ok hE)
    refine vV.aload_n dX7_kept_10 rfl ?_
    refine vV.cVv dX7_kept_11 ml_X7_272 cw_X7_layLives iw_X7_layLives (by first | rfl | assumption) rfl (by unfold vRoom; decide) (c_X7_layLives hB hWN.1 hn hEN hXN hCN hokN) rfl rfl (Nat.le_of_ble_eq_true rfl) ?_
    rintro _ N2 ⟨rfl, hL, hC2, hOk⟩
    rw [eE] at hOk
    have hk2 := hkN.ly hL
    have hIN2 : feI N2 N2 n := hIN.mv (hL.1 204 (by decide)) (hL.2 29 (by decide)) (hL.1 229 (by decide))
    have hWN2 := hk2.w hW
    obtain ⟨eE2, eS2⟩ := hk2.e (n := n)
    have hok2 : exc (N2 204) n ≤ 3 := by rw [hL.1 204 (by decide)]; exact hokN.2
    have hsn := fun (d : List Nat) => c_X7_stateNow (d := d) (T := T) hB hWN2 hIN2 hok2
    rw [eS2] at hsn
    have hl := hOk (xSr M n) hs
    refine vV.aload_n dX7_kept_14 rfl ?_
    refine vV.getr dX7_kept_15 fl_X7_53 (by first | rfl | assumption) rfl (by first | assumption | exact hB _ _ _ rfl) ?_
    refine vV.aload_n dX7_kept_18 rfl ?_
    refine vV.cVi dX7_kept_19 ml_X7_275 cw_X7_stateNow iw_X7_stateNow (by first | rfl | assumption) rfl (by unfold vRoom; decide) (hsn d) rfl rfl (Nat.le_of_ble_eq_true rfl) ?_
    rintro x19 _ _ hx19 ⟨rfl, rfl, rfl⟩
    refine vV.iald dX7_kept_22 (by first | rfl | assumption) (by omega) (by omega) ?_
    refine vV.if_ge (tgt := 30) dX7_kept_23 (by decide) (fun h23 => ?_) (fun h23 => ?_)
    · skip
      refine vV.iconst dX7_kept_30 (by decide) ?_
      refine vV.ri dX7_kept_31 rfl ?_
      first | exact ⟨rfl, hk2, hC2, Or.inr ⟨hok, Or.inl ⟨rfl, hl.elim (fun z => z.2) (fun ⟨w, w1, _⟩ => by omega)⟩⟩⟩ | exact ⟨rfl, hk2, hC2, Or.inr ⟨hok, Or.inr ⟨rfl, hl.elim (fun z => by omega) (fun ⟨w, _, w2⟩ => xL_e w2)⟩⟩⟩
    · skip
      refine vV.iconst dX7_kept_26 (by decide) ?_
      refine vV.goto (tgt := 31) dX7_kept_27 (by decide) ?_
      refine vV.ri dX7_kept_31 rfl ?_
      first | exact ⟨rfl, hk2, hC2, Or.inr ⟨hok, Or.inl ⟨rfl, hl.elim (fun z => z.2) (fun ⟨w, w1, _⟩ => by omega)⟩⟩⟩ | exact ⟨rfl, hk2, hC2, Or.inr ⟨hok, Or.inr ⟨rfl, hl.elim (fun z => by omega) (fun ⟨w, _, w2⟩ => xL_e w2)⟩⟩⟩
  · skip
    refine vV.bipush (v := (-3)) dX7_kept_7 (by decide) (by decide) ?_
    refine vV.ri dX7_kept_9 rfl ?_
    exact ⟨rfl, hkN, hCN, Or.inl ⟨(show ¬ (1 ≤ exc (M 204) n ∧ exc (M 204) n ≤ 3) from no01 hy1 h4), rfl⟩⟩
theorem dX7_longest_0 : decode cX7_longest 0 = .ok (.aload_n 0, 1) := by decide +kernel
theorem dX7_longest_1 : decode cX7_longest 1 = .ok (.invokevirtual 269, 3) := by decide +kernel
theorem dX7_longest_4 : decode cX7_longest 4 = .ok (.ifCond .ne 6, 3) := by decide +kernel
theorem dX7_longest_7 : decode cX7_longest 7 = .ok (.bipush (-3), 2) := by decide +kernel
theorem dX7_longest_9 : decode cX7_longest 9 = .ok (.ireturn, 1) := by decide +kernel
theorem dX7_longest_10 : decode cX7_longest 10 = .ok (.aload_n 0, 1) := by decide +kernel
theorem dX7_longest_11 : decode cX7_longest 11 = .ok (.invokevirtual 272, 3) := by decide +kernel
theorem dX7_longest_14 : decode cX7_longest 14 = .ok (.aload_n 0, 1) := by decide +kernel
theorem dX7_longest_15 : decode cX7_longest 15 = .ok (.getfield 53, 3) := by decide +kernel
theorem dX7_longest_18 : decode cX7_longest 18 = .ok (.aload_n 0, 1) := by decide +kernel
theorem dX7_longest_19 : decode cX7_longest 19 = .ok (.invokevirtual 275, 3) := by decide +kernel
theorem dX7_longest_22 : decode cX7_longest 22 = .ok (.iaload, 1) := by decide +kernel
theorem dX7_longest_23 : decode cX7_longest 23 = .ok (.ifCond .ge 8, 3) := by decide +kernel
theorem dX7_longest_26 : decode cX7_longest 26 = .ok (.bipush (-6), 2) := by decide +kernel
theorem dX7_longest_28 : decode cX7_longest 28 = .ok (.goto 12, 3) := by decide +kernel
theorem dX7_longest_31 : decode cX7_longest 31 = .ok (.aload_n 0, 1) := by decide +kernel
theorem dX7_longest_32 : decode cX7_longest 32 = .ok (.getfield 53, 3) := by decide +kernel
theorem dX7_longest_35 : decode cX7_longest 35 = .ok (.aload_n 0, 1) := by decide +kernel
theorem dX7_longest_36 : decode cX7_longest 36 = .ok (.invokevirtual 275, 3) := by decide +kernel
theorem dX7_longest_39 : decode cX7_longest 39 = .ok (.iaload, 1) := by decide +kernel
theorem dX7_longest_40 : decode cX7_longest 40 = .ok (.ireturn, 1) := by decide +kernel
theorem c_X7_longest {d : List Nat} {T : vT} {M : vM} {n : Nat} (hB : vB T) (hW : mW M n) (hC : lvC M n) : vCon m_X7_longest d d [vR 200] T M (vPi fun r T1 M1 => T = T1 ∧ kxS M M1 ∧ lvC M1 n ∧ lgQ (xokR M n) (xEr M n) (xSr M n) r) := by
  have hn : n ≤ 6 := hW.2.1.1
  refine vCon.of (by decide) rfl rfl (Nat.le_of_ble_eq_true rfl) ?_
  refine vV.aload_n dX7_longest_0 rfl ?_
  refine vV.cVi dX7_longest_1 ml_X7_269 cw_X7_findExact iw_X7_findExact (by first | rfl | assumption) rfl (by unfold vRoom; decide) (c_X7_findExact hB hW.1 hn) rfl rfl (Nat.le_of_ble_eq_true rfl) ?_
  rintro x1 _ N hx1 ⟨rfl, hI, hy1⟩
  have hkN := hI.k
  have hWN := hkN.w hW
  obtain ⟨eE, eS⟩ := hkN.e (n := n)
  have hIN := hI.self
  have hCN := lvC_fe hI hC
  have r204 : N 204 = M 204 := hI.1 204 (by decide)
  refine vV.if_ne (tgt := 10) dX7_longest_4 (by decide) (fun h4 => ?_) (fun h4 => ?_)
  · skip
    have hok : xokR M n := (show 1 ≤ exc (M 204) n ∧ exc (M 204) n ≤ 3 from yes01 hy1 (by assumption))
    have hokN : 1 ≤ exc (N 204) n ∧ exc (N 204) n ≤ 3 := by rw [r204]; exact hok
    have hE := xEr_ok hW hok
    have hs := xSr_st hW
    have hEN : xEok (xEr N n) := by rw [eE]; exact hE
    have hXN : rX N (xEr N n) := hIN.x hn hokN.2
    have hps := enR_lt (hs.ok hE)
    refine vV.aload_n dX7_longest_10 rfl ?_
    refine vV.cVv dX7_longest_11 ml_X7_272 cw_X7_layLives iw_X7_layLives (by first | rfl | assumption) rfl (by unfold vRoom; decide) (c_X7_layLives hB hWN.1 hn hEN hXN hCN hokN) rfl rfl (Nat.le_of_ble_eq_true rfl) ?_
    rintro _ N2 ⟨rfl, hL, hC2, hOk⟩
    rw [eE] at hOk
    have hk2 := hkN.ly hL
    have hIN2 : feI N2 N2 n := hIN.mv (hL.1 204 (by decide)) (hL.2 29 (by decide)) (hL.1 229 (by decide))
    have hWN2 := hk2.w hW
    obtain ⟨eE2, eS2⟩ := hk2.e (n := n)
    have hok2 : exc (N2 204) n ≤ 3 := by rw [hL.1 204 (by decide)]; exact hokN.2
    have hsn := fun (d : List Nat) => c_X7_stateNow (d := d) (T := T) hB hWN2 hIN2 hok2
    rw [eS2] at hsn
    have hl := hOk (xSr M n) hs
    refine vV.aload_n dX7_longest_14 rfl ?_
    refine vV.getr dX7_longest_15 fl_X7_53 (by first | rfl | assumption) rfl (by first | assumption | exact hB _ _ _ rfl) ?_
    refine vV.aload_n dX7_longest_18 rfl ?_
    refine vV.cVi dX7_longest_19 ml_X7_275 cw_X7_stateNow iw_X7_stateNow (by first | rfl | assumption) rfl (by unfold vRoom; decide) (hsn d) rfl rfl (Nat.le_of_ble_eq_true rfl) ?_
    rintro x19 _ _ hx19 ⟨rfl, rfl, rfl⟩
    refine vV.iald dX7_longest_22 (by first | rfl | assumption) (by omega) (by omega) ?_
    refine vV.if_ge (tgt := 31) dX7_longest_23 (by decide) (fun h23 => ?_) (fun h23 => ?_)
    · skip
      refine vV.aload_n dX7_longest_31 rfl ?_
      refine vV.getr dX7_longest_32 fl_X7_53 (by first | rfl | assumption) rfl (by first | assumption | exact hB _ _ _ rfl) ?_
      refine vV.aload_n dX7_longest_35 rfl ?_
      refine vV.cVi dX7_longest_36 ml_X7_275 cw_X7_stateNow iw_X7_stateNow (by first | rfl | assumption) rfl (by unfold vRoom; decide) (hsn d) rfl rfl (Nat.le_of_ble_eq_true rfl) ?_
      rintro x19 _ _ hx19 ⟨rfl, rfl, rfl⟩
      refine vV.iald dX7_longest_39 (by first | rfl | assumption) (by omega) (by omega) ?_
      refine vV.ri dX7_longest_40 rfl ?_
      first | exact ⟨rfl, hk2, hC2, Or.inr ⟨hok, Or.inr (hl.elim (fun z => by omega) id)⟩⟩ | exact ⟨rfl, hk2, hC2, Or.inr ⟨hok, Or.inl ⟨rfl, hl.elim (fun z => z.2) (fun ⟨w, w1, _⟩ => by omega)⟩⟩⟩
    · skip
      refine vV.bipush (v := (-6)) dX7_longest_26 (by decide) (by decide) ?_
      refine vV.goto (tgt := 40) dX7_longest_28 (by decide) ?_
      refine vV.ri dX7_longest_40 rfl ?_
      first | exact ⟨rfl, hk2, hC2, Or.inr ⟨hok, Or.inr (hl.elim (fun z => by omega) id)⟩⟩ | exact ⟨rfl, hk2, hC2, Or.inr ⟨hok, Or.inl ⟨rfl, hl.elim (fun z => z.2) (fun ⟨w, w1, _⟩ => by omega)⟩⟩⟩
  · skip
    refine vV.bipush (v := (-3)) dX7_longest_7 (by decide) (by decide) ?_
    refine vV.ri dX7_longest_9 rfl ?_
    exact ⟨rfl, hkN, hCN, Or.inl ⟨(show ¬ (1 ≤ exc (M 204) n ∧ exc (M 204) n ≤ 3) from no01 hy1 h4), rfl⟩⟩
theorem dX7_step_0 : decode cX7_step 0 = .ok (.aload_n 0, 1) := by decide +kernel
theorem dX7_step_1 : decode cX7_step 1 = .ok (.invokevirtual 269, 3) := by decide +kernel
theorem dX7_step_4 : decode cX7_step 4 = .ok (.ifCond .ne 6, 3) := by decide +kernel
theorem dX7_step_7 : decode cX7_step 7 = .ok (.bipush (-3), 2) := by decide +kernel
theorem dX7_step_9 : decode cX7_step 9 = .ok (.ireturn, 1) := by decide +kernel
theorem dX7_step_10 : decode cX7_step 10 = .ok (.aload_n 0, 1) := by decide +kernel
theorem dX7_step_11 : decode cX7_step 11 = .ok (.invokevirtual 272, 3) := by decide +kernel
theorem dX7_step_14 : decode cX7_step 14 = .ok (.aload_n 0, 1) := by decide +kernel
theorem dX7_step_15 : decode cX7_step 15 = .ok (.getfield 53, 3) := by decide +kernel
theorem dX7_step_18 : decode cX7_step 18 = .ok (.aload_n 0, 1) := by decide +kernel
theorem dX7_step_19 : decode cX7_step 19 = .ok (.invokevirtual 275, 3) := by decide +kernel
theorem dX7_step_22 : decode cX7_step 22 = .ok (.iaload, 1) := by decide +kernel
theorem dX7_step_23 : decode cX7_step 23 = .ok (.istore_n 1, 1) := by decide +kernel
theorem dX7_step_24 : decode cX7_step 24 = .ok (.iconst 0, 1) := by decide +kernel
theorem dX7_step_25 : decode cX7_step 25 = .ok (.istore_n 2, 1) := by decide +kernel
theorem dX7_step_26 : decode cX7_step 26 = .ok (.iload_n 2, 1) := by decide +kernel
theorem dX7_step_27 : decode cX7_step 27 = .ok (.iconst 4, 1) := by decide +kernel
theorem dX7_step_28 : decode cX7_step 28 = .ok (.if_icmp .ge 53, 3) := by decide +kernel
theorem dX7_step_31 : decode cX7_step 31 = .ok (.aload_n 0, 1) := by decide +kernel
theorem dX7_step_32 : decode cX7_step 32 = .ok (.aload_n 0, 1) := by decide +kernel
theorem dX7_step_33 : decode cX7_step 33 = .ok (.invokevirtual 275, 3) := by decide +kernel
theorem dX7_step_36 : decode cX7_step 36 = .ok (.iload_n 2, 1) := by decide +kernel
theorem dX7_step_37 : decode cX7_step 37 = .ok (.invokevirtual 266, 3) := by decide +kernel
theorem dX7_step_40 : decode cX7_step 40 = .ok (.istore_n 3, 1) := by decide +kernel
theorem dX7_step_41 : decode cX7_step 41 = .ok (.iload_n 3, 1) := by decide +kernel
theorem dX7_step_42 : decode cX7_step 42 = .ok (.ifCond .lt 33, 3) := by decide +kernel
theorem dX7_step_45 : decode cX7_step 45 = .ok (.iload_n 1, 1) := by decide +kernel
theorem dX7_step_46 : decode cX7_step 46 = .ok (.ifCond .ge 15, 3) := by decide +kernel
theorem dX7_step_49 : decode cX7_step 49 = .ok (.aload_n 0, 1) := by decide +kernel
theorem dX7_step_50 : decode cX7_step 50 = .ok (.getfield 53, 3) := by decide +kernel
theorem dX7_step_53 : decode cX7_step 53 = .ok (.iload_n 3, 1) := by decide +kernel
theorem dX7_step_54 : decode cX7_step 54 = .ok (.iaload, 1) := by decide +kernel
theorem dX7_step_55 : decode cX7_step 55 = .ok (.ifCond .ge 20, 3) := by decide +kernel
theorem dX7_step_58 : decode cX7_step 58 = .ok (.goto 15, 3) := by decide +kernel
theorem dX7_step_61 : decode cX7_step 61 = .ok (.aload_n 0, 1) := by decide +kernel
theorem dX7_step_62 : decode cX7_step 62 = .ok (.getfield 53, 3) := by decide +kernel
theorem dX7_step_65 : decode cX7_step 65 = .ok (.iload_n 3, 1) := by decide +kernel
theorem dX7_step_66 : decode cX7_step 66 = .ok (.iaload, 1) := by decide +kernel
theorem dX7_step_67 : decode cX7_step 67 = .ok (.iload_n 1, 1) := by decide +kernel
theorem dX7_step_68 : decode cX7_step 68 = .ok (.iconst 1, 1) := by decide +kernel
theorem dX7_step_69 : decode cX7_step 69 = .ok (.isub, 1) := by decide +kernel
theorem dX7_step_70 : decode cX7_step 70 = .ok (.if_icmp .ne 5, 3) := by decide +kernel
theorem dX7_step_73 : decode cX7_step 73 = .ok (.iload_n 2, 1) := by decide +kernel
theorem dX7_step_74 : decode cX7_step 74 = .ok (.ireturn, 1) := by decide +kernel
theorem dX7_step_75 : decode cX7_step 75 = .ok (.iinc 2 1, 3) := by decide +kernel
theorem dX7_step_78 : decode cX7_step 78 = .ok (.goto (-52), 3) := by decide +kernel
theorem dX7_step_81 : decode cX7_step 81 = .ok (.bipush (-6), 2) := by decide +kernel
theorem dX7_step_83 : decode cX7_step 83 = .ok (.ireturn, 1) := by decide +kernel
theorem lv_bt {E : xE} {R : Int → Int} {s s' : xS} {t : Nat} (hOk : lvOk E R) (hs : xSt E s) (hs' : xSt E s') (hn : xn E (t : Int) s = some s') : xBt E s t ↔ (R (enR s : Nat) < 0 ∧ R (enR s' : Nat) < 0) ∨ (0 ≤ R (enR s : Nat) ∧ R (enR s' : Nat) = R (enR s : Nat) - 1) := by
  have h1 := hOk s hs
  have h2 := hOk s' hs'
  constructor
  · rintro ⟨s2, e, h⟩
    rw [hn] at e; cases e
    rcases h with ⟨a, b⟩ | ⟨w, a, b⟩
    · refine Or.inl ⟨?_, ?_⟩
      · rcases h1 with z | ⟨w, w1, w2⟩
        · omega
        · exact absurd a (xL_e w2)
      · rcases h2 with z | ⟨w, w1, w2⟩
        · omega
        · exact absurd b (xL_e w2)
    · refine Or.inr ?_
      rcases h1 with z | ⟨w2, w3, w4⟩
      · exact absurd z.2 (xL_e a)
      · rcases h2 with z | ⟨w5, w6, w7⟩
        · exact absurd z.2 (xL_e b)
        · have := xL_u w4 a; have := xL_u w7 b; omega
  · intro h
    refine ⟨s', hn, ?_⟩
    rcases h with ⟨a, b⟩ | ⟨a, b⟩
    · refine Or.inl ⟨h1.elim (fun z => z.2) (fun ⟨w, w1, _⟩ => by omega), h2.elim (fun z => z.2) (fun ⟨w, w1, _⟩ => by omega)⟩
    · refine Or.inr ?_
      rcases h1 with z | ⟨w2, w3, w4⟩
      · omega
      · rcases h2 with z | ⟨w5, w6, w7⟩
        · omega
        · exact ⟨w5, by rw [show w5 + 1 = w2 by omega]; exact w4, w7⟩
theorem l_X7_st26 {d : List Nat} {T : vT} {N : vM} {E : xE} {s : xS} {P : Int → vT → vM → Prop} (hB : vB T) (hE : xEok E) (hX : rX N E) (hs : xSt E s) (hOk : lvOk E (N 231)) (hsn : ∀ d, vCon m_X7_stateNow d d [vR 200] T N (vPi fun r T1 M1 => r = (enR s : Nat) ∧ T = T1 ∧ N = M1)) (hP : ∀ r, stQ (-6) E s r → P r T N) : ∀ t : Nat, t ≤ 4 → ∀ x3 : Option vA, (∀ u : Nat, u < t → ¬ xBt E s u) →
    vV m_X7_step d d (vPi P) 26 [some (vR 200), some (vI (N 231 (enR s : Nat))), some (vI t), x3] [] d T N := by
  have hl := hOk s hs
  have hlr : -6 ≤ N 231 (enR s : Nat) ∧ N 231 (enR s : Nat) < 32768 := by
    rcases hl with z | ⟨w, w1, w2⟩
    · omega
    · have := xL_lt hE hs w2; omega
  refine vUp ?_
  intro t ht ih x3 hno
  refine vV.iload_n dX7_step_26 rfl ?_
  refine vV.iconst dX7_step_27 (by decide) ?_
  refine vV.icmp_ge (tgt := 81) dX7_step_28 (by decide) (fun h28 => ?_) (fun h28 => ?_)
  · skip
    refine vV.bipush (v := (-6)) dX7_step_81 (by decide) (by decide) ?_
    refine vV.ri dX7_step_83 rfl ?_
    exact hP _ (Or.inl ⟨rfl, fun u hu => hno u (by omega)⟩)
  · skip
    refine vV.aload_n dX7_step_31 rfl ?_
    refine vV.aload_n dX7_step_32 rfl ?_
    refine vV.cVi dX7_step_33 ml_X7_275 cw_X7_stateNow iw_X7_stateNow (by first | rfl | assumption) rfl (by unfold vRoom; decide) (hsn d) rfl rfl (Nat.le_of_ble_eq_true rfl) ?_
    rintro x33 _ _ hx33 ⟨rfl, rfl, rfl⟩
    refine vV.iload_n dX7_step_36 rfl ?_
    refine vV.cVi dX7_step_37 ml_X7_266 cw_X7_nextState iw_X7_nextState (by first | rfl | assumption) rfl (by unfold vRoom; decide) (c_X7_nextState hB hE hX hs (by omega)) rfl rfl (Nat.le_of_ble_eq_true rfl) ?_
    rintro x37 _ _ hx37 ⟨hx, rfl, rfl⟩
    refine vV.istore_n (L' := [_, _, _, _]) dX7_step_40 (by decide) rfl ?_
    refine vV.iload_n dX7_step_41 rfl ?_
    refine vV.if_lt (tgt := 75) dX7_step_42 (by decide) (fun h42 => ?_) (fun h42 => ?_)
    · skip
      have hn := xrR_n hx h42
      have hnb : ¬ xBt E s t := fun ⟨s2, e, _⟩ => by rw [hn] at e; cases e
      refine vV.iinc (L' := [_, _, _, _]) dX7_step_75 (by decide) rfl (⟨by omega, by omega⟩) rfl ?_
      refine vV.goto (tgt := 26) dX7_step_78 (by decide) ?_
      exact ih (by omega) _ (fun u hu => (Nat.lt_succ_iff_lt_or_eq.mp hu).elim (hno u) (fun z => by subst z; exact hnb))
    · skip
      obtain ⟨s', hn, hx'⟩ := xrR_s hx (by omega)
      subst hx'
      have hs' := xn_st hE hs hn
      have hp' := enR_lt (hs'.ok hE)
      have hbt := lv_bt hOk hs hs' hn
      refine vV.iload_n dX7_step_45 rfl ?_
      refine vV.if_ge (tgt := 61) dX7_step_46 (by decide) (fun h46 => ?_) (fun h46 => ?_)
      · skip
        refine vV.aload_n dX7_step_61 rfl ?_
        refine vV.getr dX7_step_62 fl_X7_53 (by first | rfl | assumption) rfl (by first | assumption | exact hB _ _ _ rfl) ?_
        refine vV.iload_n dX7_step_65 rfl ?_
        refine vV.iald dX7_step_66 (by first | rfl | assumption) (by omega) (by omega) ?_
        refine vV.iload_n dX7_step_67 rfl ?_
        refine vV.iconst dX7_step_68 (by decide) ?_
        refine vV.isub dX7_step_69 (⟨by omega, by omega⟩) ?_
        refine vV.icmp_ne (tgt := 75) dX7_step_70 (by decide) (fun h70 => ?_) (fun h70 => ?_)
        · skip
          have hnb : ¬ xBt E s t := fun z => by have := hbt.mp z; omega
          refine vV.iinc (L' := [_, _, _, _]) dX7_step_75 (by decide) rfl (⟨by omega, by omega⟩) rfl ?_
          refine vV.goto (tgt := 26) dX7_step_78 (by decide) ?_
          exact ih (by omega) _ (fun u hu => (Nat.lt_succ_iff_lt_or_eq.mp hu).elim (hno u) (fun z => by subst z; exact hnb))
        · skip
          refine vV.iload_n dX7_step_73 rfl ?_
          refine vV.ri dX7_step_74 rfl ?_
          exact hP _ (Or.inr ⟨t, by omega, rfl, hbt.mpr (by omega), hno⟩)
      · skip
        refine vV.aload_n dX7_step_49 rfl ?_
        refine vV.getr dX7_step_50 fl_X7_53 (by first | rfl | assumption) rfl (by first | assumption | exact hB _ _ _ rfl) ?_
        refine vV.iload_n dX7_step_53 rfl ?_
        refine vV.iald dX7_step_54 (by first | rfl | assumption) (by omega) (by omega) ?_
        refine vV.if_ge (tgt := 75) dX7_step_55 (by decide) (fun h55 => ?_) (fun h55 => ?_)
        · skip
          have hnb : ¬ xBt E s t := fun z => by have := hbt.mp z; omega
          refine vV.iinc (L' := [_, _, _, _]) dX7_step_75 (by decide) rfl (⟨by omega, by omega⟩) rfl ?_
          refine vV.goto (tgt := 26) dX7_step_78 (by decide) ?_
          exact ih (by omega) _ (fun u hu => (Nat.lt_succ_iff_lt_or_eq.mp hu).elim (hno u) (fun z => by subst z; exact hnb))
        · skip
          refine vV.goto (tgt := 73) dX7_step_58 (by decide) ?_
          refine vV.iload_n dX7_step_73 rfl ?_
          refine vV.ri dX7_step_74 rfl ?_
          exact hP _ (Or.inr ⟨t, by omega, rfl, hbt.mpr (by omega), hno⟩)
theorem c_X7_step {d : List Nat} {T : vT} {M : vM} {n : Nat} (hB : vB T) (hW : mW M n) (hC : lvC M n) : vCon m_X7_step d d [vR 200] T M (vPi fun r T1 M1 => T = T1 ∧ kxS M M1 ∧ lvC M1 n ∧ spQ (xokR M n) (xEr M n) (xSr M n) r) := by
  have hn : n ≤ 6 := hW.2.1.1
  refine vCon.of (by decide) rfl rfl (Nat.le_of_ble_eq_true rfl) ?_
  refine vV.aload_n dX7_step_0 rfl ?_
  refine vV.cVi dX7_step_1 ml_X7_269 cw_X7_findExact iw_X7_findExact (by first | rfl | assumption) rfl (by unfold vRoom; decide) (c_X7_findExact hB hW.1 hn) rfl rfl (Nat.le_of_ble_eq_true rfl) ?_
  rintro x1 _ N hx1 ⟨rfl, hI, hy1⟩
  have hkN := hI.k
  have hWN := hkN.w hW
  obtain ⟨eE, eS⟩ := hkN.e (n := n)
  have hIN := hI.self
  have hCN := lvC_fe hI hC
  have r204 : N 204 = M 204 := hI.1 204 (by decide)
  refine vV.if_ne (tgt := 10) dX7_step_4 (by decide) (fun h4 => ?_) (fun h4 => ?_)
  · skip
    have hok : xokR M n := (show 1 ≤ exc (M 204) n ∧ exc (M 204) n ≤ 3 from yes01 hy1 (by assumption))
    have hokN : 1 ≤ exc (N 204) n ∧ exc (N 204) n ≤ 3 := by rw [r204]; exact hok
    have hE := xEr_ok hW hok
    have hs := xSr_st hW
    have hEN : xEok (xEr N n) := by rw [eE]; exact hE
    have hXN : rX N (xEr N n) := hIN.x hn hokN.2
    have hps := enR_lt (hs.ok hE)
    refine vV.aload_n dX7_step_10 rfl ?_
    refine vV.cVv dX7_step_11 ml_X7_272 cw_X7_layLives iw_X7_layLives (by first | rfl | assumption) rfl (by unfold vRoom; decide) (c_X7_layLives hB hWN.1 hn hEN hXN hCN hokN) rfl rfl (Nat.le_of_ble_eq_true rfl) ?_
    rintro _ N2 ⟨rfl, hL, hC2, hOk⟩
    rw [eE] at hOk
    have hk2 := hkN.ly hL
    have hIN2 : feI N2 N2 n := hIN.mv (hL.1 204 (by decide)) (hL.2 29 (by decide)) (hL.1 229 (by decide))
    have hWN2 := hk2.w hW
    obtain ⟨eE2, eS2⟩ := hk2.e (n := n)
    have hok2 : exc (N2 204) n ≤ 3 := by rw [hL.1 204 (by decide)]; exact hokN.2
    have hsn := fun (d : List Nat) => c_X7_stateNow (d := d) (T := T) hB hWN2 hIN2 hok2
    rw [eS2] at hsn
    have hl := hOk (xSr M n) hs
    refine vV.aload_n dX7_step_14 rfl ?_
    refine vV.getr dX7_step_15 fl_X7_53 (by first | rfl | assumption) rfl (by first | assumption | exact hB _ _ _ rfl) ?_
    refine vV.aload_n dX7_step_18 rfl ?_
    refine vV.cVi dX7_step_19 ml_X7_275 cw_X7_stateNow iw_X7_stateNow (by first | rfl | assumption) rfl (by unfold vRoom; decide) (hsn d) rfl rfl (Nat.le_of_ble_eq_true rfl) ?_
    rintro x19 _ _ hx19 ⟨rfl, rfl, rfl⟩
    refine vV.iald dX7_step_22 (by first | rfl | assumption) (by omega) (by omega) ?_
    refine vV.istore_n (L' := [_, _, _, _]) dX7_step_23 (by decide) rfl ?_
    refine vV.iconst dX7_step_24 (by decide) ?_
    refine vV.istore_n (L' := [_, _, _, _]) dX7_step_25 (by decide) rfl ?_
    exact l_X7_st26 hB hE (by rw [← eE2]; exact hIN2.x hn hok2) hs hOk hsn (fun r hr => ⟨rfl, hk2, hC2, Or.inr ⟨hok, hr⟩⟩) 0 (by omega) _ (fun u hu => by omega)
  · skip
    refine vV.bipush (v := (-3)) dX7_step_7 (by decide) (by decide) ?_
    refine vV.ri dX7_step_9 rfl ?_
    exact ⟨rfl, hkN, hCN, Or.inl ⟨(show ¬ (1 ≤ exc (M 204) n ∧ exc (M 204) n ≤ 3) from no01 hy1 h4), rfl⟩⟩
