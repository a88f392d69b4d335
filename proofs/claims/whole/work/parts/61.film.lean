/-! ===== own: the reference: likeOf, film, whose ===== -/
def mG (M : vM) (P : pP) (lag : Nat) (f : Nat → pS) (t : Nat) : Prop := mP M P.1 = P ∧ M 200 8 = lag ∧ ∃ hist, (∀ i, i ≤ t → hist i = (f i).2.1) ∧ mSt M P.1 t hist (f t)
theorem mG.of {M : vM} {rule : Int} {P : pP} {lag : Nat} {s0 : pS} {f : Nat → pS} (h : mTj M rule P lag s0 0) (hf : f 0 = s0) : mG M P lag f 0 := by
  obtain ⟨h1, h2, ⟨hist, h3, h4⟩, -⟩ := h
  rw [pTr_0] at h4
  refine ⟨h1, h2, hist, fun i hi => ?_, by rw [hf]; exact h4⟩
  rw [h3 i hi, show i = 0 by omega, pTr_0, hf]
/-- behind thingBy -/
def mCho (M N : vM) (P : pP) (c : pS) (t : Nat) (r : Int) : Prop := r = pThing P.2.1 c.1 c.2.2.1 ∧ mTb M N c.2.2.2.1 c.2.2.1 c.2.2.2.2 ∧ mS N P.1 t c.2.2.1 c.2.2.2.2 ∧ M 200 12 = c.1 ∧ M 212 = c.2.1
theorem c_X7_thingByG {d : List Nat} {T : vT} {M : vM} {rule : Int} {P : pP} {lag : Nat} {f : Nat → pS} {t : Nat} (hB : vB T) (h : mG M P lag f t) (ht : t < 600) (hr0 : 0 ≤ rule) (hr3 : rule ≤ 3) : vCon m_X7_thingBy d d [vR 200, vI rule] T M (vPi fun r T1 N => T = T1 ∧ mCho M N P (pCh rule P (f (t - lag)).2.1 (f t)) t r) := by
  obtain ⟨h1, h2, hist, h3, hS, hL, m1, m2, m3, m4, m5, m6⟩ := h
  rw [← h3 (t - lag) (by omega)]
  obtain ⟨s, hs⟩ : ∃ s, s = f t := ⟨_, rfl⟩
  rw [← hs] at hS m1 m2 m3 m4 ⊢
  clear h3 hs
  obtain ⟨n, pl, fu, fa, gv, pt⟩ := P
  simp only [mP, Prod.mk.injEq, true_and] at h1
  obtain ⟨rfl, rfl, rfl, rfl, rfl⟩ := h1
  have hS2 := hS
  obtain ⟨s1, s2, s3, s4, s5, s6, s7, s8, s9, s10, s11, s12, s13, s14, s15, s16⟩ := hS2
  refine (c_X7_thingBy (d := d) hB hS hL (by omega) h2 (by omega) m5 hr0 hr3).imp ?_
  rintro r T1 N ⟨rfl, a1, a2⟩
  rw [m1, m2] at a1
  rw [m1, m2, m3] at a2
  refine ⟨rfl, a1, a2, mS_tb hS a2 ?_ (pG1_lt s9) (pL1_lt s11), m1, m2⟩
  unfold pW1; split <;> omega
theorem c_X7_doThingG {d : List Nat} {T : vT} {M N : vM} {r y : Int} {P : pP} {lag : Nat} {f : Nat → pS} {c : pS} {t : Nat} (hB : vB T) (h : mG M P lag f t) (ht : t < 600) (hc : mCho M N P c t r) (hy : 0 ≤ y ∧ y ≤ 3) (hcy : pCan P.1 P.2.1 c.2.1 c.1 y = true) (hst : f (t + 1) = pDo P y c) : vCon m_X7_doThing d d [vR 200, vI y] T N (vPv fun T1 M1 => T = T1 ∧ mKeep M M1 ∧ mG M1 P lag f (t + 1)) := by
  obtain ⟨h1, h2, hist, h3, hS, hL, m1, m2, m3, m4, m5, m6⟩ := h
  obtain ⟨c1, htb, hSN, c6, c7⟩ := hc
  have e211 : P.2.1 = M 211 := by rw [← h1]; rfl
  have e202 : P.2.2.1 = M 202 := by rw [← h1]; rfl
  have e203 : P.2.2.2.1 = M 203 := by rw [← h1]; rfl
  have eg : P.2.2.2.2.1 = M 200 6 := by rw [← h1]; rfl
  have ep : P.2.2.2.2.2 = M 200 7 := by rw [← h1]; rfl
  have n1 : N 211 = M 211 := htb.1 211 (by decide)
  have n2 : N 212 = M 212 := htb.1 212 (by decide)
  have n3 : N 203 = M 203 := htb.1 203 (by decide)
  have n4 : N 202 = M 202 := htb.1 202 (by decide)
  have n5 : N 200 12 = M 200 12 := htb.2.1 12 (by decide)
  have n6 : N 200 6 = M 200 6 := htb.2.1 6 (by decide)
  have n7 : N 200 7 = M 200 7 := htb.2.1 7 (by decide)
  refine vCon.impv (c_X7_doThing (d := d) hB hSN ht hy.1 hy.2 (by rw [n1, n2, n5, ← e211, c6, c7]; exact hcy)) ?_
  rintro T1 M1 ⟨hT, htk, hS1⟩
  refine ⟨hT, ?_⟩
  obtain ⟨t1, t2, t3, t4, t5, t6, t7, t8, t9⟩ := htk
  have hk : mKeep M M1 := ⟨fun k hk => by rw [t1 k (by simp at hk ⊢; omega), htb.1 k (by simp at hk ⊢; omega)], fun j hj => by rw [t2 j (by simp at hj ⊢; omega), htb.2.1 j (by simp at hj ⊢; omega)], fun _ => ⟨hS1.2.2.2.1, hS1.2.2.1⟩⟩
  have hst1 : (f (t + 1)).1 = M1 200 12 := by rw [hst, t4, n5, c6]; rfl
  have hst2 : (f (t + 1)).2.1 = M1 212 := by
    rw [hst, t3, n1, n2, n3, n4, n5, n6, c6, c7, ← e211, ← e202, ← e203, ← eg]; rfl
  have hst3 : (f (t + 1)).2.2.1 = (pGo (N 211) (N 202) (pWind P.1 (N 211) (N 202) (N 212) (N 200 12) (N 200 6) y) (N 200 12) (N 200 7) y c.2.2.1 (N 200 14)).1 := by
    rw [hst, n1, n2, n4, n5, n6, n7, c6, c7, htb.2.2.2.1, ← e211, ← e202, ← eg, ← ep]; rfl
  have hst4 : (f (t + 1)).2.2.2.1 = M1 200 14 := by
    rw [t6, hst, n1, n2, n4, n5, n6, n7, c6, c7, htb.2.2.2.1, ← e211, ← e202, ← eg, ← ep]; rfl
  have hst5 : (f (t + 1)).2.2.2.2 = c.2.2.2.2 := by rw [hst]; rfl
  rw [← hst3, ← hst5] at hS1
  refine ⟨hk, (hk.P P.1).trans h1, by rw [hk.2.1 8 (by decide)]; exact h2, fun i => if i ≤ t then hist i else M1 212, fun i hi => ?_, hS1, ⟨fun i hi => ?_, fun i j => ?_⟩, hst1.symm, hst2.symm, hst4.symm, ?_, by rw [hk.1 203 (by decide)]; exact m5, by rw [hk.2.1 8 (by decide)]; exact m6⟩
  · simp only; split
    · rename_i hit; exact h3 i hit
    · rw [show i = t + 1 by omega]; exact hst2.symm
  · rw [t8, htb.1 218 (by decide)]
    by_cases hit : i ≤ t
    · simp only [hit, if_true]; rw [fSet_n (by omega)]; exact hL.1 i hit
    · simp only [hit, if_false]; rw [show (i : Int) = (t : Int) + 1 by omega, fSet_s]
  · by_cases hit : i ≤ t
    · simp only [hit, if_true]; exact hL.2 i j
    · simp only [hit, if_false]; exact hS1.2.2.1 j
  · simp only; rw [if_neg (by omega)]; exact hst2.symm
theorem dX7_likeOf_0 : decode cX7_likeOf 0 = .ok (.aload_n 0, 1) := by decide +kernel
theorem dX7_likeOf_1 : decode cX7_likeOf 1 = .ok (.invokevirtual 177, 3) := by decide +kernel
theorem dX7_likeOf_4 : decode cX7_likeOf 4 = .ok (.iconst 0, 1) := by decide +kernel
theorem dX7_likeOf_5 : decode cX7_likeOf 5 = .ok (.istore_n 2, 1) := by decide +kernel
theorem dX7_likeOf_6 : decode cX7_likeOf 6 = .ok (.iconst 0, 1) := by decide +kernel
theorem dX7_likeOf_7 : decode cX7_likeOf 7 = .ok (.istore_n 3, 1) := by decide +kernel
theorem dX7_likeOf_8 : decode cX7_likeOf 8 = .ok (.iload_n 3, 1) := by decide +kernel
theorem dX7_likeOf_9 : decode cX7_likeOf 9 = .ok (.aload_n 0, 1) := by decide +kernel
theorem dX7_likeOf_10 : decode cX7_likeOf 10 = .ok (.getfield 196, 3) := by decide +kernel
theorem dX7_likeOf_13 : decode cX7_likeOf 13 = .ok (.if_icmp .ge 54, 3) := by decide +kernel
theorem dX7_likeOf_16 : decode cX7_likeOf 16 = .ok (.aload_n 0, 1) := by decide +kernel
theorem dX7_likeOf_17 : decode cX7_likeOf 17 = .ok (.aload_n 0, 1) := by decide +kernel
theorem dX7_likeOf_18 : decode cX7_likeOf 18 = .ok (.getfield 37, 3) := by decide +kernel
theorem dX7_likeOf_21 : decode cX7_likeOf 21 = .ok (.iload_n 3, 1) := by decide +kernel
theorem dX7_likeOf_22 : decode cX7_likeOf 22 = .ok (.iaload, 1) := by decide +kernel
theorem dX7_likeOf_23 : decode cX7_likeOf 23 = .ok (.invokevirtual 180, 3) := by decide +kernel
theorem dX7_likeOf_26 : decode cX7_likeOf 26 = .ok (.ifCond .eq 41, 3) := by decide +kernel
theorem dX7_likeOf_29 : decode cX7_likeOf 29 = .ok (.iload_n 2, 1) := by decide +kernel
theorem dX7_likeOf_30 : decode cX7_likeOf 30 = .ok (.aload_n 0, 1) := by decide +kernel
theorem dX7_likeOf_31 : decode cX7_likeOf 31 = .ok (.iload_n 1, 1) := by decide +kernel
theorem dX7_likeOf_32 : decode cX7_likeOf 32 = .ok (.invokevirtual 171, 3) := by decide +kernel
theorem dX7_likeOf_35 : decode cX7_likeOf 35 = .ok (.aload_n 0, 1) := by decide +kernel
theorem dX7_likeOf_36 : decode cX7_likeOf 36 = .ok (.getfield 37, 3) := by decide +kernel
theorem dX7_likeOf_39 : decode cX7_likeOf 39 = .ok (.iload_n 3, 1) := by decide +kernel
theorem dX7_likeOf_40 : decode cX7_likeOf 40 = .ok (.iaload, 1) := by decide +kernel
theorem dX7_likeOf_41 : decode cX7_likeOf 41 = .ok (.if_icmp .ne 7, 3) := by decide +kernel
theorem dX7_likeOf_44 : decode cX7_likeOf 44 = .ok (.iconst 1, 1) := by decide +kernel
theorem dX7_likeOf_45 : decode cX7_likeOf 45 = .ok (.goto 4, 3) := by decide +kernel
theorem dX7_likeOf_48 : decode cX7_likeOf 48 = .ok (.iconst 0, 1) := by decide +kernel
theorem dX7_likeOf_49 : decode cX7_likeOf 49 = .ok (.iadd, 1) := by decide +kernel
theorem dX7_likeOf_50 : decode cX7_likeOf 50 = .ok (.istore_n 2, 1) := by decide +kernel
theorem dX7_likeOf_51 : decode cX7_likeOf 51 = .ok (.aload_n 0, 1) := by decide +kernel
theorem dX7_likeOf_52 : decode cX7_likeOf 52 = .ok (.aload_n 0, 1) := by decide +kernel
theorem dX7_likeOf_53 : decode cX7_likeOf 53 = .ok (.getfield 37, 3) := by decide +kernel
theorem dX7_likeOf_56 : decode cX7_likeOf 56 = .ok (.iload_n 3, 1) := by decide +kernel
theorem dX7_likeOf_57 : decode cX7_likeOf 57 = .ok (.iaload, 1) := by decide +kernel
theorem dX7_likeOf_58 : decode cX7_likeOf 58 = .ok (.invokevirtual 174, 3) := by decide +kernel
theorem dX7_likeOf_61 : decode cX7_likeOf 61 = .ok (.iinc 3 1, 3) := by decide +kernel
theorem dX7_likeOf_64 : decode cX7_likeOf 64 = .ok (.goto (-56), 3) := by decide +kernel
theorem dX7_likeOf_67 : decode cX7_likeOf 67 = .ok (.iload_n 2, 1) := by decide +kernel
theorem dX7_likeOf_68 : decode cX7_likeOf 68 = .ok (.ireturn, 1) := by decide +kernel
theorem l_X7_lk8 {d : List Nat} {T : vT} {M : vM} {lag a : Nat} {rule : Int} {P : pP} {s0 : pS} {q : Nat → Int} (hB : vB T) (hr0 : 0 ≤ rule) (hr3 : rule ≤ 3) (ha : a ≤ 180) (h22 : M 200 22 = a) (hq : ∀ k : Nat, k < a → M 222 k = q k) (hqr : ∀ k, 0 ≤ q k ∧ q k ≤ 3) : ∀ t, t ≤ a → ∀ N, mKeepB M N → mG N P lag (fTr rule P lag s0 q) t → (∀ i, i < t → fCn rule P lag s0 q i = true) →
    vV m_X7_likeOf d d (vPi fun r T1 M1 => T = T1 ∧ mKeepB M M1 ∧ r = fLike rule P lag s0 q a) 8 [some (vR 200), some (vI rule), some (vI (fLk rule P lag s0 q t)), some (vI t)] [] d T N := by
  refine vUp ?_
  intro t ht ih N hk hG hf
  have hG2 := hG
  obtain ⟨h1, h2, hist, h3, hS, hL, m1, m2, -⟩ := hG2
  have hrg := fLk_rg rule P lag s0 q t
  have hend : t = a → fLike rule P lag s0 q a = fLk rule P lag s0 q t := fun h => by unfold fLike fEn; rw [pFind_no (fun j hj => by rw [hf j (by omega)]; rfl), h]; rfl
  have hend2 : t < a → fCn rule P lag s0 q t = false → fLike rule P lag s0 q a = fLk rule P lag s0 q t := fun h h2 => by unfold fLike fEn; rw [pFind_yes h (by rw [h2]; rfl) (fun j hj => by rw [hf j hj]; rfl)]; rfl
  have hq2 : t < a → N 222 t = q t := fun h => by rw [hk.1 222 (by decide)]; exact hq t h
  have hqt := hqr t
  have hN22 : N 200 22 = a := by rw [hk.2.1 22 (by decide)]; exact h22
  have hcan : pCan P.1 (N 211) (N 212) (N 200 12) (q t) = fCn rule P lag s0 q t := by
    rw [m1, m2, show N 211 = P.2.1 from by rw [← h1]; rfl]; rfl
  have hlk : ∀ b : Bool, fEq rule P lag s0 q t = b → fLk rule P lag s0 q (t + 1) = fLk rule P lag s0 q t + if b then 1 else 0 := fun b hb => by rw [← hb]; rfl
  clear m1 m2 hL h3 h1
  refine vV.iload_n dX7_likeOf_8 rfl ?_
  refine vV.aload_n dX7_likeOf_9 rfl ?_
  refine vV.geti (z := 22) dX7_likeOf_10 fl_X7_196 (by first | rfl | assumption) rfl rfl ?_
  rw [hN22]
  refine vV.icmp_ge (tgt := 67) dX7_likeOf_13 (by decide) (fun h13 => ?_) (fun h13 => ?_)
  · skip
    refine vV.iload_n dX7_likeOf_67 rfl ?_
    refine vV.ri dX7_likeOf_68 rfl ?_
    first | exact ⟨rfl, hk, (hend (by omega)).symm⟩ | exact ⟨rfl, hk, (hend2 (by omega) hno).symm⟩
  · skip
    refine vV.aload_n dX7_likeOf_16 rfl ?_
    refine vV.aload_n dX7_likeOf_17 rfl ?_
    refine vV.getr dX7_likeOf_18 fl_X7_37 (by first | rfl | assumption) rfl (by first | assumption | exact hB _ _ _ rfl) ?_
    refine vV.iload_n dX7_likeOf_21 rfl ?_
    refine vV.iald dX7_likeOf_22 (by first | rfl | assumption) (by omega) (by omega) ?_
    rw [hq2 (by omega)]
    refine vV.cVi dX7_likeOf_23 ml_X7_180 cw_X7_can iw_X7_can (by first | rfl | assumption) rfl (by unfold vRoom; decide) (c_X7_can hB hS.1 hS.2.1 hS.2.2.2.2.2.2.1 hqt.1 hqt.2) rfl rfl (Nat.le_of_ble_eq_true rfl) ?_
    rintro x39 _ _ hx39 ⟨hy39, rfl, rfl⟩
    rw [hcan] at hy39
    subst hy39
    refine vV.if_eq (tgt := 67) dX7_likeOf_26 (by decide) (fun h26 => ?_) (fun h26 => ?_)
    · skip
      have hno := bI_eq h26
      refine vV.iload_n dX7_likeOf_67 rfl ?_
      refine vV.ri dX7_likeOf_68 rfl ?_
      first | exact ⟨rfl, hk, (hend (by omega)).symm⟩ | exact ⟨rfl, hk, (hend2 (by omega) hno).symm⟩
    · skip
      have hye := bI_ne h26
      refine vV.iload_n dX7_likeOf_29 rfl ?_
      refine vV.aload_n dX7_likeOf_30 rfl ?_
      refine vV.iload_n dX7_likeOf_31 rfl ?_
      refine vV.cVi dX7_likeOf_32 ml_X7_171 cw_X7_thingBy iw_X7_thingBy (by first | rfl | assumption) rfl (by unfold vRoom; decide) (c_X7_thingByG hB hG (by omega) hr0 hr3) rfl rfl (Nat.le_of_ble_eq_true rfl) ?_
      rintro x50 _ N0 hx50 ⟨rfl, hch⟩
      have hq3 : N0 222 t = q t := by rw [hch.2.1.1 222 (by decide)]; exact hq2 (by omega)
      refine vV.aload_n dX7_likeOf_35 rfl ?_
      refine vV.getr dX7_likeOf_36 fl_X7_37 (by first | rfl | assumption) rfl (by first | assumption | exact hB _ _ _ rfl) ?_
      refine vV.iload_n dX7_likeOf_39 rfl ?_
      refine vV.iald dX7_likeOf_40 (by first | rfl | assumption) (by omega) (by omega) ?_
      rw [hq3]
      refine vV.icmp_ne (tgt := 48) dX7_likeOf_41 (by decide) (fun h41 => ?_) (fun h41 => ?_)
      · skip
        have hfe := hlk false (by unfold fEq; rw [show pThing P.2.1 (fCh rule P lag s0 q t).1 (fCh rule P lag s0 q t).2.2.1 = x50 from hch.1.symm]; simpa using h41)
        refine vV.iconst dX7_likeOf_48 (by decide) ?_
        refine vV.iadd dX7_likeOf_49 (⟨by omega, by omega⟩) ?_
        first | rw [show fLk rule P lag s0 q t + 1 = fLk rule P lag s0 q (t + 1) from by rw [hfe]; simp] | rw [show fLk rule P lag s0 q t + 0 = fLk rule P lag s0 q (t + 1) from by rw [hfe]; simp]
        refine vV.istore_n (L' := [_, _, _, _]) dX7_likeOf_50 (by decide) rfl ?_
        refine vV.aload_n dX7_likeOf_51 rfl ?_
        refine vV.aload_n dX7_likeOf_52 rfl ?_
        refine vV.getr dX7_likeOf_53 fl_X7_37 (by first | rfl | assumption) rfl (by first | assumption | exact hB _ _ _ rfl) ?_
        refine vV.iload_n dX7_likeOf_56 rfl ?_
        refine vV.iald dX7_likeOf_57 (by first | rfl | assumption) (by omega) (by omega) ?_
        rw [hq3]
        refine vV.cVv dX7_likeOf_58 ml_X7_174 cw_X7_doThing iw_X7_doThing (by first | rfl | assumption) rfl (by unfold vRoom; decide) (c_X7_doThingG hB hG (by omega) hch hqt hye (fTr_s rule P lag s0 q t)) rfl rfl (Nat.le_of_ble_eq_true rfl) ?_
        rintro _ N1 ⟨rfl, hk1, hG1⟩
        refine vV.iinc (L' := [_, _, _, _]) dX7_likeOf_61 (by decide) rfl (⟨by omega, by omega⟩) rfl ?_
        refine vV.goto (tgt := 8) dX7_likeOf_64 (by decide) ?_
        exact ih (by omega) N1 (hk.tr hk1) hG1 (fun i hi => (Nat.lt_succ_iff_lt_or_eq.mp hi).elim (hf i) (fun e => by subst e; exact hye))
      · skip
        have hfe := hlk true (by unfold fEq; rw [show pThing P.2.1 (fCh rule P lag s0 q t).1 (fCh rule P lag s0 q t).2.2.1 = x50 from hch.1.symm]; simpa using h41)
        refine vV.iconst dX7_likeOf_44 (by decide) ?_
        refine vV.goto (tgt := 49) dX7_likeOf_45 (by decide) ?_
        refine vV.iadd dX7_likeOf_49 (⟨by omega, by omega⟩) ?_
        first | rw [show fLk rule P lag s0 q t + 1 = fLk rule P lag s0 q (t + 1) from by rw [hfe]; simp] | rw [show fLk rule P lag s0 q t + 0 = fLk rule P lag s0 q (t + 1) from by rw [hfe]; simp]
        refine vV.istore_n (L' := [_, _, _, _]) dX7_likeOf_50 (by decide) rfl ?_
        refine vV.aload_n dX7_likeOf_51 rfl ?_
        refine vV.aload_n dX7_likeOf_52 rfl ?_
        refine vV.getr dX7_likeOf_53 fl_X7_37 (by first | rfl | assumption) rfl (by first | assumption | exact hB _ _ _ rfl) ?_
        refine vV.iload_n dX7_likeOf_56 rfl ?_
        refine vV.iald dX7_likeOf_57 (by first | rfl | assumption) (by omega) (by omega) ?_
        rw [hq3]
        refine vV.cVv dX7_likeOf_58 ml_X7_174 cw_X7_doThing iw_X7_doThing (by first | rfl | assumption) rfl (by unfold vRoom; decide) (c_X7_doThingG hB hG (by omega) hch hqt hye (fTr_s rule P lag s0 q t)) rfl rfl (Nat.le_of_ble_eq_true rfl) ?_
        rintro _ N1 ⟨rfl, hk1, hG1⟩
        refine vV.iinc (L' := [_, _, _, _]) dX7_likeOf_61 (by decide) rfl (⟨by omega, by omega⟩) rfl ?_
        refine vV.goto (tgt := 8) dX7_likeOf_64 (by decide) ?_
        exact ih (by omega) N1 (hk.tr hk1) hG1 (fun i hi => (Nat.lt_succ_iff_lt_or_eq.mp hi).elim (hf i) (fun e => by subst e; exact hye))
theorem c_X7_likeOf {d : List Nat} {T : vT} {M : vM} {n lag a : Nat} {rule : Int} {q : Nat → Int} (hB : vB T) (hW : mW M n) (hlag : M 200 8 = lag) (hr0 : 0 ≤ rule) (hr3 : rule ≤ 3) (ha : a ≤ 180) (h22 : M 200 22 = a) (hq : ∀ k : Nat, k < a → M 222 k = q k) (hqr : ∀ k, 0 ≤ q k ∧ q k ≤ 3) : vCon m_X7_likeOf d d [vR 200, vI rule] T M (vPi fun r T1 M1 => T = T1 ∧ mKeepB M M1 ∧ r = fLike rule (mPb M n) lag (mS0 M n) q a) := by
  refine vCon.of (by decide) rfl rfl (Nat.le_of_ble_eq_true rfl) ?_
  refine vV.aload_n dX7_likeOf_0 rfl ?_
  refine vV.cVv dX7_likeOf_1 ml_X7_177 cw_X7_begin iw_X7_begin (by first | rfl | assumption) rfl (by unfold vRoom; decide) (c_X7_begin hB hW) rfl rfl (Nat.le_of_ble_eq_true rfl) ?_
  rintro _ N ⟨rfl, hb⟩
  have hj := mTj_begin (rule := rule) hW hlag hb
  refine vV.iconst dX7_likeOf_4 (by decide) ?_
  refine vV.istore_n (L' := [_, _, _, _]) dX7_likeOf_5 (by decide) rfl ?_
  refine vV.iconst dX7_likeOf_6 (by decide) ?_
  refine vV.istore_n (L' := [_, _, _, _]) dX7_likeOf_7 (by decide) rfl ?_
  exact l_X7_lk8 hB hr0 hr3 ha h22 hq hqr 0 (by omega) N (hb.keep hW) (mG.of hj rfl) (fun i hi => by omega)
