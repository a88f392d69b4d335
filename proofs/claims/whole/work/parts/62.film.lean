/-! ===== own: the reference: film, whose ===== -/
theorem fTr_cg {rule : Int} {P P' : pP} {lag : Nat} {s s' : pS} {q : Nat → Int} (hP : PEq P P') (hs : SEq P.1 s s') : ∀ t, SEq P.1 (fTr rule P lag s q t) (fTr rule P' lag s' q t) := by
  intro t
  induction t using Nat.strongRecOn with
  | ind t ih =>
    cases t with
    | zero => exact hs
    | succ t =>
      rw [fTr_s, fTr_s]
      exact pDo_cg hP (pCh_cg hP (ih t (by omega)) (ih (t - lag) (by omega)).2.1)
theorem fCh_cg {rule : Int} {P P' : pP} {lag : Nat} {s s' : pS} {q : Nat → Int} (hP : PEq P P') (hs : SEq P.1 s s') (t : Nat) : SEq P.1 (fCh rule P lag s q t) (fCh rule P' lag s' q t) := pCh_cg hP (fTr_cg hP hs t) (fTr_cg hP hs (t - lag)).2.1
theorem fLike_cg {rule : Int} {P P' : pP} {lag a : Nat} {s s' : pS} {q : Nat → Int} (hP : PEq P P') (hs : SEq P.1 s s') : fLike rule P lag s q a = fLike rule P' lag s' q a := by
  have e1 : ∀ t, fCn rule P lag s q t = fCn rule P' lag s' q t := fun t => by
    have h := fTr_cg (rule := rule) (lag := lag) (q := q) hP hs t
    unfold fCn; rw [hP.1, h.1]; exact pCan_cg hP.2.1 h.2.1 _ _
  have e2 : ∀ t, fEq rule P lag s q t = fEq rule P' lag s' q t := fun t => by
    have h := fCh_cg (rule := rule) (lag := lag) (q := q) hP hs t
    unfold fEq; rw [h.1, h.2.2.1, pThing_cg _ hP.2.1 h.2.2.2.1]
  have e3 : ∀ t, fLk rule P lag s q t = fLk rule P' lag s' q t := fun t => by
    induction t with
    | zero => rfl
    | succ t ih => unfold fLk; rw [ih, e2]
  unfold fLike fEn
  rw [e3, pFind_cg (fun j _ => by rw [e1 j])]
theorem rFilm_cg {rule : Int} {P P' : pP} {lag m : Nat} {s s' : pS} {sg : Int → Int} (hP : PEq P P') (hs : SEq P.1 s s') : rFilm rule P lag s sg m = rFilm rule P' lag s' sg m := by
  unfold rFilm; rw [fLike_cg hP hs]
theorem rWhose_cg {P P' : pP} {lag m : Nat} {s s' : pS} {sg : Int → Int} (hP : PEq P P') (hs : SEq P.1 s s') : rWhose P lag s sg m = rWhose P' lag s' sg m := by
  unfold rWhose
  rw [show (fun k : Nat => fLike (k : Int) P lag s (qL (pL sg m)) (pL sg m).length) = fun k : Nat => fLike (k : Int) P' lag s' (qL (pL sg m)) (pL sg m).length from funext fun k => fLike_cg hP hs]
theorem mKeepJ.b {M M1 M2 : vM} (h : mKeepJ M M1) (h2 : mKeepB M1 M2) : mKeepJ M M2 := ⟨fun k hk => (h2.1 k (by simp at hk ⊢; omega)).trans (h.1 k hk), fun j hj => (h2.2.1 j (by simp at hj ⊢; omega)).trans (h.2.1 j hj), fun z => h2.2.2 (h.2.2 z)⟩
theorem mKeepJ.w {M N : vM} {n : Nat} (h : mKeepJ M N) (hW : mW M n) : mW N n ∧ PEq (mPb N n) (mPb M n) ∧ SEq n (mS0 N n) (mS0 M n) := by
  obtain ⟨h1, h2, h3⟩ := h
  obtain ⟨w1, w2, w3, w4⟩ := hW
  have e : seM N = seM M := by unfold seM; rw [h2 5 (by decide), h2 6 (by decide), h2 7 (by decide), h2 8 (by decide), h2 9 (by decide)]
  have ok := h3 ⟨w3, w4⟩
  refine ⟨⟨by rw [h2 4 (by decide)]; exact w1, ?_, ok.1, ok.2⟩, ⟨rfl, ?_, ?_, ?_, ?_⟩, ⟨?_, ?_, rfl, ?_, ?_⟩⟩
  · rw [e, h1 201 (by decide), h1 202 (by decide), h1 203 (by decide), h1 204 (by decide)]; exact w2
  · show pEq n (pMix n (N 201) (N 211)) (pMix n (M 201) (M 211)); intro j hj; rw [pMix_lt hj, pMix_lt hj, h1 201 (by decide)]
  · show pEq n (N 202) (M 202); rw [h1 202 (by decide)]; exact pEq.rfl
  · show pEq n (N 203) (M 203); rw [h1 203 (by decide)]; exact pEq.rfl
  · show (M 200 6, M 200 7) = (N 200 6, N 200 7); rw [h2 6 (by decide), h2 7 (by decide)]
  · show M 200 5 = N 200 5; rw [h2 5 (by decide)]
  · show pEq n (pMix n (N 204) (N 212)) (pMix n (M 204) (M 212)); intro j hj; rw [pMix_lt hj, pMix_lt hj, h1 204 (by decide)]
  · exact fun k h => absurd (show none = some k from h) (by simp)
  · exact fun k h => absurd (show none = some k from h) (by simp)
theorem dX7_film_0 : decode cX7_film 0 = .ok (.iload_n 1, 1) := by decide +kernel
theorem dX7_film_1 : decode cX7_film 1 = .ok (.invokestatic 229, 3) := by decide +kernel
theorem dX7_film_4 : decode cX7_film 4 = .ok (.ifCond .ne 6, 3) := by decide +kernel
theorem dX7_film_7 : decode cX7_film 7 = .ok (.bipush (-2), 2) := by decide +kernel
theorem dX7_film_9 : decode cX7_film 9 = .ok (.ireturn, 1) := by decide +kernel
theorem dX7_film_10 : decode cX7_film 10 = .ok (.aload_n 0, 1) := by decide +kernel
theorem dX7_film_11 : decode cX7_film 11 = .ok (.invokevirtual 217, 3) := by decide +kernel
theorem dX7_film_14 : decode cX7_film 14 = .ok (.ifCond .lt 8, 3) := by decide +kernel
theorem dX7_film_17 : decode cX7_film 17 = .ok (.bipush (-5), 2) := by decide +kernel
theorem dX7_film_19 : decode cX7_film 19 = .ok (.goto 8, 3) := by decide +kernel
theorem dX7_film_22 : decode cX7_film 22 = .ok (.aload_n 0, 1) := by decide +kernel
theorem dX7_film_23 : decode cX7_film 23 = .ok (.iload_n 1, 1) := by decide +kernel
theorem dX7_film_24 : decode cX7_film 24 = .ok (.invokevirtual 298, 3) := by decide +kernel
theorem dX7_film_27 : decode cX7_film 27 = .ok (.ireturn, 1) := by decide +kernel
theorem c_X7_film {d : List Nat} {T : vT} {M : vM} {n lag m : Nat} {rule : Int} (hB : vB T) (hW : mW M n) (hlag : M 200 8 = lag) (hm : M 200 20 = m) (hle : m ≤ 40) : vCon m_X7_film d d [vR 200, vI rule] T M (vPi fun r T1 M1 => T = T1 ∧ mKeepJ M M1 ∧ r = rFilm rule (mPb M n) lag (mS0 M n) (M 220) m) := by
  obtain ⟨J, hJ⟩ : ∃ J, J = rFilm rule (mPb M n) lag (mS0 M n) (M 220) m := ⟨_, rfl⟩
  rw [← hJ]
  unfold rFilm at hJ
  refine vCon.of (by decide) rfl rfl (Nat.le_of_ble_eq_true rfl) ?_
  refine vV.iload_n dX7_film_0 rfl ?_
  refine vV.cSi dX7_film_1 ml_X7_229 cw_X7_isRule sw_X7_isRule (by unfold vRoom; decide) c_X7_isRule rfl rfl (Nat.le_of_ble_eq_true rfl) ?_
  rintro x1 _ _ hx1 ⟨hxe, rfl, rfl⟩
  refine vV.if_ne (tgt := 10) dX7_film_4 (by decide) (fun h4 => ?_) (fun h4 => ?_)
  · skip
    have hir := yes01 hxe h4
    rw [if_neg (fun z => z hir)] at hJ
    refine vV.aload_n dX7_film_10 rfl ?_
    refine vV.cVi dX7_film_11 ml_X7_217 cw_X7_fault iw_X7_fault (by first | rfl | assumption) rfl (by unfold vRoom; decide) (c_X7_fault hB hm hle) rfl rfl (Nat.le_of_ble_eq_true rfl) ?_
    rintro x11 _ M1 hx11 ⟨rfl, hy11, f1, f2, f3⟩
    subst hy11
    have hk1 := mKeepJ.f f1 f2
    refine vV.if_lt (tgt := 22) dX7_film_14 (by decide) (fun h14 => ?_) (fun h14 => ?_)
    · skip
      have hnn := pOr6_none h14
      have hno := pNo_of hnn
      rw [hnn, if_neg (by simp)] at hJ
      have hlen := pL_len hno m (Nat.le_refl m)
      obtain ⟨-, -, q22, qh⟩ := f3 hnn
      obtain ⟨w1, w2, w3⟩ := hk1.w hW
      clear f3 hnn
      refine vV.aload_n dX7_film_22 rfl ?_
      refine vV.iload_n dX7_film_23 rfl ?_
      refine vV.cVi dX7_film_24 ml_X7_298 cw_X7_likeOf iw_X7_likeOf (by first | rfl | assumption) rfl (by unfold vRoom; decide) (c_X7_likeOf (n := n) (lag := lag) (a := (pL (M 220) m).length) (q := qL (pL (M 220) m)) hB w1 (by rw [f2 8 (by decide)]; exact hlag) hir.1 hir.2 (by omega) q22 (fun k hk => qL_has qh hk) (fun k => qL_rg k)) rfl rfl (Nat.le_of_ble_eq_true rfl) ?_
      rintro x24 _ M2 hx24 ⟨rfl, hk2, hx⟩
      rw [fLike_cg w2 w3] at hx
      refine vV.ri dX7_film_27 rfl ?_
      first | exact ⟨rfl, hk1.b hk2, by rw [hx, hJ]⟩ | exact ⟨rfl, hk1, hJ.symm⟩
    · skip
      rw [if_pos (pOr6_some h14)] at hJ
      refine vV.bipush (v := (-5)) dX7_film_17 (by decide) (by decide) ?_
      refine vV.goto (tgt := 27) dX7_film_19 (by decide) ?_
      refine vV.ri dX7_film_27 rfl ?_
      first | exact ⟨rfl, hk1.b hk2, by rw [hx, hJ]⟩ | exact ⟨rfl, hk1, hJ.symm⟩
  · skip
    rw [if_pos (no01 hxe h4)] at hJ
    refine vV.bipush (v := (-2)) dX7_film_7 (by decide) (by decide) ?_
    refine vV.ri dX7_film_9 rfl ?_
    exact ⟨rfl, mKeepJ.rf M, hJ.symm⟩
theorem dX7_whose_0 : decode cX7_whose 0 = .ok (.aload_n 0, 1) := by decide +kernel
theorem dX7_whose_1 : decode cX7_whose 1 = .ok (.invokevirtual 217, 3) := by decide +kernel
theorem dX7_whose_4 : decode cX7_whose 4 = .ok (.ifCond .lt 6, 3) := by decide +kernel
theorem dX7_whose_7 : decode cX7_whose 7 = .ok (.bipush (-5), 2) := by decide +kernel
theorem dX7_whose_9 : decode cX7_whose 9 = .ok (.ireturn, 1) := by decide +kernel
theorem dX7_whose_10 : decode cX7_whose 10 = .ok (.iconst 0, 1) := by decide +kernel
theorem dX7_whose_11 : decode cX7_whose 11 = .ok (.istore_n 1, 1) := by decide +kernel
theorem dX7_whose_12 : decode cX7_whose 12 = .ok (.aload_n 0, 1) := by decide +kernel
theorem dX7_whose_13 : decode cX7_whose 13 = .ok (.iconst 0, 1) := by decide +kernel
theorem dX7_whose_14 : decode cX7_whose 14 = .ok (.invokevirtual 298, 3) := by decide +kernel
theorem dX7_whose_17 : decode cX7_whose 17 = .ok (.istore_n 2, 1) := by decide +kernel
theorem dX7_whose_18 : decode cX7_whose 18 = .ok (.iconst 1, 1) := by decide +kernel
theorem dX7_whose_19 : decode cX7_whose 19 = .ok (.istore_n 3, 1) := by decide +kernel
theorem dX7_whose_20 : decode cX7_whose 20 = .ok (.iload_n 3, 1) := by decide +kernel
theorem dX7_whose_21 : decode cX7_whose 21 = .ok (.iconst 4, 1) := by decide +kernel
theorem dX7_whose_22 : decode cX7_whose 22 = .ok (.if_icmp .ge 27, 3) := by decide +kernel
theorem dX7_whose_25 : decode cX7_whose 25 = .ok (.aload_n 0, 1) := by decide +kernel
theorem dX7_whose_26 : decode cX7_whose 26 = .ok (.iload_n 3, 1) := by decide +kernel
theorem dX7_whose_27 : decode cX7_whose 27 = .ok (.invokevirtual 298, 3) := by decide +kernel
theorem dX7_whose_30 : decode cX7_whose 30 = .ok (.istore 4, 2) := by decide +kernel
theorem dX7_whose_32 : decode cX7_whose 32 = .ok (.iload 4, 2) := by decide +kernel
theorem dX7_whose_34 : decode cX7_whose 34 = .ok (.iload_n 2, 1) := by decide +kernel
theorem dX7_whose_35 : decode cX7_whose 35 = .ok (.if_icmp .le 8, 3) := by decide +kernel
theorem dX7_whose_38 : decode cX7_whose 38 = .ok (.iload_n 3, 1) := by decide +kernel
theorem dX7_whose_39 : decode cX7_whose 39 = .ok (.istore_n 1, 1) := by decide +kernel
theorem dX7_whose_40 : decode cX7_whose 40 = .ok (.iload 4, 2) := by decide +kernel
theorem dX7_whose_42 : decode cX7_whose 42 = .ok (.istore_n 2, 1) := by decide +kernel
theorem dX7_whose_43 : decode cX7_whose 43 = .ok (.iinc 3 1, 3) := by decide +kernel
theorem dX7_whose_46 : decode cX7_whose 46 = .ok (.goto (-26), 3) := by decide +kernel
theorem dX7_whose_49 : decode cX7_whose 49 = .ok (.iload_n 1, 1) := by decide +kernel
theorem dX7_whose_50 : decode cX7_whose 50 = .ok (.ireturn, 1) := by decide +kernel
theorem l_X7_wh20 {d : List Nat} {T : vT} {M : vM} {n lag a : Nat} {l : List Int} {v : Nat → Int} (hB : vB T) (hW : mW M n) (hlag : M 200 8 = lag) (ha : l.length = a) (ha2 : a ≤ 180) (hrg : ∀ k, 0 ≤ qL l k ∧ qL l k ≤ 3) (hv : ∀ k : Nat, v k = fLike k (mPb M n) lag (mS0 M n) (qL l) a) : ∀ k, k ≤ 4 → ∀ N, mKeepJ M N → N 200 22 = a → rHas (N 222) l → ∀ x4,
    vV m_X7_whose d d (vPi fun r T1 M1 => T = T1 ∧ mKeepJ M M1 ∧ r = (whB v 4).2) 20 [some (vR 200), some (vI (whB v k).2), some (vI (whB v k).1), some (vI k), x4] [] d T N := by
  refine vUp ?_
  intro k hk ih N hN g22 hH x4
  obtain ⟨w1, w2, w3⟩ := hN.w hW
  refine vV.iload_n dX7_whose_20 rfl ?_
  refine vV.iconst dX7_whose_21 (by decide) ?_
  refine vV.icmp_ge (tgt := 49) dX7_whose_22 (by decide) (fun h22 => ?_) (fun h22 => ?_)
  · skip
    refine vV.iload_n dX7_whose_49 rfl ?_
    refine vV.ri dX7_whose_50 rfl ?_
    rw [show k = 4 by omega]; exact ⟨rfl, hN, rfl⟩
  · skip
    refine vV.aload_n dX7_whose_25 rfl ?_
    refine vV.iload_n dX7_whose_26 rfl ?_
    refine vV.cVi dX7_whose_27 ml_X7_298 cw_X7_likeOf iw_X7_likeOf (by first | rfl | assumption) rfl (by unfold vRoom; decide) (c_X7_likeOf (n := n) (lag := lag) (a := a) (q := qL l) hB w1 (by rw [hN.2.1 8 (by decide)]; exact hlag) (by omega) (by omega) ha2 g22 (fun k hk => qL_has hH (by omega)) hrg) rfl rfl (Nat.le_of_ble_eq_true rfl) ?_
    rintro x27 _ N1 hx27 ⟨rfl, hk1, hx⟩
    rw [fLike_cg w2 w3, ← hv k] at hx
    subst hx
    have hH1 : rHas (N1 222) l := by rw [hk1.1 222 (by decide)]; exact hH
    refine vV.istore (L' := [_, _, _, _, _]) dX7_whose_30 (by decide) rfl ?_
    refine vV.iload dX7_whose_32 rfl ?_
    refine vV.iload_n dX7_whose_34 rfl ?_
    refine vV.icmp_le (tgt := 43) dX7_whose_35 (by decide) (fun h35 => ?_) (fun h35 => ?_)
    · skip
      have e := whB_f (v := v) (k := k) (by omega)
      rw [← e]
      refine vV.iinc (L' := [_, _, _, _, _]) dX7_whose_43 (by decide) rfl (⟨by omega, by omega⟩) rfl ?_
      refine vV.goto (tgt := 20) dX7_whose_46 (by decide) ?_
      first | exact ih (by omega) N1 (hN.b hk1) (by rw [hk1.2.1 22 (by decide)]; exact g22) hH1 _ | (rw [e] at ih; exact ih (by omega) N1 (hN.b hk1) (by rw [hk1.2.1 22 (by decide)]; exact g22) hH1 _)
    · skip
      have e := whB_t (v := v) (k := k) (by omega)
      refine vV.iload_n dX7_whose_38 rfl ?_
      refine vV.istore_n (L' := [_, _, _, _, _]) dX7_whose_39 (by decide) rfl ?_
      refine vV.iload dX7_whose_40 rfl ?_
      refine vV.istore_n (L' := [_, _, _, _, _]) dX7_whose_42 (by decide) rfl ?_
      refine vV.iinc (L' := [_, _, _, _, _]) dX7_whose_43 (by decide) rfl (⟨by omega, by omega⟩) rfl ?_
      refine vV.goto (tgt := 20) dX7_whose_46 (by decide) ?_
      first | exact ih (by omega) N1 (hN.b hk1) (by rw [hk1.2.1 22 (by decide)]; exact g22) hH1 _ | (rw [e] at ih; exact ih (by omega) N1 (hN.b hk1) (by rw [hk1.2.1 22 (by decide)]; exact g22) hH1 _)
theorem c_X7_whose {d : List Nat} {T : vT} {M : vM} {n lag m : Nat} (hB : vB T) (hW : mW M n) (hlag : M 200 8 = lag) (hm : M 200 20 = m) (hle : m ≤ 40) : vCon m_X7_whose d d [vR 200] T M (vPi fun r T1 M1 => T = T1 ∧ mKeepJ M M1 ∧ r = rWhose (mPb M n) lag (mS0 M n) (M 220) m) := by
  obtain ⟨J, hJ⟩ : ∃ J, J = rWhose (mPb M n) lag (mS0 M n) (M 220) m := ⟨_, rfl⟩
  rw [← hJ]
  unfold rWhose at hJ
  obtain ⟨v, hv⟩ : ∃ v : Nat → Int, v = fun k : Nat => fLike (k : Int) (mPb M n) lag (mS0 M n) (qL (pL (M 220) m)) (pL (M 220) m).length := ⟨_, rfl⟩
  rw [← hv] at hJ
  have hv2 : ∀ k : Nat, v k = fLike k (mPb M n) lag (mS0 M n) (qL (pL (M 220) m)) (pL (M 220) m).length := fun k => by rw [hv]
  have hv0 : 0 ≤ v 0 := by rw [hv2 0]; exact (fLk_rg _ _ _ _ _ _).1
  have e1 : whB v 1 = (v 0, 0) := whB_t (v := v) (k := 0) (show (-1 : Int) < v 0 by omega)
  clear hv
  refine vCon.of (by decide) rfl rfl (Nat.le_of_ble_eq_true rfl) ?_
  refine vV.aload_n dX7_whose_0 rfl ?_
  refine vV.cVi dX7_whose_1 ml_X7_217 cw_X7_fault iw_X7_fault (by first | rfl | assumption) rfl (by unfold vRoom; decide) (c_X7_fault hB hm hle) rfl rfl (Nat.le_of_ble_eq_true rfl) ?_
  rintro x1 _ M1 hx1 ⟨rfl, hy1, f1, f2, f3⟩
  subst hy1
  have hk1 := mKeepJ.f f1 f2
  refine vV.if_lt (tgt := 10) dX7_whose_4 (by decide) (fun h4 => ?_) (fun h4 => ?_)
  · skip
    have hnn := pOr6_none h4
    have hno := pNo_of hnn
    rw [hnn, if_neg (by simp)] at hJ
    have hlen := pL_len hno m (Nat.le_refl m)
    obtain ⟨-, -, q22, qh⟩ := f3 hnn
    obtain ⟨w1, w2, w3⟩ := hk1.w hW
    clear f3 hnn
    refine vV.iconst dX7_whose_10 (by decide) ?_
    refine vV.istore_n (L' := [_, _, _, _, _]) dX7_whose_11 (by decide) rfl ?_
    refine vV.aload_n dX7_whose_12 rfl ?_
    refine vV.iconst dX7_whose_13 (by decide) ?_
    refine vV.cVi dX7_whose_14 ml_X7_298 cw_X7_likeOf iw_X7_likeOf (by first | rfl | assumption) rfl (by unfold vRoom; decide) (c_X7_likeOf (rule := 0) (n := n) (lag := lag) (a := (pL (M 220) m).length) (q := qL (pL (M 220) m)) hB w1 (by rw [f2 8 (by decide)]; exact hlag) (by omega) (by omega) (by omega) q22 (fun k hk => qL_has qh hk) (fun k => qL_rg k)) rfl rfl (Nat.le_of_ble_eq_true rfl) ?_
    rintro x14 _ M2 hx14 ⟨rfl, hk2, hx⟩
    have hx' : x14 = v 0 := by { rw [hx, fLike_cg w2 w3, hv2 0]; rfl }
    subst hx'
    refine vV.istore_n (L' := [_, _, _, _, _]) dX7_whose_17 (by decide) rfl ?_
    refine vV.iconst dX7_whose_18 (by decide) ?_
    refine vV.istore_n (L' := [_, _, _, _, _]) dX7_whose_19 (by decide) rfl ?_
    have h := fun x4 => l_X7_wh20 (d := d) (T := T) (v := v) (l := pL (M 220) m) hB hW hlag rfl (by omega) (fun k => qL_rg k) hv2 1 (by omega) _ (hk1.b hk2) (by rw [hk2.2.1 22 (by decide)]; exact q22) (by rw [hk2.1 222 (by decide)]; exact qh) x4
    rw [e1] at h
    rw [hJ]
    exact h _
  · skip
    rw [if_pos (pOr6_some h4)] at hJ
    refine vV.bipush (v := (-5)) dX7_whose_7 (by decide) (by decide) ?_
    refine vV.ri dX7_whose_9 rfl ?_
    exact ⟨rfl, hk1, hJ.symm⟩
