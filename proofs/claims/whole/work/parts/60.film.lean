/-! ===== own: the class: film, whose ===== -/
def rFilm (rule : Int) (P : pP) (lag : Nat) (s0 : pS) (sg : Int → Int) (m : Nat) : Int := if ¬ (0 ≤ rule ∧ rule ≤ 3) then -2 else if (pFind (pBad sg) m).isSome then -5 else fLike rule P lag s0 (qL (pL sg m)) (pL sg m).length
def whB (v : Nat → Int) : Nat → Int × Int
  | 0 => (-1, 0)
  | k + 1 => if (whB v k).1 < v k then (v k, k) else whB v k
theorem whB_t {v : Nat → Int} {k : Nat} (h : (whB v k).1 < v k) : whB v (k + 1) = (v k, (k : Int)) := if_pos h
theorem whB_f {v : Nat → Int} {k : Nat} (h : ¬ (whB v k).1 < v k) : whB v (k + 1) = whB v k := if_neg h
def rWhose (P : pP) (lag : Nat) (s0 : pS) (sg : Int → Int) (m : Nat) : Int := if (pFind (pBad sg) m).isSome then -5 else (whB (fun k => fLike k P lag s0 (qL (pL sg m)) (pL sg m).length) 4).2
def cKeepL (M M1 : vM) : Prop := mSame [30, 31, 32, 33, 34, 35, 62, 70, 76, 77] M M1 ∧ (sgZ M 30 → sgZ M1 30)
theorem cKeepL.rf (M : vM) : cKeepL M M := ⟨fun _ _ => rfl, id⟩
theorem cKeepL.l {M M1 M2 : vM} (h1 : cKeepL M M1) (h2 : cKeepW M1 M2) : cKeepL M M2 := ⟨fun k hk => (h2.1 k (by simp at hk ⊢; omega)).trans (h1.1 k hk), fun z => h2.2 (h1.2 z)⟩
theorem cKeepL.s {M M1 : vM} {n : Nat} (h : cKeepL M M1) (hW : sgW M 10 n) : sgW M1 10 n ∧ cP M1 n = cP M n ∧ cS0 M1 = cS0 M ∧ M1 15 = M 15 := by
  refine ⟨sgW_rows (h.1 10 (by decide)) (h.1 11 (by decide)) (h.1 12 (by decide)) (h.1 13 (by decide)) (h.1 14 (by decide)) (h.1 15 (by decide)) hW, ?_, ?_, h.1 15 (by decide)⟩
  · unfold cP; rw [h.1 11 (by decide), h.1 12 (by decide), h.1 13 (by decide), h.1 15 (by decide)]
  · unfold cS0; rw [h.1 14 (by decide), h.1 15 (by decide)]
theorem cKeepL.r (M : vM) (f : Int → Int) : cKeepL M (vRow M 62 f) := ⟨fun k hk => by simp at hk; rw [vRow_n hk.2.2.2.2.2.2.1], fun z => z⟩
theorem dX6_film_0 : decode cX6_film 0 = .ok (.iload_n 1, 1) := by decide +kernel
theorem dX6_film_1 : decode cX6_film 1 = .ok (.invokestatic 132, 3) := by decide +kernel
theorem dX6_film_4 : decode cX6_film 4 = .ok (.ifCond .ne 6, 3) := by decide +kernel
theorem dX6_film_7 : decode cX6_film 7 = .ok (.bipush (-2), 2) := by decide +kernel
theorem dX6_film_9 : decode cX6_film 9 = .ok (.ireturn, 1) := by decide +kernel
theorem dX6_film_10 : decode cX6_film 10 = .ok (.aload_n 0, 1) := by decide +kernel
theorem dX6_film_11 : decode cX6_film 11 = .ok (.getfield 26, 3) := by decide +kernel
theorem dX6_film_14 : decode cX6_film 14 = .ok (.invokevirtual 116, 3) := by decide +kernel
theorem dX6_film_17 : decode cX6_film 17 = .ok (.ifCond .lt 6, 3) := by decide +kernel
theorem dX6_film_20 : decode cX6_film 20 = .ok (.bipush (-5), 2) := by decide +kernel
theorem dX6_film_22 : decode cX6_film 22 = .ok (.ireturn, 1) := by decide +kernel
theorem dX6_film_23 : decode cX6_film 23 = .ok (.aload_n 0, 1) := by decide +kernel
theorem dX6_film_24 : decode cX6_film 24 = .ok (.iload_n 1, 1) := by decide +kernel
theorem dX6_film_25 : decode cX6_film 25 = .ok (.aload_n 0, 1) := by decide +kernel
theorem dX6_film_26 : decode cX6_film 26 = .ok (.getfield 26, 3) := by decide +kernel
theorem dX6_film_29 : decode cX6_film 29 = .ok (.invokevirtual 123, 3) := by decide +kernel
theorem dX6_film_32 : decode cX6_film 32 = .ok (.invokevirtual 210, 3) := by decide +kernel
theorem dX6_film_35 : decode cX6_film 35 = .ok (.ireturn, 1) := by decide +kernel
theorem c_X6_film {d : List Nat} {T : vT} {M : vM} {n lag m : Nat} {rule : Int} (hB : vB T) (hW : sgW M 10 n) (hZ : sgZ M 30) (hlag : M 15 3 = lag) (hm : M 60 0 = m) (hle : m ≤ 40) : vCon m_X6_film d d [vR 0, vI rule] T M (vPi fun r T1 M1 => T = T1 ∧ cKeepL M M1 ∧ r = rFilm rule (cP M n) lag (cS0 M) (M 61) m) := by
  obtain ⟨J, hJ⟩ : ∃ J, J = rFilm rule (cP M n) lag (cS0 M) (M 61) m := ⟨_, rfl⟩
  rw [← hJ]
  unfold rFilm at hJ
  refine vCon.of (by decide) rfl rfl (Nat.le_of_ble_eq_true rfl) ?_
  refine vV.iload_n dX6_film_0 rfl ?_
  refine vV.cSi dX6_film_1 ml_X6_132 cw_X6_isRule sw_X6_isRule (by unfold vRoom; decide) c_X6_isRule rfl rfl (Nat.le_of_ble_eq_true rfl) ?_
  rintro x1 _ _ hx1 ⟨hxe, rfl, rfl⟩
  refine vV.if_ne (tgt := 10) dX6_film_4 (by decide) (fun h4 => ?_) (fun h4 => ?_)
  · skip
    have hir := yes01 hxe h4
    rw [if_neg (fun z => z hir)] at hJ
    refine vV.aload_n dX6_film_10 rfl ?_
    refine vV.getr dX6_film_11 fl_X6_26 (by first | rfl | assumption) rfl (by first | assumption | exact hB _ _ _ rfl) ?_
    refine vV.cVi dX6_film_14 ml_X6_116 cw_X1_firstFault iw_X1_firstFault (by first | rfl | assumption) rfl (by unfold vRoom; decide) (c_X1_firstFault hB hm hle) rfl rfl (Nat.le_of_ble_eq_true rfl) ?_
    rintro x14 _ _ hx14 ⟨rfl, rfl, rfl⟩
    refine vV.if_lt (tgt := 23) dX6_film_17 (by decide) (fun h17 => ?_) (fun h17 => ?_)
    · skip
      have hno := pNo_of (pOr_none h17)
      rw [pOr_none' h17, if_neg (by simp)] at hJ
      have hlen := pL_len hno m (Nat.le_refl m)
      refine vV.aload_n dX6_film_23 rfl ?_
      refine vV.iload_n dX6_film_24 rfl ?_
      refine vV.aload_n dX6_film_25 rfl ?_
      refine vV.getr dX6_film_26 fl_X6_26 (by first | rfl | assumption) rfl (by first | assumption | exact hB _ _ _ rfl) ?_
      refine vV.cVi dX6_film_29 ml_X6_123 cw_X1_read iw_X1_read (by first | rfl | assumption) rfl (by unfold vRoom; decide) (c_X1_read hB hm hle hno) rfl rfl (Nat.le_of_ble_eq_true rfl) ?_
      rintro x29 _ _ hx29 ⟨rfl, rfl, f, rfl, hf⟩
      obtain ⟨w1, w2, w3, w4⟩ := (cKeepL.r M f).s hW
      refine vV.cVi dX6_film_32 ml_X6_210 cw_X6_ticksLike iw_X6_ticksLike (by first | rfl | assumption) rfl (by unfold vRoom; decide) (c_X6_ticksLike (n := n) (lag := lag) (q := qL (pL (M 61) m)) hB w1 hZ (by rw [w4]; exact hlag) hir.1 hir.2 (by omega) (fun k hk => by rw [vRow_s]; exact qL_has hf hk) (fun k => qL_rg k)) rfl rfl (Nat.le_of_ble_eq_true rfl) ?_
      rintro x32 _ M1 hx32 ⟨rfl, hk1, hx⟩
      rw [w2, w3] at hx
      refine vV.ri dX6_film_35 rfl ?_
      exact ⟨rfl, (cKeepL.r M f).l hk1, by rw [hx, hJ]⟩
    · skip
      rw [if_pos (pOr_some h17)] at hJ
      refine vV.bipush (v := (-5)) dX6_film_20 (by decide) (by decide) ?_
      refine vV.ri dX6_film_22 rfl ?_
      exact ⟨rfl, cKeepL.rf M, hJ.symm⟩
  · skip
    rw [if_pos (no01 hxe h4)] at hJ
    refine vV.bipush (v := (-2)) dX6_film_7 (by decide) (by decide) ?_
    refine vV.ri dX6_film_9 rfl ?_
    exact ⟨rfl, cKeepL.rf M, hJ.symm⟩
theorem dX6_whose_0 : decode cX6_whose 0 = .ok (.aload_n 0, 1) := by decide +kernel
theorem dX6_whose_1 : decode cX6_whose 1 = .ok (.getfield 26, 3) := by decide +kernel
theorem dX6_whose_4 : decode cX6_whose 4 = .ok (.invokevirtual 116, 3) := by decide +kernel
theorem dX6_whose_7 : decode cX6_whose 7 = .ok (.ifCond .lt 6, 3) := by decide +kernel
theorem dX6_whose_10 : decode cX6_whose 10 = .ok (.bipush (-5), 2) := by decide +kernel
theorem dX6_whose_12 : decode cX6_whose 12 = .ok (.ireturn, 1) := by decide +kernel
theorem dX6_whose_13 : decode cX6_whose 13 = .ok (.aload_n 0, 1) := by decide +kernel
theorem dX6_whose_14 : decode cX6_whose 14 = .ok (.getfield 26, 3) := by decide +kernel
theorem dX6_whose_17 : decode cX6_whose 17 = .ok (.invokevirtual 123, 3) := by decide +kernel
theorem dX6_whose_20 : decode cX6_whose 20 = .ok (.istore_n 1, 1) := by decide +kernel
theorem dX6_whose_21 : decode cX6_whose 21 = .ok (.iconst (-1), 1) := by decide +kernel
theorem dX6_whose_22 : decode cX6_whose 22 = .ok (.istore_n 2, 1) := by decide +kernel
theorem dX6_whose_23 : decode cX6_whose 23 = .ok (.iconst 0, 1) := by decide +kernel
theorem dX6_whose_24 : decode cX6_whose 24 = .ok (.istore_n 3, 1) := by decide +kernel
theorem dX6_whose_25 : decode cX6_whose 25 = .ok (.iconst 0, 1) := by decide +kernel
theorem dX6_whose_26 : decode cX6_whose 26 = .ok (.istore 4, 2) := by decide +kernel
theorem dX6_whose_28 : decode cX6_whose 28 = .ok (.iload 4, 2) := by decide +kernel
theorem dX6_whose_30 : decode cX6_whose 30 = .ok (.iconst 4, 1) := by decide +kernel
theorem dX6_whose_31 : decode cX6_whose 31 = .ok (.if_icmp .ge 30, 3) := by decide +kernel
theorem dX6_whose_34 : decode cX6_whose 34 = .ok (.aload_n 0, 1) := by decide +kernel
theorem dX6_whose_35 : decode cX6_whose 35 = .ok (.iload 4, 2) := by decide +kernel
theorem dX6_whose_37 : decode cX6_whose 37 = .ok (.iload_n 1, 1) := by decide +kernel
theorem dX6_whose_38 : decode cX6_whose 38 = .ok (.invokevirtual 210, 3) := by decide +kernel
theorem dX6_whose_41 : decode cX6_whose 41 = .ok (.istore 5, 2) := by decide +kernel
theorem dX6_whose_43 : decode cX6_whose 43 = .ok (.iload 5, 2) := by decide +kernel
theorem dX6_whose_45 : decode cX6_whose 45 = .ok (.iload_n 2, 1) := by decide +kernel
theorem dX6_whose_46 : decode cX6_whose 46 = .ok (.if_icmp .le 9, 3) := by decide +kernel
theorem dX6_whose_49 : decode cX6_whose 49 = .ok (.iload 5, 2) := by decide +kernel
theorem dX6_whose_51 : decode cX6_whose 51 = .ok (.istore_n 2, 1) := by decide +kernel
theorem dX6_whose_52 : decode cX6_whose 52 = .ok (.iload 4, 2) := by decide +kernel
theorem dX6_whose_54 : decode cX6_whose 54 = .ok (.istore_n 3, 1) := by decide +kernel
theorem dX6_whose_55 : decode cX6_whose 55 = .ok (.iinc 4 1, 3) := by decide +kernel
theorem dX6_whose_58 : decode cX6_whose 58 = .ok (.goto (-30), 3) := by decide +kernel
theorem dX6_whose_61 : decode cX6_whose 61 = .ok (.iload_n 3, 1) := by decide +kernel
theorem dX6_whose_62 : decode cX6_whose 62 = .ok (.ireturn, 1) := by decide +kernel
theorem l_X6_wh28 {d : List Nat} {T : vT} {M : vM} {n lag a : Nat} {l : List Int} {v : Nat → Int} (hB : vB T) (hW : sgW M 10 n) (hlag : M 15 3 = lag) (ha : l.length = a) (ha2 : a ≤ 180) (hrg : ∀ k, 0 ≤ qL l k ∧ qL l k ≤ 3) (hv : ∀ k : Nat, v k = fLike k (cP M n) lag (cS0 M) (qL l) a) : ∀ k, k ≤ 4 → ∀ N, cKeepL M N → sgZ N 30 → rHas (N 62) l → ∀ x5,
    vV m_X6_whose d d (vPi fun r T1 M1 => T = T1 ∧ cKeepL M M1 ∧ r = (whB v 4).2) 28 [some (vR 0), some (vI a), some (vI (whB v k).1), some (vI (whB v k).2), some (vI k), x5] [] d T N := by
  refine vUp ?_
  intro k hk ih N hN hZ hH x5
  obtain ⟨w1, w2, w3, w4⟩ := hN.s hW
  refine vV.iload dX6_whose_28 rfl ?_
  refine vV.iconst dX6_whose_30 (by decide) ?_
  refine vV.icmp_ge (tgt := 61) dX6_whose_31 (by decide) (fun h31 => ?_) (fun h31 => ?_)
  · skip
    refine vV.iload_n dX6_whose_61 rfl ?_
    refine vV.ri dX6_whose_62 rfl ?_
    rw [show k = 4 by omega]; exact ⟨rfl, hN, rfl⟩
  · skip
    refine vV.aload_n dX6_whose_34 rfl ?_
    refine vV.iload dX6_whose_35 rfl ?_
    refine vV.iload_n dX6_whose_37 rfl ?_
    refine vV.cVi dX6_whose_38 ml_X6_210 cw_X6_ticksLike iw_X6_ticksLike (by first | rfl | assumption) rfl (by unfold vRoom; decide) (c_X6_ticksLike (n := n) (lag := lag) (q := qL l) hB w1 hZ (by rw [w4]; exact hlag) (by omega) (by omega) ha2 (fun k hk => qL_has hH (by omega)) hrg) rfl rfl (Nat.le_of_ble_eq_true rfl) ?_
    rintro x38 _ N1 hx38 ⟨rfl, hk1, hx⟩
    rw [w2, w3, ← hv k] at hx
    subst hx
    have hH1 : rHas (N1 62) l := by rw [hk1.1 62 (by decide)]; exact hH
    refine vV.istore (L' := [_, _, _, _, _, _]) dX6_whose_41 (by decide) rfl ?_
    refine vV.iload dX6_whose_43 rfl ?_
    refine vV.iload_n dX6_whose_45 rfl ?_
    refine vV.icmp_le (tgt := 55) dX6_whose_46 (by decide) (fun h46 => ?_) (fun h46 => ?_)
    · skip
      have e := whB_f (v := v) (k := k) (by omega)
      rw [← e]
      refine vV.iinc (L' := [_, _, _, _, _, _]) dX6_whose_55 (by decide) rfl (⟨by omega, by omega⟩) rfl ?_
      refine vV.goto (tgt := 28) dX6_whose_58 (by decide) ?_
      first | exact ih (by omega) N1 (hN.l hk1) (hk1.2 hZ) hH1 _ | (rw [e] at ih; exact ih (by omega) N1 (hN.l hk1) (hk1.2 hZ) hH1 _)
    · skip
      have e := whB_t (v := v) (k := k) (by omega)
      refine vV.iload dX6_whose_49 rfl ?_
      refine vV.istore_n (L' := [_, _, _, _, _, _]) dX6_whose_51 (by decide) rfl ?_
      refine vV.iload dX6_whose_52 rfl ?_
      refine vV.istore_n (L' := [_, _, _, _, _, _]) dX6_whose_54 (by decide) rfl ?_
      refine vV.iinc (L' := [_, _, _, _, _, _]) dX6_whose_55 (by decide) rfl (⟨by omega, by omega⟩) rfl ?_
      refine vV.goto (tgt := 28) dX6_whose_58 (by decide) ?_
      first | exact ih (by omega) N1 (hN.l hk1) (hk1.2 hZ) hH1 _ | (rw [e] at ih; exact ih (by omega) N1 (hN.l hk1) (hk1.2 hZ) hH1 _)
theorem c_X6_whose {d : List Nat} {T : vT} {M : vM} {n lag m : Nat} (hB : vB T) (hW : sgW M 10 n) (hZ : sgZ M 30) (hlag : M 15 3 = lag) (hm : M 60 0 = m) (hle : m ≤ 40) : vCon m_X6_whose d d [vR 0] T M (vPi fun r T1 M1 => T = T1 ∧ cKeepL M M1 ∧ r = rWhose (cP M n) lag (cS0 M) (M 61) m) := by
  obtain ⟨J, hJ⟩ : ∃ J, J = rWhose (cP M n) lag (cS0 M) (M 61) m := ⟨_, rfl⟩
  rw [← hJ]
  unfold rWhose at hJ
  obtain ⟨v, hv⟩ : ∃ v : Nat → Int, v = fun k : Nat => fLike (k : Int) (cP M n) lag (cS0 M) (qL (pL (M 61) m)) (pL (M 61) m).length := ⟨_, rfl⟩
  rw [← hv] at hJ
  have hv2 : ∀ k : Nat, v k = fLike k (cP M n) lag (cS0 M) (qL (pL (M 61) m)) (pL (M 61) m).length := fun k => by rw [hv]
  clear hv
  refine vCon.of (by decide) rfl rfl (Nat.le_of_ble_eq_true rfl) ?_
  refine vV.aload_n dX6_whose_0 rfl ?_
  refine vV.getr dX6_whose_1 fl_X6_26 (by first | rfl | assumption) rfl (by first | assumption | exact hB _ _ _ rfl) ?_
  refine vV.cVi dX6_whose_4 ml_X6_116 cw_X1_firstFault iw_X1_firstFault (by first | rfl | assumption) rfl (by unfold vRoom; decide) (c_X1_firstFault hB hm hle) rfl rfl (Nat.le_of_ble_eq_true rfl) ?_
  rintro x4 _ _ hx4 ⟨rfl, rfl, rfl⟩
  refine vV.if_lt (tgt := 13) dX6_whose_7 (by decide) (fun h7 => ?_) (fun h7 => ?_)
  · skip
    have hno := pNo_of (pOr_none h7)
    rw [pOr_none' h7, if_neg (by simp)] at hJ
    have hlen := pL_len hno m (Nat.le_refl m)
    refine vV.aload_n dX6_whose_13 rfl ?_
    refine vV.getr dX6_whose_14 fl_X6_26 (by first | rfl | assumption) rfl (by first | assumption | exact hB _ _ _ rfl) ?_
    refine vV.cVi dX6_whose_17 ml_X6_123 cw_X1_read iw_X1_read (by first | rfl | assumption) rfl (by unfold vRoom; decide) (c_X1_read hB hm hle hno) rfl rfl (Nat.le_of_ble_eq_true rfl) ?_
    rintro x17 _ _ hx17 ⟨rfl, rfl, f, rfl, hf⟩
    rw [hJ]
    refine vV.istore_n (L' := [_, _, _, _, _, _]) dX6_whose_20 (by decide) rfl ?_
    refine vV.iconst dX6_whose_21 (by decide) ?_
    refine vV.istore_n (L' := [_, _, _, _, _, _]) dX6_whose_22 (by decide) rfl ?_
    refine vV.iconst dX6_whose_23 (by decide) ?_
    refine vV.istore_n (L' := [_, _, _, _, _, _]) dX6_whose_24 (by decide) rfl ?_
    refine vV.iconst dX6_whose_25 (by decide) ?_
    refine vV.istore (L' := [_, _, _, _, _, _]) dX6_whose_26 (by decide) rfl ?_
    exact l_X6_wh28 (v := v) (l := pL (M 61) m) hB hW hlag rfl (by omega) (fun k => qL_rg k) hv2 0 (by omega) _ (cKeepL.r M f) hZ (by rw [vRow_s]; exact hf) _
  · skip
    rw [if_pos (pOr_some h7)] at hJ
    refine vV.bipush (v := (-5)) dX6_whose_10 (by decide) (by decide) ?_
    refine vV.ri dX6_whose_12 rfl ?_
    exact ⟨rfl, cKeepL.rf M, hJ.symm⟩
