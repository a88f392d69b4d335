/-! ===== own: the reference: its small methods ===== -/
theorem dX7_in_0 : decode cX7_in 0 = .ok (.lload_n 0, 1) := by decide +kernel
theorem dX7_in_1 : decode cX7_in 1 = .ok (.lload_n 2, 1) := by decide +kernel
theorem dX7_in_2 : decode cX7_in 2 = .ok (.lcmp, 1) := by decide +kernel
theorem dX7_in_3 : decode cX7_in 3 = .ok (.ifCond .lt 14, 3) := by decide +kernel
theorem dX7_in_6 : decode cX7_in 6 = .ok (.lload_n 0, 1) := by decide +kernel
theorem dX7_in_7 : decode cX7_in 7 = .ok (.lload 4, 2) := by decide +kernel
theorem dX7_in_9 : decode cX7_in 9 = .ok (.lcmp, 1) := by decide +kernel
theorem dX7_in_10 : decode cX7_in 10 = .ok (.ifCond .gt 7, 3) := by decide +kernel
theorem dX7_in_13 : decode cX7_in 13 = .ok (.iconst 1, 1) := by decide +kernel
theorem dX7_in_14 : decode cX7_in 14 = .ok (.goto 4, 3) := by decide +kernel
theorem dX7_in_17 : decode cX7_in 17 = .ok (.iconst 0, 1) := by decide +kernel
theorem dX7_in_18 : decode cX7_in 18 = .ok (.ireturn, 1) := by decide +kernel
theorem i64_in {x : Int} (h : vIn x) : (Int64.ofInt x).toInt = x := Int64.toInt_ofInt_of_le (by have := h.1; omega) (by have := h.2; omega)
theorem lg_lt {x y : Int} (hx : vIn x) (hy : vIn y) : lg_cmp (Int64.ofInt x) (Int64.ofInt y) < 0 ↔ x < y := by
  have e1 : (Int64.ofInt y < Int64.ofInt x) ↔ y < x := by rw [Int64.lt_iff_toInt_lt, i64_in hx, i64_in hy]
  have e2 : (Int64.ofInt x = Int64.ofInt y) ↔ x = y := ⟨fun h => by rw [← i64_in hx, ← i64_in hy, h], fun h => by rw [h]⟩
  unfold lg_cmp
  by_cases h1 : y < x
  · rw [if_pos (e1.mpr h1)]; exact ⟨fun h => absurd h (by decide), fun h => by omega⟩
  · rw [if_neg (fun h => h1 (e1.mp h))]
    by_cases h2 : x = y
    · rw [if_pos (e2.mpr h2)]; exact ⟨fun h => absurd h (by decide), fun h => by omega⟩
    · rw [if_neg (fun h => h2 (e2.mp h))]; exact ⟨fun _ => by omega, fun _ => by decide⟩
theorem lg_gt {x y : Int} (hx : vIn x) (hy : vIn y) : 0 < lg_cmp (Int64.ofInt x) (Int64.ofInt y) ↔ y < x := by
  have e1 : (Int64.ofInt y < Int64.ofInt x) ↔ y < x := by rw [Int64.lt_iff_toInt_lt, i64_in hx, i64_in hy]
  unfold lg_cmp
  by_cases h1 : y < x
  · rw [if_pos (e1.mpr h1)]; exact ⟨fun _ => h1, fun _ => by decide⟩
  · rw [if_neg (fun h => h1 (e1.mp h))]
    refine ⟨fun h => ?_, fun h => absurd h h1⟩
    split at h <;> exact absurd h (by decide)
def pIn (v lo hi : Int) : Int := if lo ≤ v ∧ v ≤ hi then 1 else 0
set_option maxHeartbeats 4000000 in
/-- in(v, low, high), over longs -/
theorem c_X7_in {d : List Nat} {T : vT} {M : vM} {x y z : Int} : vCon m_X7_in d d [vL x, vL y, vL z] T M (vPi fun r T1 M1 => r = pIn x y z ∧ T = T1 ∧ M = M1) := by
  intro l D q ρ sz hok hle
  have hx1 : vIn x := hok (vL x) (by simp)
  have hy1 : vIn y := hok (vL y) (by simp)
  have hz1 : vIn z := hok (vL z) (by simp)
  refine Met.ofW (cc := cX7_in) (maxL := 6) (ret := some .boolean) (by decide) rfl ?_
  intro p e s m args below meth c s₁ B hml hpre
  obtain ⟨rfl, hsz, hP, hK, hD0, hst, hN, hnw⟩ := hpre
  have hx := B.exec
  have hb := B.bytes
  have hr := B.returns
  have hlocks := B.notSynchronized
  subst hsz
  have hD := hD0.self (sz := s.heap.size)
  have hSS : va_S (va_A (vW q ρ d T M) s.heap.size) s.heap s.heap [] := va_S.rf
  have hl := lv_entry ([.long (Int64.ofInt x), .long (Int64.ofInt y), .long (Int64.ofInt z)]) (n := 6) (Nat.le_of_ble_eq_true rfl)
  have hfin : ∀ (pc : Nat) (ls : Array Slot) (v : Int), v = 0 ∨ v = 1 → v = pIn x y z → decode cX7_in pc = .ok (.ireturn, 1) → W p l e (headSpec (vWs yX7_in cX7_in 6 (some .boolean)) (vRm m_X7_in d d)).room s m ([vL x, vL y, vL z].map (vc ρ)).toArray below meth c s.heap [] 0 0 (MQ below (vQq q D (va_A (vW q ρ d T M) s.heap.size) ρ d d (vPi fun r T1 M1 => r = pIn x y z ∧ T = T1 ∧ M = M1)) ([vL x, vL y, vL z].map (vc ρ)).toArray s (d.length - d.length) (vSz d - vSz d) (va_A (vW q ρ d T M) s.heap.size)) (F0 m pc ls [.int (Int32.ofInt v)]) := by
    intro pc ls v h01 hv hd
    rw [Nat.sub_self, Nat.sub_self]
    have hvi : vIn v := by rcases h01 with rfl | rfl <;> decide
    exact W.zret hx hb hr (by rcases h01 with rfl | rfl <;> rfl) (fun t ht hW => ⟨⟨some (vI v), T, M, ρ, rfl, ⟨v, rfl, hvi, hv, rfl, rfl⟩, by rw [ht]; exact hP, hD, hN, fun k hk => ⟨hk, rfl⟩, fun w hw => by cases hw; exact hvi⟩, hSS.F ht⟩) hSS.2.2 hd hlocks
  show W _ _ _ _ _ _ _ _ _ _ _ _ _ _ _ (entryFrame m ([Value.long (Int64.ofInt x), Value.long (Int64.ofInt y), Value.long (Int64.ofInt z)] : List Value).toArray 6)
  rw [lg_entry_eq]
  generalize (lg_sl ([.long (Int64.ofInt x), .long (Int64.ofInt y), .long (Int64.ofInt z)]) ++ List.replicate (6 - (lg_sl ([.long (Int64.ofInt x), .long (Int64.ofInt y), .long (Int64.ofInt z)])).length) Slot.unset).toArray = ls at hl ⊢
  have hl : lv_has ls 6 [(0, .long (Int64.ofInt x)), (2, .long (Int64.ofInt y)), (4, .long (Int64.ofInt z))] := hl
  refine lv_lload_n hx hb dX7_in_0 rfl (lv_at hl 0 rfl) ?_
  refine lv_lload_n hx hb dX7_in_1 rfl (lv_at hl 1 rfl) ?_
  refine W.lcmp hx hb dX7_in_2 ?_
  refine lv_if_lt (tgt := 17) hx hb dX7_in_3 (by decide) (fun h3 => ?_) (fun h3 => ?_)
  · refine lv_iconst (v := 0) hx hb dX7_in_17 (by decide) ?_
    have := (lg_lt hx1 hy1).mp h3
    exact hfin 18 ls 0 (Or.inl rfl) (by unfold pIn; rw [if_neg (by omega)]) dX7_in_18
  · have h3' : ¬ x < y := fun h => h3 ((lg_lt hx1 hy1).mpr h)
    refine lv_lload_n hx hb dX7_in_6 rfl (lv_at hl 0 rfl) ?_
    refine lv_lload hx hb dX7_in_7 (lv_at hl 2 rfl) ?_
    refine W.lcmp hx hb dX7_in_9 ?_
    refine lv_if_gt (tgt := 17) hx hb dX7_in_10 (by decide) (fun h10 => ?_) (fun h10 => ?_)
    · refine lv_iconst (v := 0) hx hb dX7_in_17 (by decide) ?_
      have := (lg_gt hx1 hz1).mp h10
      exact hfin 18 ls 0 (Or.inl rfl) (by unfold pIn; rw [if_neg (by omega)]) dX7_in_18
    · have h10' : ¬ z < x := fun h => h10 ((lg_gt hx1 hz1).mpr h)
      refine lv_iconst (v := 1) hx hb dX7_in_13 (by decide) ?_
      refine lv_goto (tgt := 18) hx hb dX7_in_14 (by decide) ?_
      exact hfin 18 ls 1 (Or.inr rfl) (by unfold pIn; rw [if_pos (by omega)]) dX7_in_18
theorem dX7_apart_0 : decode cX7_apart 0 = .ok (.iload_n 0, 1) := by decide +kernel
theorem dX7_apart_1 : decode cX7_apart 1 = .ok (.iload_n 1, 1) := by decide +kernel
theorem dX7_apart_2 : decode cX7_apart 2 = .ok (.if_icmp .ge 9, 3) := by decide +kernel
theorem dX7_apart_5 : decode cX7_apart 5 = .ok (.iload_n 1, 1) := by decide +kernel
theorem dX7_apart_6 : decode cX7_apart 6 = .ok (.iload_n 0, 1) := by decide +kernel
theorem dX7_apart_7 : decode cX7_apart 7 = .ok (.isub, 1) := by decide +kernel
theorem dX7_apart_8 : decode cX7_apart 8 = .ok (.goto 6, 3) := by decide +kernel
theorem dX7_apart_11 : decode cX7_apart 11 = .ok (.iload_n 0, 1) := by decide +kernel
theorem dX7_apart_12 : decode cX7_apart 12 = .ok (.iload_n 1, 1) := by decide +kernel
theorem dX7_apart_13 : decode cX7_apart 13 = .ok (.isub, 1) := by decide +kernel
theorem dX7_apart_14 : decode cX7_apart 14 = .ok (.ireturn, 1) := by decide +kernel
def pAbs (a b : Int) : Int := if a < b then b - a else a - b
theorem c_X7_apart {d : List Nat} {T : vT} {M : vM} {x y : Int} (hx : -1000 ≤ x ∧ x ≤ 1000) (hy : -1000 ≤ y ∧ y ≤ 1000) : vCon m_X7_apart d d [vI x, vI y] T M (vPi fun r T1 M1 => r = pAbs x y ∧ T = T1 ∧ M = M1) := by
  refine vCon.of (by decide) rfl rfl (Nat.le_of_ble_eq_true rfl) ?_
  refine vV.iload_n dX7_apart_0 rfl ?_
  refine vV.iload_n dX7_apart_1 rfl ?_
  refine vV.icmp_ge (tgt := 11) dX7_apart_2 (by decide) (fun h2 => ?_) (fun h2 => ?_)
  · skip
    refine vV.iload_n dX7_apart_11 rfl ?_
    refine vV.iload_n dX7_apart_12 rfl ?_
    refine vV.isub dX7_apart_13 (⟨by omega, by omega⟩) ?_
    refine vV.ri dX7_apart_14 rfl ?_
    refine ⟨?_, rfl, rfl⟩; unfold pAbs; first | rw [if_pos (by omega)] | rw [if_neg (by omega)]
  · skip
    refine vV.iload_n dX7_apart_5 rfl ?_
    refine vV.iload_n dX7_apart_6 rfl ?_
    refine vV.isub dX7_apart_7 (⟨by omega, by omega⟩) ?_
    refine vV.goto (tgt := 14) dX7_apart_8 (by decide) ?_
    refine vV.ri dX7_apart_14 rfl ?_
    refine ⟨?_, rfl, rfl⟩; unfold pAbs; first | rw [if_pos (by omega)] | rw [if_neg (by omega)]
theorem dX7_isPlate_0 : decode cX7_isPlate 0 = .ok (.iload_n 1, 1) := by decide +kernel
theorem dX7_isPlate_1 : decode cX7_isPlate 1 = .ok (.i2l, 1) := by decide +kernel
theorem dX7_isPlate_2 : decode cX7_isPlate 2 = .ok (.lconst 0, 1) := by decide +kernel
theorem dX7_isPlate_3 : decode cX7_isPlate 3 = .ok (.aload_n 0, 1) := by decide +kernel
theorem dX7_isPlate_4 : decode cX7_isPlate 4 = .ok (.getfield 89, 3) := by decide +kernel
theorem dX7_isPlate_7 : decode cX7_isPlate 7 = .ok (.iconst 1, 1) := by decide +kernel
theorem dX7_isPlate_8 : decode cX7_isPlate 8 = .ok (.isub, 1) := by decide +kernel
theorem dX7_isPlate_9 : decode cX7_isPlate 9 = .ok (.i2l, 1) := by decide +kernel
theorem dX7_isPlate_10 : decode cX7_isPlate 10 = .ok (.invokestatic 92, 3) := by decide +kernel
theorem dX7_isPlate_13 : decode cX7_isPlate 13 = .ok (.ireturn, 1) := by decide +kernel
theorem c_X7_isPlate {d : List Nat} {T : vT} {M : vM} {n : Nat} {x : Int} (hc : M 200 4 = n) (hn : n ≤ 6) : vCon m_X7_isPlate d d [vR 200, vI x] T M (vPi fun r T1 M1 => r = (if 0 ≤ x ∧ x < n then 1 else 0) ∧ T = T1 ∧ M = M1) := by
  refine vCon.of (by decide) rfl rfl (Nat.le_of_ble_eq_true rfl) ?_
  refine vV.iload_n dX7_isPlate_0 rfl ?_
  refine vV.i2l dX7_isPlate_1 ?_
  refine vV.lconst (v := 0) dX7_isPlate_2 (by decide) (by decide) ?_
  refine vV.aload_n dX7_isPlate_3 rfl ?_
  refine vV.geti (z := 4) dX7_isPlate_4 fl_X7_89 (by first | rfl | assumption) rfl rfl ?_
  refine vV.iconst dX7_isPlate_7 (by decide) ?_
  refine vV.isub dX7_isPlate_8 (⟨by omega, by omega⟩) ?_
  refine vV.i2l dX7_isPlate_9 ?_
  refine vV.cSi dX7_isPlate_10 ml_X7_92 cw_X7_in sw_X7_in (by unfold vRoom; decide) c_X7_in rfl rfl (Nat.le_of_ble_eq_true rfl) ?_
  rintro x10 _ _ hx10 ⟨rfl, rfl, rfl⟩
  have e : pIn x 0 (M 200 4 - 1) = (if 0 ≤ x ∧ x < n then 1 else 0) := by unfold pIn; rw [hc]; congr 1; simp; omega
  rw [e]
  refine vV.rz dX7_isPlate_13 rfl (by split <;> simp) ?_
  exact ⟨rfl, rfl, rfl⟩
theorem dX7_plateAt_0 : decode cX7_plateAt 0 = .ok (.iconst 0, 1) := by decide +kernel
theorem dX7_plateAt_1 : decode cX7_plateAt 1 = .ok (.istore_n 2, 1) := by decide +kernel
theorem dX7_plateAt_2 : decode cX7_plateAt 2 = .ok (.iload_n 2, 1) := by decide +kernel
theorem dX7_plateAt_3 : decode cX7_plateAt 3 = .ok (.aload_n 0, 1) := by decide +kernel
theorem dX7_plateAt_4 : decode cX7_plateAt 4 = .ok (.getfield 89, 3) := by decide +kernel
theorem dX7_plateAt_7 : decode cX7_plateAt 7 = .ok (.if_icmp .ge 21, 3) := by decide +kernel
theorem dX7_plateAt_10 : decode cX7_plateAt 10 = .ok (.aload_n 0, 1) := by decide +kernel
theorem dX7_plateAt_11 : decode cX7_plateAt 11 = .ok (.getfield 7, 3) := by decide +kernel
theorem dX7_plateAt_14 : decode cX7_plateAt 14 = .ok (.iload_n 2, 1) := by decide +kernel
theorem dX7_plateAt_15 : decode cX7_plateAt 15 = .ok (.iaload, 1) := by decide +kernel
theorem dX7_plateAt_16 : decode cX7_plateAt 16 = .ok (.iload_n 1, 1) := by decide +kernel
theorem dX7_plateAt_17 : decode cX7_plateAt 17 = .ok (.if_icmp .ne 5, 3) := by decide +kernel
theorem dX7_plateAt_20 : decode cX7_plateAt 20 = .ok (.iload_n 2, 1) := by decide +kernel
theorem dX7_plateAt_21 : decode cX7_plateAt 21 = .ok (.ireturn, 1) := by decide +kernel
theorem dX7_plateAt_22 : decode cX7_plateAt 22 = .ok (.iinc 2 1, 3) := by decide +kernel
theorem dX7_plateAt_25 : decode cX7_plateAt 25 = .ok (.goto (-23), 3) := by decide +kernel
theorem dX7_plateAt_28 : decode cX7_plateAt 28 = .ok (.bipush (-6), 2) := by decide +kernel
theorem dX7_plateAt_30 : decode cX7_plateAt 30 = .ok (.ireturn, 1) := by decide +kernel
theorem l_X7_plateAt {d : List Nat} {T : vT} {M : vM} {n : Nat} {x : Int} (hB : vB T) (hc : M 200 4 = n) (hn : n ≤ 6) : ∀ p, p ≤ n → (∀ j : Nat, j < p → M 201 j ≠ x) →
    vV m_X7_plateAt d d (vPi fun r T1 M1 => r = pOr (-6) (pAt n (M 201) x) ∧ T = T1 ∧ M = M1) 2 [some (vR 200), some (vI x), some (vI p)] [] d T M := by
  refine vUp ?_
  intro p h2 ih hp
  unfold pAt
  refine vV.iload_n dX7_plateAt_2 rfl ?_
  refine vV.aload_n dX7_plateAt_3 rfl ?_
  refine vV.geti (z := 4) dX7_plateAt_4 fl_X7_89 (by first | rfl | assumption) rfl rfl ?_
  refine vV.icmp_ge (tgt := 28) dX7_plateAt_7 (by decide) (fun h7 => ?_) (fun h7 => ?_)
  · skip
    refine vV.bipush (v := (-6)) dX7_plateAt_28 (by decide) (by decide) ?_
    refine vV.ri dX7_plateAt_30 rfl ?_
    rw [pFind_no (fun j hj => by simpa using hp j (by omega))]; exact ⟨rfl, rfl, rfl⟩
  · skip
    refine vV.aload_n dX7_plateAt_10 rfl ?_
    refine vV.getr dX7_plateAt_11 fl_X7_7 (by first | rfl | assumption) rfl (by first | assumption | exact hB _ _ _ rfl) ?_
    refine vV.iload_n dX7_plateAt_14 rfl ?_
    refine vV.iald dX7_plateAt_15 (by first | rfl | assumption) (by omega) (by omega) ?_
    refine vV.iload_n dX7_plateAt_16 rfl ?_
    refine vV.icmp_ne (tgt := 22) dX7_plateAt_17 (by decide) (fun h17 => ?_) (fun h17 => ?_)
    · skip
      refine vV.iinc (L' := [_, _, _]) dX7_plateAt_22 (by decide) rfl (⟨by omega, by omega⟩) rfl ?_
      refine vV.goto (tgt := 2) dX7_plateAt_25 (by decide) ?_
      exact ih (by omega) (fun j hj => (Nat.lt_succ_iff_lt_or_eq.mp hj).elim (hp j) (fun h => by subst h; exact h17))
    · skip
      refine vV.iload_n dX7_plateAt_20 rfl ?_
      refine vV.ri dX7_plateAt_21 rfl ?_
      rw [pFind_yes (p := p) (by omega) (by simpa using h17) (fun j hj => by simpa using hp j hj)]; exact ⟨rfl, rfl, rfl⟩
theorem c_X7_plateAt {d : List Nat} {T : vT} {M : vM} {n : Nat} {x : Int} (hB : vB T) (hc : M 200 4 = n) (hn : n ≤ 6) : vCon m_X7_plateAt d d [vR 200, vI x] T M (vPi fun r T1 M1 => r = pOr (-6) (pAt n (M 201) x) ∧ T = T1 ∧ M = M1) := by
  refine vCon.of (by decide) rfl rfl (Nat.le_of_ble_eq_true rfl) ?_
  refine vV.iconst dX7_plateAt_0 (by decide) ?_
  refine vV.istore_n (L' := [_, _, _]) dX7_plateAt_1 (by decide) rfl ?_
  exact l_X7_plateAt hB hc hn 0 (by omega) (fun j hj => by omega)
theorem vOr_0 {x : Nat} (h : x < 2 ^ 31) : vOr x 0 = x := by
  rw [show (0 : Int) = ((0 : Nat) : Int) from rfl, vOr_nat h (by decide)]; simp
theorem pBits_or0 (tu : Int → Int) {n : Nat} (hn : n < 30) : vOr (pBits tu n) 0 = pBits tu n := by
  obtain ⟨h0, h1⟩ := pBits_rg tu n
  have hp : (2 : Nat) ^ n ≤ 2 ^ 29 := Nat.pow_le_pow_right (by decide) (by omega)
  have hc : ((2 ^ n : Nat) : Int) = (2 : Int) ^ n := by simp
  obtain ⟨b, hb⟩ : ∃ b : Nat, pBits tu n = b := ⟨(pBits tu n).toNat, by omega⟩
  rw [hb, vOr_0 (by rw [hb, ← hc] at h1; omega)]
theorem dX7_standing_0 : decode cX7_standing 0 = .ok (.iconst 0, 1) := by decide +kernel
theorem dX7_standing_1 : decode cX7_standing 1 = .ok (.istore_n 1, 1) := by decide +kernel
theorem dX7_standing_2 : decode cX7_standing 2 = .ok (.iconst 0, 1) := by decide +kernel
theorem dX7_standing_3 : decode cX7_standing 3 = .ok (.istore_n 2, 1) := by decide +kernel
theorem dX7_standing_4 : decode cX7_standing 4 = .ok (.iload_n 2, 1) := by decide +kernel
theorem dX7_standing_5 : decode cX7_standing 5 = .ok (.aload_n 0, 1) := by decide +kernel
theorem dX7_standing_6 : decode cX7_standing 6 = .ok (.getfield 89, 3) := by decide +kernel
theorem dX7_standing_9 : decode cX7_standing 9 = .ok (.if_icmp .ge 28, 3) := by decide +kernel
theorem dX7_standing_12 : decode cX7_standing 12 = .ok (.iload_n 1, 1) := by decide +kernel
theorem dX7_standing_13 : decode cX7_standing 13 = .ok (.aload_n 0, 1) := by decide +kernel
theorem dX7_standing_14 : decode cX7_standing 14 = .ok (.getfield 19, 3) := by decide +kernel
theorem dX7_standing_17 : decode cX7_standing 17 = .ok (.iload_n 2, 1) := by decide +kernel
theorem dX7_standing_18 : decode cX7_standing 18 = .ok (.iaload, 1) := by decide +kernel
theorem dX7_standing_19 : decode cX7_standing 19 = .ok (.ifCond .le 9, 3) := by decide +kernel
theorem dX7_standing_22 : decode cX7_standing 22 = .ok (.iconst 1, 1) := by decide +kernel
theorem dX7_standing_23 : decode cX7_standing 23 = .ok (.iload_n 2, 1) := by decide +kernel
theorem dX7_standing_24 : decode cX7_standing 24 = .ok (.ishl, 1) := by decide +kernel
theorem dX7_standing_25 : decode cX7_standing 25 = .ok (.goto 4, 3) := by decide +kernel
theorem dX7_standing_28 : decode cX7_standing 28 = .ok (.iconst 0, 1) := by decide +kernel
theorem dX7_standing_29 : decode cX7_standing 29 = .ok (.ior, 1) := by decide +kernel
theorem dX7_standing_30 : decode cX7_standing 30 = .ok (.istore_n 1, 1) := by decide +kernel
theorem dX7_standing_31 : decode cX7_standing 31 = .ok (.iinc 2 1, 3) := by decide +kernel
theorem dX7_standing_34 : decode cX7_standing 34 = .ok (.goto (-30), 3) := by decide +kernel
theorem dX7_standing_37 : decode cX7_standing 37 = .ok (.iload_n 1, 1) := by decide +kernel
theorem dX7_standing_38 : decode cX7_standing 38 = .ok (.ireturn, 1) := by decide +kernel
theorem l_X7_standing {d : List Nat} {T : vT} {M : vM} {n : Nat} (hB : vB T) (hc : M 200 4 = n) (hn : n ≤ 6) : ∀ p, p ≤ n →
    vV m_X7_standing d d (vPi fun r T1 M1 => r = pBits (M 204) n ∧ T = T1 ∧ M = M1) 4 [some (vR 200), some (vI (pBits (M 204) p)), some (vI p)] [] d T M := by
  refine vUp ?_
  intro p h2 ih
  refine vV.iload_n dX7_standing_4 rfl ?_
  refine vV.aload_n dX7_standing_5 rfl ?_
  refine vV.geti (z := 4) dX7_standing_6 fl_X7_89 (by first | rfl | assumption) rfl rfl ?_
  refine vV.icmp_ge (tgt := 37) dX7_standing_9 (by decide) (fun h9 => ?_) (fun h9 => ?_)
  · skip
    refine vV.iload_n dX7_standing_37 rfl ?_
    refine vV.ri dX7_standing_38 rfl ?_
    rw [show p = n by omega]; exact ⟨rfl, rfl, rfl⟩
  · skip
    refine vV.iload_n dX7_standing_12 rfl ?_
    refine vV.aload_n dX7_standing_13 rfl ?_
    refine vV.getr dX7_standing_14 fl_X7_19 (by first | rfl | assumption) rfl (by first | assumption | exact hB _ _ _ rfl) ?_
    refine vV.iload_n dX7_standing_17 rfl ?_
    refine vV.iald dX7_standing_18 (by first | rfl | assumption) (by omega) (by omega) ?_
    refine vV.if_le (tgt := 28) dX7_standing_19 (by decide) (fun h19 => ?_) (fun h19 => ?_)
    · skip
      have e : pBits (M 204) (p + 1) = vOr (pBits (M 204) p) 0 := by rw [pBits_or0 _ (by omega), pBits_s, if_neg (by omega), Int.add_zero]
      rw [e] at ih
      refine vV.iconst dX7_standing_28 (by decide) ?_
      refine vV.ior dX7_standing_29 ?_
      refine vV.istore_n (L' := [_, _, _]) dX7_standing_30 (by decide) rfl ?_
      refine vV.iinc (L' := [_, _, _]) dX7_standing_31 (by decide) rfl (⟨by omega, by omega⟩) rfl ?_
      refine vV.goto (tgt := 4) dX7_standing_34 (by decide) ?_
      exact ih (by omega)
    · skip
      have e : pBits (M 204) (p + 1) = vOr (pBits (M 204) p) (vShl 1 p) := by rw [pBits_or _ (by omega), pBits_s, if_pos h19]
      rw [e] at ih
      refine vV.iconst dX7_standing_22 (by decide) ?_
      refine vV.iload_n dX7_standing_23 rfl ?_
      refine vV.ishl dX7_standing_24 ?_
      refine vV.goto (tgt := 29) dX7_standing_25 (by decide) ?_
      refine vV.ior dX7_standing_29 ?_
      refine vV.istore_n (L' := [_, _, _]) dX7_standing_30 (by decide) rfl ?_
      refine vV.iinc (L' := [_, _, _]) dX7_standing_31 (by decide) rfl (⟨by omega, by omega⟩) rfl ?_
      refine vV.goto (tgt := 4) dX7_standing_34 (by decide) ?_
      exact ih (by omega)
theorem c_X7_standing {d : List Nat} {T : vT} {M : vM} {n : Nat} (hB : vB T) (hc : M 200 4 = n) (hn : n ≤ 6) : vCon m_X7_standing d d [vR 200] T M (vPi fun r T1 M1 => r = pBits (M 204) n ∧ T = T1 ∧ M = M1) := by
  refine vCon.of (by decide) rfl rfl (Nat.le_of_ble_eq_true rfl) ?_
  refine vV.iconst dX7_standing_0 (by decide) ?_
  refine vV.istore_n (L' := [_, _, _]) dX7_standing_1 (by decide) rfl ?_
  refine vV.iconst dX7_standing_2 (by decide) ?_
  refine vV.istore_n (L' := [_, _, _]) dX7_standing_3 (by decide) rfl ?_
  exact l_X7_standing hB hc hn 0 (by omega)
theorem dX7_simStanding_0 : decode cX7_simStanding 0 = .ok (.iconst 0, 1) := by decide +kernel
theorem dX7_simStanding_1 : decode cX7_simStanding 1 = .ok (.istore_n 1, 1) := by decide +kernel
theorem dX7_simStanding_2 : decode cX7_simStanding 2 = .ok (.iconst 0, 1) := by decide +kernel
theorem dX7_simStanding_3 : decode cX7_simStanding 3 = .ok (.istore_n 2, 1) := by decide +kernel
theorem dX7_simStanding_4 : decode cX7_simStanding 4 = .ok (.iload_n 2, 1) := by decide +kernel
theorem dX7_simStanding_5 : decode cX7_simStanding 5 = .ok (.aload_n 0, 1) := by decide +kernel
theorem dX7_simStanding_6 : decode cX7_simStanding 6 = .ok (.getfield 89, 3) := by decide +kernel
theorem dX7_simStanding_9 : decode cX7_simStanding 9 = .ok (.if_icmp .ge 28, 3) := by decide +kernel
theorem dX7_simStanding_12 : decode cX7_simStanding 12 = .ok (.iload_n 1, 1) := by decide +kernel
theorem dX7_simStanding_13 : decode cX7_simStanding 13 = .ok (.aload_n 0, 1) := by decide +kernel
theorem dX7_simStanding_14 : decode cX7_simStanding 14 = .ok (.getfield 25, 3) := by decide +kernel
theorem dX7_simStanding_17 : decode cX7_simStanding 17 = .ok (.iload_n 2, 1) := by decide +kernel
theorem dX7_simStanding_18 : decode cX7_simStanding 18 = .ok (.iaload, 1) := by decide +kernel
theorem dX7_simStanding_19 : decode cX7_simStanding 19 = .ok (.ifCond .le 9, 3) := by decide +kernel
theorem dX7_simStanding_22 : decode cX7_simStanding 22 = .ok (.iconst 1, 1) := by decide +kernel
theorem dX7_simStanding_23 : decode cX7_simStanding 23 = .ok (.iload_n 2, 1) := by decide +kernel
theorem dX7_simStanding_24 : decode cX7_simStanding 24 = .ok (.ishl, 1) := by decide +kernel
theorem dX7_simStanding_25 : decode cX7_simStanding 25 = .ok (.goto 4, 3) := by decide +kernel
theorem dX7_simStanding_28 : decode cX7_simStanding 28 = .ok (.iconst 0, 1) := by decide +kernel
theorem dX7_simStanding_29 : decode cX7_simStanding 29 = .ok (.ior, 1) := by decide +kernel
theorem dX7_simStanding_30 : decode cX7_simStanding 30 = .ok (.istore_n 1, 1) := by decide +kernel
theorem dX7_simStanding_31 : decode cX7_simStanding 31 = .ok (.iinc 2 1, 3) := by decide +kernel
theorem dX7_simStanding_34 : decode cX7_simStanding 34 = .ok (.goto (-30), 3) := by decide +kernel
theorem dX7_simStanding_37 : decode cX7_simStanding 37 = .ok (.iload_n 1, 1) := by decide +kernel
theorem dX7_simStanding_38 : decode cX7_simStanding 38 = .ok (.ireturn, 1) := by decide +kernel
theorem l_X7_simStanding {d : List Nat} {T : vT} {M : vM} {n : Nat} (hB : vB T) (hc : M 200 4 = n) (hn : n ≤ 6) : ∀ p, p ≤ n →
    vV m_X7_simStanding d d (vPi fun r T1 M1 => r = pBits (M 212) n ∧ T = T1 ∧ M = M1) 4 [some (vR 200), some (vI (pBits (M 212) p)), some (vI p)] [] d T M := by
  refine vUp ?_
  intro p h2 ih
  refine vV.iload_n dX7_simStanding_4 rfl ?_
  refine vV.aload_n dX7_simStanding_5 rfl ?_
  refine vV.geti (z := 4) dX7_simStanding_6 fl_X7_89 (by first | rfl | assumption) rfl rfl ?_
  refine vV.icmp_ge (tgt := 37) dX7_simStanding_9 (by decide) (fun h9 => ?_) (fun h9 => ?_)
  · skip
    refine vV.iload_n dX7_simStanding_37 rfl ?_
    refine vV.ri dX7_simStanding_38 rfl ?_
    rw [show p = n by omega]; exact ⟨rfl, rfl, rfl⟩
  · skip
    refine vV.iload_n dX7_simStanding_12 rfl ?_
    refine vV.aload_n dX7_simStanding_13 rfl ?_
    refine vV.getr dX7_simStanding_14 fl_X7_25 (by first | rfl | assumption) rfl (by first | assumption | exact hB _ _ _ rfl) ?_
    refine vV.iload_n dX7_simStanding_17 rfl ?_
    refine vV.iald dX7_simStanding_18 (by first | rfl | assumption) (by omega) (by omega) ?_
    refine vV.if_le (tgt := 28) dX7_simStanding_19 (by decide) (fun h19 => ?_) (fun h19 => ?_)
    · skip
      have e : pBits (M 212) (p + 1) = vOr (pBits (M 212) p) 0 := by rw [pBits_or0 _ (by omega), pBits_s, if_neg (by omega), Int.add_zero]
      rw [e] at ih
      refine vV.iconst dX7_simStanding_28 (by decide) ?_
      refine vV.ior dX7_simStanding_29 ?_
      refine vV.istore_n (L' := [_, _, _]) dX7_simStanding_30 (by decide) rfl ?_
      refine vV.iinc (L' := [_, _, _]) dX7_simStanding_31 (by decide) rfl (⟨by omega, by omega⟩) rfl ?_
      refine vV.goto (tgt := 4) dX7_simStanding_34 (by decide) ?_
      exact ih (by omega)
    · skip
      have e : pBits (M 212) (p + 1) = vOr (pBits (M 212) p) (vShl 1 p) := by rw [pBits_or _ (by omega), pBits_s, if_pos h19]
      rw [e] at ih
      refine vV.iconst dX7_simStanding_22 (by decide) ?_
      refine vV.iload_n dX7_simStanding_23 rfl ?_
      refine vV.ishl dX7_simStanding_24 ?_
      refine vV.goto (tgt := 29) dX7_simStanding_25 (by decide) ?_
      refine vV.ior dX7_simStanding_29 ?_
      refine vV.istore_n (L' := [_, _, _]) dX7_simStanding_30 (by decide) rfl ?_
      refine vV.iinc (L' := [_, _, _]) dX7_simStanding_31 (by decide) rfl (⟨by omega, by omega⟩) rfl ?_
      refine vV.goto (tgt := 4) dX7_simStanding_34 (by decide) ?_
      exact ih (by omega)
theorem c_X7_simStanding {d : List Nat} {T : vT} {M : vM} {n : Nat} (hB : vB T) (hc : M 200 4 = n) (hn : n ≤ 6) : vCon m_X7_simStanding d d [vR 200] T M (vPi fun r T1 M1 => r = pBits (M 212) n ∧ T = T1 ∧ M = M1) := by
  refine vCon.of (by decide) rfl rfl (Nat.le_of_ble_eq_true rfl) ?_
  refine vV.iconst dX7_simStanding_0 (by decide) ?_
  refine vV.istore_n (L' := [_, _, _]) dX7_simStanding_1 (by decide) rfl ?_
  refine vV.iconst dX7_simStanding_2 (by decide) ?_
  refine vV.istore_n (L' := [_, _, _]) dX7_simStanding_3 (by decide) rfl ?_
  exact l_X7_simStanding hB hc hn 0 (by omega)
theorem dX7_simHere_0 : decode cX7_simHere 0 = .ok (.iconst 0, 1) := by decide +kernel
theorem dX7_simHere_1 : decode cX7_simHere 1 = .ok (.istore_n 1, 1) := by decide +kernel
theorem dX7_simHere_2 : decode cX7_simHere 2 = .ok (.iload_n 1, 1) := by decide +kernel
theorem dX7_simHere_3 : decode cX7_simHere 3 = .ok (.aload_n 0, 1) := by decide +kernel
theorem dX7_simHere_4 : decode cX7_simHere 4 = .ok (.getfield 89, 3) := by decide +kernel
theorem dX7_simHere_7 : decode cX7_simHere 7 = .ok (.if_icmp .ge 33, 3) := by decide +kernel
theorem dX7_simHere_10 : decode cX7_simHere 10 = .ok (.aload_n 0, 1) := by decide +kernel
theorem dX7_simHere_11 : decode cX7_simHere 11 = .ok (.getfield 22, 3) := by decide +kernel
theorem dX7_simHere_14 : decode cX7_simHere 14 = .ok (.iload_n 1, 1) := by decide +kernel
theorem dX7_simHere_15 : decode cX7_simHere 15 = .ok (.iaload, 1) := by decide +kernel
theorem dX7_simHere_16 : decode cX7_simHere 16 = .ok (.aload_n 0, 1) := by decide +kernel
theorem dX7_simHere_17 : decode cX7_simHere 17 = .ok (.getfield 123, 3) := by decide +kernel
theorem dX7_simHere_20 : decode cX7_simHere 20 = .ok (.if_icmp .ne 14, 3) := by decide +kernel
theorem dX7_simHere_23 : decode cX7_simHere 23 = .ok (.aload_n 0, 1) := by decide +kernel
theorem dX7_simHere_24 : decode cX7_simHere 24 = .ok (.getfield 25, 3) := by decide +kernel
theorem dX7_simHere_27 : decode cX7_simHere 27 = .ok (.iload_n 1, 1) := by decide +kernel
theorem dX7_simHere_28 : decode cX7_simHere 28 = .ok (.iaload, 1) := by decide +kernel
theorem dX7_simHere_29 : decode cX7_simHere 29 = .ok (.ifCond .le 5, 3) := by decide +kernel
theorem dX7_simHere_32 : decode cX7_simHere 32 = .ok (.iload_n 1, 1) := by decide +kernel
theorem dX7_simHere_33 : decode cX7_simHere 33 = .ok (.ireturn, 1) := by decide +kernel
theorem dX7_simHere_34 : decode cX7_simHere 34 = .ok (.iinc 1 1, 3) := by decide +kernel
theorem dX7_simHere_37 : decode cX7_simHere 37 = .ok (.goto (-35), 3) := by decide +kernel
theorem dX7_simHere_40 : decode cX7_simHere 40 = .ok (.bipush (-6), 2) := by decide +kernel
theorem dX7_simHere_42 : decode cX7_simHere 42 = .ok (.ireturn, 1) := by decide +kernel
/-- the plate at his place, if it stands (places are apart) -/
def pHere (n : Nat) (pl tu : Int → Int) (man : Int) : Option Nat := pFind (fun j => decide (pl j = man) && decide (0 < tu j)) n
theorem l_X7_simHere {d : List Nat} {T : vT} {M : vM} {n : Nat} (hB : vB T) (hc : M 200 4 = n) (hn : n ≤ 6) : ∀ p, p ≤ n → (∀ j : Nat, j < p → (decide (M 211 j = M 200 12) && decide (0 < M 212 j)) = false) →
    vV m_X7_simHere d d (vPi fun r T1 M1 => r = pOr (-6) (pHere n (M 211) (M 212) (M 200 12)) ∧ T = T1 ∧ M = M1) 2 [some (vR 200), some (vI p)] [] d T M := by
  refine vUp ?_
  intro p h2 ih hp
  unfold pHere
  refine vV.iload_n dX7_simHere_2 rfl ?_
  refine vV.aload_n dX7_simHere_3 rfl ?_
  refine vV.geti (z := 4) dX7_simHere_4 fl_X7_89 (by first | rfl | assumption) rfl rfl ?_
  refine vV.icmp_ge (tgt := 40) dX7_simHere_7 (by decide) (fun h7 => ?_) (fun h7 => ?_)
  · skip
    refine vV.bipush (v := (-6)) dX7_simHere_40 (by decide) (by decide) ?_
    refine vV.ri dX7_simHere_42 rfl ?_
    rw [pFind_no (fun j hj => hp j (by omega))]; exact ⟨rfl, rfl, rfl⟩
  · skip
    refine vV.aload_n dX7_simHere_10 rfl ?_
    refine vV.getr dX7_simHere_11 fl_X7_22 (by first | rfl | assumption) rfl (by first | assumption | exact hB _ _ _ rfl) ?_
    refine vV.iload_n dX7_simHere_14 rfl ?_
    refine vV.iald dX7_simHere_15 (by first | rfl | assumption) (by omega) (by omega) ?_
    refine vV.aload_n dX7_simHere_16 rfl ?_
    refine vV.geti (z := 12) dX7_simHere_17 fl_X7_123 (by first | rfl | assumption) rfl rfl ?_
    refine vV.icmp_ne (tgt := 34) dX7_simHere_20 (by decide) (fun h20 => ?_) (fun h20 => ?_)
    · skip
      refine vV.iinc (L' := [_, _]) dX7_simHere_34 (by decide) rfl (⟨by omega, by omega⟩) rfl ?_
      refine vV.goto (tgt := 2) dX7_simHere_37 (by decide) ?_
      exact ih (by omega) (fun j hj => (Nat.lt_succ_iff_lt_or_eq.mp hj).elim (hp j) (fun h => by subst h; first | (simp [h20]; done) | (simp [h20]; omega)))
    · skip
      refine vV.aload_n dX7_simHere_23 rfl ?_
      refine vV.getr dX7_simHere_24 fl_X7_25 (by first | rfl | assumption) rfl (by first | assumption | exact hB _ _ _ rfl) ?_
      refine vV.iload_n dX7_simHere_27 rfl ?_
      refine vV.iald dX7_simHere_28 (by first | rfl | assumption) (by omega) (by omega) ?_
      refine vV.if_le (tgt := 34) dX7_simHere_29 (by decide) (fun h29 => ?_) (fun h29 => ?_)
      · skip
        refine vV.iinc (L' := [_, _]) dX7_simHere_34 (by decide) rfl (⟨by omega, by omega⟩) rfl ?_
        refine vV.goto (tgt := 2) dX7_simHere_37 (by decide) ?_
        exact ih (by omega) (fun j hj => (Nat.lt_succ_iff_lt_or_eq.mp hj).elim (hp j) (fun h => by subst h; first | (simp [h20]; done) | (simp [h20]; omega)))
      · skip
        refine vV.iload_n dX7_simHere_32 rfl ?_
        refine vV.ri dX7_simHere_33 rfl ?_
        rw [pFind_yes (p := p) (by omega) (by simp [h20]; omega) hp]; exact ⟨rfl, rfl, rfl⟩
theorem c_X7_simHere {d : List Nat} {T : vT} {M : vM} {n : Nat} (hB : vB T) (hc : M 200 4 = n) (hn : n ≤ 6) : vCon m_X7_simHere d d [vR 200] T M (vPi fun r T1 M1 => r = pOr (-6) (pHere n (M 211) (M 212) (M 200 12)) ∧ T = T1 ∧ M = M1) := by
  refine vCon.of (by decide) rfl rfl (Nat.le_of_ble_eq_true rfl) ?_
  refine vV.iconst dX7_simHere_0 (by decide) ?_
  refine vV.istore_n (L' := [_, _]) dX7_simHere_1 (by decide) rfl ?_
  exact l_X7_simHere hB hc hn 0 (by omega) (fun j hj => by omega)
