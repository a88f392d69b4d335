/-! ===== own: the reference: findExact, stateNow, turnIn, isState, nextState ===== -/
/-- the reference holds the plates of E -/
def rX (M : vM) (E : xE) : Prop := M 200 29 = E.1 ∧ M 200 6 = E.2.2.2.2 ∧ ∀ k : Nat, k < E.1 → (0 ≤ M 229 k ∧ M 229 k < 6) ∧ M 201 (M 229 k) = E.2.1 k ∧ M 202 (M 229 k) = E.2.2.1 k ∧ M 203 (M 229 k) = E.2.2.2.1 k
def dR (p : Nat) : xS := (p / 4096, p / 256 % 16, p / 16 % 16, p % 16)
theorem dR_R {p : Nat} (hp : p < 32768) : xok (dR p) ∧ enR (dR p) = p := by
  unfold dR xok enR; simp only; omega
theorem R_dR {s : xS} (h : xok s) : dR (enR s) = s := enR_inj (dR_R (enR_lt h)).1 h (dR_R (enR_lt h)).2
theorem enR_dig {s : xS} (h : xok s) {k : Nat} (hk : k < 3) : enR s / 2 ^ (8 - 4 * k) % 16 = xt s k ∧ enR s / 4096 = s.1 := by
  obtain ⟨h1, h2, h3, h4⟩ := h
  unfold enR xt
  rcases (show k = 0 ∨ k = 1 ∨ k = 2 by omega) with z | z | z <;> subst z <;> simp <;> omega
theorem dX7_turnIn_0 : decode cX7_turnIn 0 = .ok (.iload_n 0, 1) := by decide +kernel
theorem dX7_turnIn_1 : decode cX7_turnIn 1 = .ok (.bipush 8, 2) := by decide +kernel
theorem dX7_turnIn_3 : decode cX7_turnIn 3 = .ok (.iconst 4, 1) := by decide +kernel
theorem dX7_turnIn_4 : decode cX7_turnIn 4 = .ok (.iload_n 1, 1) := by decide +kernel
theorem dX7_turnIn_5 : decode cX7_turnIn 5 = .ok (.imul, 1) := by decide +kernel
theorem dX7_turnIn_6 : decode cX7_turnIn 6 = .ok (.isub, 1) := by decide +kernel
theorem dX7_turnIn_7 : decode cX7_turnIn 7 = .ok (.ishr, 1) := by decide +kernel
theorem dX7_turnIn_8 : decode cX7_turnIn 8 = .ok (.bipush 15, 2) := by decide +kernel
theorem dX7_turnIn_10 : decode cX7_turnIn 10 = .ok (.iand, 1) := by decide +kernel
theorem dX7_turnIn_11 : decode cX7_turnIn 11 = .ok (.ireturn, 1) := by decide +kernel
theorem c_X7_turnIn {d : List Nat} {T : vT} {M : vM} {s : xS} {k : Nat} (h : xok s) (hk : k < 3) : vCon m_X7_turnIn d d [vI (enR s : Nat), vI k] T M (vPi fun r T1 M1 => r = (xt s k : Nat) ∧ T = T1 ∧ M = M1) := by
  have hp := enR_lt h
  have hd := (enR_dig h hk).1
  have h1 : enR s / 2 ^ (8 - 4 * k) ≤ enR s := Nat.div_le_self _ _
  refine vCon.of (by decide) rfl rfl (Nat.le_of_ble_eq_true rfl) ?_
  refine vV.iload_n dX7_turnIn_0 rfl ?_
  refine vV.bipush (v := 8) dX7_turnIn_1 (by decide) (by decide) ?_
  refine vV.iconst dX7_turnIn_3 (by decide) ?_
  refine vV.iload_n dX7_turnIn_4 rfl ?_
  refine vV.imul dX7_turnIn_5 (⟨by omega, by omega⟩) ?_
  refine vV.isub dX7_turnIn_6 (⟨by omega, by omega⟩) ?_
  rw [show (8 : Int) - 4 * (k : Int) = ((8 - 4 * k : Nat) : Int) by omega]
  refine vV.ishr dX7_turnIn_7 ?_
  refine vV.bipush (v := 15) dX7_turnIn_8 (by decide) (by decide) ?_
  refine vV.iand dX7_turnIn_10 ?_
  refine vV.ri dX7_turnIn_11 rfl ?_
  exact ⟨by rw [vShr_nat (by omega) (by omega), show (15 : Int) = ((2 ^ 4 - 1 : Nat) : Int) from rfl, vAnd_nat 4 (by decide) (by omega), show (2 : Nat) ^ 4 = 16 from rfl, hd], rfl, rfl⟩
theorem dX7_findExact_0 : decode cX7_findExact 0 = .ok (.aload_n 0, 1) := by decide +kernel
theorem dX7_findExact_1 : decode cX7_findExact 1 = .ok (.iconst 0, 1) := by decide +kernel
theorem dX7_findExact_2 : decode cX7_findExact 2 = .ok (.putfield 254, 3) := by decide +kernel
theorem dX7_findExact_5 : decode cX7_findExact 5 = .ok (.iconst 0, 1) := by decide +kernel
theorem dX7_findExact_6 : decode cX7_findExact 6 = .ok (.istore_n 1, 1) := by decide +kernel
theorem dX7_findExact_7 : decode cX7_findExact 7 = .ok (.iconst 0, 1) := by decide +kernel
theorem dX7_findExact_8 : decode cX7_findExact 8 = .ok (.istore_n 2, 1) := by decide +kernel
theorem dX7_findExact_9 : decode cX7_findExact 9 = .ok (.iload_n 2, 1) := by decide +kernel
theorem dX7_findExact_10 : decode cX7_findExact 10 = .ok (.aload_n 0, 1) := by decide +kernel
theorem dX7_findExact_11 : decode cX7_findExact 11 = .ok (.getfield 89, 3) := by decide +kernel
theorem dX7_findExact_14 : decode cX7_findExact 14 = .ok (.if_icmp .ge 49, 3) := by decide +kernel
theorem dX7_findExact_17 : decode cX7_findExact 17 = .ok (.aload_n 0, 1) := by decide +kernel
theorem dX7_findExact_18 : decode cX7_findExact 18 = .ok (.getfield 19, 3) := by decide +kernel
theorem dX7_findExact_21 : decode cX7_findExact 21 = .ok (.iload_n 2, 1) := by decide +kernel
theorem dX7_findExact_22 : decode cX7_findExact 22 = .ok (.iaload, 1) := by decide +kernel
theorem dX7_findExact_23 : decode cX7_findExact 23 = .ok (.ifCond .le 34, 3) := by decide +kernel
theorem dX7_findExact_26 : decode cX7_findExact 26 = .ok (.aload_n 0, 1) := by decide +kernel
theorem dX7_findExact_27 : decode cX7_findExact 27 = .ok (.getfield 254, 3) := by decide +kernel
theorem dX7_findExact_30 : decode cX7_findExact 30 = .ok (.iconst 3, 1) := by decide +kernel
theorem dX7_findExact_31 : decode cX7_findExact 31 = .ok (.if_icmp .ge 23, 3) := by decide +kernel
theorem dX7_findExact_34 : decode cX7_findExact 34 = .ok (.aload_n 0, 1) := by decide +kernel
theorem dX7_findExact_35 : decode cX7_findExact 35 = .ok (.getfield 49, 3) := by decide +kernel
theorem dX7_findExact_38 : decode cX7_findExact 38 = .ok (.aload_n 0, 1) := by decide +kernel
theorem dX7_findExact_39 : decode cX7_findExact 39 = .ok (.getfield 254, 3) := by decide +kernel
theorem dX7_findExact_42 : decode cX7_findExact 42 = .ok (.iload_n 2, 1) := by decide +kernel
theorem dX7_findExact_43 : decode cX7_findExact 43 = .ok (.iastore, 1) := by decide +kernel
theorem dX7_findExact_44 : decode cX7_findExact 44 = .ok (.aload_n 0, 1) := by decide +kernel
theorem dX7_findExact_45 : decode cX7_findExact 45 = .ok (.dup, 1) := by decide +kernel
theorem dX7_findExact_46 : decode cX7_findExact 46 = .ok (.getfield 254, 3) := by decide +kernel
theorem dX7_findExact_49 : decode cX7_findExact 49 = .ok (.iconst 1, 1) := by decide +kernel
theorem dX7_findExact_50 : decode cX7_findExact 50 = .ok (.iadd, 1) := by decide +kernel
theorem dX7_findExact_51 : decode cX7_findExact 51 = .ok (.putfield 254, 3) := by decide +kernel
theorem dX7_findExact_54 : decode cX7_findExact 54 = .ok (.iinc 1 1, 3) := by decide +kernel
theorem dX7_findExact_57 : decode cX7_findExact 57 = .ok (.iinc 2 1, 3) := by decide +kernel
theorem dX7_findExact_60 : decode cX7_findExact 60 = .ok (.goto (-51), 3) := by decide +kernel
theorem dX7_findExact_63 : decode cX7_findExact 63 = .ok (.iload_n 1, 1) := by decide +kernel
theorem dX7_findExact_64 : decode cX7_findExact 64 = .ok (.i2l, 1) := by decide +kernel
theorem dX7_findExact_65 : decode cX7_findExact 65 = .ok (.lconst 1, 1) := by decide +kernel
theorem dX7_findExact_66 : decode cX7_findExact 66 = .ok (.ldc2_w 102, 3) := by decide +kernel
theorem dX7_findExact_69 : decode cX7_findExact 69 = .ok (.invokestatic 92, 3) := by decide +kernel
theorem dX7_findExact_72 : decode cX7_findExact 72 = .ok (.ireturn, 1) := by decide +kernel
def feI (M N : vM) (p : Nat) : Prop := mSame [200, 229] M N ∧ mSlot [29] M N ∧ N 200 29 = ((min 3 (exc (M 204) p) : Nat) : Int) ∧ ∀ k : Nat, k < exc (M 204) p → k < 3 → N 229 k = (exi (M 204) p k : Nat)
theorem exc_le (tu : Int → Int) : ∀ n, exc tu n ≤ n
  | 0 => Nat.le_refl 0
  | n + 1 => by
    have := exc_le tu n
    rw [show exc tu (n + 1) = exc tu n + (if 0 < tu n then 1 else 0) from rfl]; split <;> omega
theorem l_X7_fe9 {d : List Nat} {T : vT} {M : vM} {n : Nat} (hB : vB T) (hc : M 200 4 = n) (hn : n ≤ 6) : ∀ p : Nat, p ≤ n → ∀ N, feI M N p →
    vV m_X7_findExact d d (vPi fun r T1 M1 => T = T1 ∧ feI M M1 n ∧ r = (if 1 ≤ exc (M 204) n ∧ exc (M 204) n ≤ 3 then 1 else 0)) 9 [some (vR 200), some (vI (exc (M 204) p : Nat)), some (vI p)] [] d T N := by
  refine vUp ?_
  intro p hp ih N hI
  have hI2 := hI
  obtain ⟨a1, a2, a3, a4⟩ := hI2
  have hc4 : N 200 4 = n := by rw [a2 4 (by decide)]; exact hc
  have r204 : N 204 = M 204 := a1 204 (by decide)
  have hle := exc_le (M 204) p
  refine vV.iload_n dX7_findExact_9 rfl ?_
  refine vV.aload_n dX7_findExact_10 rfl ?_
  refine vV.geti (z := 4) dX7_findExact_11 fl_X7_89 (by first | rfl | assumption) rfl rfl ?_
  rw [hc4]
  refine vV.icmp_ge (tgt := 63) dX7_findExact_14 (by decide) (fun h14 => ?_) (fun h14 => ?_)
  · skip
    refine vV.iload_n dX7_findExact_63 rfl ?_
    refine vV.i2l dX7_findExact_64 ?_
    refine vV.lconst (v := 1) dX7_findExact_65 (by decide) (by decide) ?_
    refine vV.ldc2 (v := 3) dX7_findExact_66 kl_X7_102 (by decide) (by decide) ?_
    refine vV.cSi dX7_findExact_69 ml_X7_92 cw_X7_in sw_X7_in (by unfold vRoom; decide) c_X7_in rfl rfl (Nat.le_of_ble_eq_true rfl) ?_
    rintro x69 _ _ hx69 ⟨hy69, rfl, rfl⟩
    unfold pIn at hy69
    refine vV.rz dX7_findExact_72 rfl (by rw [hy69]; split <;> simp) ?_
    rw [show p = n by omega] at hI hy69
    refine ⟨rfl, hI, ?_⟩
    rw [hy69]
    by_cases h9 : 1 ≤ exc (M 204) n ∧ exc (M 204) n ≤ 3
    · rw [if_pos h9, if_pos (by omega)]
    · rw [if_neg h9, if_neg (by omega)]
  · skip
    refine vV.aload_n dX7_findExact_17 rfl ?_
    refine vV.getr dX7_findExact_18 fl_X7_19 (by first | rfl | assumption) rfl (by first | assumption | exact hB _ _ _ rfl) ?_
    refine vV.iload_n dX7_findExact_21 rfl ?_
    refine vV.iald dX7_findExact_22 (by first | rfl | assumption) (by omega) (by omega) ?_
    rw [r204]
    refine vV.if_le (tgt := 57) dX7_findExact_23 (by decide) (fun h23 => ?_) (fun h23 => ?_)
    · skip
      have ht : ¬ 0 < M 204 p := by omega
      have hI3 : feI M N (p + 1) := ⟨a1, a2, by rw [exc_f ht]; exact a3, fun k h1 h2 => by rw [exc_f ht] at h1; rw [exi_s h1]; exact a4 k h1 h2⟩
      have ih2 := ih (by omega) N hI3
      rw [exc_f ht] at ih2
      refine vV.iinc (L' := [_, _, _]) dX7_findExact_57 (by decide) rfl (⟨by omega, by omega⟩) rfl ?_
      refine vV.goto (tgt := 9) dX7_findExact_60 (by decide) ?_
      first
      | exact ih2
      | exact ih2 N ⟨a1, a2, by rw [a3, exc_t ht]; omega, fun k h1 h2 => by rw [exi_s (by omega)]; exact a4 k (by omega) h2⟩
      | (refine ih2 _ ⟨fun k hk => ?_, fun j hj => ?_, ?_, fun k h1 h2 => ?_⟩
         · simp at hk; rw [vUpd_row hk.1, vUpd_row hk.2]; exact a1 k (by simp; omega)
         · simp at hj; rw [vUpd_ni hj, vUpd_nk (by decide)]; exact a2 j (by simpa using hj)
         · rw [vUpd_s, exc_t ht]; omega
         · rw [vUpd_nk (by decide)]
           rw [exc_t ht] at h1
           by_cases e : k = exc (M 204) p
           · rw [e, show ((exc (M 204) p : Nat) : Int) = ((min 3 (exc (M 204) p) : Nat) : Int) by omega, vUpd_s, exi_t ht]
           · rw [vUpd_ni (by omega), exi_s (by omega)]; exact a4 k (by omega) h2)
    · skip
      have ht : 0 < M 204 p := by omega
      have ih2 := ih (by omega)
      rw [exc_t ht] at ih2
      refine vV.aload_n dX7_findExact_26 rfl ?_
      refine vV.geti (z := 29) dX7_findExact_27 fl_X7_254 (by first | rfl | assumption) rfl rfl ?_
      rw [a3]
      refine vV.iconst dX7_findExact_30 (by decide) ?_
      refine vV.icmp_ge (tgt := 54) dX7_findExact_31 (by decide) (fun h31 => ?_) (fun h31 => ?_)
      · skip
        refine vV.iinc (L' := [_, _, _]) dX7_findExact_54 (by decide) rfl (⟨by omega, by omega⟩) rfl ?_
        refine vV.iinc (L' := [_, _, _]) dX7_findExact_57 (by decide) rfl (⟨by omega, by omega⟩) rfl ?_
        refine vV.goto (tgt := 9) dX7_findExact_60 (by decide) ?_
        first
        | exact ih2
        | exact ih2 N ⟨a1, a2, by rw [a3, exc_t ht]; omega, fun k h1 h2 => by rw [exi_s (by omega)]; exact a4 k (by omega) h2⟩
        | (refine ih2 _ ⟨fun k hk => ?_, fun j hj => ?_, ?_, fun k h1 h2 => ?_⟩
           · simp at hk; rw [vUpd_row hk.1, vUpd_row hk.2]; exact a1 k (by simp; omega)
           · simp at hj; rw [vUpd_ni hj, vUpd_nk (by decide)]; exact a2 j (by simpa using hj)
           · rw [vUpd_s, exc_t ht]; omega
           · rw [vUpd_nk (by decide)]
             rw [exc_t ht] at h1
             by_cases e : k = exc (M 204) p
             · rw [e, show ((exc (M 204) p : Nat) : Int) = ((min 3 (exc (M 204) p) : Nat) : Int) by omega, vUpd_s, exi_t ht]
             · rw [vUpd_ni (by omega), exi_s (by omega)]; exact a4 k (by omega) h2)
      · skip
        refine vV.aload_n dX7_findExact_34 rfl ?_
        refine vV.getr dX7_findExact_35 fl_X7_49 (by first | rfl | assumption) rfl (by first | assumption | exact hB _ _ _ rfl) ?_
        refine vV.aload_n dX7_findExact_38 rfl ?_
        refine vV.geti (z := 29) dX7_findExact_39 fl_X7_254 (by first | rfl | assumption) rfl rfl ?_
        rw [a3]
        refine vV.iload_n dX7_findExact_42 rfl ?_
        refine vV.iast dX7_findExact_43 (by first | rfl | assumption) (by omega) (by omega) ?_
        refine vV.aload_n dX7_findExact_44 rfl ?_
        refine vV.dup dX7_findExact_45 rfl ?_
        refine vV.geti (z := 29) dX7_findExact_46 fl_X7_254 (by first | rfl | assumption) rfl rfl ?_
        rw [vUpd_nk (by decide), a3]
        refine vV.iconst dX7_findExact_49 (by decide) ?_
        refine vV.iadd dX7_findExact_50 (⟨by omega, by omega⟩) ?_
        refine vV.puti (z := 29) dX7_findExact_51 fl_X7_254 (by first | rfl | assumption) rfl rfl ?_
        refine vV.iinc (L' := [_, _, _]) dX7_findExact_54 (by decide) rfl (⟨by omega, by omega⟩) rfl ?_
        refine vV.iinc (L' := [_, _, _]) dX7_findExact_57 (by decide) rfl (⟨by omega, by omega⟩) rfl ?_
        refine vV.goto (tgt := 9) dX7_findExact_60 (by decide) ?_
        first
        | exact ih2
        | exact ih2 N ⟨a1, a2, by rw [a3, exc_t ht]; omega, fun k h1 h2 => by rw [exi_s (by omega)]; exact a4 k (by omega) h2⟩
        | (refine ih2 _ ⟨fun k hk => ?_, fun j hj => ?_, ?_, fun k h1 h2 => ?_⟩
           · simp at hk; rw [vUpd_row hk.1, vUpd_row hk.2]; exact a1 k (by simp; omega)
           · simp at hj; rw [vUpd_ni hj, vUpd_nk (by decide)]; exact a2 j (by simpa using hj)
           · rw [vUpd_s, exc_t ht]; omega
           · rw [vUpd_nk (by decide)]
             rw [exc_t ht] at h1
             by_cases e : k = exc (M 204) p
             · rw [e, show ((exc (M 204) p : Nat) : Int) = ((min 3 (exc (M 204) p) : Nat) : Int) by omega, vUpd_s, exi_t ht]
             · rw [vUpd_ni (by omega), exi_s (by omega)]; exact a4 k (by omega) h2)
theorem c_X7_findExact {d : List Nat} {T : vT} {M : vM} {n : Nat} (hB : vB T) (hc : M 200 4 = n) (hn : n ≤ 6) : vCon m_X7_findExact d d [vR 200] T M (vPi fun r T1 M1 => T = T1 ∧ feI M M1 n ∧ r = (if 1 ≤ exc (M 204) n ∧ exc (M 204) n ≤ 3 then 1 else 0)) := by
  refine vCon.of (by decide) rfl rfl (Nat.le_of_ble_eq_true rfl) ?_
  refine vV.aload_n dX7_findExact_0 rfl ?_
  refine vV.iconst dX7_findExact_1 (by decide) ?_
  refine vV.puti (z := 29) dX7_findExact_2 fl_X7_254 (by first | rfl | assumption) rfl rfl ?_
  refine vV.iconst dX7_findExact_5 (by decide) ?_
  refine vV.istore_n (L' := [_, _, _]) dX7_findExact_6 (by decide) rfl ?_
  refine vV.iconst dX7_findExact_7 (by decide) ?_
  refine vV.istore_n (L' := [_, _, _]) dX7_findExact_8 (by decide) rfl ?_
  exact l_X7_fe9 hB hc hn 0 (by omega) _ ⟨fun k hk => by simp at hk; rw [vUpd_row hk.1], fun j hj => by simp at hj; rw [vUpd_ni hj], by rw [vUpd_s]; rfl, fun k h1 => by unfold exc at h1; omega⟩
def xEr (M : vM) (n : Nat) : xE := xEof n (M 201) (M 202) (M 203) (M 204) (M 200 6)
def xSr (M : vM) (n : Nat) : xS := xS0 n (M 204) (M 200 5)
theorem feI.x {M N : vM} {n : Nat} (hn : n ≤ 6) (h : feI M N n) (h3 : exc (M 204) n ≤ 3) : rX N (xEr M n) := by
  obtain ⟨a1, a2, a3, a4⟩ := h
  refine ⟨by rw [a3]; show ((min 3 (exc (M 204) n) : Nat) : Int) = (exc (M 204) n : Nat); omega, a2 6 (by decide), fun k hk => ?_⟩
  have hk2 : k < exc (M 204) n := hk
  obtain ⟨q1, q2⟩ := exi_ok hk2
  rw [a4 k hk2 (by omega), a1 201 (by decide), a1 202 (by decide), a1 203 (by decide)]
  exact ⟨⟨by omega, by omega⟩, rfl, rfl, rfl⟩
theorem dX7_stateNow_0 : decode cX7_stateNow 0 = .ok (.aload_n 0, 1) := by decide +kernel
theorem dX7_stateNow_1 : decode cX7_stateNow 1 = .ok (.getfield 117, 3) := by decide +kernel
theorem dX7_stateNow_4 : decode cX7_stateNow 4 = .ok (.istore_n 1, 1) := by decide +kernel
theorem dX7_stateNow_5 : decode cX7_stateNow 5 = .ok (.iconst 0, 1) := by decide +kernel
theorem dX7_stateNow_6 : decode cX7_stateNow 6 = .ok (.istore_n 2, 1) := by decide +kernel
theorem dX7_stateNow_7 : decode cX7_stateNow 7 = .ok (.iload_n 2, 1) := by decide +kernel
theorem dX7_stateNow_8 : decode cX7_stateNow 8 = .ok (.iconst 3, 1) := by decide +kernel
theorem dX7_stateNow_9 : decode cX7_stateNow 9 = .ok (.if_icmp .ge 38, 3) := by decide +kernel
theorem dX7_stateNow_12 : decode cX7_stateNow 12 = .ok (.bipush 16, 2) := by decide +kernel
theorem dX7_stateNow_14 : decode cX7_stateNow 14 = .ok (.iload_n 1, 1) := by decide +kernel
theorem dX7_stateNow_15 : decode cX7_stateNow 15 = .ok (.imul, 1) := by decide +kernel
theorem dX7_stateNow_16 : decode cX7_stateNow 16 = .ok (.iload_n 2, 1) := by decide +kernel
theorem dX7_stateNow_17 : decode cX7_stateNow 17 = .ok (.aload_n 0, 1) := by decide +kernel
theorem dX7_stateNow_18 : decode cX7_stateNow 18 = .ok (.getfield 254, 3) := by decide +kernel
theorem dX7_stateNow_21 : decode cX7_stateNow 21 = .ok (.if_icmp .ge 17, 3) := by decide +kernel
theorem dX7_stateNow_24 : decode cX7_stateNow 24 = .ok (.aload_n 0, 1) := by decide +kernel
theorem dX7_stateNow_25 : decode cX7_stateNow 25 = .ok (.getfield 19, 3) := by decide +kernel
theorem dX7_stateNow_28 : decode cX7_stateNow 28 = .ok (.aload_n 0, 1) := by decide +kernel
theorem dX7_stateNow_29 : decode cX7_stateNow 29 = .ok (.getfield 49, 3) := by decide +kernel
theorem dX7_stateNow_32 : decode cX7_stateNow 32 = .ok (.iload_n 2, 1) := by decide +kernel
theorem dX7_stateNow_33 : decode cX7_stateNow 33 = .ok (.iaload, 1) := by decide +kernel
theorem dX7_stateNow_34 : decode cX7_stateNow 34 = .ok (.iaload, 1) := by decide +kernel
theorem dX7_stateNow_35 : decode cX7_stateNow 35 = .ok (.goto 4, 3) := by decide +kernel
theorem dX7_stateNow_38 : decode cX7_stateNow 38 = .ok (.iconst 0, 1) := by decide +kernel
theorem dX7_stateNow_39 : decode cX7_stateNow 39 = .ok (.iadd, 1) := by decide +kernel
theorem dX7_stateNow_40 : decode cX7_stateNow 40 = .ok (.istore_n 1, 1) := by decide +kernel
theorem dX7_stateNow_41 : decode cX7_stateNow 41 = .ok (.iinc 2 1, 3) := by decide +kernel
theorem dX7_stateNow_44 : decode cX7_stateNow 44 = .ok (.goto (-37), 3) := by decide +kernel
theorem dX7_stateNow_47 : decode cX7_stateNow 47 = .ok (.iload_n 1, 1) := by decide +kernel
theorem dX7_stateNow_48 : decode cX7_stateNow 48 = .ok (.ireturn, 1) := by decide +kernel
def enN (m : Nat) (f : Nat → Nat) : Nat → Nat
  | 0 => m
  | k + 1 => 16 * enN m f k + f k
theorem enN_lt {m : Nat} {f : Nat → Nat} (hm : m < 8) (hf : ∀ k, f k < 16) : ∀ k, enN m f k < 8 * 16 ^ k
  | 0 => by show m < 8 * 1; omega
  | k + 1 => by have h1 := enN_lt hm hf k; have h2 := hf k; rw [show enN m f (k + 1) = 16 * enN m f k + f k from rfl, Nat.pow_succ]; omega
theorem enN_3 (m : Nat) (f : Nat → Nat) : enN m f 3 = enR (m, f 0, f 1, f 2) := by unfold enR; show 16 * (16 * (16 * m + f 0) + f 1) + f 2 = _; simp only; omega
theorem l_X7_sn7 {d : List Nat} {T : vT} {M N : vM} {n : Nat} (hB : vB T) (hW : mW M n) (hI : feI M N n) (h3 : exc (M 204) n ≤ 3) : ∀ k : Nat, k ≤ 3 →
    vV m_X7_stateNow d d (vPi fun r T1 M1 => r = (enR (xSr M n) : Nat) ∧ T = T1 ∧ N = M1) 7 [some (vR 200), some (vI (enN (M 200 5).toNat (xdg n (M 204)) k : Nat)), some (vI k)] [] d T N := by
  have hn : n ≤ 6 := hW.2.1.1
  have hm := hW.2.1.2.2.2.2.2.2.2.1
  change 0 ≤ M 200 5 ∧ M 200 5 ≤ 7 at hm
  have htu := hW.2.1.2.2.2.2.2.2.1
  have hfu := hW.2.1.2.2.2.2.1
  have hx16 : ∀ k, xdg n (M 204) k < 16 := fun k => by unfold xdg; split; have := htu (exi (M 204) n k); have := hfu (exi (M 204) n k); omega; decide
  obtain ⟨a1, a2, a3, a4⟩ := hI
  have r204 : N 204 = M 204 := a1 204 (by decide)
  have a3' : N 200 29 = (exc (M 204) n : Nat) := by rw [a3]; omega
  refine vUp ?_
  intro k hk ih
  have hlt := enN_lt (m := (M 200 5).toNat) (by omega) hx16 k
  have hp : (16 : Nat) ^ k ≤ 16 ^ 3 := Nat.pow_le_pow_right (by decide) hk
  have es : ((enN (M 200 5).toNat (xdg n (M 204)) (k + 1) : Nat) : Int) = 16 * (enN (M 200 5).toNat (xdg n (M 204)) k : Nat) + (xdg n (M 204) k : Nat) := by rw [show enN (M 200 5).toNat (xdg n (M 204)) (k + 1) = 16 * enN (M 200 5).toNat (xdg n (M 204)) k + xdg n (M 204) k from rfl]; omega
  have h16 := hx16 k
  refine vV.iload_n dX7_stateNow_7 rfl ?_
  refine vV.iconst dX7_stateNow_8 (by decide) ?_
  refine vV.icmp_ge (tgt := 47) dX7_stateNow_9 (by decide) (fun h9 => ?_) (fun h9 => ?_)
  · skip
    refine vV.iload_n dX7_stateNow_47 rfl ?_
    refine vV.ri dX7_stateNow_48 rfl ?_
    exact ⟨by rw [show k = 3 by omega, enN_3]; rfl, rfl, rfl⟩
  · skip
    refine vV.bipush (v := 16) dX7_stateNow_12 (by decide) (by decide) ?_
    refine vV.iload_n dX7_stateNow_14 rfl ?_
    refine vV.imul dX7_stateNow_15 (⟨by omega, by omega⟩) ?_
    refine vV.iload_n dX7_stateNow_16 rfl ?_
    refine vV.aload_n dX7_stateNow_17 rfl ?_
    refine vV.geti (z := 29) dX7_stateNow_18 fl_X7_254 (by first | rfl | assumption) rfl rfl ?_
    rw [a3']
    refine vV.icmp_ge (tgt := 38) dX7_stateNow_21 (by decide) (fun h21 => ?_) (fun h21 => ?_)
    · skip
      have hxk : (0 : Int) = (xdg n (M 204) k : Nat) := by { unfold xdg; rw [if_neg (by omega)]; rfl }
      refine vV.iconst dX7_stateNow_38 (by decide) ?_
      refine vV.iadd dX7_stateNow_39 (⟨by omega, by omega⟩) ?_
      first | rw [← es] | (rw [show (16 : Int) * (enN (M 200 5).toNat (xdg n (M 204)) k : Nat) + 0 = (enN (M 200 5).toNat (xdg n (M 204)) (k + 1) : Nat) by omega])
      refine vV.istore_n (L' := [_, _, _]) dX7_stateNow_40 (by decide) rfl ?_
      refine vV.iinc (L' := [_, _, _]) dX7_stateNow_41 (by decide) rfl (⟨by omega, by omega⟩) rfl ?_
      refine vV.goto (tgt := 7) dX7_stateNow_44 (by decide) ?_
      exact ih (by omega)
    · skip
      have hok := exi_ok (tu := M 204) (n := n) (k := k) (by omega)
      have hxk : M 204 (exi (M 204) n k : Nat) = (xdg n (M 204) k : Nat) := by { unfold xdg; rw [if_pos (by omega)]; omega }
      refine vV.aload_n dX7_stateNow_24 rfl ?_
      refine vV.getr dX7_stateNow_25 fl_X7_19 (by first | rfl | assumption) rfl (by first | assumption | exact hB _ _ _ rfl) ?_
      refine vV.aload_n dX7_stateNow_28 rfl ?_
      refine vV.getr dX7_stateNow_29 fl_X7_49 (by first | rfl | assumption) rfl (by first | assumption | exact hB _ _ _ rfl) ?_
      refine vV.iload_n dX7_stateNow_32 rfl ?_
      refine vV.iald dX7_stateNow_33 (by first | rfl | assumption) (by omega) (by omega) ?_
      rw [a4 k (by omega) (by omega)]
      refine vV.iald dX7_stateNow_34 (by first | rfl | assumption) (by omega) (by omega) ?_
      rw [r204, hxk]
      refine vV.goto (tgt := 39) dX7_stateNow_35 (by decide) ?_
      refine vV.iadd dX7_stateNow_39 (⟨by omega, by omega⟩) ?_
      first | rw [← es] | (rw [show (16 : Int) * (enN (M 200 5).toNat (xdg n (M 204)) k : Nat) + 0 = (enN (M 200 5).toNat (xdg n (M 204)) (k + 1) : Nat) by omega])
      refine vV.istore_n (L' := [_, _, _]) dX7_stateNow_40 (by decide) rfl ?_
      refine vV.iinc (L' := [_, _, _]) dX7_stateNow_41 (by decide) rfl (⟨by omega, by omega⟩) rfl ?_
      refine vV.goto (tgt := 7) dX7_stateNow_44 (by decide) ?_
      exact ih (by omega)
theorem c_X7_stateNow {d : List Nat} {T : vT} {M N : vM} {n : Nat} (hB : vB T) (hW : mW M n) (hI : feI M N n) (h3 : exc (M 204) n ≤ 3) : vCon m_X7_stateNow d d [vR 200] T N (vPi fun r T1 M1 => r = (enR (xSr M n) : Nat) ∧ T = T1 ∧ N = M1) := by
  have hm := hW.2.1.2.2.2.2.2.2.2.1
  change 0 ≤ M 200 5 ∧ M 200 5 ≤ 7 at hm
  have h := l_X7_sn7 (d := d) (T := T) hB hW hI h3 0 (by omega)
  rw [show ((enN (M 200 5).toNat (xdg n (M 204)) 0 : Nat) : Int) = N 200 5 from by rw [hI.2.1 5 (by decide)]; show (((M 200 5).toNat : Nat) : Int) = M 200 5; omega] at h
  refine vCon.of (by decide) rfl rfl (Nat.le_of_ble_eq_true rfl) ?_
  refine vV.aload_n dX7_stateNow_0 rfl ?_
  refine vV.geti (z := 5) dX7_stateNow_1 fl_X7_117 (by first | rfl | assumption) rfl rfl ?_
  refine vV.istore_n (L' := [_, _, _]) dX7_stateNow_4 (by decide) rfl ?_
  refine vV.iconst dX7_stateNow_5 (by decide) ?_
  refine vV.istore_n (L' := [_, _, _]) dX7_stateNow_6 (by decide) rfl ?_
  exact h
theorem dX7_isState_0 : decode cX7_isState 0 = .ok (.iconst 1, 1) := by decide +kernel
theorem dX7_isState_1 : decode cX7_isState 1 = .ok (.istore_n 2, 1) := by decide +kernel
theorem dX7_isState_2 : decode cX7_isState 2 = .ok (.iconst 0, 1) := by decide +kernel
theorem dX7_isState_3 : decode cX7_isState 3 = .ok (.istore_n 3, 1) := by decide +kernel
theorem dX7_isState_4 : decode cX7_isState 4 = .ok (.iload_n 3, 1) := by decide +kernel
theorem dX7_isState_5 : decode cX7_isState 5 = .ok (.iconst 3, 1) := by decide +kernel
theorem dX7_isState_6 : decode cX7_isState 6 = .ok (.if_icmp .ge 63, 3) := by decide +kernel
theorem dX7_isState_9 : decode cX7_isState 9 = .ok (.iload_n 1, 1) := by decide +kernel
theorem dX7_isState_10 : decode cX7_isState 10 = .ok (.iload_n 3, 1) := by decide +kernel
theorem dX7_isState_11 : decode cX7_isState 11 = .ok (.invokestatic 257, 3) := by decide +kernel
theorem dX7_isState_14 : decode cX7_isState 14 = .ok (.istore 4, 2) := by decide +kernel
theorem dX7_isState_16 : decode cX7_isState 16 = .ok (.iload_n 2, 1) := by decide +kernel
theorem dX7_isState_17 : decode cX7_isState 17 = .ok (.ifCond .eq 44, 3) := by decide +kernel
theorem dX7_isState_20 : decode cX7_isState 20 = .ok (.iload_n 3, 1) := by decide +kernel
theorem dX7_isState_21 : decode cX7_isState 21 = .ok (.aload_n 0, 1) := by decide +kernel
theorem dX7_isState_22 : decode cX7_isState 22 = .ok (.getfield 254, 3) := by decide +kernel
theorem dX7_isState_25 : decode cX7_isState 25 = .ok (.if_icmp .ge 27, 3) := by decide +kernel
theorem dX7_isState_28 : decode cX7_isState 28 = .ok (.iload 4, 2) := by decide +kernel
theorem dX7_isState_30 : decode cX7_isState 30 = .ok (.ifCond .le 31, 3) := by decide +kernel
theorem dX7_isState_33 : decode cX7_isState 33 = .ok (.iload 4, 2) := by decide +kernel
theorem dX7_isState_35 : decode cX7_isState 35 = .ok (.aload_n 0, 1) := by decide +kernel
theorem dX7_isState_36 : decode cX7_isState 36 = .ok (.getfield 13, 3) := by decide +kernel
theorem dX7_isState_39 : decode cX7_isState 39 = .ok (.aload_n 0, 1) := by decide +kernel
theorem dX7_isState_40 : decode cX7_isState 40 = .ok (.getfield 49, 3) := by decide +kernel
theorem dX7_isState_43 : decode cX7_isState 43 = .ok (.iload_n 3, 1) := by decide +kernel
theorem dX7_isState_44 : decode cX7_isState 44 = .ok (.iaload, 1) := by decide +kernel
theorem dX7_isState_45 : decode cX7_isState 45 = .ok (.iaload, 1) := by decide +kernel
theorem dX7_isState_46 : decode cX7_isState 46 = .ok (.if_icmp .gt 15, 3) := by decide +kernel
theorem dX7_isState_49 : decode cX7_isState 49 = .ok (.goto 8, 3) := by decide +kernel
theorem dX7_isState_52 : decode cX7_isState 52 = .ok (.iload 4, 2) := by decide +kernel
theorem dX7_isState_54 : decode cX7_isState 54 = .ok (.ifCond .ne 7, 3) := by decide +kernel
theorem dX7_isState_57 : decode cX7_isState 57 = .ok (.iconst 1, 1) := by decide +kernel
theorem dX7_isState_58 : decode cX7_isState 58 = .ok (.goto 4, 3) := by decide +kernel
theorem dX7_isState_61 : decode cX7_isState 61 = .ok (.iconst 0, 1) := by decide +kernel
theorem dX7_isState_62 : decode cX7_isState 62 = .ok (.istore_n 2, 1) := by decide +kernel
theorem dX7_isState_63 : decode cX7_isState 63 = .ok (.iinc 3 1, 3) := by decide +kernel
theorem dX7_isState_66 : decode cX7_isState 66 = .ok (.goto (-62), 3) := by decide +kernel
theorem dX7_isState_69 : decode cX7_isState 69 = .ok (.iload_n 2, 1) := by decide +kernel
theorem dX7_isState_70 : decode cX7_isState 70 = .ok (.ireturn, 1) := by decide +kernel
def isK (E : xE) (s : xS) (k : Nat) : Prop := (k < E.1 → 1 ≤ xt s k ∧ (xt s k : Int) ≤ E.2.2.1 k) ∧ (E.1 ≤ k → xt s k = 0)
theorem l_X7_is4 {d : List Nat} {T : vT} {M : vM} {E : xE} {s : xS} (hB : vB T) (hE : xEok E) (hX : rX M E) (hs : xok s) : ∀ k : Nat, k ≤ 3 → ∀ (b : Int) (x4 : Option vA), ((b = 1 ∧ ∀ j, j < k → isK E s j) ∨ (b = 0 ∧ ∃ j, j < k ∧ ¬ isK E s j)) →
    vV m_X7_isState d d (vPi fun r T1 M1 => ((r = 1 ∧ xSt E s) ∨ (r = 0 ∧ ¬ xSt E s)) ∧ T = T1 ∧ M = M1) 4 [some (vR 200), some (vI (enR s : Nat)), some (vI b), some (vI k), x4] [] d T M := by
  obtain ⟨x1, x2, x3⟩ := hX
  have hE3 := hE.1
  refine vUp ?_
  intro k hk ih b x4 hb
  have hxt : xt s k < 16 := by obtain ⟨h1, h2, h3, h4⟩ := hs; unfold xt; split; exact h2; split; exact h3; exact h4
  have nx : ∀ (y : Int), k < 3 → ((y = 1 ∧ isK E s k ∧ b = 1) ∨ (y = 0 ∧ (¬ isK E s k ∨ b = 0))) → ((y = 1 ∧ ∀ j, j < k + 1 → isK E s j) ∨ (y = 0 ∧ ∃ j, j < k + 1 ∧ ¬ isK E s j)) := fun y hk3 h => by
    rcases h with ⟨a, c, e⟩ | ⟨a, c⟩
    · refine Or.inl ⟨a, fun j hj => ?_⟩
      rcases hb with ⟨b1, b2⟩ | ⟨b1, b2⟩
      · exact (Nat.lt_succ_iff_lt_or_eq.mp hj).elim (b2 j) (fun z => by subst z; exact c)
      · omega
    · refine Or.inr ⟨a, ?_⟩
      rcases c with c | c
      · exact ⟨k, by omega, c⟩
      · rcases hb with ⟨b1, b2⟩ | ⟨b1, j, b2, b3⟩
        · omega
        · exact ⟨j, by omega, b3⟩
  have hb01 : b = 0 ∨ b = 1 := by omega
  refine vV.iload_n dX7_isState_4 rfl ?_
  refine vV.iconst dX7_isState_5 (by decide) ?_
  refine vV.icmp_ge (tgt := 69) dX7_isState_6 (by decide) (fun h6 => ?_) (fun h6 => ?_)
  · skip
    refine vV.iload_n dX7_isState_69 rfl ?_
    refine vV.rz dX7_isState_70 rfl (by first | exact Or.inl rfl | exact Or.inr rfl | assumption) ?_
    rw [show k = 3 by omega] at hb
    refine ⟨?_, rfl, rfl⟩
    rcases hb with ⟨b1, b2⟩ | ⟨b1, j, b2, b3⟩
    · exact Or.inl ⟨b1, hs.1, fun k hk => b2 k hk⟩
    · exact Or.inr ⟨b1, fun z => b3 (z.2 j b2)⟩
  · skip
    have hk3 : k < 3 := by omega
    refine vV.iload_n dX7_isState_9 rfl ?_
    refine vV.iload_n dX7_isState_10 rfl ?_
    refine vV.cSi dX7_isState_11 ml_X7_257 cw_X7_turnIn sw_X7_turnIn (by unfold vRoom; decide) (c_X7_turnIn hs hk3) rfl rfl (Nat.le_of_ble_eq_true rfl) ?_
    rintro x11 _ _ hx11 ⟨rfl, rfl, rfl⟩
    refine vV.istore (L' := [_, _, _, _, _]) dX7_isState_14 (by decide) rfl ?_
    refine vV.iload_n dX7_isState_16 rfl ?_
    refine vV.if_eq (tgt := 61) dX7_isState_17 (by decide) (fun h17 => ?_) (fun h17 => ?_)
    · skip
      refine vV.iconst dX7_isState_61 (by decide) ?_
      refine vV.istore_n (L' := [_, _, _, _, _]) dX7_isState_62 (by decide) rfl ?_
      refine vV.iinc (L' := [_, _, _, _, _]) dX7_isState_63 (by decide) rfl (⟨by omega, by omega⟩) rfl ?_
      refine vV.goto (tgt := 4) dX7_isState_66 (by decide) ?_
      first | exact ih (by omega) _ _ (nx _ hk3 (Or.inl ⟨rfl, ⟨fun z => by omega, fun z => by omega⟩, by omega⟩)) | exact ih (by omega) _ _ (nx _ hk3 (Or.inr ⟨rfl, Or.inr (by omega)⟩)) | exact ih (by omega) _ _ (nx _ hk3 (Or.inr ⟨rfl, Or.inl (fun z => by have z1 := z.1; have z2 := z.2; omega)⟩))
    · skip
      refine vV.iload_n dX7_isState_20 rfl ?_
      refine vV.aload_n dX7_isState_21 rfl ?_
      refine vV.geti (z := 29) dX7_isState_22 fl_X7_254 (by first | rfl | assumption) rfl rfl ?_
      rw [x1]
      refine vV.icmp_ge (tgt := 52) dX7_isState_25 (by decide) (fun h25 => ?_) (fun h25 => ?_)
      · skip
        refine vV.iload dX7_isState_52 rfl ?_
        refine vV.if_ne (tgt := 61) dX7_isState_54 (by decide) (fun h54 => ?_) (fun h54 => ?_)
        · skip
          refine vV.iconst dX7_isState_61 (by decide) ?_
          refine vV.istore_n (L' := [_, _, _, _, _]) dX7_isState_62 (by decide) rfl ?_
          refine vV.iinc (L' := [_, _, _, _, _]) dX7_isState_63 (by decide) rfl (⟨by omega, by omega⟩) rfl ?_
          refine vV.goto (tgt := 4) dX7_isState_66 (by decide) ?_
          first | exact ih (by omega) _ _ (nx _ hk3 (Or.inl ⟨rfl, ⟨fun z => by omega, fun z => by omega⟩, by omega⟩)) | exact ih (by omega) _ _ (nx _ hk3 (Or.inr ⟨rfl, Or.inr (by omega)⟩)) | exact ih (by omega) _ _ (nx _ hk3 (Or.inr ⟨rfl, Or.inl (fun z => by have z1 := z.1; have z2 := z.2; omega)⟩))
        · skip
          refine vV.iconst dX7_isState_57 (by decide) ?_
          refine vV.goto (tgt := 62) dX7_isState_58 (by decide) ?_
          refine vV.istore_n (L' := [_, _, _, _, _]) dX7_isState_62 (by decide) rfl ?_
          refine vV.iinc (L' := [_, _, _, _, _]) dX7_isState_63 (by decide) rfl (⟨by omega, by omega⟩) rfl ?_
          refine vV.goto (tgt := 4) dX7_isState_66 (by decide) ?_
          first | exact ih (by omega) _ _ (nx _ hk3 (Or.inl ⟨rfl, ⟨fun z => by omega, fun z => by omega⟩, by omega⟩)) | exact ih (by omega) _ _ (nx _ hk3 (Or.inr ⟨rfl, Or.inr (by omega)⟩)) | exact ih (by omega) _ _ (nx _ hk3 (Or.inr ⟨rfl, Or.inl (fun z => by have z1 := z.1; have z2 := z.2; omega)⟩))
      · skip
        obtain ⟨y1, y2, y3, y4⟩ := x3 k (by omega)
        refine vV.iload dX7_isState_28 rfl ?_
        refine vV.if_le (tgt := 61) dX7_isState_30 (by decide) (fun h30 => ?_) (fun h30 => ?_)
        · skip
          refine vV.iconst dX7_isState_61 (by decide) ?_
          refine vV.istore_n (L' := [_, _, _, _, _]) dX7_isState_62 (by decide) rfl ?_
          refine vV.iinc (L' := [_, _, _, _, _]) dX7_isState_63 (by decide) rfl (⟨by omega, by omega⟩) rfl ?_
          refine vV.goto (tgt := 4) dX7_isState_66 (by decide) ?_
          first | exact ih (by omega) _ _ (nx _ hk3 (Or.inl ⟨rfl, ⟨fun z => by omega, fun z => by omega⟩, by omega⟩)) | exact ih (by omega) _ _ (nx _ hk3 (Or.inr ⟨rfl, Or.inr (by omega)⟩)) | exact ih (by omega) _ _ (nx _ hk3 (Or.inr ⟨rfl, Or.inl (fun z => by have z1 := z.1; have z2 := z.2; omega)⟩))
        · skip
          refine vV.iload dX7_isState_33 rfl ?_
          refine vV.aload_n dX7_isState_35 rfl ?_
          refine vV.getr dX7_isState_36 fl_X7_13 (by first | rfl | assumption) rfl (by first | assumption | exact hB _ _ _ rfl) ?_
          refine vV.aload_n dX7_isState_39 rfl ?_
          refine vV.getr dX7_isState_40 fl_X7_49 (by first | rfl | assumption) rfl (by first | assumption | exact hB _ _ _ rfl) ?_
          refine vV.iload_n dX7_isState_43 rfl ?_
          refine vV.iald dX7_isState_44 (by first | rfl | assumption) (by omega) (by omega) ?_
          refine vV.iald dX7_isState_45 (by first | rfl | assumption) (by omega) (by omega) ?_
          rw [y3]
          refine vV.icmp_gt (tgt := 61) dX7_isState_46 (by decide) (fun h46 => ?_) (fun h46 => ?_)
          · skip
            refine vV.iconst dX7_isState_61 (by decide) ?_
            refine vV.istore_n (L' := [_, _, _, _, _]) dX7_isState_62 (by decide) rfl ?_
            refine vV.iinc (L' := [_, _, _, _, _]) dX7_isState_63 (by decide) rfl (⟨by omega, by omega⟩) rfl ?_
            refine vV.goto (tgt := 4) dX7_isState_66 (by decide) ?_
            first | exact ih (by omega) _ _ (nx _ hk3 (Or.inl ⟨rfl, ⟨fun z => by omega, fun z => by omega⟩, by omega⟩)) | exact ih (by omega) _ _ (nx _ hk3 (Or.inr ⟨rfl, Or.inr (by omega)⟩)) | exact ih (by omega) _ _ (nx _ hk3 (Or.inr ⟨rfl, Or.inl (fun z => by have z1 := z.1; have z2 := z.2; omega)⟩))
          · skip
            refine vV.goto (tgt := 57) dX7_isState_49 (by decide) ?_
            refine vV.iconst dX7_isState_57 (by decide) ?_
            refine vV.goto (tgt := 62) dX7_isState_58 (by decide) ?_
            refine vV.istore_n (L' := [_, _, _, _, _]) dX7_isState_62 (by decide) rfl ?_
            refine vV.iinc (L' := [_, _, _, _, _]) dX7_isState_63 (by decide) rfl (⟨by omega, by omega⟩) rfl ?_
            refine vV.goto (tgt := 4) dX7_isState_66 (by decide) ?_
            first | exact ih (by omega) _ _ (nx _ hk3 (Or.inl ⟨rfl, ⟨fun z => by omega, fun z => by omega⟩, by omega⟩)) | exact ih (by omega) _ _ (nx _ hk3 (Or.inr ⟨rfl, Or.inr (by omega)⟩)) | exact ih (by omega) _ _ (nx _ hk3 (Or.inr ⟨rfl, Or.inl (fun z => by have z1 := z.1; have z2 := z.2; omega)⟩))
theorem c_X7_isState {d : List Nat} {T : vT} {M : vM} {E : xE} {s : xS} (hB : vB T) (hE : xEok E) (hX : rX M E) (hs : xok s) : vCon m_X7_isState d d [vR 200, vI (enR s : Nat)] T M (vPi fun r T1 M1 => ((r = 1 ∧ xSt E s) ∨ (r = 0 ∧ ¬ xSt E s)) ∧ T = T1 ∧ M = M1) := by
  refine vCon.of (by decide) rfl rfl (Nat.le_of_ble_eq_true rfl) ?_
  refine vV.iconst dX7_isState_0 (by decide) ?_
  refine vV.istore_n (L' := [_, _, _, _, _]) dX7_isState_1 (by decide) rfl ?_
  refine vV.iconst dX7_isState_2 (by decide) ?_
  refine vV.istore_n (L' := [_, _, _, _, _]) dX7_isState_3 (by decide) rfl ?_
  exact l_X7_is4 hB hE hX hs 0 (by omega) 1 _ (Or.inl ⟨rfl, fun j hj => by omega⟩)
