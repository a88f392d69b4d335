/-! ===== own: the reference: bow ===== -/
theorem dX7_canBow_0 : decode cX7_canBow 0 = .ok (.iconst 1, 1) := by decide +kernel
theorem dX7_canBow_1 : decode cX7_canBow 1 = .ok (.istore_n 3, 1) := by decide +kernel
theorem dX7_canBow_2 : decode cX7_canBow 2 = .ok (.iconst 0, 1) := by decide +kernel
theorem dX7_canBow_3 : decode cX7_canBow 3 = .ok (.istore 4, 2) := by decide +kernel
theorem dX7_canBow_5 : decode cX7_canBow 5 = .ok (.iload 4, 2) := by decide +kernel
theorem dX7_canBow_7 : decode cX7_canBow 7 = .ok (.aload_n 0, 1) := by decide +kernel
theorem dX7_canBow_8 : decode cX7_canBow 8 = .ok (.getfield 254, 3) := by decide +kernel
theorem dX7_canBow_11 : decode cX7_canBow 11 = .ok (.if_icmp .ge 42, 3) := by decide +kernel
theorem dX7_canBow_14 : decode cX7_canBow 14 = .ok (.iload_n 3, 1) := by decide +kernel
theorem dX7_canBow_15 : decode cX7_canBow 15 = .ok (.ifCond .eq 30, 3) := by decide +kernel
theorem dX7_canBow_18 : decode cX7_canBow 18 = .ok (.iload_n 1, 1) := by decide +kernel
theorem dX7_canBow_19 : decode cX7_canBow 19 = .ok (.iload 4, 2) := by decide +kernel
theorem dX7_canBow_21 : decode cX7_canBow 21 = .ok (.invokestatic 257, 3) := by decide +kernel
theorem dX7_canBow_24 : decode cX7_canBow 24 = .ok (.iload_n 2, 1) := by decide +kernel
theorem dX7_canBow_25 : decode cX7_canBow 25 = .ok (.aload_n 0, 1) := by decide +kernel
theorem dX7_canBow_26 : decode cX7_canBow 26 = .ok (.getfield 16, 3) := by decide +kernel
theorem dX7_canBow_29 : decode cX7_canBow 29 = .ok (.aload_n 0, 1) := by decide +kernel
theorem dX7_canBow_30 : decode cX7_canBow 30 = .ok (.getfield 49, 3) := by decide +kernel
theorem dX7_canBow_33 : decode cX7_canBow 33 = .ok (.iload 4, 2) := by decide +kernel
theorem dX7_canBow_35 : decode cX7_canBow 35 = .ok (.iaload, 1) := by decide +kernel
theorem dX7_canBow_36 : decode cX7_canBow 36 = .ok (.iaload, 1) := by decide +kernel
theorem dX7_canBow_37 : decode cX7_canBow 37 = .ok (.imul, 1) := by decide +kernel
theorem dX7_canBow_38 : decode cX7_canBow 38 = .ok (.if_icmp .le 7, 3) := by decide +kernel
theorem dX7_canBow_41 : decode cX7_canBow 41 = .ok (.iconst 1, 1) := by decide +kernel
theorem dX7_canBow_42 : decode cX7_canBow 42 = .ok (.goto 4, 3) := by decide +kernel
theorem dX7_canBow_45 : decode cX7_canBow 45 = .ok (.iconst 0, 1) := by decide +kernel
theorem dX7_canBow_46 : decode cX7_canBow 46 = .ok (.istore_n 3, 1) := by decide +kernel
theorem dX7_canBow_47 : decode cX7_canBow 47 = .ok (.iinc 4 1, 3) := by decide +kernel
theorem dX7_canBow_50 : decode cX7_canBow 50 = .ok (.goto (-45), 3) := by decide +kernel
theorem dX7_canBow_53 : decode cX7_canBow 53 = .ok (.iload_n 3, 1) := by decide +kernel
theorem dX7_canBow_54 : decode cX7_canBow 54 = .ok (.ireturn, 1) := by decide +kernel
theorem l_X7_cb5 {d : List Nat} {T : vT} {M : vM} {E : xE} {s : xS} {n : Int} (hB : vB T) (hE : xEok E) (hX : rX M E) (hs : xSt E s) (hn : 1 ≤ n ∧ n ≤ 9) : ∀ k : Nat, k ≤ E.1 → ∀ b : Int, ((b = 1 ∧ ∀ j, j < k → ¬ ((xt s j : Int) ≤ n * E.2.2.2.1 j)) ∨ (b = 0 ∧ ∃ j, j < E.1 ∧ (xt s j : Int) ≤ n * E.2.2.2.1 j)) →
    vV m_X7_canBow d d (vPi fun r T1 M1 => r = bI (xbe E n s) ∧ T = T1 ∧ M = M1) 5 [some (vR 200), some (vI (enR s : Nat)), some (vI n), some (vI b), some (vI k)] [] d T M := by
  have hok := hs.ok hE
  obtain ⟨x1, x2, x3⟩ := hX
  have hE3 := hE.1
  refine vUp ?_
  intro k hk ih b hb
  have hb01 : b = 0 ∨ b = 1 := by rcases hb with ⟨a, -⟩ | ⟨a, -⟩ <;> omega
  have hfin : k = E.1 → b = bI (xbe E n s) := fun h => by
    rcases hb with ⟨a, c⟩ | ⟨a, j, j1, j2⟩
    · unfold xbe; rw [pFind_no (fun j hj => by simpa using c j (by omega))]; exact a
    · have : (pFind (fun k => decide ((xt s k : Int) ≤ n * E.2.2.2.1 k)) E.1).isNone = false := by
        cases hq : pFind (fun k => decide ((xt s k : Int) ≤ n * E.2.2.2.1 k)) E.1 with
        | some q => rfl
        | none => have := pFind_some.pFind_none hq j j1; simp at this; omega
      unfold xbe; rw [this]; exact a
  refine vV.iload dX7_canBow_5 rfl ?_
  refine vV.aload_n dX7_canBow_7 rfl ?_
  refine vV.geti (z := 29) dX7_canBow_8 fl_X7_254 (by first | rfl | assumption) rfl rfl ?_
  rw [x1]
  refine vV.icmp_ge (tgt := 53) dX7_canBow_11 (by decide) (fun h11 => ?_) (fun h11 => ?_)
  · skip
    refine vV.iload_n dX7_canBow_53 rfl ?_
    refine vV.rz dX7_canBow_54 rfl (by first | exact Or.inl rfl | exact Or.inr rfl | assumption) ?_
    exact ⟨hfin (by omega), rfl, rfl⟩
  · skip
    have hkE : k < E.1 := by omega
    obtain ⟨y1, y2, y3, y4⟩ := x3 k hkE
    have hEp := (hE.2.1 k hkE).2.2
    have hml := mul_rg (a := E.2.2.2.1 k) (x := n) (b := 9) (by omega) (by omega)
    rw [Int.mul_comm] at hml
    refine vV.iload_n dX7_canBow_14 rfl ?_
    refine vV.if_eq (tgt := 45) dX7_canBow_15 (by decide) (fun h15 => ?_) (fun h15 => ?_)
    · skip
      have hb0 := hb.elim (fun z => by omega) (fun z => z.2)
      refine vV.iconst dX7_canBow_45 (by decide) ?_
      refine vV.istore_n (L' := [_, _, _, _, _]) dX7_canBow_46 (by decide) rfl ?_
      refine vV.iinc (L' := [_, _, _, _, _]) dX7_canBow_47 (by decide) rfl (⟨by omega, by omega⟩) rfl ?_
      refine vV.goto (tgt := 5) dX7_canBow_50 (by decide) ?_
      first | exact ih (by omega) 1 (Or.inl ⟨rfl, hb2⟩) | exact ih (by omega) 0 (Or.inr ⟨rfl, hb0⟩)
    · skip
      have hb1 := hb.elim (fun z => z.2) (fun z => by omega)
      refine vV.iload_n dX7_canBow_18 rfl ?_
      refine vV.iload dX7_canBow_19 rfl ?_
      refine vV.cSi dX7_canBow_21 ml_X7_257 cw_X7_turnIn sw_X7_turnIn (by unfold vRoom; decide) (c_X7_turnIn hok (by omega)) rfl rfl (Nat.le_of_ble_eq_true rfl) ?_
      rintro x21 _ _ hx21 ⟨rfl, rfl, rfl⟩
      refine vV.iload_n dX7_canBow_24 rfl ?_
      refine vV.aload_n dX7_canBow_25 rfl ?_
      refine vV.getr dX7_canBow_26 fl_X7_16 (by first | rfl | assumption) rfl (by first | assumption | exact hB _ _ _ rfl) ?_
      refine vV.aload_n dX7_canBow_29 rfl ?_
      refine vV.getr dX7_canBow_30 fl_X7_49 (by first | rfl | assumption) rfl (by first | assumption | exact hB _ _ _ rfl) ?_
      refine vV.iload dX7_canBow_33 rfl ?_
      refine vV.iald dX7_canBow_35 (by first | rfl | assumption) (by omega) (by omega) ?_
      refine vV.iald dX7_canBow_36 (by first | rfl | assumption) (by omega) (by omega) ?_
      rw [y4]
      refine vV.imul dX7_canBow_37 (⟨by omega, by omega⟩) ?_
      refine vV.icmp_le (tgt := 45) dX7_canBow_38 (by decide) (fun h38 => ?_) (fun h38 => ?_)
      · skip
        have hb0 : ∃ j, j < E.1 ∧ (xt s j : Int) ≤ n * E.2.2.2.1 j := ⟨k, hkE, by omega⟩
        refine vV.iconst dX7_canBow_45 (by decide) ?_
        refine vV.istore_n (L' := [_, _, _, _, _]) dX7_canBow_46 (by decide) rfl ?_
        refine vV.iinc (L' := [_, _, _, _, _]) dX7_canBow_47 (by decide) rfl (⟨by omega, by omega⟩) rfl ?_
        refine vV.goto (tgt := 5) dX7_canBow_50 (by decide) ?_
        first | exact ih (by omega) 1 (Or.inl ⟨rfl, hb2⟩) | exact ih (by omega) 0 (Or.inr ⟨rfl, hb0⟩)
      · skip
        have hb2 : ∀ j, j < k + 1 → ¬ ((xt s j : Int) ≤ n * E.2.2.2.1 j) := fun j hj => (Nat.lt_succ_iff_lt_or_eq.mp hj).elim (hb1 j) (fun z => by subst z; omega)
        refine vV.iconst dX7_canBow_41 (by decide) ?_
        refine vV.goto (tgt := 46) dX7_canBow_42 (by decide) ?_
        refine vV.istore_n (L' := [_, _, _, _, _]) dX7_canBow_46 (by decide) rfl ?_
        refine vV.iinc (L' := [_, _, _, _, _]) dX7_canBow_47 (by decide) rfl (⟨by omega, by omega⟩) rfl ?_
        refine vV.goto (tgt := 5) dX7_canBow_50 (by decide) ?_
        first | exact ih (by omega) 1 (Or.inl ⟨rfl, hb2⟩) | exact ih (by omega) 0 (Or.inr ⟨rfl, hb0⟩)
theorem c_X7_canBow {d : List Nat} {T : vT} {M : vM} {E : xE} {s : xS} {n : Int} (hB : vB T) (hE : xEok E) (hX : rX M E) (hs : xSt E s) (hn : 1 ≤ n ∧ n ≤ 9) : vCon m_X7_canBow d d [vR 200, vI (enR s : Nat), vI n] T M (vPi fun r T1 M1 => r = bI (xbe E n s) ∧ T = T1 ∧ M = M1) := by
  refine vCon.of (by decide) rfl rfl (Nat.le_of_ble_eq_true rfl) ?_
  refine vV.iconst dX7_canBow_0 (by decide) ?_
  refine vV.istore_n (L' := [_, _, _, _, _]) dX7_canBow_1 (by decide) rfl ?_
  refine vV.iconst dX7_canBow_2 (by decide) ?_
  refine vV.istore (L' := [_, _, _, _, _]) dX7_canBow_3 (by decide) rfl ?_
  exact l_X7_cb5 hB hE hX hs hn 0 (by omega) 1 (Or.inl ⟨rfl, fun j hj => by omega⟩)
/-- the queue holds many positions, each once, with their ticks -/
def bqI (E : xE) (N : vM) (mn : Nat) (Q : Nat → xS) (F : Nat → Nat) : Prop := (∀ i, i < mn → xSt E (Q i) ∧ N 234 i = (enR (Q i) : Nat) ∧ N 233 (enR (Q i) : Nat) = (F i : Nat)) ∧ (∀ i j, i < mn → j < mn → Q i = Q j → i = j) ∧ ∀ s, xSt E s → (N 233 (enR s : Nat) < 0 ∧ ∀ i, i < mn → Q i ≠ s) ∨ ∃ i, i < mn ∧ Q i = s
theorem bqI.le {E : xE} {N : vM} {mn : Nat} {Q : Nat → xS} {F : Nat → Nat} (hE : xEok E) (h : bqI E N mn Q F) : mn ≤ 32768 := inj_le (f := fun i => enR (Q i)) (fun i hi => enR_lt ((h.1 i hi).1.ok hE)) (fun i j hi hj he => h.2.1 i j hi hj (enR_inj ((h.1 i hi).1.ok hE) ((h.1 j hj).1.ok hE) he))
theorem bqI.add {E : xE} {N : vM} {mn v : Nat} {Q : Nat → xS} {F : Nat → Nat} {s' : xS} (hE : xEok E) (h : bqI E N mn Q F) (hs' : xSt E s') (hu : N 233 (enR s' : Nat) < 0) : bqI E (vUpd (vUpd N 233 (enR s' : Nat) (v : Int)) 234 mn (enR s' : Nat)) (mn + 1) (nSet Q mn s') (nSet F mn v) := by
  obtain ⟨a1, a2, a3⟩ := h
  have hno : ∀ i, i < mn → Q i ≠ s' := fun i hi z => by have := (a1 i hi).2.2; rw [z] at this; omega
  have hen : ∀ i, i < mn → enR (Q i) ≠ enR s' := fun i hi z => hno i hi (enR_inj ((a1 i hi).1.ok hE) (hs'.ok hE) z)
  refine ⟨fun i hi => ?_, fun i j hi hj he => ?_, fun s hs => ?_⟩
  · by_cases e : i = mn
    · subst e; rw [nSet_s, nSet_s, vUpd_s, vUpd_nk (by decide), vUpd_s]; exact ⟨hs', rfl, rfl⟩
    · rw [nSet_n e, nSet_n e, vUpd_ni (by omega), vUpd_nk (by decide), vUpd_nk (by decide), vUpd_ni (by have := hen i (by omega); omega)]; exact a1 i (by omega)
  · by_cases e : i = mn
    · by_cases e2 : j = mn
      · omega
      · rw [e, nSet_s, nSet_n e2] at he; exact absurd he.symm (hno j (by omega))
    · by_cases e2 : j = mn
      · rw [e2, nSet_s, nSet_n e] at he; exact absurd he (hno i (by omega))
      · rw [nSet_n e, nSet_n e2] at he; exact a2 i j (by omega) (by omega) he
  · by_cases e : s' = s
    · exact Or.inr ⟨mn, by omega, by rw [nSet_s]; exact e⟩
    · rcases a3 s hs with ⟨z1, z2⟩ | ⟨i, i1, i2⟩
      · refine Or.inl ⟨?_, fun i hi => ?_⟩
        · rw [vUpd_nk (by decide), vUpd_ni (by intro z; exact e (enR_inj (hs'.ok hE) (hs.ok hE) (by omega)))]; exact z1
        · by_cases e2 : i = mn
          · rw [e2, nSet_s]; exact e
          · rw [nSet_n e2]; exact z2 i (by omega)
      · exact Or.inr ⟨i, by omega, by rw [nSet_n (by omega)]; exact i2⟩
/-- k are looked at, and the first t things of the next -/
def brI (E : xE) (s0 : xS) (n : Int) (mn : Nat) (Q : Nat → xS) (F : Nat → Nat) (k t : Nat) : Prop := (∀ i, i < mn → xrc E s0 (F i) (Q i)) ∧ (∀ i j, i ≤ j → j < mn → F i ≤ F j) ∧ (k < mn → ∀ j, j < mn → F j ≤ F k + 1) ∧ (∀ i, i < k → xbe E n (Q i) = false ∧ ∀ (u : Nat) (s' : xS), u < 4 → xn E u (Q i) = some s' → ∃ j, j < mn ∧ Q j = s' ∧ F j ≤ F i + 1) ∧ (∀ (u : Nat) (s' : xS), u < t → xn E u (Q k) = some s' → ∃ j, j < mn ∧ Q j = s' ∧ F j ≤ F k + 1) ∧ Q 0 = s0 ∧ F 0 = 0 ∧ k ≤ mn ∧ 1 ≤ mn ∧ ∀ i, i < mn → F i ≤ i
theorem brI.add {E : xE} {s0 : xS} {n : Int} {mn : Nat} {Q : Nat → xS} {F : Nat → Nat} {k t : Nat} {s' : xS} (h : brI E s0 n mn Q F k t) (hk : k < mn) (ht : t < 4) (hn : xn E (t : Int) (Q k) = some s') : brI E s0 n (mn + 1) (nSet Q mn s') (nSet F mn (F k + 1)) k (t + 1) := by
  obtain ⟨a1, a2, a3, a4, a5, a6, a7, a8, a9, a10⟩ := h
  have q : ∀ i, i < mn → nSet Q mn s' i = Q i := fun i hi => nSet_n (by omega)
  have f : ∀ i, i < mn → nSet F mn (F k + 1) i = F i := fun i hi => nSet_n (by omega)
  refine ⟨fun i hi => ?_, fun i j hij hj => ?_, fun _ j hj => ?_, fun i hi => ?_, fun u s2 hu hn2 => ?_, by rw [q 0 (by omega)]; exact a6, by rw [f 0 (by omega)]; exact a7, by omega, by omega, fun i hi => ?_⟩
  · by_cases e : i = mn
    · subst e; rw [nSet_s, nSet_s]; exact ⟨Q k, t, ht, a1 k hk, hn⟩
    · rw [q i (by omega), f i (by omega)]; exact a1 i (by omega)
  · by_cases e : j = mn
    · by_cases e2 : i = mn
      · rw [e, e2]; exact Nat.le_refl _
      · rw [e, nSet_s, f i (by omega)]; exact a3 hk i (by omega)
    · rw [f i (by omega), f j (by omega)]; exact a2 i j hij (by omega)
  · rw [f k hk]
    by_cases e : j = mn
    · rw [e, nSet_s]; exact Nat.le_refl _
    · rw [f j (by omega)]; exact a3 hk j (by omega)
  · rw [q i (by omega), f i (by omega)]
    refine ⟨(a4 i hi).1, fun u s2 h1 h2 => ?_⟩
    obtain ⟨j, j1, j2, j3⟩ := (a4 i hi).2 u s2 h1 h2
    exact ⟨j, by omega, by rw [q j j1]; exact j2, by rw [f j j1]; exact j3⟩
  · rw [q k hk] at hn2
    rw [f k hk]
    rcases Nat.lt_succ_iff_lt_or_eq.mp hu with z | z
    · obtain ⟨j, j1, j2, j3⟩ := a5 u s2 z hn2
      exact ⟨j, by omega, by rw [q j j1]; exact j2, by rw [f j j1]; exact j3⟩
    · subst z; rw [hn] at hn2; cases hn2
      exact ⟨mn, by omega, nSet_s, by rw [nSet_s]; exact Nat.le_refl _⟩
  · by_cases e : i = mn
    · subst e; rw [nSet_s]; have := a10 k hk; omega
    · rw [f i (by omega)]; exact a10 i (by omega)
theorem brI.skip {E : xE} {s0 : xS} {n : Int} {mn : Nat} {Q : Nat → xS} {F : Nat → Nat} {k t : Nat} (h : brI E s0 n mn Q F k t) (hk : k < mn) (hc : ∀ s', xn E (t : Int) (Q k) = some s' → ∃ j, j < mn ∧ Q j = s') : brI E s0 n mn Q F k (t + 1) := by
  obtain ⟨a1, a2, a3, a4, a5, a6, a7, a8, a9, a10⟩ := h
  refine ⟨a1, a2, a3, a4, fun u s2 hu hn2 => ?_, a6, a7, a8, a9, a10⟩
  rcases Nat.lt_succ_iff_lt_or_eq.mp hu with z | z
  · exact a5 u s2 z hn2
  · subst z
    obtain ⟨j, j1, j2⟩ := hc s2 hn2
    exact ⟨j, j1, j2, a3 hk j j1⟩
theorem brI.up {E : xE} {s0 : xS} {n : Int} {mn : Nat} {Q : Nat → xS} {F : Nat → Nat} {k : Nat} (h : brI E s0 n mn Q F k 4) (hk : k < mn) (hb : xbe E n (Q k) = false) : brI E s0 n mn Q F (k + 1) 0 := by
  obtain ⟨a1, a2, a3, a4, a5, a6, a7, a8, a9, a10⟩ := h
  refine ⟨a1, a2, fun h1 j hj => ?_, fun i hi => ?_, fun u s2 hu => by omega, a6, a7, by omega, a9, a10⟩
  · have := a3 hk j hj; have := a2 k (k + 1) (by omega) h1; omega
  · rcases Nat.lt_succ_iff_lt_or_eq.mp hi with z | z
    · exact a4 i z
    · subst z; exact ⟨hb, a5⟩
theorem brI.no {E : xE} {s0 : xS} {n : Int} {mn : Nat} {Q : Nat → xS} {F : Nat → Nat} (h : brI E s0 n mn Q F mn 0) : bowQ (-6) E s0 n (-6) := by
  obtain ⟨a1, a2, a3, a4, a5, a6, a7, a8, a9, a10⟩ := h
  have hall : ∀ t s, xrc E s0 t s → ∃ i, i < mn ∧ Q i = s := fun t => by
    induction t with
    | zero => intro s hs; rw [show s = s0 from hs]; exact ⟨0, by omega, a6⟩
    | succ t ih =>
      rintro s ⟨s', th, h1, h2, h3⟩
      obtain ⟨i, i1, i2⟩ := ih s' h2
      rw [← i2] at h3
      obtain ⟨j, j1, j2, -⟩ := (a4 i i1).2 th s h1 h3
      exact ⟨j, j1, j2⟩
  refine Or.inr ⟨rfl, fun t s hs => ?_⟩
  obtain ⟨i, i1, i2⟩ := hall t s hs
  rw [← i2]; exact (a4 i i1).1
theorem brI.yes {E : xE} {s0 : xS} {n : Int} {mn : Nat} {Q : Nat → xS} {F : Nat → Nat} {k : Nat} (h : brI E s0 n mn Q F k 0) (hk : k < mn) (hb : xbe E n (Q k) = true) : bowQ (-6) E s0 n (F k : Nat) := by
  obtain ⟨a1, a2, a3, a4, a5, a6, a7, a8, a9, a10⟩ := h
  have hall : ∀ t s, t < F k → xrc E s0 t s → ∃ i, i < k ∧ Q i = s ∧ F i ≤ t := fun t => by
    induction t with
    | zero =>
      intro s ht hs
      rw [show s = s0 from hs]
      refine ⟨0, ?_, a6, by omega⟩
      rcases Nat.eq_zero_or_pos k with z | z
      · rw [z] at ht; omega
      · exact z
    | succ t ih =>
      rintro s ht ⟨s', th, h1, h2, h3⟩
      obtain ⟨i, i1, i2, i3⟩ := ih s' (by omega) h2
      rw [← i2] at h3
      obtain ⟨j, j1, j2, j3⟩ := (a4 i i1).2 th s h1 h3
      refine ⟨j, ?_, j2, by omega⟩
      rcases Nat.lt_or_ge j k with z | z
      · exact z
      · have := a2 k j z j1; omega
  refine Or.inl ⟨F k, rfl, ⟨Q k, a1 k hk, hb⟩, fun t s ht hs => ?_⟩
  obtain ⟨i, i1, i2, -⟩ := hall t s ht hs
  rw [← i2]; exact (a4 i i1).1
/-- the ticks of the i-th are no more than i -/
def bwS (M N : vM) : Prop := mSame [233, 234] M N
theorem bwS.x {M N : vM} {E : xE} (h : bwS M N) (hX : rX M E) : rX N E := by
  unfold rX at hX ⊢
  rw [h 200 (by decide), h 229 (by decide), h 201 (by decide), h 202 (by decide), h 203 (by decide)]
  exact hX
theorem dX7_bow_0 : decode cX7_bow 0 = .ok (.iload_n 1, 1) := by decide +kernel
theorem dX7_bow_1 : decode cX7_bow 1 = .ok (.i2l, 1) := by decide +kernel
theorem dX7_bow_2 : decode cX7_bow 2 = .ok (.lconst 1, 1) := by decide +kernel
theorem dX7_bow_3 : decode cX7_bow 3 = .ok (.ldc2_w 278, 3) := by decide +kernel
theorem dX7_bow_6 : decode cX7_bow 6 = .ok (.invokestatic 92, 3) := by decide +kernel
theorem dX7_bow_9 : decode cX7_bow 9 = .ok (.ifCond .ne 6, 3) := by decide +kernel
theorem dX7_bow_12 : decode cX7_bow 12 = .ok (.bipush (-2), 2) := by decide +kernel
theorem dX7_bow_14 : decode cX7_bow 14 = .ok (.ireturn, 1) := by decide +kernel
theorem dX7_bow_15 : decode cX7_bow 15 = .ok (.aload_n 0, 1) := by decide +kernel
theorem dX7_bow_16 : decode cX7_bow 16 = .ok (.invokevirtual 269, 3) := by decide +kernel
theorem dX7_bow_19 : decode cX7_bow 19 = .ok (.ifCond .ne 6, 3) := by decide +kernel
theorem dX7_bow_22 : decode cX7_bow 22 = .ok (.bipush (-3), 2) := by decide +kernel
theorem dX7_bow_24 : decode cX7_bow 24 = .ok (.ireturn, 1) := by decide +kernel
theorem dX7_bow_25 : decode cX7_bow 25 = .ok (.iconst 0, 1) := by decide +kernel
theorem dX7_bow_26 : decode cX7_bow 26 = .ok (.istore_n 2, 1) := by decide +kernel
theorem dX7_bow_27 : decode cX7_bow 27 = .ok (.iload_n 2, 1) := by decide +kernel
theorem dX7_bow_28 : decode cX7_bow 28 = .ok (.ldc 52, 2) := by decide +kernel
theorem dX7_bow_30 : decode cX7_bow 30 = .ok (.if_icmp .ge 17, 3) := by decide +kernel
theorem dX7_bow_33 : decode cX7_bow 33 = .ok (.aload_n 0, 1) := by decide +kernel
theorem dX7_bow_34 : decode cX7_bow 34 = .ok (.getfield 60, 3) := by decide +kernel
theorem dX7_bow_37 : decode cX7_bow 37 = .ok (.iload_n 2, 1) := by decide +kernel
theorem dX7_bow_38 : decode cX7_bow 38 = .ok (.bipush (-6), 2) := by decide +kernel
theorem dX7_bow_40 : decode cX7_bow 40 = .ok (.iastore, 1) := by decide +kernel
theorem dX7_bow_41 : decode cX7_bow 41 = .ok (.iinc 2 1, 3) := by decide +kernel
theorem dX7_bow_44 : decode cX7_bow 44 = .ok (.goto (-17), 3) := by decide +kernel
theorem dX7_bow_47 : decode cX7_bow 47 = .ok (.aload_n 0, 1) := by decide +kernel
theorem dX7_bow_48 : decode cX7_bow 48 = .ok (.getfield 63, 3) := by decide +kernel
theorem dX7_bow_51 : decode cX7_bow 51 = .ok (.iconst 0, 1) := by decide +kernel
theorem dX7_bow_52 : decode cX7_bow 52 = .ok (.aload_n 0, 1) := by decide +kernel
theorem dX7_bow_53 : decode cX7_bow 53 = .ok (.invokevirtual 275, 3) := by decide +kernel
theorem dX7_bow_56 : decode cX7_bow 56 = .ok (.iastore, 1) := by decide +kernel
theorem dX7_bow_57 : decode cX7_bow 57 = .ok (.aload_n 0, 1) := by decide +kernel
theorem dX7_bow_58 : decode cX7_bow 58 = .ok (.getfield 60, 3) := by decide +kernel
theorem dX7_bow_61 : decode cX7_bow 61 = .ok (.aload_n 0, 1) := by decide +kernel
theorem dX7_bow_62 : decode cX7_bow 62 = .ok (.getfield 63, 3) := by decide +kernel
theorem dX7_bow_65 : decode cX7_bow 65 = .ok (.iconst 0, 1) := by decide +kernel
theorem dX7_bow_66 : decode cX7_bow 66 = .ok (.iaload, 1) := by decide +kernel
theorem dX7_bow_67 : decode cX7_bow 67 = .ok (.iconst 0, 1) := by decide +kernel
theorem dX7_bow_68 : decode cX7_bow 68 = .ok (.iastore, 1) := by decide +kernel
theorem dX7_bow_69 : decode cX7_bow 69 = .ok (.iconst 1, 1) := by decide +kernel
theorem dX7_bow_70 : decode cX7_bow 70 = .ok (.istore_n 2, 1) := by decide +kernel
theorem dX7_bow_71 : decode cX7_bow 71 = .ok (.iconst 0, 1) := by decide +kernel
theorem dX7_bow_72 : decode cX7_bow 72 = .ok (.istore_n 3, 1) := by decide +kernel
theorem dX7_bow_73 : decode cX7_bow 73 = .ok (.iload_n 3, 1) := by decide +kernel
theorem dX7_bow_74 : decode cX7_bow 74 = .ok (.iload_n 2, 1) := by decide +kernel
theorem dX7_bow_75 : decode cX7_bow 75 = .ok (.if_icmp .ge 102, 3) := by decide +kernel
theorem dX7_bow_78 : decode cX7_bow 78 = .ok (.aload_n 0, 1) := by decide +kernel
theorem dX7_bow_79 : decode cX7_bow 79 = .ok (.getfield 63, 3) := by decide +kernel
theorem dX7_bow_82 : decode cX7_bow 82 = .ok (.iload_n 3, 1) := by decide +kernel
theorem dX7_bow_83 : decode cX7_bow 83 = .ok (.iaload, 1) := by decide +kernel
theorem dX7_bow_84 : decode cX7_bow 84 = .ok (.istore 4, 2) := by decide +kernel
theorem dX7_bow_86 : decode cX7_bow 86 = .ok (.aload_n 0, 1) := by decide +kernel
theorem dX7_bow_87 : decode cX7_bow 87 = .ok (.iload 4, 2) := by decide +kernel
theorem dX7_bow_89 : decode cX7_bow 89 = .ok (.iload_n 1, 1) := by decide +kernel
theorem dX7_bow_90 : decode cX7_bow 90 = .ok (.invokevirtual 280, 3) := by decide +kernel
theorem dX7_bow_93 : decode cX7_bow 93 = .ok (.ifCond .eq 11, 3) := by decide +kernel
theorem dX7_bow_96 : decode cX7_bow 96 = .ok (.aload_n 0, 1) := by decide +kernel
theorem dX7_bow_97 : decode cX7_bow 97 = .ok (.getfield 60, 3) := by decide +kernel
theorem dX7_bow_100 : decode cX7_bow 100 = .ok (.iload 4, 2) := by decide +kernel
theorem dX7_bow_102 : decode cX7_bow 102 = .ok (.iaload, 1) := by decide +kernel
theorem dX7_bow_103 : decode cX7_bow 103 = .ok (.ireturn, 1) := by decide +kernel
theorem dX7_bow_104 : decode cX7_bow 104 = .ok (.iconst 0, 1) := by decide +kernel
theorem dX7_bow_105 : decode cX7_bow 105 = .ok (.istore 5, 2) := by decide +kernel
theorem dX7_bow_107 : decode cX7_bow 107 = .ok (.iload 5, 2) := by decide +kernel
theorem dX7_bow_109 : decode cX7_bow 109 = .ok (.iconst 4, 1) := by decide +kernel
theorem dX7_bow_110 : decode cX7_bow 110 = .ok (.if_icmp .ge 61, 3) := by decide +kernel
theorem dX7_bow_113 : decode cX7_bow 113 = .ok (.aload_n 0, 1) := by decide +kernel
theorem dX7_bow_114 : decode cX7_bow 114 = .ok (.iload 4, 2) := by decide +kernel
theorem dX7_bow_116 : decode cX7_bow 116 = .ok (.iload 5, 2) := by decide +kernel
theorem dX7_bow_118 : decode cX7_bow 118 = .ok (.invokevirtual 266, 3) := by decide +kernel
theorem dX7_bow_121 : decode cX7_bow 121 = .ok (.istore 6, 2) := by decide +kernel
theorem dX7_bow_123 : decode cX7_bow 123 = .ok (.iload 6, 2) := by decide +kernel
theorem dX7_bow_125 : decode cX7_bow 125 = .ok (.ifCond .lt 40, 3) := by decide +kernel
theorem dX7_bow_128 : decode cX7_bow 128 = .ok (.aload_n 0, 1) := by decide +kernel
theorem dX7_bow_129 : decode cX7_bow 129 = .ok (.getfield 60, 3) := by decide +kernel
theorem dX7_bow_132 : decode cX7_bow 132 = .ok (.iload 6, 2) := by decide +kernel
theorem dX7_bow_134 : decode cX7_bow 134 = .ok (.iaload, 1) := by decide +kernel
theorem dX7_bow_135 : decode cX7_bow 135 = .ok (.ifCond .ge 30, 3) := by decide +kernel
theorem dX7_bow_138 : decode cX7_bow 138 = .ok (.aload_n 0, 1) := by decide +kernel
theorem dX7_bow_139 : decode cX7_bow 139 = .ok (.getfield 60, 3) := by decide +kernel
theorem dX7_bow_142 : decode cX7_bow 142 = .ok (.iload 6, 2) := by decide +kernel
theorem dX7_bow_144 : decode cX7_bow 144 = .ok (.aload_n 0, 1) := by decide +kernel
theorem dX7_bow_145 : decode cX7_bow 145 = .ok (.getfield 60, 3) := by decide +kernel
theorem dX7_bow_148 : decode cX7_bow 148 = .ok (.iload 4, 2) := by decide +kernel
theorem dX7_bow_150 : decode cX7_bow 150 = .ok (.iaload, 1) := by decide +kernel
theorem dX7_bow_151 : decode cX7_bow 151 = .ok (.iconst 1, 1) := by decide +kernel
theorem dX7_bow_152 : decode cX7_bow 152 = .ok (.iadd, 1) := by decide +kernel
theorem dX7_bow_153 : decode cX7_bow 153 = .ok (.iastore, 1) := by decide +kernel
theorem dX7_bow_154 : decode cX7_bow 154 = .ok (.aload_n 0, 1) := by decide +kernel
theorem dX7_bow_155 : decode cX7_bow 155 = .ok (.getfield 63, 3) := by decide +kernel
theorem dX7_bow_158 : decode cX7_bow 158 = .ok (.iload_n 2, 1) := by decide +kernel
theorem dX7_bow_159 : decode cX7_bow 159 = .ok (.iload 6, 2) := by decide +kernel
theorem dX7_bow_161 : decode cX7_bow 161 = .ok (.iastore, 1) := by decide +kernel
theorem dX7_bow_162 : decode cX7_bow 162 = .ok (.iinc 2 1, 3) := by decide +kernel
theorem dX7_bow_165 : decode cX7_bow 165 = .ok (.iinc 5 1, 3) := by decide +kernel
theorem dX7_bow_168 : decode cX7_bow 168 = .ok (.goto (-61), 3) := by decide +kernel
theorem dX7_bow_171 : decode cX7_bow 171 = .ok (.iinc 3 1, 3) := by decide +kernel
theorem dX7_bow_174 : decode cX7_bow 174 = .ok (.goto (-101), 3) := by decide +kernel
theorem dX7_bow_177 : decode cX7_bow 177 = .ok (.bipush (-6), 2) := by decide +kernel
theorem dX7_bow_179 : decode cX7_bow 179 = .ok (.ireturn, 1) := by decide +kernel
theorem l_X7_bw107 {d : List Nat} {T : vT} {M : vM} {E : xE} {s0 : xS} {n : Int} {k : Nat} {s : xS} {P : Int → vT → vM → Prop} (hB : vB T) (hE : xEok E) (hX : rX M E)
    (go : ∀ (N : vM) (mn : Nat) (Q : Nat → xS) (F : Nat → Nat) (x4 x5 x6 : Option vA), bwS M N → bqI E N mn Q F → brI E s0 n mn Q F (k + 1) 0 → k < mn → vV m_X7_bow d d (vPi P) 73 [some (vR 200), some (vI n), some (vI mn), some (vI ((k + 1 : Nat) : Int)), x4, x5, x6] [] d T N) : ∀ t : Nat, t ≤ 4 → ∀ (N : vM) (mn : Nat) (Q : Nat → xS) (F : Nat → Nat) (x6 : Option vA), bwS M N → bqI E N mn Q F → brI E s0 n mn Q F k t → k < mn → Q k = s → xbe E n s = false →
    vV m_X7_bow d d (vPi P) 107 [some (vR 200), some (vI n), some (vI mn), some (vI k), some (vI (enR s : Nat)), some (vI t), x6] [] d T N := by
  refine vUp ?_
  intro t ht ih N mn Q F x6 hS hI hR hk hQ hbe
  have hXN := hS.x hX
  obtain ⟨q1, q2, q3⟩ := hI.1 k hk
  rw [hQ] at q1 q2 q3
  have hps := enR_lt (q1.ok hE)
  have hmn := hI.le hE
  have hF : F k ≤ k := hR.2.2.2.2.2.2.2.2.2 k hk
  refine vV.iload dX7_bow_107 rfl ?_
  refine vV.iconst dX7_bow_109 (by decide) ?_
  refine vV.icmp_ge (tgt := 171) dX7_bow_110 (by decide) (fun h110 => ?_) (fun h110 => ?_)
  · skip
    refine vV.iinc (L' := [_, _, _, _, _, _, _]) dX7_bow_171 (by decide) rfl (⟨by omega, by omega⟩) rfl ?_
    refine vV.goto (tgt := 73) dX7_bow_174 (by decide) ?_
    rw [show t = 4 by omega] at hR; exact go N mn Q F _ _ _ hS hI (hR.up hk (by rw [hQ]; exact hbe)) hk
  · skip
    refine vV.aload_n dX7_bow_113 rfl ?_
    refine vV.iload dX7_bow_114 rfl ?_
    refine vV.iload dX7_bow_116 rfl ?_
    refine vV.cVi dX7_bow_118 ml_X7_266 cw_X7_nextState iw_X7_nextState (by first | rfl | assumption) rfl (by unfold vRoom; decide) (c_X7_nextState hB hE hXN q1 (by omega)) rfl rfl (Nat.le_of_ble_eq_true rfl) ?_
    rintro x118 _ _ hx118 ⟨hx, rfl, rfl⟩
    refine vV.istore (L' := [_, _, _, _, _, _, _]) dX7_bow_121 (by decide) rfl ?_
    refine vV.iload dX7_bow_123 rfl ?_
    refine vV.if_lt (tgt := 165) dX7_bow_125 (by decide) (fun h125 => ?_) (fun h125 => ?_)
    · skip
      have hn := xrR_n hx h125
      have hR2 := hR.skip hk (fun s2 e => by rw [hQ, hn] at e; cases e)
      refine vV.iinc (L' := [_, _, _, _, _, _, _]) dX7_bow_165 (by decide) rfl (⟨by omega, by omega⟩) rfl ?_
      refine vV.goto (tgt := 107) dX7_bow_168 (by decide) ?_
      first | exact ih (by omega) N mn Q F _ hS hI hR2 hk hQ hbe | exact ih (by omega) _ (mn + 1) _ _ _ (fun y hy => by simp at hy; rw [vUpd_row hy.2, vUpd_row hy.1]; exact hS y (by simp; omega)) hI2 hR3 (by omega) (by rw [nSet_n (by omega)]; exact hQ) hbe
    · skip
      obtain ⟨s', hn, hx'⟩ := xrR_s hx (by omega)
      subst hx'
      have hs' := xn_st hE q1 hn
      have hp' := enR_lt (hs'.ok hE)
      refine vV.aload_n dX7_bow_128 rfl ?_
      refine vV.getr dX7_bow_129 fl_X7_60 (by first | rfl | assumption) rfl (by first | assumption | exact hB _ _ _ rfl) ?_
      refine vV.iload dX7_bow_132 rfl ?_
      refine vV.iald dX7_bow_134 (by first | rfl | assumption) (by omega) (by omega) ?_
      refine vV.if_ge (tgt := 165) dX7_bow_135 (by decide) (fun h135 => ?_) (fun h135 => ?_)
      · skip
        have hR2 := hR.skip hk (fun s2 e => by rw [hQ, hn] at e; cases e; exact (hI.2.2 s' hs').elim (fun z => by omega) id)
        refine vV.iinc (L' := [_, _, _, _, _, _, _]) dX7_bow_165 (by decide) rfl (⟨by omega, by omega⟩) rfl ?_
        refine vV.goto (tgt := 107) dX7_bow_168 (by decide) ?_
        first | exact ih (by omega) N mn Q F _ hS hI hR2 hk hQ hbe | exact ih (by omega) _ (mn + 1) _ _ _ (fun y hy => by simp at hy; rw [vUpd_row hy.2, vUpd_row hy.1]; exact hS y (by simp; omega)) hI2 hR3 (by omega) (by rw [nSet_n (by omega)]; exact hQ) hbe
      · skip
        have hI2 := hI.add (v := F k + 1) hE hs' (by omega)
        have hmn2 := hI2.le hE
        have hR3 := hR.add hk (by omega) (by rw [hQ]; exact hn)
        refine vV.aload_n dX7_bow_138 rfl ?_
        refine vV.getr dX7_bow_139 fl_X7_60 (by first | rfl | assumption) rfl (by first | assumption | exact hB _ _ _ rfl) ?_
        refine vV.iload dX7_bow_142 rfl ?_
        refine vV.aload_n dX7_bow_144 rfl ?_
        refine vV.getr dX7_bow_145 fl_X7_60 (by first | rfl | assumption) rfl (by first | assumption | exact hB _ _ _ rfl) ?_
        refine vV.iload dX7_bow_148 rfl ?_
        refine vV.iald dX7_bow_150 (by first | rfl | assumption) (by omega) (by omega) ?_
        rw [q3]
        refine vV.iconst dX7_bow_151 (by decide) ?_
        refine vV.iadd dX7_bow_152 (⟨by omega, by omega⟩) ?_
        rw [show ((F k : Nat) : Int) + 1 = ((F k + 1 : Nat) : Int) from rfl]
        refine vV.iast dX7_bow_153 (by first | rfl | assumption) (by omega) (by omega) ?_
        refine vV.aload_n dX7_bow_154 rfl ?_
        refine vV.getr dX7_bow_155 fl_X7_63 (by first | rfl | assumption) rfl (by first | assumption | exact hB _ _ _ rfl) ?_
        refine vV.iload_n dX7_bow_158 rfl ?_
        refine vV.iload dX7_bow_159 rfl ?_
        refine vV.iast dX7_bow_161 (by first | rfl | assumption) (by omega) (by omega) ?_
        refine vV.iinc (L' := [_, _, _, _, _, _, _]) dX7_bow_162 (by decide) rfl (⟨by omega, by omega⟩) rfl ?_
        refine vV.iinc (L' := [_, _, _, _, _, _, _]) dX7_bow_165 (by decide) rfl (⟨by omega, by omega⟩) rfl ?_
        refine vV.goto (tgt := 107) dX7_bow_168 (by decide) ?_
        first | exact ih (by omega) N mn Q F _ hS hI hR2 hk hQ hbe | exact ih (by omega) _ (mn + 1) _ _ _ (fun y hy => by simp at hy; rw [vUpd_row hy.2, vUpd_row hy.1]; exact hS y (by simp; omega)) hI2 hR3 (by omega) (by rw [nSet_n (by omega)]; exact hQ) hbe
