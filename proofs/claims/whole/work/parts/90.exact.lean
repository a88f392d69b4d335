/-! ===== own: the reference: gasps: words ===== -/
/-- a way of k ticks from s to s', with g gasps -/
def xV (E : xE) : Nat → xS → xS → Nat → Prop
  | 0, s, s', g => s' = s ∧ g = 0
  | k + 1, s, s', g => ∃ (u : Nat) (s1 : xS) (g1 : Nat), u < 4 ∧ xn E u s = some s1 ∧ xV E k s1 s' g1 ∧ g = xga E s1 + g1
theorem xV_le {E : xE} (hE : xEok E) : ∀ {k : Nat} {s s' : xS} {g : Nat}, xV E k s s' g → g ≤ 3 * k
  | 0, s, s', g, h => by rw [h.2]; omega
  | k + 1, s, s', g, ⟨u, s1, g1, h1, h2, h3, h4⟩ => by have := xV_le hE h3; have := xga_le hE s1; omega
theorem xV_snoc {E : xE} : ∀ {k : Nat} {s s' s2 : xS} {g u : Nat}, xV E k s s' g → u < 4 → xn E u s' = some s2 → xV E (k + 1) s s2 (g + xga E s2)
  | 0, s, s', s2, g, u, h, hu, hn => by
    obtain ⟨e1, e2⟩ := h
    rw [e1] at hn
    exact ⟨u, s2, 0, hu, hn, ⟨rfl, rfl⟩, by omega⟩
  | k + 1, s, s', s2, g, u, ⟨v, s1, g1, h1, h2, h3, h4⟩, hu, hn => ⟨v, s1, g1 + xga E s2, h1, h2, xV_snoc h3 hu hn, by omega⟩
theorem xV_uns {E : xE} : ∀ {k : Nat} {s s2 : xS} {g : Nat}, xV E (k + 1) s s2 g → ∃ (s' : xS) (g' u : Nat), u < 4 ∧ xV E k s s' g' ∧ xn E u s' = some s2 ∧ g = g' + xga E s2
  | 0, s, s2, g, ⟨v, s1, g1, h1, h2, h3, h4⟩ => by
    obtain ⟨e1, e2⟩ := h3
    rw [← e1] at h2 h4
    exact ⟨s, 0, v, h1, ⟨rfl, rfl⟩, h2, by omega⟩
  | k + 1, s, s2, g, ⟨v, s1, g1, h1, h2, h3, h4⟩ => by
    obtain ⟨s', g', u, a, b, c, e⟩ := xV_uns h3
    exact ⟨s', xga E s1 + g', u, a, ⟨v, s1, g', h1, h2, b, rfl⟩, c, by omega⟩
theorem xW_V {E : xE} {s0 : xS} : ∀ {k : Nat} {s : xS} {w : Nat}, xW E s0 (k + 1) s w ↔ ∃ (u : Nat) (s1 : xS) (g : Nat), u < 4 ∧ xn E u s0 = some s1 ∧ xV E k s1 s g ∧ w = (3 - u) + 4 * (xga E s1 + g)
  | 0, s, w => by
    constructor
    · rintro ⟨s', w', t, h1, ⟨e1, e2⟩, h3, h4⟩
      rw [e1] at h3
      rw [if_pos rfl] at h4
      exact ⟨t, s, 0, h1, h3, ⟨rfl, rfl⟩, by omega⟩
    · rintro ⟨u, s1, g, h1, h2, ⟨e1, e2⟩, h4⟩
      rw [← e1] at h2 h4
      exact ⟨s0, 0, u, h1, ⟨rfl, rfl⟩, h2, by rw [if_pos rfl]; omega⟩
  | k + 1, s, w => by
    constructor
    · rintro ⟨s', w', t, h1, h2, h3, h4⟩
      rw [if_neg (by omega)] at h4
      obtain ⟨u, s1, g, a, b, c, e⟩ := xW_V.mp h2
      exact ⟨u, s1, g + xga E s, a, b, xV_snoc c h1 h3, by omega⟩
    · rintro ⟨u, s1, g, h1, h2, h3, h4⟩
      obtain ⟨s', g', v, a, b, c, e⟩ := xV_uns h3
      exact ⟨s', (3 - u) + 4 * (xga E s1 + g'), v, a, xW_V.mpr ⟨u, s1, g', h1, h2, b, rfl⟩, c, by rw [if_neg (by omega)]; omega⟩
/-- the most gasps of the ways W -/
def xGm (W : Nat → Prop) (r : Int) : Prop := (r = -6 ∧ ∀ g, ¬ W g) ∨ ∃ g : Nat, r = g ∧ W g ∧ ∀ g', W g' → g' ≤ g
def xVe (E : xE) (k : Nat) (s : xS) (g : Nat) : Prop := ∃ s', xV E k s s' g
/-- .. of ways whose first thing is u -/
def xVu (E : xE) (k : Nat) (s : xS) (u g : Nat) : Prop := ∃ s1 g1, xn E u s = some s1 ∧ xVe E k s1 g1 ∧ g = xga E s1 + g1
theorem xVe_u {E : xE} {k : Nat} {s : xS} {g : Nat} : xVe E (k + 1) s g ↔ ∃ u, u < 4 ∧ xVu E k s u g := by
  constructor
  · rintro ⟨s', u, s1, g1, h1, h2, h3, h4⟩; exact ⟨u, h1, s1, g1, h2, ⟨s', h3⟩, h4⟩
  · rintro ⟨u, h1, s1, g1, h2, ⟨s', h3⟩, h4⟩; exact ⟨s', u, s1, g1, h1, h2, h3, h4⟩
theorem xGm_rg {W : Nat → Prop} {r : Int} {b : Nat} (h : xGm W r) (hb : ∀ g, W g → g ≤ b) : -6 ≤ r ∧ r ≤ b := by
  rcases h with ⟨a, -⟩ | ⟨g, a, c, -⟩
  · omega
  · have := hb g c; omega
/-- the best of two -/
theorem xGm_or {W V : Nat → Prop} {r y : Int} (h : xGm W r) (h2 : xGm V y) : xGm (fun g => W g ∨ V g) (if r < y then y else r) := by
  rcases h with ⟨a, b⟩ | ⟨g, a, b, c⟩ <;> rcases h2 with ⟨a', b'⟩ | ⟨g', a', b', c'⟩
  · rw [if_neg (by omega)]; exact Or.inl ⟨a, fun g z => z.elim (b g) (b' g)⟩
  · rw [if_pos (by omega)]; exact Or.inr ⟨g', a', Or.inr b', fun k z => z.elim (fun y => absurd y (b k)) (c' k)⟩
  · rw [if_neg (by omega)]; exact Or.inr ⟨g, a, Or.inl b, fun k z => z.elim (c k) (fun y => absurd y (b' k))⟩
  · by_cases hlt : r < y
    · rw [if_pos hlt]; exact Or.inr ⟨g', a', Or.inr b', fun k z => z.elim (fun y => by have := c k y; omega) (c' k)⟩
    · rw [if_neg hlt]; exact Or.inr ⟨g, a, Or.inl b, fun k z => z.elim (c k) (fun y => by have := c' k y; omega)⟩
theorem xGm_cg {W V : Nat → Prop} {r : Int} (h : ∀ g, W g ↔ V g) (hm : xGm W r) : xGm V r := by
  rcases hm with ⟨a, b⟩ | ⟨g, a, b, c⟩
  · exact Or.inl ⟨a, fun g z => b g ((h g).mpr z)⟩
  · exact Or.inr ⟨g, a, (h g).mp b, fun g' z => c g' ((h g').mpr z)⟩
theorem dX7_gaspsIn_0 : decode cX7_gaspsIn 0 = .ok (.iconst 0, 1) := by decide +kernel
theorem dX7_gaspsIn_1 : decode cX7_gaspsIn 1 = .ok (.istore_n 2, 1) := by decide +kernel
theorem dX7_gaspsIn_2 : decode cX7_gaspsIn 2 = .ok (.iconst 0, 1) := by decide +kernel
theorem dX7_gaspsIn_3 : decode cX7_gaspsIn 3 = .ok (.istore_n 3, 1) := by decide +kernel
theorem dX7_gaspsIn_4 : decode cX7_gaspsIn 4 = .ok (.iload_n 3, 1) := by decide +kernel
theorem dX7_gaspsIn_5 : decode cX7_gaspsIn 5 = .ok (.aload_n 0, 1) := by decide +kernel
theorem dX7_gaspsIn_6 : decode cX7_gaspsIn 6 = .ok (.getfield 254, 3) := by decide +kernel
theorem dX7_gaspsIn_9 : decode cX7_gaspsIn 9 = .ok (.if_icmp .ge 26, 3) := by decide +kernel
theorem dX7_gaspsIn_12 : decode cX7_gaspsIn 12 = .ok (.iload_n 2, 1) := by decide +kernel
theorem dX7_gaspsIn_13 : decode cX7_gaspsIn 13 = .ok (.iload_n 1, 1) := by decide +kernel
theorem dX7_gaspsIn_14 : decode cX7_gaspsIn 14 = .ok (.iload_n 3, 1) := by decide +kernel
theorem dX7_gaspsIn_15 : decode cX7_gaspsIn 15 = .ok (.invokestatic 257, 3) := by decide +kernel
theorem dX7_gaspsIn_18 : decode cX7_gaspsIn 18 = .ok (.iconst 3, 1) := by decide +kernel
theorem dX7_gaspsIn_19 : decode cX7_gaspsIn 19 = .ok (.if_icmp .gt 7, 3) := by decide +kernel
theorem dX7_gaspsIn_22 : decode cX7_gaspsIn 22 = .ok (.iconst 1, 1) := by decide +kernel
theorem dX7_gaspsIn_23 : decode cX7_gaspsIn 23 = .ok (.goto 4, 3) := by decide +kernel
theorem dX7_gaspsIn_26 : decode cX7_gaspsIn 26 = .ok (.iconst 0, 1) := by decide +kernel
theorem dX7_gaspsIn_27 : decode cX7_gaspsIn 27 = .ok (.iadd, 1) := by decide +kernel
theorem dX7_gaspsIn_28 : decode cX7_gaspsIn 28 = .ok (.istore_n 2, 1) := by decide +kernel
theorem dX7_gaspsIn_29 : decode cX7_gaspsIn 29 = .ok (.iinc 3 1, 3) := by decide +kernel
theorem dX7_gaspsIn_32 : decode cX7_gaspsIn 32 = .ok (.goto (-28), 3) := by decide +kernel
theorem dX7_gaspsIn_35 : decode cX7_gaspsIn 35 = .ok (.iload_n 2, 1) := by decide +kernel
theorem dX7_gaspsIn_36 : decode cX7_gaspsIn 36 = .ok (.ireturn, 1) := by decide +kernel
theorem l_X7_gi4 {d : List Nat} {T : vT} {M : vM} {E : xE} {s : xS} (hB : vB T) (hE : xEok E) (hX : rX M E) (hs : xSt E s) : ∀ p : Nat, p ≤ E.1 →
    vV m_X7_gaspsIn d d (vPi fun r T1 M1 => r = (xga E s : Nat) ∧ T = T1 ∧ M = M1) 4 [some (vR 200), some (vI (enR s : Nat)), some (vI (xgk s p : Nat)), some (vI p)] [] d T M := by
  obtain ⟨x1, x2, x3⟩ := hX
  have hE3 := hE.1
  refine vUp ?_
  intro p hpm ih
  have hle := xgk_le s p
  have e : ∀ b : Bool, decide (xt s p ≤ 3) = b → xgk s (p + 1) = xgk s p + if b then 1 else 0 := fun b hb => by
    show xgk s p + (if xt s p ≤ 3 then 1 else 0) = _
    rw [← hb]; by_cases h : xt s p ≤ 3
    · rw [if_pos h]; simp [h]
    · rw [if_neg h]; simp [h]
  refine vV.iload_n dX7_gaspsIn_4 rfl ?_
  refine vV.aload_n dX7_gaspsIn_5 rfl ?_
  refine vV.geti (z := 29) dX7_gaspsIn_6 fl_X7_254 (by first | rfl | assumption) rfl rfl ?_
  rw [x1]
  refine vV.icmp_ge (tgt := 35) dX7_gaspsIn_9 (by decide) (fun h9 => ?_) (fun h9 => ?_)
  · skip
    refine vV.iload_n dX7_gaspsIn_35 rfl ?_
    refine vV.ri dX7_gaspsIn_36 rfl ?_
    rw [show p = E.1 by omega]; exact ⟨rfl, rfl, rfl⟩
  · skip
    refine vV.iload_n dX7_gaspsIn_12 rfl ?_
    refine vV.iload_n dX7_gaspsIn_13 rfl ?_
    refine vV.iload_n dX7_gaspsIn_14 rfl ?_
    refine vV.cSi dX7_gaspsIn_15 ml_X7_257 cw_X7_turnIn sw_X7_turnIn (by unfold vRoom; decide) (c_X7_turnIn (hs.ok hE) (by omega)) rfl rfl (Nat.le_of_ble_eq_true rfl) ?_
    rintro x15 _ _ hx15 ⟨rfl, rfl, rfl⟩
    refine vV.iconst dX7_gaspsIn_18 (by decide) ?_
    refine vV.icmp_gt (tgt := 26) dX7_gaspsIn_19 (by decide) (fun h19 => ?_) (fun h19 => ?_)
    · skip
      have e2 : xgk s (p + 1) = xgk s p := by { have := e false (decide_eq_false (by omega)); simpa using this }
      refine vV.iconst dX7_gaspsIn_26 (by decide) ?_
      refine vV.iadd dX7_gaspsIn_27 (⟨by omega, by omega⟩) ?_
      first | rw [show ((xgk s p : Nat) : Int) + 1 = ((xgk s (p + 1) : Nat) : Int) by omega] | rw [show ((xgk s p : Nat) : Int) + 0 = ((xgk s (p + 1) : Nat) : Int) by omega]
      refine vV.istore_n (L' := [_, _, _, _]) dX7_gaspsIn_28 (by decide) rfl ?_
      refine vV.iinc (L' := [_, _, _, _]) dX7_gaspsIn_29 (by decide) rfl (⟨by omega, by omega⟩) rfl ?_
      refine vV.goto (tgt := 4) dX7_gaspsIn_32 (by decide) ?_
      exact ih (by omega)
    · skip
      have e2 : xgk s (p + 1) = xgk s p + 1 := by { have := e true (decide_eq_true (by omega)); simpa using this }
      refine vV.iconst dX7_gaspsIn_22 (by decide) ?_
      refine vV.goto (tgt := 27) dX7_gaspsIn_23 (by decide) ?_
      refine vV.iadd dX7_gaspsIn_27 (⟨by omega, by omega⟩) ?_
      first | rw [show ((xgk s p : Nat) : Int) + 1 = ((xgk s (p + 1) : Nat) : Int) by omega] | rw [show ((xgk s p : Nat) : Int) + 0 = ((xgk s (p + 1) : Nat) : Int) by omega]
      refine vV.istore_n (L' := [_, _, _, _]) dX7_gaspsIn_28 (by decide) rfl ?_
      refine vV.iinc (L' := [_, _, _, _]) dX7_gaspsIn_29 (by decide) rfl (⟨by omega, by omega⟩) rfl ?_
      refine vV.goto (tgt := 4) dX7_gaspsIn_32 (by decide) ?_
      exact ih (by omega)
theorem c_X7_gaspsIn {d : List Nat} {T : vT} {M : vM} {E : xE} {s : xS} (hB : vB T) (hE : xEok E) (hX : rX M E) (hs : xSt E s) : vCon m_X7_gaspsIn d d [vR 200, vI (enR s : Nat)] T M (vPi fun r T1 M1 => r = (xga E s : Nat) ∧ T = T1 ∧ M = M1) := by
  refine vCon.of (by decide) rfl rfl (Nat.le_of_ble_eq_true rfl) ?_
  refine vV.iconst dX7_gaspsIn_0 (by decide) ?_
  refine vV.istore_n (L' := [_, _, _, _]) dX7_gaspsIn_1 (by decide) rfl ?_
  refine vV.iconst dX7_gaspsIn_2 (by decide) ?_
  refine vV.istore_n (L' := [_, _, _, _]) dX7_gaspsIn_3 (by decide) rfl ?_
  exact l_X7_gi4 hB hE hX hs 0 (by omega)
/-- the half of the table that begins at b holds the most gasps of k ticks -/
def gtB (E : xE) (R : Int → Int) (b k : Nat) : Prop := ∀ s, xSt E s → xGm (xVe E k s) (R ((b + enR s : Nat) : Int))
theorem dX7_gaspsBy_0 : decode cX7_gaspsBy 0 = .ok (.aload_n 0, 1) := by decide +kernel
theorem dX7_gaspsBy_1 : decode cX7_gaspsBy 1 = .ok (.iload_n 1, 1) := by decide +kernel
theorem dX7_gaspsBy_2 : decode cX7_gaspsBy 2 = .ok (.iload_n 2, 1) := by decide +kernel
theorem dX7_gaspsBy_3 : decode cX7_gaspsBy 3 = .ok (.invokevirtual 266, 3) := by decide +kernel
theorem dX7_gaspsBy_6 : decode cX7_gaspsBy 6 = .ok (.istore 4, 2) := by decide +kernel
theorem dX7_gaspsBy_8 : decode cX7_gaspsBy 8 = .ok (.iload 4, 2) := by decide +kernel
theorem dX7_gaspsBy_10 : decode cX7_gaspsBy 10 = .ok (.ifCond .lt 18, 3) := by decide +kernel
theorem dX7_gaspsBy_13 : decode cX7_gaspsBy 13 = .ok (.aload_n 0, 1) := by decide +kernel
theorem dX7_gaspsBy_14 : decode cX7_gaspsBy 14 = .ok (.getfield 67, 3) := by decide +kernel
theorem dX7_gaspsBy_17 : decode cX7_gaspsBy 17 = .ok (.ldc 52, 2) := by decide +kernel
theorem dX7_gaspsBy_19 : decode cX7_gaspsBy 19 = .ok (.iload_n 3, 1) := by decide +kernel
theorem dX7_gaspsBy_20 : decode cX7_gaspsBy 20 = .ok (.imul, 1) := by decide +kernel
theorem dX7_gaspsBy_21 : decode cX7_gaspsBy 21 = .ok (.iload 4, 2) := by decide +kernel
theorem dX7_gaspsBy_23 : decode cX7_gaspsBy 23 = .ok (.iadd, 1) := by decide +kernel
theorem dX7_gaspsBy_24 : decode cX7_gaspsBy 24 = .ok (.iaload, 1) := by decide +kernel
theorem dX7_gaspsBy_25 : decode cX7_gaspsBy 25 = .ok (.ifCond .ge 6, 3) := by decide +kernel
theorem dX7_gaspsBy_28 : decode cX7_gaspsBy 28 = .ok (.bipush (-6), 2) := by decide +kernel
theorem dX7_gaspsBy_30 : decode cX7_gaspsBy 30 = .ok (.ireturn, 1) := by decide +kernel
theorem dX7_gaspsBy_31 : decode cX7_gaspsBy 31 = .ok (.aload_n 0, 1) := by decide +kernel
theorem dX7_gaspsBy_32 : decode cX7_gaspsBy 32 = .ok (.iload 4, 2) := by decide +kernel
theorem dX7_gaspsBy_34 : decode cX7_gaspsBy 34 = .ok (.invokevirtual 283, 3) := by decide +kernel
theorem dX7_gaspsBy_37 : decode cX7_gaspsBy 37 = .ok (.aload_n 0, 1) := by decide +kernel
theorem dX7_gaspsBy_38 : decode cX7_gaspsBy 38 = .ok (.getfield 67, 3) := by decide +kernel
theorem dX7_gaspsBy_41 : decode cX7_gaspsBy 41 = .ok (.ldc 52, 2) := by decide +kernel
theorem dX7_gaspsBy_43 : decode cX7_gaspsBy 43 = .ok (.iload_n 3, 1) := by decide +kernel
theorem dX7_gaspsBy_44 : decode cX7_gaspsBy 44 = .ok (.imul, 1) := by decide +kernel
theorem dX7_gaspsBy_45 : decode cX7_gaspsBy 45 = .ok (.iload 4, 2) := by decide +kernel
theorem dX7_gaspsBy_47 : decode cX7_gaspsBy 47 = .ok (.iadd, 1) := by decide +kernel
theorem dX7_gaspsBy_48 : decode cX7_gaspsBy 48 = .ok (.iaload, 1) := by decide +kernel
theorem dX7_gaspsBy_49 : decode cX7_gaspsBy 49 = .ok (.iadd, 1) := by decide +kernel
theorem dX7_gaspsBy_50 : decode cX7_gaspsBy 50 = .ok (.ireturn, 1) := by decide +kernel
theorem c_X7_gaspsBy {d : List Nat} {T : vT} {M : vM} {E : xE} {s : xS} {u row k : Nat} (hB : vB T) (hE : xEok E) (hX : rX M E) (hs : xSt E s) (hu : u < 4) (hr : row ≤ 1) (hk : k ≤ 30) (hG : gtB E (M 235) (32768 * row) k) : vCon m_X7_gaspsBy d d [vR 200, vI (enR s : Nat), vI u, vI row] T M (vPi fun r T1 M1 => xGm (xVu E k s u) r ∧ T = T1 ∧ M = M1) := by
  refine vCon.of (by decide) rfl rfl (Nat.le_of_ble_eq_true rfl) ?_
  refine vV.aload_n dX7_gaspsBy_0 rfl ?_
  refine vV.iload_n dX7_gaspsBy_1 rfl ?_
  refine vV.iload_n dX7_gaspsBy_2 rfl ?_
  refine vV.cVi dX7_gaspsBy_3 ml_X7_266 cw_X7_nextState iw_X7_nextState (by first | rfl | assumption) rfl (by unfold vRoom; decide) (c_X7_nextState hB hE hX hs (by omega)) rfl rfl (Nat.le_of_ble_eq_true rfl) ?_
  rintro x3 _ _ hx3 ⟨hx, rfl, rfl⟩
  refine vV.istore (L' := [_, _, _, _, _]) dX7_gaspsBy_6 (by decide) rfl ?_
  refine vV.iload dX7_gaspsBy_8 rfl ?_
  refine vV.if_lt (tgt := 28) dX7_gaspsBy_10 (by decide) (fun h10 => ?_) (fun h10 => ?_)
  · skip
    have hn := xrR_n hx h10
    have hno : ∀ g, ¬ xVu E k s u g := fun g ⟨s1, g1, e, _⟩ => by rw [hn] at e; cases e
    refine vV.bipush (v := (-6)) dX7_gaspsBy_28 (by decide) (by decide) ?_
    refine vV.ri dX7_gaspsBy_30 rfl ?_
    exact ⟨Or.inl ⟨rfl, hno⟩, rfl, rfl⟩
  · skip
    obtain ⟨s', hn, hx'⟩ := xrR_s hx (by omega)
    subst hx'
    have hs' := xn_st hE hs hn
    have hp' := enR_lt (hs'.ok hE)
    have hg := hG s' hs'
    have e9 : (32768 : Int) * (row : Int) + (enR s' : Nat) = ((32768 * row + enR s' : Nat) : Int) := by omega
    refine vV.aload_n dX7_gaspsBy_13 rfl ?_
    refine vV.getr dX7_gaspsBy_14 fl_X7_67 (by first | rfl | assumption) rfl (by first | assumption | exact hB _ _ _ rfl) ?_
    refine vV.ldc (v := 32768) dX7_gaspsBy_17 kc_X7_52 (by decide) (by decide) ?_
    refine vV.iload_n dX7_gaspsBy_19 rfl ?_
    refine vV.imul dX7_gaspsBy_20 (⟨by omega, by omega⟩) ?_
    refine vV.iload dX7_gaspsBy_21 rfl ?_
    refine vV.iadd dX7_gaspsBy_23 (⟨by omega, by omega⟩) ?_
    rw [e9]
    refine vV.iald dX7_gaspsBy_24 (by first | rfl | assumption) (by omega) (by omega) ?_
    refine vV.if_ge (tgt := 31) dX7_gaspsBy_25 (by decide) (fun h25 => ?_) (fun h25 => ?_)
    · skip
      obtain ⟨g2, z1, z2, z3⟩ := hg.resolve_left (fun z => by omega)
      have hg9 : g2 ≤ 3 * k := by { obtain ⟨s9, hs9⟩ := z2; exact xV_le hE hs9 }
      have hga := xga_le hE s'
      refine vV.aload_n dX7_gaspsBy_31 rfl ?_
      refine vV.iload dX7_gaspsBy_32 rfl ?_
      refine vV.cVi dX7_gaspsBy_34 ml_X7_283 cw_X7_gaspsIn iw_X7_gaspsIn (by first | rfl | assumption) rfl (by unfold vRoom; decide) (c_X7_gaspsIn hB hE hX hs') rfl rfl (Nat.le_of_ble_eq_true rfl) ?_
      rintro x34 _ _ hx34 ⟨rfl, rfl, rfl⟩
      refine vV.aload_n dX7_gaspsBy_37 rfl ?_
      refine vV.getr dX7_gaspsBy_38 fl_X7_67 (by first | rfl | assumption) rfl (by first | assumption | exact hB _ _ _ rfl) ?_
      refine vV.ldc (v := 32768) dX7_gaspsBy_41 kc_X7_52 (by decide) (by decide) ?_
      refine vV.iload_n dX7_gaspsBy_43 rfl ?_
      refine vV.imul dX7_gaspsBy_44 (⟨by omega, by omega⟩) ?_
      refine vV.iload dX7_gaspsBy_45 rfl ?_
      refine vV.iadd dX7_gaspsBy_47 (⟨by omega, by omega⟩) ?_
      rw [e9]
      refine vV.iald dX7_gaspsBy_48 (by first | rfl | assumption) (by omega) (by omega) ?_
      rw [z1]
      refine vV.iadd dX7_gaspsBy_49 (⟨by omega, by omega⟩) ?_
      refine vV.ri dX7_gaspsBy_50 rfl ?_
      exact ⟨Or.inr ⟨xga E s' + g2, by omega, ⟨s', g2, hn, z2, rfl⟩, fun g' ⟨s1, g1, e, hv, hq⟩ => by { rw [hn] at e; cases e; have := z3 g1 hv; omega }⟩, rfl, rfl⟩
    · skip
      have hno : ∀ g, ¬ xVu E k s u g := fun g ⟨s1, g1, e, hv, _⟩ => by { rw [hn] at e; cases e; rcases hg with ⟨z1, z2⟩ | ⟨g2, z1, -⟩; exact z2 g1 hv; omega }
      refine vV.bipush (v := (-6)) dX7_gaspsBy_28 (by decide) (by decide) ?_
      refine vV.ri dX7_gaspsBy_30 rfl ?_
      exact ⟨Or.inl ⟨rfl, hno⟩, rfl, rfl⟩
