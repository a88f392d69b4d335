/-! ===== own: the best sticks: words ===== -/
/-- the plate f k is put to the k-th place from the left -/
def pPut (f so base : Int → Int) : Nat → Int → Int
  | 0 => base
  | k + 1 => fSet (pPut f so base k) (f k) (so k)
theorem pPut_s (f so base : Int → Int) (k : Nat) : pPut f so base (k + 1) = fSet (pPut f so base k) (f k) (so k) := rfl
theorem pPut_at {n : Nat} {f so base : Int → Int} (hf : pPm n f) : ∀ {m k : Nat}, m ≤ n → k < m → pPut f so base m (f k) = so k
  | 0, k, _, h => by omega
  | m + 1, k, hm, h => by
    rw [pPut_s]
    by_cases e : k = m
    · subst e; exact fSet_s _ _ _
    · rw [fSet_n (fun z => e (hf.2.1 k m (by omega) (by omega) z))]
      exact pPut_at hf (by omega) (by omega)
theorem pPut_out {n : Nat} {f so base : Int → Int} (hf : pPm n f) {j : Int} (hj : j < 0 ∨ n ≤ j) : ∀ {m : Nat}, m ≤ n → pPut f so base m j = base j
  | 0, _ => rfl
  | m + 1, hm => by
    rw [pPut_s, fSet_n (by have := hf.1 m (by omega); omega)]
    exact pPut_out hf hj (by omega)
theorem pPut_rg {n : Nat} {f so base : Int → Int} (hso : ∀ k : Nat, k < n → 0 ≤ so k ∧ so k ≤ 7) (hb : ∀ j, 0 ≤ base j ∧ base j ≤ 7) : ∀ {m : Nat}, m ≤ n → ∀ j, 0 ≤ pPut f so base m j ∧ pPut f so base m j ≤ 7
  | 0, _, j => hb j
  | m + 1, hm, j => by
    rw [pPut_s]
    unfold fSet
    split
    · exact hso m (by omega)
    · exact pPut_rg hso hb (by omega) j
theorem pPut_rg2 {n : Nat} {f so base : Int → Int} (hso : ∀ k : Nat, k < n → 0 ≤ so k ∧ so k ≤ 7) (hb : ∀ j : Nat, 0 ≤ base j ∧ base j ≤ 7) : ∀ {m : Nat}, m ≤ n → ∀ j : Nat, 0 ≤ pPut f so base m j ∧ pPut f so base m j ≤ 7
  | 0, _, j => hb j
  | m + 1, hm, j => by
    rw [pPut_s]
    unfold fSet
    split
    · exact hso m (by omega)
    · exact pPut_rg2 hso hb (by omega) j
theorem pPut_dis {n : Nat} {f so base : Int → Int} (hf : pPm n f) (hso : pInc n so) : pDis n (pPut f so base n) := by
  intro i j hi hj he
  obtain ⟨a, a1, a2⟩ := hf.2.2 i hi
  obtain ⟨b, b1, b2⟩ := hf.2.2 j hj
  rw [← a2, ← b2, pPut_at hf (Nat.le_refl n) a1, pPut_at hf (Nat.le_refl n) b1] at he
  rcases Nat.lt_trichotomy a b with z | z | z
  · have := hso a b z b1; omega
  · subst z; omega
  · have := hso b a z a1; omega
theorem pPut_cg {n : Nat} {f f' so so' base base' : Int → Int} (hf : pPm n f) (hf' : pPm n f') (h : pEq n f f') (h2 : pEq n so so') : pEq n (pPut f so base n) (pPut f' so' base' n) := by
  intro j hj
  obtain ⟨a, a1, a2⟩ := hf.2.2 j hj
  rw [← a2, pPut_at hf (Nat.le_refl n) a1, h a a1, pPut_at hf' (Nat.le_refl n) a1]
  exact h2 a a1
def stP (P : pP) (f so : Int → Int) : pP := (P.1, pPut f so P.2.1 P.1, P.2.2)
def stB (b y : Int) : Int := if b < y then y else b
def stO (b y : Int) (f o : Int → Int) : Int → Int := if b < y then f else o
/-- the best of the orders from f on, by the worth v; b is the best ahead, o its order -/
def stk (v : (Int → Int) → Int) (n : Nat) : Nat → (Int → Int) → Int → (Int → Int) → Int × (Int → Int)
  | 0, _, b, o => (b, o)
  | k + 1, f, b, o => match nNx n f with
    | none => (stB b (v f), stO b (v f) f o)
    | some g => stk v n k g (stB b (v f)) (stO b (v f) f o)
theorem stk_n {v : (Int → Int) → Int} {n k : Nat} {f o : Int → Int} {b : Int} (h : nNx n f = none) : stk v n (k + 1) f b o = (stB b (v f), stO b (v f) f o) := by
  show (match nNx n f with | none => _ | some g => _) = _; rw [h]
theorem stk_s {v : (Int → Int) → Int} {n k : Nat} {f o g : Int → Int} {b : Int} (h : nNx n f = some g) : stk v n (k + 1) f b o = stk v n k g (stB b (v f)) (stO b (v f) f o) := by
  show (match nNx n f with | none => _ | some g => _) = _; rw [h]
theorem nFin_s {n k : Nat} {f g : Int → Int} (h : nNx n f = some g) (hf : nFin n (k + 1) f = true) : nFin n k g = true := by
  unfold nFin at hf; rw [h] at hf; exact hf
theorem stk_top {v : (Int → Int) → Int} {n : Nat} (hv : ∀ f, pPm n f → v f ≤ 601) : ∀ (k : Nat) (f o : Int → Int) (b : Int), pPm n f → 601 ≤ b → stk v n k f b o = (b, o)
  | 0, f, o, b, _, _ => rfl
  | k + 1, f, o, b, hf, hb => by
    have h1 := hv f hf
    have e1 : stB b (v f) = b := if_neg (by omega)
    have e2 : stO b (v f) f o = o := if_neg (by omega)
    cases hq : nNx n f with
    | none => rw [stk_n hq, e1, e2]
    | some g => rw [stk_s hq, e1, e2]; exact stk_top hv k g o b (nNx_pm hq hf) hb
theorem stk_first {v : (Int → Int) → Int} {n k : Nat} {f o o' : Int → Int} {b b' : Int} (h : b < v f) (h' : b' < v f) : stk v n (k + 1) f b o = stk v n (k + 1) f b' o' := by
  have e1 : stB b (v f) = v f := if_pos h
  have e2 : stO b (v f) f o = f := if_pos h
  have e3 : stB b' (v f) = v f := if_pos h'
  have e4 : stO b' (v f) f o' = f := if_pos h'
  cases hq : nNx n f with
  | none => rw [stk_n hq, stk_n hq, e1, e2, e3, e4]
  | some g => rw [stk_s hq, stk_s hq, e1, e2, e3, e4]
theorem stk_cg {v v' : (Int → Int) → Int} {n : Nat} (h1 : 1 ≤ n) (hv : ∀ f f', pPm n f → pPm n f' → pEq n f f' → v f = v' f') : ∀ (k : Nat) (f f' o o' : Int → Int) (b : Int), pPm n f → pPm n f' → pEq n f f' → pEq n o o' → (stk v n k f b o).1 = (stk v' n k f' b o').1 ∧ pEq n (stk v n k f b o).2 (stk v' n k f' b o').2
  | 0, f, f', o, o', b, _, _, _, ho => ⟨rfl, ho⟩
  | k + 1, f, f', o, o', b, hf, hf', he, ho => by
    have e := hv f f' hf hf' he
    have e2 : pEq n (stO b (v f) f o) (stO b (v' f') f' o') := by
      rw [e]; unfold stO; split
      · exact he
      · exact ho
    rcases nNx_cg h1 he with ⟨a, c⟩ | ⟨g, g', a, c, hg⟩
    · rw [stk_n a, stk_n c]; exact ⟨by simp only; rw [e], e2⟩
    · rw [stk_s a, stk_s c, e] at *
      exact stk_cg h1 hv k g g' _ _ _ (nNx_pm a hf) (nNx_pm c hf') hg e2
/-! ===== own: the class: Sticks.find ===== -/
def fdK : List Nat := [30, 31, 32, 33, 34, 35, 70, 76, 77, 80, 81, 82, 83]
def fdI (M N : vM) (n : Nat) (so f : Int → Int) (b : Int) (o : Int → Int) : Prop := mSame fdK M N ∧ sgZ N 30 ∧ pEq n (N 83) so ∧ N 82 = f ∧ N 80 0 = b ∧ pEq n (N 81) o
def fdE (M M1 : vM) (n : Nat) (r : Int × (Int → Int)) : Prop := mSame fdK M M1 ∧ sgZ M1 30 ∧ M1 80 0 = r.1 ∧ pEq n (M1 81) r.2
theorem fdI.e {M N : vM} {n : Nat} {so f o : Int → Int} {b : Int} (h : fdI M N n so f b o) : fdE M N n (b, o) := ⟨h.1, h.2.1, h.2.2.2.2.1, h.2.2.2.2.2⟩
theorem wTj_bg {N M1 : vM} {n lag : Nat} {rule : Int} (hW : sgW N 30 n) (hlag : N 35 3 = lag) (h : wBeg N M1 n) : wTj M1 rule (wP N n) lag (N 35 0, N 34, none, 0, none) 0 := by
  have hs := wBeg_st hW h
  obtain ⟨b1, b2, b3, b4, b5, b6, b7, b8⟩ := h
  have e35 : M1 35 = N 35 := b1 35 (by decide)
  refine ⟨?_, by rw [e35]; exact hlag, ⟨fun _ => N 34, fun i hi => by rw [show i = 0 by omega, pTr_0], hs⟩, fun i hi => ?_⟩
  · unfold wP; simp only; rw [b1 31 (by decide), b1 32 (by decide), b1 33 (by decide), e35]
  · rw [b8, show (i : Int) = 0 by omega, fSet_s, show i = 0 by omega, pTr_0]; rfl
theorem dX4_find_0 : decode cX4_find 0 = .ok (.aload_n 1, 1) := by decide +kernel
theorem dX4_find_1 : decode cX4_find 1 = .ok (.getfield 21, 3) := by decide +kernel
theorem dX4_find_4 : decode cX4_find 4 = .ok (.istore 4, 2) := by decide +kernel
theorem dX4_find_6 : decode cX4_find 6 = .ok (.aload_n 0, 1) := by decide +kernel
theorem dX4_find_7 : decode cX4_find 7 = .ok (.aload_n 1, 1) := by decide +kernel
theorem dX4_find_8 : decode cX4_find 8 = .ok (.invokevirtual 27, 3) := by decide +kernel
theorem dX4_find_11 : decode cX4_find 11 = .ok (.aload_n 0, 1) := by decide +kernel
theorem dX4_find_12 : decode cX4_find 12 = .ok (.getfield 15, 3) := by decide +kernel
theorem dX4_find_15 : decode cX4_find 15 = .ok (.invokestatic 31, 3) := by decide +kernel
theorem dX4_find_18 : decode cX4_find 18 = .ok (.aload_n 0, 1) := by decide +kernel
theorem dX4_find_19 : decode cX4_find 19 = .ok (.iconst (-1), 1) := by decide +kernel
theorem dX4_find_20 : decode cX4_find 20 = .ok (.putfield 35, 3) := by decide +kernel
theorem dX4_find_23 : decode cX4_find 23 = .ok (.iconst 1, 1) := by decide +kernel
theorem dX4_find_24 : decode cX4_find 24 = .ok (.istore 5, 2) := by decide +kernel
theorem dX4_find_26 : decode cX4_find 26 = .ok (.iconst 0, 1) := by decide +kernel
theorem dX4_find_27 : decode cX4_find 27 = .ok (.istore 6, 2) := by decide +kernel
theorem dX4_find_29 : decode cX4_find 29 = .ok (.iload 6, 2) := by decide +kernel
theorem dX4_find_31 : decode cX4_find 31 = .ok (.sipush 720, 3) := by decide +kernel
theorem dX4_find_34 : decode cX4_find 34 = .ok (.if_icmp .ge 122, 3) := by decide +kernel
theorem dX4_find_37 : decode cX4_find 37 = .ok (.iload 5, 2) := by decide +kernel
theorem dX4_find_39 : decode cX4_find 39 = .ok (.ifCond .eq 117, 3) := by decide +kernel
theorem dX4_find_42 : decode cX4_find 42 = .ok (.aload_n 0, 1) := by decide +kernel
theorem dX4_find_43 : decode cX4_find 43 = .ok (.getfield 35, 3) := by decide +kernel
theorem dX4_find_46 : decode cX4_find 46 = .ok (.sipush 600, 3) := by decide +kernel
theorem dX4_find_49 : decode cX4_find 49 = .ok (.if_icmp .gt 107, 3) := by decide +kernel
theorem dX4_find_52 : decode cX4_find 52 = .ok (.aload_n 2, 1) := by decide +kernel
theorem dX4_find_53 : decode cX4_find 53 = .ok (.getfield 38, 3) := by decide +kernel
theorem dX4_find_56 : decode cX4_find 56 = .ok (.aload_n 1, 1) := by decide +kernel
theorem dX4_find_57 : decode cX4_find 57 = .ok (.invokevirtual 44, 3) := by decide +kernel
theorem dX4_find_60 : decode cX4_find 60 = .ok (.iconst 0, 1) := by decide +kernel
theorem dX4_find_61 : decode cX4_find 61 = .ok (.istore 7, 2) := by decide +kernel
theorem dX4_find_63 : decode cX4_find 63 = .ok (.iload 7, 2) := by decide +kernel
theorem dX4_find_65 : decode cX4_find 65 = .ok (.iload 4, 2) := by decide +kernel
theorem dX4_find_67 : decode cX4_find 67 = .ok (.if_icmp .ge 31, 3) := by decide +kernel
theorem dX4_find_70 : decode cX4_find 70 = .ok (.aload_n 2, 1) := by decide +kernel
theorem dX4_find_71 : decode cX4_find 71 = .ok (.getfield 38, 3) := by decide +kernel
theorem dX4_find_74 : decode cX4_find 74 = .ok (.getfield 47, 3) := by decide +kernel
theorem dX4_find_77 : decode cX4_find 77 = .ok (.aload_n 0, 1) := by decide +kernel
theorem dX4_find_78 : decode cX4_find 78 = .ok (.getfield 15, 3) := by decide +kernel
theorem dX4_find_81 : decode cX4_find 81 = .ok (.iload 7, 2) := by decide +kernel
theorem dX4_find_83 : decode cX4_find 83 = .ok (.iaload, 1) := by decide +kernel
theorem dX4_find_84 : decode cX4_find 84 = .ok (.aload_n 0, 1) := by decide +kernel
theorem dX4_find_85 : decode cX4_find 85 = .ok (.getfield 18, 3) := by decide +kernel
theorem dX4_find_88 : decode cX4_find 88 = .ok (.iload 7, 2) := by decide +kernel
theorem dX4_find_90 : decode cX4_find 90 = .ok (.iaload, 1) := by decide +kernel
theorem dX4_find_91 : decode cX4_find 91 = .ok (.iastore, 1) := by decide +kernel
theorem dX4_find_92 : decode cX4_find 92 = .ok (.iinc 7 1, 3) := by decide +kernel
theorem dX4_find_95 : decode cX4_find 95 = .ok (.goto (-32), 3) := by decide +kernel
theorem dX4_find_98 : decode cX4_find 98 = .ok (.aload_n 2, 1) := by decide +kernel
theorem dX4_find_99 : decode cX4_find 99 = .ok (.invokevirtual 50, 3) := by decide +kernel
theorem dX4_find_102 : decode cX4_find 102 = .ok (.aload_n 2, 1) := by decide +kernel
theorem dX4_find_103 : decode cX4_find 103 = .ok (.iload_n 3, 1) := by decide +kernel
theorem dX4_find_104 : decode cX4_find 104 = .ok (.invokevirtual 53, 3) := by decide +kernel
theorem dX4_find_107 : decode cX4_find 107 = .ok (.istore 7, 2) := by decide +kernel
theorem dX4_find_109 : decode cX4_find 109 = .ok (.iload 7, 2) := by decide +kernel
theorem dX4_find_111 : decode cX4_find 111 = .ok (.aload_n 0, 1) := by decide +kernel
theorem dX4_find_112 : decode cX4_find 112 = .ok (.getfield 35, 3) := by decide +kernel
theorem dX4_find_115 : decode cX4_find 115 = .ok (.if_icmp .le 24, 3) := by decide +kernel
theorem dX4_find_118 : decode cX4_find 118 = .ok (.aload_n 0, 1) := by decide +kernel
theorem dX4_find_119 : decode cX4_find 119 = .ok (.iload 7, 2) := by decide +kernel
theorem dX4_find_121 : decode cX4_find 121 = .ok (.putfield 35, 3) := by decide +kernel
theorem dX4_find_124 : decode cX4_find 124 = .ok (.aload_n 0, 1) := by decide +kernel
theorem dX4_find_125 : decode cX4_find 125 = .ok (.getfield 15, 3) := by decide +kernel
theorem dX4_find_128 : decode cX4_find 128 = .ok (.iconst 0, 1) := by decide +kernel
theorem dX4_find_129 : decode cX4_find 129 = .ok (.aload_n 0, 1) := by decide +kernel
theorem dX4_find_130 : decode cX4_find 130 = .ok (.getfield 9, 3) := by decide +kernel
theorem dX4_find_133 : decode cX4_find 133 = .ok (.iconst 0, 1) := by decide +kernel
theorem dX4_find_134 : decode cX4_find 134 = .ok (.bipush 6, 2) := by decide +kernel
theorem dX4_find_136 : decode cX4_find 136 = .ok (.invokestatic 57, 3) := by decide +kernel
theorem dX4_find_139 : decode cX4_find 139 = .ok (.aload_n 0, 1) := by decide +kernel
theorem dX4_find_140 : decode cX4_find 140 = .ok (.getfield 15, 3) := by decide +kernel
theorem dX4_find_143 : decode cX4_find 143 = .ok (.iload 4, 2) := by decide +kernel
theorem dX4_find_145 : decode cX4_find 145 = .ok (.invokestatic 63, 3) := by decide +kernel
theorem dX4_find_148 : decode cX4_find 148 = .ok (.istore 5, 2) := by decide +kernel
theorem dX4_find_150 : decode cX4_find 150 = .ok (.iinc 6 1, 3) := by decide +kernel
theorem dX4_find_153 : decode cX4_find 153 = .ok (.goto (-124), 3) := by decide +kernel
theorem dX4_find_156 : decode cX4_find 156 = .ok (.return_, 1) := by decide +kernel
theorem l_X4_fd139 {d : List Nat} {T : vT} {M N : vM} {n k : Nat} {so f o : Int → Int} {b rule i : Int} {v : (Int → Int) → Int} {x7 : Option vA} (hB : vB T) (h1 : 1 ≤ n) (hn : n ≤ 6) (hI : fdI M N n so f b o) (hf : pPm n f) (hfin : nFin n (k + 1) f = true) (hb0 : -1 ≤ b) (hb1 : b ≤ 601) (hi : i = 720 - ((k : Int) + 1)) (hk : k < 720)
    (ih : ∀ (f : Int → Int) (b : Int) (o : Int → Int) (N : vM) (x7 : Option vA), fdI M N n so f b o → pPm n f → nFin n k f = true → -1 ≤ b → b ≤ 601 → vV m_X4_find d d (vPv fun T1 M1 => T = T1 ∧ fdE M M1 n (stk v n k f b o)) 29 [some (vR 80), some (vR 10), some (vR 70), some (vI rule), some (vI n), some (vI 1), some (vI (720 - (k : Int))), x7] [] d T N) :
    vV m_X4_find d d (vPv fun T1 M1 => T = T1 ∧ fdE M M1 n (match nNx n f with | none => (b, o) | some g => stk v n k g b o)) 139 [some (vR 80), some (vR 10), some (vR 70), some (vI rule), some (vI n), some (vI 1), some (vI i), x7] [] d T N := by
  have e82 := hI.2.2.2.1
  cases hq : nNx n f with
  | none =>
    simp only
    refine vV.aload_n dX4_find_139 rfl ?_
    refine vV.getr dX4_find_140 fl_X4_15 (by first | rfl | assumption) rfl (by first | assumption | exact hB _ _ _ rfl) ?_
    refine vV.iload dX4_find_143 rfl ?_
    refine vV.cNi dX4_find_145 ml_X4_63 cw_X6_nextOrder sw_X6_nextOrder (by unfold vRoom; decide) (c_X6_nextOrder (a := 82) rfl h1 hn) rfl rfl (Nat.le_of_ble_eq_true rfl) ?_
    rintro x145 _ N1 hx145 ⟨rfl, hq145⟩
    rw [e82, hq] at hq145
    obtain ⟨rfl, rfl⟩ := hq145
    refine vV.istore (L' := [_, _, _, _, _, _, _, _]) dX4_find_148 (by decide) rfl ?_
    refine vV.iinc (L' := [_, _, _, _, _, _, _, _]) dX4_find_150 (by decide) rfl (⟨by omega, by omega⟩) rfl ?_
    refine vV.goto (tgt := 29) dX4_find_153 (by decide) ?_
    refine vV.iload dX4_find_29 rfl ?_
    refine vV.sipush (v := 720) dX4_find_31 (by decide) (by decide) ?_
    refine vV.icmp_ge (tgt := 156) dX4_find_34 (by decide) (fun h34 => ?_) (fun h34 => ?_)
    · skip
      refine vV.rv dX4_find_156 rfl ?_
      exact ⟨rfl, hI.e⟩
    · skip
      refine vV.iload dX4_find_37 rfl ?_
      refine vV.if_eq (tgt := 156) dX4_find_39 (by decide) (fun h39 => ?_) (fun h39 => ?_)
      · skip
        refine vV.rv dX4_find_156 rfl ?_
        exact ⟨rfl, hI.e⟩
      · skip
        omega
  | some g =>
    simp only
    refine vV.aload_n dX4_find_139 rfl ?_
    refine vV.getr dX4_find_140 fl_X4_15 (by first | rfl | assumption) rfl (by first | assumption | exact hB _ _ _ rfl) ?_
    refine vV.iload dX4_find_143 rfl ?_
    refine vV.cNi dX4_find_145 ml_X4_63 cw_X6_nextOrder sw_X6_nextOrder (by unfold vRoom; decide) (c_X6_nextOrder (a := 82) rfl h1 hn) rfl rfl (Nat.le_of_ble_eq_true rfl) ?_
    rintro x145 _ N1 hx145 ⟨rfl, hq145⟩
    rw [e82, hq] at hq145
    obtain ⟨rfl, rfl⟩ := hq145
    refine vV.istore (L' := [_, _, _, _, _, _, _, _]) dX4_find_148 (by decide) rfl ?_
    refine vV.iinc (L' := [_, _, _, _, _, _, _, _]) dX4_find_150 (by decide) rfl (⟨by omega, by omega⟩) rfl ?_
    rw [show i + 1 = 720 - (k : Int) by omega]
    refine vV.goto (tgt := 29) dX4_find_153 (by decide) ?_
    exact ih g b o _ _ ⟨fun y hy => by rw [vRow_n (by intro z; subst z; exact hy (by decide))]; exact hI.1 y hy, hI.2.1, hI.2.2.1, vRow_s _ _ _, hI.2.2.2.2.1, hI.2.2.2.2.2⟩ (nNx_pm hq hf) (nFin_s hq hfin) hb0 hb1
theorem pW_pl {n : Nat} {pl pl' fu fa tu se : Int → Int} (h : pW n pl fu fa tu se) (h1 : ∀ j, (j < 0 ∨ 6 ≤ j) → pl' j = 0) (h2 : ∀ j, 0 ≤ pl' j ∧ pl' j ≤ 7) (h3 : pDis n pl') : pW n pl' fu fa tu se := by
  obtain ⟨p1, p2, p3, p4, p5, p6, p7, p8, p9, p10, p11, p12, p13, p14⟩ := h
  exact ⟨p1, fun j hj => ⟨h1 j hj, (p2 j hj).2⟩, p3, h2, p5, p6, p7, p8, p9, p10, p11, p12, p13, h3⟩
theorem pPm_cg {n : Nat} {f g : Int → Int} (h : pPm n g) (he : pEq n f g) : pPm n f := by
  obtain ⟨a, b, c⟩ := h
  refine ⟨fun j hj => by rw [he j hj]; exact a j hj, fun i j hi hj e => b i j hi hj (by rw [← he i hi, ← he j hj]; exact e), fun j hj => ?_⟩
  obtain ⟨i, i1, i2⟩ := c j hj
  exact ⟨i, i1, by rw [he i i1]; exact i2⟩
theorem stk_e (v : (Int → Int) → Int) (n k : Nat) (f o : Int → Int) (b : Int) : stk v n (k + 1) f b o = match nNx n f with
    | none => (stB b (v f), stO b (v f) f o)
    | some g => stk v n k g (stB b (v f)) (stO b (v f) f o) := rfl
/-- what Sticks.find is about: the plates, the rule, the places from the left, the worth of an order -/
def fdH (M : vM) (n lag : Nat) (rule : Int) (so : Int → Int) (v : (Int → Int) → Int) : Prop := sgW M 10 n ∧ M 15 3 = lag ∧ (0 ≤ rule ∧ rule ≤ 3) ∧ pInc n so ∧ (∀ k : Nat, k < n → 0 ≤ so k ∧ so k ≤ 7) ∧ ∀ f, pPm n f → v f = pOr 601 (pLasts rule (stP (cP M n) f so) lag (cS0 M)) ∧ 1 ≤ v f ∧ v f ≤ 601
def fdW (N : vM) (f so pl : Int → Int) (k : Nat) : vM := vRow (sgCp N 30 10) 31 (pPut f so pl k)
theorem fdW_k {N : vM} {f so pl : Int → Int} {k y : Nat} (hy : y ∉ [30, 31, 32, 33, 34, 35]) : fdW N f so pl k y = N y := by
  simp at hy
  unfold fdW sgCp
  rw [vRow_n hy.2.1, vRow_n hy.2.2.2.2.2, vRow_n hy.2.2.2.2.1, vRow_n hy.2.2.2.1, vRow_n hy.2.2.1, vRow_n hy.2.1, vRow_n hy.1]
theorem l_X4_fd98 {d : List Nat} {T : vT} {M N : vM} {n k lag : Nat} {so f o : Int → Int} {b rule i : Int} {v : (Int → Int) → Int} {x7 : Option vA} (hB : vB T) (h1 : 1 ≤ n) (hH : fdH M n lag rule so v) (hI : fdI M N n so f b o) (hf : pPm n f) (hfin : nFin n (k + 1) f = true) (hb0 : -1 ≤ b) (hb1 : b ≤ 601) (hi : i = 720 - ((k : Int) + 1)) (hk : k < 720)
    (ih : ∀ (f : Int → Int) (b : Int) (o : Int → Int) (N : vM) (x7 : Option vA), fdI M N n so f b o → pPm n f → nFin n k f = true → -1 ≤ b → b ≤ 601 → vV m_X4_find d d (vPv fun T1 M1 => T = T1 ∧ fdE M M1 n (stk v n k f b o)) 29 [some (vR 80), some (vR 10), some (vR 70), some (vI rule), some (vI n), some (vI 1), some (vI (720 - (k : Int))), x7] [] d T N) :
    vV m_X4_find d d (vPv fun T1 M1 => T = T1 ∧ fdE M M1 n (stk v n (k + 1) f b o)) 98 [some (vR 80), some (vR 10), some (vR 70), some (vI rule), some (vI n), some (vI 1), some (vI i), x7] [] d T (fdW N f so (M 11) n) := by
  obtain ⟨hW, hlag, ⟨hr0, hr3⟩, hinc, hso, hv⟩ := hH
  obtain ⟨hv1, hv2, hv3⟩ := hv f hf
  obtain ⟨W, hWd⟩ : ∃ W, W = fdW N f so (M 11) n := ⟨_, rfl⟩
  have hn := hW.le
  have n10 : N 10 = M 10 := hI.1 10 (by decide)
  have w31 : W 31 = pPut f so (M 11) n := by rw [hWd]; exact vRow_s _ _ _
  have w32 : W 32 = M 12 := by rw [hWd, ← hI.1 12 (by decide)]; rfl
  have w33 : W 33 = M 13 := by rw [hWd, ← hI.1 13 (by decide)]; rfl
  have w34 : W 34 = M 14 := by rw [hWd, ← hI.1 14 (by decide)]; rfl
  have w35 : W 35 = M 15 := by rw [hWd, ← hI.1 15 (by decide)]; rfl
  have w30 : W 30 0 = n := by rw [hWd, ← hW.1, ← n10]; rfl
  have hWW : sgW W 30 n := ⟨w30, by
    rw [show (30 : Nat) + 1 = 31 from rfl, show (30 : Nat) + 2 = 32 from rfl, show (30 : Nat) + 3 = 33 from rfl, show (30 : Nat) + 4 = 34 from rfl, show (30 : Nat) + 5 = 35 from rfl, w31, w32, w33, w34, w35]
    exact pW_pl hW.2 (fun j hj => by rw [pPut_out hf (by omega) (Nat.le_refl n)]; exact (hW.2.2.1 j hj).1) (pPut_rg hso hW.2.2.2.2.1 (Nat.le_refl n)) (pPut_dis hf hinc)⟩
  have wk : mSame fdK M W := fun y hy => by
    rw [hWd, fdW_k (by unfold fdK at hy; simp at hy ⊢; omega)]; exact hI.1 y hy
  have wP' : wP W n = stP (cP M n) f so := by unfold wP stP cP; rw [w31, w32, w33, w35]
  have wS' : ((W 35 0, W 34, none, 0, none) : pS) = cS0 M := by unfold cS0; rw [w34, w35]
  have w80 : W 80 = N 80 := by rw [hWd]; exact fdW_k (by decide)
  have w81 : W 81 = N 81 := by rw [hWd]; exact fdW_k (by decide)
  have w82 : W 82 = N 82 := by rw [hWd]; exact fdW_k (by decide)
  have w83 : W 83 = N 83 := by rw [hWd]; exact fdW_k (by decide)
  rw [← hWd]
  clear hWd
  refine vV.aload_n dX4_find_98 rfl ?_
  refine vV.cVv dX4_find_99 ml_X4_50 cw_X5_beginHere iw_X5_beginHere (by first | rfl | assumption) rfl (by unfold vRoom; decide) (c_X5_beginHere hB hWW) rfl rfl (Nat.le_of_ble_eq_true rfl) ?_
  rintro _ W1 ⟨rfl, hbg⟩
  have hj := wTj_bg (rule := rule) hWW (by rw [w35]; exact hlag) hbg
  rw [wP', wS'] at hj
  refine vV.aload_n dX4_find_102 rfl ?_
  refine vV.iload_n dX4_find_103 rfl ?_
  refine vV.cVi dX4_find_104 ml_X4_53 cw_X5_ticksToFirstFall iw_X5_ticksToFirstFall (by first | rfl | assumption) rfl (by unfold vRoom; decide) (c_X5_ticksToFirstFall hB hr0 hr3 hj) rfl rfl (Nat.le_of_ble_eq_true rfl) ?_
  rintro x104 _ W2 hx104 ⟨rfl, hkp, hxv⟩
  rw [← hv1] at hxv
  subst hxv
  obtain ⟨-, -, ⟨hist, -, hst⟩, -⟩ := hj
  have c : ∀ y, y ∉ [34, 35, 70, 76, 77] → W2 y = W y := fun y hy => (hkp.1 y hy).trans (hbg.1 y (by simp at hy ⊢; omega))
  have hI2 : fdI M W2 n so f b o := ⟨fun y hy => (c y (by unfold fdK at hy; simp at hy ⊢; omega)).trans (wk y hy), hkp.2.2 hst.1.1.z, by rw [c 83 (by decide), w83]; exact hI.2.2.1, by rw [c 82 (by decide), w82]; exact hI.2.2.2.1, by rw [c 80 (by decide), w80]; exact hI.2.2.2.2.1, by rw [c 81 (by decide), w81]; exact hI.2.2.2.2.2⟩
  clear hst hv1
  refine vV.istore (L' := [_, _, _, _, _, _, _, _]) dX4_find_107 (by decide) rfl ?_
  refine vV.iload dX4_find_109 rfl ?_
  refine vV.aload_n dX4_find_111 rfl ?_
  refine vV.geti (z := 0) dX4_find_112 fl_X4_35 (by first | rfl | assumption) rfl rfl ?_
  rw [hI2.2.2.2.2.1]
  refine vV.icmp_le (tgt := 139) dX4_find_115 (by decide) (fun h115 => ?_) (fun h115 => ?_)
  · skip
    have e1 : stB b (v f) = b := if_neg (by omega)
    have e2 : stO b (v f) f o = o := if_neg (by omega)
    rw [stk_e, e1, e2]
    exact l_X4_fd139 hB h1 hn hI2 hf hfin hb0 hb1 hi hk ih
  · skip
    refine vV.aload_n dX4_find_118 rfl ?_
    refine vV.iload dX4_find_119 rfl ?_
    refine vV.puti (z := 0) dX4_find_121 fl_X4_35 (by first | rfl | assumption) rfl rfl ?_
    refine vV.aload_n dX4_find_124 rfl ?_
    refine vV.getr dX4_find_125 fl_X4_15 (by first | rfl | assumption) rfl (by first | assumption | exact hB _ _ _ rfl) ?_
    refine vV.iconst dX4_find_128 (by decide) ?_
    refine vV.aload_n dX4_find_129 rfl ?_
    refine vV.getr dX4_find_130 fl_X4_9 (by first | rfl | assumption) rfl (by first | assumption | exact hB _ _ _ rfl) ?_
    refine vV.iconst dX4_find_133 (by decide) ?_
    refine vV.bipush (v := 6) dX4_find_134 (by decide) (by decide) ?_
    refine vV.copy dX4_find_136 ml_X4_57 mm_ac (by first | rfl | assumption) (by first | rfl | assumption) (by omega) (by omega) (by omega) (by omega) (by omega) (by decide) (Nat.le_of_ble_eq_true rfl) ?_
    have e1 : stB b (v f) = v f := if_pos (by omega)
    have e2 : stO b (v f) f o = f := if_pos (by omega)
    rw [stk_e, e1, e2]
    refine l_X4_fd139 (b := v f) hB h1 hn ⟨fun y hy => ?_, ?_, ?_, ?_, ?_, ?_⟩ hf hfin (by omega) (by omega) hi hk ih
    · rw [vCpy_r, vRow_n (by intro z; subst z; exact hy (by decide)), vUpd_row (by intro z; subst z; exact hy (by decide))]; exact hI2.1 y hy
    · have z := hI2.2.1
      unfold sgZ at z ⊢
      rw [vCpy_r, vRow_n (by decide), vRow_n (by decide), vRow_n (by decide), vRow_n (by decide), vRow_n (by decide), vUpd_row (by decide), vUpd_row (by decide), vUpd_row (by decide), vUpd_row (by decide), vUpd_row (by decide)]
      exact z
    · rw [vCpy_r, vRow_n (by decide), vUpd_row (by decide)]; exact hI2.2.2.1
    · rw [vCpy_r, vRow_n (by decide), vUpd_row (by decide)]; exact hI2.2.2.2.1
    · rw [vCpy_r, vRow_n (by decide), vUpd_s]
    · intro j hj
      rw [vCpy_r, vRow_s]
      rw [if_pos (by omega), vUpd_row (by decide), hI2.2.2.2.1]
theorem l_X4_fd63 {d : List Nat} {T : vT} {M N : vM} {n : Nat} {so f o : Int → Int} {b rule i : Int} {Q : Option vA → vT → vM → Prop} (hB : vB T) (hn : n ≤ 6) (hI : fdI M N n so f b o) (hf : pPm n f)
    (h98 : ∀ x7, vV m_X4_find d d Q 98 [some (vR 80), some (vR 10), some (vR 70), some (vI rule), some (vI n), some (vI 1), some (vI i), x7] [] d T (fdW N f so (M 11) n)) : ∀ k, k ≤ n →
    vV m_X4_find d d Q 63 [some (vR 80), some (vR 10), some (vR 70), some (vI rule), some (vI n), some (vI 1), some (vI i), some (vI k)] [] d T (fdW N f so (M 11) k) := by
  refine vUp ?_
  intro k hk ih
  have e82 : fdW N f so (M 11) k 82 = f := by rw [fdW_k (by decide)]; exact hI.2.2.2.1
  have e83 : fdW N f so (M 11) k 83 = N 83 := fdW_k (by decide)
  refine vV.iload dX4_find_63 rfl ?_
  refine vV.iload dX4_find_65 rfl ?_
  refine vV.icmp_ge (tgt := 98) dX4_find_67 (by decide) (fun h67 => ?_) (fun h67 => ?_)
  · skip
    rw [show k = n by omega]; exact h98 _
  · skip
    have hfk := hf.1 k (by omega)
    have hsk := hI.2.2.1 k (by omega)
    refine vV.aload_n dX4_find_70 rfl ?_
    refine vV.getr dX4_find_71 fl_X4_38 (by first | rfl | assumption) rfl (by first | assumption | exact hB _ _ _ rfl) ?_
    refine vV.getr dX4_find_74 fl_X4_47 (by first | rfl | assumption) rfl (by first | assumption | exact hB _ _ _ rfl) ?_
    refine vV.aload_n dX4_find_77 rfl ?_
    refine vV.getr dX4_find_78 fl_X4_15 (by first | rfl | assumption) rfl (by first | assumption | exact hB _ _ _ rfl) ?_
    refine vV.iload dX4_find_81 rfl ?_
    refine vV.iald dX4_find_83 (by first | rfl | assumption) (by omega) (by omega) ?_
    rw [e82]
    refine vV.aload_n dX4_find_84 rfl ?_
    refine vV.getr dX4_find_85 fl_X4_18 (by first | rfl | assumption) rfl (by first | assumption | exact hB _ _ _ rfl) ?_
    refine vV.iload dX4_find_88 rfl ?_
    refine vV.iald dX4_find_90 (by first | rfl | assumption) (by omega) (by omega) ?_
    rw [e83, hsk]
    refine vV.iast dX4_find_91 (by first | rfl | assumption) (by omega) (by omega) ?_
    have e92 : vUpd (fdW N f so (M 11) k) 31 (f k) (so k) = fdW N f so (M 11) (k + 1) := by unfold fdW; rw [vUpd_vRow, pPut_s]
    rw [e92]
    refine vV.iinc (L' := [_, _, _, _, _, _, _, _]) dX4_find_92 (by decide) rfl (⟨by omega, by omega⟩) rfl ?_
    refine vV.goto (tgt := 63) dX4_find_95 (by decide) ?_
    exact ih (by omega)
theorem l_X4_fd29 {d : List Nat} {T : vT} {M : vM} {n lag : Nat} {so : Int → Int} {rule : Int} {v : (Int → Int) → Int} (hB : vB T) (h1 : 1 ≤ n) (hH : fdH M n lag rule so v) : ∀ k, k ≤ 720 →
    ∀ (f : Int → Int) (b : Int) (o : Int → Int) (N : vM) (x7 : Option vA), fdI M N n so f b o → pPm n f → nFin n k f = true → -1 ≤ b → b ≤ 601 → vV m_X4_find d d (vPv fun T1 M1 => T = T1 ∧ fdE M M1 n (stk v n k f b o)) 29 [some (vR 80), some (vR 10), some (vR 70), some (vI rule), some (vI n), some (vI 1), some (vI (720 - (k : Int))), x7] [] d T N := by
  intro k
  induction k with
  | zero => intro _ f b o N x7 hI hf hfin; cases hfin
  | succ k ih =>
    intro hk f b o N x7 hI hf hfin hb0 hb1
    have hn := hH.1.le
    have e80 := hI.2.2.2.2.1
    obtain ⟨i, hi⟩ : ∃ i : Int, i = 720 - ((k + 1 : Nat) : Int) := ⟨_, rfl⟩
    have hW10 : sgW N 10 n := sgW_rows (hI.1 10 (by decide)) (hI.1 11 (by decide)) (hI.1 12 (by decide)) (hI.1 13 (by decide)) (hI.1 14 (by decide)) (hI.1 15 (by decide)) hH.1
    have n11 : N 11 = M 11 := hI.1 11 (by decide)
    rw [← hi]
    refine vV.iload dX4_find_29 rfl ?_
    refine vV.sipush (v := 720) dX4_find_31 (by decide) (by decide) ?_
    refine vV.icmp_ge (tgt := 156) dX4_find_34 (by decide) (fun h34 => ?_) (fun h34 => ?_)
    · skip
      omega
    · skip
      refine vV.iload dX4_find_37 rfl ?_
      refine vV.if_eq (tgt := 156) dX4_find_39 (by decide) (fun h39 => ?_) (fun h39 => ?_)
      · skip
        omega
      · skip
        refine vV.aload_n dX4_find_42 rfl ?_
        refine vV.geti (z := 0) dX4_find_43 fl_X4_35 (by first | rfl | assumption) rfl rfl ?_
        refine vV.sipush (v := 600) dX4_find_46 (by decide) (by decide) ?_
        rw [e80]
        refine vV.icmp_gt (tgt := 156) dX4_find_49 (by decide) (fun h49 => ?_) (fun h49 => ?_)
        · skip
          rw [stk_top (fun g hg => (hH.2.2.2.2.2 g hg).2.2) (k + 1) f o b hf (by omega)]
          refine vV.rv dX4_find_156 rfl ?_
          exact ⟨rfl, hI.e⟩
        · skip
          refine vV.aload_n dX4_find_52 rfl ?_
          refine vV.getr dX4_find_53 fl_X4_38 (by first | rfl | assumption) rfl (by first | assumption | exact hB _ _ _ rfl) ?_
          refine vV.aload_n dX4_find_56 rfl ?_
          refine vV.cVv dX4_find_57 ml_X4_44 cw_X3_copyFrom iw_X3_copyFrom (by first | rfl | assumption) rfl (by unfold vRoom; decide) (c_X3_copyFrom sgK_30 (sgT_30 hB) sgK_10 (sgT_10 hB) (by omega) hI.2.1 hW10.z) rfl rfl (Nat.le_of_ble_eq_true rfl) ?_
          rintro _ _ ⟨rfl, rfl⟩
          refine vV.iconst dX4_find_60 (by decide) ?_
          rw [show sgCp N 30 10 = fdW N f so (M 11) 0 from by unfold fdW pPut; rw [← n11]; exact (vRow_id _ _).symm]
          refine vV.istore (L' := [_, _, _, _, _, _, _, _]) dX4_find_61 (by decide) rfl ?_
          exact l_X4_fd63 hB hn hI hf (fun x7 => l_X4_fd98 hB h1 hH hI hf hfin hb0 hb1 (by omega) (by omega) (ih (by omega))) 0 (by omega)
theorem c_X4_find {d : List Nat} {T : vT} {M : vM} {n lag : Nat} {rule : Int} {v : (Int → Int) → Int} (hB : vB T) (h1 : 1 ≤ n) (hZ : sgZ M 30) (hH : fdH M n lag rule (pSo (M 11) (fun _ => 0) n) v) : vCon m_X4_find d d [vR 80, vR 10, vR 70, vI rule] T M (vPv fun T1 M1 => T = T1 ∧ fdE M M1 n (stk v n 720 (pMix 6 (fun j => j) (M 82)) (-1) (M 81))) := by
  refine vCon.of (by decide) rfl rfl (Nat.le_of_ble_eq_true rfl) ?_
  have hW := hH.1
  have hn := hW.le
  have hid : pEq n (pMix 6 (fun j => j) (M 82)) (fun j => j) := fun j hj => pMix_lt (by omega)
  refine vV.aload_n dX4_find_0 rfl ?_
  refine vV.geti (z := 0) dX4_find_1 fl_X4_21 (by first | rfl | assumption) rfl rfl ?_
  rw [hW.1]
  refine vV.istore (L' := [_, _, _, _, _, _, _, _]) dX4_find_4 (by decide) rfl ?_
  refine vV.aload_n dX4_find_6 rfl ?_
  refine vV.aload_n dX4_find_7 rfl ?_
  refine vV.cVv dX4_find_8 ml_X4_27 cw_X4_sortPlaces iw_X4_sortPlaces (by first | rfl | assumption) rfl (by unfold vRoom; decide) (c_X4_sortPlaces hB hW) rfl rfl (Nat.le_of_ble_eq_true rfl) ?_
  rintro _ _ ⟨rfl, rfl⟩
  refine vV.aload_n dX4_find_11 rfl ?_
  refine vV.getr dX4_find_12 fl_X4_15 (by first | rfl | assumption) rfl (by first | assumption | exact hB _ _ _ rfl) ?_
  refine vV.cNv dX4_find_15 ml_X4_31 cw_X6_firstOrder sw_X6_firstOrder (by unfold vRoom; decide) (c_X6_firstOrder (a := 82) rfl) rfl rfl (Nat.le_of_ble_eq_true rfl) ?_
  rintro _ _ ⟨rfl, rfl⟩
  refine vV.aload_n dX4_find_18 rfl ?_
  refine vV.iconst dX4_find_19 (by decide) ?_
  refine vV.puti (z := 0) dX4_find_20 fl_X4_35 (by first | rfl | assumption) rfl rfl ?_
  refine vV.iconst dX4_find_23 (by decide) ?_
  refine vV.istore (L' := [_, _, _, _, _, _, _, _]) dX4_find_24 (by decide) rfl ?_
  refine vV.iconst dX4_find_26 (by decide) ?_
  refine vV.istore (L' := [_, _, _, _, _, _, _, _]) dX4_find_27 (by decide) rfl ?_
  refine l_X4_fd29 hB h1 hH 720 (by omega) _ (-1) _ _ _ ⟨fun y hy => ?_, ?_, ?_, ?_, ?_, ?_⟩ (pPm_cg (pPm_id n) hid) (nFin_720 h1 hn hid) (by omega) (by omega)
  · rw [vUpd_row (by intro z; subst z; exact hy (by decide)), vRow_n (by intro z; subst z; exact hy (by decide)), vRow_n (by intro z; subst z; exact hy (by decide))]
  · exact hZ
  · intro j hj
    rw [vUpd_row (by decide), vRow_n (by decide), vRow_s, pMix_lt hj]
  · rw [vUpd_row (by decide), vRow_s, vRow_n (by decide)]
  · rw [vUpd_s]
  · intro j hj; rfl
