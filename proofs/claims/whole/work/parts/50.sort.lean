/-! ===== own: the places from the left: words; sortPlaces of both ===== -/
/-- v put into the row f, whose place k is free -/
def pIns (v : Int) : Nat → (Int → Int) → Int → Int
  | 0, f => fSet f 0 v
  | k + 1, f => if v < f k then pIns v k (fSet f (k + 1) (f k)) else fSet f (k + 1) v
def pSo (pl g : Int → Int) : Nat → Int → Int
  | 0 => g
  | p + 1 => pIns (pl p) p (pSo pl g p)
theorem pSo_s (pl g : Int → Int) (p : Nat) : pSo pl g (p + 1) = pIns (pl p) p (pSo pl g p) := rfl
theorem pIns_t {v : Int} {k : Nat} {f : Int → Int} (h : v < f k) : pIns v (k + 1) f = pIns v k (fSet f (k + 1) (f k)) := if_pos h
theorem pIns_f {v : Int} {k : Nat} {f : Int → Int} (h : ¬ v < f k) : pIns v (k + 1) f = fSet f (k + 1) v := if_neg h
def pInc (p : Nat) (f : Int → Int) : Prop := ∀ i j : Nat, i < j → j < p → f i < f j
def pIs (p : Nat) (f : Int → Int) (y : Int) : Prop := ∃ i : Nat, i < p ∧ f i = y
theorem fSet_c {f : Int → Int} {k : Nat} {y : Int} {i : Nat} : fSet f k y i = if i = k then y else f i := by
  unfold fSet
  by_cases h : i = k
  · rw [if_pos (by omega), if_pos h]
  · rw [if_neg (by omega), if_neg h]
theorem fSet_c1 {f : Int → Int} {k : Nat} {y : Int} {i : Nat} : fSet f (k + 1) y i = if i = k + 1 then y else f i := fSet_c (k := k + 1)
theorem pIns_ok {v : Int} {p : Nat} : ∀ (k : Nat) (f : Int → Int), k ≤ p → (∀ i j : Nat, i < j → j ≤ p → i ≠ k → j ≠ k → f i < f j) → (∀ j : Nat, k < j → j ≤ p → v < f j) → (∀ i : Nat, i < k → f i ≠ v) →
    pInc (p + 1) (pIns v k f) ∧ ∀ y, pIs (p + 1) (pIns v k f) y ↔ (y = v ∨ ∃ i : Nat, i ≤ p ∧ i ≠ k ∧ f i = y)
  | 0, f, hk, h1, h2, h3 => by
    have e : pIns v 0 f = fSet f ((0 : Nat) : Int) v := rfl
    rw [e]
    refine ⟨fun i j hij hj => ?_, fun y => ⟨fun ⟨i, hi, he⟩ => ?_, fun h => ?_⟩⟩
    · rw [fSet_c, fSet_c, if_neg (show ¬ j = 0 by omega)]
      split
      · exact h2 j (by omega) (by omega)
      · exact h1 i j hij (by omega) (by omega) (by omega)
    · rw [fSet_c] at he
      split at he
      · exact Or.inl he.symm
      · exact Or.inr ⟨i, by omega, by omega, he⟩
    · rcases h with h | ⟨i, a, b, c⟩
      · exact ⟨0, by omega, by rw [fSet_c, if_pos rfl, h]⟩
      · exact ⟨i, by omega, by rw [fSet_c, if_neg b, c]⟩
  | k + 1, f, hk, h1, h2, h3 => by
    by_cases hc : v < f k
    · rw [pIns_t hc]
      obtain ⟨a, b⟩ := pIns_ok (v := v) (p := p) k (fSet f (k + 1) (f k)) (by omega)
        (fun i j hij hj hi hjk => by
          rw [fSet_c1, fSet_c1]
          split <;> split
          · omega
          · exact h1 k j (by omega) hj (by omega) (by omega)
          · exact h1 i k (by omega) (by omega) (by omega) (by omega)
          · exact h1 i j hij hj (by omega) (by omega))
        (fun j hkj hj => by
          rw [fSet_c1]
          split
          · exact hc
          · exact h2 j (by omega) hj)
        (fun i hi => by rw [fSet_c1, if_neg (by omega)]; exact h3 i (by omega))
      refine ⟨a, fun y => (b y).trans ⟨fun h => h.imp_right fun ⟨i, p1, p2, p3⟩ => ?_, fun h => h.imp_right fun ⟨i, p1, p2, p3⟩ => ?_⟩⟩
      · rw [fSet_c1] at p3
        split at p3
        · exact ⟨k, by omega, by omega, p3⟩
        · exact ⟨i, p1, by omega, p3⟩
      · by_cases hik : i = k
        · subst hik; exact ⟨i + 1, by omega, by omega, by rw [fSet_c1, if_pos rfl]; exact p3⟩
        · exact ⟨i, p1, hik, by rw [fSet_c1, if_neg p2]; exact p3⟩
    · rw [pIns_f hc]
      have hv : f k < v := by have := h3 k (by omega); omega
      refine ⟨fun i j hij hj => ?_, fun y => ⟨fun ⟨i, hi, he⟩ => ?_, fun h => ?_⟩⟩
      · rw [fSet_c1, fSet_c1]
        split <;> split
        · omega
        · exact h2 j (by omega) (by omega)
        · by_cases hik : i = k
          · subst hik; exact hv
          · have := h1 i k (by omega) (by omega) (by omega) (by omega); omega
        · exact h1 i j hij (by omega) (by omega) (by omega)
      · rw [fSet_c1] at he
        split at he
        · exact Or.inl he.symm
        · exact Or.inr ⟨i, by omega, by omega, he⟩
      · rcases h with h | ⟨i, a, b, c⟩
        · exact ⟨k + 1, by omega, by rw [fSet_c1, if_pos rfl, h]⟩
        · exact ⟨i, by omega, by rw [fSet_c1, if_neg b, c]⟩
theorem pSo_ok {pl g : Int → Int} : ∀ p : Nat, pDis p pl → pInc p (pSo pl g p) ∧ ∀ y, pIs p (pSo pl g p) y ↔ pIs p pl y
  | 0, _ => ⟨fun i j _ h => by omega, fun y => ⟨fun ⟨i, h, _⟩ => by omega, fun ⟨i, h, _⟩ => by omega⟩⟩
  | p + 1, hd => by
    obtain ⟨a, b⟩ := pSo_ok (g := g) p (fun i j hi hj => hd i j (by omega) (by omega))
    rw [pSo_s]
    obtain ⟨c, e⟩ := pIns_ok (v := pl p) (p := p) p (pSo pl g p) (by omega) (fun i j hij hj hi hjk => a i j hij (by omega)) (fun j h1 h2 => by omega) (fun i hi he => by
      obtain ⟨q, q1, q2⟩ := (b _).mp ⟨i, hi, rfl⟩
      have := hd q p (by omega) (by omega) (q2.trans he)
      omega)
    refine ⟨c, fun y => (e y).trans ⟨fun h => ?_, fun ⟨i, h1, h2⟩ => ?_⟩⟩
    · rcases h with h | ⟨i, h1, h2, h3⟩
      · exact ⟨p, by omega, h.symm⟩
      · obtain ⟨q, q1, q2⟩ := (b y).mp ⟨i, by omega, h3⟩
        exact ⟨q, by omega, q2⟩
    · by_cases hip : i = p
      · subst hip; exact Or.inl h2.symm
      · obtain ⟨q, q1, q2⟩ := (b y).mpr ⟨i, by omega, h2⟩
        exact Or.inr ⟨q, by omega, by omega, q2⟩
/-- two rising rows with the same numbers are one -/
theorem pInc_eq {n : Nat} {f g : Int → Int} (hf : pInc n f) (hg : pInc n g) (h : ∀ y, pIs n f y ↔ pIs n g y) : ∀ j : Nat, j < n → f j = g j := by
  intro j
  induction j using Nat.strongRecOn with
  | ind j ih =>
    intro hj
    obtain ⟨k, k1, k2⟩ := (h _).mp ⟨j, hj, rfl⟩
    obtain ⟨l, l1, l2⟩ := (h _).mpr ⟨j, hj, rfl⟩
    have hk : j ≤ k := (Nat.lt_or_ge k j).elim (fun z => by have := ih k z k1; have := hf k j z hj; omega) id
    have hl : j ≤ l := (Nat.lt_or_ge l j).elim (fun z => by have := ih l z l1; have := hg l j z hj; omega) id
    rcases Nat.lt_or_eq_of_le hk with z | z
    · have := hg j k z k1
      rcases Nat.lt_or_eq_of_le hl with y | y
      · have := hf j l y l1; omega
      · subst y; omega
    · subst z; omega
theorem pSo_eq {n : Nat} {pl pl' g g' : Int → Int} (hd : pDis n pl) (h : ∀ j : Nat, j < n → pl j = pl' j) (j : Nat) (hj : j < n) : pSo pl g n j = pSo pl' g' n j := by
  have hd' : pDis n pl' := fun i k hi hk e => hd i k hi hk (by rw [h i hi, h k hk]; exact e)
  obtain ⟨a, b⟩ := pSo_ok (g := g) n hd
  obtain ⟨a', b'⟩ := pSo_ok (g := g') n hd'
  refine pInc_eq a a' (fun y => (b y).trans (Iff.trans ⟨fun ⟨i, p, q⟩ => ⟨i, p, ?_⟩, fun ⟨i, p, q⟩ => ⟨i, p, ?_⟩⟩ (b' y).symm)) j hj
  · rw [← h i p]; exact q
  · rw [h i p]; exact q
theorem dX7_sortPlaces_0 : decode cX7_sortPlaces 0 = .ok (.iconst 0, 1) := by decide +kernel
theorem dX7_sortPlaces_1 : decode cX7_sortPlaces 1 = .ok (.istore_n 1, 1) := by decide +kernel
theorem dX7_sortPlaces_2 : decode cX7_sortPlaces 2 = .ok (.iload_n 1, 1) := by decide +kernel
theorem dX7_sortPlaces_3 : decode cX7_sortPlaces 3 = .ok (.aload_n 0, 1) := by decide +kernel
theorem dX7_sortPlaces_4 : decode cX7_sortPlaces 4 = .ok (.getfield 89, 3) := by decide +kernel
theorem dX7_sortPlaces_7 : decode cX7_sortPlaces 7 = .ok (.if_icmp .ge 64, 3) := by decide +kernel
theorem dX7_sortPlaces_10 : decode cX7_sortPlaces 10 = .ok (.iload_n 1, 1) := by decide +kernel
theorem dX7_sortPlaces_11 : decode cX7_sortPlaces 11 = .ok (.istore_n 2, 1) := by decide +kernel
theorem dX7_sortPlaces_12 : decode cX7_sortPlaces 12 = .ok (.iload_n 2, 1) := by decide +kernel
theorem dX7_sortPlaces_13 : decode cX7_sortPlaces 13 = .ok (.ifCond .le 40, 3) := by decide +kernel
theorem dX7_sortPlaces_16 : decode cX7_sortPlaces 16 = .ok (.aload_n 0, 1) := by decide +kernel
theorem dX7_sortPlaces_17 : decode cX7_sortPlaces 17 = .ok (.getfield 40, 3) := by decide +kernel
theorem dX7_sortPlaces_20 : decode cX7_sortPlaces 20 = .ok (.iload_n 2, 1) := by decide +kernel
theorem dX7_sortPlaces_21 : decode cX7_sortPlaces 21 = .ok (.iconst 1, 1) := by decide +kernel
theorem dX7_sortPlaces_22 : decode cX7_sortPlaces 22 = .ok (.isub, 1) := by decide +kernel
theorem dX7_sortPlaces_23 : decode cX7_sortPlaces 23 = .ok (.iaload, 1) := by decide +kernel
theorem dX7_sortPlaces_24 : decode cX7_sortPlaces 24 = .ok (.aload_n 0, 1) := by decide +kernel
theorem dX7_sortPlaces_25 : decode cX7_sortPlaces 25 = .ok (.getfield 7, 3) := by decide +kernel
theorem dX7_sortPlaces_28 : decode cX7_sortPlaces 28 = .ok (.iload_n 1, 1) := by decide +kernel
theorem dX7_sortPlaces_29 : decode cX7_sortPlaces 29 = .ok (.iaload, 1) := by decide +kernel
theorem dX7_sortPlaces_30 : decode cX7_sortPlaces 30 = .ok (.if_icmp .le 23, 3) := by decide +kernel
theorem dX7_sortPlaces_33 : decode cX7_sortPlaces 33 = .ok (.aload_n 0, 1) := by decide +kernel
theorem dX7_sortPlaces_34 : decode cX7_sortPlaces 34 = .ok (.getfield 40, 3) := by decide +kernel
theorem dX7_sortPlaces_37 : decode cX7_sortPlaces 37 = .ok (.iload_n 2, 1) := by decide +kernel
theorem dX7_sortPlaces_38 : decode cX7_sortPlaces 38 = .ok (.aload_n 0, 1) := by decide +kernel
theorem dX7_sortPlaces_39 : decode cX7_sortPlaces 39 = .ok (.getfield 40, 3) := by decide +kernel
theorem dX7_sortPlaces_42 : decode cX7_sortPlaces 42 = .ok (.iload_n 2, 1) := by decide +kernel
theorem dX7_sortPlaces_43 : decode cX7_sortPlaces 43 = .ok (.iconst 1, 1) := by decide +kernel
theorem dX7_sortPlaces_44 : decode cX7_sortPlaces 44 = .ok (.isub, 1) := by decide +kernel
theorem dX7_sortPlaces_45 : decode cX7_sortPlaces 45 = .ok (.iaload, 1) := by decide +kernel
theorem dX7_sortPlaces_46 : decode cX7_sortPlaces 46 = .ok (.iastore, 1) := by decide +kernel
theorem dX7_sortPlaces_47 : decode cX7_sortPlaces 47 = .ok (.iinc 2 (-1), 3) := by decide +kernel
theorem dX7_sortPlaces_50 : decode cX7_sortPlaces 50 = .ok (.goto (-38), 3) := by decide +kernel
theorem dX7_sortPlaces_53 : decode cX7_sortPlaces 53 = .ok (.aload_n 0, 1) := by decide +kernel
theorem dX7_sortPlaces_54 : decode cX7_sortPlaces 54 = .ok (.getfield 40, 3) := by decide +kernel
theorem dX7_sortPlaces_57 : decode cX7_sortPlaces 57 = .ok (.iload_n 2, 1) := by decide +kernel
theorem dX7_sortPlaces_58 : decode cX7_sortPlaces 58 = .ok (.aload_n 0, 1) := by decide +kernel
theorem dX7_sortPlaces_59 : decode cX7_sortPlaces 59 = .ok (.getfield 7, 3) := by decide +kernel
theorem dX7_sortPlaces_62 : decode cX7_sortPlaces 62 = .ok (.iload_n 1, 1) := by decide +kernel
theorem dX7_sortPlaces_63 : decode cX7_sortPlaces 63 = .ok (.iaload, 1) := by decide +kernel
theorem dX7_sortPlaces_64 : decode cX7_sortPlaces 64 = .ok (.iastore, 1) := by decide +kernel
theorem dX7_sortPlaces_65 : decode cX7_sortPlaces 65 = .ok (.iinc 1 1, 3) := by decide +kernel
theorem dX7_sortPlaces_68 : decode cX7_sortPlaces 68 = .ok (.goto (-66), 3) := by decide +kernel
theorem dX7_sortPlaces_71 : decode cX7_sortPlaces 71 = .ok (.return_, 1) := by decide +kernel
theorem l_X7_so12 {d : List Nat} {T : vT} {M : vM} {Q : Option vA → vT → vM → Prop} {p : Nat} (hB : vB T) (hp : p < 6) : ∀ (k : Nat) (f : Int → Int), k ≤ p →
    (∀ x2, vV m_X7_sortPlaces d d Q 65 [some (vR 200), some (vI p), x2] [] d T (vRow M 226 (pIns (M 201 p) k f))) →
    vV m_X7_sortPlaces d d Q 12 [some (vR 200), some (vI p), some (vI k)] [] d T (vRow M 226 f) := by
  intro k
  induction k with
  | zero =>
    intro f hk h
    have e1 : vRow M 226 f 201 p = M 201 p := by rw [vRow_n (by decide)]
    refine vV.iload_n dX7_sortPlaces_12 rfl ?_
    refine vV.if_le (tgt := 53) dX7_sortPlaces_13 (by decide) (fun h13 => ?_) (fun h13 => ?_)
    · skip
      refine vV.aload_n dX7_sortPlaces_53 rfl ?_
      refine vV.getr dX7_sortPlaces_54 fl_X7_40 (by first | rfl | assumption) rfl (by first | assumption | exact hB _ _ _ rfl) ?_
      refine vV.iload_n dX7_sortPlaces_57 rfl ?_
      refine vV.aload_n dX7_sortPlaces_58 rfl ?_
      refine vV.getr dX7_sortPlaces_59 fl_X7_7 (by first | rfl | assumption) rfl (by first | assumption | exact hB _ _ _ rfl) ?_
      refine vV.iload_n dX7_sortPlaces_62 rfl ?_
      refine vV.iald dX7_sortPlaces_63 (by first | rfl | assumption) (by omega) (by omega) ?_
      rw [e1]
      refine vV.iast dX7_sortPlaces_64 (by first | rfl | assumption) (by omega) (by omega) ?_
      rw [vUpd_vRow]; exact h _
    · skip
      omega
  | succ k ih =>
    intro f hk h
    have e1 : vRow M 226 f 201 p = M 201 p := by rw [vRow_n (by decide)]
    have e2 : vRow M 226 f 226 k = f k := by rw [vRow_s]
    have e3 : ((k + 1 : Nat) : Int) - 1 = k := by omega
    refine vV.iload_n dX7_sortPlaces_12 rfl ?_
    refine vV.if_le (tgt := 53) dX7_sortPlaces_13 (by decide) (fun h13 => ?_) (fun h13 => ?_)
    · skip
      omega
    · skip
      refine vV.aload_n dX7_sortPlaces_16 rfl ?_
      refine vV.getr dX7_sortPlaces_17 fl_X7_40 (by first | rfl | assumption) rfl (by first | assumption | exact hB _ _ _ rfl) ?_
      refine vV.iload_n dX7_sortPlaces_20 rfl ?_
      refine vV.iconst dX7_sortPlaces_21 (by decide) ?_
      refine vV.isub dX7_sortPlaces_22 (⟨by omega, by omega⟩) ?_
      rw [e3]
      refine vV.iald dX7_sortPlaces_23 (by first | rfl | assumption) (by omega) (by omega) ?_
      refine vV.aload_n dX7_sortPlaces_24 rfl ?_
      refine vV.getr dX7_sortPlaces_25 fl_X7_7 (by first | rfl | assumption) rfl (by first | assumption | exact hB _ _ _ rfl) ?_
      refine vV.iload_n dX7_sortPlaces_28 rfl ?_
      refine vV.iald dX7_sortPlaces_29 (by first | rfl | assumption) (by omega) (by omega) ?_
      rw [e1, e2]
      refine vV.icmp_le (tgt := 53) dX7_sortPlaces_30 (by decide) (fun h30 => ?_) (fun h30 => ?_)
      · skip
        rw [pIns_f (by omega)] at h
        refine vV.aload_n dX7_sortPlaces_53 rfl ?_
        refine vV.getr dX7_sortPlaces_54 fl_X7_40 (by first | rfl | assumption) rfl (by first | assumption | exact hB _ _ _ rfl) ?_
        refine vV.iload_n dX7_sortPlaces_57 rfl ?_
        refine vV.aload_n dX7_sortPlaces_58 rfl ?_
        refine vV.getr dX7_sortPlaces_59 fl_X7_7 (by first | rfl | assumption) rfl (by first | assumption | exact hB _ _ _ rfl) ?_
        refine vV.iload_n dX7_sortPlaces_62 rfl ?_
        refine vV.iald dX7_sortPlaces_63 (by first | rfl | assumption) (by omega) (by omega) ?_
        rw [e1]
        refine vV.iast dX7_sortPlaces_64 (by first | rfl | assumption) (by omega) (by omega) ?_
        rw [vUpd_vRow]; exact h _
      · skip
        rw [pIns_t (by omega)] at h
        refine vV.aload_n dX7_sortPlaces_33 rfl ?_
        refine vV.getr dX7_sortPlaces_34 fl_X7_40 (by first | rfl | assumption) rfl (by first | assumption | exact hB _ _ _ rfl) ?_
        refine vV.iload_n dX7_sortPlaces_37 rfl ?_
        refine vV.aload_n dX7_sortPlaces_38 rfl ?_
        refine vV.getr dX7_sortPlaces_39 fl_X7_40 (by first | rfl | assumption) rfl (by first | assumption | exact hB _ _ _ rfl) ?_
        refine vV.iload_n dX7_sortPlaces_42 rfl ?_
        refine vV.iconst dX7_sortPlaces_43 (by decide) ?_
        refine vV.isub dX7_sortPlaces_44 (⟨by omega, by omega⟩) ?_
        rw [e3]
        refine vV.iald dX7_sortPlaces_45 (by first | rfl | assumption) (by omega) (by omega) ?_
        rw [e2]
        refine vV.iast dX7_sortPlaces_46 (by first | rfl | assumption) (by omega) (by omega) ?_
        rw [vUpd_vRow]
        have e4 : ((k + 1 : Nat) : Int) + -1 = k := by omega
        refine vV.iinc (L' := [_, _, _]) dX7_sortPlaces_47 (by decide) rfl (⟨by omega, by omega⟩) rfl ?_
        rw [e4]
        refine vV.goto (tgt := 12) dX7_sortPlaces_50 (by decide) ?_
        exact ih _ (by omega) h
theorem l_X7_so65 {d : List Nat} {T : vT} {N : vM} {Q : Option vA → vT → vM → Prop} {p : Nat} {x2 : Option vA} (hp : p < 6) (h : vV m_X7_sortPlaces d d Q 2 [some (vR 200), some (vI ((p : Int) + 1)), x2] [] d T N) : vV m_X7_sortPlaces d d Q 65 [some (vR 200), some (vI p), x2] [] d T N := by
  refine vV.iinc (L' := [_, _, _]) dX7_sortPlaces_65 (by decide) rfl (⟨by omega, by omega⟩) rfl ?_
  refine vV.goto (tgt := 2) dX7_sortPlaces_68 (by decide) ?_
  exact h
theorem l_X7_so2 {d : List Nat} {T : vT} {M : vM} {n : Nat} (hB : vB T) (hc : M 200 4 = n) (hn : n ≤ 6) : ∀ p, p ≤ n → ∀ x2,
    vV m_X7_sortPlaces d d (vPv fun T1 M1 => T = T1 ∧ M1 = vRow M 226 (pSo (M 201) (M 226) n)) 2 [some (vR 200), some (vI p), x2] [] d T (vRow M 226 (pSo (M 201) (M 226) p)) := by
  refine vUp ?_
  intro p hp ih x2
  have e0 : vRow M 226 (pSo (M 201) (M 226) p) 200 = M 200 := vRow_n (by decide)
  refine vV.iload_n dX7_sortPlaces_2 rfl ?_
  refine vV.aload_n dX7_sortPlaces_3 rfl ?_
  refine vV.geti (z := 4) dX7_sortPlaces_4 fl_X7_89 (by first | rfl | assumption) rfl rfl ?_
  rw [e0]
  refine vV.icmp_ge (tgt := 71) dX7_sortPlaces_7 (by decide) (fun h7 => ?_) (fun h7 => ?_)
  · skip
    refine vV.rv dX7_sortPlaces_71 rfl ?_
    rw [show p = n by omega]; exact ⟨rfl, rfl⟩
  · skip
    refine vV.iload_n dX7_sortPlaces_10 rfl ?_
    refine vV.istore_n (L' := [_, _, _]) dX7_sortPlaces_11 (by decide) rfl ?_
    exact l_X7_so12 hB (by omega) p _ (by omega) (fun x2 => l_X7_so65 (by omega) (ih (by omega) x2))
theorem c_X7_sortPlaces {d : List Nat} {T : vT} {M : vM} {n : Nat} (hB : vB T) (hc : M 200 4 = n) (hn : n ≤ 6) : vCon m_X7_sortPlaces d d [vR 200] T M (vPv fun T1 M1 => T = T1 ∧ M1 = vRow M 226 (pSo (M 201) (M 226) n)) := by
  refine vCon.of (by decide) rfl rfl (Nat.le_of_ble_eq_true rfl) ?_
  have h := fun x2 => l_X7_so2 (d := d) (T := T) hB hc hn 0 (by omega) x2
  rw [show pSo (M 201) (M 226) 0 = M 226 from rfl, vRow_id] at h
  refine vV.iconst dX7_sortPlaces_0 (by decide) ?_
  refine vV.istore_n (L' := [_, _, _]) dX7_sortPlaces_1 (by decide) rfl ?_
  exact h _
theorem dX4_sortPlaces_0 : decode cX4_sortPlaces 0 = .ok (.iconst 0, 1) := by decide +kernel
theorem dX4_sortPlaces_1 : decode cX4_sortPlaces 1 = .ok (.istore_n 2, 1) := by decide +kernel
theorem dX4_sortPlaces_2 : decode cX4_sortPlaces 2 = .ok (.iconst 0, 1) := by decide +kernel
theorem dX4_sortPlaces_3 : decode cX4_sortPlaces 3 = .ok (.istore_n 3, 1) := by decide +kernel
theorem dX4_sortPlaces_4 : decode cX4_sortPlaces 4 = .ok (.iload_n 3, 1) := by decide +kernel
theorem dX4_sortPlaces_5 : decode cX4_sortPlaces 5 = .ok (.bipush 7, 2) := by decide +kernel
theorem dX4_sortPlaces_7 : decode cX4_sortPlaces 7 = .ok (.if_icmp .gt 33, 3) := by decide +kernel
theorem dX4_sortPlaces_10 : decode cX4_sortPlaces 10 = .ok (.aload_n 1, 1) := by decide +kernel
theorem dX4_sortPlaces_11 : decode cX4_sortPlaces 11 = .ok (.iload_n 3, 1) := by decide +kernel
theorem dX4_sortPlaces_12 : decode cX4_sortPlaces 12 = .ok (.invokevirtual 67, 3) := by decide +kernel
theorem dX4_sortPlaces_15 : decode cX4_sortPlaces 15 = .ok (.ifCond .lt 19, 3) := by decide +kernel
theorem dX4_sortPlaces_18 : decode cX4_sortPlaces 18 = .ok (.iload_n 2, 1) := by decide +kernel
theorem dX4_sortPlaces_19 : decode cX4_sortPlaces 19 = .ok (.bipush 6, 2) := by decide +kernel
theorem dX4_sortPlaces_21 : decode cX4_sortPlaces 21 = .ok (.if_icmp .ge 13, 3) := by decide +kernel
theorem dX4_sortPlaces_24 : decode cX4_sortPlaces 24 = .ok (.aload_n 0, 1) := by decide +kernel
theorem dX4_sortPlaces_25 : decode cX4_sortPlaces 25 = .ok (.getfield 18, 3) := by decide +kernel
theorem dX4_sortPlaces_28 : decode cX4_sortPlaces 28 = .ok (.iload_n 2, 1) := by decide +kernel
theorem dX4_sortPlaces_29 : decode cX4_sortPlaces 29 = .ok (.iload_n 3, 1) := by decide +kernel
theorem dX4_sortPlaces_30 : decode cX4_sortPlaces 30 = .ok (.iastore, 1) := by decide +kernel
theorem dX4_sortPlaces_31 : decode cX4_sortPlaces 31 = .ok (.iinc 2 1, 3) := by decide +kernel
theorem dX4_sortPlaces_34 : decode cX4_sortPlaces 34 = .ok (.iinc 3 1, 3) := by decide +kernel
theorem dX4_sortPlaces_37 : decode cX4_sortPlaces 37 = .ok (.goto (-33), 3) := by decide +kernel
theorem dX4_sortPlaces_40 : decode cX4_sortPlaces 40 = .ok (.return_, 1) := by decide +kernel
theorem l_X4_so4 {d : List Nat} {T : vT} {M : vM} {n : Nat} {g : Int → Int} (hB : vB T) (hc : M 10 0 = n) (hn : n ≤ 6) (hg : pInc n g) (hi : ∀ y, pIs n g y ↔ pIs n (M 11) y) (g7 : ∀ j : Nat, j < n → g j ≤ 7) (h0 : ∀ j : Nat, j < n → 0 ≤ g j) : ∀ y : Nat, y ≤ 8 → ∀ m : Nat, m ≤ n → (∀ j : Nat, j < m → g j < y) → (∀ j : Nat, m ≤ j → j < n → y ≤ g j) →
    vV m_X4_sortPlaces d d (vPv fun T1 M1 => T = T1 ∧ M1 = vRow M 83 (pMix n g (M 83))) 4 [some (vR 80), some (vR 10), some (vI m), some (vI y)] [] d T (vRow M 83 (pMix m g (M 83))) := by
  refine vUp ?_
  intro y hy ih m hm a1 a2
  have e1 : vRow M 83 (pMix m g (M 83)) 11 = M 11 := vRow_n (by decide)
  refine vV.iload_n dX4_sortPlaces_4 rfl ?_
  refine vV.bipush (v := 7) dX4_sortPlaces_5 (by decide) (by decide) ?_
  refine vV.icmp_gt (tgt := 40) dX4_sortPlaces_7 (by decide) (fun h7 => ?_) (fun h7 => ?_)
  · skip
    refine vV.rv dX4_sortPlaces_40 rfl ?_
    rw [show m = n from (Nat.lt_or_eq_of_le hm).elim (fun z => by have := a2 m (by omega) z; have := g7 m z; omega) id]; exact ⟨rfl, rfl⟩
  · skip
    refine vV.aload_n dX4_sortPlaces_10 rfl ?_
    refine vV.iload_n dX4_sortPlaces_11 rfl ?_
    refine vV.cVi dX4_sortPlaces_12 ml_X4_67 cw_X3_plateOn iw_X3_plateOn (by first | rfl | assumption) rfl (by unfold vRoom; decide) (c_X3_plateOn (n := n) sgK_10 (sgT_10 hB) (by rw [vRow_n (by decide)]; exact hc) hn) rfl rfl (Nat.le_of_ble_eq_true rfl) ?_
    rintro x12 _ _ hx12 ⟨rfl, rfl, rfl⟩
    rw [show vRow M 83 (pMix m g (M 83)) (10 + 1) = M 11 from e1]
    refine vV.if_lt (tgt := 34) dX4_sortPlaces_15 (by decide) (fun h15 => ?_) (fun h15 => ?_)
    · skip
      have hno : ∀ j : Nat, j < n → g j ≠ y := fun j hj he => by { obtain ⟨q, q1, q2⟩ := (hi y).mp ⟨j, hj, he⟩; have hz := pFind_some.pFind_none (pOr_none h15) q q1; simp at hz; exact hz q2 }
      refine vV.iinc (L' := [_, _, _, _]) dX4_sortPlaces_34 (by decide) rfl (⟨by omega, by omega⟩) rfl ?_
      refine vV.goto (tgt := 4) dX4_sortPlaces_37 (by decide) ?_
      first | (exact ih (by omega) (k + 1) (by omega) (fun j hj => (Nat.lt_succ_iff_lt_or_eq.mp hj).elim (fun z => by have := a1 j z; omega) (fun z => by subst z; omega)) (fun j j1 j2 => by have := hg k j (by omega) j2; omega)) | (exact ih (by omega) m hm (fun j hj => by have := a1 j hj; omega) (fun j j1 j2 => by have := a2 j j1 j2; have := hno j j2; omega))
    · skip
      obtain ⟨q, hq⟩ := Option.isSome_iff_exists.mp (pOr_some h15)
      obtain ⟨q1, q2, -⟩ := pFind_some hq
      obtain ⟨k, k1, k2⟩ := (hi y).mpr ⟨q, q1, by simpa using q2⟩
      have hkm : m ≤ k := (Nat.lt_or_ge k m).elim (fun z => by have := a1 k z; omega) id
      have hkm2 : k = m := (Nat.lt_or_eq_of_le hkm).elim (fun z => by have := hg m k z k1; have := a2 m (by omega) (by omega); omega) (fun z => z.symm)
      subst hkm2
      have e31 : fSet (pMix k g (M 83)) k y = pMix (k + 1) g (M 83) := by rw [← k2]; exact pMix_s
      refine vV.iload_n dX4_sortPlaces_18 rfl ?_
      refine vV.bipush (v := 6) dX4_sortPlaces_19 (by decide) (by decide) ?_
      refine vV.icmp_ge (tgt := 34) dX4_sortPlaces_21 (by decide) (fun h21 => ?_) (fun h21 => ?_)
      · skip
        omega
      · skip
        refine vV.aload_n dX4_sortPlaces_24 rfl ?_
        refine vV.getr dX4_sortPlaces_25 fl_X4_18 (by first | rfl | assumption) rfl (by first | assumption | exact hB _ _ _ rfl) ?_
        refine vV.iload_n dX4_sortPlaces_28 rfl ?_
        refine vV.iload_n dX4_sortPlaces_29 rfl ?_
        refine vV.iast dX4_sortPlaces_30 (by first | rfl | assumption) (by omega) (by omega) ?_
        rw [vUpd_vRow, e31]
        refine vV.iinc (L' := [_, _, _, _]) dX4_sortPlaces_31 (by decide) rfl (⟨by omega, by omega⟩) rfl ?_
        refine vV.iinc (L' := [_, _, _, _]) dX4_sortPlaces_34 (by decide) rfl (⟨by omega, by omega⟩) rfl ?_
        refine vV.goto (tgt := 4) dX4_sortPlaces_37 (by decide) ?_
        first | (exact ih (by omega) (k + 1) (by omega) (fun j hj => (Nat.lt_succ_iff_lt_or_eq.mp hj).elim (fun z => by have := a1 j z; omega) (fun z => by subst z; omega)) (fun j j1 j2 => by have := hg k j (by omega) j2; omega)) | (exact ih (by omega) m hm (fun j hj => by have := a1 j hj; omega) (fun j j1 j2 => by have := a2 j j1 j2; have := hno j j2; omega))
/-- Sticks.sortPlaces -/
theorem c_X4_sortPlaces {d : List Nat} {T : vT} {M : vM} {n : Nat} (hB : vB T) (hW : sgW M 10 n) : vCon m_X4_sortPlaces d d [vR 80, vR 10] T M (vPv fun T1 M1 => T = T1 ∧ M1 = vRow M 83 (pMix n (pSo (M 11) (fun _ => 0) n) (M 83))) := by
  refine vCon.of (by decide) rfl rfl (Nat.le_of_ble_eq_true rfl) ?_
  obtain ⟨hc, hn, -, -, h7, -, -, -, -, -, -, -, -, -, hd⟩ := hW
  obtain ⟨g1, g2⟩ := pSo_ok (g := fun _ => 0) n hd
  have hb : ∀ j : Nat, j < n → 0 ≤ pSo (M 11) (fun _ => 0) n j ∧ pSo (M 11) (fun _ => 0) n j ≤ 7 := fun j hj => by
    obtain ⟨q, q1, q2⟩ := (g2 _).mp ⟨j, hj, rfl⟩
    rw [← q2]; exact h7 q
  have h := l_X4_so4 (d := d) (T := T) hB hc hn g1 g2 (fun j hj => (hb j hj).2) (fun j hj => (hb j hj).1) 0 (by omega) 0 (by omega) (fun j hj => by omega) (fun j _ hj => (hb j hj).1)
  rw [pMix_0, vRow_id] at h
  refine vV.iconst dX4_sortPlaces_0 (by decide) ?_
  refine vV.istore_n (L' := [_, _, _, _]) dX4_sortPlaces_1 (by decide) rfl ?_
  refine vV.iconst dX4_sortPlaces_2 (by decide) ?_
  refine vV.istore_n (L' := [_, _, _, _]) dX4_sortPlaces_3 (by decide) rfl ?_
  exact h
