/-! ===== own: how long at most: words ===== -/
/-- he can go on for k ticks -/
def xcan (E : xE) : Nat → xS → Prop
  | 0, _ => True
  | k + 1, s => ∃ (t : Nat) (s' : xS), t < 4 ∧ xn E t s = some s' ∧ xcan E k s'
theorem xcan_dn {E : xE} : ∀ {k : Nat} {s : xS}, xcan E (k + 1) s → xcan E k s
  | 0, s, _ => trivial
  | k + 1, s, ⟨t, s', h1, h2, h3⟩ => ⟨t, s', h1, h2, xcan_dn h3⟩
theorem xcan_le {E : xE} {j k : Nat} {s : xS} (h : j ≤ k) (hc : xcan E k s) : xcan E j s := by
  induction k with
  | zero => rw [show j = 0 by omega]; exact hc
  | succ k ih =>
    by_cases e : j = k + 1
    · rw [e]; exact hc
    · exact ih (by omega) (xcan_dn hc)
def xever (E : xE) (s : xS) : Prop := ∀ k, xcan E k s
def xL (E : xE) (s : xS) (w : Nat) : Prop := xcan E w s ∧ ¬ xcan E (w + 1) s
theorem xL_u {E : xE} {s : xS} {i j : Nat} (hi : xL E s i) (hj : xL E s j) : i = j := by
  rcases Nat.lt_trichotomy i j with z | z | z
  · exact absurd (xcan_le z hj.1) hi.2
  · exact z
  · exact absurd (xcan_le z hi.1) hj.2
theorem xL_e {E : xE} {s : xS} {i : Nat} (hi : xL E s i) : ¬ xever E s := fun h => hi.2 (h _)
theorem inj_le {N m : Nat} {f : Nat → Nat} (hr : ∀ i, i < m → f i < N) (hi : ∀ i j, i < m → j < m → f i = f j → i = j) : m ≤ N := by
  rcases Nat.lt_or_ge N m with z | z
  · exfalso
    obtain ⟨j, j1, j2⟩ := inj_surj (n := N) (f := f) (fun i h => hr i (by omega)) (fun i j h1 h2 => hi i j (by omega) (by omega)) (f N) (hr N z)
    have := hi j N (by omega) z j2
    omega
  · exact z
theorem xL_next {E : xE} {s : xS} {w : Nat} (hE : xEok E) (hs : xSt E s) (h : xL E s (w + 1)) : ∃ s', xSt E s' ∧ xL E s' w := by
  obtain ⟨⟨t, s', h1, h2, h3⟩, h4⟩ := h
  exact ⟨s', xn_st hE hs h2, h3, fun z => h4 ⟨t, s', h1, h2, z⟩⟩
theorem xL_all {E : xE} {s : xS} {w : Nat} (hE : xEok E) (hs : xSt E s) (h : xL E s w) : ∀ k, k ≤ w → ∃ s', xSt E s' ∧ xL E s' (w - k)
  | 0, _ => ⟨s, hs, h⟩
  | k + 1, hk => by
    obtain ⟨s', a, b⟩ := xL_all hE hs h k (by omega)
    rw [show w - k = w - (k + 1) + 1 by omega] at b
    exact xL_next hE a b
theorem xL_lt {E : xE} {s : xS} {w : Nat} (hE : xEok E) (hs : xSt E s) (h : xL E s w) : w < 32768 := by
  have hall : ∀ i, i ≤ w → ∃ s', xSt E s' ∧ xL E s' i := fun i hi => by
    have := xL_all hE hs h (w - i) (by omega)
    rw [show w - (w - i) = i by omega] at this
    exact this
  have hch : ∀ i, ∃ s', i ≤ w → xSt E s' ∧ xL E s' i := fun i => by
    by_cases hi : i ≤ w
    · obtain ⟨s', a⟩ := hall i hi; exact ⟨s', fun _ => a⟩
    · exact ⟨s, fun z => absurd z hi⟩
  have hm := inj_le (N := 32768) (m := w + 1) (f := fun i => enC (Classical.choose (hch i))) (fun i hi => enC_lt ((Classical.choose_spec (hch i) (by omega)).1.ok hE)) (fun i j hi hj he => by
    have a := Classical.choose_spec (hch i) (by omega)
    have b := Classical.choose_spec (hch j) (by omega)
    have e := enC_inj (a.1.ok hE) (b.1.ok hE) he
    rw [e] at a
    exact xL_u a.2 b.2)
  omega
/-- the most ticks: r, or 65535 -/
def xLq (E : xE) (s : xS) (r : Int) : Prop := (r = 65535 ∧ xever E s) ∨ ∃ w : Nat, r = w ∧ w < 32768 ∧ xL E s w
/-- what is marked on the page is right -/
def awP (E : xE) (M : vM) : Prop := ∀ s w, xSt E s → awK M (enC s) = some w → (w < 32768 ∧ xL E s w) ∨ (w = 65535 ∧ xever E s)
def sTh (th : Nat → Nat) : Nat → Nat
  | 0 => 0
  | k + 1 => sTh th k + th k
theorem sTh_le {th : Nat → Nat} : ∀ n, (∀ i, i < n → th i ≤ 4) → sTh th n ≤ 4 * n
  | 0, _ => Nat.le_refl 0
  | n + 1, h => by have := sTh_le n (fun i hi => h i (by omega)); have := h n (by omega); unfold sTh; omega
theorem sTh_cg {th th' : Nat → Nat} : ∀ {n : Nat}, (∀ i, i < n → th i = th' i) → sTh th n = sTh th' n
  | 0, _ => rfl
  | n + 1, h => by unfold sTh; rw [sTh_cg (n := n) (fun i hi => h i (by omega)), h n (by omega)]
def nSet {α : Type} (f : Nat → α) (k : Nat) (y : α) : Nat → α := fun i => if i = k then y else f i
theorem nSet_s {α : Type} {f : Nat → α} {k : Nat} {y : α} : nSet f k y k = y := if_pos rfl
theorem nSet_n {α : Type} {f : Nat → α} {k i : Nat} {y : α} (h : i ≠ k) : nSet f k y i = f i := if_neg h
/-- the path stands on the list: its positions, the thing that is next of each; pd: the last thing of the last is not yet looked at -/
def dfT (E : xE) (M : vM) (dp dq : Nat) (st : Nat → xS) (th : Nat → Nat) (i : Nat) : Prop := xSt E (st i) ∧ th i ≤ 4 ∧ M 107 i = ((enC (st i) * 8 + th i : Nat) : Int) ∧ ∃ v, awK M (enC (st i)) = some (65536 + v) ∧ v ≤ 32768 ∧ xcan E v (st i) ∧ ∀ (t : Nat) (s' : xS), t < th i → (i + 1 < dq → t + 1 ≠ th i) → xn E t (st i) = some s' → ¬ xcan E v s'
def dfI (E : xE) (M : vM) (dp dq : Nat) (st : Nat → xS) (th : Nat → Nat) (cnt : Nat) (ord : Nat → Nat) : Prop :=
  awM M ∧ (∀ i, i < dp → dfT E M dp dq st th i) ∧ (∀ i j, i < dp → j < dp → st i = st j → i = j) ∧ (∀ i, i + 1 < dp → 1 ≤ th i ∧ xn E ((th i - 1 : Nat) : Int) (st i) = some (st (i + 1))) ∧
  (∀ s w, xSt E s → awK M (enC s) = some w → ((w < 32768 ∧ xL E s w) ∨ (w = 65535 ∧ xever E s)) ∨ ∃ i, i < dp ∧ st i = s) ∧
  (∀ i, i < cnt → ord i < 32768 ∧ (awK M (ord i)).isSome = true) ∧ (∀ i j, i < cnt → j < cnt → ord i = ord j → i = j) ∧ dp ≤ cnt
theorem dfI.cnt {E : xE} {M : vM} {dp dq : Nat} {st : Nat → xS} {th : Nat → Nat} {cnt : Nat} {ord : Nat → Nat} (h : dfI E M dp dq st th cnt ord) : cnt ≤ 32768 := inj_le (fun i hi => (h.2.2.2.2.2.1 i hi).1) h.2.2.2.2.2.2.1
/-- marks elsewhere, and other rows, don't matter -/
theorem awK_107 (M : vM) (i : Int) (y : Int) (q : Nat) : awK (vUpd M 107 i y) q = awK M q := by
  unfold awK; rw [vUpd_nk (by decide), vUpd_nk (by decide)]
theorem awM_107 {M : vM} (i : Int) (y : Int) (h : awM M) : awM (vUpd M 107 i y) := by
  unfold awM at h ⊢
  rw [vUpd_row (show (100 : Nat) ≠ 107 by decide), vUpd_row (show (106 : Nat) ≠ 107 by decide)]
  exact h
/-- the thing of the last is counted up -/
theorem dfI.inc {E : xE} {M : vM} {q : Nat} {st : Nat → xS} {th : Nat → Nat} {cnt : Nat} {ord : Nat → Nat} (h : dfI E M (q + 1) (q + 1) st th cnt ord) (ht : th q ≤ 3) : dfI E (vUpd M 107 q (M 107 q + 1)) (q + 1) (q + 2) st (nSet th q (th q + 1)) cnt ord := by
  obtain ⟨a1, a2, a3, a4, a5, a6, a7, a8⟩ := h
  refine ⟨awM_107 _ _ a1, fun i hi => ?_, a3, fun i hi => ?_, fun s w hs hw => ?_, fun i hi => ?_, a7, a8⟩
  · obtain ⟨b1, b2, b3, v, b4, b5, b6, b7⟩ := a2 i hi
    by_cases e : i = q
    · subst e
      refine ⟨b1, by rw [nSet_s]; omega, by rw [vUpd_s, nSet_s, b3]; omega, v, by rw [awK_107]; exact b4, b5, b6, fun t s' h1 h2 h3 => ?_⟩
      rw [nSet_s] at h1 h2
      have := h2 (by omega)
      exact b7 t s' (by omega) (fun z => by omega) h3
    · refine ⟨b1, by rw [nSet_n e]; exact b2, by rw [vUpd_ni (by omega), nSet_n e]; exact b3, v, by rw [awK_107]; exact b4, b5, b6, fun t s' h1 h2 h3 => ?_⟩
      rw [nSet_n e] at h1 h2
      exact b7 t s' h1 (fun z => h2 (by omega)) h3
  · rw [nSet_n (by omega)]; exact a4 i hi
  · rw [awK_107] at hw; exact a5 s w hs hw
  · rw [awK_107]; exact a6 i hi
/-- the pending thing leads nowhere -/
theorem dfI.nil {E : xE} {M : vM} {q : Nat} {st : Nat → xS} {th : Nat → Nat} {cnt : Nat} {ord : Nat → Nat} (h : dfI E M (q + 1) (q + 2) st th cnt ord) (hn : xn E ((th q - 1 : Nat) : Int) (st q) = none) : dfI E M (q + 1) (q + 1) st th cnt ord := by
  obtain ⟨a1, a2, a3, a4, a5, a6, a7, a8⟩ := h
  refine ⟨a1, fun i hi => ?_, a3, a4, a5, a6, a7, a8⟩
  obtain ⟨b1, b2, b3, v, b4, b5, b6, b7⟩ := a2 i hi
  refine ⟨b1, b2, b3, v, b4, b5, b6, fun t s' h1 h2 h3 => ?_⟩
  by_cases e : t + 1 = th i
  · by_cases e2 : i = q
    · subst e2
      rw [show t = th i - 1 by omega] at h3
      rw [hn] at h3; cases h3
    · exact absurd e (h2 (by omega))
  · exact b7 t s' h1 (fun _ => e) h3
/-- a new position is put -/
theorem dfI.push {E : xE} {M : vM} {q : Nat} {st : Nat → xS} {th : Nat → Nat} {cnt : Nat} {ord : Nat → Nat} {s' : xS} (hE : xEok E) (h : dfI E M (q + 1) (q + 2) st th cnt ord) (h1th : 1 ≤ th q) (hn : xn E ((th q - 1 : Nat) : Int) (st q) = some s') (hs' : xSt E s') (hu : awK M (enC s') = none) :
    dfI E (vUpd (vUpd M 106 (enC s' : Nat) (M 100 5 * 131072 + 65536)) 107 ((q + 1 : Nat) : Int) ((enC s' * 8 : Nat) : Int)) (q + 2) (q + 2) (nSet st (q + 1) s') (nSet th (q + 1) 0) (cnt + 1) (nSet ord cnt (enC s')) := by
  obtain ⟨a1, a2, a3, a4, a5, a6, a7, a8⟩ := h
  have hK : ∀ p, awK (vUpd (vUpd M 106 (enC s' : Nat) (M 100 5 * 131072 + 65536)) 107 ((q + 1 : Nat) : Int) ((enC s' * 8 : Nat) : Int)) p = if p = enC s' then some 65536 else awK M p := fun p => by
    rw [awK_107, awK_mark (by omega)]; rfl
  have hst : ∀ i, i < q + 1 → st i ≠ s' := fun i hi z => by
    obtain ⟨b1, b2, b3, v, b4, -⟩ := a2 i hi
    rw [z, hu] at b4; cases b4
  have hen : ∀ i, i < q + 1 → enC (st i) ≠ enC s' := fun i hi z => hst i hi (enC_inj ((a2 i hi).1.ok hE) (hs'.ok hE) z)
  refine ⟨awM_107 _ _ (awM_mark a1 (by omega)), fun i hi => ?_, fun i j hi hj he => ?_, fun i hi => ?_, fun s w hs hw => ?_, fun i hi => ?_, fun i j hi hj he => ?_, by omega⟩
  · by_cases e : i = q + 1
    · subst e
      refine ⟨by rw [nSet_s]; exact hs', by rw [nSet_s]; omega, by rw [vUpd_s, nSet_s, nSet_s]; simp, 0, by rw [nSet_s, hK, if_pos rfl], by omega, trivial, fun t s2 h1 => ?_⟩
      rw [nSet_s] at h1; omega
    · obtain ⟨b1, b2, b3, v, b4, b5, b6, b7⟩ := a2 i (by omega)
      refine ⟨by rw [nSet_n e]; exact b1, by rw [nSet_n e]; exact b2, by rw [vUpd_ni (by omega), vUpd_nk (by decide), nSet_n e, nSet_n e]; exact b3, v, by rw [nSet_n e, hK, if_neg (hen i (by omega))]; exact b4, b5, by rw [nSet_n e]; exact b6, fun t s2 h1 h2 h3 => ?_⟩
      rw [nSet_n e] at h1 h2
      rw [nSet_n e] at h3
      exact b7 t s2 h1 h2 h3
  · by_cases e : i = q + 1
    · by_cases e2 : j = q + 1
      · omega
      · rw [e, nSet_s, nSet_n e2] at he; exact absurd he.symm (hst j (by omega))
    · by_cases e2 : j = q + 1
      · rw [e2, nSet_s, nSet_n e] at he; exact absurd he (hst i (by omega))
      · rw [nSet_n e, nSet_n e2] at he; exact a3 i j (by omega) (by omega) he
  · rw [nSet_n (show i ≠ q + 1 by omega), nSet_n (show i ≠ q + 1 by omega)]
    by_cases e : i = q
    · subst e; rw [nSet_s]; exact ⟨h1th, hn⟩
    · rw [nSet_n (by omega)]; exact a4 i (by omega)
  · rw [hK] at hw
    by_cases e : enC s = enC s'
    · exact Or.inr ⟨q + 1, by omega, by rw [nSet_s]; exact (enC_inj (hs.ok hE) (hs'.ok hE) e).symm⟩
    · rw [if_neg e] at hw
      rcases a5 s w hs hw with z | ⟨i, i1, i2⟩
      · exact Or.inl z
      · exact Or.inr ⟨i, by omega, by rw [nSet_n (by omega)]; exact i2⟩
  · by_cases e : i = cnt
    · rw [e, nSet_s, hK, if_pos rfl]; exact ⟨enC_lt (hs'.ok hE), rfl⟩
    · rw [nSet_n e, hK]
      have := a6 i (by omega)
      refine ⟨this.1, ?_⟩
      split
      · rfl
      · exact this.2
  · have hno : ∀ i, i < cnt → ord i ≠ enC s' := fun i hi z => by have := (a6 i hi).2; rw [z, hu] at this; cases this
    by_cases e : i = cnt
    · by_cases e2 : j = cnt
      · omega
      · rw [e, nSet_s, nSet_n e2] at he; exact absurd he.symm (hno j (by omega))
    · by_cases e2 : j = cnt
      · rw [e2, nSet_s, nSet_n e] at he; exact absurd he (hno i (by omega))
      · rw [nSet_n e, nSet_n e2] at he; exact a7 i j (by omega) (by omega) he
/-- the pending thing leads to a position of which w is known: the last is raised -/
def rsM (M : vM) (p v w : Nat) : vM := if v < w then vUpd M 106 p (M 100 5 * 131072 + ((65536 + w : Nat) : Int)) else M
theorem dfI.rs {E : xE} {M : vM} {q v w : Nat} {st : Nat → xS} {th : Nat → Nat} {cnt : Nat} {ord : Nat → Nat} {s' : xS} (hE : xEok E) (h : dfI E M (q + 1) (q + 2) st th cnt ord) (hth : th q ≤ 4 ∧ 1 ≤ th q) (hn : xn E ((th q - 1 : Nat) : Int) (st q) = some s') (hL : xL E s' w) (hw : w < 32768) (hv : awK M (enC (st q)) = some (65536 + v)) :
    dfI E (rsM M (enC (st q)) v (w + 1)) (q + 1) (q + 1) st th cnt ord := by
  obtain ⟨a1, a2, a3, a4, a5, a6, a7, a8⟩ := h
  have hmono : ∀ {x y : Nat} {z : xS}, x ≤ y → ¬ xcan E x z → ¬ xcan E y z := fun hxy hz hc => hz (xcan_le hxy hc)
  have hth3 : th q - 1 < 4 := by omega
  unfold rsM
  by_cases hvw : v < w + 1
  · rw [if_pos hvw]
    have hK : ∀ p, awK (vUpd M 106 (enC (st q) : Nat) (M 100 5 * 131072 + ((65536 + (w + 1) : Nat) : Int))) p = if p = enC (st q) then some (65536 + (w + 1)) else awK M p := fun p => by
      rw [awK_mark (by omega)]; rfl
    have hen : ∀ i, i < q + 1 → i ≠ q → enC (st i) ≠ enC (st q) := fun i hi e z => e (a3 i q hi (by omega) (enC_inj ((a2 i hi).1.ok hE) ((a2 q (by omega)).1.ok hE) z))
    refine ⟨awM_mark a1 (by omega), fun i hi => ?_, a3, a4, fun s w2 hs hw2 => ?_, fun i hi => ?_, a7, a8⟩
    · obtain ⟨b1, b2, b3, v2, b4, b5, b6, b7⟩ := a2 i hi
      by_cases e : i = q
      · subst e
        rw [hv] at b4
        have e4 : v2 = v := by have := Option.some.inj b4; omega
        subst e4
        refine ⟨b1, b2, by rw [vUpd_nk (by decide)]; exact b3, w + 1, by rw [hK, if_pos rfl], by omega, ⟨th i - 1, s', hth3, hn, hL.1⟩, fun t s2 h1 h2 h3 => ?_⟩
        by_cases e5 : t + 1 = th i
        · rw [show t = th i - 1 by omega, hn] at h3
          cases h3; exact hL.2
        · exact hmono (by omega) (b7 t s2 h1 (fun _ => e5) h3)
      · refine ⟨b1, b2, by rw [vUpd_nk (by decide)]; exact b3, v2, by rw [hK, if_neg (hen i hi e)]; exact b4, b5, b6, fun t s2 h1 h2 h3 => b7 t s2 h1 (fun z => h2 (by omega)) h3⟩
    · rw [hK] at hw2
      by_cases e : enC s = enC (st q)
      · exact Or.inr ⟨q, by omega, (enC_inj (hs.ok hE) ((a2 q (by omega)).1.ok hE) e).symm⟩
      · rw [if_neg e] at hw2; exact a5 s w2 hs hw2
    · rw [hK]
      have := a6 i hi
      refine ⟨this.1, ?_⟩
      split
      · rfl
      · exact this.2
  · rw [if_neg hvw]
    refine ⟨a1, fun i hi => ?_, a3, a4, a5, a6, a7, a8⟩
    obtain ⟨b1, b2, b3, v2, b4, b5, b6, b7⟩ := a2 i hi
    refine ⟨b1, b2, b3, v2, b4, b5, b6, fun t s2 h1 h2 h3 => ?_⟩
    by_cases e : i = q
    · subst e
      rw [hv] at b4
      have e4 : v2 = v := by have := Option.some.inj b4; omega
      subst e4
      by_cases e5 : t + 1 = th i
      · rw [show t = th i - 1 by omega, hn] at h3
        cases h3
        exact hmono (by omega) hL.2
      · exact b7 t s2 h1 (fun _ => e5) h3
    · exact b7 t s2 h1 (fun z => h2 (by omega)) h3
/-- the last is left -/
theorem dfI.top {E : xE} {M : vM} {q : Nat} {st : Nat → xS} {th : Nat → Nat} {cnt : Nat} {ord : Nat → Nat} (hE : xEok E) (h : dfI E M (q + 1) (q + 1) st th cnt ord) (ht : th q = 4) : ∃ v, awK M (enC (st q)) = some (65536 + v) ∧ v < 32768 ∧ xL E (st q) v := by
  obtain ⟨b1, b2, b3, v, b4, b5, b6, b7⟩ := h.2.1 q (by omega)
  have hL : xL E (st q) v := ⟨b6, fun ⟨t, s', h1, h2, h3⟩ => b7 t s' (by omega) (fun z => by omega) h2 h3⟩
  exact ⟨v, b4, xL_lt hE b1 hL, hL⟩
theorem dfI.pop {E : xE} {M : vM} {q v : Nat} {st : Nat → xS} {th : Nat → Nat} {cnt : Nat} {ord : Nat → Nat} (hE : xEok E) (h : dfI E M (q + 1) (q + 1) st th cnt ord) (hv : v < 32768) (hL : xL E (st q) v) :
    dfI E (vUpd M 106 (enC (st q) : Nat) (M 100 5 * 131072 + (v : Int))) q (q + 1) st th cnt ord := by
  obtain ⟨a1, a2, a3, a4, a5, a6, a7, a8⟩ := h
  have hK : ∀ p, awK (vUpd M 106 (enC (st q) : Nat) (M 100 5 * 131072 + (v : Int))) p = if p = enC (st q) then some v else awK M p := fun p => by
    rw [awK_mark (by omega)]; rfl
  have hen : ∀ i, i < q + 1 → i ≠ q → enC (st i) ≠ enC (st q) := fun i hi e z => e (a3 i q hi (by omega) (enC_inj ((a2 i hi).1.ok hE) ((a2 q (by omega)).1.ok hE) z))
  refine ⟨awM_mark a1 (by omega), fun i hi => ?_, fun i j hi hj => a3 i j (by omega) (by omega), fun i hi => a4 i (by omega), fun s w hs hw => ?_, fun i hi => ?_, a7, by omega⟩
  · obtain ⟨b1, b2, b3, v2, b4, b5, b6, b7⟩ := a2 i (by omega)
    exact ⟨b1, b2, by rw [vUpd_nk (by decide)]; exact b3, v2, by rw [hK, if_neg (hen i (by omega) (by omega))]; exact b4, b5, b6, fun t s2 h1 h2 h3 => b7 t s2 h1 h2 h3⟩
  · rw [hK] at hw
    by_cases e : enC s = enC (st q)
    · rw [if_pos e] at hw
      cases hw
      rw [enC_inj (hs.ok hE) ((a2 q (by omega)).1.ok hE) e]
      exact Or.inl (Or.inl ⟨hv, hL⟩)
    · rw [if_neg e] at hw
      rcases a5 s w hs hw with z | ⟨i, i1, i2⟩
      · exact Or.inl z
      · refine Or.inr ⟨i, ?_, i2⟩
        rcases Nat.lt_or_ge i q with z | z
        · exact z
        · rw [show i = q by omega] at i2; rw [i2] at e; exact absurd rfl e
  · rw [hK]
    have := a6 i hi
    refine ⟨this.1, ?_⟩
    split
    · rfl
    · exact this.2
/-- the path comes back, or to where he can go for ever: so from all of it -/
theorem dfI.ever {E : xE} {M : vM} {q w : Nat} {st : Nat → xS} {th : Nat → Nat} {cnt : Nat} {ord : Nat → Nat} {s' : xS} (h : dfI E M (q + 1) (q + 2) st th cnt ord) (hth : 1 ≤ th q ∧ th q ≤ 4) (hn : xn E ((th q - 1 : Nat) : Int) (st q) = some s') (hs' : xSt E s') (hw : awK M (enC s') = some w) (hwe : 65535 ≤ w) : ∀ i, i < q + 1 → xever E (st i) := by
  obtain ⟨a1, a2, a3, a4, a5, a6, a7, a8⟩ := h
  have hch : ∀ i, i < q + 1 → ∃ (t : Nat) (s2 : xS), t < 4 ∧ xn E t (st i) = some s2 ∧ (s2 = s' ∨ (i + 1 < q + 1 ∧ s2 = st (i + 1))) := fun i hi => by
    by_cases e : i = q
    · subst e; exact ⟨th i - 1, s', by omega, hn, Or.inl rfl⟩
    · obtain ⟨b1, b2⟩ := a4 i (by omega)
      exact ⟨th i - 1, st (i + 1), by have := (a2 i hi).2.1; omega, b2, Or.inr ⟨by omega, rfl⟩⟩
  have hall : ∀ k, (xcan E k s' ∧ ∀ i, i < q + 1 → xcan E k (st i)) := fun k => by
    induction k with
    | zero => exact ⟨trivial, fun _ _ => trivial⟩
    | succ k ih =>
      have h2 : ∀ i, i < q + 1 → xcan E (k + 1) (st i) := fun i hi => by
        obtain ⟨t, s2, t1, t2, t3⟩ := hch i hi
        refine ⟨t, s2, t1, t2, ?_⟩
        rcases t3 with z | ⟨z1, z2⟩
        · rw [z]; exact ih.1
        · rw [z2]; exact ih.2 _ z1
      refine ⟨?_, h2⟩
      rcases a5 s' w hs' hw with (⟨z1, z2⟩ | ⟨z1, z2⟩) | ⟨i, i1, i2⟩
      · omega
      · exact z2 _
      · rw [← i2]; exact h2 i i1
  exact fun i hi k => (hall k).2 i hi
