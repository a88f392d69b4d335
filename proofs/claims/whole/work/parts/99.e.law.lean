/-! ===== own: the law's start ===== -/
def lwT : vT := iT_X7 (vClT (iT_X6 (vClT (fun _ _ => none) 0)) 200)
def lwM : vM := iM_X7 (vClr (iM_X6 (vClr (fun _ _ => 0) 0)) 200)
def lwD6 : List Nat := [0] ++ [10] ++ [11] ++ [12] ++ [13] ++ [14] ++ [15] ++ [20] ++ [21] ++ [22] ++ [23] ++ [24] ++ [25] ++ [1] ++ [60] ++ [61] ++ [62] ++ [70] ++ [30] ++ [31] ++ [32] ++ [33] ++ [34] ++ [35] ++ [76] ++ [77] ++ [80] ++ [81] ++ [82] ++ [83] ++ [90] ++ [91] ++ [92] ++ [100] ++ [102] ++ [103] ++ [104]
def lwD7 : List Nat := lwD6 ++ [200]
def lwD : List Nat := lwD7 ++ [201] ++ [202] ++ [203] ++ [204] ++ [211] ++ [212] ++ [218] ++ [219] ++ [220] ++ [222] ++ [226] ++ [227] ++ [228] ++ [229] ++ [231] ++ [233] ++ [234] ++ [235] ++ [236] ++ [237] ++ [238]
theorem lwB_all : ∀ e ∈ vBl, lwT (e.1 / 64) (e.1 % 64) = some e.2 := by decide +kernel
theorem lwB : vB lwT := by
  intro k j v h
  obtain ⟨h1, h2⟩ := vBt_mem h
  have h3 := lwB_all _ h2
  have e1 : (64 * k + j) / 64 = k := by omega
  have e2 : (64 * k + j) % 64 = j := by omega
  simp only [e1, e2] at h3
  exact h3
theorem lwM_0 : (∀ j, lwM 11 j = 0) ∧ (∀ j, lwM 12 j = 0) ∧ (∀ j, lwM 13 j = 0) ∧ (∀ j, lwM 14 j = 0) ∧ (∀ j, lwM 15 j = vFi j) := ⟨fun _ => rfl, fun _ => rfl, fun _ => rfl, fun _ => rfl, fun _ => rfl⟩
theorem lwM_2 : (∀ j, lwM 21 j = 0) ∧ (∀ j, lwM 22 j = 0) ∧ (∀ j, lwM 23 j = 0) ∧ (∀ j, lwM 24 j = 0) ∧ (∀ j, lwM 25 j = vFi j) := ⟨fun _ => rfl, fun _ => rfl, fun _ => rfl, fun _ => rfl, fun _ => rfl⟩
theorem lwM_3 : (∀ j, lwM 31 j = 0) ∧ (∀ j, lwM 32 j = 0) ∧ (∀ j, lwM 33 j = 0) ∧ (∀ j, lwM 34 j = 0) ∧ (∀ j, lwM 35 j = vFi j) := ⟨fun _ => rfl, fun _ => rfl, fun _ => rfl, fun _ => rfl, fun _ => rfl⟩
theorem lwM_4 : (∀ j, lwM 201 j = 0) ∧ (∀ j, lwM 202 j = 0) ∧ (∀ j, lwM 203 j = 0) ∧ (∀ j, lwM 204 j = 0) ∧ (∀ j, lwM 211 j = 0) ∧ (∀ j, lwM 212 j = 0) ∧ (∀ j, lwM 61 j = 0) ∧ (∀ j, lwM 220 j = 0) ∧ (∀ j, lwM 238 j = 0) := ⟨fun _ => rfl, fun _ => rfl, fun _ => rfl, fun _ => rfl, fun _ => rfl, fun _ => rfl, fun _ => rfl, fun _ => rfl, fun _ => rfl⟩
theorem lwM_5 : lwM 10 0 = 0 ∧ lwM 200 4 = 0 ∧ lwM 200 5 = 0 ∧ lwM 200 6 = 3 ∧ lwM 200 7 = 4 ∧ lwM 200 8 = 0 ∧ lwM 200 9 = 2 ∧ lwM 200 20 = 0 ∧ lwM 200 31 = -6 ∧ lwM 60 0 = 0 ∧ lwM 100 5 = 0 := by decide +kernel
theorem vFi_z (j : Int) (h : j < 0 ∨ 5 ≤ j) : vFi j = 0 := by unfold vFi; rw [if_neg (by omega)]
theorem lw_sgZ {M : vM} {a : Nat} (h1 : ∀ j, M (a + 1) j = 0) (h2 : ∀ j, M (a + 2) j = 0) (h3 : ∀ j, M (a + 3) j = 0) (h4 : ∀ j, M (a + 4) j = 0) (h5 : ∀ j, M (a + 5) j = vFi j) : sgZ M a :=
  ⟨fun j _ => ⟨h1 j, h2 j, h3 j, h4 j⟩, fun j hj => by rw [h5 j]; exact vFi_z j hj⟩
theorem lwD_rm : (lwD.length + rLn lwT ≤ 600000 ∧ vSz lwD + rSz lwT ≤ 7302250) ∧ (lwT 1 0 = none ∧ lwT 1 1 = none ∧ lwT 100 6 = none) := by decide +kernel
theorem lw_RR : RR lwD lwT lwM := by
  obtain ⟨a1, a2, a3, a4, a5⟩ := lwM_0
  obtain ⟨b1, b2, b3, b4, b5⟩ := lwM_2
  obtain ⟨c1, c2, c3, c4, c5⟩ := lwM_3
  obtain ⟨e1, e2, e3, e4, e5, e6, e7, e8, e9⟩ := lwM_4
  obtain ⟨f1, f2, f3, f4, f5, f6, f7, f8, f9, f10, f11⟩ := lwM_5
  obtain ⟨⟨r1, r2⟩, r3, r4, r5⟩ := lwD_rm
  have hse : seM lwM = lwM 15 := by
    funext j
    rw [a5 j]
    unfold seM
    rw [f3, f4, f5, f6, f7]
    by_cases hj : j < 0 ∨ 5 ≤ j
    · rw [vFi_z j hj, if_neg (by omega), if_neg (by omega), if_neg (by omega), if_neg (by omega), if_neg (by omega)]
    · have : j = 0 ∨ j = 1 ∨ j = 2 ∨ j = 3 ∨ j = 4 := by omega
      rcases this with z | z | z | z | z <;> rw [z] <;> rfl
  have s0 : lwM 15 0 = 0 := a5 0
  have s1 : lwM 15 1 = 3 := a5 1
  have s2 : lwM 15 2 = 4 := a5 2
  have s3 : lwM 15 3 = 0 := a5 3
  have s4 : lwM 15 4 = 2 := a5 4
  have hpw : pW 0 (lwM 11) (lwM 12) (lwM 13) (lwM 14) (lwM 15) := by
    refine ⟨by omega, fun j _ => ⟨a1 j, a2 j, a3 j, a4 j⟩, fun j hj => by rw [a5 j]; exact vFi_z j hj, fun j => by rw [a1 j]; omega, fun j => by rw [a2 j]; omega, fun j => by rw [a3 j]; omega, fun j => by rw [a4 j, a2 j]; omega, by rw [s0]; omega, by rw [s1]; omega, by rw [s2]; omega, by rw [s3]; omega, by rw [s4]; omega, fun j hj => by omega, fun i j hi _ _ => by omega⟩
  have fe : ∀ {f g : Int → Int}, (∀ j, f j = 0) → (∀ j, g j = 0) → f = g := fun h1 h2 => funext fun j => by rw [h1 j, h2 j]
  refine ⟨0, 0, lwB, ⟨⟨f1, hpw⟩, f2, ⟨fun j => by rw [e5]; omega, fun j => by rw [e6]; omega⟩, fe e1 a1, fe e2 a2, fe e3 a3, fe e4 a4, hse⟩, ⟨f10, f8, by omega, fe e8 e7⟩, ⟨lw_sgZ b1 b2 b3 b4 b5, lw_sgZ c1 c2 c3 c4 c5⟩, Or.inl f9, ⟨Or.inl ⟨r3, e9 _⟩, Or.inl ⟨r4, e9 _⟩⟩, Or.inl ⟨r5, by rw [f11]; omega, by rw [f11]; omega⟩, ⟨fun _ => by decide +kernel, fun _ => by decide +kernel, fun _ => by decide +kernel, r1, r2⟩⟩
/-- a table that a static holds -/
theorem lw_st1 {args : Array Value} {s : State} {n : String} {f : Nat → Int} {q : vQc} (hl : (Cond.laysStatic "SpunPlates" n "[I").before args s = true) (hini : (Cond.initialized "SpunPlates").before args s = true) (harr : (Cond.arrayOf (.static "SpunPlates" n "[I") .int).before args s = true) (hlen : (Cond.eq (.length (.static "SpunPlates" n "[I")) (.int 5)).before args s = true)
    (hel : ∀ j : Nat, j < 5 → (Cond.eq (.elem (.static "SpunPlates" n "[I") (.int (Int32.ofNat j))) (.int (Int32.ofInt (f j)))).before args s = true) (hex : (Cond.exactly (.static "SpunPlates" n "[I") "[I").before args s = true) (hq : s.vm.findClass "[I" = some q.1) : vSt1 n f q (fun z => s.heap.size ≤ z) s s.heap := by
  have hv := va_eqt hlen
  obtain ⟨t, ht, hT⟩ := va_Tof (N := 5) (ty := .int) (f := fun j => .int (Int32.ofInt (f j))) (A := fun z => s.heap.size ≤ z) (by decide) harr hv (fun j hj => va_eqt (hel j hj)) (fun a ha => Nat.not_le.mpr ha)
  refine ⟨t, va_Zref hl hini ht (fun a ha => Nat.not_le.mpr ha), hT, ?_⟩
  obtain ⟨a, c, cell, k, h1, h2, h3, h4, h5, h6, -⟩ := Cond.exactly_spec hex
  cases ht.symm.trans h1
  obtain ⟨cell2, g1, g2, g3, g4, g5, g6, g7⟩ := hT
  cases h3.symm.trans g1
  obtain ⟨b', cell', ht', harr', -⟩ := Term.length_spec hv
  cases ht.symm.trans ht'
  obtain ⟨hc', -, -, -⟩ := State.arrayAt?_spec harr'
  cases g1.symm.trans hc'
  have hsz : cell.slots.size < 2147483648 := by
    simp only [Term.eval, Option.bind_eq_bind] at hv
    simp only [Term.eval, Option.bind_eq_bind] at ht
    rw [ht] at hv
    simp only [Option.bind_some, harr'] at hv
    by_cases hlt : cell.slots.size < 2147483648
    · exact hlt
    · simp [hlt] at hv
  refine ⟨cell, g1, ?_, ?_, (fun k hk => by rw [hk] at h5; cases h5), g3⟩
  · rw [h6]; exact Option.some.inj (h2.symm.trans hq)
  · have e : Int32.ofInt (cell.slots.size : Int) = Int32.ofInt ((5 : Nat) : Int) := by
      rw [i32_nat, i32_nat]; exact g5
    have := (i32_eq ⟨by omega, by omega⟩ ⟨by omega, by omega⟩).mp e
    omega
theorem lw_words : (∀ z ∈ vNm, Cond.methodLinkNest z.1 z.2.1 z.2.2 "SpunPlates" ∈ lw_tbl) ∧ Cond.fieldLinkNest RX3 24 "SpunPlates" "SETTING_FIRST" "[I" "SpunPlates" ∈ lw_tbl ∧ Cond.castable "[I" "java/lang/Cloneable" ∈ lw_tbl ∧ Cond.arrayOver (.object RX3) ∈ lw_tbl ∧ Cond.initialized "SpunPlates" ∈ lw_tbl ∧ Cond.laysStatic "SpunPlates" "SETTING_LEAST" "[I" ∈ lw_tbl ∧ Cond.laysStatic "SpunPlates" "SETTING_MOST" "[I" ∈ lw_tbl ∧ Cond.laysStatic "SpunPlates" "SETTING_FIRST" "[I" ∈ lw_tbl := by decide +kernel
theorem lw_five {P : Nat → Prop} (h0 : P 0) (h1 : P 1) (h2 : P 2) (h3 : P 3) (h4 : P 4) : ∀ j : Nat, j < 5 → P j := fun j hj => by
  match j, hj with
  | 0, _ => exact h0
  | 1, _ => exact h1
  | 2, _ => exact h2
  | 3, _ => exact h3
  | 4, _ => exact h4
  | j + 5, hj => omega
theorem lw_X {p : Program} {s : State} {m : MethodId} {meth : Method} {c : Code} {b L : Nat} {xs : Nat → Int32} (C0 : lw_At p s m meth c b L xs) : ∃ (D : va_G) (q : vQc), vX (m_Lw meth.name) p s m #[Value.ref b] meth c D q (fun z => s.heap.size ≤ z) := by
  obtain ⟨hx, hb, hr, hml, hown, hts, hX, hbl, hlocks, hgv⟩ := C0
  obtain ⟨w1, w2, w3, w4, w5, w6, w7, w8⟩ := lw_words
  have htb : ∀ w ∈ vTb, w.before #[Value.ref b] s = true := fun w hw => hts w (List.mem_filter.mp hw).1
  have hcl : ∀ k : Nat, ∃ z : ClassId × (Nat → Nat), ∀ q : vw_C, vCl[k]? = some q → u_Kn s q.1 q.2.1 q.2.2 z.1 z.2 := by
    intro k
    cases hq : vCl[k]? with
    | none => exact ⟨(m.cls, fun _ => 0), fun q h => by cases h⟩
    | some q =>
      obtain ⟨C, TT, N⟩ := q
      obtain ⟨e1, e2, e3, e4, e5, e6, e7⟩ := vCl_ok hq
      obtain ⟨cC, iS, hK⟩ := u_known (C := C) (T := TT) (N := N) (n := N) htb e2 (htb _ e5)
      exact ⟨(cC, iS), fun q h => by cases h; exact hK⟩
  obtain ⟨g, hg⟩ := Classical.axiomOfChoice hcl
  obtain ⟨cI, kI, pI, i1, i2, i3⟩ := Cond.arrayClass_spec (htb _ ac_int)
  obtain ⟨cZ, kZ, pZ, z1, z2, z3⟩ := Cond.arrayClass_spec (htb _ ac_bool)
  obtain ⟨pS, cS, kS, o1, o2, o3, o4, o5⟩ := Cond.arrayOver_spec (hts _ w4)
  have hs := flat_of_before _ hgv
  have hini := hts _ w5
  refine ⟨(fun k => (g k).1, fun k => (g k).2), (cI, cZ, cS), hx, hb, hml, hown, htb, hr, hlocks, rfl, ⟨fun k q h => hg k q h, fun k q h => ?_⟩, fun _ h => h, ⟨?_, ?_, ?_⟩, fun z hz => va_Nw.of rfl (hts _ (w1 z hz)), va_Nw.of rfl (hts _ w2), va_Nw.of rfl (hts _ w3), va_AO.of (hts _ w4)⟩
  · match k, h with
    | 0, h => cases h; exact ⟨fun n z => ⟨fun k h => (by cases h), kI, i2, pI, i3⟩, i1⟩
    | 1, h => cases h; exact ⟨fun n z => ⟨fun k h => (by cases h), kZ, z2, pZ, z3⟩, z1⟩
    | 2, h => cases h; exact ⟨fun n z => ⟨fun k h => (by cases h), kS, o3, pS, o4⟩, kS, pS, o3, o4, o1, o5⟩
    | k + 3, h => cases h
  · exact lw_st1 (hts _ w6) hini (hs _ (by decide +kernel)) (hs _ (by decide +kernel)) (lw_five (hs _ (by decide +kernel)) (hs _ (by decide +kernel)) (hs _ (by decide +kernel)) (hs _ (by decide +kernel)) (hs _ (by decide +kernel))) (hs _ (by decide +kernel)) i1
  · exact lw_st1 (hts _ w7) hini (hs _ (by decide +kernel)) (hs _ (by decide +kernel)) (lw_five (hs _ (by decide +kernel)) (hs _ (by decide +kernel)) (hs _ (by decide +kernel)) (hs _ (by decide +kernel)) (hs _ (by decide +kernel))) (hs _ (by decide +kernel)) i1
  · exact lw_st1 (hts _ w8) hini (hs _ (by decide +kernel)) (hs _ (by decide +kernel)) (lw_five (hs _ (by decide +kernel)) (hs _ (by decide +kernel)) (hs _ (by decide +kernel)) (hs _ (by decide +kernel)) (hs _ (by decide +kernel))) (hs _ (by decide +kernel)) i1
theorem lw_y0 {b L : Nat} {xs : Nat → Int32} (hL : L ≤ 2048) : vY b L xs 0 [none, none, none, none] [] [] (fun _ _ => none) (fun _ _ => 0) := by
  refine vY.make (k := 0) (ci := 6) (d1 := lwD6) (f := m_X6_init) dL_law_0 dL_law_3 dL_law_4 rfl cl_L_7 rfl (by decide) ml_L_9 cw_X6_init rfl iw_X6_init ⟨by decide, by decide⟩ c_X6_init (Nat.le_of_ble_eq_true rfl) (by decide +kernel) (by unfold vRg; decide +kernel) ?_
  rintro T1 M1 ⟨rfl, rfl⟩
  refine vY.astore_n (L' := [none, some (vR 0), none, none]) dL_law_7 (by decide) rfl ?_
  refine vY.make (k := 200) (ci := 7) (d1 := lwD) (f := m_X7_init) dL_law_8 dL_law_11 dL_law_12 rfl cl_L_10 rfl (by decide) ml_L_12 cw_X7_init rfl iw_X7_init ⟨by decide, by decide⟩ (c_X7_init (by decide) (by decide) (by decide) (by decide) (by decide) (by decide) (by decide) (by decide) (by decide) (by decide) (by decide) (by decide) (by decide) (by decide) (by decide) (by decide) (by decide) (by decide) (by decide) (by decide) (by decide)) (Nat.le_of_ble_eq_true rfl) (by decide +kernel) (by unfold vRg; decide +kernel) ?_
  rintro T1 M1 ⟨rfl, rfl⟩
  refine vY.astore_n (L' := [none, some (vR 0), some (vR 200), none]) dL_law_15 (by decide) rfl ?_
  refine vY.iconst dL_law_16 (by decide) ?_
  refine vY.istore_n (L' := lcL 0) dL_law_17 (by decide) rfl ?_
  exact law_loop hL (L + 1) 0 lwD lwT lwM (Nat.zero_le L) (by omega) lw_RR
/-- the law, from its entry -/
theorem whole_start {p : Program} {e : Env} {s : State} {m : MethodId} {below : List Frame} {meth : Method} {c : Code} (l : Launch) {b L : Nat} {xs : Nat → Int32} (hL : L ≤ 2048) (C0 : lw_At p s m meth c b L xs) : W p l e room_1 s m #[Value.ref b] below meth c s.heap [] 0 0 (lw_Z below #[Value.ref b] s) (entryFrame m ([Value.ref b] : List Value).toArray 4) := by
  obtain ⟨D, q, hX⟩ := lw_X C0
  obtain ⟨hx, hb, hr, hml, hown, hts, hsc, hbl, hlocks, hgv⟩ := id C0
  have hl := lv_entry ([.ref b]) (n := 4) (Nat.le_of_ble_eq_true rfl)
  rw [lg_entry_eq]
  generalize (lg_sl ([.ref b]) ++ List.replicate (4 - (lg_sl ([.ref b])).length) Slot.unset).toArray = ls at hl ⊢
  have hl2 : lv_has ls 4 [(0, .ref b)] := hl
  have hw : vW q (fun _ => 0) [] (fun _ _ => none) (fun _ _ => 0) = [] := rfl
  have h := lw_y0 (b := b) (xs := xs) hL l p e s m below meth c D q (fun _ => 0) s.heap [] ls ⟨hX, hsc, hbl, ⟨by rw [hw]; exact fun k q h => by simp at h, by rw [hw]; exact ⟨fun i j p q h => by simp at h, fun k q h => by simp at h⟩, va_S.rf, ⟨fun k j => (show vIn 0 from by decide), fun k j v h => by cases h⟩, fun k hk => by cases hk⟩, ⟨⟨hl2.1, hl2.2.1, fun z hz => ?_⟩, hl2.2.2 (0, Value.ref b) (by simp)⟩, fun i v hi => ?_, by decide, by decide⟩ (fun v hv => by cases hv)
  · exact h
  · obtain ⟨v, hv, -⟩ := vl_mem.mp hz
    have : ∀ i : Nat, ([none, none, none, none] : List (Option vA))[i]? ≠ some (some v) := fun i z => by
      match i, z with
      | 0, z => cases z
      | 1, z => cases z
      | 2, z => cases z
      | 3, z => cases z
      | i + 4, z => cases z
    exact absurd hv (this _)
  · match i, hi with
    | 0, z => cases z
    | 1, z => cases z
    | 2, z => cases z
    | 3, z => cases z
    | i + 4, z => cases z
