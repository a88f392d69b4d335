/-! ===== own: the law's own judgement ===== -/
abbrev m_Lw (nm : String) : vMt := (⟨RL, nm, "([I)Z"⟩, cL_law, 4, some .boolean, 10, 358)
def vYc (b L : Nat) (xs : Nat → Int32) (Lc : List (Option vA)) (d : List Nat) (T : vT) (M : vM) (p : Program) (s : State) (m : MethodId) (meth : Method) (c : Code) (D : va_G) (q : vQc) (ρ : Nat → Nat) (H : Heap) (locs : List Loc) (ls : Array Slot) : Prop :=
  vX (m_Lw meth.name) p s m #[Value.ref b] meth c D q (fun z => s.heap.size ≤ z) ∧ va_X b L xs s s.heap ∧ b < s.heap.size ∧ vS D q (fun z => s.heap.size ≤ z) s.heap ρ [] ρ d T M H locs ∧ (lv_has ls 4 (vl ρ Lc) ∧ ls[0]? = some (.val (.ref b))) ∧ vLok d Lc ∧ d.length ≤ 600000 ∧ vSz d ≤ 7302250
def vY (b L : Nat) (xs : Nat → Int32) (pc : Nat) (Lc : List (Option vA)) (S : List vA) (d : List Nat) (T : vT) (M : vM) : Prop :=
  ∀ (l : Launch) (p : Program) (e : Env) (s : State) (m : MethodId) (below : List Frame) (meth : Method) (c : Code) (D : va_G) (q : vQc) (ρ : Nat → Nat) (H : Heap) (locs : List Loc) (ls : Array Slot),
    vYc b L xs Lc d T M p s m meth c D q ρ H locs ls → (∀ v ∈ S, vOk d v) → W p l e room_1 s m #[Value.ref b] below meth c H locs d.length (vSz d) (lw_Z below #[Value.ref b] s) (F0 m pc ls (S.map (vc ρ)))
section VY
variable {b L : Nat} {xs : Nat → Int32} {pc : Nat} {Lc : List (Option vA)} {S rest : List vA} {d d1 : List Nat} {T : vT} {M : vM}
theorem vY.pure {pc' : Nat} {S' : List vA} (k : vY b L xs pc' Lc S' d T M) (hok : vLok d Lc → (∀ v ∈ S, vOk d v) → ∀ v ∈ S', vOk d v)
    (hW : ∀ (p : Program) (l : Launch) (e : Env) (R : Room) (s : State) (m : MethodId) (args : Array Value) (below : List Frame) (meth : Method) (c : Code) (H : Heap) (locs : List Loc) (cells slots : Nat) (Z : State → Prop) (ls : Array Slot) (ρ : Nat → Nat), p.tables.exec = Jvm.exec → c.code = cL_law → lv_has ls 4 (vl ρ Lc) →
      W p l e R s m args below meth c H locs cells slots Z (F0 m pc' ls (S'.map (vc ρ))) → W p l e R s m args below meth c H locs cells slots Z (F0 m pc ls (S.map (vc ρ)))) : vY b L xs pc Lc S d T M := by
  intro l p e s m below meth c D q ρ H locs ls hC hs
  exact hW p l e _ s m _ below meth c H locs _ _ _ ls ρ hC.1.1 hC.1.2.1 hC.2.2.2.2.1.1 (k l p e s m below meth c D q ρ H locs ls hC (hok hC.2.2.2.2.2.1 hs))
theorem vY.iconst {n : Int} (hd : decode cL_law pc = .ok (.iconst n, 1)) (h : vIn n) (k : vY b L xs (pc + 1) Lc (vI n :: S) d T M) : vY b L xs pc Lc S d T M :=
  k.pure (fun _ hs => vOk_c h hs) (fun p l e R s m args below meth c H locs cells slots Z ls ρ hx hb hl kk => lv_iconst hx hb hd rfl kk)
theorem vY.aload_n {i : Fin 4} {a : Nat} (hd : decode cL_law pc = .ok (.aload_n i, 1)) (hi : Lc[(i : Nat)]? = some (some (vR a))) (k : vY b L xs (pc + 1) Lc (vR a :: S) d T M) : vY b L xs pc Lc S d T M :=
  k.pure (fun hL hs => vOk_c (hL _ _ hi).1 hs) (fun p l e R s m args below meth c H locs cells slots Z ls ρ hx hb hl kk => lv_aload_n hx hb hd rfl (vl_at hl hi) kk)
theorem vY.goto {off : Int} {tgt : Nat} (hd : decode cL_law pc = .ok (.goto off, 3)) (ht : (pc : Int) + off = (tgt : Int)) (k : vY b L xs tgt Lc S d T M) : vY b L xs pc Lc S d T M :=
  k.pure (fun _ hs => hs) (fun p l e R s m args below meth c H locs cells slots Z ls ρ hx hb hl kk => lv_goto hx hb hd ht kk)
theorem vY.same {r : Int} {off : Int} {tgt : Nat} (hd : decode cL_law pc = .ok (.if_icmp .eq off, 3)) (ht : (pc : Int) + off = (tgt : Int)) (k : vY b L xs tgt Lc S d T M) : vY b L xs pc Lc (vI r :: vI r :: S) d T M :=
  k.pure (fun _ hs => vOk_t (vOk_t hs)) (fun p l e R s m args below meth c H locs cells slots Z ls ρ hx hb hl kk => lv_icmp_eq hx hb hd ht (fun _ => kk) (fun z => absurd rfl z))
/-- a store -/
theorem vYc.set {p : Program} {s : State} {m : MethodId} {meth : Method} {c : Code} {D : va_G} {q : vQc} {ρ : Nat → Nat} {H : Heap} {locs : List Loc} {ls ls' : Array Slot} {i : Nat} {v : vA} (h : vYc b L xs Lc d T M p s m meth c D q ρ H locs ls) (hi : i ≠ 0) (hv : vOk d v) (hg : vLg v = false)
    (h' : lv_has ls' 4 ((i, vc ρ v) :: ((0, Value.ref b) :: vl ρ Lc).filter (fun q => !(q.1 == i) && !(q.1 + 1 == i && q.2.category == 2)))) : vYc b L xs (Lc.set i (some v)) d T M p s m meth c D q ρ H locs ls' := by
  obtain ⟨hX, hs, hb, hS, hl, hL, hd⟩ := h
  have e : ((0, Value.ref b) :: vl ρ Lc).filter (fun q => !(q.1 == i) && !(q.1 + 1 == i && q.2.category == 2)) = (0, Value.ref b) :: (vl ρ Lc).filter (fun q => !(q.1 == i) && !(q.1 + 1 == i && q.2.category == 2)) := by
    rw [List.filter_cons_of_pos]
    have : ¬ (0 : Nat) = i := fun z => hi z.symm
    have h2 : (Value.ref b).category = 1 := rfl
    simp [this, h2]
  rw [e] at h'
  refine ⟨hX, hs, hb, hS, ⟨vl_set hL ⟨h'.1, h'.2.1, fun z hz => h'.2.2 z ?_⟩, h'.2.2 (0, Value.ref b) (by simp)⟩, vLok_set hL hv hg, hd⟩
  rcases List.mem_cons.mp hz with z | z
  · exact List.mem_cons.mpr (Or.inl z)
  · exact List.mem_cons_of_mem _ (List.mem_cons_of_mem _ z)
theorem vYc.all {p : Program} {s : State} {m : MethodId} {meth : Method} {c : Code} {D : va_G} {q : vQc} {ρ : Nat → Nat} {H : Heap} {locs : List Loc} {ls : Array Slot} (h : vYc b L xs Lc d T M p s m meth c D q ρ H locs ls) : lv_has ls 4 ((0, Value.ref b) :: vl ρ Lc) := by
  obtain ⟨hl, h0⟩ := h.2.2.2.2.1
  refine ⟨hl.1, hl.2.1, fun z hz => ?_⟩
  rcases List.mem_cons.mp hz with z | z
  · subst z; exact h0
  · exact hl.2.2 _ z
theorem vY.astore_n {i : Fin 4} {a : Nat} {L' : List (Option vA)} (hd : decode cL_law pc = .ok (.astore_n i, 1)) (hi : (i : Nat) ≠ 0) (hL' : Lc.set (i : Nat) (some (vR a)) = L') (k : vY b L xs (pc + 1) L' S d T M) : vY b L xs pc Lc (vR a :: S) d T M := by
  intro l p e s m below meth c D q ρ H locs ls hC hs
  subst hL'
  exact lv_astore_n hC.1.1 hC.1.2.1 hd rfl hC.all i.isLt rfl fun ls' hl' => k l p e s m below meth c D q ρ H locs ls' (hC.set (v := vR a) hi (vOk_h hs) rfl hl') (vOk_t hs)
theorem vY.istore_n {i : Fin 4} {x : Int} {L' : List (Option vA)} (hd : decode cL_law pc = .ok (.istore_n i, 1)) (hi : (i : Nat) ≠ 0) (hL' : Lc.set (i : Nat) (some (vI x)) = L') (k : vY b L xs (pc + 1) L' S d T M) : vY b L xs pc Lc (vI x :: S) d T M := by
  intro l p e s m below meth c D q ρ H locs ls hC hs
  subst hL'
  exact lv_istore_n hC.1.1 hC.1.2.1 hd rfl hC.all i.isLt rfl fun ls' hl' => k l p e s m below meth c D q ρ H locs ls' (hC.set (v := vI x) hi (vOk_h hs) rfl hl') (vOk_t hs)
theorem vY.iinc {i : Nat} {n x : Int} {L' : List (Option vA)} (hd : decode cL_law pc = .ok (.iinc i n, 3)) (hi0 : i ≠ 0) (hlt : i < 4) (hi : Lc[i]? = some (some (vI x))) (h : vIn (x + n)) (hL' : Lc.set i (some (vI (x + n))) = L') (k : vY b L xs (pc + 3) L' S d T M) : vY b L xs pc Lc S d T M := by
  intro l p e s m below meth c D q ρ H locs ls hC hs
  subst hL'
  obtain ⟨j, hj⟩ := List.getElem?_of_mem (List.mem_cons_of_mem (0, Value.ref b) (vl_mem (ρ := ρ) (q := (i, vc ρ (vI x))).mpr ⟨vI x, hi, rfl⟩))
  exact lv_iinc (v := Int32.ofInt (x + n)) hC.1.1 hC.1.2.1 hd hC.all hj (by rw [Int32.ofInt_add]) hlt rfl fun ls' hl' => k l p e s m below meth c D q ρ H locs ls' (hC.set (v := vI (x + n)) hi0 h rfl hl') hs
/-- script[i + k] -/
theorem vY.arg {i k : Nat} (hL : Lc[3]? = some (some (vI i))) (hk : i + k < L) (hL2 : L ≤ 2048) (d1 : decode cL_law pc = .ok (.aload_n 0, 1)) (d2 : decode cL_law (pc + 1) = .ok (.iload_n 3, 1)) (d3 : decode cL_law (pc + 2) = .ok (.iconst k, 1)) (d4 : decode cL_law (pc + 3) = .ok (.iadd, 1)) (d5 : decode cL_law (pc + 4) = .ok (.iaload, 1))
    (kk : vY b L xs (pc + 5) Lc (vI (xs (i + k)).toInt :: S) d T M) : vY b L xs pc Lc S d T M := by
  intro l p e s m below meth c D q ρ H locs ls hC hs
  have h9 := kk l p e s m below meth c D q ρ H locs ls hC (vOk_c (v := vI _) (i32_rg _) hs)
  obtain ⟨hX, hsc, hb, hS, ⟨hl, h0⟩, hLk, hd⟩ := id hC
  refine lv_aload_n hX.1 hX.2.1 d1 rfl h0 ?_
  refine lv_iload_n hX.1 hX.2.1 d2 rfl (vl_at hl hL) ?_
  refine lv_iconst hX.1 hX.2.1 d3 rfl ?_
  refine lv_iadd hX.1 hX.2.1 d4 ?_
  have e1 : Int32.ofInt (i : Int) + Int32.ofInt (k : Int) = nI (i + k) := by
    rw [← Int32.ofInt_add, ← i32_nat]; rfl
  rw [e1]
  refine va_sld hX.1 hX.2.1 hsc hb (Nat.not_le.mpr hb) hS.2.2.1 (vp_in_nI hk (by omega)) d5 ?_
  have e2 : (nI (i + k)).toNatClampNeg = i + k := by
    rw [← i32_nat]
    show (Int32.ofInt ((i + k : Nat) : Int)).toInt.toNat = i + k
    rw [i32_in ⟨by omega, by omega⟩]; omega
  rw [e2]
  have e3 : Value.int (xs (i + k)) = vc ρ (vI (xs (i + k)).toInt) := by
    show Value.int (xs (i + k)) = Value.int (Int32.ofInt (xs (i + k)).toInt)
    rw [i32_of]
  rw [e3]
  exact h9
/-- the loop's head -/
theorem vY.head {i : Nat} {off : Int} {tgt : Nat} (hL : Lc[3]? = some (some (vI i))) (hL2 : L ≤ 2048) (hi : i ≤ 4096) (d1 : decode cL_law pc = .ok (.iload_n 3, 1)) (d2 : decode cL_law (pc + 1) = .ok (.aload_n 0, 1)) (d3 : decode cL_law (pc + 2) = .ok (.arraylength, 1)) (d4 : decode cL_law (pc + 3) = .ok (.iconst 4, 1)) (d5 : decode cL_law (pc + 4) = .ok (.isub, 1)) (d6 : decode cL_law (pc + 5) = .ok (.if_icmp .gt off, 3)) (ht : ((pc + 5 : Nat) : Int) + off = (tgt : Int))
    (kt : (L : Int) - 4 < i → vY b L xs tgt Lc S d T M) (kf : (i : Int) ≤ L - 4 → vY b L xs (pc + 8) Lc S d T M) : vY b L xs pc Lc S d T M := by
  intro l p e s m below meth c D q ρ H locs ls hC hs
  obtain ⟨hX, hsc, hb, hS, ⟨hl, h0⟩, hLk, hd⟩ := id hC
  refine lv_iload_n hX.1 hX.2.1 d1 rfl (vl_at hl hL) ?_
  refine lv_aload_n hX.1 hX.2.1 d2 rfl h0 ?_
  refine va_slen hX.1 hX.2.1 hsc hb (Nat.not_le.mpr hb) hS.2.2.1 d3 ?_
  refine lv_iconst hX.1 hX.2.1 d4 rfl ?_
  refine lv_isub hX.1 hX.2.1 d5 ?_
  have e1 : Int32.ofNat L - Int32.ofInt 4 = Int32.ofInt ((L : Int) - 4) := by
    rw [show Int32.ofNat L = Int32.ofInt (L : Int) from (i32_nat L).symm, ← Int32.ofInt_sub]
  rw [e1]
  have r1 : vIn ((L : Int) - 4) := ⟨by omega, by omega⟩
  have r2 : vIn (i : Int) := ⟨by omega, by omega⟩
  refine lv_icmp_gt hX.1 hX.2.1 d6 ht (fun z => kt ((i32_lt r1 r2).mp z) l p e s m below meth c D q ρ H locs ls hC hs) (fun z => kf (Int.not_lt.mp (fun y => z ((i32_lt r1 r2).mpr y))) l p e s m below meth c D q ρ H locs ls hC hs)
/-- the switch -/
theorem vY.sw {i : Nat} {dflt : Int} {offs : Array Int} {len tgt : Nat} (hL : Lc[3]? = some (some (vI i))) (hk : i < L) (hL2 : L ≤ 2048) (d1 : decode cL_law pc = .ok (.aload_n 0, 1)) (d2 : decode cL_law (pc + 1) = .ok (.iload_n 3, 1)) (d3 : decode cL_law (pc + 2) = .ok (.iaload, 1)) (d4 : decode cL_law (pc + 3) = .ok (.bipush 31, 2)) (d5 : decode cL_law (pc + 5) = .ok (.iand, 1)) (d6 : decode cL_law (pc + 6) = .ok (.tableswitch dflt 0 26 offs, len)) (ht : ((pc + 6 : Nat) : Int) + dflt = (tgt : Int))
    (hof : ∀ j : Nat, j < 27 → ∃ t : Nat, offs[j]? = some ((t : Int) - ((pc + 6 : Nat) : Int)) ∧ vY b L xs t Lc S d T M) (kd : vY b L xs tgt Lc S d T M) : vY b L xs pc Lc S d T M := by
  intro l p e s m below meth c D q ρ H locs ls hC hs
  obtain ⟨hX, hsc, hb, hS, ⟨hl, h0⟩, hLk, hd⟩ := id hC
  refine lv_aload_n hX.1 hX.2.1 d1 rfl h0 ?_
  refine lv_iload_n hX.1 hX.2.1 d2 rfl (vl_at hl hL) ?_
  show W p l e room_1 s m _ below meth c H locs _ _ _ (F0 m _ ls (Value.int (Int32.ofInt (i : Int)) :: _))
  rw [i32_nat]
  refine va_sld hX.1 hX.2.1 hsc hb (Nat.not_le.mpr hb) hS.2.2.1 (vp_in_nI hk (by omega)) d3 ?_
  refine lv_bipush hX.1 hX.2.1 d4 rfl ?_
  refine lv_iand hX.1 hX.2.1 d5 ?_
  refine lv_topi (fun x _ => ?_)
  by_cases hin : x.toInt < 0 ∨ 26 < x.toInt
  · exact lv_tableOut hX.1 hX.2.1 d6 hin ht (kd l p e s m below meth c D q ρ H locs ls hC hs)
  · obtain ⟨t, o1, o2⟩ := hof x.toInt.toNat (by omega)
    refine lv_tableIn hX.1 hX.2.1 d6 (by omega) (by omega) (off := (t : Int) - ((pc + 6 : Nat) : Int)) (tgt := t) ?_ (by omega) (o2 l p e s m below meth c D q ρ H locs ls hC hs)
    rw [show (x.toInt - 0).toNat = x.toInt.toNat by omega]; exact o1
/-- the end -/
theorem vY.yes (hd1 : decode cL_law pc = .ok (.iconst 1, 1)) (hd : decode cL_law (pc + 1) = .ok (.ireturn, 1)) : vY b L xs pc Lc [] d T M := by
  intro l p e s m below meth c D q ρ H locs ls hC hs
  obtain ⟨hX, hsc, hb, hS, hl, hLk, hd2⟩ := id hC
  refine lv_iconst (v := 1) hX.1 hX.2.1 hd1 (by decide) ?_
  refine va_forget (fun z hz => hS.2.2.1.2.2 z hz) ?_
  refine W.widen (k := 600000) (n := 7302250) hd2.1 hd2.2 ?_
  exact lw_ret hX.1 hX.2.1 hX.2.2.2.2.2.1 hX.2.2.2.2.2.2.1 hd
/-- behind a call -/
theorem vY.after {Q1 : Option vA → vT → vM → Prop} {st0 : List Value} {l : Launch} {p : Program} {e : Env} {s : State} {m : MethodId} {a1 : Array Value} {below : List Frame} {meth : Method} {c : Code} {D : va_G} {q : vQc} {ρ : Nat → Nat} {H : Heap} {locs : List Loc} {ls : Array Slot}
    (hC : vYc b L xs Lc d T M p s m meth c D q ρ H locs ls) (hs : ∀ v ∈ rest, vOk d v) (hn1 : vRg d d1)
    (hrun : va_Run p l e room_1 s m #[Value.ref b] below meth c H locs d.length (vSz d) (d1.length - d.length) (vSz d1 - vSz d) (F0 m pc ls st0) (rest.map (vc ρ)) (vQq q D (va_A (vW q ρ d T M) H.size) ρ d d1 Q1 a1) (va_A (vW q ρ d T M) H.size))
    (kk : ∀ r T' M', Q1 r T' M' → vY b L xs (pc + 3) Lc (r.toList ++ rest) d1 T' M') :
    W p l e room_1 s m #[Value.ref b] below meth c H locs d.length (vSz d) (lw_Z below #[Value.ref b] s) (F0 m pc ls st0) := by
  obtain ⟨hX, hsc, hb, hS, ⟨hl, h00⟩, hL, hd2⟩ := id hC
  obtain ⟨hP, hD, hSS, hN, hag⟩ := id hS
  have hA := hX.2.2.2.2.2.2.2.2.2.1
  have hFc : ∀ z, va_A (vW q ρ d T M) H.size z → (fun z => s.heap.size ≤ z) z := by
    rintro z (⟨k, e, h⟩ | h)
    · exact hD.2 k _ h
    · exact hA z (Nat.le_trans hSS.1 h)
  intro TT hT X
  obtain ⟨v, st₀, t, T', L', h0, X', hL', e1, e2, ⟨⟨r, T1, M1, ρ1, ho1, hq, hP1, hD1, hN1, hag1, hr⟩, hz, hkp⟩, st⟩ := hrun TT hT X
  cases ho1
  rw [h0] at hz hkp
  have hm : ∀ k ∈ d, ρ1 k = ρ k := fun k hk => (hag1 k hk).2
  have hdm : ∀ k ∈ d, k ∈ d1 := fun k hk => (hag1 k hk).1
  have hS1 : vS D q (fun z => s.heap.size ≤ z) s.heap ρ1 [] ρ1 d1 T1 M1 T'.heap (locs ++ L') := by
    refine ⟨by rw [e1]; exact hP1, hD1.weaken (fun _ _ _ h => hFc _ h), ⟨Nat.le_trans hSS.1 (by rw [e1]; exact hz), fun z a b => by rw [e1, hkp z (Nat.lt_of_lt_of_le a hSS.1) (fun y => b (hFc z y))]; exact hSS.2.1 z a b, fun z hz' => ?_⟩, hN1, fun k hk => by cases hk⟩
    rcases List.mem_append.mp hz' with h | h
    · exact hSS.2.2 z h
    · exact hFc _ (hL' z h)
  have hs1 : ∀ v ∈ r.toList ++ rest, vOk d1 v := by
    intro v hv
    rcases List.mem_append.mp hv with h | h
    · exact hr v (by simpa using h)
    · exact vOk_mono hdm (hs v h)
  have W1 := kk r T1 M1 hq l p e s m below meth c D q ρ1 T'.heap (locs ++ L') ls ⟨hX, hsc, hb, hS1, ⟨vl_monoL hm hL hl, h00⟩, vLok_mono hdm hL, hn1.2.2.1, hn1.2.2.2⟩ hs1
  have ec : d.length + (d1.length - d.length) = d1.length := by have := hn1.1; omega
  have es : vSz d + (vSz d1 - vSz d) = vSz d1 := by have := hn1.2.1; omega
  rw [ec, es] at X'
  obtain ⟨t2, a2, b2⟩ := W1 T' rfl X'
  refine ⟨t2, st t2 ?_, b2⟩
  have hst : (r.map (vc ρ1)).toList ++ rest.map (vc ρ) = (r.toList ++ rest).map (vc ρ1) := by
    rw [List.map_append, vc_monoL hm hs]
    cases r <;> rfl
  rw [hst]
  exact a2
theorem vY.call {f : vMt} {bb ci n idx : Nat} {As : List vA} {P : Int → vT → vM → Prop} (hd : decode cL_law pc = .ok (.invokevirtual idx, 3)) (hlk : Cond.methodLink RL idx f.1 ∈ vTb) (hw : vCw f n) (hw2 : Cond.instanceMethod f.1 ∈ vTb ∧ Cond.selects f.1.cls f.1 f.1 ∈ vTb) (hb0 : vKK bb = (0, ci)) (hCl : (vCl[ci]?).map (fun q => q.1) = some f.1.cls)
    (hc : vCon f d d1 (vR bb :: As) T M (vPi P)) (hlen : As.length = n) (hS0 : S = As.reverse ++ vR bb :: rest) (hrm : f.2.2.2.2.1 + 1 ≤ 10 ∧ 8 + (f.2.2.1 + 11) + f.2.2.2.2.2 ≤ 358) (hcat : (rest.map vCat).sum ≤ 8) (hn1 : vRg d d1) (kk : ∀ r T' M', P r T' M' → vY b L xs (pc + 3) Lc (vI r :: rest) d1 T' M') : vY b L xs pc Lc S d T M := by
  intro l p e s m below meth c D q ρ H locs ls hC hs
  obtain ⟨hX, hsc, hb, hS, ⟨hl, h00⟩, hL, hd2⟩ := id hC
  obtain ⟨hx, hbb, hml, ho, htb, hrt, hlk2, hnm, hK, hA, hst⟩ := id hX
  obtain ⟨hP, hD, hSS, hN, hag⟩ := id hS
  subst hS0
  have hsA : ∀ v ∈ As, vOk d v := fun v hv => hs v (List.mem_append_left _ (List.mem_reverse.mpr hv))
  have hsb : bb ∈ d := hs (vR bb) (List.mem_append_right _ List.mem_cons_self) bb rfl
  have hsr : ∀ v ∈ rest, vOk d v := fun v hv => hs v (List.mem_append_right _ (List.mem_cons_of_mem _ hv))
  obtain ⟨i, hi, hwi⟩ := vW_at (q := q) (ρ := ρ) (T := T) (M := M) hsb
  rw [vCe_o hb0] at hwi
  cases hci : vCl[ci]? with
  | none => rw [hci] at hCl; cases hCl
  | some qc =>
    rw [hci] at hCl
    have hCe : qc.1 = f.1.cls := Option.some.inj hCl
    have hrecv := va_recv hK hP (ci := ci) (q0 := i) hci hwi
    rw [hCe] at hrecv
    have hM := hc l D q ρ H.size (vOk_c (v := vR bb) (fun k hk => by cases hk; exact hsb) hsA) ⟨Nat.le_refl _, Nat.le_refl _, hn1.1, hn1.2.1⟩
    refine vY.after (a1 := (Value.ref (ρ bb) :: As.map (vc ρ)).toArray) (Q1 := vPi P) hC hsr hn1 (va_runV (As := As.map (vc ρ)) (rest := rest.map (vc ρ)) (C := f.1.cls) ⟨hx, hbb, hml, ho, htb⟩ hM ⟨vCallB hw htb hlk hrm, htb _ hw2.1, htb _ hw2.2⟩ ⟨vPre_blind, hrecv, vPre_of (l := l) (e := e) hX hS _⟩ rfl (by rw [List.length_map]; exact hlen) hl.1 (by simp [vc, va_rf]) (vCat_sum hcat) hd ?_) (fun r T' M' h => by obtain ⟨y, rfl, -, h2⟩ := h; exact kk y T' M' h2)
    constructor
    · show d.length + (d1.length - d.length) ≤ 600000; have := hn1.1; have := hn1.2.2.1; omega
    · show vSz d + (vSz d1 - vSz d) ≤ 7302250; have := hn1.2.1; have := hn1.2.2.2; omega
/-- new, dup, the constructor -/
theorem vY.make {f : vMt} {k ci idx idx2 : Nat} {C : String} {TT : u_T} {N : Nat} {Pv : vT → vM → Prop} (h1 : decode cL_law pc = .ok (.new idx, 3)) (h2 : decode cL_law (pc + 3) = .ok (.dup, 1)) (h3 : decode cL_law (pc + 3 + 1) = .ok (.invokespecial idx2, 3)) (hcl : vCl[ci]? = some (C, TT, N)) (hw : Cond.classLink RL idx C ∈ vTb) (hk : vKK k = (0, ci)) (hf : k ∉ d)
    (hlk : Cond.methodLink RL idx2 f.1 ∈ vTb) (hcw : vCw f 0) (hret : f.2.2.2.1 = none) (hw2 : f.1.name = "<init>" ∧ Cond.instanceMethod f.1 ∈ vTb) (hrm : f.2.2.2.2.1 + 1 ≤ 10 ∧ 8 + (f.2.2.1 + 11) + f.2.2.2.2.2 ≤ 358)
    (hc : vCon f (d ++ [k]) d1 [vR k] (vClT T k) (vClr M k) (vPv Pv)) (hcat : ((vR k :: S).map vCat).sum ≤ 8) (hn0 : (d ++ [k]).length ≤ 600000 ∧ vSz (d ++ [k]) ≤ 7302250) (hn1 : vRg (d ++ [k]) d1) (kk : ∀ T' M', Pv T' M' → vY b L xs (pc + 3 + 1 + 3) Lc (vR k :: S) d1 T' M') : vY b L xs pc Lc S d T M := by
  intro l p e s m below meth c D q ρ H locs ls hC hs
  obtain ⟨hX, hsc, hb, hS, ⟨hl, h00⟩, hL, hd2⟩ := id hC
  obtain ⟨hx, hbb, hml, ho, htb, hrt, hlk2, hnm, hK, hA, hst⟩ := id hX
  obtain ⟨hP, hD, hSS, hN, hag⟩ := id hS
  obtain ⟨e1, e2, e3, e4, e5, e6, e7⟩ := vCl_ok hcl
  have hsl := vSl_o hk
  have hz := vSz_app d k
  have hln : (d ++ [k]).length = d.length + 1 := by simp
  refine va_new hx hbb htb e2 (vTy ci) e3 ho (htb _ hw) (htb _ e5) (htb _ e6) hK hP hD hSS hA hcl (fs := (List.range N).map (vFv ρ (vClT T k) (vClr M k) k ci)) (fun j hj => ?_) ?_ ?_ h1 fun a H1 g1 g2 g3 => ?_
  · show _ = List.getD _ j Value.null
    rw [List.getD_eq_getElem?_getD, vRange_at _ hj]
    show _ = vFv _ _ _ _ _ _
    have hb := vTy_b hcl hj
    unfold vFv vClr vClT
    cases hz : vTy ci j <;> rw [hz] at hb <;> first | (exfalso; simp [vTyB] at hb; done) | (simp [defaultValue, va_rf]; done) | (simp [defaultValue, va_rf]; rfl)
  · show d.length + 1 ≤ 600000; omega
  · show vSz d + N ≤ 7302250; rw [hz, hsl, ← e1] at hn0; exact hn0.2
  · have he : vCe q (fun z => if z = k then a else ρ z) (vClT T k) (vClr M k) k = .inr (ci, (List.range N).map (vFv ρ (vClT T k) (vClr M k) k ci)) := by
      rw [vCe_o hk, e1]
      have : ∀ j, vFv (fun z => if z = k then a else ρ z) (vClT T k) (vClr M k) k ci j = vFv ρ (vClT T k) (vClr M k) k ci j := by
        intro j; unfold vFv vClT; simp
      rw [show vFv (fun z => if z = k then a else ρ z) (vClT T k) (vClr M k) k ci = vFv ρ (vClT T k) (vClr M k) k ci from funext this]
    have hm : ∀ z ∈ d, (if z = k then a else ρ z) = ρ z := fun z hz => if_neg (fun h : z = k => hf (h ▸ hz))
    have hin : ∀ z ∈ d, z ∈ d ++ [k] := fun z hz => List.mem_append_left _ hz
    rw [vNew hf hN.2 he] at g1 g2
    have hC2 : vYc b L xs Lc (d ++ [k]) (vClT T k) (vClr M k) p s m meth c D q (fun z => if z = k then a else ρ z) H1 locs ls := ⟨hX, hsc, hb, ⟨g1, g2, g3, vNew_N hN, fun z hz => by cases hz⟩, ⟨vl_monoL hm hL hl, h00⟩, vLok_mono hin hL, hn0.1, hn0.2⟩
    have hs2 : ∀ v ∈ vR k :: S, vOk (d ++ [k]) v := vOk_c (v := vR k) (fun z hz => by cases hz; simp) (fun v hv => vOk_mono hin (hs v hv))
    rw [← hln, e1, ← hsl, ← hz]
    refine lv_dup hx hbb h2 rfl ?_
    obtain ⟨-, -, -, hS2, -⟩ := id hC2
    have hM := hc l D q (fun z => if z = k then a else ρ z) H1.size (vOk_c (v := vR k) (vOk_h hs2) (fun v hv => by cases hv)) ⟨Nat.le_refl _, Nat.le_refl _, hn1.1, hn1.2.1⟩
    have est : (vR k :: S).map (vc (fun z => if z = k then a else ρ z)) = .ref a :: S.map (vc ρ) := by
      rw [List.map_cons, vc_monoL hm hs]; simp [vc, va_rf]
    have hka : (if k = k then a else ρ k) = a := if_pos rfl
    refine vY.after (pc := pc + 3 + 1) (a1 := [Value.ref a].toArray) (Q1 := vPv Pv) hC2 hs2 hn1 ?_ (fun r T' M' h => by obtain ⟨rfl, h2⟩ := h; exact kk T' M' h2)
    have hM2 : Met l f.1 (vWs f.1 f.2.1 f.2.2.1 f.2.2.2.1) (vRm f (d ++ [k]) d1) (va_Pc [Value.ref a] (vPre D q (fun z => if z = k then a else ρ z) (d ++ [k]) (vClT T k) (vClr M k) H1.size)) (vQq q D (va_A (vW q (fun z => if z = k then a else ρ z) (d ++ [k]) (vClT T k) (vClr M k)) H1.size) (fun z => if z = k then a else ρ z) (d ++ [k]) d1 (vPv Pv)) (d1.length - (d ++ [k]).length) (vSz d1 - vSz (d ++ [k])) (va_A (vW q (fun z => if z = k then a else ρ z) (d ++ [k]) (vClT T k) (vClr M k)) H1.size) := by
      have : [vR k].map (vc (fun z => if z = k then a else ρ z)) = [Value.ref a] := by simp [vc, va_rf]
      rw [this] at hM; exact hM
    rw [est]
    refine va_runI (As := []) (rest := .ref a :: S.map (vc ρ)) (n := 0) (bytes := f.2.1) (maxL := f.2.2.1) ⟨hx, hbb, hml, ho, htb⟩ hM2 ⟨?_, hw2.1, htb _ hw2.2⟩ ⟨vPre_blind, vPre_of (l := l) (e := e) hX hS2 _⟩ rfl rfl hl.1 rfl ?_ h3 ?_
    · have := vCallB (R := room_1) (d := d ++ [k]) (d1 := d1) hcw htb hlk hrm
      rw [hret] at this ⊢; exact this
    · have := vCat_sum (ρ := fun z => if z = k then a else ρ z) (pc := pc + 3 + 1) hcat (m := m) (ls := ls) (st := .ref a :: .ref a :: S.map (vc ρ))
      rw [est] at this; exact this
    · constructor
      · show (d ++ [k]).length + (d1.length - (d ++ [k]).length) ≤ 600000; have := hn1.1; have := hn1.2.2.1; omega
      · show vSz (d ++ [k]) + (vSz d1 - vSz (d ++ [k])) ≤ 7302250; have := hn1.2.1; have := hn1.2.2.2; omega
end VY
