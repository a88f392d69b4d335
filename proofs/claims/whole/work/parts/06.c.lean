/-! ===== own: contracts and calls in V ===== -/
def vPre (D : va_G) (q : vQc) (ρ : Nat → Nat) (d : List Nat) (T : vT) (M : vM) (sz : Nat) (U : State) : Prop :=
  U.heap.size = sz ∧ va_P D vCl (vW q ρ d T M) U.heap ∧ va_K D vCl (vTs q) U ∧ va_D (fun _ => True) (vW q ρ d T M) ∧ vSt q (va_A (vW q ρ d T M) sz) U U.heap ∧ vN d T M ∧ vNw U
/-- a method's contract: from the state (T, M) over the names d, called with As, it comes back over the names dF with Q -/
def vCon (mt : vMt) (d dF : List Nat) (As : List vA) (T : vT) (M : vM) (Q : Option vA → vT → vM → Prop) : Prop :=
  ∀ (l : Launch) (D : va_G) (q : vQc) (ρ : Nat → Nat) (sz : Nat), (∀ v ∈ As, vOk d v) → vLe d d dF →
    Met l mt.1 (vWs mt.1 mt.2.1 mt.2.2.1 mt.2.2.2.1) (vRm mt d dF) (va_Pc (As.map (vc ρ)) (vPre D q ρ d T M sz)) (vQq q D (va_A (vW q ρ d T M) sz) ρ d dF Q) (dF.length - d.length) (vSz dF - vSz d) (va_A (vW q ρ d T M) sz)
theorem vLe_rf (d : List Nat) : vLe d d d := ⟨Nat.le_refl _, Nat.le_refl _, Nat.le_refl _, Nat.le_refl _⟩
theorem lv_args_at : ∀ (vs : List Value) (o : Nat), (∀ v ∈ vs, v.category = 1) → ∀ (i : Nat) (v : Value), vs[i]? = some v → (o + i, v) ∈ lv_args o vs
  | [], _, _, i, v, h => by simp at h
  | w :: vs, o, hc, 0, v, h => by
    simp at h; subst h; exact List.mem_cons_self
  | w :: vs, o, hc, i + 1, v, h => by
    have hw : ¬ w.category = 2 := by rw [hc w List.mem_cons_self]; decide
    simp only [lv_args, if_neg hw]
    refine List.mem_cons_of_mem _ ?_
    have := lv_args_at vs (o + 1) (fun x hx => hc x (List.mem_cons_of_mem _ hx)) i v (by simpa using h)
    rw [show o + (i + 1) = o + 1 + i by omega]
    exact this
theorem lg_sl_len : ∀ (vs : List Value), (∀ v ∈ vs, v.category = 1) → (lg_sl vs).length = vs.length
  | [], _ => rfl
  | v :: vs, h => by
    have hv := h v List.mem_cons_self
    have := lg_sl_len vs (fun x hx => h x (List.mem_cons_of_mem _ hx))
    have hn : ¬ v.category = 2 := by rw [hv]; decide
    simp only [lg_sl, List.flatMap_cons, List.length_append] at this ⊢
    rw [this]
    simp [hn]; omega
/-- V from the entry on gives the contract -/
theorem vCon.of {mt : vMt} {d dF : List Nat} {As : List vA} {T : vT} {M : vM} {Q : Option vA → vT → vM → Prop} {L : List (Option vA)} (hp : plainName mt.1.cls = true) (hlg : As.all (fun v => !vLg v) = true) (hL : L = As.map some ++ List.replicate (mt.2.2.1 - As.length) none) (hn : As.length ≤ mt.2.2.1)
    (hv : vV mt d dF Q 0 L [] d T M) : vCon mt d dF As T M Q := by
  intro l D q ρ sz hok hle
  refine Met.ofW (cc := mt.2.1) (maxL := mt.2.2.1) (ret := mt.2.2.2.1) hp rfl ?_
  intro p e s m args below meth c s₁ B hml hpre
  obtain ⟨rfl, hsz, hP, hK, hD0, hst, hN, hnw⟩ := hpre
  have hts := atoms_spec (ws := vWs mt.1 mt.2.1 mt.2.2.1 mt.2.2.2.1) B.pre
  have hcat : ∀ v ∈ As.map (vc ρ), v.category = 1 := by
    intro v hv
    obtain ⟨w, hw, rfl⟩ := List.mem_map.mp hv
    rw [vc_cat]
    have := List.all_eq_true.mp hlg w hw
    simp at this
    simp [vCat, this]
  subst hsz
  have hD := hD0.self (sz := s.heap.size)
  have hlen : (lg_sl (As.map (vc ρ))).length ≤ mt.2.2.1 := by rw [lg_sl_len _ hcat, List.length_map]; exact hn
  have hl := lv_entry (As.map (vc ρ)) hlen
  rw [lg_entry_eq]
  have hLat : ∀ (i : Nat) (v : vA), L[i]? = some (some v) → As[i]? = some v := by
    intro i v hi
    rw [hL] at hi
    by_cases hlt : i < As.length
    · rw [List.getElem?_append_left (by simpa using hlt), List.getElem?_map] at hi
      cases hx : As[i]? with
      | none => rw [hx] at hi; cases hi
      | some w => rw [hx] at hi; cases hi; rfl
    · rw [List.getElem?_append_right (by simpa using hlt), List.getElem?_replicate] at hi
      split at hi <;> cases hi
  have hl1 : lv_has ((lg_sl (As.map (vc ρ)) ++ List.replicate (mt.2.2.1 - (lg_sl (As.map (vc ρ))).length) Slot.unset).toArray) mt.2.2.1 (vl ρ L) := by
    refine ⟨hl.1, hl.2.1, fun z hz => hl.2.2 z ?_⟩
    obtain ⟨w, h1, h2⟩ := vl_mem.mp hz
    have := lv_args_at (As.map (vc ρ)) 0 hcat z.1 (vc ρ w) (by rw [List.getElem?_map, hLat _ _ h1]; rfl)
    rw [Nat.zero_add, ← h2] at this
    exact this
  have hl2 : vLok d L := by
    intro i v hi
    have h3 := List.mem_of_getElem? (hLat i v hi)
    exact ⟨hok v h3, by have := List.all_eq_true.mp hlg v h3; simpa using this⟩
  have h := hv l p e s m _ below meth c D q (va_A (vW q ρ d T M) s.heap.size) ρ ρ s.heap [] _ ⟨B.exec, B.bytes, hml, findClass_of_methodNamed B.named, fun w hw => hts w (List.mem_cons_of_mem _ hw), B.returns, B.notSynchronized, (name_of_methodNamed B.named B.method).1, hK, fun z hz => Or.inr hz, hst, hnw⟩ ⟨hP, hD, va_S.rf, hN, fun k hk => ⟨hk, rfl⟩⟩ hl1 hl2 (fun v hv => by cases hv) hle
  rw [Nat.sub_self, Nat.sub_self] at h
  exact h
theorem vPre_blind {D : va_G} {q : vQc} {ρ : Nat → Nat} {d : List Nat} {T : vT} {M : vM} {sz : Nat} {av : List Value} : FrameBlind (va_Pc av (vPre D q ρ d T M sz)) := by
  rintro a U g mk ⟨h0, h1, h2, h3, h4, h5, h6, h7⟩
  have hal : U.vm.Alike (U.calling g mk a).vm := Vm.Alike.refl U.vm
  exact ⟨h0, h1, h2, va_K.moved hal h3, h4, h5.go hal (fun _ _ _ => rfl) (fun _ h => h), h6, vNw.same rfl h7⟩
section VCL
variable {mt mt' : vMt} {d0 dF : List Nat} {Q Q1 : Option vA → vT → vM → Prop} {pc idx : Nat} {L : List (Option vA)} {S rest As : List vA} {d d1 : List Nat} {T : vT} {M : vM}
/-- behind a call -/
theorem vV.after {st0 : List Value} {l : Launch} {p : Program} {e : Env} {s : State} {m : MethodId} {args a1 : Array Value} {below : List Frame} {meth : Method} {c : Code} {D : va_G} {q : vQc} {A : Nat → Prop} {ρ0 ρ : Nat → Nat} {H : Heap} {locs : List Loc} {ls : Array Slot}
    (hX : vX mt p s m args meth c D q A) (hS : vS D q A s.heap ρ0 d0 ρ d T M H locs) (hl : lv_has ls mt.2.2.1 (vl ρ L)) (hL : vLok d L) (hs : ∀ v ∈ rest, vOk d v) (hn : vLe d0 d dF) (hn1 : vLe d d1 dF)
    (hrun : va_Run p l e (vRm mt d0 dF) s m args below meth c H locs (d.length - d0.length) (vSz d - vSz d0) (d1.length - d.length) (vSz d1 - vSz d) (F0 m pc ls st0) (rest.map (vc ρ)) (vQq q D (va_A (vW q ρ d T M) H.size) ρ d d1 Q1 a1) (va_A (vW q ρ d T M) H.size))
    (kk : ∀ r T' M', Q1 r T' M' → vV mt d0 dF Q (pc + 3) L (r.toList ++ rest) d1 T' M') :
    W p l e (vRm mt d0 dF) s m args below meth c H locs (d.length - d0.length) (vSz d - vSz d0) (MQ below (vQq q D A ρ0 d0 dF Q) args s (dF.length - d0.length) (vSz dF - vSz d0) A) (F0 m pc ls st0) := by
  obtain ⟨hx, hb, hml, ho, htb, hrt, hlk, hnm, hK, hA, hst⟩ := id hX
  obtain ⟨hP, hD, hSS, hN, hag⟩ := id hS
  have hFc : ∀ z, va_A (vW q ρ d T M) H.size z → A z := by
    rintro z (⟨k, e, h⟩ | h)
    · exact hD.2 k _ h
    · exact hA z (Nat.le_trans hSS.1 h)
  intro TT hT X
  obtain ⟨v, st₀, t, T', L', h0, X', hL', e1, e2, ⟨⟨r, T1, M1, ρ1, ho1, hq, hP1, hD1, hN1, hag1, hr⟩, hz, hkp⟩, st⟩ := hrun TT hT X
  cases ho1
  rw [h0] at hz hkp
  have hS1 : vS D q A s.heap ρ0 d0 ρ1 d1 T1 M1 T'.heap (locs ++ L') := by
    refine ⟨by rw [e1]; exact hP1, hD1.weaken (fun _ _ _ h => hFc _ h), ⟨Nat.le_trans hSS.1 (by rw [e1]; exact hz), fun z a b => by rw [e1, hkp z (Nat.lt_of_lt_of_le a hSS.1) (fun y => b (hFc z y))]; exact hSS.2.1 z a b, fun z hz' => ?_⟩, hN1, fun k hk => ⟨(hag1 k (hag k hk).1).1, (hag1 k (hag k hk).1).2.trans (hag k hk).2⟩⟩
    rcases List.mem_append.mp hz' with h | h
    · exact hSS.2.2 z h
    · exact hFc _ (hL' z h)
  have hm : ∀ k ∈ d, ρ1 k = ρ k := fun k hk => (hag1 k hk).2
  have hdm : ∀ k ∈ d, k ∈ d1 := fun k hk => (hag1 k hk).1
  have hs1 : ∀ v ∈ r.toList ++ rest, vOk d1 v := by
    intro v hv
    rcases List.mem_append.mp hv with h | h
    · exact hr v (by simpa using h)
    · exact vOk_mono hdm (hs v h)
  have W1 := kk r T1 M1 hq l p e s m args below meth c D q A ρ0 ρ1 T'.heap (locs ++ L') ls hX hS1 (vl_monoL hm hL hl) (vLok_mono hdm hL) hs1 ⟨by have := hn.1; have := hn1.1; omega, by have := hn.2.1; have := hn1.2.1; omega, hn1.2.2⟩
  have ec : d.length - d0.length + (d1.length - d.length) = d1.length - d0.length := by have := hn.1; have := hn1.1; omega
  have es : vSz d - vSz d0 + (vSz d1 - vSz d) = vSz d1 - vSz d0 := by have := hn.2.1; have := hn1.2.1; omega
  rw [ec, es] at X'
  obtain ⟨t2, a2, b2⟩ := W1 T' rfl X'
  refine ⟨t2, st t2 ?_, b2⟩
  have hst : (r.map (vc ρ1)).toList ++ rest.map (vc ρ) = (r.toList ++ rest).map (vc ρ1) := by
    rw [List.map_append, vc_monoL hm hs]
    cases r <;> rfl
  rw [hst]
  exact a2
/-- the words of a call -/
def vCw (mt' : vMt) (n : Nat) : Prop := Cond.code mt'.1 mt'.2.1 mt'.2.2.1 mt'.2.2.2.1 ∈ vTb ∧ Cond.initialized mt'.1.cls ∈ vTb ∧ (mt'.1.cls ≠ "java/lang/invoke/MethodHandle" ∧ mt'.1.cls ≠ "java/lang/invoke/VarHandle") ∧ (parseMethodDescriptor mt'.1.desc).map (fun d => d.parameters.length) = some n
def vRoom (mt mt' : vMt) : Prop := mt'.2.2.2.2.1 + 1 ≤ mt.2.2.2.2.1 ∧ 8 + (mt'.2.2.1 + 11) + mt'.2.2.2.2.2 ≤ mt.2.2.2.2.2
theorem vCallB {R : Room} {s : State} {args : Array Value} {own : String} {n : Nat} (hw : vCw mt' n) (htb : ∀ w ∈ vTb, w.before args s = true) (hl : Cond.methodLink own idx mt'.1 ∈ vTb) (hr : (vRm mt' d d1).frames + 1 ≤ R.frames ∧ 8 + (mt'.2.2.1 + 11) + (vRm mt' d d1).locals ≤ R.locals) :
    CallB R s args own idx mt'.1 mt'.2.1 mt'.2.2.1 mt'.2.2.2.1 (vWs mt'.1 mt'.2.1 mt'.2.2.1 mt'.2.2.2.1) (vRm mt' d d1) (d1.length - d.length) (vSz d1 - vSz d) n :=
  callB_of n htb (vGood hw.1 (fun _ h => h)) rfl rfl rfl (htb _ hw.2.1) (htb _ hl) ⟨hw.2.2.1.1, hw.2.2.1.2, hw.2.2.2⟩ hr
theorem vCat_sum {ρ : Nat → Nat} {rest : List vA} (h : (rest.map vCat).sum ≤ 8) {m : MethodId} {ls : Array Slot} {st : List Value} : 2 * (F0 m pc ls st).monitorRoom + ((rest.map (vc ρ)).map fun v => v.category).sum ≤ 8 := by
  have : ((rest.map (vc ρ)).map fun v => v.category) = rest.map vCat := by
    rw [List.map_map]; exact List.map_congr_left fun v _ => vc_cat ρ v
  exact lv_room (by rw [this]; exact h)
theorem vPre_of {l : Launch} {p : Program} {e : Env} {s : State} {m : MethodId} {args : Array Value} {meth : Method} {c : Code} {D : va_G} {q : vQc} {A : Nat → Prop} {ρ0 ρ : Nat → Nat} {H : Heap} {locs : List Loc} (hX : vX mt p s m args meth c D q A) (hS : vS D q A s.heap ρ0 d0 ρ d T M H locs) (av : List Value) :
    ∀ U : State, U.heap = H → s.WarmedH U.vm → va_Pc av (vPre D q ρ d T M H.size) av.toArray U := by
  obtain ⟨hx, hb, hml, ho, htb, hrt, hlk, hnm, hK, hA, hst, hnw⟩ := id hX
  obtain ⟨hP, hD, hSS, hN, hag⟩ := id hS
  intro U hU hW
  refine ⟨rfl, by rw [hU], by rw [hU]; exact hP, va_K.moved hW.alike hK, hD.weaken (fun _ _ _ _ => trivial), ?_, hN, hnw.warm hW⟩
  rw [hU]
  refine hst.go hW.alike (fun a h1 h2 => hSS.2.1 a h1 h2) ?_
  rintro z (⟨k, e, h⟩ | h)
  · exact hD.2 k _ h
  · exact hA z (Nat.le_trans hSS.1 h)
theorem vV.callV {b ci n : Nat} (hd : decode mt.2.1 pc = .ok (.invokevirtual idx, 3)) (hlk : Cond.methodLink mt.1.cls idx mt'.1 ∈ vTb) (hw : vCw mt' n) (hw2 : Cond.instanceMethod mt'.1 ∈ vTb ∧ Cond.selects mt'.1.cls mt'.1 mt'.1 ∈ vTb) (hb0 : vKK b = (0, ci)) (hC : (vCl[ci]?).map (fun q => q.1) = some mt'.1.cls)
    (hc : vCon mt' d d1 (vR b :: As) T M Q1) (hlen : As.length = n) (hS0 : S = As.reverse ++ vR b :: rest) (hrm : vRoom mt mt') (hcat : (rest.map vCat).sum ≤ 8) (hn1 : vLe d d1 dF) (kk : ∀ r T' M', Q1 r T' M' → vV mt d0 dF Q (pc + 3) L (r.toList ++ rest) d1 T' M') : vV mt d0 dF Q pc L S d T M := by
  intro l p e s m args below meth c D q A ρ0 ρ H locs ls hX hS hl hL hs hn
  obtain ⟨hx, hb, hml, ho, htb, hrt, hlk2, hnm, hK, hA, hst⟩ := id hX
  obtain ⟨hP, hD, hSS, hN, hag⟩ := id hS
  subst hS0
  have hsA : ∀ v ∈ As, vOk d v := fun v hv => hs v (List.mem_append_left _ (List.mem_reverse.mpr hv))
  have hsb : b ∈ d := hs (vR b) (List.mem_append_right _ List.mem_cons_self) b rfl
  have hsr : ∀ v ∈ rest, vOk d v := fun v hv => hs v (List.mem_append_right _ (List.mem_cons_of_mem _ hv))
  obtain ⟨i, hi, hwi⟩ := vW_at (q := q) (ρ := ρ) (T := T) (M := M) hsb
  rw [vCe_o hb0] at hwi
  cases hci : vCl[ci]? with
  | none => rw [hci] at hC; cases hC
  | some qc =>
    rw [hci] at hC
    have hCe : qc.1 = mt'.1.cls := Option.some.inj hC
    have hrecv := va_recv hK hP (ci := ci) (q0 := i) hci hwi
    rw [hCe] at hrecv
    have hM := hc l D q ρ H.size (vOk_c (v := vR b) (fun k hk => by cases hk; exact hsb) hsA) ⟨Nat.le_refl _, Nat.le_refl _, hn1.1, hn1.2.1⟩
    refine vV.after (a1 := (Value.ref (ρ b) :: As.map (vc ρ)).toArray) (Q1 := Q1) hX hS hl hL hsr hn hn1 (va_runV (As := As.map (vc ρ)) (rest := rest.map (vc ρ)) (C := mt'.1.cls) ⟨hx, hb, hml, ho, htb⟩ hM ⟨vCallB hw htb hlk hrm, htb _ hw2.1, htb _ hw2.2⟩ ⟨vPre_blind, hrecv, vPre_of (l := l) (e := e) hX hS _⟩ rfl (by rw [List.length_map]; exact hlen) hl.1 (by simp [vc, va_rf]) (vCat_sum hcat) hd ?_) kk
    have a1 := hn.1; have a2 := hn1.1; have a3 := hn1.2.2.1; have b1 := hn.2.1; have b2 := hn1.2.1; have b3 := hn1.2.2.2
    constructor
    · show d.length - d0.length + (d1.length - d.length) ≤ dF.length - d0.length; omega
    · show vSz d - vSz d0 + (vSz d1 - vSz d) ≤ vSz dF - vSz d0; omega
theorem vV.callS {n : Nat} (hd : decode mt.2.1 pc = .ok (.invokestatic idx, 3)) (hlk : Cond.methodLink mt.1.cls idx mt'.1 ∈ vTb) (hw : vCw mt' n) (hw2 : Cond.static mt'.1 ∈ vTb)
    (hc : vCon mt' d d1 As T M Q1) (hlen : As.length = n) (hS0 : S = As.reverse ++ rest) (hrm : vRoom mt mt') (hcat : (rest.map vCat).sum ≤ 8) (hn1 : vLe d d1 dF) (kk : ∀ r T' M', Q1 r T' M' → vV mt d0 dF Q (pc + 3) L (r.toList ++ rest) d1 T' M') : vV mt d0 dF Q pc L S d T M := by
  intro l p e s m args below meth c D q A ρ0 ρ H locs ls hX hS hl hL hs hn
  obtain ⟨hx, hb, hml, ho, htb, hrt, hlk2, hnm, hK, hA, hst⟩ := id hX
  obtain ⟨hP, hD, hSS, hN, hag⟩ := id hS
  subst hS0
  have hsA : ∀ v ∈ As, vOk d v := fun v hv => hs v (List.mem_append_left _ (List.mem_reverse.mpr hv))
  have hsr : ∀ v ∈ rest, vOk d v := fun v hv => hs v (List.mem_append_right _ hv)
  have hM := hc l D q ρ H.size hsA ⟨Nat.le_refl _, Nat.le_refl _, hn1.1, hn1.2.1⟩
  refine vV.after (a1 := (As.map (vc ρ)).toArray) (Q1 := Q1) hX hS hl hL hsr hn hn1 (va_runS (As := As.map (vc ρ)) (rest := rest.map (vc ρ)) ⟨hx, hb, hml, ho, htb⟩ hM ⟨vCallB hw htb hlk hrm, htb _ hw2⟩ ⟨vPre_blind, vPre_of (l := l) (e := e) hX hS _⟩ rfl (by rw [List.length_map]; exact hlen) hl.1 (by simp) (vCat_sum hcat) hd ?_) kk
  have a1 := hn.1; have a2 := hn1.1; have a3 := hn1.2.2.1; have b1 := hn.2.1; have b2 := hn1.2.1; have b3 := hn1.2.2.2
  constructor
  · show d.length - d0.length + (d1.length - d.length) ≤ dF.length - d0.length; omega
  · show vSz d - vSz d0 + (vSz d1 - vSz d) ≤ vSz dF - vSz d0; omega
theorem vNest {R : Room} {s : State} {args : Array Value} {own host : String} {n : Nat} (hw : vCw mt' n) (htb : ∀ w ∈ vTb, w.before args s = true) (hl : (Cond.methodLinkNest own idx mt'.1 host).before args s = true) (hr : (vRm mt' d d1).frames + 1 ≤ R.frames ∧ 8 + (mt'.2.2.1 + 11) + (vRm mt' d d1).locals ≤ R.locals) :
    va_CN R s args own idx mt'.1 host mt'.2.1 mt'.2.2.1 mt'.2.2.2.1 (vWs mt'.1 mt'.2.1 mt'.2.2.1 mt'.2.2.2.1) (vRm mt' d d1) (d1.length - d.length) (vSz d1 - vSz d) n := by
  have hG : GoodIn vTb (vWs mt'.1 mt'.2.1 mt'.2.2.1 mt'.2.2.2.1) := vGood hw.1 (fun _ h => h)
  refine ⟨⟨rfl, rfl, hr.1, hr.2, pay_in htb hG, List.mem_cons_self⟩, htb _ hw.1, htb _ hw.2.1, hw.2.2.1, fun sig h => ?_, hl⟩
  have h2 := hw.2.2.2
  rw [h] at h2
  exact (Option.some.inj h2).symm
theorem vV.callSN {n : Nat} (hd : decode mt.2.1 pc = .ok (.invokestatic idx, 3)) (hlk : (mt.1.cls, idx, mt'.1) ∈ vNm) (hw : vCw mt' n) (hw2 : Cond.static mt'.1 ∈ vTb)
    (hc : vCon mt' d d1 As T M Q1) (hlen : As.length = n) (hS0 : S = As.reverse ++ rest) (hrm : vRoom mt mt') (hcat : (rest.map vCat).sum ≤ 8) (hn1 : vLe d d1 dF) (kk : ∀ r T' M', Q1 r T' M' → vV mt d0 dF Q (pc + 3) L (r.toList ++ rest) d1 T' M') : vV mt d0 dF Q pc L S d T M := by
  intro l p e s m args below meth c D q A ρ0 ρ H locs ls hX hS hl hL hs hn
  obtain ⟨hx, hb, hml, ho, htb, hrt, hlk2, hnm, hK, hA, hst, hnw⟩ := id hX
  obtain ⟨hP, hD, hSS, hN, hag⟩ := id hS
  subst hS0
  have hsA : ∀ v ∈ As, vOk d v := fun v hv => hs v (List.mem_append_left _ (List.mem_reverse.mpr hv))
  have hsr : ∀ v ∈ rest, vOk d v := fun v hv => hs v (List.mem_append_right _ hv)
  have hM := hc l D q ρ H.size hsA ⟨Nat.le_refl _, Nat.le_refl _, hn1.1, hn1.2.1⟩
  refine vV.after (a1 := (As.map (vc ρ)).toArray) (Q1 := Q1) hX hS hl hL hsr hn hn1 (va_runSN (As := As.map (vc ρ)) (rest := rest.map (vc ρ)) ⟨hx, hb, hml, ho, htb⟩ hM ⟨vNest hw htb (va_Nw.use rfl (hnw.1 _ hlk)) hrm, htb _ hw2, trivial⟩ ⟨vPre_blind, vPre_of (l := l) (e := e) hX hS _⟩ rfl (by rw [List.length_map]; exact hlen) hl.1 (by simp) (vCat_sum hcat) hd ?_) kk
  have a1 := hn.1; have a2 := hn1.1; have a3 := hn1.2.2.1; have b1 := hn.2.1; have b2 := hn1.2.1; have b3 := hn1.2.2.2
  constructor
  · show d.length - d0.length + (d1.length - d.length) ≤ dF.length - d0.length; omega
  · show vSz d - vSz d0 + (vSz d1 - vSz d) ≤ vSz dF - vSz d0; omega
theorem vV.callIN {b : Nat} (hd : decode mt.2.1 pc = .ok (.invokespecial idx, 3)) (hlk : (mt.1.cls, idx, mt'.1) ∈ vNm) (hw : vCw mt' 0) (hret : mt'.2.2.2.1 = none) (hw2 : mt'.1.name = "<init>" ∧ Cond.instanceMethod mt'.1 ∈ vTb)
    (hc : vCon mt' d d1 [vR b] T M Q1) (hS0 : S = vR b :: rest) (hrm : vRoom mt mt') (hcat : (rest.map vCat).sum ≤ 8) (hn1 : vLe d d1 dF) (kk : ∀ r T' M', Q1 r T' M' → vV mt d0 dF Q (pc + 3) L (r.toList ++ rest) d1 T' M') : vV mt d0 dF Q pc L S d T M := by
  intro l p e s m args below meth c D q A ρ0 ρ H locs ls hX hS hl hL hs hn
  obtain ⟨hx, hb, hml, ho, htb, hrt, hlk2, hnm, hK, hA, hst, hnw⟩ := id hX
  obtain ⟨hP, hD, hSS, hN, hag⟩ := id hS
  subst hS0
  have hsb : b ∈ d := vOk_h hs b rfl
  have hM := hc l D q ρ H.size (vOk_c (v := vR b) (fun k hk => by cases hk; exact hsb) (fun v hv => by cases hv)) ⟨Nat.le_refl _, Nat.le_refl _, hn1.1, hn1.2.1⟩
  have hN1 := vNest (R := vRm mt d0 dF) (d := d) (d1 := d1) (args := args) (s := s) hw htb (va_Nw.use rfl (hnw.1 _ hlk)) hrm
  rw [hret] at hM hN1
  refine vV.after (a1 := (Value.ref (ρ b) :: []).toArray) (Q1 := Q1) hX hS hl hL (vOk_t hs) hn hn1 (va_runIN (As := []) (rest := rest.map (vc ρ)) ⟨hx, hb, hml, ho, htb⟩ hM ⟨hN1, hw2.1, htb _ hw2.2⟩ ⟨vPre_blind, vPre_of (l := l) (e := e) hX hS _⟩ rfl rfl hl.1 (by simp [vc, va_rf]) (vCat_sum hcat) hd ?_) kk
  have a1 := hn.1; have a2 := hn1.1; have a3 := hn1.2.2.1; have b1 := hn.2.1; have b2 := hn1.2.1; have b3 := hn1.2.2.2
  constructor
  · show d.length - d0.length + (d1.length - d.length) ≤ dF.length - d0.length; omega
  · show vSz d - vSz d0 + (vSz d1 - vSz d) ≤ vSz dF - vSz d0; omega
end VCL
