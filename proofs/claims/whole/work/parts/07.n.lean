/-! ===== own: V: new cells, arraycopy, Math ===== -/
def vClr (M : vM) (k : Nat) : vM := fun a j => if a = k then 0 else M a j
def vClT (T : vT) (k : Nat) : vT := fun a j => if a = k then none else T a j
def vCpy (M : vM) (a : Nat) (sp : Int) (b : Nat) (dp n : Int) : vM := fun k j => if k = b ∧ dp ≤ j ∧ j < dp + n then M a (sp + (j - dp)) else M k j
theorem vSz_app (d : List Nat) (k : Nat) : vSz (d ++ [k]) = vSz d + vSl k := by simp [vSz]
theorem vSl_o {k ci : Nat} (h : vKK k = (0, ci)) : vSl k = vNf ci := by simp only [vSl, h]
theorem vSl_a {k t n : Nat} (ht : t ≠ 0) (h : vKK k = (t, n)) : vSl k = n := by
  unfold vSl; rw [h]
  split
  · rename_i h'; cases h'; exact absurd rfl ht
  · rename_i h'; cases h'; rfl
def vTyB : FieldType → Bool
  | .int => true
  | .boolean => true
  | .object _ => true
  | .array _ => true
  | _ => false
theorem vTy_b {ci : Nat} {C : String} {TT : u_T} {N j : Nat} (h : vCl[ci]? = some (C, TT, N)) (hj : j < N) : vTyB (vTy ci j) = true := by
  match ci, h with
  | 0, h => cases h; revert j; decide +kernel
  | 1, h => cases h; revert j; decide +kernel
  | 2, h => cases h; revert j; decide +kernel
  | 3, h => cases h; revert j; decide +kernel
  | 4, h => cases h; revert j; decide +kernel
  | 5, h => cases h; revert j; decide +kernel
  | 6, h => cases h; revert j; decide +kernel
  | 7, h => cases h; revert j; decide +kernel
  | n + 8, h => simp [vCl] at h
section VNW
variable {mt : vMt} {d0 dF : List Nat} {Q : Option vA → vT → vM → Prop} {pc idx : Nat} {L : List (Option vA)} {S : List vA} {d : List Nat} {T : vT} {M : vM}
/-- a new cell of the name k: the world and what is known of the old values -/
theorem vNew {q : vQc} {ρ : Nat → Nat} {k a : Nat} (hk : k ∉ d) (hT : ∀ k' j v, T k' j = some v → v ∈ d) {e : va_E} (he : vCe q (fun z => if z = k then a else ρ z) (vClT T k) (vClr M k) k = e) :
    vW q ρ d T M ++ [(a, e)] = vW q (fun z => if z = k then a else ρ z) (d ++ [k]) (vClT T k) (vClr M k) := by
  have hm : ∀ z ∈ d, (if z = k then a else ρ z) = ρ z := fun z hz => if_neg (fun h : z = k => hk (h ▸ hz))
  unfold vW
  rw [List.map_append, List.map_singleton, he]
  congr 1
  · refine List.map_congr_left fun z hz => ?_
    have hne : z ≠ k := fun h => hk (h ▸ hz)
    show (ρ z, vCe q ρ T M z) = ((if z = k then a else ρ z), vCe q (fun z => if z = k then a else ρ z) (vClT T k) (vClr M k) z)
    rw [hm z hz, vCe_mono (d := d) (ρ := ρ) hm (fun k' j v h => by unfold vClT at h; split at h; cases h; exact hT k' j v h)]
    rw [vCe_row (T := T) (M := M) (T' := vClT T k) (M' := vClr M k) (by funext j; simp [vClr, hne]) (by funext j; simp [vClT, hne])]
  · simp
theorem vNew_N {k : Nat} (h : vN d T M) : vN (d ++ [k]) (vClT T k) (vClr M k) := by
  refine ⟨fun a j => ?_, fun a j v hv => ?_⟩
  · unfold vClr; split
    · exact i32_z
    · exact h.1 a j
  · unfold vClT at hv; split at hv
    · cases hv
    · exact List.mem_append_left _ (h.2 a j v hv)
/-- behind a new cell -/
theorem vV.made {k a : Nat} {l : Launch} {p : Program} {e : Env} {s : State} {m : MethodId} {args : Array Value} {below : List Frame} {meth : Method} {c : Code} {D : va_G} {q : vQc} {A : Nat → Prop} {ρ0 ρ : Nat → Nat} {H1 : Heap} {locs : List Loc} {ls : Array Slot} {pc' : Nat} {ex : va_E}
    (hX : vX mt p s m args meth c D q A) (hN : vN d T M) (hag : ∀ k ∈ d0, k ∈ d ∧ ρ k = ρ0 k) (hl : lv_has ls mt.2.2.1 (vl ρ L)) (hL : vLok d L) (hs : ∀ v ∈ S, vOk d v) (hn : vLe d0 d dF) (hk : k ∉ d) (hn1 : vLe d (d ++ [k]) dF)
    (he : vCe q (fun z => if z = k then a else ρ z) (vClT T k) (vClr M k) k = ex)
    (h1 : va_P D vCl (vW q ρ d T M ++ [(a, ex)]) H1) (h2 : va_D A (vW q ρ d T M ++ [(a, ex)])) (h3 : va_S A s.heap H1 locs)
    (kk : vV mt d0 dF Q pc' L (vR k :: S) (d ++ [k]) (vClT T k) (vClr M k)) :
    W p l e (vRm mt d0 dF) s m args below meth c H1 locs (d.length - d0.length + 1) (vSz d - vSz d0 + vSl k) (MQ below (vQq q D A ρ0 d0 dF Q) args s (dF.length - d0.length) (vSz dF - vSz d0) A) (F0 m pc' ls (.ref a :: S.map (vc ρ))) := by
  have hm : ∀ z ∈ d, (if z = k then a else ρ z) = ρ z := fun z hz => if_neg (fun h : z = k => hk (h ▸ hz))
  have hin : ∀ z ∈ d, z ∈ d ++ [k] := fun z hz => List.mem_append_left _ hz
  rw [vNew hk hN.2 he] at h1 h2
  have W1 := kk l p e s m args below meth c D q A ρ0 (fun z => if z = k then a else ρ z) H1 locs ls hX ⟨h1, h2, h3, vNew_N hN, fun z hz => ⟨hin z (hag z hz).1, (hm z (hag z hz).1).trans (hag z hz).2⟩⟩ (vl_monoL hm hL hl) (vLok_mono hin hL) (vOk_c (v := vR k) (fun z hz => by cases hz; simp) (fun v hv => vOk_mono hin (hs v hv))) ⟨by have := hn.1; have := hn1.1; omega, by have := hn.2.1; have := hn1.2.1; omega, hn1.2.2⟩
  have ec : d.length - d0.length + 1 = (d ++ [k]).length - d0.length := by have := hn.1; simp; omega
  have es : vSz d - vSz d0 + vSl k = vSz (d ++ [k]) - vSz d0 := by have := hn.2.1; rw [vSz_app]; omega
  rw [ec, es]
  have est : (vR k :: S).map (vc (fun z => if z = k then a else ρ z)) = .ref a :: S.map (vc ρ) := by
    rw [List.map_cons, vc_monoL hm hs]; simp [vc, va_rf]
  rw [est] at W1
  exact W1
theorem vV.newO {k ci : Nat} {C : String} {TT : u_T} {N : Nat} (hd : decode mt.2.1 pc = .ok (.new idx, 3)) (hc : vCl[ci]? = some (C, TT, N)) (hw : Cond.classLink mt.1.cls idx C ∈ vTb) (hk : vKK k = (0, ci)) (hf : k ∉ d) (hn1 : vLe d (d ++ [k]) dF)
    (kk : vV mt d0 dF Q (pc + 3) L (vR k :: S) (d ++ [k]) (vClT T k) (vClr M k)) : vV mt d0 dF Q pc L S d T M := by
  intro l p e s m args below meth c D q A ρ0 ρ H locs ls hX hS hl hL hs hn
  obtain ⟨hx, hb, hml, ho, htb, hrt, hlk, hnm, hK, hA, hst⟩ := id hX
  obtain ⟨hP, hD, hSS, hN, hag⟩ := id hS
  obtain ⟨e1, e2, e3, e4, e5, e6, e7⟩ := vCl_ok hc
  have hsl := vSl_o hk
  refine va_new hx hb htb e2 (vTy ci) e3 ho (htb _ hw) (htb _ e5) (htb _ e6) hK hP hD hSS hA hc (fs := (List.range N).map (vFv ρ (vClT T k) (vClr M k) k ci)) (fun j hj => ?_) ?_ ?_ hd fun a H1 h1 h2 h3 => ?_
  · show _ = List.getD _ j Value.null
    rw [List.getD_eq_getElem?_getD, vRange_at _ hj]
    show _ = vFv _ _ _ _ _ _
    have hb := vTy_b hc hj
    unfold vFv vClr vClT
    cases hz : vTy ci j <;> rw [hz] at hb <;> first | (exfalso; simp [vTyB] at hb; done) | (simp [defaultValue, va_rf]; done) | (simp [defaultValue, va_rf]; rfl)
  · show d.length - d0.length + 1 ≤ dF.length - d0.length
    have a1 := hn.1; have a2 := hn1.2.2.1; simp at a2; omega
  · show vSz d - vSz d0 + N ≤ vSz dF - vSz d0
    have a1 := hn.2.1; have a2 := hn1.2.2.2; rw [vSz_app, hsl, ← e1] at a2; omega
  · have := vV.made (l := l) (e := e) (below := below) (a := a) (H1 := H1) (pc' := pc + 3) hX hN hag hl hL hs hn hf hn1 (ex := .inr (ci, (List.range N).map (vFv ρ (vClT T k) (vClr M k) k ci))) (by
      rw [vCe_o hk, e1]
      have : ∀ j, vFv (fun z => if z = k then a else ρ z) (vClT T k) (vClr M k) k ci j = vFv ρ (vClT T k) (vClr M k) k ci j := by
        intro j; unfold vFv vClT; simp
      rw [show vFv (fun z => if z = k then a else ρ z) (vClT T k) (vClr M k) k ci = vFv ρ (vClT T k) (vClr M k) k ci from funext this]) h1 h2 h3 kk
    rw [hsl, ← e1] at this
    exact this
theorem vV.newI {k n : Nat} {x : Int} (hd : decode mt.2.1 pc = .ok (.newarray .int, 2)) (hx0 : x = (n : Int)) (hk : vKK k = (1, n)) (hf : k ∉ d) (hbg : n ≤ 134217728) (hn1 : vLe d (d ++ [k]) dF) (hw : Cond.arrayClass .int ∈ vTb)
    (kk : vV mt d0 dF Q (pc + 2) L (vR k :: S) (d ++ [k]) (vClT T k) (vClr M k)) : vV mt d0 dF Q pc L (vI x :: S) d T M := by
  intro l p e s m args below meth c D q A ρ0 ρ H locs ls hX hS hl hL hs hn
  obtain ⟨hx, hb, hml, ho, htb, hrt, hlk, hnm, hK, hA, hst⟩ := id hX
  obtain ⟨hP, hD, hSS, hN, hag⟩ := id hS
  have hsl := vSl_a (by decide) hk
  have hxr : vIn x := vOk_h hs
  have hnt : (Int32.ofInt x).toInt = x := i32_in hxr
  refine va_newa (atype := .int) hx hb (htb _ hw) rfl hK hP hD hSS hA (N' := n) (a0 := (n, .inl (fun _ => Int32.ofInt 0))) (fun cA => by rfl) ?_ ?_ ?_ ?_ ?_ hd fun a cA H1 hK1 h1 h2 h3 => ?_
  · rw [Int32.lt_iff_toInt_lt, hnt]; simp; omega
  · show (Int32.ofInt x).toInt.toNat = n; rw [hnt]; omega
  · show n * 4 ≤ _; omega
  · show d.length - d0.length + 1 ≤ dF.length - d0.length
    have a1 := hn.1; have a2 := hn1.2.2.1; simp at a2; omega
  · show vSz d - vSz d0 + n ≤ vSz dF - vSz d0
    have a1 := hn.2.1; have a2 := hn1.2.2.2; rw [vSz_app, hsl] at a2; omega
  · have hcA : cA = q.1 := by
      have r1 : s.vm.findClass ("[" ++ (FieldType.int).toString) = some cA := (hK1.2 3 (cA, .int) rfl).2
      have r2 : s.vm.findClass ("[" ++ (FieldType.int).toString) = some q.1 := (hK1.2 0 (q.1, .int) rfl).2
      exact Option.some.inj (r1.symm.trans r2)
    subst hcA
    have := vV.made (l := l) (e := e) (below := below) (a := a) (H1 := H1) (pc' := pc + 2) hX hN hag hl hL (vOk_t hs) hn hf hn1 (ex := .inl (q.1, n, .inl (fun _ => Int32.ofInt 0))) (by rw [vCe_i hk]; congr 4; funext j; simp [vClr]) h1 h2 h3 kk
    rw [hsl] at this
    exact this
theorem vV.newZ {k n : Nat} {x : Int} (hd : decode mt.2.1 pc = .ok (.newarray .boolean, 2)) (hx0 : x = (n : Int)) (hk : vKK k = (2, n)) (hf : k ∉ d) (hbg : n ≤ 134217728) (hn1 : vLe d (d ++ [k]) dF) (hw : Cond.arrayClass .boolean ∈ vTb)
    (kk : vV mt d0 dF Q (pc + 2) L (vR k :: S) (d ++ [k]) (vClT T k) (vClr M k)) : vV mt d0 dF Q pc L (vI x :: S) d T M := by
  intro l p e s m args below meth c D q A ρ0 ρ H locs ls hX hS hl hL hs hn
  obtain ⟨hx, hb, hml, ho, htb, hrt, hlk, hnm, hK, hA, hst⟩ := id hX
  obtain ⟨hP, hD, hSS, hN, hag⟩ := id hS
  have hsl := vSl_a (by decide) hk
  have hxr : vIn x := vOk_h hs
  have hnt : (Int32.ofInt x).toInt = x := i32_in hxr
  refine va_newa (atype := .boolean) hx hb (htb _ hw) rfl hK hP hD hSS hA (N' := n) (a0 := (n, .inl (fun _ => Int32.ofInt 0))) (fun cA => by rfl) ?_ ?_ ?_ ?_ ?_ hd fun a cA H1 hK1 h1 h2 h3 => ?_
  · rw [Int32.lt_iff_toInt_lt, hnt]; simp; omega
  · show (Int32.ofInt x).toInt.toNat = n; rw [hnt]; omega
  · show n * 1 ≤ _; omega
  · show d.length - d0.length + 1 ≤ dF.length - d0.length
    have a1 := hn.1; have a2 := hn1.2.2.1; simp at a2; omega
  · show vSz d - vSz d0 + n ≤ vSz dF - vSz d0
    have a1 := hn.2.1; have a2 := hn1.2.2.2; rw [vSz_app, hsl] at a2; omega
  · have hcA : cA = q.2.1 := by
      have r1 : s.vm.findClass ("[" ++ (FieldType.boolean).toString) = some cA := (hK1.2 3 (cA, .boolean) rfl).2
      have r2 : s.vm.findClass ("[" ++ (FieldType.boolean).toString) = some q.2.1 := (hK1.2 1 (q.2.1, .boolean) rfl).2
      exact Option.some.inj (r1.symm.trans r2)
    subst hcA
    have := vV.made (l := l) (e := e) (below := below) (a := a) (H1 := H1) (pc' := pc + 2) hX hN hag hl hL (vOk_t hs) hn hf hn1 (ex := .inl (q.2.1, n, .inl (fun _ => Int32.ofInt 0))) (by rw [vCe_z hk]; congr 4; funext j; simp [vClr]) h1 h2 h3 kk
    rw [hsl] at this
    exact this
theorem vV.newQ {k n : Nat} {x : Int} (hd : decode mt.2.1 pc = .ok (.anewarray idx, 3)) (hx0 : x = (n : Int)) (hk : vKK k = (3, n)) (hf : k ∉ d) (hbg : n ≤ 134217728) (hn1 : vLe d (d ++ [k]) dF) (hw2 : Cond.classLink mt.1.cls idx RX3 ∈ vTb)
    (kk : vV mt d0 dF Q (pc + 3) L (vR k :: S) (d ++ [k]) (vClT T k) (vClr M k)) : vV mt d0 dF Q pc L (vI x :: S) d T M := by
  intro l p e s m args below meth c D q A ρ0 ρ H locs ls hX hS hl hL hs hn
  obtain ⟨hx, hb, hml, ho, htb, hrt, hlk, hnm, hK, hA, hst, hnw⟩ := id hX
  obtain ⟨hP, hD, hSS, hN, hag⟩ := id hS
  have hsl := vSl_a (by decide) hk
  have hxr : vIn x := vOk_h hs
  have hnt : (Int32.ofInt x).toInt = x := i32_in hxr
  refine va_newq hx hb ho (htb _ hw2) hnw.2.2.2 hK hP hD hSS hA (N' := n) ?_ ?_ ?_ ?_ ?_ hd fun a cA H1 hK1 h1 h2 h3 => ?_
  · rw [Int32.lt_iff_toInt_lt, hnt]; simp; omega
  · show (Int32.ofInt x).toInt.toNat = n; rw [hnt]; omega
  · omega
  · show d.length - d0.length + 1 ≤ dF.length - d0.length
    have a1 := hn.1; have a2 := hn1.2.2.1; simp at a2; omega
  · show vSz d - vSz d0 + n ≤ vSz dF - vSz d0
    have a1 := hn.2.1; have a2 := hn1.2.2.2; rw [vSz_app, hsl] at a2; omega
  · have hcA : cA = q.2.2 := by
      obtain ⟨-, -, -, -, -, r1⟩ := (hK1.2 3 (cA, .object RX3) rfl).2
      obtain ⟨-, -, -, -, -, r2⟩ := (hK1.2 2 (q.2.2, .object RX3) rfl).2
      exact Option.some.inj (r1.symm.trans r2)
    subst hcA
    have := vV.made (l := l) (e := e) (below := below) (a := a) (H1 := H1) (pc' := pc + 3) hX hN hag hl hL (vOk_t hs) hn hf hn1 (ex := .inl (q.2.2, n, .inr (.inr (.inr (.inr (fun _ => none)))))) (by rw [vCe_r hk]; congr 7; funext j; simp [vClT]) h1 h2 h3 kk
    rw [hsl] at this
    exact this
theorem vV.objInit {k : Nat} (hd : decode mt.2.1 pc = .ok (.invokespecial idx, 3)) (hw : Cond.methodLink mt.1.cls idx Lib.objectInit ∈ vTb) (hw2 : Cond.instanceMethod Lib.objectInit ∈ vTb ∧ Cond.code Lib.objectInit ⟨#[0xb1]⟩ 1 none ∈ vTb) (hfr : 1 ≤ mt.2.2.2.2.1) (hlo : (S.map vCat).sum + 12 ≤ mt.2.2.2.2.2)
    (kk : vV mt d0 dF Q (pc + 3) L S d T M) : vV mt d0 dF Q pc L (vR k :: S) d T M := by
  intro l p e s m args below meth c D q A ρ0 ρ H locs ls hX hS hl hL hs hn
  obtain ⟨hx, hb, hml, ho, htb, hrt, hlk, hnm, hK, hA, hst⟩ := id hX
  refine W.objInit hx hb ho (htb _ hw) (htb _ hw2.1) (htb _ hw2.2) (g := F0 m pc ls ((vR k :: S).map (vc ρ))) rfl (hl.1.trans hml.symm) (a := ρ k) (rest := S.map (vc ρ)) rfl hd hfr ?_ (kk l p e s m args below meth c D q A ρ0 ρ H locs ls hX hS hl hL (vOk_t hs) hn)
  have : ((S.map (vc ρ)).map fun v => v.category) = S.map vCat := by rw [List.map_map]; exact List.map_congr_left fun v _ => vc_cat ρ v
  show 2 * 0 + _ + 12 ≤ _
  rw [this]; show _ ≤ mt.2.2.2.2.2; omega
theorem vCatL {ρ : Nat → Nat} {S : List vA} : ((S.map (vc ρ)).map fun v => v.category) = S.map vCat := by rw [List.map_map]; exact List.map_congr_left fun v _ => vc_cat ρ v
theorem vV.mmin {x y : Int} (hd : decode mt.2.1 pc = .ok (.invokestatic idx, 3)) (hw : Cond.methodLink mt.1.cls idx Lib.Math.min.name ∈ vTb) (hw2 : Cond.static Lib.Math.min.name ∈ vTb ∧ Cond.initialized "java/lang/Math" ∈ vTb ∧ Cond.code Lib.Math.min.name Lib.Math.min.code 2 (some .int) ∈ vTb) (hfr : 1 ≤ mt.2.2.2.2.1) (hlo : (S.map vCat).sum + 13 ≤ mt.2.2.2.2.2)
    (kk : vV mt d0 dF Q (pc + 3) L (vI (min x y) :: S) d T M) : vV mt d0 dF Q pc L (vI y :: vI x :: S) d T M := by
  intro l p e s m args below meth c D q A ρ0 ρ H locs ls hX hS hl hL hs hn
  obtain ⟨hx, hb, hml, ho, htb, hrt, hlk, hnm, hK, hA, hst⟩ := id hX
  have hxr : vIn x := vOk_h (vOk_t hs)
  have hyr : vIn y := vOk_h hs
  have a1 := hn.1; have a2 := hn.2.1; have a3 := hn.2.2.1; have a4 := hn.2.2.2
  refine va_mmin hx hb (hml.trans hl.1.symm) ho (htb _ hw) (htb _ hw2.1) (htb _ hw2.2.1) (htb _ hw2.2.2) hfr (by rw [vCatL]; exact hlo) (by show d.length - d0.length ≤ dF.length - d0.length; omega) (by show vSz d - vSz d0 ≤ vSz dF - vSz d0; omega) hd ?_
  have e9 : (if Int32.ofInt y < Int32.ofInt x then Int32.ofInt y else Int32.ofInt x) = Int32.ofInt (min x y) := by
    by_cases h : y < x
    · rw [if_pos ((i32_lt hyr hxr).mpr h), show min x y = y by omega]
    · rw [if_neg (fun z => h ((i32_lt hyr hxr).mp z)), show min x y = x by omega]
  rw [e9]
  exact kk l p e s m args below meth c D q A ρ0 ρ H locs ls hX hS hl hL (vOk_c (v := vI (min x y)) (by show vIn _; rcases (show min x y = x ∨ min x y = y by omega) with z | z <;> rw [z] <;> assumption) (vOk_t (vOk_t hs))) hn
theorem vV.mmax {x y : Int} (hd : decode mt.2.1 pc = .ok (.invokestatic idx, 3)) (hw : Cond.methodLink mt.1.cls idx Lib.Math.max.name ∈ vTb) (hw2 : Cond.static Lib.Math.max.name ∈ vTb ∧ Cond.initialized "java/lang/Math" ∈ vTb ∧ Cond.code Lib.Math.max.name Lib.Math.max.code 2 (some .int) ∈ vTb) (hfr : 1 ≤ mt.2.2.2.2.1) (hlo : (S.map vCat).sum + 13 ≤ mt.2.2.2.2.2)
    (kk : vV mt d0 dF Q (pc + 3) L (vI (max x y) :: S) d T M) : vV mt d0 dF Q pc L (vI y :: vI x :: S) d T M := by
  intro l p e s m args below meth c D q A ρ0 ρ H locs ls hX hS hl hL hs hn
  obtain ⟨hx, hb, hml, ho, htb, hrt, hlk, hnm, hK, hA, hst⟩ := id hX
  have hxr : vIn x := vOk_h (vOk_t hs)
  have hyr : vIn y := vOk_h hs
  have a1 := hn.1; have a2 := hn.2.1; have a3 := hn.2.2.1; have a4 := hn.2.2.2
  refine va_mmax hx hb (hml.trans hl.1.symm) ho (htb _ hw) (htb _ hw2.1) (htb _ hw2.2.1) (htb _ hw2.2.2) hfr (by rw [vCatL]; exact hlo) (by show d.length - d0.length ≤ dF.length - d0.length; omega) (by show vSz d - vSz d0 ≤ vSz dF - vSz d0; omega) hd ?_
  have e9 : (if Int32.ofInt x < Int32.ofInt y then Int32.ofInt y else Int32.ofInt x) = Int32.ofInt (max x y) := by
    by_cases h : x < y
    · rw [if_pos ((i32_lt hxr hyr).mpr h), show max x y = y by omega]
    · rw [if_neg (fun z => h ((i32_lt hxr hyr).mp z)), show max x y = x by omega]
  rw [e9]
  exact kk l p e s m args below meth c D q A ρ0 ρ H locs ls hX hS hl hL (vOk_c (v := vI (max x y)) (by show vIn _; rcases (show max x y = x ∨ max x y = y by omega) with z | z <;> rw [z] <;> assumption) (vOk_t (vOk_t hs))) hn
theorem vV.mabs {x : Int} (hd : decode mt.2.1 pc = .ok (.invokestatic idx, 3)) (hw : Cond.methodLink mt.1.cls idx Lib.Math.abs.name ∈ vTb) (hw2 : Cond.static Lib.Math.abs.name ∈ vTb ∧ Cond.initialized "java/lang/Math" ∈ vTb ∧ Cond.code Lib.Math.abs.name Lib.Math.abs.code 1 (some .int) ∈ vTb) (hfr : 1 ≤ mt.2.2.2.2.1) (hlo : (S.map vCat).sum + 13 ≤ mt.2.2.2.2.2) (h : vIn (-x))
    (kk : vV mt d0 dF Q (pc + 3) L (vI (max x (-x)) :: S) d T M) : vV mt d0 dF Q pc L (vI x :: S) d T M := by
  intro l p e s m args below meth c D q A ρ0 ρ H locs ls hX hS hl hL hs hn
  obtain ⟨hx, hb, hml, ho, htb, hrt, hlk, hnm, hK, hA, hst⟩ := id hX
  have hxr : vIn x := vOk_h hs
  have a1 := hn.1; have a2 := hn.2.1; have a3 := hn.2.2.1; have a4 := hn.2.2.2
  refine va_mabs hx hb (hml.trans hl.1.symm) ho (htb _ hw) (htb _ hw2.1) (htb _ hw2.2.1) (htb _ hw2.2.2) hfr (by rw [vCatL]; exact hlo) (by show d.length - d0.length ≤ dF.length - d0.length; omega) (by show vSz d - vSz d0 ≤ vSz dF - vSz d0; omega) hd ?_
  have e9 : (if 0 ≤ Int32.ofInt x then Int32.ofInt x else 0 - Int32.ofInt x) = Int32.ofInt (max x (-x)) := by
    show (if Int32.ofInt 0 ≤ Int32.ofInt x then Int32.ofInt x else Int32.ofInt 0 - Int32.ofInt x) = _
    by_cases h : 0 ≤ x
    · rw [if_pos ((i32_le i32_z hxr).mpr h), show max x (-x) = x by omega]
    · rw [if_neg (fun z => h ((i32_le i32_z hxr).mp z)), show max x (-x) = 0 - x by omega, Int32.ofInt_sub]
  rw [e9]
  exact kk l p e s m args below meth c D q A ρ0 ρ H locs ls hX hS hl hL (vOk_c (v := vI (max x (-x))) (by show vIn _; rcases (show max x (-x) = x ∨ max x (-x) = -x by omega) with z | z <;> rw [z] <;> assumption) (vOk_t hs)) hn
theorem vV.copy {a b na nb : Nat} {sp dp n : Int} (hd : decode mt.2.1 pc = .ok (.invokestatic idx, 3)) (hw : Cond.methodLink mt.1.cls idx arraycopyName ∈ vTb) (hw2 : Cond.native arraycopyName ∈ vTb ∧ Cond.static arraycopyName ∈ vTb ∧ Cond.initialized "java/lang/System" ∈ vTb) (hka : vKK a = (1, na)) (hkb : vKK b = (1, nb)) (h1 : 0 ≤ sp) (h2 : 0 ≤ dp) (h3 : 0 ≤ n) (h4 : sp + n ≤ na) (h5 : dp + n ≤ nb)
    (hfr : 1 ≤ mt.2.2.2.2.1) (hlo : (S.map vCat).sum + 18 ≤ mt.2.2.2.2.2) (kk : vV mt d0 dF Q (pc + 3) L S d T (vCpy M a sp b dp n)) : vV mt d0 dF Q pc L (vI n :: vI dp :: vR b :: vI sp :: vR a :: S) d T M := by
  intro l p e s m args below meth c D q A ρ0 ρ H locs ls hX hS hl hL hs hn
  obtain ⟨hx, hb, hml, ho, htb, hrt, hlk, hnm, hK, hA, hst⟩ := id hX
  obtain ⟨hP, hD, hSS, hN, hag⟩ := id hS
  have r1 : vIn n := vOk_h hs
  have r2 : vIn dp := vOk_h (vOk_t hs)
  have r3 : vIn sp := vOk_h (vOk_t (vOk_t (vOk_t hs)))
  obtain ⟨i, hi, hwi⟩ := vW_at (q := q) (ρ := ρ) (T := T) (M := M) (vOk_h (vOk_t (vOk_t (vOk_t (vOk_t hs)))) a rfl)
  obtain ⟨j, hj, hwj⟩ := vW_at (q := q) (ρ := ρ) (T := T) (M := M) (vOk_h (vOk_t (vOk_t hs)) b rfl)
  rw [vCe_i hka] at hwi
  rw [vCe_i hkb] at hwj
  have c1 : (Int32.ofInt n).toNatClampNeg = n.toNat := by show (Int32.ofInt n).toInt.toNat = _; rw [i32_in r1]
  have c2 : (Int32.ofInt dp).toNatClampNeg = dp.toNat := by show (Int32.ofInt dp).toInt.toNat = _; rw [i32_in r2]
  have c3 : (Int32.ofInt sp).toNatClampNeg = sp.toNat := by show (Int32.ofInt sp).toInt.toNat = _; rw [i32_in r3]
  have nneg : ∀ z : Int, vIn z → 0 ≤ z → ¬ Int32.ofInt z < 0 := fun z hz h0 h => by have := (i32_lt hz i32_z).mp h; omega
  refine va_copyi hx hb (hml.trans hl.1.symm) ho (htb _ hw) (htb _ hw2.1) (htb _ hw2.2.1) (htb _ hw2.2.2) hK hP hD hSS i j 0 0 hwi hwj rfl rfl rfl (nneg sp r3 h1) (nneg dp r2 h2) (nneg n r1 h3) (by rw [c1, c3]; omega) (by rw [c1, c2]; omega) (fun _ _ => rfl) hfr (by rw [vCatL]; show _ + 18 ≤ _; exact hlo) hd fun H1 locs1 b1 b2 b3 => ?_
  have hset : (vW q ρ d T M).set j (ρ b, .inl (q.1, nb, .inl (va_cpy (fun j => Int32.ofInt (M a j)) (fun j => Int32.ofInt (M b j)) (Int32.ofInt sp).toNatClampNeg (Int32.ofInt dp).toNatClampNeg (Int32.ofInt n).toNatClampNeg))) = vW q ρ d T (vCpy M a sp b dp n) := by
    refine vW_set hD hj ?_ (fun k' hne => vCe_row (by funext z; simp [vCpy, hne]) rfl)
    rw [vCe_i hkb, c1, c2, c3]
    congr 4
    funext z
    unfold va_cpy vCpy
    by_cases hz : dp.toNat ≤ z ∧ z < dp.toNat + n.toNat
    · rw [if_pos hz, if_pos ⟨rfl, by omega, by omega⟩]
      congr 2; omega
    · rw [if_neg hz, if_neg]; rintro ⟨-, y1, y2⟩; omega
  have b1 : va_P D vCl (vW q ρ d T (vCpy M a sp b dp n)) H1 := by rw [← hset]; exact b1
  have b2 : va_D A (vW q ρ d T (vCpy M a sp b dp n)) := by rw [← hset]; exact b2
  refine kk l p e s m args below meth c D q A ρ0 ρ H1 locs1 ls hX ⟨b1, b2, b3, ⟨fun k z => ?_, hN.2⟩, hag⟩ hl hL (vOk_t (vOk_t (vOk_t (vOk_t (vOk_t hs))))) hn
  unfold vCpy; split
  · exact hN.1 _ _
  · exact hN.1 _ _
end VNW
-- the posts
def vPi (P : Int → vT → vM → Prop) : Option vA → vT → vM → Prop := fun r T M => ∃ x : Int, r = some (vI x) ∧ vIn x ∧ P x T M
def vPv (P : vT → vM → Prop) : Option vA → vT → vM → Prop := fun r T M => r = none ∧ P T M
