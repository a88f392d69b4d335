/-! ===== own: the judgement V ===== -/
abbrev vMt : Type := MethodName × ByteArray × Nat × Option FieldType × Nat × Nat
def vTs (q : vQc) : List (ClassId × FieldType) := [(q.1, .int), (q.2.1, .boolean), (q.2.2, .object RX3)]
def vLeI (j : Nat) : Int := match j with
  | 0 => 0 | 1 => 1 | 2 => 1 | 3 => 0 | _ => 1
def vMoI (j : Nat) : Int := match j with
  | 0 => 7 | 1 => 6 | 2 => 9 | 3 => 3 | _ => 6
def vFiI (j : Nat) : Int := match j with
  | 0 => 0 | 1 => 3 | 2 => 4 | 3 => 0 | _ => 2
def vSt1 (n : String) (f : Nat → Int) (q : vQc) (A : Nat → Prop) (U : State) (H : Heap) : Prop := ∃ t : Nat, va_Z "SpunPlates" n "[I" (.ref t) A U H ∧ va_T .int t 5 (fun j => .int (Int32.ofInt (f j))) A U H ∧
  ∃ cell : Cell, H[t]? = some cell ∧ cell.cls = q.1 ∧ cell.slots.size = 5 ∧ (∀ k, cell.vm ≠ .statics k) ∧ cell.vm ≠ .unknown
def vSt (q : vQc) (A : Nat → Prop) (U : State) (H : Heap) : Prop := vSt1 "SETTING_LEAST" vLeI q A U H ∧ vSt1 "SETTING_MOST" vMoI q A U H ∧ vSt1 "SETTING_FIRST" vFiI q A U H
theorem vSt1.go {n : String} {f : Nat → Int} {q : vQc} {A B : Nat → Prop} {u U : State} {H H1 : Heap} (h : vSt1 n f q A u H) (hvm : u.vm.Alike U.vm) (hq : ∀ a : Nat, a < H.size → ¬ A a → H1[a]? = H[a]?) (hAB : ∀ z, B z → A z) : vSt1 n f q B U H1 := by
  obtain ⟨t, h1, h2, cell, h3, h4⟩ := h
  refine ⟨t, ((h1.moved hvm).kept hq).narrow hAB, ((h2.moved hvm).kept hq).narrow hAB, cell, ?_, h4⟩
  rw [hq t (Array.getElem?_eq_some_iff.mp h3).1 h2.out]
  exact h3
theorem vSt.go {q : vQc} {A B : Nat → Prop} {u U : State} {H H1 : Heap} (h : vSt q A u H) (hvm : u.vm.Alike U.vm) (hq : ∀ a : Nat, a < H.size → ¬ A a → H1[a]? = H[a]?) (hAB : ∀ z, B z → A z) : vSt q B U H1 :=
  ⟨h.1.go hvm hq hAB, h.2.1.go hvm hq hAB, h.2.2.go hvm hq hAB⟩
/-- links among nest mates, and what else isn't a word that a contract may bear -/
def vNm : List (String × Nat × MethodName) := [(RX6, 9, yX3_init), (RX6, 25, yX1_init), (RX6, 32, yX5_init), (RX5, 11, yX3_init), (RX6, 39, yX4_init), (RX6, 46, yX2_init), (RX6, 53, yX0_init), (RX4, 31, yX6_firstOrder), (RX4, 63, yX6_nextOrder), (RX2, 49, yX6_firstOrder), (RX2, 60, yX6_nextOrder)]
def vNw (s : State) : Prop := (∀ z ∈ vNm, va_Nw (.methodLinkNest z.1 z.2.1 z.2.2 "SpunPlates") s) ∧ va_Nw (.fieldLinkNest RX3 24 "SpunPlates" "SETTING_FIRST" "[I" "SpunPlates") s ∧ va_Nw (.castable "[I" "java/lang/Cloneable") s ∧ va_AO RX3 s
theorem vNw.warm {s U : State} (hW : s.WarmedH U.vm) (h : vNw s) : vNw U := ⟨fun z hz => (h.1 z hz).warmM hW, h.2.1.warmF hW, h.2.2.1.warmC hW, h.2.2.2.moved hW.alike⟩
theorem vNw.same {u U : State} (hv : u.vm = U.vm) (h : vNw u) : vNw U := ⟨fun z hz => (h.1 z hz).same rfl hv, h.2.1.same rfl hv, h.2.2.1.same rfl hv, h.2.2.2.moved (by rw [hv]; exact Vm.Alike.refl U.vm)⟩
def vX (mt : vMt) (p : Program) (s : State) (m : MethodId) (args : Array Value) (meth : Method) (c : Code) (D : va_G) (q : vQc) (A : Nat → Prop) : Prop :=
  p.tables.exec = Jvm.exec ∧ c.code = mt.2.1 ∧ c.maxLocals = mt.2.2.1 ∧ s.vm.findClass mt.1.cls = some m.cls ∧ (∀ w ∈ vTb, w.before args s = true) ∧ meth.sig.returnType = mt.2.2.2.1 ∧ meth.locks = false ∧ meth.name = mt.1.name ∧ va_K D vCl (vTs q) s ∧ (∀ z, s.heap.size ≤ z → A z) ∧ vSt q A s s.heap ∧ vNw s
/-- the numbers and names of a state are sound -/
def vN (d : List Nat) (T : vT) (M : vM) : Prop := (∀ k j, vIn (M k j)) ∧ ∀ k j v, T k j = some v → v ∈ d
def vS (D : va_G) (q : vQc) (A : Nat → Prop) (H0 : Heap) (ρ0 : Nat → Nat) (d0 : List Nat) (ρ : Nat → Nat) (d : List Nat) (T : vT) (M : vM) (H : Heap) (locs : List Loc) : Prop :=
  va_P D vCl (vW q ρ d T M) H ∧ va_D A (vW q ρ d T M) ∧ va_S A H0 H locs ∧ vN d T M ∧ ∀ k ∈ d0, k ∈ d ∧ ρ k = ρ0 k
def vRm (mt : vMt) (d0 dF : List Nat) : Room := { frames := mt.2.2.2.2.1, cells := dF.length - d0.length, slots := vSz dF - vSz d0, locals := mt.2.2.2.2.2 }
def vQq (q : vQc) (D : va_G) (A : Nat → Prop) (ρ0 : Nat → Nat) (d0 dF : List Nat) (Q : Option vA → vT → vM → Prop) : Array Value → State → Outcome → State → Prop := fun _ st o t =>
  (∃ (r : Option vA) (T' : vT) (M' : vM) (ρ' : Nat → Nat), o = .returned (r.map (vc ρ')) ∧ Q r T' M' ∧ va_P D vCl (vW q ρ' dF T' M') t.heap ∧ va_D A (vW q ρ' dF T' M') ∧ vN dF T' M' ∧ (∀ k ∈ d0, k ∈ dF ∧ ρ' k = ρ0 k) ∧ ∀ v, r = some v → vOk dF v) ∧ va_F A st t
/-- the room: what is made lies between the start's cells and the end's -/
def vLe (d0 d dF : List Nat) : Prop := d0.length ≤ d.length ∧ vSz d0 ≤ vSz d ∧ d.length ≤ dF.length ∧ vSz d ≤ vSz dF
def vV (mt : vMt) (d0 dF : List Nat) (Q : Option vA → vT → vM → Prop) (pc : Nat) (L : List (Option vA)) (S : List vA) (d : List Nat) (T : vT) (M : vM) : Prop :=
  ∀ (l : Launch) (p : Program) (e : Env) (s : State) (m : MethodId) (args : Array Value) (below : List Frame) (meth : Method) (c : Code) (D : va_G) (q : vQc) (A : Nat → Prop) (ρ0 ρ : Nat → Nat) (H : Heap) (locs : List Loc) (ls : Array Slot),
    vX mt p s m args meth c D q A → vS D q A s.heap ρ0 d0 ρ d T M H locs → lv_has ls mt.2.2.1 (vl ρ L) → vLok d L → (∀ v ∈ S, vOk d v) → vLe d0 d dF →
    W p l e (vRm mt d0 dF) s m args below meth c H locs (d.length - d0.length) (vSz d - vSz d0) (MQ below (vQq q D A ρ0 d0 dF Q) args s (dF.length - d0.length) (vSz dF - vSz d0) A) (F0 m pc ls (S.map (vc ρ)))
section VR
variable {mt : vMt} {d0 dF : List Nat} {Q : Option vA → vT → vM → Prop} {pc : Nat} {L : List (Option vA)} {S : List vA} {d : List Nat} {T : vT} {M : vM}
/-- an instruction that moves the stack alone -/
theorem vV.pure {pc' : Nat} {S' : List vA} (k : vV mt d0 dF Q pc' L S' d T M) (hok : vLok d L → (∀ v ∈ S, vOk d v) → ∀ v ∈ S', vOk d v)
    (hW : ∀ (p : Program) (l : Launch) (e : Env) (R : Room) (s : State) (m : MethodId) (args : Array Value) (below : List Frame) (meth : Method) (c : Code) (H : Heap) (locs : List Loc) (cells slots : Nat) (Z : State → Prop) (ls : Array Slot) (ρ : Nat → Nat), p.tables.exec = Jvm.exec → c.code = mt.2.1 → s.vm.findClass mt.1.cls = some m.cls → (∀ w ∈ vTb, w.before args s = true) → lv_has ls mt.2.2.1 (vl ρ L) → (∀ v ∈ S, vOk d v) →
      W p l e R s m args below meth c H locs cells slots Z (F0 m pc' ls (S'.map (vc ρ))) → W p l e R s m args below meth c H locs cells slots Z (F0 m pc ls (S.map (vc ρ)))) : vV mt d0 dF Q pc L S d T M := by
  intro l p e s m args below meth c D q A ρ0 ρ H locs ls hX hS hl hL hs hn
  exact hW p l e _ s m args below meth c H locs _ _ _ ls ρ hX.1 hX.2.1 hX.2.2.2.1 hX.2.2.2.2.1 hl hs (k l p e s m args below meth c D q A ρ0 ρ H locs ls hX hS hl hL (hok hL hs) hn)
theorem vOk_t {v : vA} {S : List vA} (h : ∀ w ∈ v :: S, vOk d w) : ∀ w ∈ S, vOk d w := fun w hw => h w (List.mem_cons_of_mem _ hw)
theorem vOk_h {v : vA} {S : List vA} (h : ∀ w ∈ v :: S, vOk d w) : vOk d v := h v List.mem_cons_self
theorem vOk_c {v : vA} {S : List vA} (hv : vOk d v) (h : ∀ w ∈ S, vOk d w) : ∀ w ∈ v :: S, vOk d w := fun w hw => by
  rcases List.mem_cons.mp hw with rfl | h2
  · exact hv
  · exact h w h2
theorem i32_in {x : Int} (h : vIn x) : (Int32.ofInt x).toInt = x := Int32.toInt_ofInt_of_le (by have := h.1; omega) (by have := h.2; omega)
theorem i32_eq {x y : Int} (hx : vIn x) (hy : vIn y) : Int32.ofInt x = Int32.ofInt y ↔ x = y := ⟨fun h => by rw [← i32_in hx, ← i32_in hy, h], fun h => by rw [h]⟩
theorem i32_le {x y : Int} (hx : vIn x) (hy : vIn y) : Int32.ofInt x ≤ Int32.ofInt y ↔ x ≤ y := by rw [Int32.le_iff_toInt_le, i32_in hx, i32_in hy]
theorem i32_lt {x y : Int} (hx : vIn x) (hy : vIn y) : Int32.ofInt x < Int32.ofInt y ↔ x < y := by rw [Int32.lt_iff_toInt_lt, i32_in hx, i32_in hy]
theorem i32_of (z : Int32) : Int32.ofInt z.toInt = z := Int32.ofInt_toInt z
theorem i32_rg (z : Int32) : vIn z.toInt := ⟨by have := Int32.le_toInt z; omega, by have := Int32.toInt_lt z; omega⟩
-- constants
theorem vV.iconst {n : Int} (hd : decode mt.2.1 pc = .ok (.iconst n, 1)) (h : vIn n) (k : vV mt d0 dF Q (pc + 1) L (vI n :: S) d T M) : vV mt d0 dF Q pc L S d T M :=
  k.pure (fun _ hs => vOk_c h hs) (fun p l e R s m args below meth c H locs cells slots Z ls ρ hx hb ho ht hl hs kk => lv_iconst hx hb hd rfl kk)
theorem vV.bipush {n v : Int} (hd : decode mt.2.1 pc = .ok (.bipush n, 2)) (hv : (Int8.ofInt n).toInt32 = Int32.ofInt v) (h : vIn v) (k : vV mt d0 dF Q (pc + 2) L (vI v :: S) d T M) : vV mt d0 dF Q pc L S d T M :=
  k.pure (fun _ hs => vOk_c h hs) (fun p l e R s m args below meth c H locs cells slots Z ls ρ hx hb ho ht hl hs kk => lv_bipush hx hb hd hv kk)
theorem vV.sipush {n v : Int} (hd : decode mt.2.1 pc = .ok (.sipush n, 3)) (hv : (Int16.ofInt n).toInt32 = Int32.ofInt v) (h : vIn v) (k : vV mt d0 dF Q (pc + 3) L (vI v :: S) d T M) : vV mt d0 dF Q pc L S d T M :=
  k.pure (fun _ hs => vOk_c h hs) (fun p l e R s m args below meth c H locs cells slots Z ls ρ hx hb ho ht hl hs kk => lv_sipush hx hb hd hv kk)
theorem vV.ldc {i : Nat} {w : Int32} {v : Int} (hd : decode mt.2.1 pc = .ok (.ldc i, 2)) (hw : Cond.constant mt.1.cls i w ∈ vTb) (hv : w = Int32.ofInt v) (h : vIn v) (k : vV mt d0 dF Q (pc + 2) L (vI v :: S) d T M) : vV mt d0 dF Q pc L S d T M :=
  k.pure (fun _ hs => vOk_c h hs) (fun p l e R s m args below meth c H locs cells slots Z ls ρ hx hb ho ht hl hs kk => lv_ldc hx hb ho (ht _ hw) hd (by rw [hv]; exact kk))
theorem vV.ldcw {i : Nat} {w : Int32} {v : Int} (hd : decode mt.2.1 pc = .ok (.ldc_w i, 3)) (hw : Cond.constant mt.1.cls i w ∈ vTb) (hv : w = Int32.ofInt v) (h : vIn v) (k : vV mt d0 dF Q (pc + 3) L (vI v :: S) d T M) : vV mt d0 dF Q pc L S d T M :=
  k.pure (fun _ hs => vOk_c h hs) (fun p l e R s m args below meth c H locs cells slots Z ls ρ hx hb ho ht hl hs kk => lv_ldcw hx hb ho (ht _ hw) hd (by rw [hv]; exact kk))
theorem vV.ldc2 {i : Nat} {w : Int64} {v : Int} (hd : decode mt.2.1 pc = .ok (.ldc2_w i, 3)) (hw : Cond.constantLong mt.1.cls i w ∈ vTb) (hv : w = Int64.ofInt v) (h : vIn v) (k : vV mt d0 dF Q (pc + 3) L (vL v :: S) d T M) : vV mt d0 dF Q pc L S d T M :=
  k.pure (fun _ hs => vOk_c (v := vL v) h hs) (fun p l e R s m args below meth c H locs cells slots Z ls ρ hx hb ho ht hl hs kk => lv_ldc2 hx hb ho (ht _ hw) hd (by rw [hv]; exact kk))
theorem vV.lconst {n : Fin 2} {v : Int} (hd : decode mt.2.1 pc = .ok (.lconst n, 1)) (hv : Int64.ofNat (n : Nat) = Int64.ofInt v) (h : vIn v) (k : vV mt d0 dF Q (pc + 1) L (vL v :: S) d T M) : vV mt d0 dF Q pc L S d T M :=
  k.pure (fun _ hs => vOk_c (v := vL v) h hs) (fun p l e R s m args below meth c H locs cells slots Z ls ρ hx hb ho ht hl hs kk => lv_lconst hx hb hd hv kk)
theorem vV.i2l {x : Int} (hd : decode mt.2.1 pc = .ok (.i2l, 1)) (k : vV mt d0 dF Q (pc + 1) L (vL x :: S) d T M) : vV mt d0 dF Q pc L (vI x :: S) d T M :=
  k.pure (fun _ hs => vOk_c (v := vL x) (show vIn x from vOk_h (v := vI x) hs) (vOk_t hs)) (fun p l e R s m args below meth c H locs cells slots Z ls ρ hx hb ho ht hl hs kk => lv_i2l hx hb hd (by
    have hr : vIn x := vOk_h hs
    apply Int64.toInt_inj.mp
    rw [Int32.toInt_toInt64, i32_in hr, Int64.toInt_ofInt_of_le (by have := hr.1; omega) (by have := hr.2; omega)]) kk)
-- locals
theorem vV.iload_n {i : Fin 4} {x : Int} (hd : decode mt.2.1 pc = .ok (.iload_n i, 1)) (hi : L[(i : Nat)]? = some (some (vI x))) (k : vV mt d0 dF Q (pc + 1) L (vI x :: S) d T M) : vV mt d0 dF Q pc L S d T M :=
  k.pure (fun hL hs => vOk_c (hL _ _ hi).1 hs) (fun p l e R s m args below meth c H locs cells slots Z ls ρ hx hb ho ht hl hs kk => lv_iload_n hx hb hd rfl (vl_at hl hi) kk)
theorem vV.iload {i : Nat} {x : Int} (hd : decode mt.2.1 pc = .ok (.iload i, 2)) (hi : L[i]? = some (some (vI x))) (k : vV mt d0 dF Q (pc + 2) L (vI x :: S) d T M) : vV mt d0 dF Q pc L S d T M :=
  k.pure (fun hL hs => vOk_c (hL _ _ hi).1 hs) (fun p l e R s m args below meth c H locs cells slots Z ls ρ hx hb ho ht hl hs kk => lv_iload hx hb hd (vl_at hl hi) kk)
theorem vV.aload_n {i : Fin 4} {a : Nat} (hd : decode mt.2.1 pc = .ok (.aload_n i, 1)) (hi : L[(i : Nat)]? = some (some (vR a))) (k : vV mt d0 dF Q (pc + 1) L (vR a :: S) d T M) : vV mt d0 dF Q pc L S d T M :=
  k.pure (fun hL hs => vOk_c (hL _ _ hi).1 hs) (fun p l e R s m args below meth c H locs cells slots Z ls ρ hx hb ho ht hl hs kk => lv_aload_n hx hb hd rfl (vl_at hl hi) kk)
theorem vV.aload {i : Nat} {a : Nat} (hd : decode mt.2.1 pc = .ok (.aload i, 2)) (hi : L[i]? = some (some (vR a))) (k : vV mt d0 dF Q (pc + 2) L (vR a :: S) d T M) : vV mt d0 dF Q pc L S d T M :=
  k.pure (fun hL hs => vOk_c (hL _ _ hi).1 hs) (fun p l e R s m args below meth c H locs cells slots Z ls ρ hx hb ho ht hl hs kk => lv_aload hx hb hd (vl_at hl hi) kk)
theorem vV.istore_n {i : Fin 4} {x : Int} {L' : List (Option vA)} (hd : decode mt.2.1 pc = .ok (.istore_n i, 1)) (hlt : (i : Nat) < mt.2.2.1) (hL' : L.set (i : Nat) (some (vI x)) = L') (k : vV mt d0 dF Q (pc + 1) L' S d T M) : vV mt d0 dF Q pc L (vI x :: S) d T M := by
  intro l p e s m args below meth c D q A ρ0 ρ H locs ls hX hS hl hL hs hn
  subst hL'
  exact lv_istore_n hX.1 hX.2.1 hd rfl hl hlt rfl fun ls' hl' => k l p e s m args below meth c D q A ρ0 ρ H locs ls' hX hS (vl_set (v := vI x) hL hl') (vLok_set hL (vOk_h hs) rfl) (vOk_t hs) hn
theorem vV.istore {i : Nat} {x : Int} {L' : List (Option vA)} (hd : decode mt.2.1 pc = .ok (.istore i, 2)) (hlt : i < mt.2.2.1) (hL' : L.set i (some (vI x)) = L') (k : vV mt d0 dF Q (pc + 2) L' S d T M) : vV mt d0 dF Q pc L (vI x :: S) d T M := by
  intro l p e s m args below meth c D q A ρ0 ρ H locs ls hX hS hl hL hs hn
  subst hL'
  exact lv_istore hX.1 hX.2.1 hd hl hlt rfl fun ls' hl' => k l p e s m args below meth c D q A ρ0 ρ H locs ls' hX hS (vl_set (v := vI x) hL hl') (vLok_set hL (vOk_h hs) rfl) (vOk_t hs) hn
theorem vV.astore_n {i : Fin 4} {a : Nat} {L' : List (Option vA)} (hd : decode mt.2.1 pc = .ok (.astore_n i, 1)) (hlt : (i : Nat) < mt.2.2.1) (hL' : L.set (i : Nat) (some (vR a)) = L') (k : vV mt d0 dF Q (pc + 1) L' S d T M) : vV mt d0 dF Q pc L (vR a :: S) d T M := by
  intro l p e s m args below meth c D q A ρ0 ρ H locs ls hX hS hl hL hs hn
  subst hL'
  exact lv_astore_n hX.1 hX.2.1 hd rfl hl hlt rfl fun ls' hl' => k l p e s m args below meth c D q A ρ0 ρ H locs ls' hX hS (vl_set (v := vR a) hL hl') (vLok_set hL (vOk_h hs) rfl) (vOk_t hs) hn
theorem vV.astore {i : Nat} {a : Nat} {L' : List (Option vA)} (hd : decode mt.2.1 pc = .ok (.astore i, 2)) (hlt : i < mt.2.2.1) (hL' : L.set i (some (vR a)) = L') (k : vV mt d0 dF Q (pc + 2) L' S d T M) : vV mt d0 dF Q pc L (vR a :: S) d T M := by
  intro l p e s m args below meth c D q A ρ0 ρ H locs ls hX hS hl hL hs hn
  subst hL'
  exact lv_astore hX.1 hX.2.1 hd hl hlt rfl fun ls' hl' => k l p e s m args below meth c D q A ρ0 ρ H locs ls' hX hS (vl_set (v := vR a) hL hl') (vLok_set hL (vOk_h hs) rfl) (vOk_t hs) hn
theorem vV.iinc {i : Nat} {n x : Int} {L' : List (Option vA)} (hd : decode mt.2.1 pc = .ok (.iinc i n, 3)) (hlt : i < mt.2.2.1) (hi : L[i]? = some (some (vI x))) (h : vIn (x + n)) (hL' : L.set i (some (vI (x + n))) = L') (k : vV mt d0 dF Q (pc + 3) L' S d T M) : vV mt d0 dF Q pc L S d T M := by
  intro l p e s m args below meth c D q A ρ0 ρ H locs ls hX hS hl hL hs hn
  subst hL'
  obtain ⟨j, hj⟩ := List.getElem?_of_mem (vl_mem (ρ := ρ) (q := (i, vc ρ (vI x))).mpr ⟨vI x, hi, rfl⟩)
  exact lv_iinc (v := Int32.ofInt (x + n)) hX.1 hX.2.1 hd hl hj (by rw [Int32.ofInt_add]) hlt rfl fun ls' hl' => k l p e s m args below meth c D q A ρ0 ρ H locs ls' hX hS (vl_set (v := vI (x + n)) hL hl') (vLok_set hL (v := vI (x + n)) h rfl) hs hn
-- stack
theorem vV.dup {v : vA} (hd : decode mt.2.1 pc = .ok (.dup, 1)) (hv : vLg v = false) (k : vV mt d0 dF Q (pc + 1) L (v :: v :: S) d T M) : vV mt d0 dF Q pc L (v :: S) d T M :=
  k.pure (fun _ hs => vOk_c (vOk_h hs) hs) (fun p l e R s m args below meth c H locs cells slots Z ls ρ hx hb ho ht hl hs kk => lv_dup hx hb hd (by rw [vc_cat]; simp [vCat, hv]) kk)
theorem vV.dup2 {v w : vA} (hd : decode mt.2.1 pc = .ok (.dup2, 1)) (hv : vLg v = false) (hw : vLg w = false) (k : vV mt d0 dF Q (pc + 1) L (v :: w :: v :: w :: S) d T M) : vV mt d0 dF Q pc L (v :: w :: S) d T M :=
  k.pure (fun _ hs => vOk_c (vOk_h hs) (vOk_c (vOk_h (vOk_t hs)) hs)) (fun p l e R s m args below meth c H locs cells slots Z ls ρ hx hb ho ht hl hs kk => lv_dup2_11 hx hb hd (by rw [vc_cat]; simp [vCat, hv]) (by rw [vc_cat]; simp [vCat, hw]) kk)
theorem vV.pop {v : vA} (hd : decode mt.2.1 pc = .ok (.pop, 1)) (hv : vLg v = false) (k : vV mt d0 dF Q (pc + 1) L S d T M) : vV mt d0 dF Q pc L (v :: S) d T M :=
  k.pure (fun _ hs => vOk_t hs) (fun p l e R s m args below meth c H locs cells slots Z ls ρ hx hb ho ht hl hs kk => lv_pop hx hb hd (by rw [vc_cat]; simp [vCat, hv]) kk)
-- arithmetic
theorem vV.iadd {x y : Int} (hd : decode mt.2.1 pc = .ok (.iadd, 1)) (h : vIn (x + y)) (k : vV mt d0 dF Q (pc + 1) L (vI (x + y) :: S) d T M) : vV mt d0 dF Q pc L (vI y :: vI x :: S) d T M :=
  k.pure (fun _ hs => vOk_c (v := vI (x + y)) h (vOk_t (vOk_t hs))) (fun p l e R s m args below meth c H locs cells slots Z ls ρ hx hb ho ht hl hs kk => lv_iadd hx hb hd (by rw [← Int32.ofInt_add]; exact kk))
theorem vV.isub {x y : Int} (hd : decode mt.2.1 pc = .ok (.isub, 1)) (h : vIn (x - y)) (k : vV mt d0 dF Q (pc + 1) L (vI (x - y) :: S) d T M) : vV mt d0 dF Q pc L (vI y :: vI x :: S) d T M :=
  k.pure (fun _ hs => vOk_c (v := vI (x - y)) h (vOk_t (vOk_t hs))) (fun p l e R s m args below meth c H locs cells slots Z ls ρ hx hb ho ht hl hs kk => lv_isub hx hb hd (by rw [← Int32.ofInt_sub]; exact kk))
theorem vV.imul {x y : Int} (hd : decode mt.2.1 pc = .ok (.imul, 1)) (h : vIn (x * y)) (k : vV mt d0 dF Q (pc + 1) L (vI (x * y) :: S) d T M) : vV mt d0 dF Q pc L (vI y :: vI x :: S) d T M :=
  k.pure (fun _ hs => vOk_c (v := vI (x * y)) h (vOk_t (vOk_t hs))) (fun p l e R s m args below meth c H locs cells slots Z ls ρ hx hb ho ht hl hs kk => lv_imul hx hb hd (by rw [← Int32.ofInt_mul]; exact kk))
theorem vV.ineg {x : Int} (hd : decode mt.2.1 pc = .ok (.ineg, 1)) (h : vIn (-x)) (k : vV mt d0 dF Q (pc + 1) L (vI (-x) :: S) d T M) : vV mt d0 dF Q pc L (vI x :: S) d T M :=
  k.pure (fun _ hs => vOk_c (v := vI (-x)) h (vOk_t hs)) (fun p l e R s m args below meth c H locs cells slots Z ls ρ hx hb ho ht hl hs kk => lv_ineg hx hb hd (by rw [← Int32.ofInt_neg]; exact kk))
theorem i32_div {x y : Int} (hx : vIn x) (hy : vIn y) (h : vIn (x.tdiv y)) : Int32.ofInt x / Int32.ofInt y = Int32.ofInt (x.tdiv y) := by
  apply Int32.toInt_inj.mp
  rw [Int32.toInt_div, i32_in hx, i32_in hy, i32_in h]
  exact Int.bmod_eq_of_le (by have := h.1; omega) (by have := h.2; omega)
theorem vV.idiv {x y : Int} (hd : decode mt.2.1 pc = .ok (.idiv, 1)) (hy : y ≠ 0) (h : vIn (x.tdiv y)) (k : vV mt d0 dF Q (pc + 1) L (vI (x.tdiv y) :: S) d T M) : vV mt d0 dF Q pc L (vI y :: vI x :: S) d T M :=
  k.pure (fun _ hs => vOk_c (v := vI (x.tdiv y)) h (vOk_t (vOk_t hs))) (fun p l e R s m args below meth c H locs cells slots Z ls ρ hx hb ho ht hl hs kk => lv_idiv hx hb hd (fun z => hy ((i32_eq (x := y) (y := 0) (vOk_h hs) (by decide)).mp z)) (by rw [i32_div (vOk_h (vOk_t hs)) (vOk_h hs) h]; exact kk))
theorem vV.irem {x y : Int} (hd : decode mt.2.1 pc = .ok (.irem, 1)) (hy : y ≠ 0) (h : vIn (x.tdiv y)) (k : vV mt d0 dF Q (pc + 1) L (vI (x.tmod y) :: S) d T M) : vV mt d0 dF Q pc L (vI y :: vI x :: S) d T M := by
  refine k.pure (fun _ hs => vOk_c (v := vI (x.tmod y)) ?_ (vOk_t (vOk_t hs))) (fun p l e R s m args below meth c H locs cells slots Z ls ρ hx hb ho ht hl hs kk => lv_irem hx hb hd (fun z => hy ((i32_eq (x := y) (y := 0) (vOk_h hs) (by decide)).mp z)) ?_)
  · have hx : vIn x := vOk_h (vOk_t hs)
    have hy' : vIn y := vOk_h hs
    have a1 : (x.tmod y).natAbs ≤ x.natAbs := by rw [Int.natAbs_tmod]; exact Nat.mod_le _ _
    have a2 : (x.tmod y).natAbs < y.natAbs := by rw [Int.natAbs_tmod]; exact Nat.mod_lt _ (by omega)
    show vIn _
    have := hx.1; have := hx.2; have := hy'.1; have := hy'.2
    constructor <;> omega
  · rw [i32_div (vOk_h (vOk_t hs)) (vOk_h hs) h, ← Int32.ofInt_mul, ← Int32.ofInt_sub]
    have e : x - x.tdiv y * y = x.tmod y := by rw [Int.tmod_def, Int.mul_comm]
    rw [e]; exact kk
def vAnd (x y : Int) : Int := (Int32.ofInt x &&& Int32.ofInt y).toInt
def vOr (x y : Int) : Int := (Int32.ofInt x ||| Int32.ofInt y).toInt
def vShl (x y : Int) : Int := (Int32.ofInt x <<< (Int32.ofInt y &&& 31)).toInt
def vShr (x y : Int) : Int := (Int32.ofInt x >>> (Int32.ofInt y &&& 31)).toInt
def vUsh (x y : Int) : Int := ((Int32.ofInt x).toUInt32 >>> ((Int32.ofInt y).toUInt32 &&& Int32.toUInt32 31)).toInt32.toInt
theorem vV.iand {x y : Int} (hd : decode mt.2.1 pc = .ok (.iand, 1)) (k : vV mt d0 dF Q (pc + 1) L (vI (vAnd x y) :: S) d T M) : vV mt d0 dF Q pc L (vI y :: vI x :: S) d T M :=
  k.pure (fun _ hs => vOk_c (v := vI (vAnd x y)) (i32_rg _) (vOk_t (vOk_t hs))) (fun p l e R s m args below meth c H locs cells slots Z ls ρ hx hb ho ht hl hs kk => lv_iand hx hb hd (by rw [show Int32.ofInt x &&& Int32.ofInt y = Int32.ofInt (vAnd x y) from (i32_of _).symm]; exact kk))
theorem vV.ior {x y : Int} (hd : decode mt.2.1 pc = .ok (.ior, 1)) (k : vV mt d0 dF Q (pc + 1) L (vI (vOr x y) :: S) d T M) : vV mt d0 dF Q pc L (vI y :: vI x :: S) d T M :=
  k.pure (fun _ hs => vOk_c (v := vI (vOr x y)) (i32_rg _) (vOk_t (vOk_t hs))) (fun p l e R s m args below meth c H locs cells slots Z ls ρ hx hb ho ht hl hs kk => lv_ior hx hb hd (by rw [show Int32.ofInt x ||| Int32.ofInt y = Int32.ofInt (vOr x y) from (i32_of _).symm]; exact kk))
theorem vV.ishl {x y : Int} (hd : decode mt.2.1 pc = .ok (.ishl, 1)) (k : vV mt d0 dF Q (pc + 1) L (vI (vShl x y) :: S) d T M) : vV mt d0 dF Q pc L (vI y :: vI x :: S) d T M :=
  k.pure (fun _ hs => vOk_c (v := vI (vShl x y)) (i32_rg _) (vOk_t (vOk_t hs))) (fun p l e R s m args below meth c H locs cells slots Z ls ρ hx hb ho ht hl hs kk => lv_ishl hx hb hd (by rw [show Int32.ofInt x <<< (Int32.ofInt y &&& 31) = Int32.ofInt (vShl x y) from (i32_of _).symm]; exact kk))
theorem vV.ishr {x y : Int} (hd : decode mt.2.1 pc = .ok (.ishr, 1)) (k : vV mt d0 dF Q (pc + 1) L (vI (vShr x y) :: S) d T M) : vV mt d0 dF Q pc L (vI y :: vI x :: S) d T M :=
  k.pure (fun _ hs => vOk_c (v := vI (vShr x y)) (i32_rg _) (vOk_t (vOk_t hs))) (fun p l e R s m args below meth c H locs cells slots Z ls ρ hx hb ho ht hl hs kk => lv_ishr hx hb hd (by rw [show Int32.ofInt x >>> (Int32.ofInt y &&& 31) = Int32.ofInt (vShr x y) from (i32_of _).symm]; exact kk))
theorem vV.iushr {x y : Int} (hd : decode mt.2.1 pc = .ok (.iushr, 1)) (k : vV mt d0 dF Q (pc + 1) L (vI (vUsh x y) :: S) d T M) : vV mt d0 dF Q pc L (vI y :: vI x :: S) d T M :=
  k.pure (fun _ hs => vOk_c (v := vI (vUsh x y)) (i32_rg _) (vOk_t (vOk_t hs))) (fun p l e R s m args below meth c H locs cells slots Z ls ρ hx hb ho ht hl hs kk => lv_iushr hx hb hd (i32_of _).symm kk)
-- jumps
theorem vV.goto {off : Int} {tgt : Nat} (hd : decode mt.2.1 pc = .ok (.goto off, 3)) (ht : (pc : Int) + off = (tgt : Int)) (k : vV mt d0 dF Q tgt L S d T M) : vV mt d0 dF Q pc L S d T M :=
  k.pure (fun _ hs => hs) (fun p l e R s m args below meth c H locs cells slots Z ls ρ hx hb ho htb hl hs kk => lv_goto hx hb hd ht kk)
theorem vV.cmp {c1 c2 : Prop} {op : Instr} {x y : Int} {tgt : Nat} (kt : c1 → vV mt d0 dF Q tgt L S d T M) (kf : c2 → vV mt d0 dF Q (pc + 3) L S d T M) (hd : decode mt.2.1 pc = .ok (op, 3))
    (hW : ∀ (p : Program) (l : Launch) (e : Env) (R : Room) (s : State) (m : MethodId) (args : Array Value) (below : List Frame) (meth : Method) (c : Code) (H : Heap) (locs : List Loc) (cells slots : Nat) (Z : State → Prop) (ls : Array Slot) (st : List Value), p.tables.exec = Jvm.exec → c.code = mt.2.1 → vIn x → vIn y →
      (c1 → W p l e R s m args below meth c H locs cells slots Z (F0 m tgt ls st)) → (c2 → W p l e R s m args below meth c H locs cells slots Z (F0 m (pc + 3) ls st)) → W p l e R s m args below meth c H locs cells slots Z (F0 m pc ls (.int (Int32.ofInt y) :: .int (Int32.ofInt x) :: st))) : vV mt d0 dF Q pc L (vI y :: vI x :: S) d T M := by
  intro l p e s m args below meth c D q A ρ0 ρ H locs ls hX hS hl hL hs hn
  exact hW p l e _ s m args below meth c H locs _ _ _ ls _ hX.1 hX.2.1 (vOk_h (vOk_t hs)) (vOk_h hs) (fun h => kt h l p e s m args below meth c D q A ρ0 ρ H locs ls hX hS hl hL (vOk_t (vOk_t hs)) hn) (fun h => kf h l p e s m args below meth c D q A ρ0 ρ H locs ls hX hS hl hL (vOk_t (vOk_t hs)) hn)
theorem vV.icmp_eq {off x y : Int} {tgt : Nat} (hd : decode mt.2.1 pc = .ok (.if_icmp .eq off, 3)) (ht : (pc : Int) + off = (tgt : Int)) (kt : x = y → vV mt d0 dF Q tgt L S d T M) (kf : x ≠ y → vV mt d0 dF Q (pc + 3) L S d T M) : vV mt d0 dF Q pc L (vI y :: vI x :: S) d T M :=
  vV.cmp kt kf hd (fun p l e R s m args below meth c H locs cells slots Z ls st hx hb h1 h2 a b => lv_icmp_eq hx hb hd ht (fun z => a ((i32_eq h1 h2).mp z)) (fun z => b (fun q => z ((i32_eq h1 h2).mpr q))))
theorem vV.icmp_ne {off x y : Int} {tgt : Nat} (hd : decode mt.2.1 pc = .ok (.if_icmp .ne off, 3)) (ht : (pc : Int) + off = (tgt : Int)) (kt : x ≠ y → vV mt d0 dF Q tgt L S d T M) (kf : x = y → vV mt d0 dF Q (pc + 3) L S d T M) : vV mt d0 dF Q pc L (vI y :: vI x :: S) d T M :=
  vV.cmp kt kf hd (fun p l e R s m args below meth c H locs cells slots Z ls st hx hb h1 h2 a b => lv_icmp_ne hx hb hd ht (fun z => a (fun q => z ((i32_eq h1 h2).mpr q))) (fun z => b ((i32_eq h1 h2).mp z)))
theorem vV.icmp_ge {off x y : Int} {tgt : Nat} (hd : decode mt.2.1 pc = .ok (.if_icmp .ge off, 3)) (ht : (pc : Int) + off = (tgt : Int)) (kt : y ≤ x → vV mt d0 dF Q tgt L S d T M) (kf : x < y → vV mt d0 dF Q (pc + 3) L S d T M) : vV mt d0 dF Q pc L (vI y :: vI x :: S) d T M :=
  vV.cmp kt kf hd (fun p l e R s m args below meth c H locs cells slots Z ls st hx hb h1 h2 a b => lv_icmp_ge hx hb hd ht (fun z => a ((i32_le h2 h1).mp z)) (fun z => b (Int.not_le.mp (fun q => z ((i32_le h2 h1).mpr q)))))
theorem vV.icmp_gt {off x y : Int} {tgt : Nat} (hd : decode mt.2.1 pc = .ok (.if_icmp .gt off, 3)) (ht : (pc : Int) + off = (tgt : Int)) (kt : y < x → vV mt d0 dF Q tgt L S d T M) (kf : x ≤ y → vV mt d0 dF Q (pc + 3) L S d T M) : vV mt d0 dF Q pc L (vI y :: vI x :: S) d T M :=
  vV.cmp kt kf hd (fun p l e R s m args below meth c H locs cells slots Z ls st hx hb h1 h2 a b => lv_icmp_gt hx hb hd ht (fun z => a ((i32_lt h2 h1).mp z)) (fun z => b (Int.not_lt.mp (fun q => z ((i32_lt h2 h1).mpr q)))))
theorem vV.icmp_le {off x y : Int} {tgt : Nat} (hd : decode mt.2.1 pc = .ok (.if_icmp .le off, 3)) (ht : (pc : Int) + off = (tgt : Int)) (kt : x ≤ y → vV mt d0 dF Q tgt L S d T M) (kf : y < x → vV mt d0 dF Q (pc + 3) L S d T M) : vV mt d0 dF Q pc L (vI y :: vI x :: S) d T M :=
  vV.cmp kt kf hd (fun p l e R s m args below meth c H locs cells slots Z ls st hx hb h1 h2 a b => lv_icmp_le hx hb hd ht (fun z => a ((i32_le h1 h2).mp z)) (fun z => b (Int.not_le.mp (fun q => z ((i32_le h1 h2).mpr q)))))
theorem vV.icmp_lt {off x y : Int} {tgt : Nat} (hd : decode mt.2.1 pc = .ok (.if_icmp .lt off, 3)) (ht : (pc : Int) + off = (tgt : Int)) (kt : x < y → vV mt d0 dF Q tgt L S d T M) (kf : y ≤ x → vV mt d0 dF Q (pc + 3) L S d T M) : vV mt d0 dF Q pc L (vI y :: vI x :: S) d T M :=
  vV.cmp kt kf hd (fun p l e R s m args below meth c H locs cells slots Z ls st hx hb h1 h2 a b => lv_icmp_lt hx hb hd ht (fun z => a ((i32_lt h1 h2).mp z)) (fun z => b (Int.not_lt.mp (fun q => z ((i32_lt h1 h2).mpr q)))))
theorem vV.cmpz {c1 c2 : Prop} {op : Instr} {x : Int} {tgt : Nat} (kt : c1 → vV mt d0 dF Q tgt L S d T M) (kf : c2 → vV mt d0 dF Q (pc + 3) L S d T M) (hd : decode mt.2.1 pc = .ok (op, 3))
    (hW : ∀ (p : Program) (l : Launch) (e : Env) (R : Room) (s : State) (m : MethodId) (args : Array Value) (below : List Frame) (meth : Method) (c : Code) (H : Heap) (locs : List Loc) (cells slots : Nat) (Z : State → Prop) (ls : Array Slot) (st : List Value), p.tables.exec = Jvm.exec → c.code = mt.2.1 → vIn x →
      (c1 → W p l e R s m args below meth c H locs cells slots Z (F0 m tgt ls st)) → (c2 → W p l e R s m args below meth c H locs cells slots Z (F0 m (pc + 3) ls st)) → W p l e R s m args below meth c H locs cells slots Z (F0 m pc ls (.int (Int32.ofInt x) :: st))) : vV mt d0 dF Q pc L (vI x :: S) d T M := by
  intro l p e s m args below meth c D q A ρ0 ρ H locs ls hX hS hl hL hs hn
  exact hW p l e _ s m args below meth c H locs _ _ _ ls _ hX.1 hX.2.1 (vOk_h hs) (fun h => kt h l p e s m args below meth c D q A ρ0 ρ H locs ls hX hS hl hL (vOk_t hs) hn) (fun h => kf h l p e s m args below meth c D q A ρ0 ρ H locs ls hX hS hl hL (vOk_t hs) hn)
theorem i32_0 : Int32.ofInt 0 = 0 := rfl
theorem i32_z : vIn 0 := by decide
theorem vV.if_eq {off x : Int} {tgt : Nat} (hd : decode mt.2.1 pc = .ok (.ifCond .eq off, 3)) (ht : (pc : Int) + off = (tgt : Int)) (kt : x = 0 → vV mt d0 dF Q tgt L S d T M) (kf : x ≠ 0 → vV mt d0 dF Q (pc + 3) L S d T M) : vV mt d0 dF Q pc L (vI x :: S) d T M :=
  vV.cmpz kt kf hd (fun p l e R s m args below meth c H locs cells slots Z ls st hx hb h1 a b => lv_if_eq hx hb hd ht (fun z => a ((i32_eq h1 i32_z).mp z)) (fun z => b (fun q => z ((i32_eq h1 i32_z).mpr q))))
theorem vV.if_ne {off x : Int} {tgt : Nat} (hd : decode mt.2.1 pc = .ok (.ifCond .ne off, 3)) (ht : (pc : Int) + off = (tgt : Int)) (kt : x ≠ 0 → vV mt d0 dF Q tgt L S d T M) (kf : x = 0 → vV mt d0 dF Q (pc + 3) L S d T M) : vV mt d0 dF Q pc L (vI x :: S) d T M :=
  vV.cmpz kt kf hd (fun p l e R s m args below meth c H locs cells slots Z ls st hx hb h1 a b => lv_if_ne hx hb hd ht (fun z => a (fun q => z ((i32_eq h1 i32_z).mpr q))) (fun z => b ((i32_eq h1 i32_z).mp z)))
theorem vV.if_ge {off x : Int} {tgt : Nat} (hd : decode mt.2.1 pc = .ok (.ifCond .ge off, 3)) (ht : (pc : Int) + off = (tgt : Int)) (kt : 0 ≤ x → vV mt d0 dF Q tgt L S d T M) (kf : x < 0 → vV mt d0 dF Q (pc + 3) L S d T M) : vV mt d0 dF Q pc L (vI x :: S) d T M :=
  vV.cmpz kt kf hd (fun p l e R s m args below meth c H locs cells slots Z ls st hx hb h1 a b => lv_if_ge hx hb hd ht (fun z => a ((i32_le i32_z h1).mp z)) (fun z => b (Int.not_le.mp (fun q => z ((i32_le i32_z h1).mpr q)))))
theorem vV.if_gt {off x : Int} {tgt : Nat} (hd : decode mt.2.1 pc = .ok (.ifCond .gt off, 3)) (ht : (pc : Int) + off = (tgt : Int)) (kt : 0 < x → vV mt d0 dF Q tgt L S d T M) (kf : x ≤ 0 → vV mt d0 dF Q (pc + 3) L S d T M) : vV mt d0 dF Q pc L (vI x :: S) d T M :=
  vV.cmpz kt kf hd (fun p l e R s m args below meth c H locs cells slots Z ls st hx hb h1 a b => lv_if_gt hx hb hd ht (fun z => a ((i32_lt i32_z h1).mp z)) (fun z => b (Int.not_lt.mp (fun q => z ((i32_lt i32_z h1).mpr q)))))
theorem vV.if_le {off x : Int} {tgt : Nat} (hd : decode mt.2.1 pc = .ok (.ifCond .le off, 3)) (ht : (pc : Int) + off = (tgt : Int)) (kt : x ≤ 0 → vV mt d0 dF Q tgt L S d T M) (kf : 0 < x → vV mt d0 dF Q (pc + 3) L S d T M) : vV mt d0 dF Q pc L (vI x :: S) d T M :=
  vV.cmpz kt kf hd (fun p l e R s m args below meth c H locs cells slots Z ls st hx hb h1 a b => lv_if_le hx hb hd ht (fun z => a ((i32_le h1 i32_z).mp z)) (fun z => b (Int.not_le.mp (fun q => z ((i32_le h1 i32_z).mpr q)))))
theorem vV.if_lt {off x : Int} {tgt : Nat} (hd : decode mt.2.1 pc = .ok (.ifCond .lt off, 3)) (ht : (pc : Int) + off = (tgt : Int)) (kt : x < 0 → vV mt d0 dF Q tgt L S d T M) (kf : 0 ≤ x → vV mt d0 dF Q (pc + 3) L S d T M) : vV mt d0 dF Q pc L (vI x :: S) d T M :=
  vV.cmpz kt kf hd (fun p l e R s m args below meth c H locs cells slots Z ls st hx hb h1 a b => lv_if_lt hx hb hd ht (fun z => a ((i32_lt h1 i32_z).mp z)) (fun z => b (Int.not_lt.mp (fun q => z ((i32_lt h1 i32_z).mpr q)))))
theorem vV.nn1 {off : Int} {tgt k : Nat} (hd : decode mt.2.1 pc = .ok (.ifnonnull off, 3)) (ht : (pc : Int) + off = (tgt : Int)) (kt : vV mt d0 dF Q tgt L S d T M) : vV mt d0 dF Q pc L (vR k :: S) d T M :=
  kt.pure (fun _ hs => vOk_t hs) (fun p l e R s m args below meth c H locs cells slots Z ls ρ hx hb ho htb hl hs kk => lv_ifnonnull hx hb hd ht kk)
theorem vV.tsw {dflt lo hi : Int} {offs : Array Int} {len : Nat} {x off : Int} {tgt : Nat} (hd : decode mt.2.1 pc = .ok (.tableswitch dflt lo hi offs, len)) (v : Int) (hx : x = v) (h1 : lo ≤ v) (h2 : v ≤ hi) (ho : offs[(v - lo).toNat]? = some off) (ht : (pc : Int) + off = (tgt : Int)) (k : vV mt d0 dF Q tgt L S d T M) : vV mt d0 dF Q pc L (vI x :: S) d T M := by
  subst hx
  exact k.pure (fun _ hs => vOk_t hs) (fun p l e R s m args below meth c H locs cells slots Z ls ρ hx hb hown htb hl hs kk => by
    have hr := i32_in (x := x) (vOk_h hs)
    exact lv_tableIn hx hb hd (by rw [hr]; omega) (by rw [hr]; omega) (by rw [hr]; exact ho) ht kk)
theorem vV.tswD {dflt lo hi : Int} {offs : Array Int} {len : Nat} {x : Int} {tgt : Nat} (hd : decode mt.2.1 pc = .ok (.tableswitch dflt lo hi offs, len)) (h : x < lo ∨ hi < x) (ht : (pc : Int) + dflt = (tgt : Int)) (k : vV mt d0 dF Q tgt L S d T M) : vV mt d0 dF Q pc L (vI x :: S) d T M :=
  k.pure (fun _ hs => vOk_t hs) (fun p l e R s m args below meth c H locs cells slots Z ls ρ hx hb hown htb hl hs kk => by
    have hr := i32_in (x := x) (vOk_h hs)
    exact lv_tableOut hx hb hd (by rw [hr]; exact h) ht kk)
theorem vV.lsw {dflt : Int} {ps : Array (Int × Int)} {len : Nat} {x off : Int} {tgt : Nat} (hd : decode mt.2.1 pc = .ok (.lookupswitch dflt ps, len)) (hp : (ps.toList.zip (ps.toList.drop 1)).all (fun (a, next) => a.1 < next.1) = true) (ho : Op.lookupswitch.offset ps.toList dflt x = off) (ht : (pc : Int) + off = (tgt : Int)) (k : vV mt d0 dF Q tgt L S d T M) : vV mt d0 dF Q pc L (vI x :: S) d T M :=
  k.pure (fun _ hs => vOk_t hs) (fun p l e R s m args below meth c H locs cells slots Z ls ρ hx hb hown htb hl hs kk => by
    have hr := i32_in (x := x) (vOk_h hs)
    exact lv_lookup hx hb hd hp (by rw [hr]; exact ho) ht kk)
/-- what is known of every number of the state -/
theorem vV.rng (k : (∀ a j, vIn (M a j)) → vV mt d0 dF Q pc L S d T M) : vV mt d0 dF Q pc L S d T M := by
  intro l p e s m args below meth c D q A ρ0 ρ H locs ls hX hS hl hL hs hn
  exact k hS.2.2.2.1.1 l p e s m args below meth c D q A ρ0 ρ H locs ls hX hS hl hL hs hn
/-- what is known of a number in a local -/
theorem vV.rngL (i : Nat) {x : Int} (hi : L[i]? = some (some (vI x))) (k : vIn x → vV mt d0 dF Q pc L S d T M) : vV mt d0 dF Q pc L S d T M := by
  intro l p e s m args below meth c D q A ρ0 ρ H locs ls hX hS hl hL hs hn
  exact k (hL i _ hi).1 l p e s m args below meth c D q A ρ0 ρ H locs ls hX hS hl hL hs hn
end VR
