/-! ===== own: static tables: reading, a clone; the class: set ===== -/
section VST2
variable {mt : vMt} {d0 dF : List Nat} {Q : Option vA → vT → vM → Prop} {pc : Nat} {L : List (Option vA)} {S : List vA} {d : List Nat} {T : vT} {M : vM}
/-- getstatic of a table, iload, iaload -/
theorem vV.sti {nm : String} {f : Nat → Int} {x : Int} {idx : Nat} {i : Fin 4} (sel : ∀ q A U H, vSt q A U H → vSt1 nm f q A U H) (hd1 : decode mt.2.1 pc = .ok (.getstatic idx, 3)) (hlk : Cond.fieldLink mt.1.cls idx "SpunPlates" nm "[I" ∈ vTb) (hd2 : decode mt.2.1 (pc + 3) = .ok (.iload_n i, 1)) (hi : L[(i : Nat)]? = some (some (vI x))) (h0 : 0 ≤ x) (h5 : x < 5) (hd3 : decode mt.2.1 (pc + 3 + 1) = .ok (.iaload, 1)) (hin : vIn (f x.toNat))
    (kk : vV mt d0 dF Q (pc + 3 + 1 + 1) L (vI (f x.toNat) :: S) d T M) : vV mt d0 dF Q pc L S d T M := by
  intro l p e s m args below meth c D q A ρ0 ρ H locs ls hX hS hl hL hs hn
  obtain ⟨hx, hb, hml, ho, htb, hrt, hlkk, hnm, hK, hA, hst, hnw⟩ := id hX
  obtain ⟨t, hZ, hT, -⟩ := sel q A s s.heap hst
  have hxr : vIn x := (hL _ _ hi).1
  obtain ⟨g1, g2, g3⟩ := i32_ix h0 (n := 5) h5 hxr
  refine va_gets hx hb hZ hS.2.2.1 ho (htb _ hlk) (fun _ h => h) hd1 ?_
  refine lv_iload_n hx hb hd2 rfl (vl_at hl hi) ?_
  refine va_ti hx hb hT hS.2.2.1 g1 (v := .int (Int32.ofInt (f x.toNat))) (by rw [g2]) hd3 ?_
  exact kk l p e s m args below meth c D q A ρ0 ρ H locs ls hX hS hl hL (vOk_c (v := vI (f x.toNat)) hin hs) hn
end VST2
theorem st_LE {q : vQc} {A : Nat → Prop} {U : State} {H : Heap} (h : vSt q A U H) : vSt1 "SETTING_LEAST" vLeI q A U H := h.1
theorem st_MO {q : vQc} {A : Nat → Prop} {U : State} {H : Heap} (h : vSt q A U H) : vSt1 "SETTING_MOST" vMoI q A U H := h.2.1
theorem fs_85 : Cond.fieldLink RX6 85 "SpunPlates" "SETTING_LEAST" "[I" ∈ vTb := vTb_t 257 (by decide +kernel) (by decide +kernel)
theorem fs_88 : Cond.fieldLink RX6 88 "SpunPlates" "SETTING_MOST" "[I" ∈ vTb := vTb_t 259 (by decide +kernel) (by decide +kernel)
theorem pSet_2 {se : Int → Int} {w v : Int} (h : ¬ ((0 ≤ w ∧ w ≤ 4) ∧ pLo w ≤ v ∧ v ≤ pHi w)) : pSetR se w v = -2 := if_pos h
theorem pSet_1 {se : Int → Int} {w v : Int} (h : 0 ≤ w ∧ w ≤ 4) (h2 : pLo w ≤ v ∧ v ≤ pHi w) : pSetR se w v = se w := if_neg (fun z => z ⟨h, h2⟩)
theorem dX6_set_0 : decode cX6_set 0 = .ok (.iload_n 1, 1) := by decide +kernel
theorem dX6_set_1 : decode cX6_set 1 = .ok (.iconst 0, 1) := by decide +kernel
theorem dX6_set_2 : decode cX6_set 2 = .ok (.iconst 4, 1) := by decide +kernel
theorem dX6_set_3 : decode cX6_set 3 = .ok (.invokestatic 58, 3) := by decide +kernel
theorem dX6_set_6 : decode cX6_set 6 = .ok (.ifCond .eq 20, 3) := by decide +kernel
theorem dX6_set_9 : decode cX6_set 9 = .ok (.iload_n 2, 1) := by decide +kernel
theorem dX6_set_10 : decode cX6_set 10 = .ok (.getstatic 85, 3) := by decide +kernel
theorem dX6_set_13 : decode cX6_set 13 = .ok (.iload_n 1, 1) := by decide +kernel
theorem dX6_set_14 : decode cX6_set 14 = .ok (.iaload, 1) := by decide +kernel
theorem dX6_set_15 : decode cX6_set 15 = .ok (.getstatic 88, 3) := by decide +kernel
theorem dX6_set_18 : decode cX6_set 18 = .ok (.iload_n 1, 1) := by decide +kernel
theorem dX6_set_19 : decode cX6_set 19 = .ok (.iaload, 1) := by decide +kernel
theorem dX6_set_20 : decode cX6_set 20 = .ok (.invokestatic 58, 3) := by decide +kernel
theorem dX6_set_23 : decode cX6_set 23 = .ok (.ifCond .ne 6, 3) := by decide +kernel
theorem dX6_set_26 : decode cX6_set 26 = .ok (.bipush (-2), 2) := by decide +kernel
theorem dX6_set_28 : decode cX6_set 28 = .ok (.ireturn, 1) := by decide +kernel
theorem dX6_set_29 : decode cX6_set 29 = .ok (.aload_n 0, 1) := by decide +kernel
theorem dX6_set_30 : decode cX6_set 30 = .ok (.getfield 10, 3) := by decide +kernel
theorem dX6_set_33 : decode cX6_set 33 = .ok (.getfield 91, 3) := by decide +kernel
theorem dX6_set_36 : decode cX6_set 36 = .ok (.iload_n 1, 1) := by decide +kernel
theorem dX6_set_37 : decode cX6_set 37 = .ok (.iaload, 1) := by decide +kernel
theorem dX6_set_38 : decode cX6_set 38 = .ok (.istore_n 3, 1) := by decide +kernel
theorem dX6_set_39 : decode cX6_set 39 = .ok (.aload_n 0, 1) := by decide +kernel
theorem dX6_set_40 : decode cX6_set 40 = .ok (.getfield 10, 3) := by decide +kernel
theorem dX6_set_43 : decode cX6_set 43 = .ok (.getfield 91, 3) := by decide +kernel
theorem dX6_set_46 : decode cX6_set 46 = .ok (.iload_n 1, 1) := by decide +kernel
theorem dX6_set_47 : decode cX6_set 47 = .ok (.iload_n 2, 1) := by decide +kernel
theorem dX6_set_48 : decode cX6_set 48 = .ok (.iastore, 1) := by decide +kernel
theorem dX6_set_49 : decode cX6_set 49 = .ok (.iload_n 3, 1) := by decide +kernel
theorem dX6_set_50 : decode cX6_set 50 = .ok (.ireturn, 1) := by decide +kernel
theorem vLe_lo {w : Int} (h : 0 ≤ w ∧ w ≤ 4) : vLeI w.toNat = pLo w ∧ vMoI w.toNat = pHi w := by
  rcases (show w = 0 ∨ w = 1 ∨ w = 2 ∨ w = 3 ∨ w = 4 by omega) with z | z | z | z | z <;> subst z <;> decide
theorem c_X6_set {d : List Nat} {T : vT} {M : vM} {w v : Int} (hB : vB T) (hse : ∀ j, 0 ≤ M 15 j) : vCon m_X6_set d d [vR 0, vI w, vI v] T M (vPi fun r T1 M1 => T = T1 ∧ r = pSetR (M 15) w v ∧ M1 = (if 0 ≤ pSetR (M 15) w v then vUpd M 15 w v else M)) := by
  refine vCon.of (by decide) rfl rfl (Nat.le_of_ble_eq_true rfl) ?_
  have hsw := hse w
  refine vV.iload_n dX6_set_0 rfl ?_
  refine vV.iconst dX6_set_1 (by decide) ?_
  refine vV.iconst dX6_set_2 (by decide) ?_
  refine vV.cSi dX6_set_3 ml_X6_58 cw_X6_within sw_X6_within (by unfold vRoom; decide) c_X6_within rfl rfl (Nat.le_of_ble_eq_true rfl) ?_
  rintro x3 _ _ hx3 ⟨hy3, rfl, rfl⟩
  refine vV.if_eq (tgt := 26) dX6_set_6 (by decide) (fun h6 => ?_) (fun h6 => ?_)
  · skip
    have g1 := no01 hy3 h6
    have e2 : pSetR (M 15) w v = -2 := pSet_2 (fun z => g1 z.1)
    refine vV.bipush (v := (-2)) dX6_set_26 (by decide) (by decide) ?_
    refine vV.ri dX6_set_28 rfl ?_
    rw [e2, if_neg (by decide)]; exact ⟨rfl, rfl, rfl⟩
  · skip
    have g1 := yes01 hy3 h6
    obtain ⟨gl, gh⟩ := vLe_lo g1
    refine vV.iload_n dX6_set_9 rfl ?_
    refine vV.sti (fun q A U H => st_LE) dX6_set_10 fs_85 dX6_set_13 rfl g1.1 (by omega) dX6_set_14 (by rw [gl]; unfold pLo; split <;> exact ⟨by omega, by omega⟩) ?_
    refine vV.sti (fun q A U H => st_MO) dX6_set_15 fs_88 dX6_set_18 rfl g1.1 (by omega) dX6_set_19 (by rw [gh]; unfold pHi; split <;> (try split) <;> (try split) <;> exact ⟨by omega, by omega⟩) ?_
    rw [gl, gh]
    refine vV.cSi dX6_set_20 ml_X6_58 cw_X6_within sw_X6_within (by unfold vRoom; decide) c_X6_within rfl rfl (Nat.le_of_ble_eq_true rfl) ?_
    rintro x20 _ _ hx20 ⟨hy20, rfl, rfl⟩
    refine vV.if_ne (tgt := 29) dX6_set_23 (by decide) (fun h23 => ?_) (fun h23 => ?_)
    · skip
      have g2 := yes01 hy20 h23
      have e2 : pSetR (M 15) w v = M 15 w := pSet_1 g1 g2
      refine vV.aload_n dX6_set_29 rfl ?_
      refine vV.getr dX6_set_30 fl_X6_10 (by first | rfl | assumption) rfl (by first | assumption | exact hB _ _ _ rfl) ?_
      refine vV.getr dX6_set_33 fl_X6_91 (by first | rfl | assumption) rfl (by first | assumption | exact hB _ _ _ rfl) ?_
      refine vV.iload_n dX6_set_36 rfl ?_
      refine vV.iald dX6_set_37 (by first | rfl | assumption) (by omega) (by omega) ?_
      refine vV.istore_n (L' := [_, _, _, _]) dX6_set_38 (by decide) rfl ?_
      refine vV.aload_n dX6_set_39 rfl ?_
      refine vV.getr dX6_set_40 fl_X6_10 (by first | rfl | assumption) rfl (by first | assumption | exact hB _ _ _ rfl) ?_
      refine vV.getr dX6_set_43 fl_X6_91 (by first | rfl | assumption) rfl (by first | assumption | exact hB _ _ _ rfl) ?_
      refine vV.iload_n dX6_set_46 rfl ?_
      refine vV.iload_n dX6_set_47 rfl ?_
      refine vV.iast dX6_set_48 (by first | rfl | assumption) (by omega) (by omega) ?_
      refine vV.iload_n dX6_set_49 rfl ?_
      refine vV.ri dX6_set_50 rfl ?_
      rw [e2, if_pos hsw]; exact ⟨rfl, rfl, rfl⟩
    · skip
      have g2 := no01 hy20 h23
      have e2 : pSetR (M 15) w v = -2 := pSet_2 (fun z => g2 z.2)
      refine vV.bipush (v := (-2)) dX6_set_26 (by decide) (by decide) ?_
      refine vV.ri dX6_set_28 rfl ?_
      rw [e2, if_neg (by decide)]; exact ⟨rfl, rfl, rfl⟩
section VCL2
variable {p : Program} {l : Launch} {e : Env} {R : Room} {s : State} {m : MethodId} {args : Array Value} {below : List Frame} {meth : Method} {c : Code} {H : Heap} {locs : List Loc} {cells slots : Nat} {Q : State → Prop}
variable {pc : Nat} {ls : Array Slot} {rest : List Value} {D : va_G} {cl : List vw_C} {A : Nat → Prop} {a : Nat} {tys : List (ClassId × FieldType)} {ws : va_W}
/-- a clone of an array that lies outside the world -/
theorem va_cloneS {cc : ByteArray} (hexec : p.tables.exec = Jvm.exec) (hb : c.code = cc) (hml : c.maxLocals = ls.size) {own ad : String} {index : Nat} (hown : s.vm.findClass own = some m.cls)
    (hlink : (Cond.methodLink own index ⟨ad, "clone", "()Ljava/lang/Object;"⟩).before args s = true) (hsame : (Cond.sameMethod ad "java/lang/Object" "clone" "()Ljava/lang/Object;").before args s = true)
    (hnat : (Cond.native ⟨"java/lang/Object", "clone", "()Ljava/lang/Object;"⟩).before args s = true) (hinst : (Cond.instanceMethod ⟨"java/lang/Object", "clone", "()Ljava/lang/Object;"⟩).before args s = true)
    (hsel : (Cond.selects ad ⟨ad, "clone", "()Ljava/lang/Object;"⟩ ⟨"java/lang/Object", "clone", "()Ljava/lang/Object;"⟩).before args s = true) (hcl : va_Nw (.castable ad "java/lang/Cloneable") s)
    (hK : va_K D cl tys s) (hP : va_P D cl ws H) (hD : va_D A ws) (hS : va_S A s.heap H locs) (hA : ∀ q, s.heap.size ≤ q → A q) (t0 : Nat) {cA : ClassId} {x : vp_A} {ty : FieldType} (ht : tys[t0]? = some (cA, ty))
    {cell : Cell} (hc0 : s.heap[a]? = some cell) (hna : ¬ A a) (hv1 : ∀ k, cell.vm ≠ .statics k) (hv2 : cell.vm ≠ .unknown) (hcE : ({ cls := cell.cls, slots := cell.slots } : Cell) = vp_cell cA x) (hsz : cell.slots.size = x.1)
    (hnm : s.vm.findClass ad = some cA) (hfit : ∀ (i : Nat) (v : Value), cell.slots[i]? = some v → fits ty v = true)
    (hframes : 1 ≤ R.frames) (hlocals : (rest.map fun v => v.category).sum + 14 ≤ R.locals) (hcells : cells + 1 ≤ R.cells) (hslots : slots + x.1 ≤ R.slots) (hdg : decode cc pc = .ok (.invokevirtual index, 3))
    (kk : ∀ (q : Nat) (H1 : Heap), va_P D cl (ws ++ [(q, .inl (cA, x))]) H1 → va_D A (ws ++ [(q, .inl (cA, x))]) → va_S A s.heap H1 locs →
      W p l e R s m args below meth c H1 locs (cells + 1) (slots + x.1) Q (F0 m (pc + 3) ls (.ref q :: rest))) : W p l e R s m args below meth c H locs cells slots Q (F0 m pc ls (.ref a :: rest)) := by
  have hvc : (vp_cell cA x).cls = cA := by
    obtain ⟨n, f | f | f | f | f⟩ := x <;> rfl
  have hcl0 : cell.cls = cA := by
    have h : ({ cls := cell.cls, slots := cell.slots } : Cell).cls = (vp_cell cA x).cls := by rw [hcE]
    rw [← hvc]; exact h
  obtain ⟨c0, t0', f1, f2, f3⟩ := Cond.castable_spec (va_Nw.use (A := args) rfl hcl)
  cases hnm.symm.trans f1
  intro T hT X
  have hcellT : T.heap[a]? = some cell := by rw [hT, hS.2.1 a (Array.getElem?_eq_some_iff.mp hc0).1 hna]; exact hc0
  obtain ⟨-, kA, hkA, comp, hkind⟩ := State.isArrayOf_alike X.warmed.alike ((hK.2 t0 _ ht).1 0 (fun _ => .null))
  obtain ⟨-, kS, hkS, compS, hkindS⟩ := (hK.2 t0 _ ht).1 0 (fun _ => .null)
  obtain ⟨vm', X', st⟩ := X.cloneArray hexec hown hlink hsame hnat hinst hsel (a := a) (cell := cell) hcellT (fun k h => hv1 k h) hv2 (by rw [hcl0]; exact hnm) f2 (by rw [hcl0]; exact f3)
    (fun i v hv => by
      rw [hcl0]
      have hk' : T.vm.classes[cA]? = some kA := hkA
      simpa [State.fitsSlot, State.slotType?, hk', hkind] using hfit i v hv)
    (g := F0 m pc ls (.ref a :: rest)) rfl (by rw [hml]) rfl (by rw [hb]; exact hdg) hframes (by show 2 * 0 + _ + 14 ≤ _; omega) hcells (by rw [hsz]; exact hslots) (hloader := by rw [hcl0]; exact Vm.clonesLoader_of_array hkS hkindS)
  rw [hcE, hsz] at X'
  generalize hH1 : H.push (vp_cell cA x) = H1
  have z1 : H1.size = H.size + 1 := by rw [← hH1, Array.size_push]
  have e1 : H1[H.size]? = some (vp_cell cA x) := by rw [← hH1, Array.getElem?_push_size]
  have o1 : ∀ q : Nat, q < H.size → H1[q]? = H[q]? := fun q hq => by rw [← hH1, Array.getElem?_push, if_neg (Nat.ne_of_lt hq)]
  have hk : ∀ (k : Nat) (y : Nat × va_E), ws[k]? = some y → H1[y.1]? = H[y.1]? := fun k y hy => o1 y.1 ((hP k y hy).lt)
  obtain ⟨t, b1, b2⟩ := kk H.size H1 ((hP.kept hk).app (fun k y hy => by
      have hz : k < 1 := (List.getElem?_eq_some_iff.mp hy).1
      rw [show k = 0 by omega] at hy
      cases hy
      exact e1)) (hD.push hP rfl (hA _ hS.1)) ⟨Nat.le_trans hS.1 (by omega), fun y h1 h2 => (o1 y (Nat.lt_of_lt_of_le h1 hS.1)).trans (hS.2.1 y h1 h2), hS.2.2⟩
    ((T.setVm vm').pushCell (vp_cell cA x)) (by rw [← hH1, ← hT]; rfl) X'
  refine ⟨t, st t ?_, b2⟩
  rw [hcE, hT]
  exact b1
end VCL2
