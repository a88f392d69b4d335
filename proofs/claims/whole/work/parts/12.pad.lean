/-! ===== own: the names that final fields hold; Pad ===== -/
def vBl : List (Nat × Nat) := [(0, 10), (1, 20), (2, 1), (3, 60), (4, 70), (5, 80), (6, 90), (7, 100), (641, 11), (642, 12), (643, 13), (644, 14), (645, 15), (1281, 21), (1282, 22), (1283, 23), (1284, 24), (1285, 25), (1921, 31), (1922, 32), (1923, 33), (1924, 34), (1925, 35), (3841, 61), (3842, 62), (4480, 30), (4486, 76), (4487, 77), (5121, 81), (5122, 82), (5123, 83), (5760, 91), (5761, 92), (6402, 102), (6403, 103), (6404, 104), (12800, 201), (12801, 202), (12802, 203), (12803, 204), (12810, 211), (12811, 212), (12817, 218), (12818, 219), (12819, 220), (12821, 222), (12825, 226), (12826, 227), (12827, 228), (12828, 229), (12830, 231), (12832, 233), (12833, 234), (12834, 235), (12835, 236), (12836, 237), (12837, 238)]
def vBt (k j : Nat) : Option Nat := if j < 64 then vBl.lookup (64 * k + j) else none
theorem lk_mem {a v : Nat} : ∀ {l : List (Nat × Nat)}, l.lookup a = some v → (a, v) ∈ l
  | [], h => by cases h
  | (b, w) :: l, h => by
    rw [List.lookup_cons] at h
    by_cases e : a = b
    · subst e; simp at h; subst h; exact List.mem_cons_self
    · rw [show (a == b) = false by simpa using e] at h
      exact List.mem_cons_of_mem _ (lk_mem h)
theorem vBt_mem {k j v : Nat} (h : vBt k j = some v) : j < 64 ∧ (64 * k + j, v) ∈ vBl := by
  unfold vBt at h
  split at h
  · rename_i hj; exact ⟨hj, lk_mem h⟩
  · cases h
theorem vBt_none {k : Nat} (h : vBl.all (fun e => e.1 / 64 != k) = true) (j : Nat) : vBt k j = none := by
  cases hq : vBt k j with
  | none => rfl
  | some v =>
    obtain ⟨h1, h2⟩ := vBt_mem hq
    have h3 := List.all_eq_true.mp h _ h2
    have h4 : (64 * k + j) / 64 = k := by omega
    simp [h4] at h3
def vB (T : vT) : Prop := ∀ k j v, vBt k j = some v → T k j = some v
theorem sgK_10 : sgK 10 := ⟨rfl, rfl, rfl, rfl, rfl, rfl⟩
theorem sgK_20 : sgK 20 := ⟨rfl, rfl, rfl, rfl, rfl, rfl⟩
theorem sgK_30 : sgK 30 := ⟨rfl, rfl, rfl, rfl, rfl, rfl⟩
theorem sgK_40 : sgK 40 := ⟨rfl, rfl, rfl, rfl, rfl, rfl⟩
theorem sgK_50 : sgK 50 := ⟨rfl, rfl, rfl, rfl, rfl, rfl⟩
theorem sgT_10 {T : vT} (h : vB T) : sgT T 10 := ⟨h _ _ _ rfl, h _ _ _ rfl, h _ _ _ rfl, h _ _ _ rfl, h _ _ _ rfl⟩
theorem sgT_20 {T : vT} (h : vB T) : sgT T 20 := ⟨h _ _ _ rfl, h _ _ _ rfl, h _ _ _ rfl, h _ _ _ rfl, h _ _ _ rfl⟩
theorem sgT_30 {T : vT} (h : vB T) : sgT T 30 := ⟨h _ _ _ rfl, h _ _ _ rfl, h _ _ _ rfl, h _ _ _ rfl, h _ _ _ rfl⟩
def pTh (c : Int) : Int := if c = 46 then 0 else if c = 60 then 1 else if c = 62 then 2 else if c = 119 then 3 else -1
def pDg (c : Int) : Bool := decide (50 ≤ c ∧ c ≤ 57)
theorem dX1_thingOf_0 : decode cX1_thingOf 0 = .ok (.iload_n 0, 1) := by decide +kernel
theorem dX1_thingOf_1 : decode cX1_thingOf 1 = .ok (.lookupswitch 51 #[(46, 43), (60, 45), (62, 47), (119, 49)], 43) := by decide +kernel
theorem dX1_thingOf_44 : decode cX1_thingOf 44 = .ok (.iconst 0, 1) := by decide +kernel
theorem dX1_thingOf_45 : decode cX1_thingOf 45 = .ok (.ireturn, 1) := by decide +kernel
theorem dX1_thingOf_46 : decode cX1_thingOf 46 = .ok (.iconst 1, 1) := by decide +kernel
theorem dX1_thingOf_47 : decode cX1_thingOf 47 = .ok (.ireturn, 1) := by decide +kernel
theorem dX1_thingOf_48 : decode cX1_thingOf 48 = .ok (.iconst 2, 1) := by decide +kernel
theorem dX1_thingOf_49 : decode cX1_thingOf 49 = .ok (.ireturn, 1) := by decide +kernel
theorem dX1_thingOf_50 : decode cX1_thingOf 50 = .ok (.iconst 3, 1) := by decide +kernel
theorem dX1_thingOf_51 : decode cX1_thingOf 51 = .ok (.ireturn, 1) := by decide +kernel
theorem dX1_thingOf_52 : decode cX1_thingOf 52 = .ok (.iconst (-1), 1) := by decide +kernel
theorem dX1_thingOf_53 : decode cX1_thingOf 53 = .ok (.ireturn, 1) := by decide +kernel
theorem pTh_rg (c : Int) : -1 ≤ pTh c ∧ pTh c ≤ 3 := by unfold pTh; split <;> (try split) <;> (try split) <;> (try split) <;> omega
/-- Pad.thingOf -/
theorem c_X1_thingOf {d : List Nat} {T : vT} {M : vM} {c : Int} : vCon m_X1_thingOf d d [vI c] T M (vPi fun r T1 M1 => r = pTh c ∧ T = T1 ∧ M = M1) := by
  refine vCon.of (by decide) rfl rfl (Nat.le_of_ble_eq_true rfl) ?_
  refine vV.iload_n dX1_thingOf_0 rfl ?_
  by_cases h1 : c = 46
  · subst h1
    refine vV.lsw (tgt := 44) dX1_thingOf_1 (by decide) (off := 43) (by decide) (by decide) ?_
    refine vV.iconst dX1_thingOf_44 (by decide) ?_
    refine vV.ri dX1_thingOf_45 rfl ?_
    exact ⟨by decide, rfl, rfl⟩
  by_cases h2 : c = 60
  · subst h2
    refine vV.lsw (tgt := 46) dX1_thingOf_1 (by decide) (off := 45) (by decide) (by decide) ?_
    refine vV.iconst dX1_thingOf_46 (by decide) ?_
    refine vV.ri dX1_thingOf_47 rfl ?_
    exact ⟨by decide, rfl, rfl⟩
  by_cases h3 : c = 62
  · subst h3
    refine vV.lsw (tgt := 48) dX1_thingOf_1 (by decide) (off := 47) (by decide) (by decide) ?_
    refine vV.iconst dX1_thingOf_48 (by decide) ?_
    refine vV.ri dX1_thingOf_49 rfl ?_
    exact ⟨by decide, rfl, rfl⟩
  by_cases h4 : c = 119
  · subst h4
    refine vV.lsw (tgt := 50) dX1_thingOf_1 (by decide) (off := 49) (by decide) (by decide) ?_
    refine vV.iconst dX1_thingOf_50 (by decide) ?_
    refine vV.ri dX1_thingOf_51 rfl ?_
    exact ⟨by decide, rfl, rfl⟩
  refine vV.lsw (tgt := 52) dX1_thingOf_1 (by decide) (off := 51) (by show Op.lookupswitch.offset [(46, 43), (60, 45), (62, 47), (119, 49)] 51 c = 51; rw [Op.lookupswitch.offset_cons, if_neg (fun z => h1 z.symm), Op.lookupswitch.offset_cons, if_neg (fun z => h2 z.symm), Op.lookupswitch.offset_cons, if_neg (fun z => h3 z.symm), Op.lookupswitch.offset_cons, if_neg (fun z => h4 z.symm), Op.lookupswitch.offset_nil]) (by decide) ?_
  refine vV.iconst dX1_thingOf_52 (by decide) ?_
  refine vV.ri dX1_thingOf_53 rfl ?_
  refine ⟨?_, rfl, rfl⟩; unfold pTh; rw [if_neg h1, if_neg h2, if_neg h3, if_neg h4]
theorem dX1_isTimes_0 : decode cX1_isTimes 0 = .ok (.iload_n 0, 1) := by decide +kernel
theorem dX1_isTimes_1 : decode cX1_isTimes 1 = .ok (.bipush 50, 2) := by decide +kernel
theorem dX1_isTimes_3 : decode cX1_isTimes 3 = .ok (.if_icmp .lt 13, 3) := by decide +kernel
theorem dX1_isTimes_6 : decode cX1_isTimes 6 = .ok (.iload_n 0, 1) := by decide +kernel
theorem dX1_isTimes_7 : decode cX1_isTimes 7 = .ok (.bipush 57, 2) := by decide +kernel
theorem dX1_isTimes_9 : decode cX1_isTimes 9 = .ok (.if_icmp .gt 7, 3) := by decide +kernel
theorem dX1_isTimes_12 : decode cX1_isTimes 12 = .ok (.iconst 1, 1) := by decide +kernel
theorem dX1_isTimes_13 : decode cX1_isTimes 13 = .ok (.goto 4, 3) := by decide +kernel
theorem dX1_isTimes_16 : decode cX1_isTimes 16 = .ok (.iconst 0, 1) := by decide +kernel
theorem dX1_isTimes_17 : decode cX1_isTimes 17 = .ok (.ireturn, 1) := by decide +kernel
/-- Pad.isTimes -/
theorem c_X1_isTimes {d : List Nat} {T : vT} {M : vM} {c : Int} : vCon m_X1_isTimes d d [vI c] T M (vPi fun r T1 M1 => r = bI (pDg c) ∧ T = T1 ∧ M = M1) := by
  refine vCon.of (by decide) rfl rfl (Nat.le_of_ble_eq_true rfl) ?_
  refine vV.iload_n dX1_isTimes_0 rfl ?_
  refine vV.bipush (v := 50) dX1_isTimes_1 (by decide) (by decide) ?_
  refine vV.icmp_lt (tgt := 16) dX1_isTimes_3 (by decide) (fun h3 => ?_) (fun h3 => ?_)
  · skip
    refine vV.iconst dX1_isTimes_16 (by decide) ?_
    refine vV.rz dX1_isTimes_17 rfl (by first | exact Or.inl rfl | exact Or.inr rfl | assumption) ?_
    refine ⟨?_, rfl, rfl⟩; simp [bI, pDg]; omega
  · skip
    refine vV.iload_n dX1_isTimes_6 rfl ?_
    refine vV.bipush (v := 57) dX1_isTimes_7 (by decide) (by decide) ?_
    refine vV.icmp_gt (tgt := 16) dX1_isTimes_9 (by decide) (fun h9 => ?_) (fun h9 => ?_)
    · skip
      refine vV.iconst dX1_isTimes_16 (by decide) ?_
      refine vV.rz dX1_isTimes_17 rfl (by first | exact Or.inl rfl | exact Or.inr rfl | assumption) ?_
      refine ⟨?_, rfl, rfl⟩; simp [bI, pDg]; omega
    · skip
      refine vV.iconst dX1_isTimes_12 (by decide) ?_
      refine vV.goto (tgt := 17) dX1_isTimes_13 (by decide) ?_
      refine vV.rz dX1_isTimes_17 rfl (by first | exact Or.inl rfl | exact Or.inr rfl | assumption) ?_
      refine ⟨?_, rfl, rfl⟩; simp [bI, pDg]; omega
theorem dX1_add_0 : decode cX1_add 0 = .ok (.aload_n 0, 1) := by decide +kernel
theorem dX1_add_1 : decode cX1_add 1 = .ok (.getfield 18, 3) := by decide +kernel
theorem dX1_add_4 : decode cX1_add 4 = .ok (.bipush 40, 2) := by decide +kernel
theorem dX1_add_6 : decode cX1_add 6 = .ok (.if_icmp .lt 5, 3) := by decide +kernel
theorem dX1_add_9 : decode cX1_add 9 = .ok (.iconst 0, 1) := by decide +kernel
theorem dX1_add_10 : decode cX1_add 10 = .ok (.ireturn, 1) := by decide +kernel
theorem dX1_add_11 : decode cX1_add 11 = .ok (.aload_n 0, 1) := by decide +kernel
theorem dX1_add_12 : decode cX1_add 12 = .ok (.getfield 11, 3) := by decide +kernel
theorem dX1_add_15 : decode cX1_add 15 = .ok (.aload_n 0, 1) := by decide +kernel
theorem dX1_add_16 : decode cX1_add 16 = .ok (.getfield 18, 3) := by decide +kernel
theorem dX1_add_19 : decode cX1_add 19 = .ok (.iload_n 1, 1) := by decide +kernel
theorem dX1_add_20 : decode cX1_add 20 = .ok (.iastore, 1) := by decide +kernel
theorem dX1_add_21 : decode cX1_add 21 = .ok (.aload_n 0, 1) := by decide +kernel
theorem dX1_add_22 : decode cX1_add 22 = .ok (.dup, 1) := by decide +kernel
theorem dX1_add_23 : decode cX1_add 23 = .ok (.getfield 18, 3) := by decide +kernel
theorem dX1_add_26 : decode cX1_add 26 = .ok (.iconst 1, 1) := by decide +kernel
theorem dX1_add_27 : decode cX1_add 27 = .ok (.iadd, 1) := by decide +kernel
theorem dX1_add_28 : decode cX1_add 28 = .ok (.putfield 18, 3) := by decide +kernel
theorem dX1_add_31 : decode cX1_add 31 = .ok (.iconst 1, 1) := by decide +kernel
theorem dX1_add_32 : decode cX1_add 32 = .ok (.ireturn, 1) := by decide +kernel
/-- Pad.add -/
theorem c_X1_add {d : List Nat} {T : vT} {M : vM} {m : Nat} {c : Int} (hB : vB T) (hm : M 60 0 = m) (hle : m ≤ 40) : vCon m_X1_add d d [vR 60, vI c] T M (vPi fun r T1 M1 => r = (if m < 40 then 1 else 0) ∧ T = T1 ∧ M1 = (if m < 40 then vUpd (vUpd M 61 m c) 60 0 (m + 1) else M)) := by
  refine vCon.of (by decide) rfl rfl (Nat.le_of_ble_eq_true rfl) ?_
  refine vV.aload_n dX1_add_0 rfl ?_
  refine vV.geti (z := 0) dX1_add_1 fl_X1_18 (by first | rfl | assumption) rfl rfl ?_
  rw [hm]
  refine vV.bipush (v := 40) dX1_add_4 (by decide) (by decide) ?_
  refine vV.icmp_lt (tgt := 11) dX1_add_6 (by decide) (fun h6 => ?_) (fun h6 => ?_)
  · skip
    refine vV.aload_n dX1_add_11 rfl ?_
    refine vV.getr dX1_add_12 fl_X1_11 (by first | rfl | assumption) rfl (by first | assumption | exact hB _ _ _ rfl) ?_
    refine vV.aload_n dX1_add_15 rfl ?_
    refine vV.geti (z := 0) dX1_add_16 fl_X1_18 (by first | rfl | assumption) rfl rfl ?_
    rw [hm]
    refine vV.iload_n dX1_add_19 rfl ?_
    refine vV.iast dX1_add_20 (by first | rfl | assumption) (by omega) (by omega) ?_
    refine vV.aload_n dX1_add_21 rfl ?_
    refine vV.dup dX1_add_22 rfl ?_
    refine vV.geti (z := 0) dX1_add_23 fl_X1_18 (by first | rfl | assumption) rfl rfl ?_
    rw [vUpd_nk (by omega), hm]
    refine vV.iconst dX1_add_26 (by decide) ?_
    refine vV.iadd dX1_add_27 (⟨by omega, by omega⟩) ?_
    refine vV.puti (z := 0) dX1_add_28 fl_X1_18 (by first | rfl | assumption) rfl rfl ?_
    refine vV.iconst dX1_add_31 (by decide) ?_
    refine vV.rz dX1_add_32 rfl (by first | exact Or.inl rfl | exact Or.inr rfl | assumption) ?_
    rw [if_pos (by omega), if_pos (by omega)]; exact ⟨rfl, rfl, rfl⟩
  · skip
    refine vV.iconst dX1_add_9 (by decide) ?_
    refine vV.rz dX1_add_10 rfl (by first | exact Or.inl rfl | exact Or.inr rfl | assumption) ?_
    rw [if_neg (by omega), if_neg (by omega)]; exact ⟨rfl, rfl, rfl⟩
/-- a thing stands right ahead of the place i -/
def pBh (sg : Int → Int) (i : Nat) : Bool := decide (0 < i ∧ 0 ≤ pTh (sg ((i : Int) - 1)))
theorem pBh_s (sg : Int → Int) (i : Nat) : pBh sg (i + 1) = decide (0 ≤ pTh (sg i)) := by
  unfold pBh; rw [show ((i + 1 : Nat) : Int) - 1 = i by omega]; simp
def pBad (sg : Int → Int) (i : Nat) : Bool := decide (pTh (sg i) < 0) && !(pBh sg i && pDg (sg i))
theorem dX1_firstFault_0 : decode cX1_firstFault 0 = .ok (.iconst 0, 1) := by decide +kernel
theorem dX1_firstFault_1 : decode cX1_firstFault 1 = .ok (.istore_n 1, 1) := by decide +kernel
theorem dX1_firstFault_2 : decode cX1_firstFault 2 = .ok (.iconst 0, 1) := by decide +kernel
theorem dX1_firstFault_3 : decode cX1_firstFault 3 = .ok (.istore_n 2, 1) := by decide +kernel
theorem dX1_firstFault_4 : decode cX1_firstFault 4 = .ok (.iload_n 2, 1) := by decide +kernel
theorem dX1_firstFault_5 : decode cX1_firstFault 5 = .ok (.aload_n 0, 1) := by decide +kernel
theorem dX1_firstFault_6 : decode cX1_firstFault 6 = .ok (.getfield 18, 3) := by decide +kernel
theorem dX1_firstFault_9 : decode cX1_firstFault 9 = .ok (.if_icmp .ge 49, 3) := by decide +kernel
theorem dX1_firstFault_12 : decode cX1_firstFault 12 = .ok (.aload_n 0, 1) := by decide +kernel
theorem dX1_firstFault_13 : decode cX1_firstFault 13 = .ok (.getfield 11, 3) := by decide +kernel
theorem dX1_firstFault_16 : decode cX1_firstFault 16 = .ok (.iload_n 2, 1) := by decide +kernel
theorem dX1_firstFault_17 : decode cX1_firstFault 17 = .ok (.iaload, 1) := by decide +kernel
theorem dX1_firstFault_18 : decode cX1_firstFault 18 = .ok (.invokestatic 22, 3) := by decide +kernel
theorem dX1_firstFault_21 : decode cX1_firstFault 21 = .ok (.ifCond .lt 8, 3) := by decide +kernel
theorem dX1_firstFault_24 : decode cX1_firstFault 24 = .ok (.iconst 1, 1) := by decide +kernel
theorem dX1_firstFault_25 : decode cX1_firstFault 25 = .ok (.istore_n 1, 1) := by decide +kernel
theorem dX1_firstFault_26 : decode cX1_firstFault 26 = .ok (.goto 26, 3) := by decide +kernel
theorem dX1_firstFault_29 : decode cX1_firstFault 29 = .ok (.iload_n 1, 1) := by decide +kernel
theorem dX1_firstFault_30 : decode cX1_firstFault 30 = .ok (.ifCond .eq 20, 3) := by decide +kernel
theorem dX1_firstFault_33 : decode cX1_firstFault 33 = .ok (.aload_n 0, 1) := by decide +kernel
theorem dX1_firstFault_34 : decode cX1_firstFault 34 = .ok (.getfield 11, 3) := by decide +kernel
theorem dX1_firstFault_37 : decode cX1_firstFault 37 = .ok (.iload_n 2, 1) := by decide +kernel
theorem dX1_firstFault_38 : decode cX1_firstFault 38 = .ok (.iaload, 1) := by decide +kernel
theorem dX1_firstFault_39 : decode cX1_firstFault 39 = .ok (.invokestatic 26, 3) := by decide +kernel
theorem dX1_firstFault_42 : decode cX1_firstFault 42 = .ok (.ifCond .eq 8, 3) := by decide +kernel
theorem dX1_firstFault_45 : decode cX1_firstFault 45 = .ok (.iconst 0, 1) := by decide +kernel
theorem dX1_firstFault_46 : decode cX1_firstFault 46 = .ok (.istore_n 1, 1) := by decide +kernel
theorem dX1_firstFault_47 : decode cX1_firstFault 47 = .ok (.goto 5, 3) := by decide +kernel
theorem dX1_firstFault_50 : decode cX1_firstFault 50 = .ok (.iload_n 2, 1) := by decide +kernel
theorem dX1_firstFault_51 : decode cX1_firstFault 51 = .ok (.ireturn, 1) := by decide +kernel
theorem dX1_firstFault_52 : decode cX1_firstFault 52 = .ok (.iinc 2 1, 3) := by decide +kernel
theorem dX1_firstFault_55 : decode cX1_firstFault 55 = .ok (.goto (-51), 3) := by decide +kernel
theorem dX1_firstFault_58 : decode cX1_firstFault 58 = .ok (.iconst (-1), 1) := by decide +kernel
theorem dX1_firstFault_59 : decode cX1_firstFault 59 = .ok (.ireturn, 1) := by decide +kernel
theorem l_X1_firstFault {d : List Nat} {T : vT} {M : vM} {m : Nat} (hB : vB T) (hm : M 60 0 = m) (hle : m ≤ 40) : ∀ p, p ≤ m → (∀ j : Nat, j < p → pBad (M 61) j = false) →
    vV m_X1_firstFault d d (vPi fun r T1 M1 => r = pOr (-1) (pFind (pBad (M 61)) m) ∧ T = T1 ∧ M = M1) 4 [some (vR 60), some (vI (bI (pBh (M 61) p))), some (vI p)] [] d T M := by
  refine vUp ?_
  intro p h2 ih hp
  refine vV.iload_n dX1_firstFault_4 rfl ?_
  refine vV.aload_n dX1_firstFault_5 rfl ?_
  refine vV.geti (z := 0) dX1_firstFault_6 fl_X1_18 (by first | rfl | assumption) rfl rfl ?_
  refine vV.icmp_ge (tgt := 58) dX1_firstFault_9 (by decide) (fun h9 => ?_) (fun h9 => ?_)
  · skip
    refine vV.iconst dX1_firstFault_58 (by decide) ?_
    refine vV.ri dX1_firstFault_59 rfl ?_
    rw [pFind_no (fun j hj => hp j (by omega))]; exact ⟨rfl, rfl, rfl⟩
  · skip
    refine vV.aload_n dX1_firstFault_12 rfl ?_
    refine vV.getr dX1_firstFault_13 fl_X1_11 (by first | rfl | assumption) rfl (by first | assumption | exact hB _ _ _ rfl) ?_
    refine vV.iload_n dX1_firstFault_16 rfl ?_
    refine vV.iald dX1_firstFault_17 (by first | rfl | assumption) (by omega) (by omega) ?_
    refine vV.cSi dX1_firstFault_18 ml_X1_22 cw_X1_thingOf sw_X1_thingOf (by unfold vRoom; decide) c_X1_thingOf rfl rfl (Nat.le_of_ble_eq_true rfl) ?_
    rintro x18 _ _ hx18 ⟨rfl, rfl, rfl⟩
    refine vV.if_lt (tgt := 29) dX1_firstFault_21 (by decide) (fun h21 => ?_) (fun h21 => ?_)
    · skip
      have hb : pBad (M 61) p = !(pBh (M 61) p && pDg (M 61 p)) := by unfold pBad; simp [h21]
      refine vV.iload_n dX1_firstFault_29 rfl ?_
      refine vV.if_eq (tgt := 50) dX1_firstFault_30 (by decide) (fun h30 => ?_) (fun h30 => ?_)
      · skip
        have hbb : pBad (M 61) p = true := by rw [hb]; revert h30; cases pBh (M 61) p <;> simp [bI]
        refine vV.iload_n dX1_firstFault_50 rfl ?_
        refine vV.ri dX1_firstFault_51 rfl ?_
        rw [pFind_yes (p := p) (by omega) hbb hp]; exact ⟨rfl, rfl, rfl⟩
      · skip
        have hbh : pBh (M 61) p = true := by revert h30; cases pBh (M 61) p <;> simp [bI]
        refine vV.aload_n dX1_firstFault_33 rfl ?_
        refine vV.getr dX1_firstFault_34 fl_X1_11 (by first | rfl | assumption) rfl (by first | assumption | exact hB _ _ _ rfl) ?_
        refine vV.iload_n dX1_firstFault_37 rfl ?_
        refine vV.iald dX1_firstFault_38 (by first | rfl | assumption) (by omega) (by omega) ?_
        refine vV.cSi dX1_firstFault_39 ml_X1_26 cw_X1_isTimes sw_X1_isTimes (by unfold vRoom; decide) c_X1_isTimes rfl rfl (Nat.le_of_ble_eq_true rfl) ?_
        rintro x39 _ _ hx39 ⟨rfl, rfl, rfl⟩
        refine vV.if_eq (tgt := 50) dX1_firstFault_42 (by decide) (fun h42 => ?_) (fun h42 => ?_)
        · skip
          have hbb : pBad (M 61) p = true := by rw [hb, hbh]; revert h42; cases pDg (M 61 p) <;> simp [bI]
          refine vV.iload_n dX1_firstFault_50 rfl ?_
          refine vV.ri dX1_firstFault_51 rfl ?_
          rw [pFind_yes (p := p) (by omega) hbb hp]; exact ⟨rfl, rfl, rfl⟩
        · skip
          have hbb : pBad (M 61) p = false := by rw [hb, hbh]; revert h42; cases pDg (M 61 p) <;> simp [bI]
          refine vV.iconst dX1_firstFault_45 (by decide) ?_
          refine vV.istore_n (L' := [_, _, _]) dX1_firstFault_46 (by decide) rfl ?_
          refine vV.goto (tgt := 52) dX1_firstFault_47 (by decide) ?_
          first | (have hs : bI (pBh (M 61) (p + 1)) = 1 := by rw [pBh_s]; simp [bI]; omega) | (have hs : bI (pBh (M 61) (p + 1)) = 0 := by rw [pBh_s]; simp [bI]; omega)
          refine vV.iinc (L' := [_, _, _]) dX1_firstFault_52 (by decide) rfl (⟨by omega, by omega⟩) rfl ?_
          refine vV.goto (tgt := 4) dX1_firstFault_55 (by decide) ?_
          rw [hs] at ih; exact ih (by omega) (fun j hj => (Nat.lt_succ_iff_lt_or_eq.mp hj).elim (hp j) (fun h => by subst h; assumption))
    · skip
      have hb : pBad (M 61) p = false := by unfold pBad; simp; omega
      refine vV.iconst dX1_firstFault_24 (by decide) ?_
      refine vV.istore_n (L' := [_, _, _]) dX1_firstFault_25 (by decide) rfl ?_
      refine vV.goto (tgt := 52) dX1_firstFault_26 (by decide) ?_
      first | (have hs : bI (pBh (M 61) (p + 1)) = 1 := by rw [pBh_s]; simp [bI]; omega) | (have hs : bI (pBh (M 61) (p + 1)) = 0 := by rw [pBh_s]; simp [bI]; omega)
      refine vV.iinc (L' := [_, _, _]) dX1_firstFault_52 (by decide) rfl (⟨by omega, by omega⟩) rfl ?_
      refine vV.goto (tgt := 4) dX1_firstFault_55 (by decide) ?_
      rw [hs] at ih; exact ih (by omega) (fun j hj => (Nat.lt_succ_iff_lt_or_eq.mp hj).elim (hp j) (fun h => by subst h; assumption))
    skip
/-- Pad.firstFault -/
theorem c_X1_firstFault {d : List Nat} {T : vT} {M : vM} {m : Nat} (hB : vB T) (hm : M 60 0 = m) (hle : m ≤ 40) : vCon m_X1_firstFault d d [vR 60] T M (vPi fun r T1 M1 => r = pOr (-1) (pFind (pBad (M 61)) m) ∧ T = T1 ∧ M = M1) := by
  refine vCon.of (by decide) rfl rfl (Nat.le_of_ble_eq_true rfl) ?_
  have h := l_X1_firstFault (d := d) hB hm hle 0 (by omega) (fun j hj => by omega)
  refine vV.iconst dX1_firstFault_0 (by decide) ?_
  refine vV.istore_n (L' := [_, _, _]) dX1_firstFault_1 (by decide) rfl ?_
  refine vV.iconst dX1_firstFault_2 (by decide) ?_
  refine vV.istore_n (L' := [_, _, _]) dX1_firstFault_3 (by decide) rfl ?_
  exact h
/-- the ticks of the first i signs -/
def pL (sg : Int → Int) : Nat → List Int
  | 0 => []
  | i + 1 => if 0 ≤ pTh (sg i) then pL sg i ++ [pTh (sg i)] else pL sg i ++ List.replicate (sg i - 49).toNat ((pL sg i).getLast?.getD 0)
theorem pL_t {sg : Int → Int} {i : Nat} (h : 0 ≤ pTh (sg i)) : pL sg (i + 1) = pL sg i ++ [pTh (sg i)] := by
  show (if _ then _ else _) = _
  rw [if_pos h]
theorem pL_d {sg : Int → Int} {i : Nat} (h : pTh (sg i) < 0) : pL sg (i + 1) = pL sg i ++ List.replicate (sg i - 49).toNat ((pL sg i).getLast?.getD 0) := by
  show (if _ then _ else _) = _
  rw [if_neg (by omega)]
def pNo (sg : Int → Int) (m : Nat) : Prop := ∀ j : Nat, j < m → pBad sg j = false
theorem pNo_d {sg : Int → Int} {m i : Nat} (h : pNo sg m) (hi : i < m) (ht : pTh (sg i) < 0) : pBh sg i = true ∧ 50 ≤ sg i ∧ sg i ≤ 57 := by
  have := h i hi
  unfold pBad at this
  simp [ht, pDg] at this
  exact this
theorem pBh_t {sg : Int → Int} {i : Nat} (h : pBh sg i = true) : ∃ k, i = k + 1 ∧ 0 ≤ pTh (sg k) := by
  unfold pBh at h
  simp at h
  exact ⟨i - 1, by omega, by rw [show ((i - 1 : Nat) : Int) = (i : Int) - 1 by omega]; exact h.2⟩
theorem pL_len {sg : Int → Int} {m : Nat} (h : pNo sg m) : ∀ i, i ≤ m → 2 * (pL sg i).length + (if pBh sg i then 7 else 0) ≤ 9 * i
  | 0, _ => by simp [pL, pBh]
  | i + 1, hi => by
    have h1 := pL_len h i (by omega)
    rw [pBh_s]
    by_cases ht : 0 ≤ pTh (sg i)
    · rw [pL_t ht]; simp [ht]; split at h1 <;> omega
    · obtain ⟨a1, a2, a3⟩ := pNo_d h (show i < m by omega) (by omega)
      rw [pL_d (by omega)]; rw [a1] at h1; simp [ht] at h1 ⊢; omega
/-- a row begins with a list -/
def rHas (f : Int → Int) (l : List Int) : Prop := ∀ (j : Nat) (v : Int), l[j]? = some v → f j = v
theorem rHas_nil (f : Int → Int) : rHas f [] := fun j v h => by simp at h
theorem rHas_app {f : Int → Int} {l : List Int} {x : Int} (h : rHas f l) : rHas (fSet f l.length x) (l ++ [x]) := by
  intro j v hj
  by_cases hl : j < l.length
  · rw [List.getElem?_append_left hl] at hj
    rw [fSet_n (by omega)]; exact h j v hj
  · rw [List.getElem?_append_right (by omega)] at hj
    have hz : j - l.length < 1 := (List.getElem?_eq_some_iff.mp hj).1
    have : j = l.length := by omega
    subst this
    simp at hj
    rw [fSet_s]; exact hj
theorem dX1_read_0 : decode cX1_read 0 = .ok (.iconst 0, 1) := by decide +kernel
theorem dX1_read_1 : decode cX1_read 1 = .ok (.istore_n 1, 1) := by decide +kernel
theorem dX1_read_2 : decode cX1_read 2 = .ok (.iconst 0, 1) := by decide +kernel
theorem dX1_read_3 : decode cX1_read 3 = .ok (.istore_n 2, 1) := by decide +kernel
theorem dX1_read_4 : decode cX1_read 4 = .ok (.iload_n 2, 1) := by decide +kernel
theorem dX1_read_5 : decode cX1_read 5 = .ok (.aload_n 0, 1) := by decide +kernel
theorem dX1_read_6 : decode cX1_read 6 = .ok (.getfield 18, 3) := by decide +kernel
theorem dX1_read_9 : decode cX1_read 9 = .ok (.if_icmp .ge 102, 3) := by decide +kernel
theorem dX1_read_12 : decode cX1_read 12 = .ok (.aload_n 0, 1) := by decide +kernel
theorem dX1_read_13 : decode cX1_read 13 = .ok (.getfield 11, 3) := by decide +kernel
theorem dX1_read_16 : decode cX1_read 16 = .ok (.iload_n 2, 1) := by decide +kernel
theorem dX1_read_17 : decode cX1_read 17 = .ok (.iaload, 1) := by decide +kernel
theorem dX1_read_18 : decode cX1_read 18 = .ok (.invokestatic 22, 3) := by decide +kernel
theorem dX1_read_21 : decode cX1_read 21 = .ok (.istore_n 3, 1) := by decide +kernel
theorem dX1_read_22 : decode cX1_read 22 = .ok (.iload_n 3, 1) := by decide +kernel
theorem dX1_read_23 : decode cX1_read 23 = .ok (.ifCond .ge 6, 3) := by decide +kernel
theorem dX1_read_26 : decode cX1_read 26 = .ok (.goto 79, 3) := by decide +kernel
theorem dX1_read_29 : decode cX1_read 29 = .ok (.iload_n 2, 1) := by decide +kernel
theorem dX1_read_30 : decode cX1_read 30 = .ok (.iconst 1, 1) := by decide +kernel
theorem dX1_read_31 : decode cX1_read 31 = .ok (.iadd, 1) := by decide +kernel
theorem dX1_read_32 : decode cX1_read 32 = .ok (.aload_n 0, 1) := by decide +kernel
theorem dX1_read_33 : decode cX1_read 33 = .ok (.getfield 18, 3) := by decide +kernel
theorem dX1_read_36 : decode cX1_read 36 = .ok (.if_icmp .ge 31, 3) := by decide +kernel
theorem dX1_read_39 : decode cX1_read 39 = .ok (.aload_n 0, 1) := by decide +kernel
theorem dX1_read_40 : decode cX1_read 40 = .ok (.getfield 11, 3) := by decide +kernel
theorem dX1_read_43 : decode cX1_read 43 = .ok (.iload_n 2, 1) := by decide +kernel
theorem dX1_read_44 : decode cX1_read 44 = .ok (.iconst 1, 1) := by decide +kernel
theorem dX1_read_45 : decode cX1_read 45 = .ok (.iadd, 1) := by decide +kernel
theorem dX1_read_46 : decode cX1_read 46 = .ok (.iaload, 1) := by decide +kernel
theorem dX1_read_47 : decode cX1_read 47 = .ok (.invokestatic 26, 3) := by decide +kernel
theorem dX1_read_50 : decode cX1_read 50 = .ok (.ifCond .eq 17, 3) := by decide +kernel
theorem dX1_read_53 : decode cX1_read 53 = .ok (.aload_n 0, 1) := by decide +kernel
theorem dX1_read_54 : decode cX1_read 54 = .ok (.getfield 11, 3) := by decide +kernel
theorem dX1_read_57 : decode cX1_read 57 = .ok (.iload_n 2, 1) := by decide +kernel
theorem dX1_read_58 : decode cX1_read 58 = .ok (.iconst 1, 1) := by decide +kernel
theorem dX1_read_59 : decode cX1_read 59 = .ok (.iadd, 1) := by decide +kernel
theorem dX1_read_60 : decode cX1_read 60 = .ok (.iaload, 1) := by decide +kernel
theorem dX1_read_61 : decode cX1_read 61 = .ok (.bipush 48, 2) := by decide +kernel
theorem dX1_read_63 : decode cX1_read 63 = .ok (.isub, 1) := by decide +kernel
theorem dX1_read_64 : decode cX1_read 64 = .ok (.goto 4, 3) := by decide +kernel
theorem dX1_read_67 : decode cX1_read 67 = .ok (.iconst 1, 1) := by decide +kernel
theorem dX1_read_68 : decode cX1_read 68 = .ok (.istore 4, 2) := by decide +kernel
theorem dX1_read_70 : decode cX1_read 70 = .ok (.iconst 0, 1) := by decide +kernel
theorem dX1_read_71 : decode cX1_read 71 = .ok (.istore 5, 2) := by decide +kernel
theorem dX1_read_73 : decode cX1_read 73 = .ok (.iload 5, 2) := by decide +kernel
theorem dX1_read_75 : decode cX1_read 75 = .ok (.iload 4, 2) := by decide +kernel
theorem dX1_read_77 : decode cX1_read 77 = .ok (.if_icmp .ge 28, 3) := by decide +kernel
theorem dX1_read_80 : decode cX1_read 80 = .ok (.iload_n 1, 1) := by decide +kernel
theorem dX1_read_81 : decode cX1_read 81 = .ok (.aload_n 0, 1) := by decide +kernel
theorem dX1_read_82 : decode cX1_read 82 = .ok (.getfield 15, 3) := by decide +kernel
theorem dX1_read_85 : decode cX1_read 85 = .ok (.arraylength, 1) := by decide +kernel
theorem dX1_read_86 : decode cX1_read 86 = .ok (.if_icmp .ge 19, 3) := by decide +kernel
theorem dX1_read_89 : decode cX1_read 89 = .ok (.aload_n 0, 1) := by decide +kernel
theorem dX1_read_90 : decode cX1_read 90 = .ok (.getfield 15, 3) := by decide +kernel
theorem dX1_read_93 : decode cX1_read 93 = .ok (.iload_n 1, 1) := by decide +kernel
theorem dX1_read_94 : decode cX1_read 94 = .ok (.iload_n 3, 1) := by decide +kernel
theorem dX1_read_95 : decode cX1_read 95 = .ok (.iastore, 1) := by decide +kernel
theorem dX1_read_96 : decode cX1_read 96 = .ok (.iinc 1 1, 3) := by decide +kernel
theorem dX1_read_99 : decode cX1_read 99 = .ok (.iinc 5 1, 3) := by decide +kernel
theorem dX1_read_102 : decode cX1_read 102 = .ok (.goto (-29), 3) := by decide +kernel
theorem dX1_read_105 : decode cX1_read 105 = .ok (.iinc 2 1, 3) := by decide +kernel
theorem dX1_read_108 : decode cX1_read 108 = .ok (.goto (-104), 3) := by decide +kernel
theorem dX1_read_111 : decode cX1_read 111 = .ok (.iload_n 1, 1) := by decide +kernel
theorem dX1_read_112 : decode cX1_read 112 = .ok (.ireturn, 1) := by decide +kernel
theorem rep_s {α : Type} (l : List α) (k : Nat) (x : α) : l ++ List.replicate (k + 1) x = (l ++ List.replicate k x) ++ [x] := by rw [List.replicate_succ', List.append_assoc]
theorem l_X1_read73 {d : List Nat} {T : vT} {M : vM} {i t : Nat} {th : Int} {l : List Int} {Q : Option vA → vT → vM → Prop} (hB : vB T) (hi : i ≤ 40) (hl : l.length + t ≤ 180)
    (hnext : ∀ f, rHas f (l ++ List.replicate t th) → vV m_X1_read d d Q 105 [some (vR 60), some (vI ((l.length + t : Nat) : Int)), some (vI i), some (vI th), some (vI t), some (vI t)] [] d T (vRow M 62 f)) :
    ∀ k, k ≤ t → ∀ f, rHas f (l ++ List.replicate k th) → vV m_X1_read d d Q 73 [some (vR 60), some (vI ((l.length + k : Nat) : Int)), some (vI i), some (vI th), some (vI t), some (vI k)] [] d T (vRow M 62 f) := by
  refine vUp ?_
  intro k hk ih f hf
  refine vV.iload dX1_read_73 rfl ?_
  refine vV.iload dX1_read_75 rfl ?_
  refine vV.icmp_ge (tgt := 105) dX1_read_77 (by decide) (fun h77 => ?_) (fun h77 => ?_)
  · skip
    have : k = t := by omega
    subst this
    exact hnext f hf
  · skip
    refine vV.iload_n dX1_read_80 rfl ?_
    refine vV.aload_n dX1_read_81 rfl ?_
    refine vV.getr dX1_read_82 fl_X1_15 (by first | rfl | assumption) rfl (by first | assumption | exact hB _ _ _ rfl) ?_
    refine vV.alen (v := 180) dX1_read_85 (by first | rfl | assumption) rfl (by decide) ?_
    refine vV.icmp_ge (tgt := 105) dX1_read_86 (by decide) (fun h86 => ?_) (fun h86 => ?_)
    · skip
      omega
    · skip
      refine vV.aload_n dX1_read_89 rfl ?_
      refine vV.getr dX1_read_90 fl_X1_15 (by first | rfl | assumption) rfl (by first | assumption | exact hB _ _ _ rfl) ?_
      refine vV.iload_n dX1_read_93 rfl ?_
      refine vV.iload_n dX1_read_94 rfl ?_
      refine vV.iast dX1_read_95 (by first | rfl | assumption) (by omega) (by omega) ?_
      rw [vUpd_vRow]
      refine vV.iinc (L' := [_, _, _, _, _, _]) dX1_read_96 (by decide) rfl (⟨by omega, by omega⟩) rfl ?_
      refine vV.iinc (L' := [_, _, _, _, _, _]) dX1_read_99 (by decide) rfl (⟨by omega, by omega⟩) rfl ?_
      refine vV.goto (tgt := 73) dX1_read_102 (by decide) ?_
      refine ih (by omega) _ ?_
      rw [rep_s]
      have := rHas_app (x := th) hf
      rw [List.length_append, List.length_replicate] at this
      exact this
/-- what Pad.read has laid ahead of the sign i -/
def cL (sg : Int → Int) (m i : Nat) : List Int := if i < m ∧ pBh sg i = true ∧ pDg (sg i) = true then pL sg (i + 1) else pL sg i
theorem cL_d {sg : Int → Int} {m i : Nat} (h : pNo sg m) (hi : i < m) (ht : pTh (sg i) < 0) : cL sg m i = pL sg (i + 1) ∧ cL sg m (i + 1) = pL sg (i + 1) := by
  obtain ⟨a1, a2, a3⟩ := pNo_d h hi ht
  refine ⟨?_, ?_⟩
  · unfold cL; rw [if_pos ⟨hi, a1, by simp [pDg]; omega⟩]
  · unfold cL; rw [if_neg]; rintro ⟨-, b, -⟩; rw [pBh_s] at b; simp at b; omega
theorem pTh_dg {c : Int} (h : 0 ≤ pTh c) : pDg c = false := by
  unfold pTh at h
  simp [pDg]
  intro h1
  split at h <;> (try split at h) <;> (try split at h) <;> (try split at h) <;> omega
theorem pL_last {sg : Int → Int} {i : Nat} (h : 0 ≤ pTh (sg i)) : (pL sg (i + 1)).getLast?.getD 0 = pTh (sg i) := by rw [pL_t h]; simp
theorem cL_t {sg : Int → Int} {m i : Nat} (hi : i < m) (ht : 0 ≤ pTh (sg i)) : cL sg m i = pL sg i := by
  unfold cL; rw [if_neg]; rintro ⟨-, -, b⟩; rw [pTh_dg ht] at b; cases b
theorem cL_t1 {sg : Int → Int} {m i : Nat} (hi : i < m) (ht : 0 ≤ pTh (sg i)) (h : ¬ (i + 1 < m ∧ pDg (sg ((i : Int) + 1)) = true)) : cL sg m (i + 1) = pL sg i ++ List.replicate 1 (pTh (sg i)) := by
  unfold cL; rw [if_neg]
  · rw [pL_t ht]; rfl
  · rintro ⟨b1, b2, b3⟩; exact h ⟨b1, b3⟩
theorem cL_t2 {sg : Int → Int} {m i : Nat} (hi : i < m) (ht : 0 ≤ pTh (sg i)) (h1 : i + 1 < m) (h2 : pDg (sg ((i : Int) + 1)) = true) : cL sg m (i + 1) = pL sg i ++ List.replicate (sg ((i : Int) + 1) - 48).toNat (pTh (sg i)) := by
  have hc : ((i + 1 : Nat) : Int) = (i : Int) + 1 := by omega
  have hn : pTh (sg ((i + 1 : Nat) : Int)) < 0 := by
    rcases Int.lt_or_le (pTh (sg ((i + 1 : Nat) : Int))) 0 with h | h
    · exact h
    · have := pTh_dg h; rw [hc, h2] at this; cases this
  unfold cL
  rw [if_pos ⟨h1, by rw [pBh_s]; simpa using ht, by rw [hc]; exact h2⟩, pL_d hn, pL_last ht, pL_t ht, List.append_assoc]
  congr 1
  rw [hc]
  simp [pDg] at h2
  rw [show (sg ((i : Int) + 1) - 48).toNat = (sg ((i : Int) + 1) - 49).toNat + 1 by omega, List.replicate_succ]
  rfl
theorem l_X1_read {d : List Nat} {T : vT} {M : vM} {m : Nat} (hB : vB T) (hm : M 60 0 = m) (hle : m ≤ 40) (hno : pNo (M 61) m) : ∀ i, i ≤ m → ∀ f x3 x4 x5, rHas f (cL (M 61) m i) →
    vV m_X1_read d d (vPi fun r T1 M1 => r = ((pL (M 61) m).length : Nat) ∧ T = T1 ∧ ∃ f, M1 = vRow M 62 f ∧ rHas f (pL (M 61) m)) 4 [some (vR 60), some (vI ((cL (M 61) m i).length : Nat)), some (vI i), x3, x4, x5] [] d T (vRow M 62 f) := by
  have em : cL (M 61) m m = pL (M 61) m := by unfold cL; rw [if_neg (by omega)]
  refine vUp ?_
  intro i hi ih f x3 x4 x5 hf
  have e0 : vRow M 62 f 60 0 = m := by rw [vRow_n (by omega)]; exact hm
  have e1 : vRow M 62 f 61 = M 61 := vRow_n (by omega)
  have hlen := pL_len hno i hi
  refine vV.iload_n dX1_read_4 rfl ?_
  refine vV.aload_n dX1_read_5 rfl ?_
  refine vV.geti (z := 0) dX1_read_6 fl_X1_18 (by first | rfl | assumption) rfl rfl ?_
  refine vV.icmp_ge (tgt := 111) dX1_read_9 (by decide) (fun h9 => ?_) (fun h9 => ?_)
  · skip
    refine vV.iload_n dX1_read_111 rfl ?_
    refine vV.ri dX1_read_112 rfl ?_
    rw [show i = m by omega, em] at hf ⊢; exact ⟨rfl, rfl, f, rfl, hf⟩
  · skip
    refine vV.aload_n dX1_read_12 rfl ?_
    refine vV.getr dX1_read_13 fl_X1_11 (by first | rfl | assumption) rfl (by first | assumption | exact hB _ _ _ rfl) ?_
    refine vV.iload_n dX1_read_16 rfl ?_
    refine vV.iald dX1_read_17 (by first | rfl | assumption) (by omega) (by omega) ?_
    refine vV.cSi dX1_read_18 ml_X1_22 cw_X1_thingOf sw_X1_thingOf (by unfold vRoom; decide) c_X1_thingOf rfl rfl (Nat.le_of_ble_eq_true rfl) ?_
    rintro x18 _ _ hx18 ⟨rfl, rfl, rfl⟩
    rw [e1]
    refine vV.istore_n (L' := [_, _, _, _, _, _]) dX1_read_21 (by decide) rfl ?_
    refine vV.iload_n dX1_read_22 rfl ?_
    refine vV.if_ge (tgt := 29) dX1_read_23 (by decide) (fun h23 => ?_) (fun h23 => ?_)
    · skip
      have ht : 0 ≤ pTh (M 61 i) := h23
      rw [cL_t (by omega) ht] at hf ⊢
      refine vV.iload_n dX1_read_29 rfl ?_
      refine vV.iconst dX1_read_30 (by decide) ?_
      refine vV.iadd dX1_read_31 (⟨by omega, by omega⟩) ?_
      refine vV.aload_n dX1_read_32 rfl ?_
      refine vV.geti (z := 0) dX1_read_33 fl_X1_18 (by first | rfl | assumption) rfl rfl ?_
      refine vV.icmp_ge (tgt := 67) dX1_read_36 (by decide) (fun h36 => ?_) (fun h36 => ?_)
      · skip
        have hcl := cL_t1 (m := m) (show i < m by omega) ht (fun z => by omega)
        obtain ⟨t, ht1⟩ : ∃ t : Nat, t = 1 := ⟨1, rfl⟩
        have hcl : cL (M 61) m (i + 1) = pL (M 61) i ++ List.replicate t (pTh (M 61 i)) := by rw [ht1]; exact hcl
        have hnx : ∀ f, rHas f (pL (M 61) i ++ List.replicate t (pTh (M 61 i))) → vV m_X1_read d d (vPi fun r T1 M1 => r = ((pL (M 61) m).length : Nat) ∧ T = T1 ∧ ∃ f, M1 = vRow M 62 f ∧ rHas f (pL (M 61) m)) 105 [some (vR 60), some (vI (((pL (M 61) i).length + t : Nat) : Int)), some (vI i), some (vI (pTh (M 61 i))), some (vI t), some (vI t)] [] d T (vRow M 62 f) := by
          intro g hg
          refine vV.iinc (L' := [_, _, _, _, _, _]) dX1_read_105 (by decide) rfl (⟨by omega, by omega⟩) rfl ?_
          refine vV.goto (tgt := 4) dX1_read_108 (by decide) ?_
          have := ih (by omega) g (some (vI (pTh (M 61 i)))) (some (vI t)) (some (vI t)) (by rw [hcl]; exact hg)
          rw [hcl, List.length_append, List.length_replicate] at this
          exact this
        refine vV.iconst dX1_read_67 (by decide) ?_
        refine vV.istore (L' := [_, _, _, _, _, _]) dX1_read_68 (by decide) rfl ?_
        rw [show (1 : Int) = ((t : Nat) : Int) by omega]
        refine vV.iconst dX1_read_70 (by decide) ?_
        refine vV.istore (L' := [_, _, _, _, _, _]) dX1_read_71 (by decide) rfl ?_
        exact l_X1_read73 hB (by omega) (by omega) (by intro g hg; exact hnx g hg) 0 (by omega) f (by simpa using hf)
      · skip
        refine vV.aload_n dX1_read_39 rfl ?_
        refine vV.getr dX1_read_40 fl_X1_11 (by first | rfl | assumption) rfl (by first | assumption | exact hB _ _ _ rfl) ?_
        refine vV.iload_n dX1_read_43 rfl ?_
        refine vV.iconst dX1_read_44 (by decide) ?_
        refine vV.iadd dX1_read_45 (⟨by omega, by omega⟩) ?_
        refine vV.iald dX1_read_46 (by first | rfl | assumption) (by omega) (by omega) ?_
        refine vV.cSi dX1_read_47 ml_X1_26 cw_X1_isTimes sw_X1_isTimes (by unfold vRoom; decide) c_X1_isTimes rfl rfl (Nat.le_of_ble_eq_true rfl) ?_
        rintro x47 _ _ hx47 ⟨rfl, rfl, rfl⟩
        rw [e1]
        refine vV.if_eq (tgt := 67) dX1_read_50 (by decide) (fun h50 => ?_) (fun h50 => ?_)
        · skip
          have hdg : pDg (M 61 ((i : Int) + 1)) = false := by revert h50; cases pDg (M 61 ((i : Int) + 1)) <;> simp [bI]
          have hcl := cL_t1 (m := m) (show i < m by omega) ht (fun z => by rw [hdg] at z; exact absurd z.2 (by decide))
          obtain ⟨t, ht1⟩ : ∃ t : Nat, t = 1 := ⟨1, rfl⟩
          have hcl : cL (M 61) m (i + 1) = pL (M 61) i ++ List.replicate t (pTh (M 61 i)) := by rw [ht1]; exact hcl
          have hnx : ∀ f, rHas f (pL (M 61) i ++ List.replicate t (pTh (M 61 i))) → vV m_X1_read d d (vPi fun r T1 M1 => r = ((pL (M 61) m).length : Nat) ∧ T = T1 ∧ ∃ f, M1 = vRow M 62 f ∧ rHas f (pL (M 61) m)) 105 [some (vR 60), some (vI (((pL (M 61) i).length + t : Nat) : Int)), some (vI i), some (vI (pTh (M 61 i))), some (vI t), some (vI t)] [] d T (vRow M 62 f) := by
            intro g hg
            refine vV.iinc (L' := [_, _, _, _, _, _]) dX1_read_105 (by decide) rfl (⟨by omega, by omega⟩) rfl ?_
            refine vV.goto (tgt := 4) dX1_read_108 (by decide) ?_
            have := ih (by omega) g (some (vI (pTh (M 61 i)))) (some (vI t)) (some (vI t)) (by rw [hcl]; exact hg)
            rw [hcl, List.length_append, List.length_replicate] at this
            exact this
          refine vV.iconst dX1_read_67 (by decide) ?_
          refine vV.istore (L' := [_, _, _, _, _, _]) dX1_read_68 (by decide) rfl ?_
          rw [show (1 : Int) = ((t : Nat) : Int) by omega]
          refine vV.iconst dX1_read_70 (by decide) ?_
          refine vV.istore (L' := [_, _, _, _, _, _]) dX1_read_71 (by decide) rfl ?_
          exact l_X1_read73 hB (by omega) (by omega) (by intro g hg; exact hnx g hg) 0 (by omega) f (by simpa using hf)
        · skip
          have hdg : pDg (M 61 ((i : Int) + 1)) = true := by revert h50; cases pDg (M 61 ((i : Int) + 1)) <;> simp [bI]
          have hcl := cL_t2 (m := m) (show i < m by omega) ht (by omega) hdg
          have hd2 : 50 ≤ M 61 ((i : Int) + 1) ∧ M 61 ((i : Int) + 1) ≤ 57 := by simpa [pDg] using hdg
          obtain ⟨t, ht1⟩ : ∃ t : Nat, (t : Int) = M 61 ((i : Int) + 1) - 48 := ⟨(M 61 ((i : Int) + 1) - 48).toNat, by omega⟩
          rw [← ht1, Int.toNat_natCast] at hcl
          have hnx : ∀ f, rHas f (pL (M 61) i ++ List.replicate t (pTh (M 61 i))) → vV m_X1_read d d (vPi fun r T1 M1 => r = ((pL (M 61) m).length : Nat) ∧ T = T1 ∧ ∃ f, M1 = vRow M 62 f ∧ rHas f (pL (M 61) m)) 105 [some (vR 60), some (vI (((pL (M 61) i).length + t : Nat) : Int)), some (vI i), some (vI (pTh (M 61 i))), some (vI t), some (vI t)] [] d T (vRow M 62 f) := by
            intro g hg
            refine vV.iinc (L' := [_, _, _, _, _, _]) dX1_read_105 (by decide) rfl (⟨by omega, by omega⟩) rfl ?_
            refine vV.goto (tgt := 4) dX1_read_108 (by decide) ?_
            have := ih (by omega) g (some (vI (pTh (M 61 i)))) (some (vI t)) (some (vI t)) (by rw [hcl]; exact hg)
            rw [hcl, List.length_append, List.length_replicate] at this
            exact this
          refine vV.aload_n dX1_read_53 rfl ?_
          refine vV.getr dX1_read_54 fl_X1_11 (by first | rfl | assumption) rfl (by first | assumption | exact hB _ _ _ rfl) ?_
          refine vV.iload_n dX1_read_57 rfl ?_
          refine vV.iconst dX1_read_58 (by decide) ?_
          refine vV.iadd dX1_read_59 (⟨by omega, by omega⟩) ?_
          refine vV.iald dX1_read_60 (by first | rfl | assumption) (by omega) (by omega) ?_
          rw [e1]
          refine vV.bipush (v := 48) dX1_read_61 (by decide) (by decide) ?_
          refine vV.isub dX1_read_63 (⟨by omega, by omega⟩) ?_
          rw [← ht1]
          refine vV.goto (tgt := 68) dX1_read_64 (by decide) ?_
          refine vV.istore (L' := [_, _, _, _, _, _]) dX1_read_68 (by decide) rfl ?_
          refine vV.iconst dX1_read_70 (by decide) ?_
          refine vV.istore (L' := [_, _, _, _, _, _]) dX1_read_71 (by decide) rfl ?_
          exact l_X1_read73 hB (by omega) (by omega) (by intro g hg; exact hnx g hg) 0 (by omega) f (by simpa using hf)
    · skip
      refine vV.goto (tgt := 105) dX1_read_26 (by decide) ?_
      obtain ⟨c1, c2⟩ := cL_d hno (show i < m by omega) (by omega)
      refine vV.iinc (L' := [_, _, _, _, _, _]) dX1_read_105 (by decide) rfl (⟨by omega, by omega⟩) rfl ?_
      refine vV.goto (tgt := 4) dX1_read_108 (by decide) ?_
      rw [c1] at hf ⊢
      have := ih (by omega) f (some (vI (pTh (M 61 i)))) x4 x5 (by rw [c2]; exact hf)
      rw [c2] at this
      exact this
    skip
/-- Pad.read -/
theorem c_X1_read {d : List Nat} {T : vT} {M : vM} {m : Nat} (hB : vB T) (hm : M 60 0 = m) (hle : m ≤ 40) (hno : pNo (M 61) m) : vCon m_X1_read d d [vR 60] T M (vPi fun r T1 M1 => r = ((pL (M 61) m).length : Nat) ∧ T = T1 ∧ ∃ f, M1 = vRow M 62 f ∧ rHas f (pL (M 61) m)) := by
  refine vCon.of (by decide) rfl rfl (Nat.le_of_ble_eq_true rfl) ?_
  have e : cL (M 61) m 0 = [] := by unfold cL; rw [if_neg]; rfl; rintro ⟨-, b, -⟩; simp [pBh] at b
  have h := fun x3 x4 x5 => l_X1_read (d := d) hB hm hle hno 0 (by omega) (M 62) x3 x4 x5 (by rw [e]; exact rHas_nil _)
  rw [vRow_id, e] at h
  refine vV.iconst dX1_read_0 (by decide) ?_
  refine vV.istore_n (L' := [_, _, _, _, _, _]) dX1_read_1 (by decide) rfl ?_
  refine vV.iconst dX1_read_2 (by decide) ?_
  refine vV.istore_n (L' := [_, _, _, _, _, _]) dX1_read_3 (by decide) rfl ?_
  exact h _ _ _
