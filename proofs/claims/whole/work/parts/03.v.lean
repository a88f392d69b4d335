/-! ===== own: the abstract machine V over the kit's W ===== -/
def vTb : List Cond := lw_tbl.filter goodWord
theorem vTb_in {w : Cond} (h : w ∈ lw_tbl) (hg : goodWord w = true) : w ∈ vTb := List.mem_filter.mpr ⟨h, hg⟩
theorem vTb_t {w : Cond} (i : Nat) (h : tables_1[i]? = some w) (hg : goodWord w = true) : w ∈ vTb := vTb_in (List.mem_append_right _ (List.mem_of_getElem? h)) hg
theorem vTb_p {q : MethodName × Nat} (i : Nat) (h : lw_privs[i]? = some q) : Cond.selects q.1.cls q.1 q.1 ∈ vTb :=
  vTb_in (List.mem_append_left _ (List.mem_map.mpr ⟨q, List.mem_of_getElem? h, rfl⟩)) rfl
def vWs (y : MethodName) (cc : ByteArray) (n : Nat) (ret : Option FieldType) : List Cond := Cond.code y cc n ret :: vTb
theorem vGood {y : MethodName} {cc : ByteArray} {n : Nat} {ret : Option FieldType} (h : Cond.code y cc n ret ∈ vTb) {Ts : List Cond} (hT : ∀ w ∈ vTb, w ∈ Ts) : GoodIn Ts (vWs y cc n ret) := by
  intro w hw
  have hw' : w ∈ vTb := by
    rcases List.mem_cons.mp hw with rfl | h2
    · exact h
    · exact h2
  exact ⟨hT w hw', good_of_word (List.mem_filter.mp hw').2⟩
-- abstract values
abbrev vA : Type := Int ⊕ (Option Nat ⊕ Int)
abbrev vI (x : Int) : vA := Sum.inl x
abbrev vR (k : Nat) : vA := Sum.inr (Sum.inl (some k))
abbrev vRo (r : Option Nat) : vA := Sum.inr (Sum.inl r)
abbrev vL (x : Int) : vA := Sum.inr (Sum.inr x)
abbrev vT : Type := Nat → Nat → Option Nat
abbrev vM : Type := Nat → Int → Int
abbrev vIn (x : Int) : Prop := -2147483648 ≤ x ∧ x < 2147483648
def vc (ρ : Nat → Nat) : vA → Value
  | .inl x => .int (Int32.ofInt x)
  | .inr (.inl r) => va_rf (r.map ρ)
  | .inr (.inr x) => .long (Int64.ofInt x)
def vOk (d : List Nat) : vA → Prop
  | .inl x => vIn x
  | .inr (.inl r) => ∀ k, r = some k → k ∈ d
  | .inr (.inr x) => vIn x
def vLg : vA → Bool
  | .inr (.inr _) => true
  | _ => false
def vCat (v : vA) : Nat := if vLg v then 2 else 1
theorem vc_cat (ρ : Nat → Nat) (v : vA) : (vc ρ v).category = vCat v := by
  rcases v with x | r | x
  · rfl
  · cases r <;> rfl
  · rfl
theorem vc_mono {ρ ρ' : Nat → Nat} {d : List Nat} (h : ∀ k ∈ d, ρ' k = ρ k) {v : vA} (hv : vOk d v) : vc ρ' v = vc ρ v := by
  rcases v with x | r | x
  · rfl
  · cases r with
    | none => rfl
    | some k => show va_rf (some (ρ' k)) = va_rf (some (ρ k)); rw [h k (hv k rfl)]
  · rfl
theorem vc_monoL {ρ ρ' : Nat → Nat} {d : List Nat} (h : ∀ k ∈ d, ρ' k = ρ k) {S : List vA} (hv : ∀ v ∈ S, vOk d v) : S.map (vc ρ') = S.map (vc ρ) :=
  List.map_congr_left fun v hm => vc_mono h (hv v hm)
theorem vOk_mono {d d' : List Nat} (h : ∀ k ∈ d, k ∈ d') {v : vA} (hv : vOk d v) : vOk d' v := by
  rcases v with x | r | x
  · exact hv
  · exact fun k hk => h k (hv k hk)
  · exact hv
-- locals
def vl (ρ : Nat → Nat) (L : List (Option vA)) : List (Nat × Value) := (List.range L.length).filterMap fun i => match L[i]? with
  | some (some v) => some (i, vc ρ v)
  | _ => none
theorem vl_mem {ρ : Nat → Nat} {L : List (Option vA)} {q : Nat × Value} : q ∈ vl ρ L ↔ ∃ v, L[q.1]? = some (some v) ∧ q.2 = vc ρ v := by
  constructor
  · intro h
    obtain ⟨i, -, hi⟩ := List.mem_filterMap.mp h
    split at hi
    · rename_i v hv
      cases hi
      exact ⟨v, hv, rfl⟩
    · cases hi
  · rintro ⟨v, h1, h2⟩
    refine List.mem_filterMap.mpr ⟨q.1, List.mem_range.mpr (List.getElem?_eq_some_iff.mp h1).1, ?_⟩
    rw [h1]
    show some (q.1, vc ρ v) = some q
    rw [← h2]
def vLok (d : List Nat) (L : List (Option vA)) : Prop := ∀ (i : Nat) (v : vA), L[i]? = some (some v) → vOk d v ∧ vLg v = false
theorem vl_at {ls : Array Slot} {n : Nat} {ρ : Nat → Nat} {L : List (Option vA)} (h : lv_has ls n (vl ρ L)) {i : Nat} {v : vA} (hi : L[i]? = some (some v)) : ls[i]? = some (.val (vc ρ v)) :=
  h.2.2 (i, vc ρ v) (vl_mem.mpr ⟨v, hi, rfl⟩)
theorem vl_set {ls : Array Slot} {n : Nat} {ρ : Nat → Nat} {L : List (Option vA)} {d : List Nat} (hL : vLok d L) {i : Nat} {v : vA} (h : lv_has ls n ((i, vc ρ v) :: (vl ρ L).filter (fun q => !(q.1 == i) && !(q.1 + 1 == i && q.2.category == 2)))) : lv_has ls n (vl ρ (L.set i (some v))) := by
  refine ⟨h.1, h.2.1, fun q hq => h.2.2 q ?_⟩
  obtain ⟨w, h1, h2⟩ := vl_mem.mp hq
  by_cases hi : q.1 = i
  · have hlt : i < L.length := by
      have := (List.getElem?_eq_some_iff.mp h1).1
      rw [List.length_set] at this
      omega
    rw [hi, List.getElem?_set_self hlt] at h1
    cases h1
    refine List.mem_cons.mpr (Or.inl ?_)
    rw [← hi, ← h2]
  · rw [List.getElem?_set_ne (fun z => hi z.symm)] at h1
    refine List.mem_cons.mpr (Or.inr (List.mem_filter.mpr ⟨vl_mem.mpr ⟨w, h1, h2⟩, ?_⟩))
    have hc : q.2.category = 1 := by rw [h2, vc_cat]; simp [vCat, (hL _ _ h1).2]
    simp [hi, hc]
theorem vLok_set {d : List Nat} {L : List (Option vA)} (hL : vLok d L) {i : Nat} {v : vA} (hv : vOk d v) (hl : vLg v = false) : vLok d (L.set i (some v)) := by
  intro j w hj
  by_cases hi : i = j
  · subst hi
    have hlt : i < L.length := by
      have := (List.getElem?_eq_some_iff.mp hj).1
      rwa [List.length_set] at this
    rw [List.getElem?_set_self hlt] at hj
    cases hj
    exact ⟨hv, hl⟩
  · rw [List.getElem?_set_ne hi] at hj
    exact hL j w hj
theorem vl_monoL {ρ ρ' : Nat → Nat} {d : List Nat} (h : ∀ k ∈ d, ρ' k = ρ k) {L : List (Option vA)} (hL : vLok d L) {ls : Array Slot} {n : Nat} (hh : lv_has ls n (vl ρ L)) : lv_has ls n (vl ρ' L) := by
  refine ⟨hh.1, hh.2.1, fun q hq => ?_⟩
  obtain ⟨w, h1, h2⟩ := vl_mem.mp hq
  rw [h2, vc_mono h (hL _ _ h1).1]
  exact vl_at hh h1
theorem vLok_mono {d d' : List Nat} (h : ∀ k ∈ d, k ∈ d') {L : List (Option vA)} (hL : vLok d L) : vLok d' L := fun i v hi => ⟨vOk_mono h (hL i v hi).1, (hL i v hi).2⟩
-- the cells
abbrev vCl : List vw_C := [(RX0, TX0, 9), (RX1, TX1, 3), (RX2, TX2, 2), (RX3, TX3, 6), (RX4, TX4, 4), (RX5, TX5, 8), (RX6, TX6, 8), (RX7, TX7, 40)]
def vNf (ci : Nat) : Nat := match ci with
  | 0 => 9 | 1 => 3 | 2 => 2 | 3 => 6 | 4 => 4 | 5 => 8 | 6 => 8 | 7 => 40 | _ => 0
def vTy (ci k : Nat) : FieldType := match ci with
  | 0 => tyX0 k | 1 => tyX1 k | 2 => tyX2 k | 3 => tyX3 k | 4 => tyX4 k | 5 => tyX5 k | 6 => tyX6 k | _ => tyX7 k
def vKt : List (Nat × Nat × Nat) := [(0,0,6),(1,3,2),(10,0,3),(11,1,6),(12,1,6),(13,1,6),(14,1,6),(15,1,5),(20,0,3),(21,1,6),(22,1,6),(23,1,6),(24,1,6),(25,1,5),(30,0,3),(31,1,6),(32,1,6),(33,1,6),(34,1,6),(35,1,5),
  (40,0,3),(41,1,6),(42,1,6),(43,1,6),(44,1,6),(45,1,5),(50,0,3),(51,1,6),(52,1,6),(53,1,6),(54,1,6),(55,1,5),(60,0,1),(61,1,40),(62,1,180),(70,0,5),(76,1,601),(77,1,601),(80,0,4),(81,1,6),(82,1,6),(83,1,6),(90,0,2),(91,1,6),(92,1,6),
  (100,0,0),(102,1,3),(103,1,3),(104,1,8),(106,1,32768),(107,1,32768),(108,1,32768),(200,0,7),(201,1,6),(202,1,6),(203,1,6),(204,1,6),(211,1,6),(212,1,6),(218,1,601),(219,1,601),(220,1,40),(222,1,400),(226,1,6),(227,1,6),(228,1,6),(229,1,3),
  (231,1,32768),(233,1,32768),(234,1,32768),(235,1,65536),(236,1,6),(237,1,80),(238,2,2)]
def vKK (k : Nat) : Nat × Nat := (vKt.lookup k).getD (9, 0)
def vSl (k : Nat) : Nat := match vKK k with
  | (0, ci) => vNf ci
  | (_, n) => n
def vSz (d : List Nat) : Nat := (d.map vSl).sum
def vFv (ρ : Nat → Nat) (T : vT) (M : vM) (k ci j : Nat) : Value := match vTy ci j with
  | .int => .int (Int32.ofInt (M k j))
  | .boolean => .int (Int32.ofInt (M k j))
  | _ => va_rf ((T k j).map ρ)
abbrev vQc : Type := ClassId × ClassId × ClassId
def vCe (q : vQc) (ρ : Nat → Nat) (T : vT) (M : vM) (k : Nat) : va_E := match vKK k with
  | (0, ci) => .inr (ci, (List.range (vNf ci)).map (vFv ρ T M k ci))
  | (1, n) => .inl (q.1, n, .inl (fun j => Int32.ofInt (M k j)))
  | (2, n) => .inl (q.2.1, n, .inl (fun j => Int32.ofInt (M k j)))
  | (_, n) => .inl (q.2.2, n, .inr (.inr (.inr (.inr (fun j => (T k j).map ρ)))))
def vW (q : vQc) (ρ : Nat → Nat) (d : List Nat) (T : vT) (M : vM) : va_W := d.map fun k => (ρ k, vCe q ρ T M k)
theorem vCe_o {q : vQc} {ρ : Nat → Nat} {T : vT} {M : vM} {k ci : Nat} (h : vKK k = (0, ci)) : vCe q ρ T M k = .inr (ci, (List.range (vNf ci)).map (vFv ρ T M k ci)) := by simp only [vCe, h]
theorem vCe_i {q : vQc} {ρ : Nat → Nat} {T : vT} {M : vM} {k n : Nat} (h : vKK k = (1, n)) : vCe q ρ T M k = .inl (q.1, n, .inl (fun j => Int32.ofInt (M k j))) := by simp only [vCe, h]
theorem vCe_z {q : vQc} {ρ : Nat → Nat} {T : vT} {M : vM} {k n : Nat} (h : vKK k = (2, n)) : vCe q ρ T M k = .inl (q.2.1, n, .inl (fun j => Int32.ofInt (M k j))) := by simp only [vCe, h]
theorem vCe_r {q : vQc} {ρ : Nat → Nat} {T : vT} {M : vM} {k n : Nat} (h : vKK k = (3, n)) : vCe q ρ T M k = .inl (q.2.2, n, .inr (.inr (.inr (.inr (fun j => (T k j).map ρ))))) := by simp only [vCe, h]
theorem vW_at {q : vQc} {ρ : Nat → Nat} {d : List Nat} {T : vT} {M : vM} {k : Nat} (h : k ∈ d) : ∃ i : Nat, d[i]? = some k ∧ (vW q ρ d T M)[i]? = some (ρ k, vCe q ρ T M k) := by
  obtain ⟨i, hi⟩ := List.getElem?_of_mem h
  exact ⟨i, hi, by simp [vW, hi]⟩
/-- the places of the world are apart: so are the names -/
theorem vW_nd {q : vQc} {ρ : Nat → Nat} {d : List Nat} {T : vT} {M : vM} {A : Nat → Prop} (hD : va_D A (vW q ρ d T M)) {i j k : Nat} (hi : d[i]? = some k) (hj : d[j]? = some k) : i = j :=
  hD.1 i j (ρ k, vCe q ρ T M k) (ρ k, vCe q ρ T M k) (by simp [vW, hi]) (by simp [vW, hj]) rfl
/-- one cell changes: the world with the new numbers -/
theorem vW_set {q : vQc} {ρ : Nat → Nat} {d : List Nat} {T T' : vT} {M M' : vM} {A : Nat → Prop} (hD : va_D A (vW q ρ d T M)) {i k : Nat} {e : va_E} (hi : d[i]? = some k) (he : vCe q ρ T' M' k = e) (ho : ∀ k', k' ≠ k → vCe q ρ T' M' k' = vCe q ρ T M k') :
    (vW q ρ d T M).set i (ρ k, e) = vW q ρ d T' M' := by
  apply List.ext_getElem?
  intro j
  by_cases hj : i = j
  · subst hj
    have hl : i < (vW q ρ d T M).length := by simp only [vW, List.length_map]; exact (List.getElem?_eq_some_iff.mp hi).1
    rw [List.getElem?_set_self hl]
    simp [vW, hi, he]
  · rw [List.getElem?_set_ne hj]
    simp only [vW, List.getElem?_map]
    cases hk : d[j]? with
    | none => rfl
    | some k' =>
      have hne : k' ≠ k := fun z => hj (vW_nd hD hi (z ▸ hk))
      simp [ho k' hne]
def vUpd (M : vM) (k : Nat) (i x : Int) : vM := fun a j => if a = k ∧ j = i then x else M a j
def vUpT (T : vT) (k i : Nat) (r : Option Nat) : vT := fun a j => if a = k ∧ j = i then r else T a j
theorem vUpd_in {M : vM} {k : Nat} {i x : Int} (hM : ∀ a j, vIn (M a j)) (hx : vIn x) : ∀ a j, vIn (vUpd M k i x a j) := by
  intro a j
  unfold vUpd
  split
  · exact hx
  · exact hM a j
theorem vUpd_row {M : vM} {k k' : Nat} {i x : Int} (h : k' ≠ k) : vUpd M k i x k' = M k' := by
  funext j; simp [vUpd, h]
theorem vUpT_row {T : vT} {k k' i : Nat} {r : Option Nat} (h : k' ≠ k) : vUpT T k i r k' = T k' := by
  funext j; simp [vUpT, h]
theorem vFv_row {ρ : Nat → Nat} {T T' : vT} {M M' : vM} {k ci : Nat} (hM : M' k = M k) (hT : T' k = T k) : vFv ρ T' M' k ci = vFv ρ T M k ci := by
  funext j; unfold vFv; rw [hM, hT]
theorem vCe_row {q : vQc} {ρ : Nat → Nat} {T T' : vT} {M M' : vM} {k : Nat} (hM : M' k = M k) (hT : T' k = T k) : vCe q ρ T' M' k = vCe q ρ T M k := by
  unfold vCe
  split
  · rw [vFv_row hM hT]
  · rw [hM]
  · rw [hM]
  · rw [hT]
theorem vCe_mono {q : vQc} {ρ ρ' : Nat → Nat} {T : vT} {M : vM} {d : List Nat} (h : ∀ k ∈ d, ρ' k = ρ k) (hT : ∀ k j v, T k j = some v → v ∈ d) (k : Nat) : vCe q ρ' T M k = vCe q ρ T M k := by
  have hm : ∀ j, (T k j).map ρ' = (T k j).map ρ := by
    intro j
    cases hz : T k j with
    | none => rfl
    | some v => show some (ρ' v) = some (ρ v); rw [h v (hT k j v hz)]
  unfold vCe
  split
  · have : vFv ρ' T M k = vFv ρ T M k := by
      funext ci j; unfold vFv; rw [hm]
    rw [this]
  · rfl
  · rfl
  · simp only [hm]
theorem vW_mono {q : vQc} {ρ ρ' : Nat → Nat} {T : vT} {M : vM} {d d' : List Nat} (h : ∀ k ∈ d, ρ' k = ρ k) (hT : ∀ k j v, T k j = some v → v ∈ d) (hd : ∀ k ∈ d', k ∈ d) : vW q ρ' d' T M = vW q ρ d' T M := by
  unfold vW
  refine List.map_congr_left fun k hk => ?_
  rw [h k (hd k hk), vCe_mono h hT]
