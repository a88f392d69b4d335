/-! ===== own: V over the heap ===== -/
theorem vTb_all {ws : List Cond} (ps : List Nat) (h : ws.map some = ps.map (fun i => tables_1[i]?)) (hg : ws.all goodWord = true) : ∀ w ∈ ws, w ∈ vTb := by
  intro w hw
  have h1 : some w ∈ ws.map some := List.mem_map.mpr ⟨w, hw, rfl⟩
  rw [h] at h1
  obtain ⟨i, -, hi⟩ := List.mem_map.mp h1
  exact vTb_t i hi (List.all_eq_true.mp hg w hw)
/-- what the tables say of our classes -/
def vClOk (ci : Nat) (C : String) (T : u_T) (N : Nat) : Prop := N = vNf ci ∧ (∀ w ∈ u_ws C T N, w ∈ vTb) ∧ (∀ k, k < N → parseFieldDescriptor (T k).2.2.1 = some (vTy ci k)) ∧ (∀ a, a < N → ∀ b, b < N → a ≠ b → (T a).2.1 ≠ (T b).2.1) ∧ Cond.instantiable C N ∈ vTb ∧ Cond.initialized C ∈ vTb ∧ ∀ k, k < N → (T k).1 = C
theorem vClOk_0 : vClOk 0 RX0 TX0 9 := ⟨rfl, vTb_all [186, 188, 190, 192, 194, 196, 198, 200, 202] (by decide +kernel) (by decide +kernel), tyX0_ok, nmX0, vTb_t 172 (by decide +kernel) (by decide +kernel), vTb_t 7 (by decide +kernel) (by decide +kernel), by decide +kernel⟩
theorem vClOk_1 : vClOk 1 RX1 TX1 3 := ⟨rfl, vTb_all [93, 95, 97] (by decide +kernel) (by decide +kernel), tyX1_ok, nmX1, vTb_t 83 (by decide +kernel) (by decide +kernel), vTb_t 3 (by decide +kernel) (by decide +kernel), by decide +kernel⟩
theorem vClOk_2 : vClOk 2 RX2 TX2 2 := ⟨rfl, vTb_all [166, 168] (by decide +kernel) (by decide +kernel), tyX2_ok, nmX2, vTb_t 159 (by decide +kernel) (by decide +kernel), vTb_t 6 (by decide +kernel) (by decide +kernel), by decide +kernel⟩
theorem vClOk_3 : vClOk 3 RX3 TX3 6 := ⟨rfl, vTb_all [67, 69, 71, 73, 75, 77] (by decide +kernel) (by decide +kernel), tyX3_ok, nmX3, vTb_t 22 (by decide +kernel) (by decide +kernel), vTb_t 2 (by decide +kernel) (by decide +kernel), by decide +kernel⟩
theorem vClOk_4 : vClOk 4 RX4 TX4 4 := ⟨rfl, vTb_all [149, 151, 153, 155] (by decide +kernel) (by decide +kernel), tyX4_ok, nmX4, vTb_t 138 (by decide +kernel) (by decide +kernel), vTb_t 5 (by decide +kernel) (by decide +kernel), by decide +kernel⟩
theorem vClOk_5 : vClOk 5 RX5 TX5 8 := ⟨rfl, vTb_all [120, 122, 124, 126, 128, 130, 132, 134] (by decide +kernel) (by decide +kernel), tyX5_ok, nmX5, vTb_t 101 (by decide +kernel) (by decide +kernel), vTb_t 4 (by decide +kernel) (by decide +kernel), by decide +kernel⟩
theorem vClOk_6 : vClOk 6 RX6 TX6 8 := ⟨rfl, vTb_all [213, 215, 217, 219, 221, 223, 225, 227] (by decide +kernel) (by decide +kernel), tyX6_ok, nmX6, vTb_t 14 (by decide +kernel) (by decide +kernel), vTb_t 1 (by decide +kernel) (by decide +kernel), by decide +kernel⟩
theorem vClOk_7 : vClOk 7 RX7 TX7 40 := ⟨rfl, vTb_all [698, 700, 702, 704, 706, 708, 710, 712, 714, 716, 718, 720, 722, 724, 726, 728, 730, 732, 734, 736, 738, 740, 742, 744, 746, 748, 750, 752, 754, 756, 758, 760, 762, 764, 766, 768, 770, 772, 774, 776] (by decide +kernel) (by decide +kernel), tyX7_ok, nmX7, vTb_t 651 (by decide +kernel) (by decide +kernel), vTb_t 8 (by decide +kernel) (by decide +kernel), by decide +kernel⟩
theorem vCl_ok {ci : Nat} {C : String} {T : u_T} {N : Nat} (h : vCl[ci]? = some (C, T, N)) : vClOk ci C T N := by
  match ci, h with
  | 0, h => cases h; exact vClOk_0
  | 1, h => cases h; exact vClOk_1
  | 2, h => cases h; exact vClOk_2
  | 3, h => cases h; exact vClOk_3
  | 4, h => cases h; exact vClOk_4
  | 5, h => cases h; exact vClOk_5
  | 6, h => cases h; exact vClOk_6
  | 7, h => cases h; exact vClOk_7
  | n + 8, h => simp [vCl] at h
/-- the entry idx of the class own names field k of class ci; fin: a final field -/
def vFl (own : String) (idx ci k : Nat) (fin : Bool) : Prop := ∃ (C : String) (T : u_T) (N : Nat), vCl[ci]? = some (C, T, N) ∧ k < N ∧ Cond.fieldLink own idx C (T k).2.1 (T k).2.2.1 ∈ vTb ∧ (T k).2.2.2 = fin
theorem vRange_at {α : Type} (f : Nat → α) {n j : Nat} (h : j < n) : ((List.range n).map f)[j]? = some (f j) := by simp [h]
theorem vRange_set {α : Type} {f f' : Nat → α} {n j : Nat} {v : α} (ho : ∀ i, i ≠ j → f' i = f i) (hj : f' j = v) (hn : j < n) : ((List.range n).map f).set j v = (List.range n).map f' := by
  apply List.ext_getElem?
  intro i
  by_cases hi : j = i
  · subst hi
    rw [List.getElem?_set_self (by simpa using hn)]
    simp [hn, hj]
  · rw [List.getElem?_set_ne hi]
    by_cases hl : i < n
    · rw [vRange_at f hl, vRange_at f' hl, ho i (fun z => hi z.symm)]
    · simp [hl]
theorem i32_ix {i : Int} {n : Nat} (h0 : 0 ≤ i) (h1 : i < n) (hn : vIn i) : vp_in (Int32.ofInt i) n ∧ (Int32.ofInt i).toNatClampNeg = i.toNat ∧ ((i.toNat : Nat) : Int) = i := by
  have hr := i32_in hn
  refine ⟨vp_in_iff.mpr ⟨by rw [hr]; exact h0, by rw [hr]; exact h1⟩, ?_, by omega⟩
  show (Int32.ofInt i).toInt.toNat = i.toNat
  rw [hr]
section VH
variable {mt : vMt} {d0 dF : List Nat} {Q : Option vA → vT → vM → Prop} {pc : Nat} {L : List (Option vA)} {S : List vA} {d : List Nat} {T : vT} {M : vM}
theorem vV.geti {idx ci j k : Nat} {fin : Bool} {z : Int} (hd : decode mt.2.1 pc = .ok (.getfield idx, 3)) (hf : vFl mt.1.cls idx ci j fin) (hk : vKK k = (0, ci)) (ht : vTy ci j = .int) (hz : (j : Int) = z) (kk : vV mt d0 dF Q (pc + 3) L (vI (M k z) :: S) d T M) : vV mt d0 dF Q pc L (vR k :: S) d T M := by
  intro l p e s m args below meth c D q A ρ0 ρ H locs ls hX hS hl hL hs hn
  obtain ⟨hx, hb, hml, ho, htb, hr, hlk, hnm, hK, hA, hst⟩ := id hX
  obtain ⟨hP, hD, hSS, hN, h0⟩ := id hS
  obtain ⟨C, TT, N, hc, hj, hw, -⟩ := hf
  obtain ⟨e1, e2, e3, e4, e5, e6, e7⟩ := vCl_ok hc
  obtain ⟨i, hi, hwi⟩ := vW_at (q := q) (ρ := ρ) (T := T) (M := M) (vOk_h hs k rfl)
  rw [vCe_o hk] at hwi
  subst hz
  refine va_get hx hb htb e2 ho hK hP i hwi hc j hj (htb _ hw) (fun x hx => by rw [e7 j hj] at hx; exact hx) (v := .int (Int32.ofInt (M k j))) ?_ hd (kk l p e s m args below meth c D q A ρ0 ρ H locs ls hX hS hl hL (vOk_c (v := vI (M k j)) (hN.1 k j) (vOk_t hs)) hn)
  rw [← e1, vRange_at _ hj]
  unfold vFv; rw [ht]
theorem vV.getz {idx ci j k : Nat} {fin : Bool} {z : Int} (hd : decode mt.2.1 pc = .ok (.getfield idx, 3)) (hf : vFl mt.1.cls idx ci j fin) (hk : vKK k = (0, ci)) (ht : vTy ci j = .boolean) (hz : (j : Int) = z) (kk : vV mt d0 dF Q (pc + 3) L (vI (M k z) :: S) d T M) : vV mt d0 dF Q pc L (vR k :: S) d T M := by
  intro l p e s m args below meth c D q A ρ0 ρ H locs ls hX hS hl hL hs hn
  obtain ⟨hx, hb, hml, ho, htb, hr, hlk, hnm, hK, hA, hst⟩ := id hX
  obtain ⟨hP, hD, hSS, hN, h0⟩ := id hS
  obtain ⟨C, TT, N, hc, hj, hw, -⟩ := hf
  obtain ⟨e1, e2, e3, e4, e5, e6, e7⟩ := vCl_ok hc
  obtain ⟨i, hi, hwi⟩ := vW_at (q := q) (ρ := ρ) (T := T) (M := M) (vOk_h hs k rfl)
  rw [vCe_o hk] at hwi
  subst hz
  refine va_get hx hb htb e2 ho hK hP i hwi hc j hj (htb _ hw) (fun x hx => by rw [e7 j hj] at hx; exact hx) (v := .int (Int32.ofInt (M k j))) ?_ hd (kk l p e s m args below meth c D q A ρ0 ρ H locs ls hX hS hl hL (vOk_c (v := vI (M k j)) (hN.1 k j) (vOk_t hs)) hn)
  rw [← e1, vRange_at _ hj]
  unfold vFv; rw [ht]
def vIsR : FieldType → Bool
  | .object _ => true
  | .array _ => true
  | _ => false
theorem vFv_r {ρ : Nat → Nat} {k ci j : Nat} (h : vIsR (vTy ci j) = true) : vFv ρ T M k ci j = va_rf ((T k j).map ρ) := by
  unfold vFv
  cases hz : vTy ci j <;> rw [hz] at h <;> first | rfl | cases h
theorem vV.getr {idx ci j k : Nat} {fin : Bool} {r : Option Nat} (hd : decode mt.2.1 pc = .ok (.getfield idx, 3)) (hf : vFl mt.1.cls idx ci j fin) (hk : vKK k = (0, ci)) (ht : vIsR (vTy ci j) = true) (hr : T k j = r) (kk : vV mt d0 dF Q (pc + 3) L (vRo r :: S) d T M) : vV mt d0 dF Q pc L (vR k :: S) d T M := by
  intro l p e s m args below meth c D q A ρ0 ρ H locs ls hX hS hl hL hs hn
  obtain ⟨hx, hb, hml, ho, htb, hrt, hlk, hnm, hK, hA, hst⟩ := id hX
  obtain ⟨hP, hD, hSS, hN, h0⟩ := id hS
  obtain ⟨C, TT, N, hc, hj, hw, -⟩ := hf
  obtain ⟨e1, e2, e3, e4, e5, e6, e7⟩ := vCl_ok hc
  obtain ⟨i, hi, hwi⟩ := vW_at (q := q) (ρ := ρ) (T := T) (M := M) (vOk_h hs k rfl)
  rw [vCe_o hk] at hwi
  subst hr
  refine va_get hx hb htb e2 ho hK hP i hwi hc j hj (htb _ hw) (fun x hx => by rw [e7 j hj] at hx; exact hx) (v := va_rf ((T k j).map ρ)) ?_ hd (kk l p e s m args below meth c D q A ρ0 ρ H locs ls hX hS hl hL (vOk_c (v := vRo (T k j)) (fun v hv => hN.2 k j v hv) (vOk_t hs)) hn)
  rw [← e1, vRange_at _ hj, vFv_r ht]
theorem vN_upd {k : Nat} {z x : Int} (h : vN d T M) (hx : vIn x) : vN d T (vUpd M k z x) := ⟨vUpd_in h.1 hx, h.2⟩
theorem vV.puti {idx ci j k : Nat} {z x : Int} (hd : decode mt.2.1 pc = .ok (.putfield idx, 3)) (hf : vFl mt.1.cls idx ci j false) (hk : vKK k = (0, ci)) (ht : vTy ci j = .int) (hz : (j : Int) = z) (kk : vV mt d0 dF Q (pc + 3) L S d T (vUpd M k z x)) : vV mt d0 dF Q pc L (vI x :: vR k :: S) d T M := by
  intro l p e s m args below meth c D q A ρ0 ρ H locs ls hX hS hl hL hs hn
  obtain ⟨hx, hb, hml, ho, htb, hr, hlk, hnm, hK, hA, hst⟩ := id hX
  obtain ⟨hP, hD, hSS, hN, h0⟩ := id hS
  obtain ⟨C, TT, N, hc, hj, hw, hfin⟩ := hf
  obtain ⟨e1, e2, e3, e4, e5, e6, e7⟩ := vCl_ok hc
  obtain ⟨i, hi, hwi⟩ := vW_at (q := q) (ρ := ρ) (T := T) (M := M) (vOk_h (vOk_t hs) k rfl)
  rw [vCe_o hk] at hwi
  subst hz
  have hset : (vW q ρ d T M).set i (ρ k, .inr (ci, ((List.range (vNf ci)).map (vFv ρ T M k ci)).set j (.int (Int32.ofInt x)))) = vW q ρ d T (vUpd M k j x) := by
    refine vW_set hD hi ?_ (fun k' hne => vCe_row (vUpd_row hne) rfl)
    have hh := vRange_set (f := vFv ρ T M k ci) (f' := vFv ρ T (vUpd M k j x) k ci) (n := vNf ci) (j := j) (v := .int (Int32.ofInt x)) (fun i' hi' => by
      unfold vFv
      have : vUpd M k j x k i' = M k i' := by unfold vUpd; rw [if_neg]; rintro ⟨-, z⟩; omega
      rw [this]) (by unfold vFv; rw [ht]; simp [vUpd]) (by rw [← e1]; exact hj)
    rw [vCe_o hk, hh]
  refine va_put hx hb htb e2 (vTy ci) e3 e4 ho hK hP hD hSS i hwi hc j hj (htb _ hw) (fun x hx => by rw [e7 j hj] at hx; exact hx) hfin (e3 j hj) (by rw [ht]; rfl) (by rw [ht]; rfl) (by simp; rw [← e1]; exact hj) hd fun H1 locs1 a1 a2 a3 => ?_
  have a1 : va_P D vCl (vW q ρ d T (vUpd M k j x)) H1 := by rw [← hset]; exact a1
  have a2 : va_D A (vW q ρ d T (vUpd M k j x)) := by rw [← hset]; exact a2
  exact kk l p e s m args below meth c D q A ρ0 ρ H1 locs1 ls hX ⟨a1, a2, a3, vN_upd hN (vOk_h hs), h0⟩ hl hL (vOk_t (vOk_t hs)) hn
theorem vV.putz {idx ci j k : Nat} {z x : Int} (hd : decode mt.2.1 pc = .ok (.putfield idx, 3)) (hf : vFl mt.1.cls idx ci j false) (hk : vKK k = (0, ci)) (ht : vTy ci j = .boolean) (hz : (j : Int) = z) (h01 : x = 0 ∨ x = 1) (kk : vV mt d0 dF Q (pc + 3) L S d T (vUpd M k z x)) : vV mt d0 dF Q pc L (vI x :: vR k :: S) d T M := by
  intro l p e s m args below meth c D q A ρ0 ρ H locs ls hX hS hl hL hs hn
  obtain ⟨hx, hb, hml, ho, htb, hr, hlk, hnm, hK, hA, hst⟩ := id hX
  obtain ⟨hP, hD, hSS, hN, h0⟩ := id hS
  obtain ⟨C, TT, N, hc, hj, hw, hfin⟩ := hf
  obtain ⟨e1, e2, e3, e4, e5, e6, e7⟩ := vCl_ok hc
  obtain ⟨i, hi, hwi⟩ := vW_at (q := q) (ρ := ρ) (T := T) (M := M) (vOk_h (vOk_t hs) k rfl)
  rw [vCe_o hk] at hwi
  subst hz
  have hset : (vW q ρ d T M).set i (ρ k, .inr (ci, ((List.range (vNf ci)).map (vFv ρ T M k ci)).set j (.int (Int32.ofInt x)))) = vW q ρ d T (vUpd M k j x) := by
    refine vW_set hD hi ?_ (fun k' hne => vCe_row (vUpd_row hne) rfl)
    have hh := vRange_set (f := vFv ρ T M k ci) (f' := vFv ρ T (vUpd M k j x) k ci) (n := vNf ci) (j := j) (v := .int (Int32.ofInt x)) (fun i' hi' => by
      unfold vFv
      have : vUpd M k j x k i' = M k i' := by unfold vUpd; rw [if_neg]; rintro ⟨-, z⟩; omega
      rw [this]) (by unfold vFv; rw [ht]; simp [vUpd]) (by rw [← e1]; exact hj)
    rw [vCe_o hk, hh]
  refine va_put hx hb htb e2 (vTy ci) e3 e4 ho hK hP hD hSS i hwi hc j hj (htb _ hw) (fun x hx => by rw [e7 j hj] at hx; exact hx) hfin (e3 j hj) (by rw [ht]; rcases h01 with rfl | rfl <;> rfl) (by rw [ht]; rcases h01 with rfl | rfl <;> rfl) (by simp; rw [← e1]; exact hj) hd fun H1 locs1 a1 a2 a3 => ?_
  have a1 : va_P D vCl (vW q ρ d T (vUpd M k j x)) H1 := by rw [← hset]; exact a1
  have a2 : va_D A (vW q ρ d T (vUpd M k j x)) := by rw [← hset]; exact a2
  exact kk l p e s m args below meth c D q A ρ0 ρ H1 locs1 ls hX ⟨a1, a2, a3, vN_upd hN (vOk_h hs), h0⟩ hl hL (vOk_t (vOk_t hs)) hn
theorem vN_upT {k j v : Nat} (h : vN d T M) (hv : v ∈ d) : vN d (vUpT T k j (some v)) M := by
  refine ⟨h.1, fun a i w hw => ?_⟩
  unfold vUpT at hw
  split at hw
  · cases hw; exact hv
  · exact h.2 a i w hw
theorem vW_setR {q : vQc} {ρ : Nat → Nat} {A : Nat → Prop} {i k ci j v : Nat} (hD : va_D A (vW q ρ d T M)) (hi : d[i]? = some k) (hk : vKK k = (0, ci)) (ht : vIsR (vTy ci j) = true) (hj : j < vNf ci) :
    (vW q ρ d T M).set i (ρ k, .inr (ci, ((List.range (vNf ci)).map (vFv ρ T M k ci)).set j (.ref (ρ v)))) = vW q ρ d (vUpT T k j (some v)) M := by
  refine vW_set hD hi ?_ (fun k' hne => vCe_row rfl (vUpT_row hne))
  have hh := vRange_set (f := vFv ρ T M k ci) (f' := vFv ρ (vUpT T k j (some v)) M k ci) (n := vNf ci) (j := j) (v := .ref (ρ v)) (fun i' hi' => by
    unfold vFv
    have : vUpT T k j (some v) k i' = T k i' := by unfold vUpT; rw [if_neg]; rintro ⟨-, z⟩; exact hi' z
    rw [this]) (by rw [vFv_r ht]; simp [vUpT, va_rf]) hj
  rw [vCe_o hk, hh]
theorem vIsR_n {ty : FieldType} (h : vIsR ty = true) (a : Nat) : narrow ty (.ref a) = .ref a ∧ fits ty (.ref a) = true := by
  cases ty <;> first | exact ⟨rfl, rfl⟩ | cases h
theorem vV.putr {idx ci j k v : Nat} (hd : decode mt.2.1 pc = .ok (.putfield idx, 3)) (hf : vFl mt.1.cls idx ci j false) (hk : vKK k = (0, ci)) (ht : vIsR (vTy ci j) = true) (kk : vV mt d0 dF Q (pc + 3) L S d (vUpT T k j (some v)) M) : vV mt d0 dF Q pc L (vR v :: vR k :: S) d T M := by
  intro l p e s m args below meth c D q A ρ0 ρ H locs ls hX hS hl hL hs hn
  obtain ⟨hx, hb, hml, ho, htb, hr, hlk, hnm, hK, hA, hst⟩ := id hX
  obtain ⟨hP, hD, hSS, hN, h0⟩ := id hS
  obtain ⟨C, TT, N, hc, hj, hw, hfin⟩ := hf
  obtain ⟨e1, e2, e3, e4, e5, e6, e7⟩ := vCl_ok hc
  obtain ⟨i, hi, hwi⟩ := vW_at (q := q) (ρ := ρ) (T := T) (M := M) (vOk_h (vOk_t hs) k rfl)
  rw [vCe_o hk] at hwi
  refine va_put hx hb htb e2 (vTy ci) e3 e4 ho hK hP hD hSS i hwi hc j hj (htb _ hw) (fun x hx => by rw [e7 j hj] at hx; exact hx) hfin (e3 j hj) (vIsR_n ht _).1 (vIsR_n ht _).2 (by simp; rw [← e1]; exact hj) hd fun H1 locs1 a1 a2 a3 => ?_
  have hset := vW_setR (v := v) hD hi hk ht (by rw [← e1]; exact hj)
  have a1 : va_P D vCl (vW q ρ d (vUpT T k j (some v)) M) H1 := by rw [← hset]; exact a1
  have a2 : va_D A (vW q ρ d (vUpT T k j (some v)) M) := by rw [← hset]; exact a2
  exact kk l p e s m args below meth c D q A ρ0 ρ H1 locs1 ls hX ⟨a1, a2, a3, vN_upT hN (vOk_h hs v rfl), h0⟩ hl hL (vOk_t (vOk_t hs)) hn
theorem vV.putF {idx ci j k v : Nat} (hd : decode mt.2.1 pc = .ok (.putfield idx, 3)) (hf : vFl mt.1.cls idx ci j true) (hi0 : mt.1.name = "<init>") (hC : ∀ C T N, vCl[ci]? = some (C, T, N) → C = mt.1.cls) (hk : vKK k = (0, ci)) (ht : vIsR (vTy ci j) = true) (kk : vV mt d0 dF Q (pc + 3) L S d (vUpT T k j (some v)) M) : vV mt d0 dF Q pc L (vR v :: vR k :: S) d T M := by
  intro l p e s m args below meth c D q A ρ0 ρ H locs ls hX hS hl hL hs hn
  obtain ⟨hx, hb, hml, ho, htb, hr, hlk, hnm, hK, hA, hst⟩ := id hX
  obtain ⟨hP, hD, hSS, hN, h0⟩ := id hS
  obtain ⟨C, TT, N, hc, hj, hw, hfin⟩ := hf
  obtain ⟨e1, e2, e3, e4, e5, e6, e7⟩ := vCl_ok hc
  obtain ⟨i, hi, hwi⟩ := vW_at (q := q) (ρ := ρ) (T := T) (M := M) (vOk_h (vOk_t hs) k rfl)
  rw [vCe_o hk] at hwi
  refine va_putF hx hb htb e2 (vTy ci) e3 e4 ho hK hP hD hSS i hwi hc j hj (htb _ hw) (fun x hx => by rw [e7 j hj] at hx; exact hx) hfin (hnm.trans hi0) (by rw [e7 j hj]; exact hC _ _ _ hc) (e3 j hj) (vIsR_n ht _).1 (vIsR_n ht _).2 (by simp; rw [← e1]; exact hj) hd fun H1 locs1 a1 a2 a3 => ?_
  have hset := vW_setR (v := v) hD hi hk ht (by rw [← e1]; exact hj)
  have a1 : va_P D vCl (vW q ρ d (vUpT T k j (some v)) M) H1 := by rw [← hset]; exact a1
  have a2 : va_D A (vW q ρ d (vUpT T k j (some v)) M) := by rw [← hset]; exact a2
  exact kk l p e s m args below meth c D q A ρ0 ρ H1 locs1 ls hX ⟨a1, a2, a3, vN_upT hN (vOk_h hs v rfl), h0⟩ hl hL (vOk_t (vOk_t hs)) hn
-- arrays
theorem vV.iald {k n : Nat} {i : Int} (hd : decode mt.2.1 pc = .ok (.iaload, 1)) (hk : vKK k = (1, n)) (h0 : 0 ≤ i) (hlt : i < n) (kk : vV mt d0 dF Q (pc + 1) L (vI (M k i) :: S) d T M) : vV mt d0 dF Q pc L (vI i :: vR k :: S) d T M := by
  intro l p e s m args below meth c D q A ρ0 ρ H locs ls hX hS hl hL hs hn
  obtain ⟨hx, hb, hml, ho, htb, hr, hlk, hnm, hK, hA, hst⟩ := id hX
  obtain ⟨hP, hD, hSS, hN, hag⟩ := id hS
  obtain ⟨j, hj, hwi⟩ := vW_at (q := q) (ρ := ρ) (T := T) (M := M) (vOk_h (vOk_t hs) k rfl)
  rw [vCe_i hk] at hwi
  obtain ⟨a1, a2, a3⟩ := i32_ix h0 hlt (vOk_h hs)
  have kk' := kk l p e s m args below meth c D q A ρ0 ρ H locs ls hX hS hl hL (vOk_c (v := vI (M k i)) (hN.1 k i) (vOk_t (vOk_t hs))) hn
  refine va_iald hx hb hK hP j 0 hwi rfl a1 hd ?_
  rw [a2, a3]
  exact kk'
theorem vV.iast {k n : Nat} {i x : Int} (hd : decode mt.2.1 pc = .ok (.iastore, 1)) (hk : vKK k = (1, n)) (h0 : 0 ≤ i) (hlt : i < n) (kk : vV mt d0 dF Q (pc + 1) L S d T (vUpd M k i x)) : vV mt d0 dF Q pc L (vI x :: vI i :: vR k :: S) d T M := by
  intro l p e s m args below meth c D q A ρ0 ρ H locs ls hX hS hl hL hs hn
  obtain ⟨hx, hb, hml, ho, htb, hr, hlk, hnm, hK, hA, hst⟩ := id hX
  obtain ⟨hP, hD, hSS, hN, hag⟩ := id hS
  obtain ⟨j, hj, hwi⟩ := vW_at (q := q) (ρ := ρ) (T := T) (M := M) (vOk_h (vOk_t (vOk_t hs)) k rfl)
  rw [vCe_i hk] at hwi
  obtain ⟨a1, a2, a3⟩ := i32_ix h0 hlt (vOk_h (vOk_t hs))
  refine va_iast hx hb hK hP hD hSS j 0 hwi rfl a1 hd fun H1 locs1 b1 b2 b3 => ?_
  have hset : (vW q ρ d T M).set j (ρ k, .inl (q.1, n, .inl (upd (fun j => Int32.ofInt (M k j)) (Int32.ofInt i).toNatClampNeg (Int32.ofInt x)))) = vW q ρ d T (vUpd M k i x) := by
    refine vW_set hD hj ?_ (fun k' hne => vCe_row (vUpd_row hne) rfl)
    rw [vCe_i hk, a2]
    congr 4
    funext z
    by_cases hz : z = i.toNat
    · subst hz; rw [pk_us, a3]; simp [vUpd]
    · rw [pk_un hz]; unfold vUpd; rw [if_neg]; rintro ⟨-, y⟩; omega
  have b1 : va_P D vCl (vW q ρ d T (vUpd M k i x)) H1 := by rw [← hset]; exact b1
  have b2 : va_D A (vW q ρ d T (vUpd M k i x)) := by rw [← hset]; exact b2
  exact kk l p e s m args below meth c D q A ρ0 ρ H1 locs1 ls hX ⟨b1, b2, b3, vN_upd hN (vOk_h hs), hag⟩ hl hL (vOk_t (vOk_t (vOk_t hs))) hn
theorem vV.zald {k n : Nat} {i : Int} (hd : decode mt.2.1 pc = .ok (.baload, 1)) (hk : vKK k = (2, n)) (h0 : 0 ≤ i) (hlt : i < n) (kk : vV mt d0 dF Q (pc + 1) L (vI (M k i) :: S) d T M) : vV mt d0 dF Q pc L (vI i :: vR k :: S) d T M := by
  intro l p e s m args below meth c D q A ρ0 ρ H locs ls hX hS hl hL hs hn
  obtain ⟨hx, hb, hml, ho, htb, hr, hlk, hnm, hK, hA, hst⟩ := id hX
  obtain ⟨hP, hD, hSS, hN, hag⟩ := id hS
  obtain ⟨j, hj, hwi⟩ := vW_at (q := q) (ρ := ρ) (T := T) (M := M) (vOk_h (vOk_t hs) k rfl)
  rw [vCe_z hk] at hwi
  obtain ⟨a1, a2, a3⟩ := i32_ix h0 hlt (vOk_h hs)
  have kk' := kk l p e s m args below meth c D q A ρ0 ρ H locs ls hX hS hl hL (vOk_c (v := vI (M k i)) (hN.1 k i) (vOk_t (vOk_t hs))) hn
  refine va_zald hx hb hK hP j 1 hwi rfl a1 hd ?_
  rw [a2, a3]
  exact kk'
theorem vV.zast {k n : Nat} {i x : Int} (hd : decode mt.2.1 pc = .ok (.bastore, 1)) (hk : vKK k = (2, n)) (h0 : 0 ≤ i) (hlt : i < n) (h01 : x = 0 ∨ x = 1) (kk : vV mt d0 dF Q (pc + 1) L S d T (vUpd M k i x)) : vV mt d0 dF Q pc L (vI x :: vI i :: vR k :: S) d T M := by
  intro l p e s m args below meth c D q A ρ0 ρ H locs ls hX hS hl hL hs hn
  obtain ⟨hx, hb, hml, ho, htb, hr, hlk, hnm, hK, hA, hst⟩ := id hX
  obtain ⟨hP, hD, hSS, hN, hag⟩ := id hS
  obtain ⟨j, hj, hwi⟩ := vW_at (q := q) (ρ := ρ) (T := T) (M := M) (vOk_h (vOk_t (vOk_t hs)) k rfl)
  rw [vCe_z hk] at hwi
  obtain ⟨a1, a2, a3⟩ := i32_ix h0 hlt (vOk_h (vOk_t hs))
  have hnar : vp_nar .boolean (Int32.ofInt x) = Int32.ofInt x := by rcases h01 with rfl | rfl <;> rfl
  refine va_zast hx hb hK hP hD hSS j 1 hwi rfl a1 hd fun H1 locs1 b1 b2 b3 => ?_
  rw [hnar] at b1 b2
  have hset : (vW q ρ d T M).set j (ρ k, .inl (q.2.1, n, .inl (upd (fun j => Int32.ofInt (M k j)) (Int32.ofInt i).toNatClampNeg (Int32.ofInt x)))) = vW q ρ d T (vUpd M k i x) := by
    refine vW_set hD hj ?_ (fun k' hne => vCe_row (vUpd_row hne) rfl)
    rw [vCe_z hk, a2]
    congr 4
    funext z
    by_cases hz : z = i.toNat
    · subst hz; rw [pk_us, a3]; simp [vUpd]
    · rw [pk_un hz]; unfold vUpd; rw [if_neg]; rintro ⟨-, y⟩; omega
  have b1 : va_P D vCl (vW q ρ d T (vUpd M k i x)) H1 := by rw [← hset]; exact b1
  have b2 : va_D A (vW q ρ d T (vUpd M k i x)) := by rw [← hset]; exact b2
  exact kk l p e s m args below meth c D q A ρ0 ρ H1 locs1 ls hX ⟨b1, b2, b3, vN_upd hN (vOk_h hs), hag⟩ hl hL (vOk_t (vOk_t (vOk_t hs))) hn
theorem vV.aald {k n j : Nat} {i : Int} {r : Option Nat} (hd : decode mt.2.1 pc = .ok (.aaload, 1)) (hk : vKK k = (3, n)) (hj : i = (j : Int)) (hlt : j < n) (hr : T k j = r) (kk : vV mt d0 dF Q (pc + 1) L (vRo r :: S) d T M) : vV mt d0 dF Q pc L (vI i :: vR k :: S) d T M := by
  intro l p e s m args below meth c D q A ρ0 ρ H locs ls hX hS hl hL hs hn
  obtain ⟨hx, hb, hml, ho, htb, hrt, hlk, hnm, hK, hA, hst⟩ := id hX
  obtain ⟨hP, hD, hSS, hN, hag⟩ := id hS
  obtain ⟨jj, hjj, hwi⟩ := vW_at (q := q) (ρ := ρ) (T := T) (M := M) (vOk_h (vOk_t hs) k rfl)
  rw [vCe_r hk] at hwi
  obtain ⟨a1, a2, a3⟩ := i32_ix (i := i) (n := n) (by omega) (by omega) (vOk_h hs)
  subst hr
  have kk' := kk l p e s m args below meth c D q A ρ0 ρ H locs ls hX hS hl hL (vOk_c (v := vRo (T k j)) (fun v hv => hN.2 k j v hv) (vOk_t (vOk_t hs))) hn
  refine va_aldq (C := RX3) hx hb hK hP jj 2 hwi rfl a1 hd ?_
  rw [a2, show i.toNat = j by omega]
  exact kk'
theorem vV.aast {k n j v : Nat} {i : Int} (hd : decode mt.2.1 pc = .ok (.aastore, 1)) (hk : vKK k = (3, n)) (hv : vKK v = (0, 3)) (hj : i = (j : Int)) (hlt : j < n) (kk : vV mt d0 dF Q (pc + 1) L S d (vUpT T k j (some v)) M) : vV mt d0 dF Q pc L (vR v :: vI i :: vR k :: S) d T M := by
  intro l p e s m args below meth c D q A ρ0 ρ H locs ls hX hS hl hL hs hn
  obtain ⟨hx, hb, hml, ho, htb, hrt, hlk, hnm, hK, hA, hst⟩ := id hX
  obtain ⟨hP, hD, hSS, hN, hag⟩ := id hS
  obtain ⟨jj, hjj, hwi⟩ := vW_at (q := q) (ρ := ρ) (T := T) (M := M) (vOk_h (vOk_t (vOk_t hs)) k rfl)
  obtain ⟨jv, hjv, hwv⟩ := vW_at (q := q) (ρ := ρ) (T := T) (M := M) (vOk_h hs v rfl)
  rw [vCe_r hk] at hwi
  rw [vCe_o hv] at hwv
  obtain ⟨a1, a2, a3⟩ := i32_ix (i := i) (n := n) (by omega) (by omega) (vOk_h (vOk_t hs))
  refine va_astq (r := (RX3, TX3, 6)) hx hb hK hP hD hSS jj 2 jv 3 hwi rfl hwv rfl a1 hd fun H1 locs1 b1 b2 b3 => ?_
  have hset : (vW q ρ d T M).set jj (ρ k, .inl (q.2.2, n, .inr (.inr (.inr (.inr (va_up (fun j => (T k j).map ρ) (Int32.ofInt i).toNatClampNeg (some (ρ v)))))))) = vW q ρ d (vUpT T k j (some v)) M := by
    refine vW_set hD hjj ?_ (fun k' hne => vCe_row rfl (vUpT_row hne))
    rw [vCe_r hk, a2, show i.toNat = j by omega]
    congr 7
    funext z
    by_cases hz : z = j
    · subst hz; simp [va_up, vUpT]
    · simp [va_up, vUpT, hz]
  have b1 : va_P D vCl (vW q ρ d (vUpT T k j (some v)) M) H1 := by rw [← hset]; exact b1
  have b2 : va_D A (vW q ρ d (vUpT T k j (some v)) M) := by rw [← hset]; exact b2
  exact kk l p e s m args below meth c D q A ρ0 ρ H1 locs1 ls hX ⟨b1, b2, b3, vN_upT hN (vOk_h hs v rfl), hag⟩ hl hL (vOk_t (vOk_t (vOk_t hs))) hn
theorem vV.alen {k n : Nat} {v : Int} (hd : decode mt.2.1 pc = .ok (.arraylength, 1)) (hk : vKK k = (1, n)) (hv : (n : Int) = v) (hin : vIn v) (kk : vV mt d0 dF Q (pc + 1) L (vI v :: S) d T M) : vV mt d0 dF Q pc L (vR k :: S) d T M := by
  intro l p e s m args below meth c D q A ρ0 ρ H locs ls hX hS hl hL hs hn
  obtain ⟨hx, hb, hml, ho, htb, hrt, hlk, hnm, hK, hA, hst⟩ := id hX
  obtain ⟨hP, hD, hSS, hN, hag⟩ := id hS
  obtain ⟨j, hj, hwi⟩ := vW_at (q := q) (ρ := ρ) (T := T) (M := M) (vOk_h hs k rfl)
  rw [vCe_i hk] at hwi
  exact va_alen hx hb hK hP j 0 hwi (ty := .int) rfl (v := Int32.ofInt v) (by rw [← hv]; rfl) hd (kk l p e s m args below meth c D q A ρ0 ρ H locs ls hX hS hl hL (vOk_c (v := vI v) hin (vOk_t hs)) hn)
theorem vV.nn0 {off : Int} (hd : decode mt.2.1 pc = .ok (.ifnonnull off, 3)) (kk : vV mt d0 dF Q (pc + 3) L S d T M) : vV mt d0 dF Q pc L (vRo none :: S) d T M :=
  kk.pure (fun _ hs => vOk_t hs) (fun p l e R s m args below meth c H locs cells slots Z ls ρ hx hb ho htb hl hs kk => lv_ifnonnullN hx hb hd kk)
-- ends
theorem vV.iret {x : Int} (hd : decode mt.2.1 pc = .ok (.ireturn, 1)) (hr : mt.2.2.2.1 = some .int) (hq : Q (some (vI x)) T M) : vV mt d0 d Q pc L [vI x] d T M := by
  intro l p e s m args below meth c D q A ρ0 ρ H locs ls hX hS hl hL hs hn
  obtain ⟨hx, hb, hml, ho, htb, hrt, hlk, hnm, hK, hA, hst⟩ := id hX
  obtain ⟨hP, hD, hSS, hN, hag⟩ := id hS
  exact W.iret hx hb (hrt.trans hr) (fun t ht hW => ⟨⟨some (vI x), T, M, ρ, rfl, hq, by rw [ht]; exact hP, hD, hN, hag, fun v hv => by cases hv; exact vOk_h hs⟩, hSS.F ht⟩) hSS.2.2 hd hlk
theorem vV.zret {x : Int} (hd : decode mt.2.1 pc = .ok (.ireturn, 1)) (hr : mt.2.2.2.1 = some .boolean) (h01 : x = 0 ∨ x = 1) (hq : Q (some (vI x)) T M) : vV mt d0 d Q pc L [vI x] d T M := by
  intro l p e s m args below meth c D q A ρ0 ρ H locs ls hX hS hl hL hs hn
  obtain ⟨hx, hb, hml, ho, htb, hrt, hlk, hnm, hK, hA, hst⟩ := id hX
  obtain ⟨hP, hD, hSS, hN, hag⟩ := id hS
  exact W.zret hx hb (hrt.trans hr) (by rcases h01 with rfl | rfl <;> rfl) (fun t ht hW => ⟨⟨some (vI x), T, M, ρ, rfl, hq, by rw [ht]; exact hP, hD, hN, hag, fun v hv => by cases hv; exact vOk_h hs⟩, hSS.F ht⟩) hSS.2.2 hd hlk
theorem vV.vret (hd : decode mt.2.1 pc = .ok (.return_, 1)) (hr : mt.2.2.2.1 = none) (hq : Q none T M) : vV mt d0 d Q pc L [] d T M := by
  intro l p e s m args below meth c D q A ρ0 ρ H locs ls hX hS hl hL hs hn
  obtain ⟨hx, hb, hml, ho, htb, hrt, hlk, hnm, hK, hA, hst⟩ := id hX
  obtain ⟨hP, hD, hSS, hN, hag⟩ := id hS
  exact W.vret hx hb (hrt.trans hr) (fun t ht hW => ⟨⟨none, T, M, ρ, rfl, hq, by rw [ht]; exact hP, hD, hN, hag, fun v hv => by cases hv⟩, hSS.F ht⟩) hSS.2.2 hd hlk
end VH
