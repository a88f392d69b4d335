/-! ===== own: new cells: rows; the constructors of the class's parts ===== -/
theorem vLe_m {d d1 : List Nat} {k : Nat} (h : vLe d d1 d1) : vLe d (d1 ++ [k]) (d1 ++ [k]) := by
  obtain ⟨h1, h2, -, -⟩ := h
  refine ⟨by simp; omega, by rw [vSz_app]; omega, Nat.le_refl _, Nat.le_refl _⟩
theorem vLe_s {d d1 dF : List Nat} {k : Nat} (h : vLe d d1 dF) : vLe d d1 (dF ++ [k]) := by
  obtain ⟨h1, h2, h3, h4⟩ := h
  refine ⟨h1, h2, by simp; omega, by rw [vSz_app]; omega⟩
def vFi : Int → Int := fun j => if 0 ≤ j ∧ j < 5 then vFiI j.toNat else 0
theorem vFiI_in (j : Nat) : vIn (vFiI j) := by unfold vFiI; split <;> decide
theorem vFi_in (j : Int) : vIn (vFi j) := by unfold vFi; split; exact vFiI_in _; decide
section VNW
variable {mt mt' : vMt} {d0 d1 dF : List Nat} {Q : Option vA → vT → vM → Prop} {pc idx : Nat} {L : List (Option vA)} {S rest : List vA} {d : List Nat} {T : vT} {M : vM} {Pv : vT → vM → Prop}
theorem vV.cIv {b : Nat} (hd : decode mt.2.1 pc = .ok (.invokespecial idx, 3)) (hlk : (mt.1.cls, idx, mt'.1) ∈ vNm) (hw : vCw mt' 0) (hret : mt'.2.2.2.1 = none) (hw2 : mt'.1.name = "<init>" ∧ Cond.instanceMethod mt'.1 ∈ vTb)
    (hc : vCon mt' d d1 [vR b] T M (vPv Pv)) (hS0 : S = vR b :: rest) (hrm : vRoom mt mt') (hcat : (rest.map vCat).sum ≤ 8) (hn1 : vLe d d1 dF) (kk : ∀ T' M', Pv T' M' → vV mt d0 dF Q (pc + 3) L rest d1 T' M') : vV mt d0 dF Q pc L S d T M :=
  vV.callIN hd hlk hw hret hw2 hc hS0 hrm hcat hn1 (fun r T' M' h => by obtain ⟨rfl, h2⟩ := h; exact kk T' M' h2)
theorem vNewF {q : vQc} {ρ : Nat → Nat} {k a : Nat} {f : Int → Int} (hk : k ∉ d) (hT : ∀ k' j v, T k' j = some v → v ∈ d) {e : va_E} (he : vCe q (fun z => if z = k then a else ρ z) (vClT T k) (vRow M k f) k = e) :
    vW q ρ d T M ++ [(a, e)] = vW q (fun z => if z = k then a else ρ z) (d ++ [k]) (vClT T k) (vRow M k f) := by
  have hm : ∀ z ∈ d, (if z = k then a else ρ z) = ρ z := fun z hz => if_neg (fun h : z = k => hk (h ▸ hz))
  unfold vW
  rw [List.map_append, List.map_singleton, he]
  congr 1
  · refine List.map_congr_left fun z hz => ?_
    have hne : z ≠ k := fun h => hk (h ▸ hz)
    show (ρ z, vCe q ρ T M z) = ((if z = k then a else ρ z), vCe q (fun z => if z = k then a else ρ z) (vClT T k) (vRow M k f) z)
    rw [hm z hz, vCe_mono (d := d) (ρ := ρ) hm (fun k' j v h => by unfold vClT at h; split at h; cases h; exact hT k' j v h)]
    rw [vCe_row (T := T) (M := M) (T' := vClT T k) (M' := vRow M k f) (vRow_n hne) (by funext j; simp [vClT, hne])]
  · simp
/-- getstatic of the first settings, clone, checkcast -/
theorem vV.cloneF {k : Nat} (hd1 : decode mt.2.1 pc = .ok (.getstatic 24, 3)) (hd2 : decode mt.2.1 (pc + 3) = .ok (.invokevirtual 27, 3)) (hd3 : decode mt.2.1 (pc + 6) = .ok (.checkcast 28, 3)) (hcls : mt.1.cls = RX3) (hk : vKK k = (1, 5)) (hf : k ∉ d) (hn1 : vLe d (d ++ [k]) dF) (hfr : 1 ≤ mt.2.2.2.2.1) (hlo : (S.map vCat).sum + 14 ≤ mt.2.2.2.2.2)
    (kk : vV mt d0 dF Q (pc + 3 + 3 + 3) L (vR k :: S) (d ++ [k]) (vClT T k) (vRow M k vFi)) : vV mt d0 dF Q pc L S d T M := by
  intro l p e s m args below meth c D q A ρ0 ρ H locs ls hX hS hl hL hs hn
  obtain ⟨hx, hb, hml, ho, htb, hrt, hlk, hnm, hK, hA, hst, hnw⟩ := id hX
  obtain ⟨hP, hD, hSS, hN, hag⟩ := id hS
  have hsl := vSl_a (by decide) hk
  obtain ⟨t, hZ, hT, cell, c1, c2, c3, c4, c5⟩ := hst.2.2
  obtain ⟨cell2, u1, u2, u3, u4, u5, u6, u7⟩ := hT
  cases c1.symm.trans u1
  rw [hcls] at ho
  have hcE : ({ cls := cell.cls, slots := cell.slots } : Cell) = vp_cell q.1 (5, .inl (fun j => Int32.ofInt (vFi j))) := by
    rw [vp_cell_i, c2]
    unfold arrV
    congr 1
    refine Array.ext ?_ ?_
    · rw [c3]; simp
    · intro i h1 h2
      have h3 := u6 i (by omega)
      rw [Array.getElem?_eq_getElem h1] at h3
      rw [Option.some.inj h3]
      simp
      unfold vFi
      rw [if_pos (by omega)]; rfl
  have hfnd : s.vm.findClass "[I" = some q.1 := (hK.2 0 (q.1, .int) rfl).2
  refine va_getsN hx hb hZ hSS ho (va_Nw.use rfl hnw.2.1) (fun _ h => h) hd1 ?_
  refine va_cloneS hx hb (hml.trans hl.1.symm) ho (htb _ (vTb_t 29 (by decide +kernel) (by decide +kernel))) (htb _ (vTb_t 30 (by decide +kernel) (by decide +kernel))) (htb _ (vTb_t 31 (by decide +kernel) (by decide +kernel))) (htb _ (vTb_t 32 (by decide +kernel) (by decide +kernel))) (htb _ (vTb_t 33 (by decide +kernel) (by decide +kernel))) hnw.2.2.1
    hK hP hD hSS hA 0 (ty := .int) rfl c1 u7 c4 c5 hcE c3 hfnd (fun i v hv => ?_) hfr (by rw [vCatL]; exact hlo) ?_ ?_ hd2 fun a H1 h1 h2 h3 => ?_
  · have hi : i < 5 := by rw [← c3]; exact (Array.getElem?_eq_some_iff.mp hv).1
    rw [u6 i hi] at hv
    cases hv; rfl
  · show d.length - d0.length + 1 ≤ dF.length - d0.length
    have a1 := hn.1; have a2 := hn1.2.2.1; simp at a2; omega
  · show vSz d - vSz d0 + 5 ≤ vSz dF - vSz d0
    have a1 := hn.2.1; have a2 := hn1.2.2.2; rw [vSz_app, hsl] at a2; omega
  · refine va_castA hx hb ho (htb _ (vTb_t 35 (by decide +kernel) (by decide +kernel))) h1 (vW q ρ d T M).length (cA := q.1) (x := (5, .inl (fun j => Int32.ofInt (vFi j)))) (by simp) hfnd hd3 ?_
    have he : vCe q (fun z => if z = k then a else ρ z) (vClT T k) (vRow M k vFi) k = .inl (q.1, 5, .inl (fun j => Int32.ofInt (vFi j))) := by rw [vCe_i hk, vRow_s]
    rw [vNewF hf hN.2 he] at h1 h2
    have hm : ∀ z ∈ d, (if z = k then a else ρ z) = ρ z := fun z hz => if_neg (fun h : z = k => hf (h ▸ hz))
    have hin : ∀ z ∈ d, z ∈ d ++ [k] := fun z hz => List.mem_append_left _ hz
    have hN1 : vN (d ++ [k]) (vClT T k) (vRow M k vFi) := by
      refine ⟨fun b j => ?_, (vNew_N hN).2⟩
      unfold vRow; split
      · exact vFi_in j
      · exact hN.1 b j
    have W1 := kk l p e s m args below meth c D q A ρ0 (fun z => if z = k then a else ρ z) H1 locs ls hX ⟨h1, h2, h3, hN1, fun z hz => ⟨hin z (hag z hz).1, (hm z (hag z hz).1).trans (hag z hz).2⟩⟩ (vl_monoL hm hL hl) (vLok_mono hin hL) (vOk_c (v := vR k) (fun z hz => by cases hz; simp) (fun v hv => vOk_mono hin (hs v hv))) ⟨by have := hn.1; have := hn1.1; omega, by have := hn.2.1; have := hn1.2.1; omega, hn1.2.2⟩
    have ec : d.length - d0.length + 1 = (d ++ [k]).length - d0.length := by have := hn.1; simp; omega
    have es : vSz d - vSz d0 + 5 = vSz (d ++ [k]) - vSz d0 := by have := hn.2.1; rw [vSz_app, hsl]; omega
    show W p l e (vRm mt d0 dF) s m args below meth c H1 locs (d.length - d0.length + 1) (vSz d - vSz d0 + 5) _ _
    rw [ec, es]
    have est : (vR k :: S).map (vc (fun z => if z = k then a else ρ z)) = .ref a :: S.map (vc ρ) := by
      rw [List.map_cons, vc_monoL hm hs]; simp [vc, va_rf]
    rw [est] at W1
    exact W1
end VNW
