/-! ===== own: V: calls and ends in the form that the walks use ===== -/
section VD
variable {mt mt' : vMt} {d0 dF : List Nat} {Q : Option vA → vT → vM → Prop} {P : Int → vT → vM → Prop} {Pv : vT → vM → Prop} {pc idx n : Nat} {L : List (Option vA)} {S rest As : List vA} {d : List Nat} {T : vT} {M : vM}
/-- the room is there, as long as the walk goes on -/
theorem vV.withLe (h : vLe d d dF → vV mt d0 dF Q pc L S d T M) : vV mt d0 dF Q pc L S d T M := by
  intro l p e s m args below meth c D q A ρ0 ρ H locs ls hX hS hl hL hs hn
  exact h ⟨Nat.le_refl _, Nat.le_refl _, hn.2.2⟩ l p e s m args below meth c D q A ρ0 ρ H locs ls hX hS hl hL hs hn
theorem vV.cVi {b ci : Nat} (hd : decode mt.2.1 pc = .ok (.invokevirtual idx, 3)) (hlk : Cond.methodLink mt.1.cls idx mt'.1 ∈ vTb) (hw : vCw mt' n) (hw2 : Cond.instanceMethod mt'.1 ∈ vTb ∧ Cond.selects mt'.1.cls mt'.1 mt'.1 ∈ vTb) (hb0 : vKK b = (0, ci)) (hC : (vCl[ci]?).map (fun q => q.1) = some mt'.1.cls) (hrm : vRoom mt mt')
    (hc : vCon mt' d d (vR b :: As) T M (vPi P)) (hlen : As.length = n) (hS0 : S = As.reverse ++ vR b :: rest) (hcat : (rest.map vCat).sum ≤ 8) (kk : ∀ x T' M', vIn x → P x T' M' → vV mt d0 dF Q (pc + 3) L (vI x :: rest) d T' M') : vV mt d0 dF Q pc L S d T M :=
  vV.withLe fun hle => vV.callV hd hlk hw hw2 hb0 hC hc hlen hS0 hrm hcat hle (fun r T' M' h => by obtain ⟨x, rfl, h1, h2⟩ := h; exact kk x T' M' h1 h2)
theorem vV.cVv {b ci : Nat} (hd : decode mt.2.1 pc = .ok (.invokevirtual idx, 3)) (hlk : Cond.methodLink mt.1.cls idx mt'.1 ∈ vTb) (hw : vCw mt' n) (hw2 : Cond.instanceMethod mt'.1 ∈ vTb ∧ Cond.selects mt'.1.cls mt'.1 mt'.1 ∈ vTb) (hb0 : vKK b = (0, ci)) (hC : (vCl[ci]?).map (fun q => q.1) = some mt'.1.cls) (hrm : vRoom mt mt')
    (hc : vCon mt' d d (vR b :: As) T M (vPv Pv)) (hlen : As.length = n) (hS0 : S = As.reverse ++ vR b :: rest) (hcat : (rest.map vCat).sum ≤ 8) (kk : ∀ T' M', Pv T' M' → vV mt d0 dF Q (pc + 3) L rest d T' M') : vV mt d0 dF Q pc L S d T M :=
  vV.withLe fun hle => vV.callV hd hlk hw hw2 hb0 hC hc hlen hS0 hrm hcat hle (fun r T' M' h => by obtain ⟨rfl, h2⟩ := h; exact kk T' M' h2)
theorem vV.cSi (hd : decode mt.2.1 pc = .ok (.invokestatic idx, 3)) (hlk : Cond.methodLink mt.1.cls idx mt'.1 ∈ vTb) (hw : vCw mt' n) (hw2 : Cond.static mt'.1 ∈ vTb) (hrm : vRoom mt mt')
    (hc : vCon mt' d d As T M (vPi P)) (hlen : As.length = n) (hS0 : S = As.reverse ++ rest) (hcat : (rest.map vCat).sum ≤ 8) (kk : ∀ x T' M', vIn x → P x T' M' → vV mt d0 dF Q (pc + 3) L (vI x :: rest) d T' M') : vV mt d0 dF Q pc L S d T M :=
  vV.withLe fun hle => vV.callS hd hlk hw hw2 hc hlen hS0 hrm hcat hle (fun r T' M' h => by obtain ⟨x, rfl, h1, h2⟩ := h; exact kk x T' M' h1 h2)
theorem vV.cSv (hd : decode mt.2.1 pc = .ok (.invokestatic idx, 3)) (hlk : Cond.methodLink mt.1.cls idx mt'.1 ∈ vTb) (hw : vCw mt' n) (hw2 : Cond.static mt'.1 ∈ vTb) (hrm : vRoom mt mt')
    (hc : vCon mt' d d As T M (vPv Pv)) (hlen : As.length = n) (hS0 : S = As.reverse ++ rest) (hcat : (rest.map vCat).sum ≤ 8) (kk : ∀ T' M', Pv T' M' → vV mt d0 dF Q (pc + 3) L rest d T' M') : vV mt d0 dF Q pc L S d T M :=
  vV.withLe fun hle => vV.callS hd hlk hw hw2 hc hlen hS0 hrm hcat hle (fun r T' M' h => by obtain ⟨rfl, h2⟩ := h; exact kk T' M' h2)
theorem vV.cNi (hd : decode mt.2.1 pc = .ok (.invokestatic idx, 3)) (hlk : (mt.1.cls, idx, mt'.1) ∈ vNm) (hw : vCw mt' n) (hw2 : Cond.static mt'.1 ∈ vTb) (hrm : vRoom mt mt')
    (hc : vCon mt' d d As T M (vPi P)) (hlen : As.length = n) (hS0 : S = As.reverse ++ rest) (hcat : (rest.map vCat).sum ≤ 8) (kk : ∀ x T' M', vIn x → P x T' M' → vV mt d0 dF Q (pc + 3) L (vI x :: rest) d T' M') : vV mt d0 dF Q pc L S d T M :=
  vV.withLe fun hle => vV.callSN hd hlk hw hw2 hc hlen hS0 hrm hcat hle (fun r T' M' h => by obtain ⟨x, rfl, h1, h2⟩ := h; exact kk x T' M' h1 h2)
theorem vV.cNv (hd : decode mt.2.1 pc = .ok (.invokestatic idx, 3)) (hlk : (mt.1.cls, idx, mt'.1) ∈ vNm) (hw : vCw mt' n) (hw2 : Cond.static mt'.1 ∈ vTb) (hrm : vRoom mt mt')
    (hc : vCon mt' d d As T M (vPv Pv)) (hlen : As.length = n) (hS0 : S = As.reverse ++ rest) (hcat : (rest.map vCat).sum ≤ 8) (kk : ∀ T' M', Pv T' M' → vV mt d0 dF Q (pc + 3) L rest d T' M') : vV mt d0 dF Q pc L S d T M :=
  vV.withLe fun hle => vV.callSN hd hlk hw hw2 hc hlen hS0 hrm hcat hle (fun r T' M' h => by obtain ⟨rfl, h2⟩ := h; exact kk T' M' h2)
/-- what is known of a number on the stack -/
theorem vV.rngS {x : Int} (k : vIn x → vV mt d0 dF Q pc L (vI x :: S) d T M) : vV mt d0 dF Q pc L (vI x :: S) d T M := by
  intro l p e s m args below meth c D q A ρ0 ρ H locs ls hX hS hl hL hs hn
  exact k (vOk_h hs) l p e s m args below meth c D q A ρ0 ρ H locs ls hX hS hl hL hs hn
theorem vV.ri {x : Int} (hd : decode mt.2.1 pc = .ok (.ireturn, 1)) (hr : mt.2.2.2.1 = some .int) (hq : P x T M) : vV mt d0 d (vPi P) pc L [vI x] d T M := vV.rngS fun h => vV.iret hd hr ⟨x, rfl, h, hq⟩
theorem vV.rz {x : Int} (hd : decode mt.2.1 pc = .ok (.ireturn, 1)) (hr : mt.2.2.2.1 = some .boolean) (h01 : x = 0 ∨ x = 1) (hq : P x T M) : vV mt d0 d (vPi P) pc L [vI x] d T M := vV.rngS fun h => vV.zret hd hr h01 ⟨x, rfl, h, hq⟩
theorem vV.rv (hd : decode mt.2.1 pc = .ok (.return_, 1)) (hr : mt.2.2.2.1 = none) (hq : Pv T M) : vV mt d0 d (vPv Pv) pc L [] d T M := vV.vret hd hr ⟨rfl, hq⟩
/-- a contract of which more is said in other words -/
theorem vCon.imp {As : List vA} {P' : Int → vT → vM → Prop} (h : vCon mt d dF As T M (vPi P)) (hi : ∀ x T' M', P x T' M' → P' x T' M') : vCon mt d dF As T M (vPi P') := by
  intro l D q ρ sz hok hle
  have h1 := h l D q ρ sz hok hle
  intro p e ha hc hk s m args below hf hap hP hK
  obtain ⟨k, o, a1, a2, a3, a4, a5⟩ := h1 p e ha hc hk s m args below hf hap hP hK
  refine ⟨k, o, a1, a2, a3, ?_, a5⟩
  obtain ⟨⟨r, T', M', ρ', b1, ⟨x, b2, b3, b4⟩, b5⟩, b6⟩ := a4
  exact ⟨⟨r, T', M', ρ', b1, ⟨x, b2, b3, hi _ _ _ b4⟩, b5⟩, b6⟩
end VD
