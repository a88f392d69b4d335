/-! ===== own: class and reference answer alike: of three plates exactly ===== -/
theorem kpQ_u {ok : Prop} {E : xE} {s : xS} {r r' : Int} (h : kpQ ok E s r) (h' : kpQ ok E s r') : r = r' := by
  rcases h with ⟨a, b⟩ | ⟨a, ⟨b, c⟩ | ⟨b, c⟩⟩ <;> rcases h' with ⟨a', b'⟩ | ⟨a', ⟨b', c'⟩ | ⟨b', c'⟩⟩ <;> first | omega | exact absurd a a' | exact absurd a' a | exact absurd c c' | exact absurd c' c
theorem lgQ_u {ok : Prop} {E : xE} {s : xS} {r r' : Int} (h : lgQ ok E s r) (h' : lgQ ok E s r') : r = r' := by
  rcases h with ⟨a, b⟩ | ⟨a, ⟨b, c⟩ | ⟨w, b, c⟩⟩ <;> rcases h' with ⟨a', b'⟩ | ⟨a', ⟨b', c'⟩ | ⟨w', b', c'⟩⟩
  · omega
  · exact absurd a' a
  · exact absurd a' a
  · exact absurd a a'
  · omega
  · exact absurd c (xL_e c')
  · exact absurd a a'
  · exact absurd c' (xL_e c)
  · have := xL_u c c'; omega
theorem spQ_u {ok : Prop} {E : xE} {s : xS} {r r' : Int} (h : spQ ok E s r) (h' : spQ ok E s r') : r = r' := by
  rcases h with ⟨a, b⟩ | ⟨a, ⟨b, c⟩ | ⟨w, b, c, e, f⟩⟩ <;> rcases h' with ⟨a', b'⟩ | ⟨a', ⟨b', c'⟩ | ⟨w', b', c', e', f'⟩⟩
  · omega
  · exact absurd a' a
  · exact absurd a' a
  · exact absurd a a'
  · omega
  · exact absurd e' (c w' b')
  · exact absurd a a'
  · exact absurd e (c' w b)
  · rcases Nat.lt_trichotomy w w' with z | z | z
    · exact absurd e (f' w z)
    · omega
    · exact absurd e' (f w' z)
theorem bwQ_u {ok : Prop} {E : xE} {s : xS} {n r r' : Int} (h : bwQ ok E s n r) (h' : bwQ ok E s n r') : r = r' := by
  rcases h with ⟨a, b⟩ | ⟨a, ⟨t, b, ⟨s1, c, e⟩, f⟩ | ⟨b, c⟩⟩ <;> rcases h' with ⟨a', b'⟩ | ⟨a', ⟨t', b', ⟨s1', c', e'⟩, f'⟩ | ⟨b', c'⟩⟩
  · omega
  · exact absurd a' a
  · exact absurd a' a
  · exact absurd a a'
  · rcases Nat.lt_trichotomy t t' with z | z | z
    · have := f' t s1 z c; rw [e] at this; cases this
    · omega
    · have := f t' s1' z c'; rw [e'] at this; cases this
  · have := c' t s1 c; rw [e] at this; cases this
  · exact absurd a a'
  · have := c t' s1' c'; rw [e'] at this; cases this
  · omega
theorem gzQ_u {ok : Prop} {E : xE} {s : xS} {n : Nat} {w r r' : Int} (h : gzQ ok E s n w r) (h' : gzQ ok E s n w r') : r = r' := by
  rcases h with ⟨a, b⟩ | ⟨a, ⟨b, c⟩ | ⟨g, ⟨s1, b⟩, c, e⟩⟩ <;> rcases h' with ⟨a', b'⟩ | ⟨a', ⟨b', c'⟩ | ⟨g', ⟨s1', b'⟩, c', e'⟩⟩
  · omega
  · exact absurd a' a
  · exact absurd a' a
  · exact absurd a a'
  · omega
  · exact absurd b' (c _ _)
  · exact absurd a a'
  · exact absurd b (c' _ _)
  · have := c _ _ b'; have := c' _ _ b
    rw [e, e', show g = g' by omega]
/-- the heap may grow so far -/
def vRg (d d1 : List Nat) : Prop := d.length ≤ d1.length ∧ vSz d ≤ vSz d1 ∧ d1.length ≤ 600000 ∧ vSz d1 ≤ 7302250
theorem Rd.rg {T : vT} {d : List Nat} (h : Rd T d) : vRg d d := ⟨Nat.le_refl _, Nat.le_refl _, by have := h.2.2.2.1; omega, by have := h.2.2.2.2; omega⟩
theorem Rc.x {M : vM} {n : Nat} (h : Rc M n) : xokR M n = xok3 M n ∧ xEr M n = xEc M n ∧ xSr M n = xSc M n := by
  obtain ⟨s0, s1, s2, s3, s4⟩ := h.s
  unfold xokR xok3 xEr xEc xSr xSc
  rw [h.r1, h.r2, h.r3, h.r4, s0, s1]
  exact ⟨rfl, rfl, rfl⟩
theorem xc_cg {M N : vM} (n : Nat) (h1 : N 11 = M 11) (h2 : N 12 = M 12) (h3 : N 13 = M 13) (h4 : N 14 = M 14) (h5 : N 15 = M 15) : xok3 N n = xok3 M n ∧ xEc N n = xEc M n ∧ xSc N n = xSc M n := by
  unfold xok3 xEc xSc
  rw [h1, h2, h3, h4, h5]
  exact ⟨rfl, rfl, rfl⟩
theorem RQ.L {d : List Nat} {T : vT} {M : vM} {n m : Nat} (h : RQ d T M n m) : lvC M n := h.2.2.2.2.1
theorem RQ.I {d : List Nat} {T : vT} {M : vM} {n m : Nat} (h : RQ d T M n m) : Ri T M 0 40 ∧ Ri T M 1 50 := h.2.2.2.2.2.1
theorem RQ.E {d : List Nat} {T : vT} {M : vM} {n m : Nat} (h : RQ d T M n m) : Re T M := h.2.2.2.2.2.2.1
theorem RQ.D {d : List Nat} {T : vT} {M : vM} {n m : Nat} (h : RQ d T M n m) : Rd T d := h.2.2.2.2.2.2.2
section TX
variable {d : List Nat} {T : vT} {M : vM} {n m : Nat}
/-- what take makes of the state -/
theorem RQ.tk (h : RQ d T M n m) : ∃ d1, vRg d d1 ∧ tkH T M n d d1 ∧ ∀ T1 M1, xoS T M n T1 M1 → RQ d1 T1 M1 n m := by
  have hD := h.D
  by_cases hx : xok3 M n
  · have mk : ∀ (d1 : List Nat) (T1 : vT) (M1 : vM), xoS T M n T1 M1 → Rd T1 d1 → RQ d1 T1 M1 n m := by
      rintro d1 T1 M1 ⟨o1, ⟨o2, o3⟩, o4, -⟩ hD1
      obtain ⟨o5, o6⟩ := o4 hx
      refine ⟨o3, h.C.mv (fun k z => o1 k (by unfold rcK at z; unfold xoK; simp at z ⊢; omega)) (fun j _ => by rw [o1 200 (by decide)]) ?_, h.P.mv (by rw [o1 60 (by decide)]) (by rw [o1 200 (by decide)]) (o1 220 (by decide)) (o1 61 (by decide)), ⟨RQ.z20 o1 (by decide) h.z2, RQ.z30 o1 (by decide) h.z3⟩, h.L.mv (by rw [o1 200 (by decide)]) (by rw [o1 200 (by decide)]) (o1 201 (by decide)) (o1 202 (by decide)) (o1 203 (by decide)) (o1 231 (by decide)), Ri2.mv h.I (fun k z => o2 k (by simp at z ⊢; omega)) (fun k z => o1 k (by unfold imK at z; unfold xoK; simp at z ⊢; omega)), Or.inr ⟨o5, o6⟩, hD1⟩
      have := h.C.ok
      unfold mOk at *; rw [o1 211 (by decide), o1 212 (by decide)]; exact this
    rcases h.E with ⟨e1, e2⟩ | ⟨e1, e2⟩
    · obtain ⟨n6, n7, n8⟩ := hD.2.2.1 e1
      have hl : (d ++ [106] ++ [107] ++ [108]).length = d.length + 3 := by simp
      have hz : vSz (d ++ [106] ++ [107] ++ [108]) = vSz d + 98304 := by
        have v1 := vSz_app (d ++ [106] ++ [107]) 108
        have v2 := vSz_app (d ++ [106]) 107
        have v3 := vSz_app d 106
        have w1 : vSl 106 = 32768 := rfl
        have w2 : vSl 107 = 32768 := rfl
        have w3 : vSl 108 = 32768 := rfl
        omega
      have b1 := hD.2.2.2.1
      have b2 := hD.2.2.2.2
      unfold rLn at b1
      unfold rSz at b2
      rw [if_pos e1] at b1 b2
      refine ⟨d ++ [106] ++ [107] ++ [108], ⟨by omega, by omega, by omega, by omega⟩, Or.inr (Or.inr ⟨hx, e1, e2, n6, n7, n8, rfl⟩), fun T1 M1 ho => mk _ T1 M1 ho ?_⟩
      obtain ⟨o1, ⟨o2, o3⟩, o4, -⟩ := ho
      obtain ⟨⟨o5, -, -⟩, -⟩ := o4 hx
      have t1 : T1 1 = T 1 := o2 1 (by decide)
      refine ⟨fun z => ?_, fun z => ?_, (fun z => by rw [o5] at z; cases z), ?_, ?_⟩
      · rw [t1] at z; have := hD.1 z; simp; omega
      · rw [t1] at z; have := hD.2.1 z; simp; omega
      · unfold rLn; rw [t1, o5, if_neg (c := some 106 = none) (by simp)]; omega
      · unfold rSz; rw [t1, o5, if_neg (c := some 106 = none) (by simp)]; omega
    · refine ⟨d, hD.rg, Or.inr (Or.inl ⟨hx, e1, e2, rfl⟩), fun T1 M1 ho => mk d T1 M1 ho ?_⟩
      obtain ⟨o1, ⟨o2, o3⟩, o4, -⟩ := ho
      obtain ⟨⟨o5, -, -⟩, -⟩ := o4 hx
      have t1 : T1 1 = T 1 := o2 1 (by decide)
      have t2 : T1 100 6 = T 100 6 := by rw [o5, e1.1]
      unfold Rd rLn rSz at hD ⊢
      rw [t1, t2]; exact hD
  · refine ⟨d, hD.rg, Or.inl ⟨hx, rfl⟩, fun T1 M1 ho => ?_⟩
    obtain ⟨a, b⟩ := ho.2.2.2 hx
    rw [a, b]; exact h
/-- what the reference's exact part leaves -/
theorem RQ.kx {N : vM} (h : RQ d T M n m) (hk : kxS M N) (hl : lvC N n) : RQ d T N n m := by
  obtain ⟨k1, k2⟩ := hk
  refine ⟨h.B, h.C.mv (fun k z => k1 k (by unfold rcK at z; unfold kxK; simp at z ⊢; omega)) (fun j z => k2 j (by simp at z ⊢; omega)) ?_, h.P.mv (by rw [k1 60 (by decide)]) (k2 20 (by decide)) (k1 220 (by decide)) (k1 61 (by decide)), ⟨RQ.z20 k1 (by decide) h.z2, RQ.z30 k1 (by decide) h.z3⟩, hl, Ri2.mv h.I (fun _ _ => rfl) (fun k z => k1 k (by unfold imK at z; unfold kxK; simp at z ⊢; omega)), h.E.mv (k1 100 (by decide)) (k1 106 (by decide)), h.D⟩
  have := h.C.ok
  unfold mOk at *; rw [k1 211 (by decide), k1 212 (by decide)]; exact this
theorem x_two {f g : vMt} {As : List vA} {Q : Prop → xE → xS → Int → Prop} (hu : ∀ ok E s r r', Q ok E s r → Q ok E s r' → r = r') (h : RQ d T M n m)
    (hc : ∀ d1, tkH T M n d d1 → vCon f d d1 (vR 0 :: As) T M (vPi fun r T1 M1 => xoS T M n T1 M1 ∧ Q (xok3 M n) (xEc M n) (xSc M n) r))
    (hr : ∀ (d : List Nat) (T1 : vT) (M1 : vM), vB T1 → mW M1 n → lvC M1 n → vCon g d d (vR 200 :: As) T1 M1 (vPi fun r T2 M2 => T1 = T2 ∧ kxS M1 M2 ∧ lvC M2 n ∧ Q (xokR M1 n) (xEr M1 n) (xSr M1 n) r)) : ∃ d1, vRg d d1 ∧ vTwo f g d d1 As T M := by
  obtain ⟨d1, hg, ht, hq⟩ := h.tk
  refine ⟨d1, hg, (hc d1 ht).imp ?_⟩
  rintro r T1 M1 ⟨ho, hQ⟩
  have h1 := hq T1 M1 ho
  refine (hr d1 T1 M1 h1.B h1.C.mw h1.L).imp ?_
  rintro r2 T2 M2 ⟨rfl, k1, k2, hQ2⟩
  refine ⟨?_, n, m, h1.kx k1 k2⟩
  obtain ⟨x1, x2, x3⟩ := h1.C.x
  obtain ⟨y1, y2, y3⟩ := xc_cg n (ho.1 11 (by decide)) (ho.1 12 (by decide)) (ho.1 13 (by decide)) (ho.1 14 (by decide)) (ho.1 15 (by decide))
  rw [x1, x2, x3, y1, y2, y3] at hQ2
  exact hu _ _ _ _ _ hQ hQ2
theorem t_kept (h : RQ d T M n m) : ∃ d1, vRg d d1 ∧ vTwo m_X6_kept m_X7_kept d d1 [] T M :=
  x_two (Q := kpQ) (fun _ _ _ _ _ => kpQ_u) h (fun d1 ht => c_X6_kept h.B h.C.1 ht) (fun d T1 M1 a b c => c_X7_kept a b c)
theorem t_longest (h : RQ d T M n m) : ∃ d1, vRg d d1 ∧ vTwo m_X6_longest m_X7_longest d d1 [] T M :=
  x_two (Q := lgQ) (fun _ _ _ _ _ => lgQ_u) h (fun d1 ht => c_X6_longest h.B h.C.1 ht) (fun d T1 M1 a b c => c_X7_longest a b c)
theorem t_step (h : RQ d T M n m) : ∃ d1, vRg d d1 ∧ vTwo m_X6_step m_X7_step d d1 [] T M :=
  x_two (Q := spQ) (fun _ _ _ _ _ => spQ_u) h (fun d1 ht => c_X6_step h.B h.C.1 ht) (fun d T1 M1 a b c => c_X7_step a b c)
theorem t_bow {k : Int} (h : RQ d T M n m) : ∃ d1, vRg d d1 ∧ vTwo m_X6_bow m_X7_bow d d1 [vI k] T M := by
  by_cases hk : 1 ≤ k ∧ k ≤ 9
  · refine x_two (Q := fun ok E s r => bwQ ok E s k r) (fun _ _ _ _ _ => bwQ_u) h (fun d1 ht => c_X6_bow h.B h.C.1 ht hk) (fun d T1 M1 a b c => (c_X7_bow a b c).imp ?_)
    rintro r T2 M2 ⟨a1, a2, a3, a4⟩
    exact ⟨a1, a2, a3, (a4.resolve_left (fun z => z.1 hk)).2⟩
  · refine ⟨d, h.D.rg, (c_X6_bow_o hk).imp ?_⟩
    rintro r T1 M1 ⟨rfl, rfl, rfl⟩
    refine (c_X7_bow h.B h.C.mw h.L).imp ?_
    rintro r2 T2 M2 ⟨rfl, a2, a3, a4⟩
    exact ⟨((a4.resolve_right (fun z => hk z.1)).2).symm, n, m, h.kx a2 a3⟩
theorem t_gasps {k w : Int} (h : RQ d T M n m) : ∃ d1, vRg d d1 ∧ vTwo m_X6_gasps m_X7_gasps d d1 [vI k, vI w] T M := by
  by_cases hk : (1 ≤ k ∧ k ≤ 30) ∧ 0 ≤ w ∧ w ≤ 1
  · obtain ⟨q, rfl⟩ := Int.eq_ofNat_of_zero_le (show 0 ≤ k by omega)
    refine x_two (Q := fun ok E s r => gzQ ok E s q w r) (fun _ _ _ _ _ => gzQ_u) h (fun d1 ht => c_X6_gasps h.B h.C.1 ht (by omega) hk.2) (fun d T1 M1 a b c => (c_X7_gasps a b c).imp ?_)
    rintro r T2 M2 ⟨a1, a2, a3, a4⟩
    exact ⟨a1, a2, a3, (a4.resolve_left (fun z => z.1 hk)).2⟩
  · refine ⟨d, h.D.rg, (c_X6_gasps_o hk).imp ?_⟩
    rintro r T1 M1 ⟨rfl, rfl, rfl⟩
    refine (c_X7_gasps h.B h.C.mw h.L).imp ?_
    rintro r2 T2 M2 ⟨rfl, a2, a3, a4⟩
    exact ⟨((a4.resolve_right (fun z => hk z.1)).2).symm, n, m, h.kx a2 a3⟩
end TX
