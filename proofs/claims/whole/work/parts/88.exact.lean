/-! ===== own: the reference: bow, the walk ===== -/
theorem l_X7_bw73 {d : List Nat} {T : vT} {M : vM} {E : xE} {s0 : xS} {n : Int} {P : Int → vT → vM → Prop} (hB : vB T) (hE : xEok E) (hX : rX M E) (hn : 1 ≤ n ∧ n ≤ 9) (hP : ∀ r N, bwS M N → bowQ (-6) E s0 n r → P r T N) : ∀ (f k : Nat), k + f = 32769 → ∀ (N : vM) (mn : Nat) (Q : Nat → xS) (F : Nat → Nat) (x4 x5 x6 : Option vA), bwS M N → bqI E N mn Q F → brI E s0 n mn Q F k 0 →
    vV m_X7_bow d d (vPi P) 73 [some (vR 200), some (vI n), some (vI mn), some (vI k), x4, x5, x6] [] d T N := by
  intro f
  induction f with
  | zero =>
    intro k hf N mn Q F x4 x5 x6 hS hI hR
    have h1 := hI.le hE
    have h2 := hR.2.2.2.2.2.2.2.1
    omega
  | succ f ih =>
    intro k hf N mn Q F x4 x5 x6 hS hI hR
    have hmn := hI.le hE
    have hkm := hR.2.2.2.2.2.2.2.1
    have hXN := hS.x hX
    refine vV.iload_n dX7_bow_73 rfl ?_
    refine vV.iload_n dX7_bow_74 rfl ?_
    refine vV.icmp_ge (tgt := 177) dX7_bow_75 (by decide) (fun h75 => ?_) (fun h75 => ?_)
    · skip
      refine vV.bipush (v := (-6)) dX7_bow_177 (by decide) (by decide) ?_
      refine vV.ri dX7_bow_179 rfl ?_
      rw [show k = mn by omega] at hR; exact hP _ N hS hR.no
    · skip
      have hk : k < mn := by omega
      obtain ⟨q1, q2, q3⟩ := hI.1 k hk
      have hps := enR_lt (q1.ok hE)
      refine vV.aload_n dX7_bow_78 rfl ?_
      refine vV.getr dX7_bow_79 fl_X7_63 (by first | rfl | assumption) rfl (by first | assumption | exact hB _ _ _ rfl) ?_
      refine vV.iload_n dX7_bow_82 rfl ?_
      refine vV.iald dX7_bow_83 (by first | rfl | assumption) (by omega) (by omega) ?_
      rw [q2]
      refine vV.istore (L' := [_, _, _, _, _, _, _]) dX7_bow_84 (by decide) rfl ?_
      refine vV.aload_n dX7_bow_86 rfl ?_
      refine vV.iload dX7_bow_87 rfl ?_
      refine vV.iload_n dX7_bow_89 rfl ?_
      refine vV.cVi dX7_bow_90 ml_X7_280 cw_X7_canBow iw_X7_canBow (by first | rfl | assumption) rfl (by unfold vRoom; decide) (c_X7_canBow hB hE hXN q1 hn) rfl rfl (Nat.le_of_ble_eq_true rfl) ?_
      rintro x90 _ _ hx90 ⟨hy90, rfl, rfl⟩
      subst hy90
      refine vV.if_eq (tgt := 104) dX7_bow_93 (by decide) (fun h93 => ?_) (fun h93 => ?_)
      · skip
        refine vV.iconst dX7_bow_104 (by decide) ?_
        refine vV.istore (L' := [_, _, _, _, _, _, _]) dX7_bow_105 (by decide) rfl ?_
        exact l_X7_bw107 hB hE hX (fun N mn Q F x4 x5 x6 g1 g2 g3 g4 => ih (k + 1) (by omega) N mn Q F x4 x5 x6 g1 g2 g3) 0 (by omega) N mn Q F _ hS hI hR hk rfl (bI_eq h93)
      · skip
        refine vV.aload_n dX7_bow_96 rfl ?_
        refine vV.getr dX7_bow_97 fl_X7_60 (by first | rfl | assumption) rfl (by first | assumption | exact hB _ _ _ rfl) ?_
        refine vV.iload dX7_bow_100 rfl ?_
        refine vV.iald dX7_bow_102 (by first | rfl | assumption) (by omega) (by omega) ?_
        rw [q3]
        refine vV.ri dX7_bow_103 rfl ?_
        exact hP _ N hS (hR.yes hk (bI_ne h93))
theorem l_X7_bw27 {d : List Nat} {T : vT} {M : vM} {n : Int} {Q : Option vA → vT → vM → Prop} (hB : vB T) (go : ∀ x2 x3 x4 x5 x6, vV m_X7_bow d d Q 47 [some (vR 200), some (vI n), x2, x3, x4, x5, x6] [] d T (vRow M 233 (pMix 32768 (fun _ => -6) (M 233)))) : ∀ c : Nat, c ≤ 32768 → ∀ x3 x4 x5 x6,
    vV m_X7_bow d d Q 27 [some (vR 200), some (vI n), some (vI c), x3, x4, x5, x6] [] d T (vRow M 233 (pMix c (fun _ => -6) (M 233))) := by
  refine vUp ?_
  intro c hc ih x3 x4 x5 x6
  have e : vUpd (vRow M 233 (pMix c (fun _ => -6) (M 233))) 233 c (-6) = vRow M 233 (pMix (c + 1) (fun _ => -6) (M 233)) := by rw [vUpd_vRow, ← pMix_s]
  refine vV.iload_n dX7_bow_27 rfl ?_
  refine vV.ldc (v := 32768) dX7_bow_28 kc_X7_52 (by decide) (by decide) ?_
  refine vV.icmp_ge (tgt := 47) dX7_bow_30 (by decide) (fun h30 => ?_) (fun h30 => ?_)
  · skip
    rw [show c = 32768 by omega]; exact go _ _ _ _ _
  · skip
    refine vV.aload_n dX7_bow_33 rfl ?_
    refine vV.getr dX7_bow_34 fl_X7_60 (by first | rfl | assumption) rfl (by first | assumption | exact hB _ _ _ rfl) ?_
    refine vV.iload_n dX7_bow_37 rfl ?_
    refine vV.bipush (v := (-6)) dX7_bow_38 (by decide) (by decide) ?_
    refine vV.iast dX7_bow_40 (by first | rfl | assumption) (by omega) (by omega) ?_
    rw [e]
    refine vV.iinc (L' := [_, _, _, _, _, _, _]) dX7_bow_41 (by decide) rfl (⟨by omega, by omega⟩) rfl ?_
    refine vV.goto (tgt := 27) dX7_bow_44 (by decide) ?_
    exact ih (by omega) _ _ _ _
