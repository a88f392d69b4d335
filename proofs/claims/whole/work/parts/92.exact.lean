/-! ===== own: the reference: gasps, whole ===== -/
theorem l_X7_gs37 {d : List Nat} {T : vT} {M : vM} {n w : Int} {Q : Option vA → vT → vM → Prop} (hB : vB T) (go : ∀ x3 x4 x5 x6 x7 x8, vV m_X7_gasps d d Q 56 [some (vR 200), some (vI n), some (vI w), x3, x4, x5, x6, x7, x8] [] d T (vRow M 235 (pMix 32768 (fun _ => 0) (M 235)))) : ∀ c : Nat, c ≤ 32768 → ∀ x4 x5 x6 x7 x8,
    vV m_X7_gasps d d Q 37 [some (vR 200), some (vI n), some (vI w), some (vI c), x4, x5, x6, x7, x8] [] d T (vRow M 235 (pMix c (fun _ => 0) (M 235))) := by
  refine vUp ?_
  intro c hc ih x4 x5 x6 x7 x8
  have e : vUpd (vRow M 235 (pMix c (fun _ => 0) (M 235))) 235 c 0 = vRow M 235 (pMix (c + 1) (fun _ => 0) (M 235)) := by rw [vUpd_vRow, ← pMix_s]
  refine vV.iload_n dX7_gasps_37 rfl ?_
  refine vV.ldc (v := 32768) dX7_gasps_38 kc_X7_52 (by decide) (by decide) ?_
  refine vV.icmp_ge (tgt := 56) dX7_gasps_40 (by decide) (fun h40 => ?_) (fun h40 => ?_)
  · skip
    rw [show c = 32768 by omega]; exact go _ _ _ _ _ _
  · skip
    refine vV.aload_n dX7_gasps_43 rfl ?_
    refine vV.getr dX7_gasps_44 fl_X7_67 (by first | rfl | assumption) rfl (by first | assumption | exact hB _ _ _ rfl) ?_
    refine vV.iload_n dX7_gasps_47 rfl ?_
    refine vV.iconst dX7_gasps_48 (by decide) ?_
    refine vV.iast dX7_gasps_49 (by first | rfl | assumption) (by omega) (by omega) ?_
    rw [e]
    refine vV.iinc (L' := [_, _, _, _, _, _, _, _, _]) dX7_gasps_50 (by decide) rfl (⟨by omega, by omega⟩) rfl ?_
    refine vV.goto (tgt := 37) dX7_gasps_53 (by decide) ?_
    exact ih (by omega) _ _ _ _ _
theorem gaS.t {M N N2 : vM} (h : gaS M N) (h2 : gaS N N2) : gaS M N2 := fun y hy => (h2 y hy).trans (h y hy)
theorem l_X7_gs61 {d : List Nat} {T : vT} {M : vM} {E : xE} {w : Int} {m : Nat} {Q : Option vA → vT → vM → Prop} (hB : vB T) (hE : xEok E) (hX : rX M E) (hm : 1 ≤ m ∧ m ≤ 30)
    (go : ∀ (N : vM) (row : Nat) (x4 x5 x6 x7 x8 : Option vA), row ≤ 1 → gaS M N → gtB E (N 235) (32768 * row) (m - 1) → vV m_X7_gasps d d Q 164 [some (vR 200), some (vI m), some (vI w), some (vI row), x4, x5, x6, x7, x8] [] d T N) : ∀ k : Nat, k ≤ m - 1 → ∀ (N : vM) (row : Nat) (x5 x6 x7 x8 : Option vA), row ≤ 1 → gaS M N → gtB E (N 235) (32768 * row) k →
    vV m_X7_gasps d d Q 61 [some (vR 200), some (vI m), some (vI w), some (vI row), some (vI ((k + 1 : Nat) : Int)), x5, x6, x7, x8] [] d T N := by
  refine vUp ?_
  intro k hk ih N row x5 x6 x7 x8 hr hS hG
  have e9 : (1 : Int) - (row : Int) = ((1 - row : Nat) : Int) := by omega
  have e8 : ((k + 1 : Nat) : Int) + 1 = ((k + 1 + 1 : Nat) : Int) := by omega
  have hnx : ∀ (N2 : vM) (x5 x6 x7 x8 : Option vA), k < m - 1 → gaS N N2 → gtB E (N2 235) (32768 * (1 - row)) (k + 1) → vV m_X7_gasps d d Q 154 [some (vR 200), some (vI m), some (vI w), some (vI row), some (vI ((k + 1 : Nat) : Int)), x5, x6, x7, x8] [] d T N2 := by
    intro N2 x5 x6 x7 x8 hlt hS2 hG2
    refine vV.iconst dX7_gasps_154 (by decide) ?_
    refine vV.iload_n dX7_gasps_155 rfl ?_
    refine vV.isub dX7_gasps_156 (⟨by omega, by omega⟩) ?_
    rw [e9]
    refine vV.istore_n (L' := [_, _, _, _, _, _, _, _, _]) dX7_gasps_157 (by decide) rfl ?_
    refine vV.iinc (L' := [_, _, _, _, _, _, _, _, _]) dX7_gasps_158 (by decide) rfl (⟨by omega, by omega⟩) rfl ?_
    rw [e8]
    refine vV.goto (tgt := 61) dX7_gasps_161 (by decide) ?_
    exact ih hlt N2 (1 - row) _ _ _ _ (by omega) (hS.t hS2) hG2
  refine vV.iload dX7_gasps_61 rfl ?_
  refine vV.iload_n dX7_gasps_63 rfl ?_
  refine vV.icmp_ge (tgt := 164) dX7_gasps_64 (by decide) (fun h64 => ?_) (fun h64 => ?_)
  · skip
    rw [show k = m - 1 by omega] at hG; exact go N row _ _ _ _ _ hr hS hG
  · skip
    refine vV.iconst dX7_gasps_67 (by decide) ?_
    refine vV.istore (L' := [_, _, _, _, _, _, _, _, _]) dX7_gasps_68 (by decide) rfl ?_
    exact l_X7_gs70 (M := N) (N0 := N) hB hE (hS.x hX) hr (by omega) hG (fun N2 x5 x6 x7 x8 g1 g2 => hnx N2 x5 x6 x7 x8 (by omega) g1 g2) 0 (by omega) N _ _ _ (fun y hy => rfl) ⟨fun p _ => rfl, fun s _ z => by omega⟩
def gaR (M : vM) (n : Nat) (m w r : Int) : Prop := (¬ ((1 ≤ m ∧ m ≤ 30) ∧ 0 ≤ w ∧ w ≤ 1) ∧ r = -2) ∨ (((1 ≤ m ∧ m ≤ 30) ∧ 0 ≤ w ∧ w ≤ 1) ∧ gzQ (xokR M n) (xEr M n) (xSr M n) m.toNat w r)
theorem c_X7_gasps {d : List Nat} {T : vT} {M : vM} {n : Nat} {m w : Int} (hB : vB T) (hW : mW M n) (hC : lvC M n) : vCon m_X7_gasps d d [vR 200, vI m, vI w] T M (vPi fun r T1 M1 => T = T1 ∧ kxS M M1 ∧ lvC M1 n ∧ gaR M n m w r) := by
  have hn : n ≤ 6 := hW.2.1.1
  refine vCon.of (by decide) rfl rfl (Nat.le_of_ble_eq_true rfl) ?_
  refine vV.iload_n dX7_gasps_0 rfl ?_
  refine vV.i2l dX7_gasps_1 ?_
  refine vV.lconst (v := 1) dX7_gasps_2 (by decide) (by decide) ?_
  refine vV.ldc2 (v := 30) dX7_gasps_3 kl_X7_286 (by decide) (by decide) ?_
  refine vV.cSi dX7_gasps_6 ml_X7_92 cw_X7_in sw_X7_in (by unfold vRoom; decide) c_X7_in rfl rfl (Nat.le_of_ble_eq_true rfl) ?_
  rintro x6 _ _ hx6 ⟨hy6, rfl, rfl⟩
  unfold pIn at hy6
  refine vV.if_eq (tgt := 22) dX7_gasps_9 (by decide) (fun h9 => ?_) (fun h9 => ?_)
  · skip
    refine vV.bipush (v := (-2)) dX7_gasps_22 (by decide) (by decide) ?_
    refine vV.ri dX7_gasps_24 rfl ?_
    first | exact ⟨rfl, ⟨fun _ _ => rfl, fun _ _ => rfl⟩, hC, Or.inl ⟨fun z => no01 hy6 h9 z.1, rfl⟩⟩ | exact ⟨rfl, ⟨fun _ _ => rfl, fun _ _ => rfl⟩, hC, Or.inl ⟨fun z => no01 hy16 h19 z.2, rfl⟩⟩
  · skip
    refine vV.iload_n dX7_gasps_12 rfl ?_
    refine vV.i2l dX7_gasps_13 ?_
    refine vV.lconst (v := 0) dX7_gasps_14 (by decide) (by decide) ?_
    refine vV.lconst (v := 1) dX7_gasps_15 (by decide) (by decide) ?_
    refine vV.cSi dX7_gasps_16 ml_X7_92 cw_X7_in sw_X7_in (by unfold vRoom; decide) c_X7_in rfl rfl (Nat.le_of_ble_eq_true rfl) ?_
    rintro x16 _ _ hx16 ⟨hy16, rfl, rfl⟩
    unfold pIn at hy16
    refine vV.if_ne (tgt := 25) dX7_gasps_19 (by decide) (fun h19 => ?_) (fun h19 => ?_)
    · skip
      have hm0 : (1 ≤ m ∧ m ≤ 30) ∧ 0 ≤ w ∧ w ≤ 1 := ⟨yes01 hy6 h9, yes01 hy16 h19⟩
      obtain ⟨m, rfl⟩ := Int.eq_ofNat_of_zero_le (show 0 ≤ m by omega)
      have hm : 1 ≤ m ∧ m ≤ 30 := by omega
      refine vV.aload_n dX7_gasps_25 rfl ?_
      refine vV.cVi dX7_gasps_26 ml_X7_269 cw_X7_findExact iw_X7_findExact (by first | rfl | assumption) rfl (by unfold vRoom; decide) (c_X7_findExact hB hW.1 hn) rfl rfl (Nat.le_of_ble_eq_true rfl) ?_
      rintro x1 _ N hx1 ⟨rfl, hI, hy1⟩
      have hkN := hI.k
      have hWN := hkN.w hW
      obtain ⟨eE, eS⟩ := hkN.e (n := n)
      have hIN := hI.self
      have hCN := lvC_fe hI hC
      have r204 : N 204 = M 204 := hI.1 204 (by decide)
      refine vV.if_ne (tgt := 35) dX7_gasps_29 (by decide) (fun h29 => ?_) (fun h29 => ?_)
      · skip
        have hok : xokR M n := (show 1 ≤ exc (M 204) n ∧ exc (M 204) n ≤ 3 from yes01 hy1 (by assumption))
        have hokN : 1 ≤ exc (N 204) n ∧ exc (N 204) n ≤ 3 := by rw [r204]; exact hok
        have hE := xEr_ok hW hok
        have hs := xSr_st hW
        have hXN : rX N (xEr M n) := by rw [← eE]; exact hIN.x hn hokN.2
        have hps := enR_lt (hs.ok hE)
        refine vV.iconst dX7_gasps_35 (by decide) ?_
        refine vV.istore_n (L' := [_, _, _, _, _, _, _, _, _]) dX7_gasps_36 (by decide) rfl ?_
        have h := fun x4 x5 x6 x7 x8 => l_X7_gs37 (d := d) (T := T) (M := N) (n := (m : Int)) (w := w) (Q := vPi fun r T1 M1 => T = T1 ∧ kxS M M1 ∧ lvC M1 n ∧ gaR M n m w r) hB (fun x3 x4 x5 x6 x7 x8 => ?_) 0 (by omega) x4 x5 x6 x7 x8
        rw [pMix_0, vRow_id] at h
        · exact h _ _ _ _ _
        · obtain ⟨N2, hN2⟩ : ∃ N2, N2 = vRow N 235 (pMix 32768 (fun _ => 0) (N 235)) := ⟨_, rfl⟩
          have hb2 : gaS N N2 := fun k hk => by rw [hN2, vRow_n (by simpa using hk)]
          have hz : ∀ p : Nat, p < 32768 → N2 235 p = 0 := fun p hp => by rw [hN2, vRow_s, pMix_lt hp]
          rw [← hN2]
          clear hN2
          have hG0 : gtB (xEr M n) (N2 235) (32768 * 0) 0 := fun s hs9 => by
            rw [show ((32768 * 0 + enR s : Nat) : Int) = ((enR s : Nat) : Int) by omega, hz _ (enR_lt (hs9.ok hE))]
            exact Or.inr ⟨0, rfl, ⟨s, rfl, rfl⟩, fun g' ⟨s', _, z⟩ => by omega⟩
          have hX2 := hb2.x hXN
          have hfin : ∀ (N3 : vM) (row : Nat) (x4 x5 x6 x7 x8 : Option vA), row ≤ 1 → gaS N2 N3 → gtB (xEr M n) (N3 235) (32768 * row) (m - 1) → vV m_X7_gasps d d (vPi fun r T1 M1 => T = T1 ∧ kxS M M1 ∧ lvC M1 n ∧ gaR M n m w r) 164 [some (vR 200), some (vI m), some (vI w), some (vI row), x4, x5, x6, x7, x8] [] d T N3 := by
            intro N3 row x4 x5 x6 x7 x8 hrow hS3 hG3
            have hb3 := hb2.t hS3
            have hkN3 : kxS M N3 := ⟨fun k hk => (hb3 k (by unfold kxK at hk; simp at hk ⊢; omega)).trans (hkN.1 k hk), fun j hj => by rw [hb3 200 (by decide)]; exact hkN.2 j hj⟩
            have hIN3 : feI N3 N3 n := hIN.mv (hb3 204 (by decide)) (by rw [hb3 200 (by decide)]) (hb3 229 (by decide))
            have hWN3 := hkN3.w hW
            obtain ⟨eE3, eS3⟩ := hkN3.e (n := n)
            have hok3 : exc (N3 204) n ≤ 3 := by rw [hb3 204 (by decide)]; exact hokN.2
            have hsn := fun d => c_X7_stateNow (d := d) (T := T) hB hWN3 hIN3 hok3
            rw [eS3] at hsn
            have hC3 : lvC N3 n := by
              unfold lvC at hCN ⊢
              rw [hb3 200 (by decide), hb3 201 (by decide), hb3 202 (by decide), hb3 203 (by decide), hb3 231 (by decide)]
              exact hCN
            have hX3 := hb3.x hXN
            have hP : ∀ r, gaQ (xEr M n) (xSr M n) (m - 1 + 1) w r → T = T ∧ kxS M N3 ∧ lvC N3 n ∧ gaR M n m w r := fun r hr => by
              rw [show m - 1 + 1 = m by omega] at hr
              exact ⟨rfl, hkN3, hC3, Or.inr ⟨hm0, Or.inr ⟨hok, hr⟩⟩⟩
            refine vV.bipush (v := (-6)) dX7_gasps_164 (by decide) (by decide) ?_
            refine vV.istore (L' := [_, _, _, _, _, _, _, _, _]) dX7_gasps_166 (by decide) rfl ?_
            refine vV.bipush (v := (-6)) dX7_gasps_168 (by decide) (by decide) ?_
            refine vV.istore (L' := [_, _, _, _, _, _, _, _, _]) dX7_gasps_170 (by decide) rfl ?_
            refine vV.iconst dX7_gasps_172 (by decide) ?_
            refine vV.istore (L' := [_, _, _, _, _, _, _, _, _]) dX7_gasps_173 (by decide) rfl ?_
            exact l_X7_gs175 (P := fun r T1 M1 => T = T1 ∧ kxS M M1 ∧ lvC M1 n ∧ gaR M n m w r) hB hE hX3 hs hrow (by omega) hG3 hsn hP 0 (by omega) _ _ _ _ (Or.inl ⟨rfl, rfl, fun u g z => by omega⟩)
          refine vV.iconst dX7_gasps_56 (by decide) ?_
          refine vV.istore_n (L' := [_, _, _, _, _, _, _, _, _]) dX7_gasps_57 (by decide) rfl ?_
          refine vV.iconst dX7_gasps_58 (by decide) ?_
          refine vV.istore (L' := [_, _, _, _, _, _, _, _, _]) dX7_gasps_59 (by decide) rfl ?_
          exact l_X7_gs61 (M := N2) hB hE hX2 hm hfin 0 (by omega) N2 0 _ _ _ _ (by omega) (fun _ _ => rfl) hG0
      · skip
        refine vV.bipush (v := (-3)) dX7_gasps_32 (by decide) (by decide) ?_
        refine vV.ri dX7_gasps_34 rfl ?_
        exact ⟨rfl, hkN, hCN, Or.inr ⟨hm0, Or.inl ⟨(show ¬ (1 ≤ exc (M 204) n ∧ exc (M 204) n ≤ 3) from no01 hy1 h29), rfl⟩⟩⟩
    · skip
      refine vV.bipush (v := (-2)) dX7_gasps_22 (by decide) (by decide) ?_
      refine vV.ri dX7_gasps_24 rfl ?_
      first | exact ⟨rfl, ⟨fun _ _ => rfl, fun _ _ => rfl⟩, hC, Or.inl ⟨fun z => no01 hy6 h9 z.1, rfl⟩⟩ | exact ⟨rfl, ⟨fun _ _ => rfl, fun _ _ => rfl⟩, hC, Or.inl ⟨fun z => no01 hy16 h19 z.2, rfl⟩⟩
