/-! ===== own: the reference: bow ===== -/
def bwR (M : vM) (n : Nat) (m r : Int) : Prop := (¬ (1 ≤ m ∧ m ≤ 9) ∧ r = -2) ∨ ((1 ≤ m ∧ m ≤ 9) ∧ bwQ (xokR M n) (xEr M n) (xSr M n) m r)
theorem c_X7_bow {d : List Nat} {T : vT} {M : vM} {n : Nat} {m : Int} (hB : vB T) (hW : mW M n) (hC : lvC M n) : vCon m_X7_bow d d [vR 200, vI m] T M (vPi fun r T1 M1 => T = T1 ∧ kxS M M1 ∧ lvC M1 n ∧ bwR M n m r) := by
  have hn : n ≤ 6 := hW.2.1.1
  refine vCon.of (by decide) rfl rfl (Nat.le_of_ble_eq_true rfl) ?_
  refine vV.iload_n dX7_bow_0 rfl ?_
  refine vV.i2l dX7_bow_1 ?_
  refine vV.lconst (v := 1) dX7_bow_2 (by decide) (by decide) ?_
  refine vV.ldc2 (v := 9) dX7_bow_3 kl_X7_278 (by decide) (by decide) ?_
  refine vV.cSi dX7_bow_6 ml_X7_92 cw_X7_in sw_X7_in (by unfold vRoom; decide) c_X7_in rfl rfl (Nat.le_of_ble_eq_true rfl) ?_
  rintro x6 _ _ hx6 ⟨hy6, rfl, rfl⟩
  unfold pIn at hy6
  refine vV.if_ne (tgt := 15) dX7_bow_9 (by decide) (fun h9 => ?_) (fun h9 => ?_)
  · skip
    have hm := yes01 hy6 h9
    refine vV.aload_n dX7_bow_15 rfl ?_
    refine vV.cVi dX7_bow_16 ml_X7_269 cw_X7_findExact iw_X7_findExact (by first | rfl | assumption) rfl (by unfold vRoom; decide) (c_X7_findExact hB hW.1 hn) rfl rfl (Nat.le_of_ble_eq_true rfl) ?_
    rintro x1 _ N hx1 ⟨rfl, hI, hy1⟩
    have hkN := hI.k
    have hWN := hkN.w hW
    obtain ⟨eE, eS⟩ := hkN.e (n := n)
    have hIN := hI.self
    have hCN := lvC_fe hI hC
    have r204 : N 204 = M 204 := hI.1 204 (by decide)
    refine vV.if_ne (tgt := 25) dX7_bow_19 (by decide) (fun h19 => ?_) (fun h19 => ?_)
    · skip
      have hok : xokR M n := (show 1 ≤ exc (M 204) n ∧ exc (M 204) n ≤ 3 from yes01 hy1 (by assumption))
      have hokN : 1 ≤ exc (N 204) n ∧ exc (N 204) n ≤ 3 := by rw [r204]; exact hok
      have hE := xEr_ok hW hok
      have hs := xSr_st hW
      have hXN : rX N (xEr M n) := by rw [← eE]; exact hIN.x hn hokN.2
      have hps := enR_lt (hs.ok hE)
      refine vV.iconst dX7_bow_25 (by decide) ?_
      refine vV.istore_n (L' := [_, _, _, _, _, _, _]) dX7_bow_26 (by decide) rfl ?_
      have h := fun x3 x4 x5 x6 => l_X7_bw27 (d := d) (T := T) (M := N) (n := m) (Q := vPi fun r T1 M1 => T = T1 ∧ kxS M M1 ∧ lvC M1 n ∧ bwR M n m r) hB (fun x2 x3 x4 x5 x6 => ?_) 0 (by omega) x3 x4 x5 x6
      rw [pMix_0, vRow_id] at h
      · exact h _ _ _ _
      · obtain ⟨N2, hN2⟩ : ∃ N2, N2 = vRow N 233 (pMix 32768 (fun _ => -6) (N 233)) := ⟨_, rfl⟩
        have hb2 : mSame [233] N N2 := fun k hk => by rw [hN2, vRow_n (by simpa using hk)]
        have hz : ∀ p : Nat, p < 32768 → N2 233 p = -6 := fun p hp => by rw [hN2, vRow_s, pMix_lt hp]
        rw [← hN2]
        clear hN2
        have hIN2 : feI N2 N2 n := hIN.mv (hb2 204 (by decide)) (by rw [hb2 200 (by decide)]) (hb2 229 (by decide))
        have hkN2 : kxS M N2 := ⟨fun k hk => (hb2 k (by unfold kxK at hk; simp at hk ⊢; omega)).trans (hkN.1 k hk), fun j hj => by rw [hb2 200 (by decide)]; exact hkN.2 j hj⟩
        have hWN2 := hkN2.w hW
        obtain ⟨eE2, eS2⟩ := hkN2.e (n := n)
        have hok2 : exc (N2 204) n ≤ 3 := by rw [hb2 204 (by decide)]; exact hokN.2
        have hsn := c_X7_stateNow (d := d) (T := T) hB hWN2 hIN2 hok2
        rw [eS2] at hsn
        refine vV.aload_n dX7_bow_47 rfl ?_
        refine vV.getr dX7_bow_48 fl_X7_63 (by first | rfl | assumption) rfl (by first | assumption | exact hB _ _ _ rfl) ?_
        refine vV.iconst dX7_bow_51 (by decide) ?_
        refine vV.aload_n dX7_bow_52 rfl ?_
        refine vV.cVi dX7_bow_53 ml_X7_275 cw_X7_stateNow iw_X7_stateNow (by first | rfl | assumption) rfl (by unfold vRoom; decide) hsn rfl rfl (Nat.le_of_ble_eq_true rfl) ?_
        rintro x53 _ _ hx53 ⟨rfl, rfl, rfl⟩
        refine vV.iast dX7_bow_56 (by first | rfl | assumption) (by omega) (by omega) ?_
        refine vV.aload_n dX7_bow_57 rfl ?_
        refine vV.getr dX7_bow_58 fl_X7_60 (by first | rfl | assumption) rfl (by first | assumption | exact hB _ _ _ rfl) ?_
        refine vV.aload_n dX7_bow_61 rfl ?_
        refine vV.getr dX7_bow_62 fl_X7_63 (by first | rfl | assumption) rfl (by first | assumption | exact hB _ _ _ rfl) ?_
        refine vV.iconst dX7_bow_65 (by decide) ?_
        refine vV.iald dX7_bow_66 (by first | rfl | assumption) (by omega) (by omega) ?_
        rw [vUpd_s]
        refine vV.iconst dX7_bow_67 (by decide) ?_
        refine vV.iast dX7_bow_68 (by first | rfl | assumption) (by omega) (by omega) ?_
        refine vV.iconst dX7_bow_69 (by decide) ?_
        refine vV.istore_n (L' := [_, _, _, _, _, _, _]) dX7_bow_70 (by decide) rfl ?_
        refine vV.iconst dX7_bow_71 (by decide) ?_
        refine vV.istore_n (L' := [_, _, _, _, _, _, _]) dX7_bow_72 (by decide) rfl ?_
        obtain ⟨N3, hN3⟩ : ∃ N3, N3 = vUpd (vUpd N2 234 0 (enR (xSr M n) : Nat)) 233 (enR (xSr M n) : Nat) 0 := ⟨_, rfl⟩
        rw [← hN3]
        have hb3 : mSame [233, 234] N N3 := fun y hy => by simp at hy; rw [hN3, vUpd_row hy.1, vUpd_row hy.2]; exact hb2 y (by simp; omega)
        have hq0 : N3 234 0 = (enR (xSr M n) : Nat) := by rw [hN3, vUpd_nk (by decide), vUpd_s]
        have hq1 : N3 233 (enR (xSr M n) : Nat) = 0 := by rw [hN3, vUpd_s]
        have hq2 : ∀ s, xSt (xEr M n) s → xSr M n ≠ s → N3 233 (enR s : Nat) = -6 := fun s hs9 e => by
          rw [hN3, vUpd_ni (fun z => e (enR_inj (hs.ok hE) (hs9.ok hE) (by omega))), vUpd_nk (by decide), hz _ (enR_lt (hs9.ok hE))]
        clear hN3
        have hQ : bqI (xEr M n) N3 1 (fun _ => xSr M n) (fun _ => 0) := by
          refine ⟨fun i hi => ⟨hs, ?_, ?_⟩, fun i j hi hj _ => by omega, fun s hs9 => ?_⟩
          · rw [show (i : Int) = 0 by omega]; exact hq0
          · exact hq1
          · by_cases e : xSr M n = s
            · exact Or.inr ⟨0, by omega, e⟩
            · refine Or.inl ⟨?_, fun i _ => e⟩
              rw [hq2 s hs9 e]; decide
        have hRr : brI (xEr M n) (xSr M n) m 1 (fun _ => xSr M n) (fun _ => 0) 0 0 := by
          refine ⟨fun i hi => ?_, fun i j _ _ => Nat.le_refl _, fun _ j hj => Nat.zero_le _, fun i hi => by omega, fun u s' hu => by omega, rfl, rfl, by omega, by omega, fun i hi => Nat.zero_le _⟩
          show xSr M n = xSr M n
          rfl
        have hfin : ∀ r N4, bwS N N4 → bowQ (-6) (xEr M n) (xSr M n) m r → T = T ∧ kxS M N4 ∧ lvC N4 n ∧ bwR M n m r := fun r N4 h3 hr => by
          refine ⟨rfl, ⟨fun k hk => (h3 k (by unfold kxK at hk; simp at hk ⊢; omega)).trans (hkN.1 k hk), fun j hj => by rw [h3 200 (by decide)]; exact hkN.2 j hj⟩, ?_, Or.inr ⟨hm, Or.inr ⟨hok, hr⟩⟩⟩
          unfold lvC at hCN ⊢
          rw [h3 200 (by decide), h3 201 (by decide), h3 202 (by decide), h3 203 (by decide), h3 231 (by decide)]
          exact hCN
        exact l_X7_bw73 (s0 := xSr M n) (M := N) hB hE hXN hm hfin 32769 0 rfl N3 1 (fun _ => xSr M n) (fun _ => 0) _ _ _ hb3 hQ hRr
    · skip
      refine vV.bipush (v := (-3)) dX7_bow_22 (by decide) (by decide) ?_
      refine vV.ri dX7_bow_24 rfl ?_
      exact ⟨rfl, hkN, hCN, Or.inr ⟨hm, Or.inl ⟨(show ¬ (1 ≤ exc (M 204) n ∧ exc (M 204) n ≤ 3) from no01 hy1 h19), rfl⟩⟩⟩
  · skip
    refine vV.bipush (v := (-2)) dX7_bow_12 (by decide) (by decide) ?_
    refine vV.ri dX7_bow_14 rfl ?_
    exact ⟨rfl, ⟨fun _ _ => rfl, fun _ _ => rfl⟩, hC, Or.inl ⟨no01 hy6 h9, rfl⟩⟩
