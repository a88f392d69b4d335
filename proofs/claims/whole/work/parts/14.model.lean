/-! ===== own: the reference: a tick ===== -/
/-- nothing but the rows S has changed -/
def mSame (S : List Nat) (M M1 : vM) : Prop := ∀ k, k ∉ S → M1 k = M k
def mSlot (J : List Int) (M M1 : vM) : Prop := ∀ j, j ∉ J → M1 200 j = M 200 j
def pDis (n : Nat) (pl : Int → Int) : Prop := ∀ i j : Nat, i < n → j < n → pl i = pl j → i = j
theorem pAt_of {n : Nat} {pl : Int → Int} (hd : pDis n pl) {p : Nat} (hp : p < n) : pAt n pl (pl p) = some p := by
  unfold pAt
  refine pFind_yes hp (by simp) (fun j hj => ?_)
  simp
  intro h
  have := hd j p (by omega) hp h
  omega
theorem pAt_some {n : Nat} {pl : Int → Int} {man : Int} {p : Nat} (h : pAt n pl man = some p) : p < n ∧ pl p = man := by
  have := pFind_some h; simp at this; exact ⟨this.1, this.2.1⟩
theorem pHere_some {n : Nat} {pl tu : Int → Int} {man : Int} {p : Nat} (h : pHere n pl tu man = some p) : p < n ∧ pl p = man ∧ 0 < tu p := by
  have := pFind_some h; simp at this; exact ⟨this.1, this.2.1.1, this.2.1.2⟩
theorem pHere_at {n : Nat} {pl tu : Int → Int} {man : Int} (hd : pDis n pl) {p : Nat} (h : pHere n pl tu man = some p) : pAt n pl man = some p := by
  obtain ⟨h1, h2, -⟩ := pHere_some h
  rw [← h2]; exact pAt_of hd h1
theorem pHere_std {n : Nat} {pl tu : Int → Int} {man : Int} (hd : pDis n pl) : pStd tu (pAt n pl man) = (pHere n pl tu man).isSome := by
  cases h : pHere n pl tu man with
  | some p => rw [pHere_at hd h]; have := pHere_some h; simp [pStd, this]
  | none =>
    cases h2 : pAt n pl man with
    | none => rfl
    | some p =>
      obtain ⟨a1, a2⟩ := pAt_some h2
      have hz : (decide (pl p = man) && decide (0 < tu p)) = false := pFind_some.pFind_none h p a1
      simp [a2] at hz
      simp [pStd]; omega
theorem dX7_can_0 : decode cX7_can 0 = .ok (.iload_n 1, 1) := by decide +kernel
theorem dX7_can_1 : decode cX7_can 1 = .ok (.ifCond .eq 41, 3) := by decide +kernel
theorem dX7_can_4 : decode cX7_can 4 = .ok (.iload_n 1, 1) := by decide +kernel
theorem dX7_can_5 : decode cX7_can 5 = .ok (.iconst 1, 1) := by decide +kernel
theorem dX7_can_6 : decode cX7_can 6 = .ok (.if_icmp .ne 10, 3) := by decide +kernel
theorem dX7_can_9 : decode cX7_can 9 = .ok (.aload_n 0, 1) := by decide +kernel
theorem dX7_can_10 : decode cX7_can 10 = .ok (.getfield 123, 3) := by decide +kernel
theorem dX7_can_13 : decode cX7_can 13 = .ok (.ifCond .gt 29, 3) := by decide +kernel
theorem dX7_can_16 : decode cX7_can 16 = .ok (.iload_n 1, 1) := by decide +kernel
theorem dX7_can_17 : decode cX7_can 17 = .ok (.iconst 2, 1) := by decide +kernel
theorem dX7_can_18 : decode cX7_can 18 = .ok (.if_icmp .ne 12, 3) := by decide +kernel
theorem dX7_can_21 : decode cX7_can 21 = .ok (.aload_n 0, 1) := by decide +kernel
theorem dX7_can_22 : decode cX7_can 22 = .ok (.getfield 123, 3) := by decide +kernel
theorem dX7_can_25 : decode cX7_can 25 = .ok (.bipush 7, 2) := by decide +kernel
theorem dX7_can_27 : decode cX7_can 27 = .ok (.if_icmp .lt 15, 3) := by decide +kernel
theorem dX7_can_30 : decode cX7_can 30 = .ok (.iload_n 1, 1) := by decide +kernel
theorem dX7_can_31 : decode cX7_can 31 = .ok (.iconst 3, 1) := by decide +kernel
theorem dX7_can_32 : decode cX7_can 32 = .ok (.if_icmp .ne 14, 3) := by decide +kernel
theorem dX7_can_35 : decode cX7_can 35 = .ok (.aload_n 0, 1) := by decide +kernel
theorem dX7_can_36 : decode cX7_can 36 = .ok (.invokevirtual 141, 3) := by decide +kernel
theorem dX7_can_39 : decode cX7_can 39 = .ok (.ifCond .lt 7, 3) := by decide +kernel
theorem dX7_can_42 : decode cX7_can 42 = .ok (.iconst 1, 1) := by decide +kernel
theorem dX7_can_43 : decode cX7_can 43 = .ok (.goto 4, 3) := by decide +kernel
theorem dX7_can_46 : decode cX7_can 46 = .ok (.iconst 0, 1) := by decide +kernel
theorem dX7_can_47 : decode cX7_can 47 = .ok (.ireturn, 1) := by decide +kernel
theorem c_X7_can {d : List Nat} {T : vT} {M : vM} {n : Nat} {x : Int} (hB : vB T) (hc : M 200 4 = n) (hn : n ≤ 6) (hdis : pDis n (M 211)) (h0 : 0 ≤ x) (h3 : x ≤ 3) : vCon m_X7_can d d [vR 200, vI x] T M (vPi fun r T1 M1 => r = bI (pCan n (M 211) (M 212) (M 200 12) x) ∧ T = T1 ∧ M = M1) := by
  refine vCon.of (by decide) rfl rfl (Nat.le_of_ble_eq_true rfl) ?_
  refine vV.iload_n dX7_can_0 rfl ?_
  refine vV.if_eq (tgt := 42) dX7_can_1 (by decide) (fun h1 => ?_) (fun h1 => ?_)
  · skip
    refine vV.iconst dX7_can_42 (by decide) ?_
    refine vV.goto (tgt := 47) dX7_can_43 (by decide) ?_
    refine vV.rz dX7_can_47 rfl (by first | exact Or.inl rfl | exact Or.inr rfl | assumption) ?_
    refine ⟨?_, rfl, rfl⟩; unfold pCan bI; (repeat' split) <;> first | rfl | omega | (simp_all; done) | (simp_all; omega)
  · skip
    refine vV.iload_n dX7_can_4 rfl ?_
    refine vV.iconst dX7_can_5 (by decide) ?_
    refine vV.icmp_ne (tgt := 16) dX7_can_6 (by decide) (fun h6 => ?_) (fun h6 => ?_)
    · skip
      refine vV.iload_n dX7_can_16 rfl ?_
      refine vV.iconst dX7_can_17 (by decide) ?_
      refine vV.icmp_ne (tgt := 30) dX7_can_18 (by decide) (fun h18 => ?_) (fun h18 => ?_)
      · skip
        refine vV.iload_n dX7_can_30 rfl ?_
        refine vV.iconst dX7_can_31 (by decide) ?_
        refine vV.icmp_ne (tgt := 46) dX7_can_32 (by decide) (fun h32 => ?_) (fun h32 => ?_)
        · skip
          refine vV.iconst dX7_can_46 (by decide) ?_
          refine vV.rz dX7_can_47 rfl (by first | exact Or.inl rfl | exact Or.inr rfl | assumption) ?_
          refine ⟨?_, rfl, rfl⟩; unfold pCan bI; (repeat' split) <;> first | rfl | omega | (simp_all; done) | (simp_all; omega)
        · skip
          refine vV.aload_n dX7_can_35 rfl ?_
          refine vV.cVi dX7_can_36 ml_X7_141 cw_X7_simHere iw_X7_simHere (by first | rfl | assumption) rfl (by unfold vRoom; decide) (c_X7_simHere hB hc hn) rfl rfl (Nat.le_of_ble_eq_true rfl) ?_
          rintro x36 _ _ hx36 ⟨rfl, rfl, rfl⟩
          have e3 : pCan n (M 211) (M 212) (M 200 12) x = (pHere n (M 211) (M 212) (M 200 12)).isSome := by rw [h32]; unfold pCan; simp; exact pHere_std hdis
          obtain ⟨r, hr⟩ : ∃ r, pHere n (M 211) (M 212) (M 200 12) = r := ⟨_, rfl⟩
          rw [hr] at e3 ⊢
          cases r with
          | none =>
            rw [pOr_n]
            refine vV.if_lt (tgt := 46) dX7_can_39 (by decide) (fun h39 => ?_) (fun h39 => ?_)
            · skip
              refine vV.iconst dX7_can_46 (by decide) ?_
              refine vV.rz dX7_can_47 rfl (by first | exact Or.inl rfl | exact Or.inr rfl | assumption) ?_
              rw [e3]; exact ⟨rfl, rfl, rfl⟩
            · skip
              omega
          | some p =>
            rw [pOr_s]
            refine vV.if_lt (tgt := 46) dX7_can_39 (by decide) (fun h39 => ?_) (fun h39 => ?_)
            · skip
              omega
            · skip
              refine vV.iconst dX7_can_42 (by decide) ?_
              refine vV.goto (tgt := 47) dX7_can_43 (by decide) ?_
              refine vV.rz dX7_can_47 rfl (by first | exact Or.inl rfl | exact Or.inr rfl | assumption) ?_
              rw [e3]; exact ⟨rfl, rfl, rfl⟩
          skip
      · skip
        refine vV.aload_n dX7_can_21 rfl ?_
        refine vV.geti (z := 12) dX7_can_22 fl_X7_123 (by first | rfl | assumption) rfl rfl ?_
        refine vV.bipush (v := 7) dX7_can_25 (by decide) (by decide) ?_
        refine vV.icmp_lt (tgt := 42) dX7_can_27 (by decide) (fun h27 => ?_) (fun h27 => ?_)
        · skip
          refine vV.iconst dX7_can_42 (by decide) ?_
          refine vV.goto (tgt := 47) dX7_can_43 (by decide) ?_
          refine vV.rz dX7_can_47 rfl (by first | exact Or.inl rfl | exact Or.inr rfl | assumption) ?_
          refine ⟨?_, rfl, rfl⟩; unfold pCan bI; (repeat' split) <;> first | rfl | omega | (simp_all; done) | (simp_all; omega)
        · skip
          refine vV.iload_n dX7_can_30 rfl ?_
          refine vV.iconst dX7_can_31 (by decide) ?_
          refine vV.icmp_ne (tgt := 46) dX7_can_32 (by decide) (fun h32 => ?_) (fun h32 => ?_)
          · skip
            refine vV.iconst dX7_can_46 (by decide) ?_
            refine vV.rz dX7_can_47 rfl (by first | exact Or.inl rfl | exact Or.inr rfl | assumption) ?_
            refine ⟨?_, rfl, rfl⟩; unfold pCan bI; (repeat' split) <;> first | rfl | omega | (simp_all; done) | (simp_all; omega)
          · skip
            refine vV.aload_n dX7_can_35 rfl ?_
            refine vV.cVi dX7_can_36 ml_X7_141 cw_X7_simHere iw_X7_simHere (by first | rfl | assumption) rfl (by unfold vRoom; decide) (c_X7_simHere hB hc hn) rfl rfl (Nat.le_of_ble_eq_true rfl) ?_
            rintro x36 _ _ hx36 ⟨rfl, rfl, rfl⟩
            have e3 : pCan n (M 211) (M 212) (M 200 12) x = (pHere n (M 211) (M 212) (M 200 12)).isSome := by rw [h32]; unfold pCan; simp; exact pHere_std hdis
            obtain ⟨r, hr⟩ : ∃ r, pHere n (M 211) (M 212) (M 200 12) = r := ⟨_, rfl⟩
            rw [hr] at e3 ⊢
            cases r with
            | none =>
              rw [pOr_n]
              refine vV.if_lt (tgt := 46) dX7_can_39 (by decide) (fun h39 => ?_) (fun h39 => ?_)
              · skip
                refine vV.iconst dX7_can_46 (by decide) ?_
                refine vV.rz dX7_can_47 rfl (by first | exact Or.inl rfl | exact Or.inr rfl | assumption) ?_
                rw [e3]; exact ⟨rfl, rfl, rfl⟩
              · skip
                omega
            | some p =>
              rw [pOr_s]
              refine vV.if_lt (tgt := 46) dX7_can_39 (by decide) (fun h39 => ?_) (fun h39 => ?_)
              · skip
                omega
              · skip
                refine vV.iconst dX7_can_42 (by decide) ?_
                refine vV.goto (tgt := 47) dX7_can_43 (by decide) ?_
                refine vV.rz dX7_can_47 rfl (by first | exact Or.inl rfl | exact Or.inr rfl | assumption) ?_
                rw [e3]; exact ⟨rfl, rfl, rfl⟩
            skip
    · skip
      refine vV.aload_n dX7_can_9 rfl ?_
      refine vV.geti (z := 12) dX7_can_10 fl_X7_123 (by first | rfl | assumption) rfl rfl ?_
      refine vV.if_gt (tgt := 42) dX7_can_13 (by decide) (fun h13 => ?_) (fun h13 => ?_)
      · skip
        refine vV.iconst dX7_can_42 (by decide) ?_
        refine vV.goto (tgt := 47) dX7_can_43 (by decide) ?_
        refine vV.rz dX7_can_47 rfl (by first | exact Or.inl rfl | exact Or.inr rfl | assumption) ?_
        refine ⟨?_, rfl, rfl⟩; unfold pCan bI; (repeat' split) <;> first | rfl | omega | (simp_all; done) | (simp_all; omega)
      · skip
        refine vV.iload_n dX7_can_16 rfl ?_
        refine vV.iconst dX7_can_17 (by decide) ?_
        refine vV.icmp_ne (tgt := 30) dX7_can_18 (by decide) (fun h18 => ?_) (fun h18 => ?_)
        · skip
          refine vV.iload_n dX7_can_30 rfl ?_
          refine vV.iconst dX7_can_31 (by decide) ?_
          refine vV.icmp_ne (tgt := 46) dX7_can_32 (by decide) (fun h32 => ?_) (fun h32 => ?_)
          · skip
            refine vV.iconst dX7_can_46 (by decide) ?_
            refine vV.rz dX7_can_47 rfl (by first | exact Or.inl rfl | exact Or.inr rfl | assumption) ?_
            refine ⟨?_, rfl, rfl⟩; unfold pCan bI; (repeat' split) <;> first | rfl | omega | (simp_all; done) | (simp_all; omega)
          · skip
            refine vV.aload_n dX7_can_35 rfl ?_
            refine vV.cVi dX7_can_36 ml_X7_141 cw_X7_simHere iw_X7_simHere (by first | rfl | assumption) rfl (by unfold vRoom; decide) (c_X7_simHere hB hc hn) rfl rfl (Nat.le_of_ble_eq_true rfl) ?_
            rintro x36 _ _ hx36 ⟨rfl, rfl, rfl⟩
            have e3 : pCan n (M 211) (M 212) (M 200 12) x = (pHere n (M 211) (M 212) (M 200 12)).isSome := by rw [h32]; unfold pCan; simp; exact pHere_std hdis
            obtain ⟨r, hr⟩ : ∃ r, pHere n (M 211) (M 212) (M 200 12) = r := ⟨_, rfl⟩
            rw [hr] at e3 ⊢
            cases r with
            | none =>
              rw [pOr_n]
              refine vV.if_lt (tgt := 46) dX7_can_39 (by decide) (fun h39 => ?_) (fun h39 => ?_)
              · skip
                refine vV.iconst dX7_can_46 (by decide) ?_
                refine vV.rz dX7_can_47 rfl (by first | exact Or.inl rfl | exact Or.inr rfl | assumption) ?_
                rw [e3]; exact ⟨rfl, rfl, rfl⟩
              · skip
                omega
            | some p =>
              rw [pOr_s]
              refine vV.if_lt (tgt := 46) dX7_can_39 (by decide) (fun h39 => ?_) (fun h39 => ?_)
              · skip
                omega
              · skip
                refine vV.iconst dX7_can_42 (by decide) ?_
                refine vV.goto (tgt := 47) dX7_can_43 (by decide) ?_
                refine vV.rz dX7_can_47 rfl (by first | exact Or.inl rfl | exact Or.inr rfl | assumption) ?_
                rw [e3]; exact ⟨rfl, rfl, rfl⟩
            skip
        · skip
          refine vV.aload_n dX7_can_21 rfl ?_
          refine vV.geti (z := 12) dX7_can_22 fl_X7_123 (by first | rfl | assumption) rfl rfl ?_
          refine vV.bipush (v := 7) dX7_can_25 (by decide) (by decide) ?_
          refine vV.icmp_lt (tgt := 42) dX7_can_27 (by decide) (fun h27 => ?_) (fun h27 => ?_)
          · skip
            refine vV.iconst dX7_can_42 (by decide) ?_
            refine vV.goto (tgt := 47) dX7_can_43 (by decide) ?_
            refine vV.rz dX7_can_47 rfl (by first | exact Or.inl rfl | exact Or.inr rfl | assumption) ?_
            refine ⟨?_, rfl, rfl⟩; unfold pCan bI; (repeat' split) <;> first | rfl | omega | (simp_all; done) | (simp_all; omega)
          · skip
            refine vV.iload_n dX7_can_30 rfl ?_
            refine vV.iconst dX7_can_31 (by decide) ?_
            refine vV.icmp_ne (tgt := 46) dX7_can_32 (by decide) (fun h32 => ?_) (fun h32 => ?_)
            · skip
              refine vV.iconst dX7_can_46 (by decide) ?_
              refine vV.rz dX7_can_47 rfl (by first | exact Or.inl rfl | exact Or.inr rfl | assumption) ?_
              refine ⟨?_, rfl, rfl⟩; unfold pCan bI; (repeat' split) <;> first | rfl | omega | (simp_all; done) | (simp_all; omega)
            · skip
              refine vV.aload_n dX7_can_35 rfl ?_
              refine vV.cVi dX7_can_36 ml_X7_141 cw_X7_simHere iw_X7_simHere (by first | rfl | assumption) rfl (by unfold vRoom; decide) (c_X7_simHere hB hc hn) rfl rfl (Nat.le_of_ble_eq_true rfl) ?_
              rintro x36 _ _ hx36 ⟨rfl, rfl, rfl⟩
              have e3 : pCan n (M 211) (M 212) (M 200 12) x = (pHere n (M 211) (M 212) (M 200 12)).isSome := by rw [h32]; unfold pCan; simp; exact pHere_std hdis
              obtain ⟨r, hr⟩ : ∃ r, pHere n (M 211) (M 212) (M 200 12) = r := ⟨_, rfl⟩
              rw [hr] at e3 ⊢
              cases r with
              | none =>
                rw [pOr_n]
                refine vV.if_lt (tgt := 46) dX7_can_39 (by decide) (fun h39 => ?_) (fun h39 => ?_)
                · skip
                  refine vV.iconst dX7_can_46 (by decide) ?_
                  refine vV.rz dX7_can_47 rfl (by first | exact Or.inl rfl | exact Or.inr rfl | assumption) ?_
                  rw [e3]; exact ⟨rfl, rfl, rfl⟩
                · skip
                  omega
              | some p =>
                rw [pOr_s]
                refine vV.if_lt (tgt := 46) dX7_can_39 (by decide) (fun h39 => ?_) (fun h39 => ?_)
                · skip
                  omega
                · skip
                  refine vV.iconst dX7_can_42 (by decide) ?_
                  refine vV.goto (tgt := 47) dX7_can_43 (by decide) ?_
                  refine vV.rz dX7_can_47 rfl (by first | exact Or.inl rfl | exact Or.inr rfl | assumption) ?_
                  rw [e3]; exact ⟨rfl, rfl, rfl⟩
              skip
theorem dX7_note_0 : decode cX7_note 0 = .ok (.iconst 0, 1) := by decide +kernel
theorem dX7_note_1 : decode cX7_note 1 = .ok (.istore_n 1, 1) := by decide +kernel
theorem dX7_note_2 : decode cX7_note 2 = .ok (.iconst 0, 1) := by decide +kernel
theorem dX7_note_3 : decode cX7_note 3 = .ok (.istore_n 2, 1) := by decide +kernel
theorem dX7_note_4 : decode cX7_note 4 = .ok (.iload_n 2, 1) := by decide +kernel
theorem dX7_note_5 : decode cX7_note 5 = .ok (.aload_n 0, 1) := by decide +kernel
theorem dX7_note_6 : decode cX7_note 6 = .ok (.getfield 89, 3) := by decide +kernel
theorem dX7_note_9 : decode cX7_note 9 = .ok (.if_icmp .ge 22, 3) := by decide +kernel
theorem dX7_note_12 : decode cX7_note 12 = .ok (.iload_n 1, 1) := by decide +kernel
theorem dX7_note_13 : decode cX7_note 13 = .ok (.aload_n 0, 1) := by decide +kernel
theorem dX7_note_14 : decode cX7_note 14 = .ok (.getfield 25, 3) := by decide +kernel
theorem dX7_note_17 : decode cX7_note 17 = .ok (.iload_n 2, 1) := by decide +kernel
theorem dX7_note_18 : decode cX7_note 18 = .ok (.iaload, 1) := by decide +kernel
theorem dX7_note_19 : decode cX7_note 19 = .ok (.iconst 4, 1) := by decide +kernel
theorem dX7_note_20 : decode cX7_note 20 = .ok (.iload_n 2, 1) := by decide +kernel
theorem dX7_note_21 : decode cX7_note 21 = .ok (.imul, 1) := by decide +kernel
theorem dX7_note_22 : decode cX7_note 22 = .ok (.ishl, 1) := by decide +kernel
theorem dX7_note_23 : decode cX7_note 23 = .ok (.ior, 1) := by decide +kernel
theorem dX7_note_24 : decode cX7_note 24 = .ok (.istore_n 1, 1) := by decide +kernel
theorem dX7_note_25 : decode cX7_note 25 = .ok (.iinc 2 1, 3) := by decide +kernel
theorem dX7_note_28 : decode cX7_note 28 = .ok (.goto (-24), 3) := by decide +kernel
theorem dX7_note_31 : decode cX7_note 31 = .ok (.aload_n 0, 1) := by decide +kernel
theorem dX7_note_32 : decode cX7_note 32 = .ok (.getfield 28, 3) := by decide +kernel
theorem dX7_note_35 : decode cX7_note 35 = .ok (.aload_n 0, 1) := by decide +kernel
theorem dX7_note_36 : decode cX7_note 36 = .ok (.getfield 135, 3) := by decide +kernel
theorem dX7_note_39 : decode cX7_note 39 = .ok (.iload_n 1, 1) := by decide +kernel
theorem dX7_note_40 : decode cX7_note 40 = .ok (.iastore, 1) := by decide +kernel
theorem dX7_note_41 : decode cX7_note 41 = .ok (.aload_n 0, 1) := by decide +kernel
theorem dX7_note_42 : decode cX7_note 42 = .ok (.getfield 31, 3) := by decide +kernel
theorem dX7_note_45 : decode cX7_note 45 = .ok (.aload_n 0, 1) := by decide +kernel
theorem dX7_note_46 : decode cX7_note 46 = .ok (.getfield 135, 3) := by decide +kernel
theorem dX7_note_49 : decode cX7_note 49 = .ok (.aload_n 0, 1) := by decide +kernel
theorem dX7_note_50 : decode cX7_note 50 = .ok (.getfield 123, 3) := by decide +kernel
theorem dX7_note_53 : decode cX7_note 53 = .ok (.bipush 16, 2) := by decide +kernel
theorem dX7_note_55 : decode cX7_note 55 = .ok (.imul, 1) := by decide +kernel
theorem dX7_note_56 : decode cX7_note 56 = .ok (.aload_n 0, 1) := by decide +kernel
theorem dX7_note_57 : decode cX7_note 57 = .ok (.getfield 126, 3) := by decide +kernel
theorem dX7_note_60 : decode cX7_note 60 = .ok (.iadd, 1) := by decide +kernel
theorem dX7_note_61 : decode cX7_note 61 = .ok (.bipush 6, 2) := by decide +kernel
theorem dX7_note_63 : decode cX7_note 63 = .ok (.iadd, 1) := by decide +kernel
theorem dX7_note_64 : decode cX7_note 64 = .ok (.bipush 16, 2) := by decide +kernel
theorem dX7_note_66 : decode cX7_note 66 = .ok (.imul, 1) := by decide +kernel
theorem dX7_note_67 : decode cX7_note 67 = .ok (.aload_n 0, 1) := by decide +kernel
theorem dX7_note_68 : decode cX7_note 68 = .ok (.getfield 129, 3) := by decide +kernel
theorem dX7_note_71 : decode cX7_note 71 = .ok (.iadd, 1) := by decide +kernel
theorem dX7_note_72 : decode cX7_note 72 = .ok (.bipush 16, 2) := by decide +kernel
theorem dX7_note_74 : decode cX7_note 74 = .ok (.imul, 1) := by decide +kernel
theorem dX7_note_75 : decode cX7_note 75 = .ok (.aload_n 0, 1) := by decide +kernel
theorem dX7_note_76 : decode cX7_note 76 = .ok (.getfield 132, 3) := by decide +kernel
theorem dX7_note_79 : decode cX7_note 79 = .ok (.iadd, 1) := by decide +kernel
theorem dX7_note_80 : decode cX7_note 80 = .ok (.bipush 6, 2) := by decide +kernel
theorem dX7_note_82 : decode cX7_note 82 = .ok (.iadd, 1) := by decide +kernel
theorem dX7_note_83 : decode cX7_note 83 = .ok (.iastore, 1) := by decide +kernel
theorem dX7_note_84 : decode cX7_note 84 = .ok (.return_, 1) := by decide +kernel
def pRest (man g w l : Int) : Int := ((man * 16 + g + 6) * 16 + w) * 16 + l + 6
theorem l_X7_note {d : List Nat} {T : vT} {M : vM} {n t : Nat} (hB : vB T) (hc : M 200 4 = n) (hn : n ≤ 6) (ht : ∀ j : Nat, 0 ≤ M 212 j ∧ M 212 j ≤ 15) (hd : M 200 16 = t) (htt : t ≤ 600) (h1 : -1 ≤ M 200 12 ∧ M 200 12 ≤ 8) (h2 : -6 ≤ M 200 13 ∧ M 200 13 ≤ 5) (h3 : 0 ≤ M 200 14 ∧ M 200 14 ≤ 9) (h4 : -6 ≤ M 200 15 ∧ M 200 15 ≤ 5) : ∀ p, p ≤ n →
    vV m_X7_note d d (vPv fun T1 M1 => T = T1 ∧ M1 = vUpd (vUpd M 218 t (pPack (M 212) n)) 219 t (pRest (M 200 12) (M 200 13) (M 200 14) (M 200 15))) 4 [some (vR 200), some (vI (pPack (M 212) p)), some (vI p)] [] d T M := by
  refine vUp ?_
  intro p hp ih
  have e1 : ∀ x, vUpd M 218 t x 200 = M 200 := fun x => by funext j; rw [vUpd_nk (by decide)]
  refine vV.iload_n dX7_note_4 rfl ?_
  refine vV.aload_n dX7_note_5 rfl ?_
  refine vV.geti (z := 4) dX7_note_6 fl_X7_89 (by first | rfl | assumption) rfl rfl ?_
  refine vV.icmp_ge (tgt := 31) dX7_note_9 (by decide) (fun h9 => ?_) (fun h9 => ?_)
  · skip
    refine vV.aload_n dX7_note_31 rfl ?_
    refine vV.getr dX7_note_32 fl_X7_28 (by first | rfl | assumption) rfl (by first | assumption | exact hB _ _ _ rfl) ?_
    refine vV.aload_n dX7_note_35 rfl ?_
    refine vV.geti (z := 16) dX7_note_36 fl_X7_135 (by first | rfl | assumption) rfl rfl ?_
    rw [hd]
    refine vV.iload_n dX7_note_39 rfl ?_
    refine vV.iast dX7_note_40 (by first | rfl | assumption) (by omega) (by omega) ?_
    refine vV.aload_n dX7_note_41 rfl ?_
    refine vV.getr dX7_note_42 fl_X7_31 (by first | rfl | assumption) rfl (by first | assumption | exact hB _ _ _ rfl) ?_
    refine vV.aload_n dX7_note_45 rfl ?_
    refine vV.geti (z := 16) dX7_note_46 fl_X7_135 (by first | rfl | assumption) rfl rfl ?_
    rw [e1, hd]
    refine vV.aload_n dX7_note_49 rfl ?_
    refine vV.geti (z := 12) dX7_note_50 fl_X7_123 (by first | rfl | assumption) rfl rfl ?_
    rw [e1]
    refine vV.bipush (v := 16) dX7_note_53 (by decide) (by decide) ?_
    refine vV.imul dX7_note_55 (⟨by omega, by omega⟩) ?_
    refine vV.aload_n dX7_note_56 rfl ?_
    refine vV.geti (z := 13) dX7_note_57 fl_X7_126 (by first | rfl | assumption) rfl rfl ?_
    rw [e1]
    refine vV.iadd dX7_note_60 (⟨by omega, by omega⟩) ?_
    refine vV.bipush (v := 6) dX7_note_61 (by decide) (by decide) ?_
    refine vV.iadd dX7_note_63 (⟨by omega, by omega⟩) ?_
    refine vV.bipush (v := 16) dX7_note_64 (by decide) (by decide) ?_
    refine vV.imul dX7_note_66 (⟨by omega, by omega⟩) ?_
    refine vV.aload_n dX7_note_67 rfl ?_
    refine vV.geti (z := 14) dX7_note_68 fl_X7_129 (by first | rfl | assumption) rfl rfl ?_
    rw [e1]
    refine vV.iadd dX7_note_71 (⟨by omega, by omega⟩) ?_
    refine vV.bipush (v := 16) dX7_note_72 (by decide) (by decide) ?_
    refine vV.imul dX7_note_74 (⟨by omega, by omega⟩) ?_
    refine vV.aload_n dX7_note_75 rfl ?_
    refine vV.geti (z := 15) dX7_note_76 fl_X7_132 (by first | rfl | assumption) rfl rfl ?_
    rw [e1]
    refine vV.iadd dX7_note_79 (⟨by omega, by omega⟩) ?_
    refine vV.bipush (v := 6) dX7_note_80 (by decide) (by decide) ?_
    refine vV.iadd dX7_note_82 (⟨by omega, by omega⟩) ?_
    refine vV.iast dX7_note_83 (by first | rfl | assumption) (by omega) (by omega) ?_
    refine vV.rv dX7_note_84 rfl ?_
    rw [show p = n by omega]; exact ⟨rfl, rfl⟩
  · skip
    rw [← pPack_or _ ht (by omega)] at ih
    refine vV.iload_n dX7_note_12 rfl ?_
    refine vV.aload_n dX7_note_13 rfl ?_
    refine vV.getr dX7_note_14 fl_X7_25 (by first | rfl | assumption) rfl (by first | assumption | exact hB _ _ _ rfl) ?_
    refine vV.iload_n dX7_note_17 rfl ?_
    refine vV.iald dX7_note_18 (by first | rfl | assumption) (by omega) (by omega) ?_
    refine vV.iconst dX7_note_19 (by decide) ?_
    refine vV.iload_n dX7_note_20 rfl ?_
    refine vV.imul dX7_note_21 (⟨by omega, by omega⟩) ?_
    refine vV.ishl dX7_note_22 ?_
    refine vV.ior dX7_note_23 ?_
    refine vV.istore_n (L' := [_, _, _]) dX7_note_24 (by decide) rfl ?_
    refine vV.iinc (L' := [_, _, _]) dX7_note_25 (by decide) rfl (⟨by omega, by omega⟩) rfl ?_
    refine vV.goto (tgt := 4) dX7_note_28 (by decide) ?_
    exact ih (by omega)
theorem c_X7_note {d : List Nat} {T : vT} {M : vM} {n t : Nat} (hB : vB T) (hc : M 200 4 = n) (hn : n ≤ 6) (ht : ∀ j : Nat, 0 ≤ M 212 j ∧ M 212 j ≤ 15) (hd : M 200 16 = t) (htt : t ≤ 600) (h1 : -1 ≤ M 200 12 ∧ M 200 12 ≤ 8) (h2 : -6 ≤ M 200 13 ∧ M 200 13 ≤ 5) (h3 : 0 ≤ M 200 14 ∧ M 200 14 ≤ 9) (h4 : -6 ≤ M 200 15 ∧ M 200 15 ≤ 5) : vCon m_X7_note d d [vR 200] T M (vPv fun T1 M1 => T = T1 ∧ M1 = vUpd (vUpd M 218 t (pPack (M 212) n)) 219 t (pRest (M 200 12) (M 200 13) (M 200 14) (M 200 15))) := by
  refine vCon.of (by decide) rfl rfl (Nat.le_of_ble_eq_true rfl) ?_
  refine vV.iconst dX7_note_0 (by decide) ?_
  refine vV.istore_n (L' := [_, _, _]) dX7_note_1 (by decide) rfl ?_
  refine vV.iconst dX7_note_2 (by decide) ?_
  refine vV.istore_n (L' := [_, _, _]) dX7_note_3 (by decide) rfl ?_
  exact l_X7_note hB hc hn ht hd htt h1 h2 h3 h4 0 (by omega)
theorem dX7_wind_0 : decode cX7_wind 0 = .ok (.aload_n 0, 1) := by decide +kernel
theorem dX7_wind_1 : decode cX7_wind 1 = .ok (.getfield 25, 3) := by decide +kernel
theorem dX7_wind_4 : decode cX7_wind 4 = .ok (.iload_n 1, 1) := by decide +kernel
theorem dX7_wind_5 : decode cX7_wind 5 = .ok (.aload_n 0, 1) := by decide +kernel
theorem dX7_wind_6 : decode cX7_wind 6 = .ok (.getfield 25, 3) := by decide +kernel
theorem dX7_wind_9 : decode cX7_wind 9 = .ok (.iload_n 1, 1) := by decide +kernel
theorem dX7_wind_10 : decode cX7_wind 10 = .ok (.iaload, 1) := by decide +kernel
theorem dX7_wind_11 : decode cX7_wind 11 = .ok (.aload_n 0, 1) := by decide +kernel
theorem dX7_wind_12 : decode cX7_wind 12 = .ok (.getfield 80, 3) := by decide +kernel
theorem dX7_wind_15 : decode cX7_wind 15 = .ok (.iadd, 1) := by decide +kernel
theorem dX7_wind_16 : decode cX7_wind 16 = .ok (.aload_n 0, 1) := by decide +kernel
theorem dX7_wind_17 : decode cX7_wind 17 = .ok (.getfield 13, 3) := by decide +kernel
theorem dX7_wind_20 : decode cX7_wind 20 = .ok (.iload_n 1, 1) := by decide +kernel
theorem dX7_wind_21 : decode cX7_wind 21 = .ok (.iaload, 1) := by decide +kernel
theorem dX7_wind_22 : decode cX7_wind 22 = .ok (.if_icmp .le 12, 3) := by decide +kernel
theorem dX7_wind_25 : decode cX7_wind 25 = .ok (.aload_n 0, 1) := by decide +kernel
theorem dX7_wind_26 : decode cX7_wind 26 = .ok (.getfield 13, 3) := by decide +kernel
theorem dX7_wind_29 : decode cX7_wind 29 = .ok (.iload_n 1, 1) := by decide +kernel
theorem dX7_wind_30 : decode cX7_wind 30 = .ok (.iaload, 1) := by decide +kernel
theorem dX7_wind_31 : decode cX7_wind 31 = .ok (.goto 14, 3) := by decide +kernel
theorem dX7_wind_34 : decode cX7_wind 34 = .ok (.aload_n 0, 1) := by decide +kernel
theorem dX7_wind_35 : decode cX7_wind 35 = .ok (.getfield 25, 3) := by decide +kernel
theorem dX7_wind_38 : decode cX7_wind 38 = .ok (.iload_n 1, 1) := by decide +kernel
theorem dX7_wind_39 : decode cX7_wind 39 = .ok (.iaload, 1) := by decide +kernel
theorem dX7_wind_40 : decode cX7_wind 40 = .ok (.aload_n 0, 1) := by decide +kernel
theorem dX7_wind_41 : decode cX7_wind 41 = .ok (.getfield 80, 3) := by decide +kernel
theorem dX7_wind_44 : decode cX7_wind 44 = .ok (.iadd, 1) := by decide +kernel
theorem dX7_wind_45 : decode cX7_wind 45 = .ok (.iastore, 1) := by decide +kernel
theorem dX7_wind_46 : decode cX7_wind 46 = .ok (.iload_n 1, 1) := by decide +kernel
theorem dX7_wind_47 : decode cX7_wind 47 = .ok (.aload_n 0, 1) := by decide +kernel
theorem dX7_wind_48 : decode cX7_wind 48 = .ok (.getfield 126, 3) := by decide +kernel
theorem dX7_wind_51 : decode cX7_wind 51 = .ok (.if_icmp .ne 50, 3) := by decide +kernel
theorem dX7_wind_54 : decode cX7_wind 54 = .ok (.aload_n 0, 1) := by decide +kernel
theorem dX7_wind_55 : decode cX7_wind 55 = .ok (.dup, 1) := by decide +kernel
theorem dX7_wind_56 : decode cX7_wind 56 = .ok (.getfield 129, 3) := by decide +kernel
theorem dX7_wind_59 : decode cX7_wind 59 = .ok (.iconst 1, 1) := by decide +kernel
theorem dX7_wind_60 : decode cX7_wind 60 = .ok (.iadd, 1) := by decide +kernel
theorem dX7_wind_61 : decode cX7_wind 61 = .ok (.putfield 129, 3) := by decide +kernel
theorem dX7_wind_64 : decode cX7_wind 64 = .ok (.aload_n 0, 1) := by decide +kernel
theorem dX7_wind_65 : decode cX7_wind 65 = .ok (.getfield 25, 3) := by decide +kernel
theorem dX7_wind_68 : decode cX7_wind 68 = .ok (.iload_n 1, 1) := by decide +kernel
theorem dX7_wind_69 : decode cX7_wind 69 = .ok (.iaload, 1) := by decide +kernel
theorem dX7_wind_70 : decode cX7_wind 70 = .ok (.aload_n 0, 1) := by decide +kernel
theorem dX7_wind_71 : decode cX7_wind 71 = .ok (.getfield 13, 3) := by decide +kernel
theorem dX7_wind_74 : decode cX7_wind 74 = .ok (.iload_n 1, 1) := by decide +kernel
theorem dX7_wind_75 : decode cX7_wind 75 = .ok (.iaload, 1) := by decide +kernel
theorem dX7_wind_76 : decode cX7_wind 76 = .ok (.if_icmp .eq 14, 3) := by decide +kernel
theorem dX7_wind_79 : decode cX7_wind 79 = .ok (.aload_n 0, 1) := by decide +kernel
theorem dX7_wind_80 : decode cX7_wind 80 = .ok (.getfield 129, 3) := by decide +kernel
theorem dX7_wind_83 : decode cX7_wind 83 = .ok (.aload_n 0, 1) := by decide +kernel
theorem dX7_wind_84 : decode cX7_wind 84 = .ok (.getfield 83, 3) := by decide +kernel
theorem dX7_wind_87 : decode cX7_wind 87 = .ok (.if_icmp .ne 14, 3) := by decide +kernel
theorem dX7_wind_90 : decode cX7_wind 90 = .ok (.aload_n 0, 1) := by decide +kernel
theorem dX7_wind_91 : decode cX7_wind 91 = .ok (.bipush (-6), 2) := by decide +kernel
theorem dX7_wind_93 : decode cX7_wind 93 = .ok (.putfield 126, 3) := by decide +kernel
theorem dX7_wind_96 : decode cX7_wind 96 = .ok (.aload_n 0, 1) := by decide +kernel
theorem dX7_wind_97 : decode cX7_wind 97 = .ok (.iconst 0, 1) := by decide +kernel
theorem dX7_wind_98 : decode cX7_wind 98 = .ok (.putfield 129, 3) := by decide +kernel
theorem dX7_wind_101 : decode cX7_wind 101 = .ok (.return_, 1) := by decide +kernel
/-- what a winding does to goal and count -/
def pGo (pl fu tuW : Int → Int) (man pat thing : Int) (g : Option Nat) (w : Int) : Option Nat × Int := match g with
  | none => (none, w)
  | some p => if thing = 3 ∧ pl p = man then (if tuW p = fu p ∨ pat ≤ w + 1 then (none, 0) else (some p, w + 1)) else (some p, w)
/-- wind(p) of a plate that stands -/
theorem c_X7_wind {d : List Nat} {T : vT} {M : vM} {n p : Nat} {g : Option Nat} (hB : vB T) (hp : p < n) (hn : n ≤ 6) (hdis : pDis n (M 211)) (hman : M 211 p = M 200 12) (hg : M 200 13 = pOr (-6) g) (hgn : ∀ k, g = some k → k < n)
    (ht : ∀ j : Nat, 0 ≤ M 212 j ∧ M 212 j ≤ 15) (hfu : ∀ j : Nat, 0 ≤ M 202 j ∧ M 202 j ≤ 15) (hgv : 1 ≤ M 200 6 ∧ M 200 6 ≤ 6) (hw : 0 ≤ M 200 14 ∧ M 200 14 < M 200 7) (hpat : M 200 7 ≤ 9) : vCon m_X7_wind d d [vR 200, vI p] T M (vPv fun T1 M1 => T = T1 ∧ mSame [200, 212] M M1 ∧ mSlot [13, 14] M M1 ∧ M1 212 = fSet (M 212) p (min (M 202 p) (M 212 p + M 200 6)) ∧
      M1 200 13 = pOr (-6) (pGo (M 211) (M 202) (M1 212) (M 200 12) (M 200 7) 3 g (M 200 14)).1 ∧ M1 200 14 = (pGo (M 211) (M 202) (M1 212) (M 200 12) (M 200 7) 3 g (M 200 14)).2) := by
  have b1 := ht p
  have b2 := hfu p
  have hgo1 : g = some p → ∀ y, pGo (M 211) (M 202) (fSet (M 212) p y) (M 200 12) (M 200 7) 3 g (M 200 14) = (if y = M 202 p ∨ M 200 7 ≤ M 200 14 + 1 then (none, 0) else (some p, M 200 14 + 1)) := by
    intro h y; subst h; unfold pGo; simp [hman, fSet_s]
  have hgo2 : g ≠ some p → ∀ y, pGo (M 211) (M 202) (fSet (M 212) p y) (M 200 12) (M 200 7) 3 g (M 200 14) = (g, M 200 14) := by
    intro hne y
    unfold pGo
    cases g with
    | none => rfl
    | some k =>
      have : M 211 k ≠ M 200 12 := fun z => hne (by rw [hdis k p (hgn k rfl) hp (by rw [z, hman])])
      simp [this]
  have hgp : (p : Int) = M 200 13 ↔ g = some p := by
    rw [hg]
    cases g with
    | none => show (p : Int) = -6 ↔ _; constructor; intro h; omega; intro h; cases h
    | some k => show (p : Int) = k ↔ _; constructor; intro h; rw [show k = p by omega]; intro h; cases h; rfl
  have key : ∀ N : vM, mSame [200, 212] M N → mSlot [13, 14] M N → N 212 = fSet (M 212) p (min (M 202 p) (M 212 p + M 200 6)) → N 200 13 = pOr (-6) (pGo (M 211) (M 202) (fSet (M 212) p (min (M 202 p) (M 212 p + M 200 6))) (M 200 12) (M 200 7) 3 g (M 200 14)).1 → N 200 14 = (pGo (M 211) (M 202) (fSet (M 212) p (min (M 202 p) (M 212 p + M 200 6))) (M 200 12) (M 200 7) 3 g (M 200 14)).2 →
      mSame [200, 212] M N ∧ mSlot [13, 14] M N ∧ N 212 = fSet (M 212) p (min (M 202 p) (M 212 p + M 200 6)) ∧ N 200 13 = pOr (-6) (pGo (M 211) (M 202) (N 212) (M 200 12) (M 200 7) 3 g (M 200 14)).1 ∧ N 200 14 = (pGo (M 211) (M 202) (N 212) (M 200 12) (M 200 7) 3 g (M 200 14)).2 := by
    intro N h1 h2 h3 h4 h5
    rw [← h3] at h4 h5
    exact ⟨h1, h2, h3, h4, h5⟩
  refine vCon.of (by decide) rfl rfl (Nat.le_of_ble_eq_true rfl) ?_
  refine vV.aload_n dX7_wind_0 rfl ?_
  refine vV.getr dX7_wind_1 fl_X7_25 (by first | rfl | assumption) rfl (by first | assumption | exact hB _ _ _ rfl) ?_
  try simp (decide := true) only [vUpd_s, vUpd_nk, vUpd_ni, vRow_s, vRow_n, fSet_s, fSet_n, ne_eq, not_false_eq_true]
  refine vV.iload_n dX7_wind_4 rfl ?_
  refine vV.aload_n dX7_wind_5 rfl ?_
  refine vV.getr dX7_wind_6 fl_X7_25 (by first | rfl | assumption) rfl (by first | assumption | exact hB _ _ _ rfl) ?_
  try simp (decide := true) only [vUpd_s, vUpd_nk, vUpd_ni, vRow_s, vRow_n, fSet_s, fSet_n, ne_eq, not_false_eq_true]
  refine vV.iload_n dX7_wind_9 rfl ?_
  refine vV.iald dX7_wind_10 (by first | rfl | assumption) (by omega) (by omega) ?_
  try simp (decide := true) only [vUpd_s, vUpd_nk, vUpd_ni, vRow_s, vRow_n, fSet_s, fSet_n, ne_eq, not_false_eq_true]
  refine vV.aload_n dX7_wind_11 rfl ?_
  refine vV.geti (z := 6) dX7_wind_12 fl_X7_80 (by first | rfl | assumption) rfl rfl ?_
  try simp (decide := true) only [vUpd_s, vUpd_nk, vUpd_ni, vRow_s, vRow_n, fSet_s, fSet_n, ne_eq, not_false_eq_true]
  refine vV.iadd dX7_wind_15 (⟨by omega, by omega⟩) ?_
  refine vV.aload_n dX7_wind_16 rfl ?_
  refine vV.getr dX7_wind_17 fl_X7_13 (by first | rfl | assumption) rfl (by first | assumption | exact hB _ _ _ rfl) ?_
  try simp (decide := true) only [vUpd_s, vUpd_nk, vUpd_ni, vRow_s, vRow_n, fSet_s, fSet_n, ne_eq, not_false_eq_true]
  refine vV.iload_n dX7_wind_20 rfl ?_
  refine vV.iald dX7_wind_21 (by first | rfl | assumption) (by omega) (by omega) ?_
  try simp (decide := true) only [vUpd_s, vUpd_nk, vUpd_ni, vRow_s, vRow_n, fSet_s, fSet_n, ne_eq, not_false_eq_true]
  refine vV.icmp_le (tgt := 34) dX7_wind_22 (by decide) (fun h22 => ?_) (fun h22 => ?_)
  · skip
    refine vV.aload_n dX7_wind_34 rfl ?_
    refine vV.getr dX7_wind_35 fl_X7_25 (by first | rfl | assumption) rfl (by first | assumption | exact hB _ _ _ rfl) ?_
    try simp (decide := true) only [vUpd_s, vUpd_nk, vUpd_ni, vRow_s, vRow_n, fSet_s, fSet_n, ne_eq, not_false_eq_true]
    refine vV.iload_n dX7_wind_38 rfl ?_
    refine vV.iald dX7_wind_39 (by first | rfl | assumption) (by omega) (by omega) ?_
    try simp (decide := true) only [vUpd_s, vUpd_nk, vUpd_ni, vRow_s, vRow_n, fSet_s, fSet_n, ne_eq, not_false_eq_true]
    refine vV.aload_n dX7_wind_40 rfl ?_
    refine vV.geti (z := 6) dX7_wind_41 fl_X7_80 (by first | rfl | assumption) rfl rfl ?_
    try simp (decide := true) only [vUpd_s, vUpd_nk, vUpd_ni, vRow_s, vRow_n, fSet_s, fSet_n, ne_eq, not_false_eq_true]
    refine vV.iadd dX7_wind_44 (⟨by omega, by omega⟩) ?_
    refine vV.iast dX7_wind_45 (by first | rfl | assumption) (by omega) (by omega) ?_
    refine vV.iload_n dX7_wind_46 rfl ?_
    refine vV.aload_n dX7_wind_47 rfl ?_
    refine vV.geti (z := 13) dX7_wind_48 fl_X7_126 (by first | rfl | assumption) rfl rfl ?_
    try simp (decide := true) only [vUpd_s, vUpd_nk, vUpd_ni, vRow_s, vRow_n, fSet_s, fSet_n, ne_eq, not_false_eq_true]
    refine vV.icmp_ne (tgt := 101) dX7_wind_51 (by decide) (fun h51 => ?_) (fun h51 => ?_)
    · skip
      have hne : g ≠ some p := fun z => h51 (hgp.mpr z)
      refine vV.rv dX7_wind_101 rfl ?_
      refine ⟨rfl, key _ ?_ ?_ ?_ ?_ ?_⟩
      · intro k hk; simp at hk; funext j; simp [vUpd, hk]
      · intro j hj; simp at hj; simp [vUpd, hj]
      · funext j; simp [vUpd, fSet]; split; omega; rfl
      · first
          | (exfalso; omega)
          | (rw [hgo2 hne]; simp [vUpd]; exact hg)
          | (rw [hgo1 hge, if_pos (by omega)]; simp [vUpd, pOr])
          | (rw [hgo1 hge, if_neg (by omega)]; simp [vUpd, pOr]; omega)
      · first
          | (exfalso; omega)
          | (rw [hgo2 hne]; simp [vUpd]; done)
          | (rw [hgo1 hge, if_pos (by omega)]; simp [vUpd]; done)
          | (rw [hgo1 hge, if_neg (by omega)]; simp [vUpd]; done)
    · skip
      have hge : g = some p := hgp.mp h51
      refine vV.aload_n dX7_wind_54 rfl ?_
      refine vV.dup dX7_wind_55 rfl ?_
      refine vV.geti (z := 14) dX7_wind_56 fl_X7_129 (by first | rfl | assumption) rfl rfl ?_
      try simp (decide := true) only [vUpd_s, vUpd_nk, vUpd_ni, vRow_s, vRow_n, fSet_s, fSet_n, ne_eq, not_false_eq_true]
      refine vV.iconst dX7_wind_59 (by decide) ?_
      refine vV.iadd dX7_wind_60 (⟨by omega, by omega⟩) ?_
      refine vV.puti (z := 14) dX7_wind_61 fl_X7_129 (by first | rfl | assumption) rfl rfl ?_
      refine vV.aload_n dX7_wind_64 rfl ?_
      refine vV.getr dX7_wind_65 fl_X7_25 (by first | rfl | assumption) rfl (by first | assumption | exact hB _ _ _ rfl) ?_
      try simp (decide := true) only [vUpd_s, vUpd_nk, vUpd_ni, vRow_s, vRow_n, fSet_s, fSet_n, ne_eq, not_false_eq_true]
      refine vV.iload_n dX7_wind_68 rfl ?_
      refine vV.iald dX7_wind_69 (by first | rfl | assumption) (by omega) (by omega) ?_
      try simp (decide := true) only [vUpd_s, vUpd_nk, vUpd_ni, vRow_s, vRow_n, fSet_s, fSet_n, ne_eq, not_false_eq_true]
      refine vV.aload_n dX7_wind_70 rfl ?_
      refine vV.getr dX7_wind_71 fl_X7_13 (by first | rfl | assumption) rfl (by first | assumption | exact hB _ _ _ rfl) ?_
      try simp (decide := true) only [vUpd_s, vUpd_nk, vUpd_ni, vRow_s, vRow_n, fSet_s, fSet_n, ne_eq, not_false_eq_true]
      refine vV.iload_n dX7_wind_74 rfl ?_
      refine vV.iald dX7_wind_75 (by first | rfl | assumption) (by omega) (by omega) ?_
      try simp (decide := true) only [vUpd_s, vUpd_nk, vUpd_ni, vRow_s, vRow_n, fSet_s, fSet_n, ne_eq, not_false_eq_true]
      refine vV.icmp_eq (tgt := 90) dX7_wind_76 (by decide) (fun h76 => ?_) (fun h76 => ?_)
      · skip
        refine vV.aload_n dX7_wind_90 rfl ?_
        refine vV.bipush (v := (-6)) dX7_wind_91 (by decide) (by decide) ?_
        refine vV.puti (z := 13) dX7_wind_93 fl_X7_126 (by first | rfl | assumption) rfl rfl ?_
        refine vV.aload_n dX7_wind_96 rfl ?_
        refine vV.iconst dX7_wind_97 (by decide) ?_
        refine vV.puti (z := 14) dX7_wind_98 fl_X7_129 (by first | rfl | assumption) rfl rfl ?_
        refine vV.rv dX7_wind_101 rfl ?_
        refine ⟨rfl, key _ ?_ ?_ ?_ ?_ ?_⟩
        · intro k hk; simp at hk; funext j; simp [vUpd, hk]
        · intro j hj; simp at hj; simp [vUpd, hj]
        · funext j; simp [vUpd, fSet]; split; omega; rfl
        · first
            | (exfalso; omega)
            | (rw [hgo2 hne]; simp [vUpd]; exact hg)
            | (rw [hgo1 hge, if_pos (by omega)]; simp [vUpd, pOr])
            | (rw [hgo1 hge, if_neg (by omega)]; simp [vUpd, pOr]; omega)
        · first
            | (exfalso; omega)
            | (rw [hgo2 hne]; simp [vUpd]; done)
            | (rw [hgo1 hge, if_pos (by omega)]; simp [vUpd]; done)
            | (rw [hgo1 hge, if_neg (by omega)]; simp [vUpd]; done)
      · skip
        refine vV.aload_n dX7_wind_79 rfl ?_
        refine vV.geti (z := 14) dX7_wind_80 fl_X7_129 (by first | rfl | assumption) rfl rfl ?_
        try simp (decide := true) only [vUpd_s, vUpd_nk, vUpd_ni, vRow_s, vRow_n, fSet_s, fSet_n, ne_eq, not_false_eq_true]
        refine vV.aload_n dX7_wind_83 rfl ?_
        refine vV.geti (z := 7) dX7_wind_84 fl_X7_83 (by first | rfl | assumption) rfl rfl ?_
        try simp (decide := true) only [vUpd_s, vUpd_nk, vUpd_ni, vRow_s, vRow_n, fSet_s, fSet_n, ne_eq, not_false_eq_true]
        refine vV.icmp_ne (tgt := 101) dX7_wind_87 (by decide) (fun h87 => ?_) (fun h87 => ?_)
        · skip
          refine vV.rv dX7_wind_101 rfl ?_
          refine ⟨rfl, key _ ?_ ?_ ?_ ?_ ?_⟩
          · intro k hk; simp at hk; funext j; simp [vUpd, hk]
          · intro j hj; simp at hj; simp [vUpd, hj]
          · funext j; simp [vUpd, fSet]; split; omega; rfl
          · first
              | (exfalso; omega)
              | (rw [hgo2 hne]; simp [vUpd]; exact hg)
              | (rw [hgo1 hge, if_pos (by omega)]; simp [vUpd, pOr])
              | (rw [hgo1 hge, if_neg (by omega)]; simp [vUpd, pOr]; omega)
          · first
              | (exfalso; omega)
              | (rw [hgo2 hne]; simp [vUpd]; done)
              | (rw [hgo1 hge, if_pos (by omega)]; simp [vUpd]; done)
              | (rw [hgo1 hge, if_neg (by omega)]; simp [vUpd]; done)
        · skip
          refine vV.aload_n dX7_wind_90 rfl ?_
          refine vV.bipush (v := (-6)) dX7_wind_91 (by decide) (by decide) ?_
          refine vV.puti (z := 13) dX7_wind_93 fl_X7_126 (by first | rfl | assumption) rfl rfl ?_
          refine vV.aload_n dX7_wind_96 rfl ?_
          refine vV.iconst dX7_wind_97 (by decide) ?_
          refine vV.puti (z := 14) dX7_wind_98 fl_X7_129 (by first | rfl | assumption) rfl rfl ?_
          refine vV.rv dX7_wind_101 rfl ?_
          refine ⟨rfl, key _ ?_ ?_ ?_ ?_ ?_⟩
          · intro k hk; simp at hk; funext j; simp [vUpd, hk]
          · intro j hj; simp at hj; simp [vUpd, hj]
          · funext j; simp [vUpd, fSet]; split; omega; rfl
          · first
              | (exfalso; omega)
              | (rw [hgo2 hne]; simp [vUpd]; exact hg)
              | (rw [hgo1 hge, if_pos (by omega)]; simp [vUpd, pOr])
              | (rw [hgo1 hge, if_neg (by omega)]; simp [vUpd, pOr]; omega)
          · first
              | (exfalso; omega)
              | (rw [hgo2 hne]; simp [vUpd]; done)
              | (rw [hgo1 hge, if_pos (by omega)]; simp [vUpd]; done)
              | (rw [hgo1 hge, if_neg (by omega)]; simp [vUpd]; done)
  · skip
    refine vV.aload_n dX7_wind_25 rfl ?_
    refine vV.getr dX7_wind_26 fl_X7_13 (by first | rfl | assumption) rfl (by first | assumption | exact hB _ _ _ rfl) ?_
    try simp (decide := true) only [vUpd_s, vUpd_nk, vUpd_ni, vRow_s, vRow_n, fSet_s, fSet_n, ne_eq, not_false_eq_true]
    refine vV.iload_n dX7_wind_29 rfl ?_
    refine vV.iald dX7_wind_30 (by first | rfl | assumption) (by omega) (by omega) ?_
    try simp (decide := true) only [vUpd_s, vUpd_nk, vUpd_ni, vRow_s, vRow_n, fSet_s, fSet_n, ne_eq, not_false_eq_true]
    refine vV.goto (tgt := 45) dX7_wind_31 (by decide) ?_
    refine vV.iast dX7_wind_45 (by first | rfl | assumption) (by omega) (by omega) ?_
    refine vV.iload_n dX7_wind_46 rfl ?_
    refine vV.aload_n dX7_wind_47 rfl ?_
    refine vV.geti (z := 13) dX7_wind_48 fl_X7_126 (by first | rfl | assumption) rfl rfl ?_
    try simp (decide := true) only [vUpd_s, vUpd_nk, vUpd_ni, vRow_s, vRow_n, fSet_s, fSet_n, ne_eq, not_false_eq_true]
    refine vV.icmp_ne (tgt := 101) dX7_wind_51 (by decide) (fun h51 => ?_) (fun h51 => ?_)
    · skip
      have hne : g ≠ some p := fun z => h51 (hgp.mpr z)
      refine vV.rv dX7_wind_101 rfl ?_
      refine ⟨rfl, key _ ?_ ?_ ?_ ?_ ?_⟩
      · intro k hk; simp at hk; funext j; simp [vUpd, hk]
      · intro j hj; simp at hj; simp [vUpd, hj]
      · funext j; simp [vUpd, fSet]; split; omega; rfl
      · first
          | (exfalso; omega)
          | (rw [hgo2 hne]; simp [vUpd]; exact hg)
          | (rw [hgo1 hge, if_pos (by omega)]; simp [vUpd, pOr])
          | (rw [hgo1 hge, if_neg (by omega)]; simp [vUpd, pOr]; omega)
      · first
          | (exfalso; omega)
          | (rw [hgo2 hne]; simp [vUpd]; done)
          | (rw [hgo1 hge, if_pos (by omega)]; simp [vUpd]; done)
          | (rw [hgo1 hge, if_neg (by omega)]; simp [vUpd]; done)
    · skip
      have hge : g = some p := hgp.mp h51
      refine vV.aload_n dX7_wind_54 rfl ?_
      refine vV.dup dX7_wind_55 rfl ?_
      refine vV.geti (z := 14) dX7_wind_56 fl_X7_129 (by first | rfl | assumption) rfl rfl ?_
      try simp (decide := true) only [vUpd_s, vUpd_nk, vUpd_ni, vRow_s, vRow_n, fSet_s, fSet_n, ne_eq, not_false_eq_true]
      refine vV.iconst dX7_wind_59 (by decide) ?_
      refine vV.iadd dX7_wind_60 (⟨by omega, by omega⟩) ?_
      refine vV.puti (z := 14) dX7_wind_61 fl_X7_129 (by first | rfl | assumption) rfl rfl ?_
      refine vV.aload_n dX7_wind_64 rfl ?_
      refine vV.getr dX7_wind_65 fl_X7_25 (by first | rfl | assumption) rfl (by first | assumption | exact hB _ _ _ rfl) ?_
      try simp (decide := true) only [vUpd_s, vUpd_nk, vUpd_ni, vRow_s, vRow_n, fSet_s, fSet_n, ne_eq, not_false_eq_true]
      refine vV.iload_n dX7_wind_68 rfl ?_
      refine vV.iald dX7_wind_69 (by first | rfl | assumption) (by omega) (by omega) ?_
      try simp (decide := true) only [vUpd_s, vUpd_nk, vUpd_ni, vRow_s, vRow_n, fSet_s, fSet_n, ne_eq, not_false_eq_true]
      refine vV.aload_n dX7_wind_70 rfl ?_
      refine vV.getr dX7_wind_71 fl_X7_13 (by first | rfl | assumption) rfl (by first | assumption | exact hB _ _ _ rfl) ?_
      try simp (decide := true) only [vUpd_s, vUpd_nk, vUpd_ni, vRow_s, vRow_n, fSet_s, fSet_n, ne_eq, not_false_eq_true]
      refine vV.iload_n dX7_wind_74 rfl ?_
      refine vV.iald dX7_wind_75 (by first | rfl | assumption) (by omega) (by omega) ?_
      try simp (decide := true) only [vUpd_s, vUpd_nk, vUpd_ni, vRow_s, vRow_n, fSet_s, fSet_n, ne_eq, not_false_eq_true]
      refine vV.icmp_eq (tgt := 90) dX7_wind_76 (by decide) (fun h76 => ?_) (fun h76 => ?_)
      · skip
        refine vV.aload_n dX7_wind_90 rfl ?_
        refine vV.bipush (v := (-6)) dX7_wind_91 (by decide) (by decide) ?_
        refine vV.puti (z := 13) dX7_wind_93 fl_X7_126 (by first | rfl | assumption) rfl rfl ?_
        refine vV.aload_n dX7_wind_96 rfl ?_
        refine vV.iconst dX7_wind_97 (by decide) ?_
        refine vV.puti (z := 14) dX7_wind_98 fl_X7_129 (by first | rfl | assumption) rfl rfl ?_
        refine vV.rv dX7_wind_101 rfl ?_
        refine ⟨rfl, key _ ?_ ?_ ?_ ?_ ?_⟩
        · intro k hk; simp at hk; funext j; simp [vUpd, hk]
        · intro j hj; simp at hj; simp [vUpd, hj]
        · funext j; simp [vUpd, fSet]; split; omega; rfl
        · first
            | (exfalso; omega)
            | (rw [hgo2 hne]; simp [vUpd]; exact hg)
            | (rw [hgo1 hge, if_pos (by omega)]; simp [vUpd, pOr])
            | (rw [hgo1 hge, if_neg (by omega)]; simp [vUpd, pOr]; omega)
        · first
            | (exfalso; omega)
            | (rw [hgo2 hne]; simp [vUpd]; done)
            | (rw [hgo1 hge, if_pos (by omega)]; simp [vUpd]; done)
            | (rw [hgo1 hge, if_neg (by omega)]; simp [vUpd]; done)
      · skip
        refine vV.aload_n dX7_wind_79 rfl ?_
        refine vV.geti (z := 14) dX7_wind_80 fl_X7_129 (by first | rfl | assumption) rfl rfl ?_
        try simp (decide := true) only [vUpd_s, vUpd_nk, vUpd_ni, vRow_s, vRow_n, fSet_s, fSet_n, ne_eq, not_false_eq_true]
        refine vV.aload_n dX7_wind_83 rfl ?_
        refine vV.geti (z := 7) dX7_wind_84 fl_X7_83 (by first | rfl | assumption) rfl rfl ?_
        try simp (decide := true) only [vUpd_s, vUpd_nk, vUpd_ni, vRow_s, vRow_n, fSet_s, fSet_n, ne_eq, not_false_eq_true]
        refine vV.icmp_ne (tgt := 101) dX7_wind_87 (by decide) (fun h87 => ?_) (fun h87 => ?_)
        · skip
          refine vV.rv dX7_wind_101 rfl ?_
          refine ⟨rfl, key _ ?_ ?_ ?_ ?_ ?_⟩
          · intro k hk; simp at hk; funext j; simp [vUpd, hk]
          · intro j hj; simp at hj; simp [vUpd, hj]
          · funext j; simp [vUpd, fSet]; split; omega; rfl
          · first
              | (exfalso; omega)
              | (rw [hgo2 hne]; simp [vUpd]; exact hg)
              | (rw [hgo1 hge, if_pos (by omega)]; simp [vUpd, pOr])
              | (rw [hgo1 hge, if_neg (by omega)]; simp [vUpd, pOr]; omega)
          · first
              | (exfalso; omega)
              | (rw [hgo2 hne]; simp [vUpd]; done)
              | (rw [hgo1 hge, if_pos (by omega)]; simp [vUpd]; done)
              | (rw [hgo1 hge, if_neg (by omega)]; simp [vUpd]; done)
        · skip
          refine vV.aload_n dX7_wind_90 rfl ?_
          refine vV.bipush (v := (-6)) dX7_wind_91 (by decide) (by decide) ?_
          refine vV.puti (z := 13) dX7_wind_93 fl_X7_126 (by first | rfl | assumption) rfl rfl ?_
          refine vV.aload_n dX7_wind_96 rfl ?_
          refine vV.iconst dX7_wind_97 (by decide) ?_
          refine vV.puti (z := 14) dX7_wind_98 fl_X7_129 (by first | rfl | assumption) rfl rfl ?_
          refine vV.rv dX7_wind_101 rfl ?_
          refine ⟨rfl, key _ ?_ ?_ ?_ ?_ ?_⟩
          · intro k hk; simp at hk; funext j; simp [vUpd, hk]
          · intro j hj; simp at hj; simp [vUpd, hj]
          · funext j; simp [vUpd, fSet]; split; omega; rfl
          · first
              | (exfalso; omega)
              | (rw [hgo2 hne]; simp [vUpd]; exact hg)
              | (rw [hgo1 hge, if_pos (by omega)]; simp [vUpd, pOr])
              | (rw [hgo1 hge, if_neg (by omega)]; simp [vUpd, pOr]; omega)
          · first
              | (exfalso; omega)
              | (rw [hgo2 hne]; simp [vUpd]; done)
              | (rw [hgo1 hge, if_pos (by omega)]; simp [vUpd]; done)
              | (rw [hgo1 hge, if_neg (by omega)]; simp [vUpd]; done)
