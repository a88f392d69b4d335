/-! ===== own: AllWays.after and what asks of a position ===== -/
theorem enK_C {m : Nat} {f : Nat → Nat} {n : Nat} (hn : n ≤ 3) (h : ∀ k, n ≤ k → f k = 0) : enK m f n = enC (m, f 0, f 1, f 2) := by
  have e3 : enK m f 3 = enC (m, f 0, f 1, f 2) := by unfold enC; show m + f 0 * 2 ^ 3 + f 1 * 2 ^ 7 + f 2 * 2 ^ 11 = _; simp only; omega
  rcases (show n = 0 ∨ n = 1 ∨ n = 2 ∨ n = 3 by omega) with z | z | z | z <;> subst z
  · rw [← e3]; show m = m + f 0 * 2 ^ 3 + f 1 * 2 ^ 7 + f 2 * 2 ^ 11; rw [h 0 (by omega), h 1 (by omega), h 2 (by omega)]; omega
  · rw [← e3]; show m + f 0 * 2 ^ 3 = m + f 0 * 2 ^ 3 + f 1 * 2 ^ 7 + f 2 * 2 ^ 11; rw [h 1 (by omega), h 2 (by omega)]; omega
  · rw [← e3]; show m + f 0 * 2 ^ 3 + f 1 * 2 ^ 7 = m + f 0 * 2 ^ 3 + f 1 * 2 ^ 7 + f 2 * 2 ^ 11; rw [h 2 (by omega)]; omega
  · exact e3
theorem xw_lt {E : xE} {th : Int} {s : xS} (hE : xEok E) (hs : xSt E s) (k : Nat) : xw E th s k < 16 := by
  unfold xw; split
  · rename_i h; have h1 := xv_le (th := th) hE hs h; have := (hE.2.1 k h).2.1; omega
  · decide
theorem xat_some {E : xE} {m : Int} {q : Nat} (h : xat E m = some q) : q < E.1 ∧ E.2.1 q = m := by
  have := pFind_some h; exact ⟨this.1, by simpa using this.2.1⟩
theorem dX0_after_0 : decode cX0_after 0 = .ok (.iload_n 1, 1) := by decide +kernel
theorem dX0_after_1 : decode cX0_after 1 = .ok (.bipush 7, 2) := by decide +kernel
theorem dX0_after_3 : decode cX0_after 3 = .ok (.iand, 1) := by decide +kernel
theorem dX0_after_4 : decode cX0_after 4 = .ok (.istore_n 3, 1) := by decide +kernel
theorem dX0_after_5 : decode cX0_after 5 = .ok (.iconst (-1), 1) := by decide +kernel
theorem dX0_after_6 : decode cX0_after 6 = .ok (.istore 4, 2) := by decide +kernel
theorem dX0_after_8 : decode cX0_after 8 = .ok (.iload_n 2, 1) := by decide +kernel
theorem dX0_after_9 : decode cX0_after 9 = .ok (.iconst 1, 1) := by decide +kernel
theorem dX0_after_10 : decode cX0_after 10 = .ok (.if_icmp .ne 9, 3) := by decide +kernel
theorem dX0_after_13 : decode cX0_after 13 = .ok (.iinc 3 (-1), 3) := by decide +kernel
theorem dX0_after_16 : decode cX0_after 16 = .ok (.goto 34, 3) := by decide +kernel
theorem dX0_after_19 : decode cX0_after 19 = .ok (.iload_n 2, 1) := by decide +kernel
theorem dX0_after_20 : decode cX0_after 20 = .ok (.iconst 2, 1) := by decide +kernel
theorem dX0_after_21 : decode cX0_after 21 = .ok (.if_icmp .ne 9, 3) := by decide +kernel
theorem dX0_after_24 : decode cX0_after 24 = .ok (.iinc 3 1, 3) := by decide +kernel
theorem dX0_after_27 : decode cX0_after 27 = .ok (.goto 23, 3) := by decide +kernel
theorem dX0_after_30 : decode cX0_after 30 = .ok (.iload_n 2, 1) := by decide +kernel
theorem dX0_after_31 : decode cX0_after 31 = .ok (.iconst 3, 1) := by decide +kernel
theorem dX0_after_32 : decode cX0_after 32 = .ok (.if_icmp .ne 18, 3) := by decide +kernel
theorem dX0_after_35 : decode cX0_after 35 = .ok (.aload_n 0, 1) := by decide +kernel
theorem dX0_after_36 : decode cX0_after 36 = .ok (.getfield 18, 3) := by decide +kernel
theorem dX0_after_39 : decode cX0_after 39 = .ok (.iload_n 3, 1) := by decide +kernel
theorem dX0_after_40 : decode cX0_after 40 = .ok (.iaload, 1) := by decide +kernel
theorem dX0_after_41 : decode cX0_after 41 = .ok (.istore 4, 2) := by decide +kernel
theorem dX0_after_43 : decode cX0_after 43 = .ok (.iload 4, 2) := by decide +kernel
theorem dX0_after_45 : decode cX0_after 45 = .ok (.ifCond .ge 5, 3) := by decide +kernel
theorem dX0_after_48 : decode cX0_after 48 = .ok (.iconst (-1), 1) := by decide +kernel
theorem dX0_after_49 : decode cX0_after 49 = .ok (.ireturn, 1) := by decide +kernel
theorem dX0_after_50 : decode cX0_after 50 = .ok (.iload_n 3, 1) := by decide +kernel
theorem dX0_after_51 : decode cX0_after 51 = .ok (.ifCond .lt 9, 3) := by decide +kernel
theorem dX0_after_54 : decode cX0_after 54 = .ok (.iload_n 3, 1) := by decide +kernel
theorem dX0_after_55 : decode cX0_after 55 = .ok (.bipush 7, 2) := by decide +kernel
theorem dX0_after_57 : decode cX0_after 57 = .ok (.if_icmp .le 5, 3) := by decide +kernel
theorem dX0_after_60 : decode cX0_after 60 = .ok (.iconst (-1), 1) := by decide +kernel
theorem dX0_after_61 : decode cX0_after 61 = .ok (.ireturn, 1) := by decide +kernel
theorem dX0_after_62 : decode cX0_after 62 = .ok (.iload_n 3, 1) := by decide +kernel
theorem dX0_after_63 : decode cX0_after 63 = .ok (.istore 5, 2) := by decide +kernel
theorem dX0_after_65 : decode cX0_after 65 = .ok (.iconst 0, 1) := by decide +kernel
theorem dX0_after_66 : decode cX0_after 66 = .ok (.istore 6, 2) := by decide +kernel
theorem dX0_after_68 : decode cX0_after 68 = .ok (.iload 6, 2) := by decide +kernel
theorem dX0_after_70 : decode cX0_after 70 = .ok (.aload_n 0, 1) := by decide +kernel
theorem dX0_after_71 : decode cX0_after 71 = .ok (.getfield 46, 3) := by decide +kernel
theorem dX0_after_74 : decode cX0_after 74 = .ok (.if_icmp .ge 79, 3) := by decide +kernel
theorem dX0_after_77 : decode cX0_after 77 = .ok (.iload_n 1, 1) := by decide +kernel
theorem dX0_after_78 : decode cX0_after 78 = .ok (.iload 6, 2) := by decide +kernel
theorem dX0_after_80 : decode cX0_after 80 = .ok (.invokestatic 58, 3) := by decide +kernel
theorem dX0_after_83 : decode cX0_after 83 = .ok (.ishr, 1) := by decide +kernel
theorem dX0_after_84 : decode cX0_after 84 = .ok (.bipush 15, 2) := by decide +kernel
theorem dX0_after_86 : decode cX0_after 86 = .ok (.iand, 1) := by decide +kernel
theorem dX0_after_87 : decode cX0_after 87 = .ok (.istore 7, 2) := by decide +kernel
theorem dX0_after_89 : decode cX0_after 89 = .ok (.iload 6, 2) := by decide +kernel
theorem dX0_after_91 : decode cX0_after 91 = .ok (.iload 4, 2) := by decide +kernel
theorem dX0_after_93 : decode cX0_after 93 = .ok (.if_icmp .ne 22, 3) := by decide +kernel
theorem dX0_after_96 : decode cX0_after 96 = .ok (.aload_n 0, 1) := by decide +kernel
theorem dX0_after_97 : decode cX0_after 97 = .ok (.getfield 11, 3) := by decide +kernel
theorem dX0_after_100 : decode cX0_after 100 = .ok (.iload 6, 2) := by decide +kernel
theorem dX0_after_102 : decode cX0_after 102 = .ok (.iaload, 1) := by decide +kernel
theorem dX0_after_103 : decode cX0_after 103 = .ok (.iload 7, 2) := by decide +kernel
theorem dX0_after_105 : decode cX0_after 105 = .ok (.aload_n 0, 1) := by decide +kernel
theorem dX0_after_106 : decode cX0_after 106 = .ok (.getfield 42, 3) := by decide +kernel
theorem dX0_after_109 : decode cX0_after 109 = .ok (.iadd, 1) := by decide +kernel
theorem dX0_after_110 : decode cX0_after 110 = .ok (.invokestatic 80, 3) := by decide +kernel
theorem dX0_after_113 : decode cX0_after 113 = .ok (.istore 7, 2) := by decide +kernel
theorem dX0_after_115 : decode cX0_after 115 = .ok (.iload 7, 2) := by decide +kernel
theorem dX0_after_117 : decode cX0_after 117 = .ok (.aload_n 0, 1) := by decide +kernel
theorem dX0_after_118 : decode cX0_after 118 = .ok (.getfield 15, 3) := by decide +kernel
theorem dX0_after_121 : decode cX0_after 121 = .ok (.iload 6, 2) := by decide +kernel
theorem dX0_after_123 : decode cX0_after 123 = .ok (.iaload, 1) := by decide +kernel
theorem dX0_after_124 : decode cX0_after 124 = .ok (.isub, 1) := by decide +kernel
theorem dX0_after_125 : decode cX0_after 125 = .ok (.istore 7, 2) := by decide +kernel
theorem dX0_after_127 : decode cX0_after 127 = .ok (.iload 7, 2) := by decide +kernel
theorem dX0_after_129 : decode cX0_after 129 = .ok (.ifCond .gt 5, 3) := by decide +kernel
theorem dX0_after_132 : decode cX0_after 132 = .ok (.iconst (-1), 1) := by decide +kernel
theorem dX0_after_133 : decode cX0_after 133 = .ok (.ireturn, 1) := by decide +kernel
theorem dX0_after_134 : decode cX0_after 134 = .ok (.iload 5, 2) := by decide +kernel
theorem dX0_after_136 : decode cX0_after 136 = .ok (.iload 7, 2) := by decide +kernel
theorem dX0_after_138 : decode cX0_after 138 = .ok (.iload 6, 2) := by decide +kernel
theorem dX0_after_140 : decode cX0_after 140 = .ok (.invokestatic 58, 3) := by decide +kernel
theorem dX0_after_143 : decode cX0_after 143 = .ok (.ishl, 1) := by decide +kernel
theorem dX0_after_144 : decode cX0_after 144 = .ok (.ior, 1) := by decide +kernel
theorem dX0_after_145 : decode cX0_after 145 = .ok (.istore 5, 2) := by decide +kernel
theorem dX0_after_147 : decode cX0_after 147 = .ok (.iinc 6 1, 3) := by decide +kernel
theorem dX0_after_150 : decode cX0_after 150 = .ok (.goto (-82), 3) := by decide +kernel
theorem dX0_after_153 : decode cX0_after 153 = .ok (.iload 5, 2) := by decide +kernel
theorem dX0_after_155 : decode cX0_after 155 = .ok (.ireturn, 1) := by decide +kernel
theorem l_X0_af68 {d : List Nat} {T : vT} {M : vM} {E : xE} {s : xS} {th w : Int} {mn : Nat} (hB : vB T) (hE : xEok E) (hC : xC M E) (hs : xSt E s) (hmn : mn < 8) (hm : xman th s.1 = mn) (hat : th = 3 → xat E s.1 ≠ none) (hw : ∀ p : Nat, p < E.1 → ((p : Int) = w ↔ th = 3 ∧ E.2.1 p = s.1)) (hp : (enC s : Nat) < 32768) : ∀ p, p ≤ E.1 → (∀ k, k < p → 0 < xv E th s k) → ∀ x7,
    vV m_X0_after d d (vPi fun r T1 M1 => r = xr (xn E th s) ∧ T = T1 ∧ M = M1) 68 [some (vR 100), some (vI (enC s : Nat)), some (vI th), some (vI mn), some (vI w), some (vI (enK mn (xw E th s) p : Nat)), some (vI p), x7] [] d T M := by
  obtain ⟨c1, c2, c3, c4⟩ := hC
  have hE3 := hE.1
  refine vUp ?_
  intro p hpm ih hpos x7
  have hz : p = E.1 → xr (xn E th s) = (enK mn (xw E th s) p : Nat) := fun h => by
    rw [xn_some (xbad_no.mpr ⟨by omega, hat, fun k hk => hpos k (by omega)⟩), h, enK_C hE3.2 (fun k hk => by unfold xw; rw [if_neg (by omega)])]
    show (enC ((xman th s.1).toNat, _, _, _) : Nat) = ((enC _ : Nat) : Int)
    rw [hm]; rfl
  have hg := hE.2.2.1
  refine vV.iload dX0_after_68 rfl ?_
  refine vV.aload_n dX0_after_70 rfl ?_
  refine vV.geti (z := 0) dX0_after_71 fl_X0_46 (by first | rfl | assumption) rfl rfl ?_
  rw [c1]
  refine vV.icmp_ge (tgt := 153) dX0_after_74 (by decide) (fun h74 => ?_) (fun h74 => ?_)
  · skip
    refine vV.iload dX0_after_153 rfl ?_
    refine vV.ri dX0_after_155 rfl ?_
    exact ⟨(hz (by omega)).symm, rfl, rfl⟩
  · skip
    have hpl : p < E.1 := by omega
    have hdg := (enC_dig (hs.ok hE) (k := p) (by omega)).1
    have ht := (hs.2 p (by omega)).1 hpl
    obtain ⟨c31, c32⟩ := c3 p hpl
    have hEp := hE.2.1 p hpl
    have hxl := xv_le (th := th) hE hs hpl
    refine vV.iload_n dX0_after_77 rfl ?_
    refine vV.iload dX0_after_78 rfl ?_
    refine vV.cSi dX0_after_80 ml_X0_58 cw_X0_shiftOf sw_X0_shiftOf (by unfold vRoom; decide) (c_X0_shiftOf (by omega)) rfl rfl (Nat.le_of_ble_eq_true rfl) ?_
    rintro x80 _ _ hx80 ⟨rfl, rfl, rfl⟩
    refine vV.ishr dX0_after_83 ?_
    refine vV.bipush (v := 15) dX0_after_84 (by decide) (by decide) ?_
    refine vV.iand dX0_after_86 ?_
    rw [shr_dig hp (by omega), hdg]
    refine vV.istore (L' := [_, _, _, _, _, _, _, _]) dX0_after_87 (by decide) rfl ?_
    refine vV.iload dX0_after_89 rfl ?_
    refine vV.iload dX0_after_91 rfl ?_
    refine vV.icmp_ne (tgt := 115) dX0_after_93 (by decide) (fun h93 => ?_) (fun h93 => ?_)
    · skip
      have hwp : ¬ (th = 3 ∧ E.2.1 p = s.1) := fun z => h93 ((hw p hpl).mpr z)
      have ex : ((xt s p : Nat) : Int) - E.2.2.2.1 p = xv E th s p := by unfold xv; rw [if_neg hwp]
      refine vV.iload dX0_after_115 rfl ?_
      refine vV.aload_n dX0_after_117 rfl ?_
      refine vV.getr dX0_after_118 fl_X0_15 (by first | rfl | assumption) rfl (by first | assumption | exact hB _ _ _ rfl) ?_
      refine vV.iload dX0_after_121 rfl ?_
      refine vV.iald dX0_after_123 (by first | rfl | assumption) (by omega) (by omega) ?_
      rw [c32]
      refine vV.isub dX0_after_124 (⟨by omega, by omega⟩) ?_
      rw [ex]
      refine vV.istore (L' := [_, _, _, _, _, _, _, _]) dX0_after_125 (by decide) rfl ?_
      refine vV.iload dX0_after_127 rfl ?_
      refine vV.if_gt (tgt := 134) dX0_after_129 (by decide) (fun h129 => ?_) (fun h129 => ?_)
      · skip
        have hxw : xv E th s p = (xw E th s p : Nat) := by unfold xw; rw [if_pos hpl]; omega
        refine vV.iload dX0_after_134 rfl ?_
        refine vV.iload dX0_after_136 rfl ?_
        refine vV.iload dX0_after_138 rfl ?_
        refine vV.cSi dX0_after_140 ml_X0_58 cw_X0_shiftOf sw_X0_shiftOf (by unfold vRoom; decide) (c_X0_shiftOf (by omega)) rfl rfl (Nat.le_of_ble_eq_true rfl) ?_
        rintro x140 _ _ hx140 ⟨rfl, rfl, rfl⟩
        refine vV.ishl dX0_after_143 ?_
        refine vV.ior dX0_after_144 ?_
        rw [hxw, enK_or hmn (by omega) (fun j _ => xw_lt hE hs j)]
        refine vV.istore (L' := [_, _, _, _, _, _, _, _]) dX0_after_145 (by decide) rfl ?_
        refine vV.iinc (L' := [_, _, _, _, _, _, _, _]) dX0_after_147 (by decide) rfl (⟨by omega, by omega⟩) rfl ?_
        refine vV.goto (tgt := 68) dX0_after_150 (by decide) ?_
        exact ih (by omega) (fun k hk => (Nat.lt_succ_iff_lt_or_eq.mp hk).elim (hpos k) (fun e => by subst e; omega)) _
      · skip
        refine vV.iconst dX0_after_132 (by decide) ?_
        refine vV.ri dX0_after_133 rfl ?_
        exact ⟨by rw [xn_none (xbad_f hpl (by omega))]; rfl, rfl, rfl⟩
    · skip
      have hwp := (hw p hpl).mp h93
      have ex : min (E.2.2.1 p) ((xt s p : Nat) + E.2.2.2.2) - E.2.2.2.1 p = xv E th s p := by unfold xv; rw [if_pos hwp]
      refine vV.aload_n dX0_after_96 rfl ?_
      refine vV.getr dX0_after_97 fl_X0_11 (by first | rfl | assumption) rfl (by first | assumption | exact hB _ _ _ rfl) ?_
      refine vV.iload dX0_after_100 rfl ?_
      refine vV.iald dX0_after_102 (by first | rfl | assumption) (by omega) (by omega) ?_
      rw [c31]
      refine vV.iload dX0_after_103 rfl ?_
      refine vV.aload_n dX0_after_105 rfl ?_
      refine vV.geti (z := 1) dX0_after_106 fl_X0_42 (by first | rfl | assumption) rfl rfl ?_
      rw [c2]
      refine vV.iadd dX0_after_109 (⟨by omega, by omega⟩) ?_
      refine vV.mmin dX0_after_110 ml_X0_80 mm_min (by decide) (Nat.le_of_ble_eq_true rfl) ?_
      refine vV.istore (L' := [_, _, _, _, _, _, _, _]) dX0_after_113 (by decide) rfl ?_
      refine vV.iload dX0_after_115 rfl ?_
      refine vV.aload_n dX0_after_117 rfl ?_
      refine vV.getr dX0_after_118 fl_X0_15 (by first | rfl | assumption) rfl (by first | assumption | exact hB _ _ _ rfl) ?_
      refine vV.iload dX0_after_121 rfl ?_
      refine vV.iald dX0_after_123 (by first | rfl | assumption) (by omega) (by omega) ?_
      rw [c32]
      refine vV.isub dX0_after_124 (⟨by omega, by omega⟩) ?_
      rw [ex]
      refine vV.istore (L' := [_, _, _, _, _, _, _, _]) dX0_after_125 (by decide) rfl ?_
      refine vV.iload dX0_after_127 rfl ?_
      refine vV.if_gt (tgt := 134) dX0_after_129 (by decide) (fun h129 => ?_) (fun h129 => ?_)
      · skip
        have hxw : xv E th s p = (xw E th s p : Nat) := by unfold xw; rw [if_pos hpl]; omega
        refine vV.iload dX0_after_134 rfl ?_
        refine vV.iload dX0_after_136 rfl ?_
        refine vV.iload dX0_after_138 rfl ?_
        refine vV.cSi dX0_after_140 ml_X0_58 cw_X0_shiftOf sw_X0_shiftOf (by unfold vRoom; decide) (c_X0_shiftOf (by omega)) rfl rfl (Nat.le_of_ble_eq_true rfl) ?_
        rintro x140 _ _ hx140 ⟨rfl, rfl, rfl⟩
        refine vV.ishl dX0_after_143 ?_
        refine vV.ior dX0_after_144 ?_
        rw [hxw, enK_or hmn (by omega) (fun j _ => xw_lt hE hs j)]
        refine vV.istore (L' := [_, _, _, _, _, _, _, _]) dX0_after_145 (by decide) rfl ?_
        refine vV.iinc (L' := [_, _, _, _, _, _, _, _]) dX0_after_147 (by decide) rfl (⟨by omega, by omega⟩) rfl ?_
        refine vV.goto (tgt := 68) dX0_after_150 (by decide) ?_
        exact ih (by omega) (fun k hk => (Nat.lt_succ_iff_lt_or_eq.mp hk).elim (hpos k) (fun e => by subst e; omega)) _
      · skip
        refine vV.iconst dX0_after_132 (by decide) ?_
        refine vV.ri dX0_after_133 rfl ?_
        exact ⟨by rw [xn_none (xbad_f hpl (by omega))]; rfl, rfl, rfl⟩
theorem c_X0_after {d : List Nat} {T : vT} {M : vM} {E : xE} {s : xS} {th : Int} (hB : vB T) (hE : xEok E) (hC : xC M E) (hs : xSt E s) (h0 : 0 ≤ th ∧ th ≤ 3) : vCon m_X0_after d d [vR 100, vI (enC s : Nat), vI th] T M (vPi fun r T1 M1 => r = xr (xn E th s) ∧ T = T1 ∧ M = M1) := by
  have hok := hs.ok hE
  have hp := enC_lt hok
  have hm8 := (enC_dig hok (k := 0) (by decide)).2
  have hs8 := hs.1
  have h7 : vAnd (enC s : Nat) 7 = (s.1 : Nat) := by rw [show (7 : Int) = ((2 ^ 3 - 1 : Nat) : Int) from rfl, vAnd_nat 3 (by decide) (by omega), show (2 : Nat) ^ 3 = 8 from rfl, hm8]
  have h104 := hC.2.2.2 s.1 hs8
  have go : ∀ (mn : Int) (w : Int) (x5 x6 x7 : Option vA), xman th s.1 = mn → (th = 3 → xat E s.1 ≠ none) → (∀ p : Nat, p < E.1 → ((p : Int) = w ↔ th = 3 ∧ E.2.1 p = s.1)) → vIn mn →
      vV m_X0_after d d (vPi fun r T1 M1 => r = xr (xn E th s) ∧ T = T1 ∧ M = M1) 50 [some (vR 100), some (vI (enC s : Nat)), some (vI th), some (vI mn), some (vI w), x5, x6, x7] [] d T M := by
    intro mn w x5 x6 x7 hmn hat hw hin
    refine vV.iload_n dX0_after_50 rfl ?_
    refine vV.if_lt (tgt := 60) dX0_after_51 (by decide) (fun h51 => ?_) (fun h51 => ?_)
    · skip
      refine vV.iconst dX0_after_60 (by decide) ?_
      refine vV.ri dX0_after_61 rfl ?_
      exact ⟨by rw [xn_none (xbad_m (by omega))]; rfl, rfl, rfl⟩
    · skip
      refine vV.iload_n dX0_after_54 rfl ?_
      refine vV.bipush (v := 7) dX0_after_55 (by decide) (by decide) ?_
      refine vV.icmp_le (tgt := 62) dX0_after_57 (by decide) (fun h57 => ?_) (fun h57 => ?_)
      · skip
        refine vV.iload_n dX0_after_62 rfl ?_
        refine vV.istore (L' := [_, _, _, _, _, _, _, _]) dX0_after_63 (by decide) rfl ?_
        refine vV.iconst dX0_after_65 (by decide) ?_
        refine vV.istore (L' := [_, _, _, _, _, _, _, _]) dX0_after_66 (by decide) rfl ?_
        obtain ⟨m', hm'⟩ : ∃ m' : Nat, mn = m' := ⟨mn.toNat, by omega⟩
        subst hm'
        exact l_X0_af68 hB hE hC hs (by omega) hmn hat hw hp 0 (by omega) (fun k hk => by omega) _
      · skip
        refine vV.iconst dX0_after_60 (by decide) ?_
        refine vV.ri dX0_after_61 rfl ?_
        exact ⟨by rw [xn_none (xbad_m (by omega))]; rfl, rfl, rfl⟩
  refine vCon.of (by decide) rfl rfl (Nat.le_of_ble_eq_true rfl) ?_
  refine vV.iload_n dX0_after_0 rfl ?_
  refine vV.bipush (v := 7) dX0_after_1 (by decide) (by decide) ?_
  refine vV.iand dX0_after_3 ?_
  rw [h7]
  refine vV.istore_n (L' := [_, _, _, _, _, _, _, _]) dX0_after_4 (by decide) rfl ?_
  refine vV.iconst dX0_after_5 (by decide) ?_
  refine vV.istore (L' := [_, _, _, _, _, _, _, _]) dX0_after_6 (by decide) rfl ?_
  refine vV.iload_n dX0_after_8 rfl ?_
  refine vV.iconst dX0_after_9 (by decide) ?_
  refine vV.icmp_ne (tgt := 19) dX0_after_10 (by decide) (fun h10 => ?_) (fun h10 => ?_)
  · skip
    refine vV.iload_n dX0_after_19 rfl ?_
    refine vV.iconst dX0_after_20 (by decide) ?_
    refine vV.icmp_ne (tgt := 30) dX0_after_21 (by decide) (fun h21 => ?_) (fun h21 => ?_)
    · skip
      have e1 : xman th s.1 = (s.1 : Int) := by unfold xman; rw [if_neg h10, if_neg h21]
      refine vV.iload_n dX0_after_30 rfl ?_
      refine vV.iconst dX0_after_31 (by decide) ?_
      refine vV.icmp_ne (tgt := 50) dX0_after_32 (by decide) (fun h32 => ?_) (fun h32 => ?_)
      · skip
        first | exact go _ _ _ _ _ (by omega) (fun z => by rw [hq]; simp) (fun p hp => ⟨fun z => ⟨h32, by rw [show p = q by omega]; exact q2⟩, fun z => by rw [hE.2.2.2 p q hp q1 (z.2.trans q2.symm)]⟩) ⟨by omega, by omega⟩ | exact go _ _ _ _ _ (by omega) (fun z => by omega) (fun p hp => ⟨fun z => by omega, fun z => by omega⟩) ⟨by omega, by omega⟩
      · skip
        refine vV.aload_n dX0_after_35 rfl ?_
        refine vV.getr dX0_after_36 fl_X0_18 (by first | rfl | assumption) rfl (by first | assumption | exact hB _ _ _ rfl) ?_
        refine vV.iload_n dX0_after_39 rfl ?_
        refine vV.iald dX0_after_40 (by first | rfl | assumption) (by omega) (by omega) ?_
        rw [h104]
        refine vV.istore (L' := [_, _, _, _, _, _, _, _]) dX0_after_41 (by decide) rfl ?_
        refine vV.iload dX0_after_43 rfl ?_
        refine vV.if_ge (tgt := 50) dX0_after_45 (by decide) (fun h45 => ?_) (fun h45 => ?_)
        · skip
          obtain ⟨q, hq⟩ := Option.isSome_iff_exists.mp (pOr_some h45)
          rw [hq, pOr_s]
          obtain ⟨q1, q2⟩ := xat_some hq
          first | exact go _ _ _ _ _ (by omega) (fun z => by rw [hq]; simp) (fun p hp => ⟨fun z => ⟨h32, by rw [show p = q by omega]; exact q2⟩, fun z => by rw [hE.2.2.2 p q hp q1 (z.2.trans q2.symm)]⟩) ⟨by omega, by omega⟩ | exact go _ _ _ _ _ (by omega) (fun z => by omega) (fun p hp => ⟨fun z => by omega, fun z => by omega⟩) ⟨by omega, by omega⟩
        · skip
          refine vV.iconst dX0_after_48 (by decide) ?_
          refine vV.ri dX0_after_49 rfl ?_
          exact ⟨by rw [h32, xn_none (xbad_w (pOr_none h45))]; rfl, rfl, rfl⟩
    · skip
      have e1 : xman th s.1 = (s.1 : Int) + 1 := by unfold xman; rw [if_neg h10, if_pos h21]
      refine vV.iinc (L' := [_, _, _, _, _, _, _, _]) dX0_after_24 (by decide) rfl (⟨by omega, by omega⟩) rfl ?_
      refine vV.goto (tgt := 50) dX0_after_27 (by decide) ?_
      first | exact go _ _ _ _ _ (by omega) (fun z => by rw [hq]; simp) (fun p hp => ⟨fun z => ⟨h32, by rw [show p = q by omega]; exact q2⟩, fun z => by rw [hE.2.2.2 p q hp q1 (z.2.trans q2.symm)]⟩) ⟨by omega, by omega⟩ | exact go _ _ _ _ _ (by omega) (fun z => by omega) (fun p hp => ⟨fun z => by omega, fun z => by omega⟩) ⟨by omega, by omega⟩
  · skip
    have e1 : xman th s.1 = (s.1 : Int) - 1 := by unfold xman; rw [if_pos h10]
    refine vV.iinc (L' := [_, _, _, _, _, _, _, _]) dX0_after_13 (by decide) rfl (⟨by omega, by omega⟩) rfl ?_
    refine vV.goto (tgt := 50) dX0_after_16 (by decide) ?_
    first | exact go _ _ _ _ _ (by omega) (fun z => by rw [hq]; simp) (fun p hp => ⟨fun z => ⟨h32, by rw [show p = q by omega]; exact q2⟩, fun z => by rw [hE.2.2.2 p q hp q1 (z.2.trans q2.symm)]⟩) ⟨by omega, by omega⟩ | exact go _ _ _ _ _ (by omega) (fun z => by omega) (fun p hp => ⟨fun z => by omega, fun z => by omega⟩) ⟨by omega, by omega⟩
