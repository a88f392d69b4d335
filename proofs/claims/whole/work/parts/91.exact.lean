/-! ===== own: the reference: gasps ===== -/
def gaS (M N : vM) : Prop := mSame [235] M N
theorem gaS.x {M N : vM} {E : xE} (h : gaS M N) (hX : rX M E) : rX N E := by
  unfold rX at hX ⊢
  rw [h 200 (by decide), h 229 (by decide), h 201 (by decide), h 202 (by decide), h 203 (by decide)]
  exact hX
theorem dX7_gasps_0 : decode cX7_gasps 0 = .ok (.iload_n 1, 1) := by decide +kernel
theorem dX7_gasps_1 : decode cX7_gasps 1 = .ok (.i2l, 1) := by decide +kernel
theorem dX7_gasps_2 : decode cX7_gasps 2 = .ok (.lconst 1, 1) := by decide +kernel
theorem dX7_gasps_3 : decode cX7_gasps 3 = .ok (.ldc2_w 286, 3) := by decide +kernel
theorem dX7_gasps_6 : decode cX7_gasps 6 = .ok (.invokestatic 92, 3) := by decide +kernel
theorem dX7_gasps_9 : decode cX7_gasps 9 = .ok (.ifCond .eq 13, 3) := by decide +kernel
theorem dX7_gasps_12 : decode cX7_gasps 12 = .ok (.iload_n 2, 1) := by decide +kernel
theorem dX7_gasps_13 : decode cX7_gasps 13 = .ok (.i2l, 1) := by decide +kernel
theorem dX7_gasps_14 : decode cX7_gasps 14 = .ok (.lconst 0, 1) := by decide +kernel
theorem dX7_gasps_15 : decode cX7_gasps 15 = .ok (.lconst 1, 1) := by decide +kernel
theorem dX7_gasps_16 : decode cX7_gasps 16 = .ok (.invokestatic 92, 3) := by decide +kernel
theorem dX7_gasps_19 : decode cX7_gasps 19 = .ok (.ifCond .ne 6, 3) := by decide +kernel
theorem dX7_gasps_22 : decode cX7_gasps 22 = .ok (.bipush (-2), 2) := by decide +kernel
theorem dX7_gasps_24 : decode cX7_gasps 24 = .ok (.ireturn, 1) := by decide +kernel
theorem dX7_gasps_25 : decode cX7_gasps 25 = .ok (.aload_n 0, 1) := by decide +kernel
theorem dX7_gasps_26 : decode cX7_gasps 26 = .ok (.invokevirtual 269, 3) := by decide +kernel
theorem dX7_gasps_29 : decode cX7_gasps 29 = .ok (.ifCond .ne 6, 3) := by decide +kernel
theorem dX7_gasps_32 : decode cX7_gasps 32 = .ok (.bipush (-3), 2) := by decide +kernel
theorem dX7_gasps_34 : decode cX7_gasps 34 = .ok (.ireturn, 1) := by decide +kernel
theorem dX7_gasps_35 : decode cX7_gasps 35 = .ok (.iconst 0, 1) := by decide +kernel
theorem dX7_gasps_36 : decode cX7_gasps 36 = .ok (.istore_n 3, 1) := by decide +kernel
theorem dX7_gasps_37 : decode cX7_gasps 37 = .ok (.iload_n 3, 1) := by decide +kernel
theorem dX7_gasps_38 : decode cX7_gasps 38 = .ok (.ldc 52, 2) := by decide +kernel
theorem dX7_gasps_40 : decode cX7_gasps 40 = .ok (.if_icmp .ge 16, 3) := by decide +kernel
theorem dX7_gasps_43 : decode cX7_gasps 43 = .ok (.aload_n 0, 1) := by decide +kernel
theorem dX7_gasps_44 : decode cX7_gasps 44 = .ok (.getfield 67, 3) := by decide +kernel
theorem dX7_gasps_47 : decode cX7_gasps 47 = .ok (.iload_n 3, 1) := by decide +kernel
theorem dX7_gasps_48 : decode cX7_gasps 48 = .ok (.iconst 0, 1) := by decide +kernel
theorem dX7_gasps_49 : decode cX7_gasps 49 = .ok (.iastore, 1) := by decide +kernel
theorem dX7_gasps_50 : decode cX7_gasps 50 = .ok (.iinc 3 1, 3) := by decide +kernel
theorem dX7_gasps_53 : decode cX7_gasps 53 = .ok (.goto (-16), 3) := by decide +kernel
theorem dX7_gasps_56 : decode cX7_gasps 56 = .ok (.iconst 0, 1) := by decide +kernel
theorem dX7_gasps_57 : decode cX7_gasps 57 = .ok (.istore_n 3, 1) := by decide +kernel
theorem dX7_gasps_58 : decode cX7_gasps 58 = .ok (.iconst 1, 1) := by decide +kernel
theorem dX7_gasps_59 : decode cX7_gasps 59 = .ok (.istore 4, 2) := by decide +kernel
theorem dX7_gasps_61 : decode cX7_gasps 61 = .ok (.iload 4, 2) := by decide +kernel
theorem dX7_gasps_63 : decode cX7_gasps 63 = .ok (.iload_n 1, 1) := by decide +kernel
theorem dX7_gasps_64 : decode cX7_gasps 64 = .ok (.if_icmp .ge 100, 3) := by decide +kernel
theorem dX7_gasps_67 : decode cX7_gasps 67 = .ok (.iconst 0, 1) := by decide +kernel
theorem dX7_gasps_68 : decode cX7_gasps 68 = .ok (.istore 5, 2) := by decide +kernel
theorem dX7_gasps_70 : decode cX7_gasps 70 = .ok (.iload 5, 2) := by decide +kernel
theorem dX7_gasps_72 : decode cX7_gasps 72 = .ok (.ldc 52, 2) := by decide +kernel
theorem dX7_gasps_74 : decode cX7_gasps 74 = .ok (.if_icmp .ge 80, 3) := by decide +kernel
theorem dX7_gasps_77 : decode cX7_gasps 77 = .ok (.bipush (-6), 2) := by decide +kernel
theorem dX7_gasps_79 : decode cX7_gasps 79 = .ok (.istore 6, 2) := by decide +kernel
theorem dX7_gasps_81 : decode cX7_gasps 81 = .ok (.iconst 0, 1) := by decide +kernel
theorem dX7_gasps_82 : decode cX7_gasps 82 = .ok (.istore 7, 2) := by decide +kernel
theorem dX7_gasps_84 : decode cX7_gasps 84 = .ok (.iload 7, 2) := by decide +kernel
theorem dX7_gasps_86 : decode cX7_gasps 86 = .ok (.iconst 4, 1) := by decide +kernel
theorem dX7_gasps_87 : decode cX7_gasps 87 = .ok (.if_icmp .ge 45, 3) := by decide +kernel
theorem dX7_gasps_90 : decode cX7_gasps 90 = .ok (.aload_n 0, 1) := by decide +kernel
theorem dX7_gasps_91 : decode cX7_gasps 91 = .ok (.iload 5, 2) := by decide +kernel
theorem dX7_gasps_93 : decode cX7_gasps 93 = .ok (.invokevirtual 260, 3) := by decide +kernel
theorem dX7_gasps_96 : decode cX7_gasps 96 = .ok (.ifCond .eq 36, 3) := by decide +kernel
theorem dX7_gasps_99 : decode cX7_gasps 99 = .ok (.aload_n 0, 1) := by decide +kernel
theorem dX7_gasps_100 : decode cX7_gasps 100 = .ok (.iload 5, 2) := by decide +kernel
theorem dX7_gasps_102 : decode cX7_gasps 102 = .ok (.iload 7, 2) := by decide +kernel
theorem dX7_gasps_104 : decode cX7_gasps 104 = .ok (.iload_n 3, 1) := by decide +kernel
theorem dX7_gasps_105 : decode cX7_gasps 105 = .ok (.invokevirtual 288, 3) := by decide +kernel
theorem dX7_gasps_108 : decode cX7_gasps 108 = .ok (.istore 8, 2) := by decide +kernel
theorem dX7_gasps_110 : decode cX7_gasps 110 = .ok (.iload 8, 2) := by decide +kernel
theorem dX7_gasps_112 : decode cX7_gasps 112 = .ok (.iload 6, 2) := by decide +kernel
theorem dX7_gasps_114 : decode cX7_gasps 114 = .ok (.if_icmp .le 8, 3) := by decide +kernel
theorem dX7_gasps_117 : decode cX7_gasps 117 = .ok (.iload 8, 2) := by decide +kernel
theorem dX7_gasps_119 : decode cX7_gasps 119 = .ok (.goto 5, 3) := by decide +kernel
theorem dX7_gasps_122 : decode cX7_gasps 122 = .ok (.iload 6, 2) := by decide +kernel
theorem dX7_gasps_124 : decode cX7_gasps 124 = .ok (.istore 6, 2) := by decide +kernel
theorem dX7_gasps_126 : decode cX7_gasps 126 = .ok (.iinc 7 1, 3) := by decide +kernel
theorem dX7_gasps_129 : decode cX7_gasps 129 = .ok (.goto (-45), 3) := by decide +kernel
theorem dX7_gasps_132 : decode cX7_gasps 132 = .ok (.aload_n 0, 1) := by decide +kernel
theorem dX7_gasps_133 : decode cX7_gasps 133 = .ok (.getfield 67, 3) := by decide +kernel
theorem dX7_gasps_136 : decode cX7_gasps 136 = .ok (.ldc 52, 2) := by decide +kernel
theorem dX7_gasps_138 : decode cX7_gasps 138 = .ok (.iconst 1, 1) := by decide +kernel
theorem dX7_gasps_139 : decode cX7_gasps 139 = .ok (.iload_n 3, 1) := by decide +kernel
theorem dX7_gasps_140 : decode cX7_gasps 140 = .ok (.isub, 1) := by decide +kernel
theorem dX7_gasps_141 : decode cX7_gasps 141 = .ok (.imul, 1) := by decide +kernel
theorem dX7_gasps_142 : decode cX7_gasps 142 = .ok (.iload 5, 2) := by decide +kernel
theorem dX7_gasps_144 : decode cX7_gasps 144 = .ok (.iadd, 1) := by decide +kernel
theorem dX7_gasps_145 : decode cX7_gasps 145 = .ok (.iload 6, 2) := by decide +kernel
theorem dX7_gasps_147 : decode cX7_gasps 147 = .ok (.iastore, 1) := by decide +kernel
theorem dX7_gasps_148 : decode cX7_gasps 148 = .ok (.iinc 5 1, 3) := by decide +kernel
theorem dX7_gasps_151 : decode cX7_gasps 151 = .ok (.goto (-81), 3) := by decide +kernel
theorem dX7_gasps_154 : decode cX7_gasps 154 = .ok (.iconst 1, 1) := by decide +kernel
theorem dX7_gasps_155 : decode cX7_gasps 155 = .ok (.iload_n 3, 1) := by decide +kernel
theorem dX7_gasps_156 : decode cX7_gasps 156 = .ok (.isub, 1) := by decide +kernel
theorem dX7_gasps_157 : decode cX7_gasps 157 = .ok (.istore_n 3, 1) := by decide +kernel
theorem dX7_gasps_158 : decode cX7_gasps 158 = .ok (.iinc 4 1, 3) := by decide +kernel
theorem dX7_gasps_161 : decode cX7_gasps 161 = .ok (.goto (-100), 3) := by decide +kernel
theorem dX7_gasps_164 : decode cX7_gasps 164 = .ok (.bipush (-6), 2) := by decide +kernel
theorem dX7_gasps_166 : decode cX7_gasps 166 = .ok (.istore 4, 2) := by decide +kernel
theorem dX7_gasps_168 : decode cX7_gasps 168 = .ok (.bipush (-6), 2) := by decide +kernel
theorem dX7_gasps_170 : decode cX7_gasps 170 = .ok (.istore 5, 2) := by decide +kernel
theorem dX7_gasps_172 : decode cX7_gasps 172 = .ok (.iconst 0, 1) := by decide +kernel
theorem dX7_gasps_173 : decode cX7_gasps 173 = .ok (.istore 6, 2) := by decide +kernel
theorem dX7_gasps_175 : decode cX7_gasps 175 = .ok (.iload 6, 2) := by decide +kernel
theorem dX7_gasps_177 : decode cX7_gasps 177 = .ok (.iconst 4, 1) := by decide +kernel
theorem dX7_gasps_178 : decode cX7_gasps 178 = .ok (.if_icmp .ge 37, 3) := by decide +kernel
theorem dX7_gasps_181 : decode cX7_gasps 181 = .ok (.aload_n 0, 1) := by decide +kernel
theorem dX7_gasps_182 : decode cX7_gasps 182 = .ok (.aload_n 0, 1) := by decide +kernel
theorem dX7_gasps_183 : decode cX7_gasps 183 = .ok (.invokevirtual 275, 3) := by decide +kernel
theorem dX7_gasps_186 : decode cX7_gasps 186 = .ok (.iload 6, 2) := by decide +kernel
theorem dX7_gasps_188 : decode cX7_gasps 188 = .ok (.iload_n 3, 1) := by decide +kernel
theorem dX7_gasps_189 : decode cX7_gasps 189 = .ok (.invokevirtual 288, 3) := by decide +kernel
theorem dX7_gasps_192 : decode cX7_gasps 192 = .ok (.istore 7, 2) := by decide +kernel
theorem dX7_gasps_194 : decode cX7_gasps 194 = .ok (.iload 7, 2) := by decide +kernel
theorem dX7_gasps_196 : decode cX7_gasps 196 = .ok (.iload 4, 2) := by decide +kernel
theorem dX7_gasps_198 : decode cX7_gasps 198 = .ok (.if_icmp .le 11, 3) := by decide +kernel
theorem dX7_gasps_201 : decode cX7_gasps 201 = .ok (.iload 7, 2) := by decide +kernel
theorem dX7_gasps_203 : decode cX7_gasps 203 = .ok (.istore 4, 2) := by decide +kernel
theorem dX7_gasps_205 : decode cX7_gasps 205 = .ok (.iload 6, 2) := by decide +kernel
theorem dX7_gasps_207 : decode cX7_gasps 207 = .ok (.istore 5, 2) := by decide +kernel
theorem dX7_gasps_209 : decode cX7_gasps 209 = .ok (.iinc 6 1, 3) := by decide +kernel
theorem dX7_gasps_212 : decode cX7_gasps 212 = .ok (.goto (-37), 3) := by decide +kernel
theorem dX7_gasps_215 : decode cX7_gasps 215 = .ok (.iload_n 2, 1) := by decide +kernel
theorem dX7_gasps_216 : decode cX7_gasps 216 = .ok (.ifCond .ne 8, 3) := by decide +kernel
theorem dX7_gasps_219 : decode cX7_gasps 219 = .ok (.iload 4, 2) := by decide +kernel
theorem dX7_gasps_221 : decode cX7_gasps 221 = .ok (.goto 5, 3) := by decide +kernel
theorem dX7_gasps_224 : decode cX7_gasps 224 = .ok (.iload 5, 2) := by decide +kernel
theorem dX7_gasps_226 : decode cX7_gasps 226 = .ok (.ireturn, 1) := by decide +kernel
theorem l_X7_gs84 {d : List Nat} {T : vT} {N : vM} {E : xE} {n w : Int} {row k c : Nat} {Q : Option vA → vT → vM → Prop} (hB : vB T) (hE : xEok E) (hX : rX N E) (hr : row ≤ 1) (hk : k ≤ 29) (hc : c < 32768) (hG : gtB E (N 235) (32768 * row) k)
    (go : ∀ (b : Int) (x7 x8 : Option vA), (xSt E (dR c) → xGm (xVe E (k + 1) (dR c)) b) → vIn b → vV m_X7_gasps d d Q 132 [some (vR 200), some (vI n), some (vI w), some (vI row), some (vI ((k + 1 : Nat) : Int)), some (vI c), some (vI b), x7, x8] [] d T N) : ∀ t : Nat, t ≤ 4 → ∀ (b : Int) (x8 : Option vA), (xSt E (dR c) → xGm (fun g => ∃ u, u < t ∧ xVu E k (dR c) u g) b) → (¬ xSt E (dR c) → t = 0) → (-6 ≤ b ∧ b ≤ 100) →
    vV m_X7_gasps d d Q 84 [some (vR 200), some (vI n), some (vI w), some (vI row), some (vI ((k + 1 : Nat) : Int)), some (vI c), some (vI b), some (vI t), x8] [] d T N := by
  obtain ⟨d1, d2⟩ := dR_R hc
  refine vUp ?_
  intro t ht ih b x8 hb hno hbr
  have hend : t = 4 → xSt E (dR c) → xGm (xVe E (k + 1) (dR c)) b := fun h hs => xGm_cg (fun g => by rw [xVe_u, h]) (hb hs)
  refine vV.iload dX7_gasps_84 rfl ?_
  refine vV.iconst dX7_gasps_86 (by decide) ?_
  refine vV.icmp_ge (tgt := 132) dX7_gasps_87 (by decide) (fun h87 => ?_) (fun h87 => ?_)
  · skip
    first | exact go b _ _ (fun z => absurd z hnst) ⟨by omega, by omega⟩ | exact go b _ _ (hend (by omega)) ⟨by omega, by omega⟩
  · skip
    refine vV.aload_n dX7_gasps_90 rfl ?_
    refine vV.iload dX7_gasps_91 rfl ?_
    refine vV.cVi dX7_gasps_93 ml_X7_260 cw_X7_isState iw_X7_isState (by first | rfl | assumption) rfl (by unfold vRoom; decide) (show vCon m_X7_isState d d [vR 200, vI (c : Nat)] T N (vPi fun r T1 M1 => ((r = 1 ∧ xSt E (dR c)) ∨ (r = 0 ∧ ¬ xSt E (dR c))) ∧ T = T1 ∧ N = M1) from by have h := c_X7_isState (d := d) (T := T) hB hE hX d1; rw [d2] at h; exact h) rfl rfl (Nat.le_of_ble_eq_true rfl) ?_
    rintro x93 _ _ hx93 ⟨hy93, rfl, rfl⟩
    refine vV.if_eq (tgt := 132) dX7_gasps_96 (by decide) (fun h96 => ?_) (fun h96 => ?_)
    · skip
      have hnst : ¬ xSt E (dR c) := hy93.elim (fun z => by omega) (fun z => z.2)
      first | exact go b _ _ (fun z => absurd z hnst) ⟨by omega, by omega⟩ | exact go b _ _ (hend (by omega)) ⟨by omega, by omega⟩
    · skip
      have hst : xSt E (dR c) := hy93.elim (fun z => z.2) (fun z => by omega)
      refine vV.aload_n dX7_gasps_99 rfl ?_
      refine vV.iload dX7_gasps_100 rfl ?_
      refine vV.iload dX7_gasps_102 rfl ?_
      refine vV.iload_n dX7_gasps_104 rfl ?_
      refine vV.cVi dX7_gasps_105 ml_X7_288 cw_X7_gaspsBy iw_X7_gaspsBy (by first | rfl | assumption) rfl (by unfold vRoom; decide) (show vCon m_X7_gaspsBy d d [vR 200, vI (c : Nat), vI t, vI row] T N (vPi fun r T1 M1 => xGm (xVu E k (dR c) t) r ∧ T = T1 ∧ N = M1) from by have h := c_X7_gaspsBy (d := d) (T := T) (u := t) (row := row) (k := k) hB hE hX hst (by omega) hr (by omega) hG; rw [d2] at h; exact h) rfl rfl (Nat.le_of_ble_eq_true rfl) ?_
      rintro x105 _ _ hx105 ⟨hy105, rfl, rfl⟩
      have hy9 := xGm_rg (b := 3 * k + 3) hy105 (fun g ⟨s1, g1, e, ⟨s9, hv⟩, hq⟩ => by have := xV_le hE hv; have := xga_le hE s1; omega)
      have hor := xGm_cg (V := fun g => ∃ u, u < t + 1 ∧ xVu E k (dR c) u g) (fun g => ⟨fun z => z.elim (fun ⟨u, u1, u2⟩ => ⟨u, by omega, u2⟩) (fun z => ⟨t, by omega, z⟩), fun ⟨u, u1, u2⟩ => (Nat.lt_succ_iff_lt_or_eq.mp u1).elim (fun z => Or.inl ⟨u, z, u2⟩) (fun z => by subst z; exact Or.inr u2)⟩) (xGm_or (hb hst) hy105)
      refine vV.istore (L' := [_, _, _, _, _, _, _, _, _]) dX7_gasps_108 (by decide) rfl ?_
      refine vV.iload dX7_gasps_110 rfl ?_
      refine vV.iload dX7_gasps_112 rfl ?_
      refine vV.icmp_le (tgt := 122) dX7_gasps_114 (by decide) (fun h114 => ?_) (fun h114 => ?_)
      · skip
        rw [if_neg (by omega)] at hor
        refine vV.iload dX7_gasps_122 rfl ?_
        refine vV.istore (L' := [_, _, _, _, _, _, _, _, _]) dX7_gasps_124 (by decide) rfl ?_
        refine vV.iinc (L' := [_, _, _, _, _, _, _, _, _]) dX7_gasps_126 (by decide) rfl (⟨by omega, by omega⟩) rfl ?_
        refine vV.goto (tgt := 84) dX7_gasps_129 (by decide) ?_
        exact ih (by omega) _ _ (fun _ => hor) (fun z => absurd hst z) (by omega)
      · skip
        rw [if_pos (by omega)] at hor
        refine vV.iload dX7_gasps_117 rfl ?_
        refine vV.goto (tgt := 124) dX7_gasps_119 (by decide) ?_
        refine vV.istore (L' := [_, _, _, _, _, _, _, _, _]) dX7_gasps_124 (by decide) rfl ?_
        refine vV.iinc (L' := [_, _, _, _, _, _, _, _, _]) dX7_gasps_126 (by decide) rfl (⟨by omega, by omega⟩) rfl ?_
        refine vV.goto (tgt := 84) dX7_gasps_129 (by decide) ?_
        exact ih (by omega) _ _ (fun _ => hor) (fun z => absurd hst z) (by omega)
/-- the other half is filled below c -/
def gtC (E : xE) (R R0 : Int → Int) (row k c : Nat) : Prop := (∀ p : Nat, p < 32768 → R ((32768 * row + p : Nat) : Int) = R0 ((32768 * row + p : Nat) : Int)) ∧ ∀ s, xSt E s → enR s < c → xGm (xVe E (k + 1) s) (R ((32768 * (1 - row) + enR s : Nat) : Int))
theorem l_X7_gs70 {d : List Nat} {T : vT} {M N0 : vM} {E : xE} {n w : Int} {row k : Nat} {Q : Option vA → vT → vM → Prop} (hB : vB T) (hE : xEok E) (hX : rX M E) (hr : row ≤ 1) (hk : k ≤ 29) (hG : gtB E (N0 235) (32768 * row) k)
    (go : ∀ (N : vM) (x5 x6 x7 x8 : Option vA), gaS M N → gtB E (N 235) (32768 * (1 - row)) (k + 1) → vV m_X7_gasps d d Q 154 [some (vR 200), some (vI n), some (vI w), some (vI row), some (vI ((k + 1 : Nat) : Int)), x5, x6, x7, x8] [] d T N) : ∀ c : Nat, c ≤ 32768 → ∀ (N : vM) (x6 x7 x8 : Option vA), gaS M N → gtC E (N 235) (N0 235) row k c →
    vV m_X7_gasps d d Q 70 [some (vR 200), some (vI n), some (vI w), some (vI row), some (vI ((k + 1 : Nat) : Int)), some (vI c), x6, x7, x8] [] d T N := by
  refine vUp ?_
  intro c hc ih N x6 x7 x8 hS hI
  have hXN := hS.x hX
  have hGN : gtB E (N 235) (32768 * row) k := fun s hs => by rw [hI.1 (enR s) (enR_lt (hs.ok hE))]; exact hG s hs
  have e9 : (32768 : Int) * (1 - (row : Int)) + (c : Int) = ((32768 * (1 - row) + c : Nat) : Int) := by omega
  have hst : ∀ (b : Int) (x7 x8 : Option vA), c < 32768 → (xSt E (dR c) → xGm (xVe E (k + 1) (dR c)) b) → vIn b → vV m_X7_gasps d d Q 132 [some (vR 200), some (vI n), some (vI w), some (vI row), some (vI ((k + 1 : Nat) : Int)), some (vI c), some (vI b), x7, x8] [] d T N := by
    intro b x7 x8 hc2 hb hbi
    obtain ⟨d1, d2⟩ := dR_R hc2
    have hI2 : gtC E (fSet (N 235) ((32768 * (1 - row) + c : Nat) : Int) b) (N0 235) row k (c + 1) := by
      refine ⟨fun p hp => by rw [fSet_n (by omega)]; exact hI.1 p hp, fun s hs hlt => ?_⟩
      rcases Nat.lt_succ_iff_lt_or_eq.mp hlt with z | z
      · rw [fSet_n (by omega)]; exact hI.2 s hs z
      · have e : dR c = s := by rw [← z]; exact R_dR (hs.ok hE)
        rw [z, fSet_s, ← e]; exact hb (by rw [e]; exact hs)
    refine vV.aload_n dX7_gasps_132 rfl ?_
    refine vV.getr dX7_gasps_133 fl_X7_67 (by first | rfl | assumption) rfl (by first | assumption | exact hB _ _ _ rfl) ?_
    refine vV.ldc (v := 32768) dX7_gasps_136 kc_X7_52 (by decide) (by decide) ?_
    refine vV.iconst dX7_gasps_138 (by decide) ?_
    refine vV.iload_n dX7_gasps_139 rfl ?_
    refine vV.isub dX7_gasps_140 (⟨by omega, by omega⟩) ?_
    refine vV.imul dX7_gasps_141 (⟨by omega, by omega⟩) ?_
    refine vV.iload dX7_gasps_142 rfl ?_
    refine vV.iadd dX7_gasps_144 (⟨by omega, by omega⟩) ?_
    rw [e9]
    refine vV.iload dX7_gasps_145 rfl ?_
    refine vV.iast dX7_gasps_147 (by first | rfl | assumption) (by omega) (by omega) ?_
    refine vV.iinc (L' := [_, _, _, _, _, _, _, _, _]) dX7_gasps_148 (by decide) rfl (⟨by omega, by omega⟩) rfl ?_
    refine vV.goto (tgt := 70) dX7_gasps_151 (by decide) ?_
    exact ih hc2 _ _ _ _ (fun y hy => by rw [vUpd_row (by simpa using hy)]; exact hS y hy) (by rw [vUpd_r, vRow_s]; exact hI2)
  refine vV.iload dX7_gasps_70 rfl ?_
  refine vV.ldc (v := 32768) dX7_gasps_72 kc_X7_52 (by decide) (by decide) ?_
  refine vV.icmp_ge (tgt := 154) dX7_gasps_74 (by decide) (fun h74 => ?_) (fun h74 => ?_)
  · skip
    exact go N _ _ _ _ hS (fun s hs => hI.2 s hs (by have := enR_lt (hs.ok hE); omega))
  · skip
    refine vV.bipush (v := (-6)) dX7_gasps_77 (by decide) (by decide) ?_
    refine vV.istore (L' := [_, _, _, _, _, _, _, _, _]) dX7_gasps_79 (by decide) rfl ?_
    refine vV.iconst dX7_gasps_81 (by decide) ?_
    refine vV.istore (L' := [_, _, _, _, _, _, _, _, _]) dX7_gasps_82 (by decide) rfl ?_
    exact l_X7_gs84 hB hE hXN hr hk (by omega) hGN (fun b x7 x8 g1 g2 => hst b x7 x8 (by omega) g1 g2) 0 (by omega) (-6) _ (fun _ => Or.inl ⟨rfl, fun g ⟨u, u1, _⟩ => by omega⟩) (fun _ => rfl) (by omega)
/-- the best of the first t things, and the first of them -/
def fnQ (E : xE) (k : Nat) (s : xS) (t : Nat) (b f : Int) : Prop := (b = -6 ∧ f = -6 ∧ ∀ u g, u < t → ¬ xVu E k s u g) ∨ ∃ (u g : Nat), u < t ∧ f = u ∧ b = g ∧ xVu E k s u g ∧ (∀ v g', v < t → xVu E k s v g' → g' ≤ g) ∧ ∀ v g', v < u → xVu E k s v g' → g' < g
theorem fnQ.s {E : xE} {k : Nat} {s : xS} {t : Nat} {b f y : Int} (h : fnQ E k s t b f) (hy : xGm (xVu E k s t) y) : fnQ E k s (t + 1) (if b < y then y else b) (if b < y then (t : Int) else f) := by
  rcases hy with ⟨a, c⟩ | ⟨g, a, c, e⟩
  · have hnl : ¬ b < y := by rcases h with ⟨z, -⟩ | ⟨u, g, z1, z2, z3, -⟩ <;> omega
    rw [if_neg hnl, if_neg hnl]
    rcases h with ⟨z1, z2, z3⟩ | ⟨u, g, z1, z2, z3, z4, z5, z6⟩
    · exact Or.inl ⟨z1, z2, fun u g hu => (Nat.lt_succ_iff_lt_or_eq.mp hu).elim (z3 u g) (fun q => by subst q; exact c g)⟩
    · exact Or.inr ⟨u, g, by omega, z2, z3, z4, fun v g' hv hq => (Nat.lt_succ_iff_lt_or_eq.mp hv).elim (fun q => z5 v g' q hq) (fun q => by subst q; exact absurd hq (c g')), z6⟩
  · by_cases hlt : b < y
    · rw [if_pos hlt, if_pos hlt]
      refine Or.inr ⟨t, g, by omega, rfl, a, c, fun v g' hv hq => ?_, fun v g' hv hq => ?_⟩
      · rcases Nat.lt_succ_iff_lt_or_eq.mp hv with q | q
        · rcases h with ⟨z1, z2, z3⟩ | ⟨u, g2, z1, z2, z3, z4, z5, z6⟩
          · exact absurd hq (z3 v g' q)
          · have := z5 v g' q hq; omega
        · subst q; exact e g' hq
      · rcases h with ⟨z1, z2, z3⟩ | ⟨u, g2, z1, z2, z3, z4, z5, z6⟩
        · exact absurd hq (z3 v g' hv)
        · have := z5 v g' hv hq; omega
    · rw [if_neg hlt, if_neg hlt]
      rcases h with ⟨z1, z2, z3⟩ | ⟨u, g2, z1, z2, z3, z4, z5, z6⟩
      · omega
      · exact Or.inr ⟨u, g2, by omega, z2, z3, z4, fun v g' hv hq => (Nat.lt_succ_iff_lt_or_eq.mp hv).elim (fun q => z5 v g' q hq) (fun q => by subst q; have := e g' hq; omega), z6⟩
theorem fnQ.ga {E : xE} {k : Nat} {s : xS} {b f w : Int} (h : fnQ E k s 4 b f) : gaQ E s (k + 1) w (if w = 0 then b else f) := by
  rcases h with ⟨z1, z2, z3⟩ | ⟨u, g, z1, z2, z3, z4, z5, z6⟩
  · refine Or.inl ⟨by split <;> omega, fun s' w' hw => ?_⟩
    obtain ⟨u, s1, g, h1, h2, h3, h4⟩ := xW_V.mp hw
    exact z3 u (xga E s1 + g) h1 ⟨s1, g, h2, ⟨s', h3⟩, rfl⟩
  · obtain ⟨s1, g1, e1, ⟨s', e2⟩, e3⟩ := z4
    refine Or.inr ⟨(3 - u) + 4 * g, ⟨s', xW_V.mpr ⟨u, s1, g1, z1, e1, e2, by rw [e3]⟩⟩, fun s2 w' hw => ?_, ?_⟩
    · obtain ⟨v, s3, g3, h1, h2, h3, h4⟩ := xW_V.mp hw
      have hv : xVu E k s v (xga E s3 + g3) := ⟨s3, g3, h2, ⟨s2, h3⟩, rfl⟩
      have h5 := z5 v _ h1 hv
      rcases Nat.lt_or_ge v u with q | q
      · have := z6 v _ q hv; omega
      · omega
    · by_cases hw : w = 0
      · rw [if_pos hw, if_pos hw, z3]; omega
      · rw [if_neg hw, if_neg hw, z2]; omega
theorem l_X7_gs175 {d : List Nat} {T : vT} {N : vM} {E : xE} {s : xS} {n w : Int} {row k : Nat} {P : Int → vT → vM → Prop} (hB : vB T) (hE : xEok E) (hX : rX N E) (hs : xSt E s) (hr : row ≤ 1) (hk : k ≤ 29) (hG : gtB E (N 235) (32768 * row) k) (hsn : ∀ d, vCon m_X7_stateNow d d [vR 200] T N (vPi fun r T1 M1 => r = (enR s : Nat) ∧ T = T1 ∧ N = M1)) (hP : ∀ r, gaQ E s (k + 1) w r → P r T N) : ∀ t : Nat, t ≤ 4 → ∀ (b f : Int) (x7 x8 : Option vA), fnQ E k s t b f →
    vV m_X7_gasps d d (vPi P) 175 [some (vR 200), some (vI n), some (vI w), some (vI row), some (vI b), some (vI f), some (vI t), x7, x8] [] d T N := by
  refine vUp ?_
  intro t ht ih b f x7 x8 hQ
  have hg : t = 4 → gaQ E s (k + 1) w (if w = 0 then b else f) := fun h => by rw [h] at hQ; exact hQ.ga
  refine vV.iload dX7_gasps_175 rfl ?_
  refine vV.iconst dX7_gasps_177 (by decide) ?_
  refine vV.icmp_ge (tgt := 215) dX7_gasps_178 (by decide) (fun h178 => ?_) (fun h178 => ?_)
  · skip
    refine vV.iload_n dX7_gasps_215 rfl ?_
    refine vV.if_ne (tgt := 224) dX7_gasps_216 (by decide) (fun h216 => ?_) (fun h216 => ?_)
    · skip
      refine vV.iload dX7_gasps_224 rfl ?_
      refine vV.ri dX7_gasps_226 rfl ?_
      first | (have h9 := hg (by omega); rw [if_pos h216] at h9; exact hP _ h9) | (have h9 := hg (by omega); rw [if_neg h216] at h9; exact hP _ h9)
    · skip
      refine vV.iload dX7_gasps_219 rfl ?_
      refine vV.goto (tgt := 226) dX7_gasps_221 (by decide) ?_
      refine vV.ri dX7_gasps_226 rfl ?_
      first | (have h9 := hg (by omega); rw [if_pos h216] at h9; exact hP _ h9) | (have h9 := hg (by omega); rw [if_neg h216] at h9; exact hP _ h9)
  · skip
    refine vV.aload_n dX7_gasps_181 rfl ?_
    refine vV.aload_n dX7_gasps_182 rfl ?_
    refine vV.cVi dX7_gasps_183 ml_X7_275 cw_X7_stateNow iw_X7_stateNow (by first | rfl | assumption) rfl (by unfold vRoom; decide) (hsn d) rfl rfl (Nat.le_of_ble_eq_true rfl) ?_
    rintro x183 _ _ hx183 ⟨rfl, rfl, rfl⟩
    refine vV.iload dX7_gasps_186 rfl ?_
    refine vV.iload_n dX7_gasps_188 rfl ?_
    refine vV.cVi dX7_gasps_189 ml_X7_288 cw_X7_gaspsBy iw_X7_gaspsBy (by first | rfl | assumption) rfl (by unfold vRoom; decide) (c_X7_gaspsBy (u := t) (row := row) (k := k) hB hE hX hs (by omega) hr (by omega) hG) rfl rfl (Nat.le_of_ble_eq_true rfl) ?_
    rintro x189 _ _ hx189 ⟨hy189, rfl, rfl⟩
    have hs2 := hQ.s hy189
    refine vV.istore (L' := [_, _, _, _, _, _, _, _, _]) dX7_gasps_192 (by decide) rfl ?_
    refine vV.iload dX7_gasps_194 rfl ?_
    refine vV.iload dX7_gasps_196 rfl ?_
    refine vV.icmp_le (tgt := 209) dX7_gasps_198 (by decide) (fun h198 => ?_) (fun h198 => ?_)
    · skip
      rw [if_neg (by omega), if_neg (by omega)] at hs2
      refine vV.iinc (L' := [_, _, _, _, _, _, _, _, _]) dX7_gasps_209 (by decide) rfl (⟨by omega, by omega⟩) rfl ?_
      refine vV.goto (tgt := 175) dX7_gasps_212 (by decide) ?_
      exact ih (by omega) _ _ _ _ hs2
    · skip
      rw [if_pos (by omega), if_pos (by omega)] at hs2
      refine vV.iload dX7_gasps_201 rfl ?_
      refine vV.istore (L' := [_, _, _, _, _, _, _, _, _]) dX7_gasps_203 (by decide) rfl ?_
      refine vV.iload dX7_gasps_205 rfl ?_
      refine vV.istore (L' := [_, _, _, _, _, _, _, _, _]) dX7_gasps_207 (by decide) rfl ?_
      refine vV.iinc (L' := [_, _, _, _, _, _, _, _, _]) dX7_gasps_209 (by decide) rfl (⟨by omega, by omega⟩) rfl ?_
      refine vV.goto (tgt := 175) dX7_gasps_212 (by decide) ?_
      exact ih (by omega) _ _ _ _ hs2
