/-! ===== own: the reference: nextState, endsIn ===== -/
def xrR (o : Option xS) : Int := match o with
  | none => -6
  | some s => (enR s : Nat)
theorem dX7_nextState_0 : decode cX7_nextState 0 = .ok (.iload_n 1, 1) := by decide +kernel
theorem dX7_nextState_1 : decode cX7_nextState 1 = .ok (.bipush 12, 2) := by decide +kernel
theorem dX7_nextState_3 : decode cX7_nextState 3 = .ok (.ishr, 1) := by decide +kernel
theorem dX7_nextState_4 : decode cX7_nextState 4 = .ok (.istore_n 3, 1) := by decide +kernel
theorem dX7_nextState_5 : decode cX7_nextState 5 = .ok (.iload_n 2, 1) := by decide +kernel
theorem dX7_nextState_6 : decode cX7_nextState 6 = .ok (.iconst 1, 1) := by decide +kernel
theorem dX7_nextState_7 : decode cX7_nextState 7 = .ok (.if_icmp .ne 9, 3) := by decide +kernel
theorem dX7_nextState_10 : decode cX7_nextState 10 = .ok (.iload_n 3, 1) := by decide +kernel
theorem dX7_nextState_11 : decode cX7_nextState 11 = .ok (.iconst 1, 1) := by decide +kernel
theorem dX7_nextState_12 : decode cX7_nextState 12 = .ok (.isub, 1) := by decide +kernel
theorem dX7_nextState_13 : decode cX7_nextState 13 = .ok (.goto 15, 3) := by decide +kernel
theorem dX7_nextState_16 : decode cX7_nextState 16 = .ok (.iload_n 2, 1) := by decide +kernel
theorem dX7_nextState_17 : decode cX7_nextState 17 = .ok (.iconst 2, 1) := by decide +kernel
theorem dX7_nextState_18 : decode cX7_nextState 18 = .ok (.if_icmp .ne 9, 3) := by decide +kernel
theorem dX7_nextState_21 : decode cX7_nextState 21 = .ok (.iload_n 3, 1) := by decide +kernel
theorem dX7_nextState_22 : decode cX7_nextState 22 = .ok (.iconst 1, 1) := by decide +kernel
theorem dX7_nextState_23 : decode cX7_nextState 23 = .ok (.iadd, 1) := by decide +kernel
theorem dX7_nextState_24 : decode cX7_nextState 24 = .ok (.goto 4, 3) := by decide +kernel
theorem dX7_nextState_27 : decode cX7_nextState 27 = .ok (.iload_n 3, 1) := by decide +kernel
theorem dX7_nextState_28 : decode cX7_nextState 28 = .ok (.istore 4, 2) := by decide +kernel
theorem dX7_nextState_30 : decode cX7_nextState 30 = .ok (.iload 4, 2) := by decide +kernel
theorem dX7_nextState_32 : decode cX7_nextState 32 = .ok (.ifCond .lt 10, 3) := by decide +kernel
theorem dX7_nextState_35 : decode cX7_nextState 35 = .ok (.iload 4, 2) := by decide +kernel
theorem dX7_nextState_37 : decode cX7_nextState 37 = .ok (.bipush 8, 2) := by decide +kernel
theorem dX7_nextState_39 : decode cX7_nextState 39 = .ok (.if_icmp .lt 6, 3) := by decide +kernel
theorem dX7_nextState_42 : decode cX7_nextState 42 = .ok (.bipush (-6), 2) := by decide +kernel
theorem dX7_nextState_44 : decode cX7_nextState 44 = .ok (.ireturn, 1) := by decide +kernel
theorem dX7_nextState_45 : decode cX7_nextState 45 = .ok (.iload 4, 2) := by decide +kernel
theorem dX7_nextState_47 : decode cX7_nextState 47 = .ok (.istore 5, 2) := by decide +kernel
theorem dX7_nextState_49 : decode cX7_nextState 49 = .ok (.iconst 0, 1) := by decide +kernel
theorem dX7_nextState_50 : decode cX7_nextState 50 = .ok (.istore 6, 2) := by decide +kernel
theorem dX7_nextState_52 : decode cX7_nextState 52 = .ok (.iconst 0, 1) := by decide +kernel
theorem dX7_nextState_53 : decode cX7_nextState 53 = .ok (.istore 7, 2) := by decide +kernel
theorem dX7_nextState_55 : decode cX7_nextState 55 = .ok (.iload 7, 2) := by decide +kernel
theorem dX7_nextState_57 : decode cX7_nextState 57 = .ok (.iconst 3, 1) := by decide +kernel
theorem dX7_nextState_58 : decode cX7_nextState 58 = .ok (.if_icmp .ge 120, 3) := by decide +kernel
theorem dX7_nextState_61 : decode cX7_nextState 61 = .ok (.iload_n 1, 1) := by decide +kernel
theorem dX7_nextState_62 : decode cX7_nextState 62 = .ok (.iload 7, 2) := by decide +kernel
theorem dX7_nextState_64 : decode cX7_nextState 64 = .ok (.invokestatic 257, 3) := by decide +kernel
theorem dX7_nextState_67 : decode cX7_nextState 67 = .ok (.istore 8, 2) := by decide +kernel
theorem dX7_nextState_69 : decode cX7_nextState 69 = .ok (.iload 7, 2) := by decide +kernel
theorem dX7_nextState_71 : decode cX7_nextState 71 = .ok (.aload_n 0, 1) := by decide +kernel
theorem dX7_nextState_72 : decode cX7_nextState 72 = .ok (.getfield 254, 3) := by decide +kernel
theorem dX7_nextState_75 : decode cX7_nextState 75 = .ok (.if_icmp .ge 87, 3) := by decide +kernel
theorem dX7_nextState_78 : decode cX7_nextState 78 = .ok (.aload_n 0, 1) := by decide +kernel
theorem dX7_nextState_79 : decode cX7_nextState 79 = .ok (.getfield 49, 3) := by decide +kernel
theorem dX7_nextState_82 : decode cX7_nextState 82 = .ok (.iload 7, 2) := by decide +kernel
theorem dX7_nextState_84 : decode cX7_nextState 84 = .ok (.iaload, 1) := by decide +kernel
theorem dX7_nextState_85 : decode cX7_nextState 85 = .ok (.istore 9, 2) := by decide +kernel
theorem dX7_nextState_87 : decode cX7_nextState 87 = .ok (.iload_n 2, 1) := by decide +kernel
theorem dX7_nextState_88 : decode cX7_nextState 88 = .ok (.iconst 3, 1) := by decide +kernel
theorem dX7_nextState_89 : decode cX7_nextState 89 = .ok (.if_icmp .ne 53, 3) := by decide +kernel
theorem dX7_nextState_92 : decode cX7_nextState 92 = .ok (.aload_n 0, 1) := by decide +kernel
theorem dX7_nextState_93 : decode cX7_nextState 93 = .ok (.getfield 7, 3) := by decide +kernel
theorem dX7_nextState_96 : decode cX7_nextState 96 = .ok (.iload 9, 2) := by decide +kernel
theorem dX7_nextState_98 : decode cX7_nextState 98 = .ok (.iaload, 1) := by decide +kernel
theorem dX7_nextState_99 : decode cX7_nextState 99 = .ok (.iload_n 3, 1) := by decide +kernel
theorem dX7_nextState_100 : decode cX7_nextState 100 = .ok (.if_icmp .ne 42, 3) := by decide +kernel
theorem dX7_nextState_103 : decode cX7_nextState 103 = .ok (.iconst 1, 1) := by decide +kernel
theorem dX7_nextState_104 : decode cX7_nextState 104 = .ok (.istore 6, 2) := by decide +kernel
theorem dX7_nextState_106 : decode cX7_nextState 106 = .ok (.iload 8, 2) := by decide +kernel
theorem dX7_nextState_108 : decode cX7_nextState 108 = .ok (.aload_n 0, 1) := by decide +kernel
theorem dX7_nextState_109 : decode cX7_nextState 109 = .ok (.getfield 80, 3) := by decide +kernel
theorem dX7_nextState_112 : decode cX7_nextState 112 = .ok (.iadd, 1) := by decide +kernel
theorem dX7_nextState_113 : decode cX7_nextState 113 = .ok (.aload_n 0, 1) := by decide +kernel
theorem dX7_nextState_114 : decode cX7_nextState 114 = .ok (.getfield 13, 3) := by decide +kernel
theorem dX7_nextState_117 : decode cX7_nextState 117 = .ok (.iload 9, 2) := by decide +kernel
theorem dX7_nextState_119 : decode cX7_nextState 119 = .ok (.iaload, 1) := by decide +kernel
theorem dX7_nextState_120 : decode cX7_nextState 120 = .ok (.if_icmp .le 13, 3) := by decide +kernel
theorem dX7_nextState_123 : decode cX7_nextState 123 = .ok (.aload_n 0, 1) := by decide +kernel
theorem dX7_nextState_124 : decode cX7_nextState 124 = .ok (.getfield 13, 3) := by decide +kernel
theorem dX7_nextState_127 : decode cX7_nextState 127 = .ok (.iload 9, 2) := by decide +kernel
theorem dX7_nextState_129 : decode cX7_nextState 129 = .ok (.iaload, 1) := by decide +kernel
theorem dX7_nextState_130 : decode cX7_nextState 130 = .ok (.goto 10, 3) := by decide +kernel
theorem dX7_nextState_133 : decode cX7_nextState 133 = .ok (.iload 8, 2) := by decide +kernel
theorem dX7_nextState_135 : decode cX7_nextState 135 = .ok (.aload_n 0, 1) := by decide +kernel
theorem dX7_nextState_136 : decode cX7_nextState 136 = .ok (.getfield 80, 3) := by decide +kernel
theorem dX7_nextState_139 : decode cX7_nextState 139 = .ok (.iadd, 1) := by decide +kernel
theorem dX7_nextState_140 : decode cX7_nextState 140 = .ok (.istore 8, 2) := by decide +kernel
theorem dX7_nextState_142 : decode cX7_nextState 142 = .ok (.iload 8, 2) := by decide +kernel
theorem dX7_nextState_144 : decode cX7_nextState 144 = .ok (.aload_n 0, 1) := by decide +kernel
theorem dX7_nextState_145 : decode cX7_nextState 145 = .ok (.getfield 16, 3) := by decide +kernel
theorem dX7_nextState_148 : decode cX7_nextState 148 = .ok (.iload 9, 2) := by decide +kernel
theorem dX7_nextState_150 : decode cX7_nextState 150 = .ok (.iaload, 1) := by decide +kernel
theorem dX7_nextState_151 : decode cX7_nextState 151 = .ok (.isub, 1) := by decide +kernel
theorem dX7_nextState_152 : decode cX7_nextState 152 = .ok (.istore 8, 2) := by decide +kernel
theorem dX7_nextState_154 : decode cX7_nextState 154 = .ok (.iload 8, 2) := by decide +kernel
theorem dX7_nextState_156 : decode cX7_nextState 156 = .ok (.ifCond .gt 6, 3) := by decide +kernel
theorem dX7_nextState_159 : decode cX7_nextState 159 = .ok (.bipush (-6), 2) := by decide +kernel
theorem dX7_nextState_161 : decode cX7_nextState 161 = .ok (.ireturn, 1) := by decide +kernel
theorem dX7_nextState_162 : decode cX7_nextState 162 = .ok (.bipush 16, 2) := by decide +kernel
theorem dX7_nextState_164 : decode cX7_nextState 164 = .ok (.iload 5, 2) := by decide +kernel
theorem dX7_nextState_166 : decode cX7_nextState 166 = .ok (.imul, 1) := by decide +kernel
theorem dX7_nextState_167 : decode cX7_nextState 167 = .ok (.iload 8, 2) := by decide +kernel
theorem dX7_nextState_169 : decode cX7_nextState 169 = .ok (.iadd, 1) := by decide +kernel
theorem dX7_nextState_170 : decode cX7_nextState 170 = .ok (.istore 5, 2) := by decide +kernel
theorem dX7_nextState_172 : decode cX7_nextState 172 = .ok (.iinc 7 1, 3) := by decide +kernel
theorem dX7_nextState_175 : decode cX7_nextState 175 = .ok (.goto (-120), 3) := by decide +kernel
theorem dX7_nextState_178 : decode cX7_nextState 178 = .ok (.iload_n 2, 1) := by decide +kernel
theorem dX7_nextState_179 : decode cX7_nextState 179 = .ok (.iconst 3, 1) := by decide +kernel
theorem dX7_nextState_180 : decode cX7_nextState 180 = .ok (.if_icmp .ne 13, 3) := by decide +kernel
theorem dX7_nextState_183 : decode cX7_nextState 183 = .ok (.iload 6, 2) := by decide +kernel
theorem dX7_nextState_185 : decode cX7_nextState 185 = .ok (.ifCond .ne 8, 3) := by decide +kernel
theorem dX7_nextState_188 : decode cX7_nextState 188 = .ok (.bipush (-6), 2) := by decide +kernel
theorem dX7_nextState_190 : decode cX7_nextState 190 = .ok (.goto 5, 3) := by decide +kernel
theorem dX7_nextState_193 : decode cX7_nextState 193 = .ok (.iload 5, 2) := by decide +kernel
theorem dX7_nextState_195 : decode cX7_nextState 195 = .ok (.ireturn, 1) := by decide +kernel
/-- one of the first k stands at his place -/
def wdQ (E : xE) (th : Int) (s : xS) (k : Nat) (w : Int) : Prop := (w = 1 ∧ th = 3 ∧ ∃ j, j < k ∧ j < E.1 ∧ E.2.1 j = s.1) ∨ (w = 0 ∧ (th = 3 → ∀ j, j < k → j < E.1 → E.2.1 j ≠ s.1))
theorem l_X7_ns55 {d : List Nat} {T : vT} {M : vM} {E : xE} {s : xS} {th : Int} {mn : Nat} {t4 : Int} (hB : vB T) (hE : xEok E) (hX : rX M E) (hs : xSt E s) (hmn : mn < 8) (hm : xman th s.1 = mn) : ∀ k : Nat, k ≤ 3 → ∀ (w : Int) (x8 x9 : Option vA), wdQ E th s k w → (∀ j, j < k → j < E.1 → 0 < xv E th s j) →
    vV m_X7_nextState d d (vPi fun r T1 M1 => r = xrR (xn E th s) ∧ T = T1 ∧ M = M1) 55 [some (vR 200), some (vI (enR s : Nat)), some (vI th), some (vI s.1), some (vI t4), some (vI (enN mn (xw E th s) k : Nat)), some (vI w), some (vI k), x8, x9] [] d T M := by
  have hok := hs.ok hE
  obtain ⟨x1, x2, x3⟩ := hX
  have hE3 := hE.1
  have hg := hE.2.2.1
  refine vUp ?_
  intro k hk ih w x8 x9 hw hpos
  have hlt := enN_lt (m := mn) (f := xw E th s) hmn (xw_lt hE hs) k
  have hp : (16 : Nat) ^ k ≤ 16 ^ 3 := Nat.pow_le_pow_right (by decide) hk
  have hw16 := xw_lt (th := th) hE hs k
  have es : 16 * ((enN mn (xw E th s) k : Nat) : Int) + (xw E th s k : Nat) = ((enN mn (xw E th s) (k + 1) : Nat) : Int) := by rw [show enN mn (xw E th s) (k + 1) = 16 * enN mn (xw E th s) k + xw E th s k from rfl]; omega
  have hw01 : w = 0 ∨ w = 1 := by rcases hw with ⟨a, -⟩ | ⟨a, -⟩ <;> omega
  have hend : k = 3 → (th = 3 → w = 1) → xn E th s = some (mn, xw E th s 0, xw E th s 1, xw E th s 2) := fun h1 h2 => by
    rw [xn_some (xbad_no.mpr ⟨by omega, fun h3 z => ?_, fun j hj => hpos j (by omega) hj⟩), hm]; rfl
    rcases hw with ⟨a, b, j, j1, j2, j3⟩ | ⟨a, b⟩
    · have := pFind_some.pFind_none z j j2; simp at this; exact this j3
    · have := h2 h3; omega
  have hend2 : k = 3 → th = 3 → w = 0 → xn E th s = none := fun h1 h2 h3 => by
    subst h2
    refine xn_none (xbad_w (pFind_no (fun j hj => ?_)))
    rcases hw with ⟨a, -⟩ | ⟨a, b⟩
    · omega
    · have := b rfl j (by omega) hj; simp; exact this
  have go : ∀ (w2 : Int) (v : Int) (x9 : Option vA), k < 3 → wdQ E th s (k + 1) w2 → v = (xw E th s k : Nat) → (k < E.1 → 0 < xv E th s k) →
      vV m_X7_nextState d d (vPi fun r T1 M1 => r = xrR (xn E th s) ∧ T = T1 ∧ M = M1) 162 [some (vR 200), some (vI (enR s : Nat)), some (vI th), some (vI s.1), some (vI t4), some (vI (enN mn (xw E th s) k : Nat)), some (vI w2), some (vI k), some (vI v), x9] [] d T M := by
    intro w2 v x9 hk3 hq hv hp2
    subst hv
    refine vV.bipush (v := 16) dX7_nextState_162 (by decide) (by decide) ?_
    refine vV.iload dX7_nextState_164 rfl ?_
    refine vV.imul dX7_nextState_166 (⟨by omega, by omega⟩) ?_
    refine vV.iload dX7_nextState_167 rfl ?_
    refine vV.iadd dX7_nextState_169 (⟨by omega, by omega⟩) ?_
    rw [es]
    refine vV.istore (L' := [_, _, _, _, _, _, _, _, _, _]) dX7_nextState_170 (by decide) rfl ?_
    refine vV.iinc (L' := [_, _, _, _, _, _, _, _, _, _]) dX7_nextState_172 (by decide) rfl (⟨by omega, by omega⟩) rfl ?_
    refine vV.goto (tgt := 55) dX7_nextState_175 (by decide) ?_
    exact ih hk3 w2 _ _ hq (fun j hj hj2 => (Nat.lt_succ_iff_lt_or_eq.mp hj).elim (fun z => hpos j z hj2) (fun z => by subst z; exact hp2 hj2))
  refine vV.iload dX7_nextState_55 rfl ?_
  refine vV.iconst dX7_nextState_57 (by decide) ?_
  refine vV.icmp_ge (tgt := 178) dX7_nextState_58 (by decide) (fun h58 => ?_) (fun h58 => ?_)
  · skip
    refine vV.iload_n dX7_nextState_178 rfl ?_
    refine vV.iconst dX7_nextState_179 (by decide) ?_
    refine vV.icmp_ne (tgt := 193) dX7_nextState_180 (by decide) (fun h180 => ?_) (fun h180 => ?_)
    · skip
      refine vV.iload dX7_nextState_193 rfl ?_
      refine vV.ri dX7_nextState_195 rfl ?_
      have hk3 : k = 3 := by omega
      subst hk3
      first
      | (rw [hend2 rfl (by omega) (by omega)]; exact ⟨rfl, rfl, rfl⟩)
      | (rw [hend rfl (fun z => by omega), enN_3]; exact ⟨rfl, rfl, rfl⟩)
    · skip
      refine vV.iload dX7_nextState_183 rfl ?_
      refine vV.if_ne (tgt := 193) dX7_nextState_185 (by decide) (fun h185 => ?_) (fun h185 => ?_)
      · skip
        refine vV.iload dX7_nextState_193 rfl ?_
        refine vV.ri dX7_nextState_195 rfl ?_
        have hk3 : k = 3 := by omega
        subst hk3
        first
        | (rw [hend2 rfl (by omega) (by omega)]; exact ⟨rfl, rfl, rfl⟩)
        | (rw [hend rfl (fun z => by omega), enN_3]; exact ⟨rfl, rfl, rfl⟩)
      · skip
        refine vV.bipush (v := (-6)) dX7_nextState_188 (by decide) (by decide) ?_
        refine vV.goto (tgt := 195) dX7_nextState_190 (by decide) ?_
        refine vV.ri dX7_nextState_195 rfl ?_
        have hk3 : k = 3 := by omega
        subst hk3
        first
        | (rw [hend2 rfl (by omega) (by omega)]; exact ⟨rfl, rfl, rfl⟩)
        | (rw [hend rfl (fun z => by omega), enN_3]; exact ⟨rfl, rfl, rfl⟩)
  · skip
    have hk3 : k < 3 := by omega
    have hxt := (hs.2 k hk3)
    refine vV.iload_n dX7_nextState_61 rfl ?_
    refine vV.iload dX7_nextState_62 rfl ?_
    refine vV.cSi dX7_nextState_64 ml_X7_257 cw_X7_turnIn sw_X7_turnIn (by unfold vRoom; decide) (c_X7_turnIn hok hk3) rfl rfl (Nat.le_of_ble_eq_true rfl) ?_
    rintro x64 _ _ hx64 ⟨rfl, rfl, rfl⟩
    refine vV.istore (L' := [_, _, _, _, _, _, _, _, _, _]) dX7_nextState_67 (by decide) rfl ?_
    refine vV.iload dX7_nextState_69 rfl ?_
    refine vV.aload_n dX7_nextState_71 rfl ?_
    refine vV.geti (z := 29) dX7_nextState_72 fl_X7_254 (by first | rfl | assumption) rfl rfl ?_
    rw [x1]
    refine vV.icmp_ge (tgt := 162) dX7_nextState_75 (by decide) (fun h75 => ?_) (fun h75 => ?_)
    · skip
      have hwn : wdQ E th s (k + 1) w := hw.elim (fun ⟨a, b, j, j1, j2, j3⟩ => Or.inl ⟨a, b, j, by omega, j2, j3⟩) (fun ⟨a, b⟩ => Or.inr ⟨a, fun h3 j j1 j2 => b h3 j (by omega) j2⟩)
      first | exact go _ _ _ hk3 hwn (by unfold xw; rw [if_pos hkE]; omega) (fun _ => by omega) | exact go _ _ _ hk3 hwn (by unfold xw; rw [if_neg (by omega), hxt.2 (by omega)]) (fun z => by omega)
    · skip
      have hkE : k < E.1 := by omega
      obtain ⟨y1, y2, y3, y4⟩ := x3 k hkE
      have hxk := hxt.1 hkE
      have hEk := hE.2.1 k hkE
      have hxl := xv_le (th := th) hE hs hkE
      refine vV.aload_n dX7_nextState_78 rfl ?_
      refine vV.getr dX7_nextState_79 fl_X7_49 (by first | rfl | assumption) rfl (by first | assumption | exact hB _ _ _ rfl) ?_
      refine vV.iload dX7_nextState_82 rfl ?_
      refine vV.iald dX7_nextState_84 (by first | rfl | assumption) (by omega) (by omega) ?_
      refine vV.istore (L' := [_, _, _, _, _, _, _, _, _, _]) dX7_nextState_85 (by decide) rfl ?_
      refine vV.iload_n dX7_nextState_87 rfl ?_
      refine vV.iconst dX7_nextState_88 (by decide) ?_
      refine vV.icmp_ne (tgt := 142) dX7_nextState_89 (by decide) (fun h89 => ?_) (fun h89 => ?_)
      · skip
        have ev : ((xt s k : Nat) : Int) - E.2.2.2.1 k = xv E th s k := by { unfold xv; rw [if_neg (fun z => h89 z.1)] }
        have hwn : wdQ E th s (k + 1) w := hw.elim (fun ⟨a, b, _⟩ => absurd b h89) (fun ⟨a, b⟩ => Or.inr ⟨a, fun h3 => absurd h3 h89⟩)
        refine vV.iload dX7_nextState_142 rfl ?_
        refine vV.aload_n dX7_nextState_144 rfl ?_
        refine vV.getr dX7_nextState_145 fl_X7_16 (by first | rfl | assumption) rfl (by first | assumption | exact hB _ _ _ rfl) ?_
        refine vV.iload dX7_nextState_148 rfl ?_
        refine vV.iald dX7_nextState_150 (by first | rfl | assumption) (by omega) (by omega) ?_
        rw [y4]
        refine vV.isub dX7_nextState_151 (⟨by omega, by omega⟩) ?_
        rw [ev]
        refine vV.istore (L' := [_, _, _, _, _, _, _, _, _, _]) dX7_nextState_152 (by decide) rfl ?_
        refine vV.iload dX7_nextState_154 rfl ?_
        refine vV.if_gt (tgt := 162) dX7_nextState_156 (by decide) (fun h156 => ?_) (fun h156 => ?_)
        · skip
          first | exact go _ _ _ hk3 hwn (by unfold xw; rw [if_pos hkE]; omega) (fun _ => by omega) | exact go _ _ _ hk3 hwn (by unfold xw; rw [if_neg (by omega), hxt.2 (by omega)]) (fun z => by omega)
        · skip
          refine vV.bipush (v := (-6)) dX7_nextState_159 (by decide) (by decide) ?_
          refine vV.ri dX7_nextState_161 rfl ?_
          exact ⟨by rw [xn_none (xbad_f hkE (by omega))]; rfl, rfl, rfl⟩
      · skip
        refine vV.aload_n dX7_nextState_92 rfl ?_
        refine vV.getr dX7_nextState_93 fl_X7_7 (by first | rfl | assumption) rfl (by first | assumption | exact hB _ _ _ rfl) ?_
        refine vV.iload dX7_nextState_96 rfl ?_
        refine vV.iald dX7_nextState_98 (by first | rfl | assumption) (by omega) (by omega) ?_
        rw [y2]
        refine vV.iload_n dX7_nextState_99 rfl ?_
        refine vV.icmp_ne (tgt := 142) dX7_nextState_100 (by decide) (fun h100 => ?_) (fun h100 => ?_)
        · skip
          have ev : ((xt s k : Nat) : Int) - E.2.2.2.1 k = xv E th s k := by { unfold xv; rw [if_neg (fun z => h100 z.2)] }
          have hwn : wdQ E th s (k + 1) w := hw.elim (fun ⟨a, b, j, j1, j2, j3⟩ => Or.inl ⟨a, b, j, by omega, j2, j3⟩) (fun ⟨a, b⟩ => Or.inr ⟨a, fun h3 j j1 j2 => (Nat.lt_succ_iff_lt_or_eq.mp j1).elim (fun z => b h3 j z j2) (fun z => by subst z; exact h100)⟩)
          refine vV.iload dX7_nextState_142 rfl ?_
          refine vV.aload_n dX7_nextState_144 rfl ?_
          refine vV.getr dX7_nextState_145 fl_X7_16 (by first | rfl | assumption) rfl (by first | assumption | exact hB _ _ _ rfl) ?_
          refine vV.iload dX7_nextState_148 rfl ?_
          refine vV.iald dX7_nextState_150 (by first | rfl | assumption) (by omega) (by omega) ?_
          rw [y4]
          refine vV.isub dX7_nextState_151 (⟨by omega, by omega⟩) ?_
          rw [ev]
          refine vV.istore (L' := [_, _, _, _, _, _, _, _, _, _]) dX7_nextState_152 (by decide) rfl ?_
          refine vV.iload dX7_nextState_154 rfl ?_
          refine vV.if_gt (tgt := 162) dX7_nextState_156 (by decide) (fun h156 => ?_) (fun h156 => ?_)
          · skip
            first | exact go _ _ _ hk3 hwn (by unfold xw; rw [if_pos hkE]; omega) (fun _ => by omega) | exact go _ _ _ hk3 hwn (by unfold xw; rw [if_neg (by omega), hxt.2 (by omega)]) (fun z => by omega)
          · skip
            refine vV.bipush (v := (-6)) dX7_nextState_159 (by decide) (by decide) ?_
            refine vV.ri dX7_nextState_161 rfl ?_
            exact ⟨by rw [xn_none (xbad_f hkE (by omega))]; rfl, rfl, rfl⟩
        · skip
          have ev : min (E.2.2.1 k) ((xt s k : Nat) + E.2.2.2.2) - E.2.2.2.1 k = xv E th s k := by { unfold xv; rw [if_pos ⟨h89, h100⟩] }
          have hwn : wdQ E th s (k + 1) 1 := Or.inl ⟨rfl, h89, k, by omega, hkE, h100⟩
          refine vV.iconst dX7_nextState_103 (by decide) ?_
          refine vV.istore (L' := [_, _, _, _, _, _, _, _, _, _]) dX7_nextState_104 (by decide) rfl ?_
          refine vV.iload dX7_nextState_106 rfl ?_
          refine vV.aload_n dX7_nextState_108 rfl ?_
          refine vV.geti (z := 6) dX7_nextState_109 fl_X7_80 (by first | rfl | assumption) rfl rfl ?_
          rw [x2]
          refine vV.iadd dX7_nextState_112 (⟨by omega, by omega⟩) ?_
          refine vV.aload_n dX7_nextState_113 rfl ?_
          refine vV.getr dX7_nextState_114 fl_X7_13 (by first | rfl | assumption) rfl (by first | assumption | exact hB _ _ _ rfl) ?_
          refine vV.iload dX7_nextState_117 rfl ?_
          refine vV.iald dX7_nextState_119 (by first | rfl | assumption) (by omega) (by omega) ?_
          rw [y3]
          refine vV.icmp_le (tgt := 133) dX7_nextState_120 (by decide) (fun h120 => ?_) (fun h120 => ?_)
          · skip
            refine vV.iload dX7_nextState_133 rfl ?_
            refine vV.aload_n dX7_nextState_135 rfl ?_
            refine vV.geti (z := 6) dX7_nextState_136 fl_X7_80 (by first | rfl | assumption) rfl rfl ?_
            rw [x2]
            refine vV.iadd dX7_nextState_139 (⟨by omega, by omega⟩) ?_
            try rw [show ((xt s k : Nat) : Int) + E.2.2.2.2 = min (E.2.2.1 k) ((xt s k : Nat) + E.2.2.2.2) by omega]
            refine vV.istore (L' := [_, _, _, _, _, _, _, _, _, _]) dX7_nextState_140 (by decide) rfl ?_
            refine vV.iload dX7_nextState_142 rfl ?_
            refine vV.aload_n dX7_nextState_144 rfl ?_
            refine vV.getr dX7_nextState_145 fl_X7_16 (by first | rfl | assumption) rfl (by first | assumption | exact hB _ _ _ rfl) ?_
            refine vV.iload dX7_nextState_148 rfl ?_
            refine vV.iald dX7_nextState_150 (by first | rfl | assumption) (by omega) (by omega) ?_
            rw [y4]
            refine vV.isub dX7_nextState_151 (⟨by omega, by omega⟩) ?_
            rw [ev]
            refine vV.istore (L' := [_, _, _, _, _, _, _, _, _, _]) dX7_nextState_152 (by decide) rfl ?_
            refine vV.iload dX7_nextState_154 rfl ?_
            refine vV.if_gt (tgt := 162) dX7_nextState_156 (by decide) (fun h156 => ?_) (fun h156 => ?_)
            · skip
              first | exact go _ _ _ hk3 hwn (by unfold xw; rw [if_pos hkE]; omega) (fun _ => by omega) | exact go _ _ _ hk3 hwn (by unfold xw; rw [if_neg (by omega), hxt.2 (by omega)]) (fun z => by omega)
            · skip
              refine vV.bipush (v := (-6)) dX7_nextState_159 (by decide) (by decide) ?_
              refine vV.ri dX7_nextState_161 rfl ?_
              exact ⟨by rw [xn_none (xbad_f hkE (by omega))]; rfl, rfl, rfl⟩
          · skip
            refine vV.aload_n dX7_nextState_123 rfl ?_
            refine vV.getr dX7_nextState_124 fl_X7_13 (by first | rfl | assumption) rfl (by first | assumption | exact hB _ _ _ rfl) ?_
            refine vV.iload dX7_nextState_127 rfl ?_
            refine vV.iald dX7_nextState_129 (by first | rfl | assumption) (by omega) (by omega) ?_
            rw [y3, show E.2.2.1 k = min (E.2.2.1 k) ((xt s k : Nat) + E.2.2.2.2) by omega]
            refine vV.goto (tgt := 140) dX7_nextState_130 (by decide) ?_
            try rw [show ((xt s k : Nat) : Int) + E.2.2.2.2 = min (E.2.2.1 k) ((xt s k : Nat) + E.2.2.2.2) by omega]
            refine vV.istore (L' := [_, _, _, _, _, _, _, _, _, _]) dX7_nextState_140 (by decide) rfl ?_
            refine vV.iload dX7_nextState_142 rfl ?_
            refine vV.aload_n dX7_nextState_144 rfl ?_
            refine vV.getr dX7_nextState_145 fl_X7_16 (by first | rfl | assumption) rfl (by first | assumption | exact hB _ _ _ rfl) ?_
            refine vV.iload dX7_nextState_148 rfl ?_
            refine vV.iald dX7_nextState_150 (by first | rfl | assumption) (by omega) (by omega) ?_
            rw [y4]
            refine vV.isub dX7_nextState_151 (⟨by omega, by omega⟩) ?_
            rw [ev]
            refine vV.istore (L' := [_, _, _, _, _, _, _, _, _, _]) dX7_nextState_152 (by decide) rfl ?_
            refine vV.iload dX7_nextState_154 rfl ?_
            refine vV.if_gt (tgt := 162) dX7_nextState_156 (by decide) (fun h156 => ?_) (fun h156 => ?_)
            · skip
              first | exact go _ _ _ hk3 hwn (by unfold xw; rw [if_pos hkE]; omega) (fun _ => by omega) | exact go _ _ _ hk3 hwn (by unfold xw; rw [if_neg (by omega), hxt.2 (by omega)]) (fun z => by omega)
            · skip
              refine vV.bipush (v := (-6)) dX7_nextState_159 (by decide) (by decide) ?_
              refine vV.ri dX7_nextState_161 rfl ?_
              exact ⟨by rw [xn_none (xbad_f hkE (by omega))]; rfl, rfl, rfl⟩
theorem c_X7_nextState {d : List Nat} {T : vT} {M : vM} {E : xE} {s : xS} {th : Int} (hB : vB T) (hE : xEok E) (hX : rX M E) (hs : xSt E s) (h0 : 0 ≤ th ∧ th ≤ 3) : vCon m_X7_nextState d d [vR 200, vI (enR s : Nat), vI th] T M (vPi fun r T1 M1 => r = xrR (xn E th s) ∧ T = T1 ∧ M = M1) := by
  have hok := hs.ok hE
  have hp := enR_lt hok
  have hm := (enR_dig hok (k := 0) (by decide)).2
  have hs8 := hs.1
  have h12 : vShr (enR s : Nat) 12 = (s.1 : Nat) := by rw [show (12 : Int) = ((12 : Nat) : Int) from rfl, vShr_nat (by decide) (by omega), show (2 : Nat) ^ 12 = 4096 from rfl, hm]
  refine vCon.of (by decide) rfl rfl (Nat.le_of_ble_eq_true rfl) ?_
  have go : ∀ (mn : Int) (x5 x6 x7 x8 x9 : Option vA), xman th s.1 = mn → vIn mn →
      vV m_X7_nextState d d (vPi fun r T1 M1 => r = xrR (xn E th s) ∧ T = T1 ∧ M = M1) 30 [some (vR 200), some (vI (enR s : Nat)), some (vI th), some (vI s.1), some (vI mn), x5, x6, x7, x8, x9] [] d T M := by
    intro mn x5 x6 x7 x8 x9 hmn hin
    refine vV.iload dX7_nextState_30 rfl ?_
    refine vV.if_lt (tgt := 42) dX7_nextState_32 (by decide) (fun h32 => ?_) (fun h32 => ?_)
    · skip
      refine vV.bipush (v := (-6)) dX7_nextState_42 (by decide) (by decide) ?_
      refine vV.ri dX7_nextState_44 rfl ?_
      exact ⟨by rw [xn_none (xbad_m (by omega))]; rfl, rfl, rfl⟩
    · skip
      refine vV.iload dX7_nextState_35 rfl ?_
      refine vV.bipush (v := 8) dX7_nextState_37 (by decide) (by decide) ?_
      refine vV.icmp_lt (tgt := 45) dX7_nextState_39 (by decide) (fun h39 => ?_) (fun h39 => ?_)
      · skip
        refine vV.iload dX7_nextState_45 rfl ?_
        refine vV.istore (L' := [_, _, _, _, _, _, _, _, _, _]) dX7_nextState_47 (by decide) rfl ?_
        refine vV.iconst dX7_nextState_49 (by decide) ?_
        refine vV.istore (L' := [_, _, _, _, _, _, _, _, _, _]) dX7_nextState_50 (by decide) rfl ?_
        refine vV.iconst dX7_nextState_52 (by decide) ?_
        refine vV.istore (L' := [_, _, _, _, _, _, _, _, _, _]) dX7_nextState_53 (by decide) rfl ?_
        obtain ⟨m', hm'⟩ : ∃ m' : Nat, mn = m' := ⟨mn.toNat, by omega⟩
        subst hm'
        exact l_X7_ns55 hB hE hX hs (by omega) hmn 0 (by omega) 0 _ _ (Or.inr ⟨rfl, fun _ j hj => by omega⟩) (fun j hj => by omega)
      · skip
        refine vV.bipush (v := (-6)) dX7_nextState_42 (by decide) (by decide) ?_
        refine vV.ri dX7_nextState_44 rfl ?_
        exact ⟨by rw [xn_none (xbad_m (by omega))]; rfl, rfl, rfl⟩
  refine vV.iload_n dX7_nextState_0 rfl ?_
  refine vV.bipush (v := 12) dX7_nextState_1 (by decide) (by decide) ?_
  refine vV.ishr dX7_nextState_3 ?_
  rw [h12]
  refine vV.istore_n (L' := [_, _, _, _, _, _, _, _, _, _]) dX7_nextState_4 (by decide) rfl ?_
  refine vV.iload_n dX7_nextState_5 rfl ?_
  refine vV.iconst dX7_nextState_6 (by decide) ?_
  refine vV.icmp_ne (tgt := 16) dX7_nextState_7 (by decide) (fun h7 => ?_) (fun h7 => ?_)
  · skip
    refine vV.iload_n dX7_nextState_16 rfl ?_
    refine vV.iconst dX7_nextState_17 (by decide) ?_
    refine vV.icmp_ne (tgt := 27) dX7_nextState_18 (by decide) (fun h18 => ?_) (fun h18 => ?_)
    · skip
      have e1 : xman th s.1 = (s.1 : Int) := by unfold xman; rw [if_neg h7, if_neg h18]
      refine vV.iload_n dX7_nextState_27 rfl ?_
      refine vV.istore (L' := [_, _, _, _, _, _, _, _, _, _]) dX7_nextState_28 (by decide) rfl ?_
      exact go _ _ _ _ _ _ (by omega) ⟨by omega, by omega⟩
    · skip
      have e1 : xman th s.1 = (s.1 : Int) + 1 := by unfold xman; rw [if_neg h7, if_pos h18]
      refine vV.iload_n dX7_nextState_21 rfl ?_
      refine vV.iconst dX7_nextState_22 (by decide) ?_
      refine vV.iadd dX7_nextState_23 (⟨by omega, by omega⟩) ?_
      refine vV.goto (tgt := 28) dX7_nextState_24 (by decide) ?_
      refine vV.istore (L' := [_, _, _, _, _, _, _, _, _, _]) dX7_nextState_28 (by decide) rfl ?_
      exact go _ _ _ _ _ _ (by omega) ⟨by omega, by omega⟩
  · skip
    have e1 : xman th s.1 = (s.1 : Int) - 1 := by unfold xman; rw [if_pos h7]
    refine vV.iload_n dX7_nextState_10 rfl ?_
    refine vV.iconst dX7_nextState_11 (by decide) ?_
    refine vV.isub dX7_nextState_12 (⟨by omega, by omega⟩) ?_
    refine vV.goto (tgt := 28) dX7_nextState_13 (by decide) ?_
    refine vV.istore (L' := [_, _, _, _, _, _, _, _, _, _]) dX7_nextState_28 (by decide) rfl ?_
    exact go _ _ _ _ _ _ (by omega) ⟨by omega, by omega⟩
theorem xrR_n {E : xE} {th : Int} {s : xS} {r : Int} (h : r = xrR (xn E th s)) (hr : r < 0) : xn E th s = none := by
  cases hz : xn E th s with
  | none => rfl
  | some s2 => rw [hz] at h; have h9 : (0 : Int) ≤ xrR (some s2) := Int.natCast_nonneg _; omega
theorem xrR_s {E : xE} {th : Int} {s : xS} {r : Int} (h : r = xrR (xn E th s)) (hr : 0 ≤ r) : ∃ s', xn E th s = some s' ∧ r = ((enR s' : Nat) : Int) := by
  cases hz : xn E th s with
  | none => rw [hz] at h; have h9 : xrR none = -6 := rfl; omega
  | some s2 => rw [hz] at h; exact ⟨s2, rfl, h⟩
/-- the table in round r: w below r is the most; -6: he can go on for r ticks -/
def lvI (E : xE) (R : Int → Int) (r : Nat) (s : xS) : Prop := (R (enR s : Nat) = -6 ∧ xcan E r s) ∨ ∃ w : Nat, w < r ∧ R (enR s : Nat) = w ∧ xL E s w
/-- .. or it is r, told in this round -/
def lvJ (E : xE) (R : Int → Int) (r : Nat) (s : xS) : Prop := lvI E R r s ∨ (R (enR s : Nat) = r ∧ xL E s r)
theorem lvJ_c {E : xE} {R : Int → Int} {r : Nat} {s : xS} (h : lvJ E R r s) : (0 ≤ R (enR s : Nat) ∧ R (enR s : Nat) < r) ↔ ¬ xcan E r s := by
  rcases h with (⟨a, b⟩ | ⟨w, a, b, c⟩) | ⟨a, b⟩
  · exact ⟨fun z => by omega, fun z => absurd b z⟩
  · exact ⟨fun _ z => c.2 (xcan_le (by omega) z), fun _ => by omega⟩
  · exact ⟨fun z => by omega, fun z => absurd b.1 z⟩
theorem dX7_endsIn_0 : decode cX7_endsIn 0 = .ok (.iconst 1, 1) := by decide +kernel
theorem dX7_endsIn_1 : decode cX7_endsIn 1 = .ok (.istore_n 3, 1) := by decide +kernel
theorem dX7_endsIn_2 : decode cX7_endsIn 2 = .ok (.iconst 0, 1) := by decide +kernel
theorem dX7_endsIn_3 : decode cX7_endsIn 3 = .ok (.istore 4, 2) := by decide +kernel
theorem dX7_endsIn_5 : decode cX7_endsIn 5 = .ok (.iload 4, 2) := by decide +kernel
theorem dX7_endsIn_7 : decode cX7_endsIn 7 = .ok (.iconst 4, 1) := by decide +kernel
theorem dX7_endsIn_8 : decode cX7_endsIn 8 = .ok (.if_icmp .ge 54, 3) := by decide +kernel
theorem dX7_endsIn_11 : decode cX7_endsIn 11 = .ok (.iload_n 3, 1) := by decide +kernel
theorem dX7_endsIn_12 : decode cX7_endsIn 12 = .ok (.ifCond .eq 50, 3) := by decide +kernel
theorem dX7_endsIn_15 : decode cX7_endsIn 15 = .ok (.aload_n 0, 1) := by decide +kernel
theorem dX7_endsIn_16 : decode cX7_endsIn 16 = .ok (.iload_n 1, 1) := by decide +kernel
theorem dX7_endsIn_17 : decode cX7_endsIn 17 = .ok (.iload 4, 2) := by decide +kernel
theorem dX7_endsIn_19 : decode cX7_endsIn 19 = .ok (.invokevirtual 266, 3) := by decide +kernel
theorem dX7_endsIn_22 : decode cX7_endsIn 22 = .ok (.istore 5, 2) := by decide +kernel
theorem dX7_endsIn_24 : decode cX7_endsIn 24 = .ok (.iload 5, 2) := by decide +kernel
theorem dX7_endsIn_26 : decode cX7_endsIn 26 = .ok (.ifCond .lt 24, 3) := by decide +kernel
theorem dX7_endsIn_29 : decode cX7_endsIn 29 = .ok (.aload_n 0, 1) := by decide +kernel
theorem dX7_endsIn_30 : decode cX7_endsIn 30 = .ok (.getfield 53, 3) := by decide +kernel
theorem dX7_endsIn_33 : decode cX7_endsIn 33 = .ok (.iload 5, 2) := by decide +kernel
theorem dX7_endsIn_35 : decode cX7_endsIn 35 = .ok (.iaload, 1) := by decide +kernel
theorem dX7_endsIn_36 : decode cX7_endsIn 36 = .ok (.ifCond .lt 18, 3) := by decide +kernel
theorem dX7_endsIn_39 : decode cX7_endsIn 39 = .ok (.aload_n 0, 1) := by decide +kernel
theorem dX7_endsIn_40 : decode cX7_endsIn 40 = .ok (.getfield 53, 3) := by decide +kernel
theorem dX7_endsIn_43 : decode cX7_endsIn 43 = .ok (.iload 5, 2) := by decide +kernel
theorem dX7_endsIn_45 : decode cX7_endsIn 45 = .ok (.iaload, 1) := by decide +kernel
theorem dX7_endsIn_46 : decode cX7_endsIn 46 = .ok (.iload_n 2, 1) := by decide +kernel
theorem dX7_endsIn_47 : decode cX7_endsIn 47 = .ok (.if_icmp .ge 7, 3) := by decide +kernel
theorem dX7_endsIn_50 : decode cX7_endsIn 50 = .ok (.iconst 1, 1) := by decide +kernel
theorem dX7_endsIn_51 : decode cX7_endsIn 51 = .ok (.goto 4, 3) := by decide +kernel
theorem dX7_endsIn_54 : decode cX7_endsIn 54 = .ok (.iconst 0, 1) := by decide +kernel
theorem dX7_endsIn_55 : decode cX7_endsIn 55 = .ok (.istore_n 3, 1) := by decide +kernel
theorem dX7_endsIn_56 : decode cX7_endsIn 56 = .ok (.iinc 4 1, 3) := by decide +kernel
theorem dX7_endsIn_59 : decode cX7_endsIn 59 = .ok (.goto (-54), 3) := by decide +kernel
theorem dX7_endsIn_62 : decode cX7_endsIn 62 = .ok (.iload_n 3, 1) := by decide +kernel
theorem dX7_endsIn_63 : decode cX7_endsIn 63 = .ok (.ireturn, 1) := by decide +kernel
theorem l_X7_ei5 {d : List Nat} {T : vT} {M : vM} {E : xE} {s : xS} {r : Nat} (hB : vB T) (hE : xEok E) (hX : rX M E) (hs : xSt E s) (hJ : ∀ x, xSt E x → lvJ E (M 231) r x) : ∀ t : Nat, t ≤ 4 → ∀ (b : Int) (x5 : Option vA), ((b = 1 ∧ ∀ (u : Nat) (s' : xS), u < t → xn E u s = some s' → ¬ xcan E r s') ∨ (b = 0 ∧ ∃ (u : Nat) (s' : xS), u < 4 ∧ xn E u s = some s' ∧ xcan E r s')) →
    vV m_X7_endsIn d d (vPi fun y T1 M1 => ((y = 1 ∧ ¬ xcan E (r + 1) s) ∨ (y = 0 ∧ xcan E (r + 1) s)) ∧ T = T1 ∧ M = M1) 5 [some (vR 200), some (vI (enR s : Nat)), some (vI r), some (vI b), some (vI t), x5] [] d T M := by
  refine vUp ?_
  intro t ht ih b x5 hb
  have hb01 : b = 0 ∨ b = 1 := by rcases hb with ⟨a, -⟩ | ⟨a, -⟩ <;> omega
  have hfin : (t = 4 ∨ b = 0) → ((b = 1 ∧ ¬ xcan E (r + 1) s) ∨ (b = 0 ∧ xcan E (r + 1) s)) := fun h => by
    rcases hb with ⟨a, c⟩ | ⟨a, u, s', u1, u2, u3⟩
    · exact Or.inl ⟨a, fun ⟨u, s', u1, u2, u3⟩ => c u s' (by omega) u2 u3⟩
    · exact Or.inr ⟨a, u, s', u1, u2, u3⟩
  refine vV.iload dX7_endsIn_5 rfl ?_
  refine vV.iconst dX7_endsIn_7 (by decide) ?_
  refine vV.icmp_ge (tgt := 62) dX7_endsIn_8 (by decide) (fun h8 => ?_) (fun h8 => ?_)
  · skip
    refine vV.iload_n dX7_endsIn_62 rfl ?_
    refine vV.rz dX7_endsIn_63 rfl (by first | exact Or.inl rfl | exact Or.inr rfl | assumption) ?_
    exact ⟨hfin (by omega), rfl, rfl⟩
  · skip
    refine vV.iload_n dX7_endsIn_11 rfl ?_
    refine vV.if_eq (tgt := 62) dX7_endsIn_12 (by decide) (fun h12 => ?_) (fun h12 => ?_)
    · skip
      refine vV.iload_n dX7_endsIn_62 rfl ?_
      refine vV.rz dX7_endsIn_63 rfl (by first | exact Or.inl rfl | exact Or.inr rfl | assumption) ?_
      exact ⟨hfin (by omega), rfl, rfl⟩
    · skip
      have hb1 : b = 1 := by omega
      have hc := hb.elim (fun z => z.2) (fun z => by omega)
      refine vV.aload_n dX7_endsIn_15 rfl ?_
      refine vV.iload_n dX7_endsIn_16 rfl ?_
      refine vV.iload dX7_endsIn_17 rfl ?_
      refine vV.cVi dX7_endsIn_19 ml_X7_266 cw_X7_nextState iw_X7_nextState (by first | rfl | assumption) rfl (by unfold vRoom; decide) (c_X7_nextState hB hE hX hs (by omega)) rfl rfl (Nat.le_of_ble_eq_true rfl) ?_
      rintro x19 _ _ hx19 ⟨hx, rfl, rfl⟩
      refine vV.istore (L' := [_, _, _, _, _, _]) dX7_endsIn_22 (by decide) rfl ?_
      refine vV.iload dX7_endsIn_24 rfl ?_
      refine vV.if_lt (tgt := 50) dX7_endsIn_26 (by decide) (fun h26 => ?_) (fun h26 => ?_)
      · skip
        have hn := xrR_n hx h26
        have hc2 : ∀ (u : Nat) (s' : xS), u < t + 1 → xn E u s = some s' → ¬ xcan E r s' := fun u s2 h1 h2 => (Nat.lt_succ_iff_lt_or_eq.mp h1).elim (fun z => hc u s2 z h2) (fun z => by subst z; rw [hn] at h2; cases h2)
        refine vV.iconst dX7_endsIn_50 (by decide) ?_
        refine vV.goto (tgt := 55) dX7_endsIn_51 (by decide) ?_
        refine vV.istore_n (L' := [_, _, _, _, _, _]) dX7_endsIn_55 (by decide) rfl ?_
        refine vV.iinc (L' := [_, _, _, _, _, _]) dX7_endsIn_56 (by decide) rfl (⟨by omega, by omega⟩) rfl ?_
        refine vV.goto (tgt := 5) dX7_endsIn_59 (by decide) ?_
        first | exact ih (by omega) 1 _ (Or.inl ⟨rfl, hc2⟩) | exact ih (by omega) 0 _ (Or.inr ⟨rfl, t, s', by omega, hn, hbad⟩)
      · skip
        obtain ⟨s', hn, hx'⟩ := xrR_s hx (by omega)
        subst hx'
        have hs' := xn_st hE hs hn
        have hp' := enR_lt (hs'.ok hE)
        have hlc := lvJ_c (hJ s' hs')
        refine vV.aload_n dX7_endsIn_29 rfl ?_
        refine vV.getr dX7_endsIn_30 fl_X7_53 (by first | rfl | assumption) rfl (by first | assumption | exact hB _ _ _ rfl) ?_
        refine vV.iload dX7_endsIn_33 rfl ?_
        refine vV.iald dX7_endsIn_35 (by first | rfl | assumption) (by omega) (by omega) ?_
        refine vV.if_lt (tgt := 54) dX7_endsIn_36 (by decide) (fun h36 => ?_) (fun h36 => ?_)
        · skip
          have hbad : xcan E r s' := Classical.byContradiction fun z => by have := hlc.mpr z; omega
          refine vV.iconst dX7_endsIn_54 (by decide) ?_
          refine vV.istore_n (L' := [_, _, _, _, _, _]) dX7_endsIn_55 (by decide) rfl ?_
          refine vV.iinc (L' := [_, _, _, _, _, _]) dX7_endsIn_56 (by decide) rfl (⟨by omega, by omega⟩) rfl ?_
          refine vV.goto (tgt := 5) dX7_endsIn_59 (by decide) ?_
          first | exact ih (by omega) 1 _ (Or.inl ⟨rfl, hc2⟩) | exact ih (by omega) 0 _ (Or.inr ⟨rfl, t, s', by omega, hn, hbad⟩)
        · skip
          refine vV.aload_n dX7_endsIn_39 rfl ?_
          refine vV.getr dX7_endsIn_40 fl_X7_53 (by first | rfl | assumption) rfl (by first | assumption | exact hB _ _ _ rfl) ?_
          refine vV.iload dX7_endsIn_43 rfl ?_
          refine vV.iald dX7_endsIn_45 (by first | rfl | assumption) (by omega) (by omega) ?_
          refine vV.iload_n dX7_endsIn_46 rfl ?_
          refine vV.icmp_ge (tgt := 54) dX7_endsIn_47 (by decide) (fun h47 => ?_) (fun h47 => ?_)
          · skip
            have hbad : xcan E r s' := Classical.byContradiction fun z => by have := hlc.mpr z; omega
            refine vV.iconst dX7_endsIn_54 (by decide) ?_
            refine vV.istore_n (L' := [_, _, _, _, _, _]) dX7_endsIn_55 (by decide) rfl ?_
            refine vV.iinc (L' := [_, _, _, _, _, _]) dX7_endsIn_56 (by decide) rfl (⟨by omega, by omega⟩) rfl ?_
            refine vV.goto (tgt := 5) dX7_endsIn_59 (by decide) ?_
            first | exact ih (by omega) 1 _ (Or.inl ⟨rfl, hc2⟩) | exact ih (by omega) 0 _ (Or.inr ⟨rfl, t, s', by omega, hn, hbad⟩)
          · skip
            have hc2 : ∀ (u : Nat) (s' : xS), u < t + 1 → xn E u s = some s' → ¬ xcan E r s' := fun u s2 h1 h2 => (Nat.lt_succ_iff_lt_or_eq.mp h1).elim (fun z => hc u s2 z h2) (fun z => by subst z; rw [hn] at h2; cases h2; exact hlc.mp ⟨by omega, by omega⟩)
            refine vV.iconst dX7_endsIn_50 (by decide) ?_
            refine vV.goto (tgt := 55) dX7_endsIn_51 (by decide) ?_
            refine vV.istore_n (L' := [_, _, _, _, _, _]) dX7_endsIn_55 (by decide) rfl ?_
            refine vV.iinc (L' := [_, _, _, _, _, _]) dX7_endsIn_56 (by decide) rfl (⟨by omega, by omega⟩) rfl ?_
            refine vV.goto (tgt := 5) dX7_endsIn_59 (by decide) ?_
            first | exact ih (by omega) 1 _ (Or.inl ⟨rfl, hc2⟩) | exact ih (by omega) 0 _ (Or.inr ⟨rfl, t, s', by omega, hn, hbad⟩)
theorem c_X7_endsIn {d : List Nat} {T : vT} {M : vM} {E : xE} {s : xS} {r : Nat} (hB : vB T) (hE : xEok E) (hX : rX M E) (hs : xSt E s) (hJ : ∀ x, xSt E x → lvJ E (M 231) r x) : vCon m_X7_endsIn d d [vR 200, vI (enR s : Nat), vI r] T M (vPi fun y T1 M1 => ((y = 1 ∧ ¬ xcan E (r + 1) s) ∨ (y = 0 ∧ xcan E (r + 1) s)) ∧ T = T1 ∧ M = M1) := by
  refine vCon.of (by decide) rfl rfl (Nat.le_of_ble_eq_true rfl) ?_
  refine vV.iconst dX7_endsIn_0 (by decide) ?_
  refine vV.istore_n (L' := [_, _, _, _, _, _]) dX7_endsIn_1 (by decide) rfl ?_
  refine vV.iconst dX7_endsIn_2 (by decide) ?_
  refine vV.istore (L' := [_, _, _, _, _, _]) dX7_endsIn_3 (by decide) rfl ?_
  exact l_X7_ei5 hB hE hX hs hJ 0 (by omega) 1 _ (Or.inl ⟨rfl, fun u s' h => by omega⟩)
/-! ===== own: the reference: layLives ===== -/
/-- the table is right -/
def lvOk (E : xE) (R : Int → Int) : Prop := ∀ s, xSt E s → (R (enR s : Nat) = -6 ∧ xever E s) ∨ ∃ w : Nat, R (enR s : Nat) = w ∧ xL E s w
/-- in round r, ahead of the code c; g: some have ended in it -/
def lvR (E : xE) (R : Int → Int) (r c : Nat) (g : Int) : Prop := (∀ s, xSt E s → (enR s < c → lvI E R (r + 1) s) ∧ (c ≤ enR s → lvI E R r s)) ∧ ((g = 0 ∧ ∀ s, xSt E s → enR s < c → ¬ xL E s r) ∨ (g = 1 ∧ ∃ s, xSt E s ∧ xL E s r))
theorem lvI_J {E : xE} {R : Int → Int} {r : Nat} {s : xS} (h : lvI E R (r + 1) s) : lvJ E R r s := by
  rcases h with ⟨a, b⟩ | ⟨w, a, b, c⟩
  · exact Or.inl (Or.inl ⟨a, xcan_dn b⟩)
  · by_cases e : w = r
    · subst e; exact Or.inr ⟨b, c⟩
    · exact Or.inl (Or.inr ⟨w, by omega, b, c⟩)
theorem lvR.j {E : xE} {R : Int → Int} {r c : Nat} {g : Int} (h : lvR E R r c g) : ∀ s, xSt E s → lvJ E R r s := fun s hs => by
  rcases Nat.lt_or_ge (enR s) c with z | z
  · exact lvI_J ((h.1 s hs).1 z)
  · exact Or.inl ((h.1 s hs).2 z)
theorem lvR.fin {E : xE} {R : Int → Int} {r : Nat} (hE : xEok E) (h : lvR E R r 32768 0) : lvOk E R := by
  obtain ⟨h1, h2⟩ := h
  have hno : ∀ s, xSt E s → ¬ xL E s r := fun s hs => by
    rcases h2 with ⟨-, h2⟩ | ⟨h2, -⟩
    · exact h2 s hs (enR_lt (hs.ok hE))
    · omega
  have hup : ∀ k s, xSt E s → xcan E r s → xcan E (r + k) s := fun k => by
    induction k with
    | zero => exact fun s _ h => h
    | succ k ih =>
      intro s hs h
      have h3 : xcan E (r + 1) s := Classical.byContradiction fun z => hno s hs ⟨h, z⟩
      obtain ⟨t, s', t1, t2, t3⟩ := h3
      exact ⟨t, s', t1, t2, ih s' (xn_st hE hs t2) t3⟩
  intro s hs
  rcases (h1 s hs).1 (enR_lt (hs.ok hE)) with ⟨a, b⟩ | ⟨w, a, b, c⟩
  · exact Or.inl ⟨a, fun k => xcan_le (by omega) (hup k s hs (xcan_dn b))⟩
  · exact Or.inr ⟨w, b, c⟩
theorem lvR.nx {E : xE} {R : Int → Int} {r : Nat} {g : Int} (hE : xEok E) (h : lvR E R r 32768 g) : lvR E R (r + 1) 0 0 := ⟨fun s hs => ⟨fun z => by omega, fun _ => (h.1 s hs).1 (enR_lt (hs.ok hE))⟩, Or.inl ⟨rfl, fun s _ z => by omega⟩⟩
/-- a code that is no position, or is known, or goes on -/
theorem lvR.skip {E : xE} {R : Int → Int} {r c : Nat} {g : Int} (h : lvR E R r c g) (hc : ∀ s, xSt E s → enR s = c → 0 ≤ R c ∨ xcan E (r + 1) s) : lvR E R r (c + 1) g := by
  obtain ⟨h1, h2⟩ := h
  refine ⟨fun s hs => ⟨fun z => ?_, fun z => (h1 s hs).2 (by omega)⟩, h2.imp (fun ⟨a, b⟩ => ⟨a, fun s hs z => ?_⟩) id⟩
  · rcases Nat.lt_succ_iff_lt_or_eq.mp z with y | y
    · exact (h1 s hs).1 y
    · rcases (h1 s hs).2 (by omega) with ⟨p, q⟩ | ⟨w, p, q, u⟩
      · rcases hc s hs y with x | x
        · rw [y] at p; omega
        · exact Or.inl ⟨p, x⟩
      · exact Or.inr ⟨w, by omega, q, u⟩
  · rcases Nat.lt_succ_iff_lt_or_eq.mp z with y | y
    · exact b s hs y
    · intro hL
      rcases hc s hs y with x | x
      · rcases (h1 s hs).2 (by omega) with ⟨p, q⟩ | ⟨w, p, q, u⟩
        · rw [y] at p; omega
        · have := xL_u u hL; omega
      · exact hL.2 x
theorem lvR.put {E : xE} {R : Int → Int} {r : Nat} {g : Int} {s : xS} (hE : xEok E) (h : lvR E R r (enR s) g) (hs : xSt E s) (hL : xL E s r) : lvR E (fSet R (enR s : Nat) r) r (enR s + 1) 1 := by
  obtain ⟨h1, h2⟩ := h
  have hset : ∀ x : xS, enR x ≠ enR s → fSet R (enR s : Nat) r (enR x : Nat) = R (enR x : Nat) := fun x hx => fSet_n (by omega)
  have hI : ∀ (x : xS) (k : Nat), enR x ≠ enR s → lvI E R k x → lvI E (fSet R (enR s : Nat) r) k x := fun x k hx hq => by unfold lvI; rw [hset x hx]; exact hq
  refine ⟨fun x hx => ⟨fun z => ?_, fun z => hI x r (by omega) ((h1 x hx).2 (by omega))⟩, Or.inr ⟨rfl, s, hs, hL⟩⟩
  by_cases e : enR x = enR s
  · rw [enR_inj (hx.ok hE) (hs.ok hE) e]
    exact Or.inr ⟨r, by omega, fSet_s _ _ _, hL⟩
  · exact hI x (r + 1) e ((h1 x hx).1 (by omega))
theorem lvR_put2 {E : xE} {R : Int → Int} {r c : Nat} {g : Int} (hE : xEok E) (hR : lvR E R r c g) (hst : xSt E (dR c)) (d2 : enR (dR c) = c) (hneg : R c < 0) (hnc : ¬ xcan E (r + 1) (dR c)) : lvR E (fSet R c r) r (c + 1) 1 := by
  have hcan : xcan E r (dR c) := by
    rcases (hR.1 (dR c) hst).2 (by omega) with ⟨a, b⟩ | ⟨w, a, b, e⟩
    · exact b
    · rw [d2] at b; omega
  have h := lvR.put (s := dR c) hE (by rw [d2]; exact hR) hst ⟨hcan, hnc⟩
  rw [d2] at h
  exact h
theorem dX7_layLives_0 : decode cX7_layLives 0 = .ok (.aload_n 0, 1) := by decide +kernel
theorem dX7_layLives_1 : decode cX7_layLives 1 = .ok (.getfield 56, 3) := by decide +kernel
theorem dX7_layLives_4 : decode cX7_layLives 4 = .ok (.aload_n 0, 1) := by decide +kernel
theorem dX7_layLives_5 : decode cX7_layLives 5 = .ok (.invokevirtual 186, 3) := by decide +kernel
theorem dX7_layLives_8 : decode cX7_layLives 8 = .ok (.if_icmp .ne 4, 3) := by decide +kernel
theorem dX7_layLives_11 : decode cX7_layLives 11 = .ok (.return_, 1) := by decide +kernel
theorem dX7_layLives_12 : decode cX7_layLives 12 = .ok (.aload_n 0, 1) := by decide +kernel
theorem dX7_layLives_13 : decode cX7_layLives 13 = .ok (.aload_n 0, 1) := by decide +kernel
theorem dX7_layLives_14 : decode cX7_layLives 14 = .ok (.invokevirtual 186, 3) := by decide +kernel
theorem dX7_layLives_17 : decode cX7_layLives 17 = .ok (.putfield 56, 3) := by decide +kernel
theorem dX7_layLives_20 : decode cX7_layLives 20 = .ok (.iconst 0, 1) := by decide +kernel
theorem dX7_layLives_21 : decode cX7_layLives 21 = .ok (.istore_n 1, 1) := by decide +kernel
theorem dX7_layLives_22 : decode cX7_layLives 22 = .ok (.iload_n 1, 1) := by decide +kernel
theorem dX7_layLives_23 : decode cX7_layLives 23 = .ok (.ldc 52, 2) := by decide +kernel
theorem dX7_layLives_25 : decode cX7_layLives 25 = .ok (.if_icmp .ge 17, 3) := by decide +kernel
theorem dX7_layLives_28 : decode cX7_layLives 28 = .ok (.aload_n 0, 1) := by decide +kernel
theorem dX7_layLives_29 : decode cX7_layLives 29 = .ok (.getfield 53, 3) := by decide +kernel
theorem dX7_layLives_32 : decode cX7_layLives 32 = .ok (.iload_n 1, 1) := by decide +kernel
theorem dX7_layLives_33 : decode cX7_layLives 33 = .ok (.bipush (-6), 2) := by decide +kernel
theorem dX7_layLives_35 : decode cX7_layLives 35 = .ok (.iastore, 1) := by decide +kernel
theorem dX7_layLives_36 : decode cX7_layLives 36 = .ok (.iinc 1 1, 3) := by decide +kernel
theorem dX7_layLives_39 : decode cX7_layLives 39 = .ok (.goto (-17), 3) := by decide +kernel
theorem dX7_layLives_42 : decode cX7_layLives 42 = .ok (.iconst 1, 1) := by decide +kernel
theorem dX7_layLives_43 : decode cX7_layLives 43 = .ok (.istore_n 1, 1) := by decide +kernel
theorem dX7_layLives_44 : decode cX7_layLives 44 = .ok (.iconst 0, 1) := by decide +kernel
theorem dX7_layLives_45 : decode cX7_layLives 45 = .ok (.istore_n 2, 1) := by decide +kernel
theorem dX7_layLives_46 : decode cX7_layLives 46 = .ok (.iload_n 1, 1) := by decide +kernel
theorem dX7_layLives_47 : decode cX7_layLives 47 = .ok (.ifCond .eq 60, 3) := by decide +kernel
theorem dX7_layLives_50 : decode cX7_layLives 50 = .ok (.iconst 0, 1) := by decide +kernel
theorem dX7_layLives_51 : decode cX7_layLives 51 = .ok (.istore_n 1, 1) := by decide +kernel
theorem dX7_layLives_52 : decode cX7_layLives 52 = .ok (.iconst 0, 1) := by decide +kernel
theorem dX7_layLives_53 : decode cX7_layLives 53 = .ok (.istore_n 3, 1) := by decide +kernel
theorem dX7_layLives_54 : decode cX7_layLives 54 = .ok (.iload_n 3, 1) := by decide +kernel
theorem dX7_layLives_55 : decode cX7_layLives 55 = .ok (.ldc 52, 2) := by decide +kernel
theorem dX7_layLives_57 : decode cX7_layLives 57 = .ok (.if_icmp .ge 44, 3) := by decide +kernel
theorem dX7_layLives_60 : decode cX7_layLives 60 = .ok (.aload_n 0, 1) := by decide +kernel
theorem dX7_layLives_61 : decode cX7_layLives 61 = .ok (.getfield 53, 3) := by decide +kernel
theorem dX7_layLives_64 : decode cX7_layLives 64 = .ok (.iload_n 3, 1) := by decide +kernel
theorem dX7_layLives_65 : decode cX7_layLives 65 = .ok (.iaload, 1) := by decide +kernel
theorem dX7_layLives_66 : decode cX7_layLives 66 = .ok (.ifCond .ge 29, 3) := by decide +kernel
theorem dX7_layLives_69 : decode cX7_layLives 69 = .ok (.aload_n 0, 1) := by decide +kernel
theorem dX7_layLives_70 : decode cX7_layLives 70 = .ok (.iload_n 3, 1) := by decide +kernel
theorem dX7_layLives_71 : decode cX7_layLives 71 = .ok (.invokevirtual 260, 3) := by decide +kernel
theorem dX7_layLives_74 : decode cX7_layLives 74 = .ok (.ifCond .eq 21, 3) := by decide +kernel
theorem dX7_layLives_77 : decode cX7_layLives 77 = .ok (.aload_n 0, 1) := by decide +kernel
theorem dX7_layLives_78 : decode cX7_layLives 78 = .ok (.iload_n 3, 1) := by decide +kernel
theorem dX7_layLives_79 : decode cX7_layLives 79 = .ok (.iload_n 2, 1) := by decide +kernel
theorem dX7_layLives_80 : decode cX7_layLives 80 = .ok (.invokevirtual 263, 3) := by decide +kernel
theorem dX7_layLives_83 : decode cX7_layLives 83 = .ok (.ifCond .eq 12, 3) := by decide +kernel
theorem dX7_layLives_86 : decode cX7_layLives 86 = .ok (.aload_n 0, 1) := by decide +kernel
theorem dX7_layLives_87 : decode cX7_layLives 87 = .ok (.getfield 53, 3) := by decide +kernel
theorem dX7_layLives_90 : decode cX7_layLives 90 = .ok (.iload_n 3, 1) := by decide +kernel
theorem dX7_layLives_91 : decode cX7_layLives 91 = .ok (.iload_n 2, 1) := by decide +kernel
theorem dX7_layLives_92 : decode cX7_layLives 92 = .ok (.iastore, 1) := by decide +kernel
theorem dX7_layLives_93 : decode cX7_layLives 93 = .ok (.iconst 1, 1) := by decide +kernel
theorem dX7_layLives_94 : decode cX7_layLives 94 = .ok (.istore_n 1, 1) := by decide +kernel
theorem dX7_layLives_95 : decode cX7_layLives 95 = .ok (.iinc 3 1, 3) := by decide +kernel
theorem dX7_layLives_98 : decode cX7_layLives 98 = .ok (.goto (-44), 3) := by decide +kernel
theorem dX7_layLives_101 : decode cX7_layLives 101 = .ok (.iinc 2 1, 3) := by decide +kernel
theorem dX7_layLives_104 : decode cX7_layLives 104 = .ok (.goto (-58), 3) := by decide +kernel
theorem dX7_layLives_107 : decode cX7_layLives 107 = .ok (.return_, 1) := by decide +kernel
def lyS (M N : vM) : Prop := mSame [200, 231] M N ∧ mSlot [31] M N
theorem lyS.x {M N : vM} {E : xE} (h : lyS M N) (hX : rX M E) : rX N E := by
  unfold rX at hX ⊢
  rw [h.2 29 (by decide), h.2 6 (by decide), h.1 229 (by decide), h.1 201 (by decide), h.1 202 (by decide), h.1 203 (by decide)]
  exact hX
theorem l_X7_ly54 {d : List Nat} {T : vT} {M : vM} {E : xE} {r : Nat} {Q : Option vA → vT → vM → Prop} (hB : vB T) (hE : xEok E) (hX : rX M E) (hr : r < 40000)
    (go : ∀ (N : vM) (g : Int) (x3 : Option vA), lyS M N → N 200 31 = M 200 31 → lvR E (N 231) r 32768 g → (g = 0 ∨ g = 1) → vV m_X7_layLives d d Q 101 [some (vR 200), some (vI g), some (vI r), x3] [] d T N) : ∀ c : Nat, c ≤ 32768 → ∀ (N : vM) (g : Int), lyS M N → N 200 31 = M 200 31 → lvR E (N 231) r c g →
    vV m_X7_layLives d d Q 54 [some (vR 200), some (vI g), some (vI r), some (vI c)] [] d T N := by
  refine vUp ?_
  intro c hc ih N g hS h31 hR
  have hXN := hS.x hX
  have hg01 : g = 0 ∨ g = 1 := by rcases hR.2 with ⟨a, -⟩ | ⟨a, -⟩ <;> omega
  refine vV.iload_n dX7_layLives_54 rfl ?_
  refine vV.ldc (v := 32768) dX7_layLives_55 kc_X7_52 (by decide) (by decide) ?_
  refine vV.icmp_ge (tgt := 101) dX7_layLives_57 (by decide) (fun h57 => ?_) (fun h57 => ?_)
  · skip
    rw [show c = 32768 by omega] at hR; exact go N g _ hS h31 hR hg01
  · skip
    obtain ⟨d1, d2⟩ := dR_R (show c < 32768 by omega)
    refine vV.aload_n dX7_layLives_60 rfl ?_
    refine vV.getr dX7_layLives_61 fl_X7_53 (by first | rfl | assumption) rfl (by first | assumption | exact hB _ _ _ rfl) ?_
    refine vV.iload_n dX7_layLives_64 rfl ?_
    refine vV.iald dX7_layLives_65 (by first | rfl | assumption) (by omega) (by omega) ?_
    refine vV.if_ge (tgt := 95) dX7_layLives_66 (by decide) (fun h66 => ?_) (fun h66 => ?_)
    · skip
      have hsk := hR.skip (fun s hs e => Or.inl h66)
      refine vV.iinc (L' := [_, _, _, _]) dX7_layLives_95 (by decide) rfl (⟨by omega, by omega⟩) rfl ?_
      refine vV.goto (tgt := 54) dX7_layLives_98 (by decide) ?_
      first | exact ih (by omega) N g hS h31 hsk | exact ih (by omega) _ 1 ⟨fun k hk => by simp at hk; rw [vUpd_row hk.2]; exact hS.1 k (by simp; omega), fun j hj => by rw [vUpd_nk (by decide)]; exact hS.2 j hj⟩ (by rw [vUpd_nk (by decide)]; exact h31) (by rw [vUpd_r, vRow_s]; exact hput)
    · skip
      refine vV.aload_n dX7_layLives_69 rfl ?_
      refine vV.iload_n dX7_layLives_70 rfl ?_
      refine vV.cVi dX7_layLives_71 ml_X7_260 cw_X7_isState iw_X7_isState (by first | rfl | assumption) rfl (by unfold vRoom; decide) (show vCon m_X7_isState d d [vR 200, vI (c : Nat)] T N (vPi fun r T1 M1 => ((r = 1 ∧ xSt E (dR c)) ∨ (r = 0 ∧ ¬ xSt E (dR c))) ∧ T = T1 ∧ N = M1) from by have h := c_X7_isState (d := d) (T := T) hB hE hXN d1; rw [d2] at h; exact h) rfl rfl (Nat.le_of_ble_eq_true rfl) ?_
      rintro x71 _ _ hx71 ⟨hy71, rfl, rfl⟩
      refine vV.if_eq (tgt := 95) dX7_layLives_74 (by decide) (fun h74 => ?_) (fun h74 => ?_)
      · skip
        have hsk := hR.skip (fun s hs e => absurd (show xSt E (dR c) from by rw [← e, R_dR (hs.ok hE)]; exact hs) (hy71.elim (fun z => by omega) (fun z => z.2)))
        refine vV.iinc (L' := [_, _, _, _]) dX7_layLives_95 (by decide) rfl (⟨by omega, by omega⟩) rfl ?_
        refine vV.goto (tgt := 54) dX7_layLives_98 (by decide) ?_
        first | exact ih (by omega) N g hS h31 hsk | exact ih (by omega) _ 1 ⟨fun k hk => by simp at hk; rw [vUpd_row hk.2]; exact hS.1 k (by simp; omega), fun j hj => by rw [vUpd_nk (by decide)]; exact hS.2 j hj⟩ (by rw [vUpd_nk (by decide)]; exact h31) (by rw [vUpd_r, vRow_s]; exact hput)
      · skip
        have hst : xSt E (dR c) := hy71.elim (fun z => z.2) (fun z => by omega)
        refine vV.aload_n dX7_layLives_77 rfl ?_
        refine vV.iload_n dX7_layLives_78 rfl ?_
        refine vV.iload_n dX7_layLives_79 rfl ?_
        refine vV.cVi dX7_layLives_80 ml_X7_263 cw_X7_endsIn iw_X7_endsIn (by first | rfl | assumption) rfl (by unfold vRoom; decide) (show vCon m_X7_endsIn d d [vR 200, vI (c : Nat), vI r] T N (vPi fun y T1 M1 => ((y = 1 ∧ ¬ xcan E (r + 1) (dR c)) ∨ (y = 0 ∧ xcan E (r + 1) (dR c))) ∧ T = T1 ∧ N = M1) from by have h := c_X7_endsIn (d := d) (T := T) hB hE hXN hst hR.j; rw [d2] at h; exact h) rfl rfl (Nat.le_of_ble_eq_true rfl) ?_
        rintro x80 _ _ hx80 ⟨hy80, rfl, rfl⟩
        refine vV.if_eq (tgt := 95) dX7_layLives_83 (by decide) (fun h83 => ?_) (fun h83 => ?_)
        · skip
          have hsk := hR.skip (fun s hs e => Or.inr (by rw [← R_dR (hs.ok hE), e]; exact hy80.elim (fun z => by omega) (fun z => z.2)))
          refine vV.iinc (L' := [_, _, _, _]) dX7_layLives_95 (by decide) rfl (⟨by omega, by omega⟩) rfl ?_
          refine vV.goto (tgt := 54) dX7_layLives_98 (by decide) ?_
          first | exact ih (by omega) N g hS h31 hsk | exact ih (by omega) _ 1 ⟨fun k hk => by simp at hk; rw [vUpd_row hk.2]; exact hS.1 k (by simp; omega), fun j hj => by rw [vUpd_nk (by decide)]; exact hS.2 j hj⟩ (by rw [vUpd_nk (by decide)]; exact h31) (by rw [vUpd_r, vRow_s]; exact hput)
        · skip
          have hnc : ¬ xcan E (r + 1) (dR c) := hy80.elim (fun z => z.2) (fun z => by omega)
          have hput := lvR_put2 hE hR hst d2 (by omega) hnc
          refine vV.aload_n dX7_layLives_86 rfl ?_
          refine vV.getr dX7_layLives_87 fl_X7_53 (by first | rfl | assumption) rfl (by first | assumption | exact hB _ _ _ rfl) ?_
          refine vV.iload_n dX7_layLives_90 rfl ?_
          refine vV.iload_n dX7_layLives_91 rfl ?_
          refine vV.iast dX7_layLives_92 (by first | rfl | assumption) (by omega) (by omega) ?_
          refine vV.iconst dX7_layLives_93 (by decide) ?_
          refine vV.istore_n (L' := [_, _, _, _]) dX7_layLives_94 (by decide) rfl ?_
          refine vV.iinc (L' := [_, _, _, _]) dX7_layLives_95 (by decide) rfl (⟨by omega, by omega⟩) rfl ?_
          refine vV.goto (tgt := 54) dX7_layLives_98 (by decide) ?_
          first | exact ih (by omega) N g hS h31 hsk | exact ih (by omega) _ 1 ⟨fun k hk => by simp at hk; rw [vUpd_row hk.2]; exact hS.1 k (by simp; omega), fun j hj => by rw [vUpd_nk (by decide)]; exact hS.2 j hj⟩ (by rw [vUpd_nk (by decide)]; exact h31) (by rw [vUpd_r, vRow_s]; exact hput)
theorem ly101 {d : List Nat} {T : vT} {M N : vM} {E : xE} {r : Nat} {g : Int} {x3 : Option vA} (go : g = 1 → vV m_X7_layLives d d (vPv fun T1 M1 => T = T1 ∧ lyS M M1 ∧ M1 200 31 = M 200 31 ∧ lvOk E (M1 231)) 46 [some (vR 200), some (vI 1), some (vI ((r + 1 : Nat) : Int)), x3] [] d T N) (hS : lyS M N) (h31 : N 200 31 = M 200 31) (hE : xEok E) (hR : lvR E (N 231) r 32768 g) (hg : g = 0 ∨ g = 1) (hr : r < 40000) :
    vV m_X7_layLives d d (vPv fun T1 M1 => T = T1 ∧ lyS M M1 ∧ M1 200 31 = M 200 31 ∧ lvOk E (M1 231)) 101 [some (vR 200), some (vI g), some (vI r), x3] [] d T N := by
  rcases hg with rfl | rfl
  · skip
    refine vV.iinc (L' := [_, _, _, _]) dX7_layLives_101 (by decide) rfl (⟨by omega, by omega⟩) rfl ?_
    refine vV.goto (tgt := 46) dX7_layLives_104 (by decide) ?_
    refine vV.iload_n dX7_layLives_46 rfl ?_
    refine vV.if_eq (tgt := 107) dX7_layLives_47 (by decide) (fun h47 => ?_) (fun h47 => ?_)
    · skip
      refine vV.rv dX7_layLives_107 rfl ?_
      exact ⟨rfl, hS, h31, hR.fin hE⟩
    · skip
      omega
  · skip
    refine vV.iinc (L' := [_, _, _, _]) dX7_layLives_101 (by decide) rfl (⟨by omega, by omega⟩) rfl ?_
    refine vV.goto (tgt := 46) dX7_layLives_104 (by decide) ?_
    exact go rfl
theorem l_X7_ly46 {d : List Nat} {T : vT} {M : vM} {E : xE} (hB : vB T) (hE : xEok E) (hX : rX M E) : ∀ (f r : Nat), r + f = 32769 → ∀ (N : vM) (x3 : Option vA), lyS M N → N 200 31 = M 200 31 → lvR E (N 231) r 0 0 →
    vV m_X7_layLives d d (vPv fun T1 M1 => T = T1 ∧ lyS M M1 ∧ M1 200 31 = M 200 31 ∧ lvOk E (M1 231)) 46 [some (vR 200), some (vI 1), some (vI r), x3] [] d T N := by
  intro f
  induction f with
  | zero =>
    intro r hf N x3 hS h31 hR
    refine vV.iload_n dX7_layLives_46 rfl ?_
    refine vV.if_eq (tgt := 107) dX7_layLives_47 (by decide) (fun h47 => ?_) (fun h47 => ?_)
    · skip
      omega
    · skip
      refine vV.iconst dX7_layLives_50 (by decide) ?_
      refine vV.istore_n (L' := [_, _, _, _]) dX7_layLives_51 (by decide) rfl ?_
      refine vV.iconst dX7_layLives_52 (by decide) ?_
      refine vV.istore_n (L' := [_, _, _, _]) dX7_layLives_53 (by decide) rfl ?_
      exact l_X7_ly54 hB hE hX (by omega) (fun N g x3 hS h31 hR hg => ly101 (fun hg1 => absurd hg1 (fun hg1 => by subst hg1; obtain ⟨s, s1, s2⟩ := hR.2.resolve_left (fun z => by omega) |>.2; have := xL_lt hE s1 s2; omega)) hS h31 hE hR hg (by omega)) 0 (by omega) N 0 hS h31 hR
  | succ f ih =>
    intro r hf N x3 hS h31 hR
    refine vV.iload_n dX7_layLives_46 rfl ?_
    refine vV.if_eq (tgt := 107) dX7_layLives_47 (by decide) (fun h47 => ?_) (fun h47 => ?_)
    · skip
      omega
    · skip
      refine vV.iconst dX7_layLives_50 (by decide) ?_
      refine vV.istore_n (L' := [_, _, _, _]) dX7_layLives_51 (by decide) rfl ?_
      refine vV.iconst dX7_layLives_52 (by decide) ?_
      refine vV.istore_n (L' := [_, _, _, _]) dX7_layLives_53 (by decide) rfl ?_
      exact l_X7_ly54 hB hE hX (by omega) (fun N g x3 hS h31 hR hg => ly101 (fun hg1 => ih (r + 1) (by omega) N x3 hS h31 (hR.nx hE)) hS h31 hE hR hg (by omega)) 0 (by omega) N 0 hS h31 hR
theorem l_X7_ly22 {d : List Nat} {T : vT} {M : vM} {Q : Option vA → vT → vM → Prop} (hB : vB T) (go : ∀ x1 x2 x3, vV m_X7_layLives d d Q 42 [some (vR 200), x1, x2, x3] [] d T (vRow M 231 (pMix 32768 (fun _ => -6) (M 231)))) : ∀ c : Nat, c ≤ 32768 → ∀ x2 x3,
    vV m_X7_layLives d d Q 22 [some (vR 200), some (vI c), x2, x3] [] d T (vRow M 231 (pMix c (fun _ => -6) (M 231))) := by
  refine vUp ?_
  intro c hc ih x2 x3
  have e : vUpd (vRow M 231 (pMix c (fun _ => -6) (M 231))) 231 c (-6) = vRow M 231 (pMix (c + 1) (fun _ => -6) (M 231)) := by rw [vUpd_vRow, ← pMix_s]
  refine vV.iload_n dX7_layLives_22 rfl ?_
  refine vV.ldc (v := 32768) dX7_layLives_23 kc_X7_52 (by decide) (by decide) ?_
  refine vV.icmp_ge (tgt := 42) dX7_layLives_25 (by decide) (fun h25 => ?_) (fun h25 => ?_)
  · skip
    rw [show c = 32768 by omega]; exact go _ _ _
  · skip
    refine vV.aload_n dX7_layLives_28 rfl ?_
    refine vV.getr dX7_layLives_29 fl_X7_53 (by first | rfl | assumption) rfl (by first | assumption | exact hB _ _ _ rfl) ?_
    refine vV.iload_n dX7_layLives_32 rfl ?_
    refine vV.bipush (v := (-6)) dX7_layLives_33 (by decide) (by decide) ?_
    refine vV.iast dX7_layLives_35 (by first | rfl | assumption) (by omega) (by omega) ?_
    rw [e]
    refine vV.iinc (L' := [_, _, _, _]) dX7_layLives_36 (by decide) rfl (⟨by omega, by omega⟩) rfl ?_
    refine vV.goto (tgt := 22) dX7_layLives_39 (by decide) ?_
    exact ih (by omega) _ _
/-- the table is laid for the plates that stand -/
def lvC (M : vM) (n : Nat) : Prop := M 200 31 = -6 ∨ ∃ tu : Int → Int, M 200 31 = pBits tu n ∧ (1 ≤ exc tu n ∧ exc tu n ≤ 3) ∧ lvOk (xEof n (M 201) (M 202) (M 203) tu (M 200 6)) (M 231)
theorem exi_cg {tu tu' : Int → Int} : ∀ {n : Nat}, (∀ j : Nat, j < n → (0 < tu j ↔ 0 < tu' j)) → exc tu n = exc tu' n ∧ ∀ k, exi tu n k = exi tu' n k
  | 0, _ => ⟨rfl, fun _ => rfl⟩
  | n + 1, h => by
    obtain ⟨a, b⟩ := exi_cg (n := n) (fun j hj => h j (by omega))
    have hL : ∀ m, (∀ j : Nat, j < m → (0 < tu j ↔ 0 < tu' j)) → exL tu m = exL tu' m := fun m => by
      induction m with
      | zero => intro _; rfl
      | succ m ih =>
        intro hm
        have e := ih (fun j hj => hm j (by omega))
        unfold exL
        by_cases ht : 0 < tu m
        · rw [if_pos ht, if_pos ((hm m (by omega)).mp ht), e]
        · rw [if_neg ht, if_neg (fun z => ht ((hm m (by omega)).mpr z)), e]
    have e := hL (n + 1) h
    exact ⟨by rw [← exL_len, ← exL_len, e], fun k => by unfold exi; rw [e]⟩
theorem bits_cg {tu tu' : Int → Int} {n : Nat} (h : pBits tu n = pBits tu' n) (j : Nat) (hj : j < n) : 0 < tu j ↔ 0 < tu' j := by
  rw [pbN_e, pbN_e] at h
  have e : pbN tu n = pbN tu' n := by omega
  have h1 := pbN_bit tu n j
  rw [e, pbN_bit, decide_eq_true hj, Bool.true_and, Bool.true_and] at h1
  exact (decide_eq_decide.mp h1).symm
theorem xEof_cg {n : Nat} {pl fu fa tu tu' : Int → Int} {gi : Int} (h : pBits tu n = pBits tu' n) : xEof n pl fu fa tu gi = xEof n pl fu fa tu' gi := by
  obtain ⟨a, b⟩ := exi_cg (bits_cg h)
  unfold xEof
  rw [a, show exi tu n = exi tu' n from funext b]
theorem c_X7_layLives {d : List Nat} {T : vT} {M : vM} {n : Nat} (hB : vB T) (hc : M 200 4 = n) (hn : n ≤ 6) (hE : xEok (xEr M n)) (hX : rX M (xEr M n)) (hC : lvC M n) (hok : 1 ≤ exc (M 204) n ∧ exc (M 204) n ≤ 3) : vCon m_X7_layLives d d [vR 200] T M (vPv fun T1 M1 => T = T1 ∧ lyS M M1 ∧ lvC M1 n ∧ lvOk (xEr M n) (M1 231)) := by
  have hb0 := (pBits_rg (M 204) n).1
  refine vCon.of (by decide) rfl rfl (Nat.le_of_ble_eq_true rfl) ?_
  refine vV.aload_n dX7_layLives_0 rfl ?_
  refine vV.geti (z := 31) dX7_layLives_1 fl_X7_56 (by first | rfl | assumption) rfl rfl ?_
  refine vV.aload_n dX7_layLives_4 rfl ?_
  refine vV.cVi dX7_layLives_5 ml_X7_186 cw_X7_standing iw_X7_standing (by first | rfl | assumption) rfl (by unfold vRoom; decide) (c_X7_standing hB hc hn) rfl rfl (Nat.le_of_ble_eq_true rfl) ?_
  rintro xs _ _ hxs ⟨rfl, rfl, rfl⟩
  refine vV.icmp_ne (tgt := 12) dX7_layLives_8 (by decide) (fun h8 => ?_) (fun h8 => ?_)
  · skip
    refine vV.aload_n dX7_layLives_12 rfl ?_
    refine vV.aload_n dX7_layLives_13 rfl ?_
    refine vV.cVi dX7_layLives_14 ml_X7_186 cw_X7_standing iw_X7_standing (by first | rfl | assumption) rfl (by unfold vRoom; decide) (c_X7_standing hB hc hn) rfl rfl (Nat.le_of_ble_eq_true rfl) ?_
    rintro xs _ _ hxs ⟨rfl, rfl, rfl⟩
    refine vV.puti (z := 31) dX7_layLives_17 fl_X7_56 (by first | rfl | assumption) rfl rfl ?_
    refine vV.iconst dX7_layLives_20 (by decide) ?_
    refine vV.istore_n (L' := [_, _, _, _]) dX7_layLives_21 (by decide) rfl ?_
    have hX2 : rX (vUpd M 200 31 (pBits (M 204) n)) (xEr M n) := by
      unfold rX at hX ⊢
      rw [vUpd_ni (by decide), vUpd_ni (by decide), vUpd_row (show (229 : Nat) ≠ 200 by decide), vUpd_row (show (201 : Nat) ≠ 200 by decide), vUpd_row (show (202 : Nat) ≠ 200 by decide), vUpd_row (show (203 : Nat) ≠ 200 by decide)]
      exact hX
    obtain ⟨N, hN⟩ : ∃ N, N = vUpd M 200 31 (pBits (M 204) n) := ⟨_, rfl⟩
    rw [← hN] at hX2 ⊢
    have hN31 : N 200 31 = pBits (M 204) n := by rw [hN, vUpd_s]
    have hNM : lyS M N := ⟨fun k hk => by simp at hk; rw [hN, vUpd_row hk.1], fun j hj => by simp at hj; rw [hN, vUpd_ni hj]⟩
    clear hN
    have h := fun x2 x3 => l_X7_ly22 (d := d) (T := T) (M := N) (Q := vPv fun T1 M1 => T = T1 ∧ lyS M M1 ∧ lvC M1 n ∧ lvOk (xEr M n) (M1 231)) hB (fun x1 x2 x3 => ?_) 0 (by omega) x2 x3
    rw [pMix_0, vRow_id] at h
    · exact h _ _
    · have hz : ∀ s, xSt (xEr M n) s → (vRow N 231 (pMix 32768 (fun _ => -6) (N 231))) 231 (enR s : Nat) = -6 := fun s hs => by rw [vRow_s, pMix_lt (enR_lt (hs.ok hE))]
      refine vV.iconst dX7_layLives_42 (by decide) ?_
      refine vV.istore_n (L' := [_, _, _, _]) dX7_layLives_43 (by decide) rfl ?_
      refine vV.iconst dX7_layLives_44 (by decide) ?_
      refine vV.istore_n (L' := [_, _, _, _]) dX7_layLives_45 (by decide) rfl ?_
      refine vV.imp (l_X7_ly46 hB hE hX2 32769 0 rfl (vRow N 231 (pMix 32768 (fun _ => -6) (N 231))) _ ⟨fun k hk => by simp at hk; rw [vRow_n hk.2], fun j hj => by rw [vRow_n (by decide)]⟩ (by rw [vRow_n (by decide)]) ⟨fun s hs => ⟨fun z => by omega, fun _ => Or.inl ⟨hz s hs, trivial⟩⟩, Or.inl ⟨rfl, fun s hs z => by omega⟩⟩) ?_
      rintro y T1 M1 ⟨y1, y2, y3, y4, y5⟩
      have hM1 : lyS M M1 := ⟨fun k hk => (y3.1 k hk).trans (hNM.1 k hk), fun j hj => (y3.2 j hj).trans (hNM.2 j hj)⟩
      refine ⟨y1, y2, hM1, Or.inr ⟨M 204, by rw [y4, hN31], hok, ?_⟩, y5⟩
      rw [hM1.1 201 (by decide), hM1.1 202 (by decide), hM1.1 203 (by decide), hM1.2 6 (by decide)]
      exact y5
  · skip
    refine vV.rv dX7_layLives_11 rfl ?_
    exact ⟨rfl, ⟨fun _ _ => rfl, fun _ _ => rfl⟩, hC, hC.elim (fun z => by omega) (fun ⟨tu, t1, t2, t3⟩ => by unfold xEr; rw [← xEof_cg (t1.symm.trans h8)]; exact t3)⟩
