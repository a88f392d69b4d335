/-! ===== own: AllWays.mostWorth: the walk ===== -/
theorem xW_le {E : xE} {s0 : xS} (hE : xEok E) : ∀ {j : Nat} {s : xS} {w : Nat}, xW E s0 j s w → w ≤ 12 * j + 3
  | 0, s, w, h => by rw [h.2]; omega
  | j + 1, s, w, ⟨s', w', t, h1, h2, h3, h4⟩ => by
    have h5 := xW_le hE h2
    have h6 := xga_le hE s
    by_cases hj : j = 0
    · subst hj; rw [if_pos rfl] at h4; have := h2.2; omega
    · rw [if_neg hj] at h4; omega
/-- the row a holds what he can come to behind j ticks, each with its best worth -/
def gsI (E : xE) (s0 : xS) (R : Int → Int) (j sz : Nat) (L : Nat → xS) (W : Nat → Nat) : Prop := sz ≤ 32768 ∧ (∀ i, i < sz → xSt E (L i) ∧ R i = ((W i * 32768 + enC (L i) : Nat) : Int) ∧ xW E s0 j (L i) (W i)) ∧ ∀ s w, xW E s0 j s w → ∃ i, i < sz ∧ L i = s ∧ w ≤ W i
def gsF (j t : Nat) : Nat := if j = 0 then 3 - t else 0
/-- the row b holds what the first i of them lead to, and the first t things of the next -/
def gtI (E : xE) (s0 : xS) (N : vM) (b j : Nat) (L : Nat → xS) (W : Nat → Nat) (fl : Nat) (L' : Nat → xS) (W' : Nat → Nat) (i t : Nat) : Prop := gkI E N b fl L' W' ∧ (∀ k, k < fl → xW E s0 (j + 1) (L' k) (W' k)) ∧ ∀ (i' t' : Nat) (s2 : xS), (i' < i ∧ t' < 4 ∨ i' = i ∧ t' < t) → xn E t' (L i') = some s2 → ∃ k, k < fl ∧ L' k = s2 ∧ W i' + gsF j t' + 4 * xga E s2 ≤ W' k
theorem gtI.put {E : xE} {s0 : xS} {N N' : vM} {b j : Nat} {L : Nat → xS} {W : Nat → Nat} {fl fl' : Nat} {L' L2 : Nat → xS} {W' W2 : Nat → Nat} {i t : Nat} {s2 : xS} (h : gtI E s0 N b j L W fl L' W' i t) (ht : t < 4) (hx : xW E s0 j (L i) (W i)) (hn : xn E (t : Int) (L i) = some s2) (hI : gkI E N' b fl' L2 W2) (hp : gkP fl L' W' fl' L2 W2 s2 (W i + gsF j t + 4 * xga E s2)) : gtI E s0 N' b j L W fl' L2 W2 i (t + 1) := by
  obtain ⟨a1, a2, a3⟩ := h
  obtain ⟨p1, p2, p3, p4⟩ := hp
  refine ⟨hI, fun k hk => ?_, fun i' t' s3 hc hn3 => ?_⟩
  · rcases p4 k hk with ⟨z1, z2⟩ | ⟨z1, z2⟩
    · rw [(p2 k z1).1, z2]; exact a2 k z1
    · rw [z1, z2]; exact ⟨L i, W i, t, ht, hx, hn, rfl⟩
  · by_cases hold : i' < i ∧ t' < 4 ∨ i' = i ∧ t' < t
    · obtain ⟨k, k1, k2, k3⟩ := a3 i' t' s3 hold hn3
      exact ⟨k, by omega, by rw [(p2 k k1).1]; exact k2, by have := (p2 k k1).2; omega⟩
    · have e1 : i' = i := by omega
      have e2 : t' = t := by omega
      subst e1; subst e2
      rw [hn] at hn3; cases hn3
      exact p3
theorem gtI.nil {E : xE} {s0 : xS} {N : vM} {b j : Nat} {L : Nat → xS} {W : Nat → Nat} {fl : Nat} {L' : Nat → xS} {W' : Nat → Nat} {i t : Nat} (h : gtI E s0 N b j L W fl L' W' i t) (hn : xn E (t : Int) (L i) = none) : gtI E s0 N b j L W fl L' W' i (t + 1) := by
  obtain ⟨a1, a2, a3⟩ := h
  refine ⟨a1, a2, fun i' t' s3 hc hn3 => ?_⟩
  by_cases hold : i' < i ∧ t' < 4 ∨ i' = i ∧ t' < t
  · exact a3 i' t' s3 hold hn3
  · have e1 : i' = i := by omega
    have e2 : t' = t := by omega
    subst e1; subst e2
    rw [hn] at hn3; cases hn3
theorem gtI.up {E : xE} {s0 : xS} {N : vM} {b j : Nat} {L : Nat → xS} {W : Nat → Nat} {fl : Nat} {L' : Nat → xS} {W' : Nat → Nat} {i : Nat} (h : gtI E s0 N b j L W fl L' W' i 4) : gtI E s0 N b j L W fl L' W' (i + 1) 0 := by
  obtain ⟨a1, a2, a3⟩ := h
  exact ⟨a1, a2, fun i' t' s3 hc hn3 => a3 i' t' s3 (by omega) hn3⟩
theorem gtI.fin {E : xE} {s0 : xS} {N : vM} {b j sz : Nat} {L : Nat → xS} {W : Nat → Nat} {fl : Nat} {L' : Nat → xS} {W' : Nat → Nat} {R : Int → Int} (hE : xEok E) (hg : gsI E s0 R j sz L W) (h : gtI E s0 N b j L W fl L' W' sz 0) : gsI E s0 (N b) (j + 1) fl L' W' := by
  obtain ⟨a1, a2, a3⟩ := h
  refine ⟨a1.le hE, fun i hi => ⟨(a1.2.1 i hi).1, (a1.2.1 i hi).2.1, a2 i hi⟩, fun s w ⟨s', w', t, h1, h2, h3, h4⟩ => ?_⟩
  obtain ⟨i, i1, i2, i3⟩ := hg.2.2 s' w' h2
  rw [← i2] at h3
  obtain ⟨k, k1, k2, k3⟩ := a3 i t s (Or.inl ⟨i1, h1⟩) h3
  refine ⟨k, k1, k2, ?_⟩
  unfold gsF at k3
  omega
theorem dX0_mostWorth_0 : decode cX0_mostWorth 0 = .ok (.aload_n 0, 1) := by decide +kernel
theorem dX0_mostWorth_1 : decode cX0_mostWorth 1 = .ok (.getfield 68, 3) := by decide +kernel
theorem dX0_mostWorth_4 : decode cX0_mostWorth 4 = .ok (.astore_n 3, 1) := by decide +kernel
theorem dX0_mostWorth_5 : decode cX0_mostWorth 5 = .ok (.aload_n 0, 1) := by decide +kernel
theorem dX0_mostWorth_6 : decode cX0_mostWorth 6 = .ok (.getfield 71, 3) := by decide +kernel
theorem dX0_mostWorth_9 : decode cX0_mostWorth 9 = .ok (.astore 4, 2) := by decide +kernel
theorem dX0_mostWorth_11 : decode cX0_mostWorth 11 = .ok (.aload_n 3, 1) := by decide +kernel
theorem dX0_mostWorth_12 : decode cX0_mostWorth 12 = .ok (.iconst 0, 1) := by decide +kernel
theorem dX0_mostWorth_13 : decode cX0_mostWorth 13 = .ok (.iload_n 1, 1) := by decide +kernel
theorem dX0_mostWorth_14 : decode cX0_mostWorth 14 = .ok (.iastore, 1) := by decide +kernel
theorem dX0_mostWorth_15 : decode cX0_mostWorth 15 = .ok (.iconst 1, 1) := by decide +kernel
theorem dX0_mostWorth_16 : decode cX0_mostWorth 16 = .ok (.istore 5, 2) := by decide +kernel
theorem dX0_mostWorth_18 : decode cX0_mostWorth 18 = .ok (.iconst 0, 1) := by decide +kernel
theorem dX0_mostWorth_19 : decode cX0_mostWorth 19 = .ok (.istore 6, 2) := by decide +kernel
theorem dX0_mostWorth_21 : decode cX0_mostWorth 21 = .ok (.iload 6, 2) := by decide +kernel
theorem dX0_mostWorth_23 : decode cX0_mostWorth 23 = .ok (.iload_n 2, 1) := by decide +kernel
theorem dX0_mostWorth_24 : decode cX0_mostWorth 24 = .ok (.if_icmp .ge 136, 3) := by decide +kernel
theorem dX0_mostWorth_27 : decode cX0_mostWorth 27 = .ok (.aload_n 0, 1) := by decide +kernel
theorem dX0_mostWorth_28 : decode cX0_mostWorth 28 = .ok (.invokevirtual 113, 3) := by decide +kernel
theorem dX0_mostWorth_31 : decode cX0_mostWorth 31 = .ok (.iconst 0, 1) := by decide +kernel
theorem dX0_mostWorth_32 : decode cX0_mostWorth 32 = .ok (.istore 7, 2) := by decide +kernel
theorem dX0_mostWorth_34 : decode cX0_mostWorth 34 = .ok (.iconst 0, 1) := by decide +kernel
theorem dX0_mostWorth_35 : decode cX0_mostWorth 35 = .ok (.istore 8, 2) := by decide +kernel
theorem dX0_mostWorth_37 : decode cX0_mostWorth 37 = .ok (.iload 8, 2) := by decide +kernel
theorem dX0_mostWorth_39 : decode cX0_mostWorth 39 = .ok (.iload 5, 2) := by decide +kernel
theorem dX0_mostWorth_41 : decode cX0_mostWorth 41 = .ok (.if_icmp .ge 99, 3) := by decide +kernel
theorem dX0_mostWorth_44 : decode cX0_mostWorth 44 = .ok (.aload_n 3, 1) := by decide +kernel
theorem dX0_mostWorth_45 : decode cX0_mostWorth 45 = .ok (.iload 8, 2) := by decide +kernel
theorem dX0_mostWorth_47 : decode cX0_mostWorth 47 = .ok (.iaload, 1) := by decide +kernel
theorem dX0_mostWorth_48 : decode cX0_mostWorth 48 = .ok (.sipush 32767, 3) := by decide +kernel
theorem dX0_mostWorth_51 : decode cX0_mostWorth 51 = .ok (.iand, 1) := by decide +kernel
theorem dX0_mostWorth_52 : decode cX0_mostWorth 52 = .ok (.istore 9, 2) := by decide +kernel
theorem dX0_mostWorth_54 : decode cX0_mostWorth 54 = .ok (.aload_n 3, 1) := by decide +kernel
theorem dX0_mostWorth_55 : decode cX0_mostWorth 55 = .ok (.iload 8, 2) := by decide +kernel
theorem dX0_mostWorth_57 : decode cX0_mostWorth 57 = .ok (.iaload, 1) := by decide +kernel
theorem dX0_mostWorth_58 : decode cX0_mostWorth 58 = .ok (.ldc 67, 2) := by decide +kernel
theorem dX0_mostWorth_60 : decode cX0_mostWorth 60 = .ok (.idiv, 1) := by decide +kernel
theorem dX0_mostWorth_61 : decode cX0_mostWorth 61 = .ok (.istore 10, 2) := by decide +kernel
theorem dX0_mostWorth_63 : decode cX0_mostWorth 63 = .ok (.iconst 0, 1) := by decide +kernel
theorem dX0_mostWorth_64 : decode cX0_mostWorth 64 = .ok (.istore 11, 2) := by decide +kernel
theorem dX0_mostWorth_66 : decode cX0_mostWorth 66 = .ok (.iload 11, 2) := by decide +kernel
theorem dX0_mostWorth_68 : decode cX0_mostWorth 68 = .ok (.iconst 3, 1) := by decide +kernel
theorem dX0_mostWorth_69 : decode cX0_mostWorth 69 = .ok (.if_icmp .gt 65, 3) := by decide +kernel
theorem dX0_mostWorth_72 : decode cX0_mostWorth 72 = .ok (.aload_n 0, 1) := by decide +kernel
theorem dX0_mostWorth_73 : decode cX0_mostWorth 73 = .ok (.iload 9, 2) := by decide +kernel
theorem dX0_mostWorth_75 : decode cX0_mostWorth 75 = .ok (.iload 11, 2) := by decide +kernel
theorem dX0_mostWorth_77 : decode cX0_mostWorth 77 = .ok (.invokevirtual 101, 3) := by decide +kernel
theorem dX0_mostWorth_80 : decode cX0_mostWorth 80 = .ok (.istore 12, 2) := by decide +kernel
theorem dX0_mostWorth_82 : decode cX0_mostWorth 82 = .ok (.iload 12, 2) := by decide +kernel
theorem dX0_mostWorth_84 : decode cX0_mostWorth 84 = .ok (.ifCond .lt 44, 3) := by decide +kernel
theorem dX0_mostWorth_87 : decode cX0_mostWorth 87 = .ok (.iload 6, 2) := by decide +kernel
theorem dX0_mostWorth_89 : decode cX0_mostWorth 89 = .ok (.ifCond .ne 10, 3) := by decide +kernel
theorem dX0_mostWorth_92 : decode cX0_mostWorth 92 = .ok (.iconst 3, 1) := by decide +kernel
theorem dX0_mostWorth_93 : decode cX0_mostWorth 93 = .ok (.iload 11, 2) := by decide +kernel
theorem dX0_mostWorth_95 : decode cX0_mostWorth 95 = .ok (.isub, 1) := by decide +kernel
theorem dX0_mostWorth_96 : decode cX0_mostWorth 96 = .ok (.goto 4, 3) := by decide +kernel
theorem dX0_mostWorth_99 : decode cX0_mostWorth 99 = .ok (.iconst 0, 1) := by decide +kernel
theorem dX0_mostWorth_100 : decode cX0_mostWorth 100 = .ok (.istore 13, 2) := by decide +kernel
theorem dX0_mostWorth_102 : decode cX0_mostWorth 102 = .ok (.aload_n 0, 1) := by decide +kernel
theorem dX0_mostWorth_103 : decode cX0_mostWorth 103 = .ok (.aload 4, 2) := by decide +kernel
theorem dX0_mostWorth_105 : decode cX0_mostWorth 105 = .ok (.iload 7, 2) := by decide +kernel
theorem dX0_mostWorth_107 : decode cX0_mostWorth 107 = .ok (.iload 12, 2) := by decide +kernel
theorem dX0_mostWorth_109 : decode cX0_mostWorth 109 = .ok (.iload 10, 2) := by decide +kernel
theorem dX0_mostWorth_111 : decode cX0_mostWorth 111 = .ok (.iload 13, 2) := by decide +kernel
theorem dX0_mostWorth_113 : decode cX0_mostWorth 113 = .ok (.iadd, 1) := by decide +kernel
theorem dX0_mostWorth_114 : decode cX0_mostWorth 114 = .ok (.iconst 4, 1) := by decide +kernel
theorem dX0_mostWorth_115 : decode cX0_mostWorth 115 = .ok (.aload_n 0, 1) := by decide +kernel
theorem dX0_mostWorth_116 : decode cX0_mostWorth 116 = .ok (.iload 12, 2) := by decide +kernel
theorem dX0_mostWorth_118 : decode cX0_mostWorth 118 = .ok (.invokevirtual 126, 3) := by decide +kernel
theorem dX0_mostWorth_121 : decode cX0_mostWorth 121 = .ok (.imul, 1) := by decide +kernel
theorem dX0_mostWorth_122 : decode cX0_mostWorth 122 = .ok (.iadd, 1) := by decide +kernel
theorem dX0_mostWorth_123 : decode cX0_mostWorth 123 = .ok (.invokevirtual 129, 3) := by decide +kernel
theorem dX0_mostWorth_126 : decode cX0_mostWorth 126 = .ok (.istore 7, 2) := by decide +kernel
theorem dX0_mostWorth_128 : decode cX0_mostWorth 128 = .ok (.iinc 11 1, 3) := by decide +kernel
theorem dX0_mostWorth_131 : decode cX0_mostWorth 131 = .ok (.goto (-65), 3) := by decide +kernel
theorem dX0_mostWorth_134 : decode cX0_mostWorth 134 = .ok (.iinc 8 1, 3) := by decide +kernel
theorem dX0_mostWorth_137 : decode cX0_mostWorth 137 = .ok (.goto (-100), 3) := by decide +kernel
theorem dX0_mostWorth_140 : decode cX0_mostWorth 140 = .ok (.aload_n 3, 1) := by decide +kernel
theorem dX0_mostWorth_141 : decode cX0_mostWorth 141 = .ok (.astore 8, 2) := by decide +kernel
theorem dX0_mostWorth_143 : decode cX0_mostWorth 143 = .ok (.aload 4, 2) := by decide +kernel
theorem dX0_mostWorth_145 : decode cX0_mostWorth 145 = .ok (.astore_n 3, 1) := by decide +kernel
theorem dX0_mostWorth_146 : decode cX0_mostWorth 146 = .ok (.aload 8, 2) := by decide +kernel
theorem dX0_mostWorth_148 : decode cX0_mostWorth 148 = .ok (.astore 4, 2) := by decide +kernel
theorem dX0_mostWorth_150 : decode cX0_mostWorth 150 = .ok (.iload 7, 2) := by decide +kernel
theorem dX0_mostWorth_152 : decode cX0_mostWorth 152 = .ok (.istore 5, 2) := by decide +kernel
theorem dX0_mostWorth_154 : decode cX0_mostWorth 154 = .ok (.iinc 6 1, 3) := by decide +kernel
theorem dX0_mostWorth_157 : decode cX0_mostWorth 157 = .ok (.goto (-136), 3) := by decide +kernel
theorem dX0_mostWorth_160 : decode cX0_mostWorth 160 = .ok (.iconst (-1), 1) := by decide +kernel
theorem dX0_mostWorth_161 : decode cX0_mostWorth 161 = .ok (.istore 6, 2) := by decide +kernel
theorem dX0_mostWorth_163 : decode cX0_mostWorth 163 = .ok (.iconst 0, 1) := by decide +kernel
theorem dX0_mostWorth_164 : decode cX0_mostWorth 164 = .ok (.istore 7, 2) := by decide +kernel
theorem dX0_mostWorth_166 : decode cX0_mostWorth 166 = .ok (.iload 7, 2) := by decide +kernel
theorem dX0_mostWorth_168 : decode cX0_mostWorth 168 = .ok (.iload 5, 2) := by decide +kernel
theorem dX0_mostWorth_170 : decode cX0_mostWorth 170 = .ok (.if_icmp .ge 23, 3) := by decide +kernel
theorem dX0_mostWorth_173 : decode cX0_mostWorth 173 = .ok (.iload 6, 2) := by decide +kernel
theorem dX0_mostWorth_175 : decode cX0_mostWorth 175 = .ok (.aload_n 3, 1) := by decide +kernel
theorem dX0_mostWorth_176 : decode cX0_mostWorth 176 = .ok (.iload 7, 2) := by decide +kernel
theorem dX0_mostWorth_178 : decode cX0_mostWorth 178 = .ok (.iaload, 1) := by decide +kernel
theorem dX0_mostWorth_179 : decode cX0_mostWorth 179 = .ok (.ldc 67, 2) := by decide +kernel
theorem dX0_mostWorth_181 : decode cX0_mostWorth 181 = .ok (.idiv, 1) := by decide +kernel
theorem dX0_mostWorth_182 : decode cX0_mostWorth 182 = .ok (.invokestatic 133, 3) := by decide +kernel
theorem dX0_mostWorth_185 : decode cX0_mostWorth 185 = .ok (.istore 6, 2) := by decide +kernel
theorem dX0_mostWorth_187 : decode cX0_mostWorth 187 = .ok (.iinc 7 1, 3) := by decide +kernel
theorem dX0_mostWorth_190 : decode cX0_mostWorth 190 = .ok (.goto (-24), 3) := by decide +kernel
theorem dX0_mostWorth_193 : decode cX0_mostWorth 193 = .ok (.iload 6, 2) := by decide +kernel
theorem dX0_mostWorth_195 : decode cX0_mostWorth 195 = .ok (.ireturn, 1) := by decide +kernel
theorem dig15 {w p : Nat} (hw : w ≤ 400) (hp : p < 32768) : vAnd ((w * 32768 + p : Nat) : Int) 32767 = (p : Nat) ∧ Int.tdiv ((w * 32768 + p : Nat) : Int) 32768 = (w : Nat) := by
  constructor
  · rw [show (32767 : Int) = ((2 ^ 15 - 1 : Nat) : Int) from rfl, vAnd_nat 15 (by decide) (by omega)]; congr 1; omega
  · rw [show (32768 : Int) = ((32768 : Nat) : Int) from rfl, td_nat]; congr 1; omega
theorem l_X0_mw66 {d : List Nat} {T : vT} {M : vM} {E : xE} {s0 : xS} {a b j sz i : Nat} {n : Int} {L : Nat → xS} {W : Nat → Nat} {R : Int → Int} (hB : vB T) (hA : awT T) (hE : xEok E) (hC : xC M E) (hb : b = 107 ∨ b = 108) (hab : a ≠ b) (ha : a = 107 ∨ a = 108) (hj : j < 30) (hg : gsI E s0 R j sz L W) (hi : i < sz)
    (go : ∀ (N : vM) (fl : Nat) (L' : Nat → xS) (W' : Nat → Nat) (x9 x10 x11 x12 x13 : Option vA), awS M N → N a = R → gtI E s0 N b j L W fl L' W' (i + 1) 0 → vV m_X0_mostWorth d d (vPi fun r T1 M1 => T = T1 ∧ awS M M1 ∧ awM M1 ∧ gpQ E s0 n.toNat r) 37 [some (vR 100), some (vI (enC s0 : Nat)), some (vI n), some (vR a), some (vR b), some (vI sz), some (vI j), some (vI fl), some (vI ((i + 1 : Nat) : Int)), x9, x10, x11, x12, x13] [] d T N) : ∀ t : Nat, t ≤ 4 → ∀ (N : vM) (fl : Nat) (L' : Nat → xS) (W' : Nat → Nat) (x12 x13 : Option vA), awS M N → N a = R → gtI E s0 N b j L W fl L' W' i t →
    vV m_X0_mostWorth d d (vPi fun r T1 M1 => T = T1 ∧ awS M M1 ∧ awM M1 ∧ gpQ E s0 n.toNat r) 66 [some (vR 100), some (vI (enC s0 : Nat)), some (vI n), some (vR a), some (vR b), some (vI sz), some (vI j), some (vI fl), some (vI i), some (vI (enC (L i) : Nat)), some (vI (W i : Nat)), some (vI t), x12, x13] [] d T N := by
  have hsz := hg.1
  obtain ⟨l1, l2, l3⟩ := hg.2.1 i hi
  have hWi := xW_le hE l3
  refine vUp ?_
  intro t ht ih N fl L' W' x12 x13 hS hR hI
  have hCN := hS.c hC
  have hfl := hI.1.le hE
  have hkeep : ∀ (s2 : xS) (x12 x13 : Option vA) (f : Int), f = (gsF j t : Nat) → t < 4 → xn E (t : Int) (L i) = some s2 → xSt E s2 →
      vV m_X0_mostWorth d d (vPi fun r T1 M1 => T = T1 ∧ awS M M1 ∧ awM M1 ∧ gpQ E s0 n.toNat r) 100 [some (vR 100), some (vI (enC s0 : Nat)), some (vI n), some (vR a), some (vR b), some (vI sz), some (vI j), some (vI fl), some (vI i), some (vI (enC (L i) : Nat)), some (vI (W i : Nat)), some (vI t), some (vI (enC s2 : Nat)), x13] [vI f] d T N := by
    intro s2 x12 x13 f hf ht4 hn hs2
    subst hf
    have hgl := xga_le hE s2
    have hfl3 : gsF j t ≤ 3 := by unfold gsF; split <;> omega
    refine vV.istore (L' := [_, _, _, _, _, _, _, _, _, _, _, _, _, _]) dX0_mostWorth_100 (by decide) rfl ?_
    refine vV.aload_n dX0_mostWorth_102 rfl ?_
    refine vV.aload dX0_mostWorth_103 rfl ?_
    refine vV.iload dX0_mostWorth_105 rfl ?_
    refine vV.iload dX0_mostWorth_107 rfl ?_
    refine vV.iload dX0_mostWorth_109 rfl ?_
    refine vV.iload dX0_mostWorth_111 rfl ?_
    refine vV.iadd dX0_mostWorth_113 (⟨by omega, by omega⟩) ?_
    refine vV.iconst dX0_mostWorth_114 (by decide) ?_
    refine vV.aload_n dX0_mostWorth_115 rfl ?_
    refine vV.iload dX0_mostWorth_116 rfl ?_
    refine vV.cVi dX0_mostWorth_118 ml_X0_126 cw_X0_gaspsAt iw_X0_gaspsAt (by first | rfl | assumption) rfl (by unfold vRoom; decide) (c_X0_gaspsAt hB hE hCN hs2) rfl rfl (Nat.le_of_ble_eq_true rfl) ?_
    rintro x118 _ _ hx118 ⟨rfl, rfl, rfl⟩
    refine vV.imul dX0_mostWorth_121 (⟨by omega, by omega⟩) ?_
    refine vV.iadd dX0_mostWorth_122 (⟨by omega, by omega⟩) ?_
    rw [show ((W i : Nat) : Int) + (gsF j t : Nat) + 4 * (xga E s2 : Nat) = ((W i + gsF j t + 4 * xga E s2 : Nat) : Int) by omega]
    refine vV.cVi dX0_mostWorth_123 ml_X0_129 cw_X0_keepBest iw_X0_keepBest (by first | rfl | assumption) rfl (by unfold vRoom; decide) (c_X0_keepBest hA hE hb hI.1 hs2 (by omega)) rfl rfl (Nat.le_of_ble_eq_true rfl) ?_
    rintro x123 _ N1 hx123 ⟨rfl, k1, fl', L2, W2, rfl, k2, k3⟩
    have hS1 : awS M N1 := ⟨fun k hk => (k1 k (by simp at hk ⊢; omega)).trans (hS.1 k hk), fun j hj => by rw [k1 100 (by simp; omega)]; exact hS.2 j hj⟩
    refine vV.istore (L' := [_, _, _, _, _, _, _, _, _, _, _, _, _, _]) dX0_mostWorth_126 (by decide) rfl ?_
    refine vV.iinc (L' := [_, _, _, _, _, _, _, _, _, _, _, _, _, _]) dX0_mostWorth_128 (by decide) rfl (⟨by omega, by omega⟩) rfl ?_
    refine vV.goto (tgt := 66) dX0_mostWorth_131 (by decide) ?_
    exact ih ht4 N1 fl' L2 W2 _ _ hS1 (by rw [k1 a (by simp; omega)]; exact hR) (hI.put ht4 l3 hn k2 k3)
  refine vV.iload dX0_mostWorth_66 rfl ?_
  refine vV.iconst dX0_mostWorth_68 (by decide) ?_
  refine vV.icmp_gt (tgt := 134) dX0_mostWorth_69 (by decide) (fun h69 => ?_) (fun h69 => ?_)
  · skip
    refine vV.iinc (L' := [_, _, _, _, _, _, _, _, _, _, _, _, _, _]) dX0_mostWorth_134 (by decide) rfl (⟨by omega, by omega⟩) rfl ?_
    refine vV.goto (tgt := 37) dX0_mostWorth_137 (by decide) ?_
    rw [show t = 4 by omega] at hI; exact go N fl L' W' _ _ _ _ _ hS hR hI.up
  · skip
    refine vV.aload_n dX0_mostWorth_72 rfl ?_
    refine vV.iload dX0_mostWorth_73 rfl ?_
    refine vV.iload dX0_mostWorth_75 rfl ?_
    refine vV.cVi dX0_mostWorth_77 ml_X0_101 cw_X0_after iw_X0_after (by first | rfl | assumption) rfl (by unfold vRoom; decide) (c_X0_after hB hE hCN l1 (by omega)) rfl rfl (Nat.le_of_ble_eq_true rfl) ?_
    rintro x77 _ _ hx77 ⟨hx, rfl, rfl⟩
    refine vV.istore (L' := [_, _, _, _, _, _, _, _, _, _, _, _, _, _]) dX0_mostWorth_80 (by decide) rfl ?_
    refine vV.iload dX0_mostWorth_82 rfl ?_
    refine vV.if_lt (tgt := 128) dX0_mostWorth_84 (by decide) (fun h84 => ?_) (fun h84 => ?_)
    · skip
      have hnone : xn E (t : Int) (L i) = none := by { cases hz : xn E (t : Int) (L i) with | none => rfl | some s2 => rw [hz] at hx; have h9 : (0 : Int) ≤ xr (some s2) := Int.natCast_nonneg _; omega }
      refine vV.iinc (L' := [_, _, _, _, _, _, _, _, _, _, _, _, _, _]) dX0_mostWorth_128 (by decide) rfl (⟨by omega, by omega⟩) rfl ?_
      refine vV.goto (tgt := 66) dX0_mostWorth_131 (by decide) ?_
      exact ih (by omega) N fl L' W' _ _ hS hR (hI.nil hnone)
    · skip
      obtain ⟨s2, hn⟩ : ∃ s2, xn E (t : Int) (L i) = some s2 := by { cases hz : xn E (t : Int) (L i) with | none => rw [hz] at hx; have h9 : xr none = -1 := rfl; omega | some s2 => exact ⟨s2, rfl⟩ }
      have hs2 := xn_st hE l1 hn
      have hx' : x77 = ((enC s2 : Nat) : Int) := by { rw [hx, hn]; rfl }
      subst hx'
      refine vV.iload dX0_mostWorth_87 rfl ?_
      refine vV.if_ne (tgt := 99) dX0_mostWorth_89 (by decide) (fun h89 => ?_) (fun h89 => ?_)
      · skip
        refine vV.iconst dX0_mostWorth_99 (by decide) ?_
        first | exact hkeep s2 none _ _ (by unfold gsF; rw [if_pos (by omega)]; omega) (by omega) hn hs2 | exact hkeep s2 none _ _ (by unfold gsF; rw [if_neg (by omega)]; rfl) (by omega) hn hs2
      · skip
        refine vV.iconst dX0_mostWorth_92 (by decide) ?_
        refine vV.iload dX0_mostWorth_93 rfl ?_
        refine vV.isub dX0_mostWorth_95 (⟨by omega, by omega⟩) ?_
        refine vV.goto (tgt := 100) dX0_mostWorth_96 (by decide) ?_
        first | exact hkeep s2 none _ _ (by unfold gsF; rw [if_pos (by omega)]; omega) (by omega) hn hs2 | exact hkeep s2 none _ _ (by unfold gsF; rw [if_neg (by omega)]; rfl) (by omega) hn hs2
theorem l_X0_mw37 {d : List Nat} {T : vT} {M : vM} {E : xE} {s0 : xS} {a b j sz : Nat} {n : Int} {L : Nat → xS} {W : Nat → Nat} {R : Int → Int} (hB : vB T) (hA : awT T) (hE : xEok E) (hC : xC M E) (hb : b = 107 ∨ b = 108) (hab : a ≠ b) (ha : a = 107 ∨ a = 108) (hj : j < 30) (hg : gsI E s0 R j sz L W)
    (go : ∀ (N : vM) (fl : Nat) (L' : Nat → xS) (W' : Nat → Nat) (x7 x8 x9 x10 x11 x12 x13 : Option vA), awS M N → awM N → gsI E s0 (N b) (j + 1) fl L' W' → vV m_X0_mostWorth d d (vPi fun r T1 M1 => T = T1 ∧ awS M M1 ∧ awM M1 ∧ gpQ E s0 n.toNat r) 21 [some (vR 100), some (vI (enC s0 : Nat)), some (vI n), some (vR b), some (vR a), some (vI fl), some (vI ((j + 1 : Nat) : Int)), x7, x8, x9, x10, x11, x12, x13] [] d T N) : ∀ i : Nat, i ≤ sz → ∀ (N : vM) (fl : Nat) (L' : Nat → xS) (W' : Nat → Nat) (x9 x10 x11 x12 x13 : Option vA), awS M N → N a = R → gtI E s0 N b j L W fl L' W' i 0 →
    vV m_X0_mostWorth d d (vPi fun r T1 M1 => T = T1 ∧ awS M M1 ∧ awM M1 ∧ gpQ E s0 n.toNat r) 37 [some (vR 100), some (vI (enC s0 : Nat)), some (vI n), some (vR a), some (vR b), some (vI sz), some (vI j), some (vI fl), some (vI i), x9, x10, x11, x12, x13] [] d T N := by
  have hka : vKK a = (1, 32768) := by rcases ha with z | z <;> subst z <;> rfl
  have hsz := hg.1
  refine vUp ?_
  intro i hi ih N fl L' W' x9 x10 x11 x12 x13 hS hR hI
  have hfl := hI.1.le hE
  refine vV.iload dX0_mostWorth_37 rfl ?_
  refine vV.iload dX0_mostWorth_39 rfl ?_
  refine vV.icmp_ge (tgt := 140) dX0_mostWorth_41 (by decide) (fun h41 => ?_) (fun h41 => ?_)
  · skip
    refine vV.aload_n dX0_mostWorth_140 rfl ?_
    refine vV.astore (L' := [_, _, _, _, _, _, _, _, _, _, _, _, _, _]) dX0_mostWorth_141 (by decide) rfl ?_
    refine vV.aload dX0_mostWorth_143 rfl ?_
    refine vV.astore_n (L' := [_, _, _, _, _, _, _, _, _, _, _, _, _, _]) dX0_mostWorth_145 (by decide) rfl ?_
    refine vV.aload dX0_mostWorth_146 rfl ?_
    refine vV.astore (L' := [_, _, _, _, _, _, _, _, _, _, _, _, _, _]) dX0_mostWorth_148 (by decide) rfl ?_
    refine vV.iload dX0_mostWorth_150 rfl ?_
    refine vV.istore (L' := [_, _, _, _, _, _, _, _, _, _, _, _, _, _]) dX0_mostWorth_152 (by decide) rfl ?_
    refine vV.iinc (L' := [_, _, _, _, _, _, _, _, _, _, _, _, _, _]) dX0_mostWorth_154 (by decide) rfl (⟨by omega, by omega⟩) rfl ?_
    refine vV.goto (tgt := 21) dX0_mostWorth_157 (by decide) ?_
    rw [show i = sz by omega] at hI; exact go N fl L' W' _ _ _ _ _ _ _ hS hI.1.1 (hI.fin hE hg)
  · skip
    obtain ⟨l1, l2, l3⟩ := hg.2.1 i (by omega)
    have hWi := xW_le hE l3
    obtain ⟨d1, d2⟩ := dig15 (w := W i) (p := enC (L i)) (by omega) (enC_lt (l1.ok hE))
    have hpl := enC_lt (l1.ok hE)
    refine vV.aload_n dX0_mostWorth_44 rfl ?_
    refine vV.iload dX0_mostWorth_45 rfl ?_
    refine vV.iald dX0_mostWorth_47 (by first | rfl | assumption) (by omega) (by omega) ?_
    rw [hR, l2]
    refine vV.sipush (v := 32767) dX0_mostWorth_48 (by decide) (by decide) ?_
    refine vV.iand dX0_mostWorth_51 ?_
    rw [d1]
    refine vV.istore (L' := [_, _, _, _, _, _, _, _, _, _, _, _, _, _]) dX0_mostWorth_52 (by decide) rfl ?_
    refine vV.aload_n dX0_mostWorth_54 rfl ?_
    refine vV.iload dX0_mostWorth_55 rfl ?_
    refine vV.iald dX0_mostWorth_57 (by first | rfl | assumption) (by omega) (by omega) ?_
    rw [hR, l2]
    refine vV.ldc (v := 32768) dX0_mostWorth_58 kc_X0_67 (by decide) (by decide) ?_
    refine vV.idiv dX0_mostWorth_60 (by omega) (by rw [d2]; exact ⟨by omega, by omega⟩) ?_
    rw [d2]
    refine vV.istore (L' := [_, _, _, _, _, _, _, _, _, _, _, _, _, _]) dX0_mostWorth_61 (by decide) rfl ?_
    refine vV.iconst dX0_mostWorth_63 (by decide) ?_
    refine vV.istore (L' := [_, _, _, _, _, _, _, _, _, _, _, _, _, _]) dX0_mostWorth_64 (by decide) rfl ?_
    exact l_X0_mw66 hB hA hE hC hb hab ha hj hg (by omega) (fun N fl L' W' x9 x10 x11 x12 x13 g1 g2 g3 => ih (by omega) N fl L' W' x9 x10 x11 x12 x13 g1 g2 g3) 0 (by omega) N fl L' W' _ _ hS hR hI
def gmx (W : Nat → Nat) : Nat → Int
  | 0 => -1
  | k + 1 => max (gmx W k) (W k)
theorem gmx_q {W : Nat → Nat} : ∀ n, (n = 0 ∧ gmx W n = -1) ∨ ((∃ i, i < n ∧ gmx W n = (W i : Nat)) ∧ ∀ i, i < n → (W i : Int) ≤ gmx W n)
  | 0 => Or.inl ⟨rfl, rfl⟩
  | n + 1 => by
    refine Or.inr ?_
    have e : gmx W (n + 1) = max (gmx W n) (W n) := rfl
    rcases gmx_q (W := W) n with ⟨a, b⟩ | ⟨⟨i, i1, i2⟩, c⟩
    · subst a
      refine ⟨⟨0, by omega, by rw [e, b]; omega⟩, fun i hi => by rw [e, b, show i = 0 by omega]; omega⟩
    · refine ⟨?_, fun k hk => ?_⟩
      · rcases (show max (gmx W n) ((W n : Nat) : Int) = gmx W n ∨ max (gmx W n) ((W n : Nat) : Int) = (W n : Nat) by omega) with z | z
        · exact ⟨i, by omega, by rw [e, z]; exact i2⟩
        · exact ⟨n, by omega, by rw [e, z]⟩
      · rcases Nat.lt_succ_iff_lt_or_eq.mp hk with z | z
        · have := c k z; rw [e]; omega
        · subst z; rw [e]; omega
theorem l_X0_mw166 {d : List Nat} {T : vT} {N : vM} {E : xE} {s0 : xS} {a b j sz : Nat} {n : Int} {L : Nat → xS} {W : Nat → Nat} {P : Int → vT → vM → Prop} (hE : xEok E) (ha : a = 107 ∨ a = 108) (hj : j ≤ 30) (hg : gsI E s0 (N a) j sz L W) (hP : ∀ r, gpQ E s0 j r → P r T N) : ∀ k : Nat, k ≤ sz → ∀ (x8 x9 x10 x11 x12 x13 : Option vA),
    vV m_X0_mostWorth d d (vPi P) 166 [some (vR 100), some (vI (enC s0 : Nat)), some (vI n), some (vR a), some (vR b), some (vI sz), some (vI (gmx W k)), some (vI k), x8, x9, x10, x11, x12, x13] [] d T N := by
  have hka : vKK a = (1, 32768) := by rcases ha with z | z <;> subst z <;> rfl
  have hsz := hg.1
  refine vUp ?_
  intro k hk ih x8 x9 x10 x11 x12 x13
  refine vV.iload dX0_mostWorth_166 rfl ?_
  refine vV.iload dX0_mostWorth_168 rfl ?_
  refine vV.icmp_ge (tgt := 193) dX0_mostWorth_170 (by decide) (fun h170 => ?_) (fun h170 => ?_)
  · skip
    refine vV.iload dX0_mostWorth_193 rfl ?_
    refine vV.ri dX0_mostWorth_195 rfl ?_
    refine hP _ ?_
    rw [show k = sz by omega]
    rcases gmx_q (W := W) sz with ⟨a, b⟩ | ⟨⟨i, i1, i2⟩, c⟩
    · exact Or.inl ⟨b, fun s w h => by obtain ⟨i, i1, -⟩ := hg.2.2 s w h; omega⟩
    · refine Or.inr ⟨W i, i2, ⟨L i, (hg.2.1 i i1).2.2⟩, fun s w h => ?_⟩
      obtain ⟨k2, k3, k4, k5⟩ := hg.2.2 s w h
      have := c k2 k3
      omega
  · skip
    obtain ⟨l1, l2, l3⟩ := hg.2.1 k (by omega)
    have hWi := xW_le hE l3
    obtain ⟨d1, d2⟩ := dig15 (w := W k) (p := enC (L k)) (by omega) (enC_lt (l1.ok hE))
    have hpl := enC_lt (l1.ok hE)
    refine vV.iload dX0_mostWorth_173 rfl ?_
    refine vV.aload_n dX0_mostWorth_175 rfl ?_
    refine vV.iload dX0_mostWorth_176 rfl ?_
    refine vV.iald dX0_mostWorth_178 (by first | rfl | assumption) (by omega) (by omega) ?_
    rw [l2]
    refine vV.ldc (v := 32768) dX0_mostWorth_179 kc_X0_67 (by decide) (by decide) ?_
    refine vV.idiv dX0_mostWorth_181 (by omega) (by rw [d2]; exact ⟨by omega, by omega⟩) ?_
    rw [d2]
    refine vV.mmax dX0_mostWorth_182 ml_X0_133 mm_max (by decide) (Nat.le_of_ble_eq_true rfl) ?_
    refine vV.istore (L' := [_, _, _, _, _, _, _, _, _, _, _, _, _, _]) dX0_mostWorth_185 (by decide) rfl ?_
    refine vV.iinc (L' := [_, _, _, _, _, _, _, _, _, _, _, _, _, _]) dX0_mostWorth_187 (by decide) rfl (⟨by omega, by omega⟩) rfl ?_
    refine vV.goto (tgt := 166) dX0_mostWorth_190 (by decide) ?_
    exact ih (by omega) _ _ _ _ _ _
theorem l_X0_mw21 {d : List Nat} {T : vT} {M : vM} {E : xE} {s0 : xS} {n : Nat} (hB : vB T) (hA : awT T) (hE : xEok E) (hC : xC M E) (hn : n ≤ 30) : ∀ j : Nat, j ≤ n → ∀ (N : vM) (a b sz : Nat) (L : Nat → xS) (W : Nat → Nat) (x7 x8 x9 x10 x11 x12 x13 : Option vA), (a = 107 ∨ a = 108) → (b = 107 ∨ b = 108) → a ≠ b → awS M N → awM N → gsI E s0 (N a) j sz L W →
    vV m_X0_mostWorth d d (vPi fun r T1 M1 => T = T1 ∧ awS M M1 ∧ awM M1 ∧ gpQ E s0 (n : Int).toNat r) 21 [some (vR 100), some (vI (enC s0 : Nat)), some (vI n), some (vR a), some (vR b), some (vI sz), some (vI j), x7, x8, x9, x10, x11, x12, x13] [] d T N := by
  refine vUp ?_
  intro j hj ih N a b sz L W x7 x8 x9 x10 x11 x12 x13 ha hb hab hS hM hg
  refine vV.iload dX0_mostWorth_21 rfl ?_
  refine vV.iload_n dX0_mostWorth_23 rfl ?_
  refine vV.icmp_ge (tgt := 160) dX0_mostWorth_24 (by decide) (fun h24 => ?_) (fun h24 => ?_)
  · skip
    refine vV.iconst dX0_mostWorth_160 (by decide) ?_
    refine vV.istore (L' := [_, _, _, _, _, _, _, _, _, _, _, _, _, _]) dX0_mostWorth_161 (by decide) rfl ?_
    refine vV.iconst dX0_mostWorth_163 (by decide) ?_
    refine vV.istore (L' := [_, _, _, _, _, _, _, _, _, _, _, _, _, _]) dX0_mostWorth_164 (by decide) rfl ?_
    exact l_X0_mw166 hE ha (by omega) hg (fun r hr => ⟨rfl, hS, hM, by rw [show (n : Int).toNat = j by omega]; exact hr⟩) 0 (by omega) _ _ _ _ _ _
  · skip
    refine vV.aload_n dX0_mostWorth_27 rfl ?_
    refine vV.cVv dX0_mostWorth_28 ml_X0_113 cw_X0_openPage iw_X0_openPage (by first | rfl | assumption) rfl (by unfold vRoom; decide) (c_X0_openPage hA hM) rfl rfl (Nat.le_of_ble_eq_true rfl) ?_
    rintro _ N1 ⟨rfl, hO⟩
    have hNa : N1 a = N a := hO.1 a (by simp; omega)
    refine vV.iconst dX0_mostWorth_31 (by decide) ?_
    refine vV.istore (L' := [_, _, _, _, _, _, _, _, _, _, _, _, _, _]) dX0_mostWorth_32 (by decide) rfl ?_
    refine vV.iconst dX0_mostWorth_34 (by decide) ?_
    refine vV.istore (L' := [_, _, _, _, _, _, _, _, _, _, _, _, _, _]) dX0_mostWorth_35 (by decide) rfl ?_
    exact l_X0_mw37 hB hA hE hC hb hab ha (by omega) hg (fun N fl L' W' x7 x8 x9 x10 x11 x12 x13 g1 g2 g3 => ih (by omega) N b a fl L' W' x7 x8 x9 x10 x11 x12 x13 hb ha (Ne.symm hab) g1 g2 g3) 0 (by omega) N1 0 (fun _ => s0) (fun _ => 0) _ _ _ _ _ (hS.o hO) hNa ⟨⟨hO.2.2.1, fun i hi => by omega, fun s i hs hi => by rw [hO.k (enC_lt (hs.ok hE))] at hi; cases hi⟩, fun k hk => by omega, fun i' t' s3 hc => by omega⟩
theorem c_X0_mostWorth {d : List Nat} {T : vT} {M : vM} {E : xE} {s0 : xS} {n : Nat} (hB : vB T) (hA : awT T) (hE : xEok E) (hC : xC M E) (hs : xSt E s0) (hM : awM M) (hn : 1 ≤ n ∧ n ≤ 30) : vCon m_X0_mostWorth d d [vR 100, vI (enC s0 : Nat), vI n] T M (vPi fun r T1 M1 => T = T1 ∧ awS M M1 ∧ awM M1 ∧ gpQ E s0 n r) := by
  have hp0 := enC_lt (hs.ok hE)
  have hA2 := hA
  obtain ⟨q1, q2, q3⟩ := hA2
  refine vCon.of (by decide) rfl rfl (Nat.le_of_ble_eq_true rfl) ?_
  refine vV.aload_n dX0_mostWorth_0 rfl ?_
  refine vV.getr dX0_mostWorth_1 fl_X0_68 (by first | rfl | assumption) rfl (by first | assumption | exact hB _ _ _ rfl) ?_
  refine vV.astore_n (L' := [_, _, _, _, _, _, _, _, _, _, _, _, _, _]) dX0_mostWorth_4 (by decide) rfl ?_
  refine vV.aload_n dX0_mostWorth_5 rfl ?_
  refine vV.getr dX0_mostWorth_6 fl_X0_71 (by first | rfl | assumption) rfl (by first | assumption | exact hB _ _ _ rfl) ?_
  refine vV.astore (L' := [_, _, _, _, _, _, _, _, _, _, _, _, _, _]) dX0_mostWorth_9 (by decide) rfl ?_
  refine vV.aload_n dX0_mostWorth_11 rfl ?_
  refine vV.iconst dX0_mostWorth_12 (by decide) ?_
  refine vV.iload_n dX0_mostWorth_13 rfl ?_
  refine vV.iast dX0_mostWorth_14 (by first | rfl | assumption) (by omega) (by omega) ?_
  refine vV.iconst dX0_mostWorth_15 (by decide) ?_
  refine vV.istore (L' := [_, _, _, _, _, _, _, _, _, _, _, _, _, _]) dX0_mostWorth_16 (by decide) rfl ?_
  refine vV.iconst dX0_mostWorth_18 (by decide) ?_
  refine vV.istore (L' := [_, _, _, _, _, _, _, _, _, _, _, _, _, _]) dX0_mostWorth_19 (by decide) rfl ?_
  exact l_X0_mw21 hB hA hE hC hn.2 0 (by omega) _ 107 108 1 (fun _ => s0) (fun _ => 0) _ _ _ _ _ _ _ (Or.inl rfl) (Or.inr rfl) (by decide) ((awS.rf M).m (mSame_list (fun _ _ => rfl))) (awM_107 _ _ hM) ⟨by omega, fun i hi => ⟨hs, by rw [show (i : Int) = 0 by omega, vUpd_s]; simp, rfl, rfl⟩, fun s w h => ⟨0, by omega, h.1.symm, by rw [h.2]; exact Nat.le_refl _⟩⟩
