/-! ===== own: AllWays.take ===== -/
/-- the plates that stand -/
def exL (tu : Int → Int) : Nat → List Nat
  | 0 => []
  | p + 1 => if 0 < tu p then exL tu p ++ [p] else exL tu p
def exc (tu : Int → Int) : Nat → Nat
  | 0 => 0
  | p + 1 => exc tu p + if 0 < tu p then 1 else 0
theorem exL_len (tu : Int → Int) : ∀ n, (exL tu n).length = exc tu n
  | 0 => rfl
  | n + 1 => by
    have := exL_len tu n
    unfold exL exc
    by_cases h : 0 < tu n
    · rw [if_pos h, if_pos h]; simp [this]
    · rw [if_neg h, if_neg h]; simp [this]
theorem exc_mono (tu : Int → Int) : ∀ {p n : Nat}, p ≤ n → exc tu p ≤ exc tu n
  | p, 0, h => by rw [show p = 0 by omega]; exact Nat.le_refl _
  | p, n + 1, h => by
    by_cases e : p = n + 1
    · rw [e]; exact Nat.le_refl _
    · have := exc_mono tu (p := p) (n := n) (by omega); rw [show exc tu (n + 1) = exc tu n + (if 0 < tu n then 1 else 0) from rfl]; omega
theorem exc_t {tu : Int → Int} {n : Nat} (h : 0 < tu n) : exc tu (n + 1) = exc tu n + 1 := by show exc tu n + (if 0 < tu n then 1 else 0) = _; rw [if_pos h]
theorem exc_f {tu : Int → Int} {n : Nat} (h : ¬ 0 < tu n) : exc tu (n + 1) = exc tu n := by show exc tu n + (if 0 < tu n then 1 else 0) = _; rw [if_neg h]; rfl
/-- the k-th of them -/
def exi (tu : Int → Int) (n k : Nat) : Nat := (exL tu n).getD k 0
theorem exi_s {tu : Int → Int} {n k : Nat} (hk : k < exc tu n) : exi tu (n + 1) k = exi tu n k := by
  unfold exi
  rw [show exL tu (n + 1) = if 0 < tu n then exL tu n ++ [n] else exL tu n from rfl]
  split
  · rw [List.getD_eq_getElem?_getD, List.getD_eq_getElem?_getD, List.getElem?_append_left (by rw [exL_len]; exact hk)]
  · rfl
theorem exi_t {tu : Int → Int} {n : Nat} (h : 0 < tu n) : exi tu (n + 1) (exc tu n) = n := by
  unfold exi
  rw [show exL tu (n + 1) = if 0 < tu n then exL tu n ++ [n] else exL tu n from rfl, if_pos h, List.getD_eq_getElem?_getD, List.getElem?_append_right (by rw [exL_len]; exact Nat.le_refl _), exL_len]
  simp
theorem exi_p {tu : Int → Int} : ∀ {n p k : Nat}, p ≤ n → k < exc tu p → exi tu n k = exi tu p k
  | 0, p, k, h, hk => by rw [show p = 0 by omega]
  | n + 1, p, k, h, hk => by
    by_cases e : p = n + 1
    · rw [e]
    · have h1 := exc_mono tu (show p ≤ n by omega)
      rw [exi_s (by omega)]
      exact exi_p (by omega) hk
theorem exi_ok {tu : Int → Int} : ∀ {n k : Nat}, k < exc tu n → exi tu n k < n ∧ 0 < tu (exi tu n k)
  | 0, k, h => by unfold exc at h; omega
  | n + 1, k, h => by
    by_cases hk : k < exc tu n
    · rw [exi_s hk]; have := exi_ok hk; exact ⟨by omega, this.2⟩
    · by_cases ht : 0 < tu n
      · rw [exc_t ht] at h
        rw [show k = exc tu n by omega, exi_t ht]; exact ⟨by omega, ht⟩
      · rw [exc_f ht] at h; omega
theorem exi_inj {tu : Int → Int} : ∀ {n i j : Nat}, i < exc tu n → j < exc tu n → exi tu n i = exi tu n j → i = j
  | 0, i, j, h, _, _ => by unfold exc at h; omega
  | n + 1, i, j, hi, hj, he => by
    by_cases ht : 0 < tu n
    · have e : exc tu (n + 1) = exc tu n + 1 := exc_t ht
      by_cases h1 : i < exc tu n
      · by_cases h2 : j < exc tu n
        · rw [exi_s h1, exi_s h2] at he; exact exi_inj h1 h2 he
        · rw [exi_s h1, show j = exc tu n by omega, exi_t ht] at he; have := (exi_ok h1).1; omega
      · by_cases h2 : j < exc tu n
        · rw [exi_s h2, show i = exc tu n by omega, exi_t ht] at he; have := (exi_ok h2).1; omega
        · omega
    · have e : exc tu (n + 1) = exc tu n := exc_f ht
      rw [e] at hi hj
      rw [exi_s hi, exi_s hj] at he; exact exi_inj hi hj he
def xEof (n : Nat) (pl fu fa tu : Int → Int) (gi : Int) : xE := (exc tu n, fun k => pl (exi tu n k), fun k => fu (exi tu n k), fun k => fa (exi tu n k), gi)
def xdg (n : Nat) (tu : Int → Int) (k : Nat) : Nat := if k < exc tu n then (tu (exi tu n k)).toNat else 0
def xS0 (n : Nat) (tu : Int → Int) (man : Int) : xS := (man.toNat, xdg n tu 0, xdg n tu 1, xdg n tu 2)
theorem xEof_ok {n : Nat} {pl fu fa tu se : Int → Int} (hW : pW n pl fu fa tu se) (h1 : 1 ≤ exc tu n) (h3 : exc tu n ≤ 3) : xEok (xEof n pl fu fa tu (se 1)) := by
  obtain ⟨p1, p2, p3, p4, p5, p6, p7, p8, p9, p10, p11, p12, p13, p14⟩ := hW
  refine ⟨⟨h1, h3⟩, fun k hk => ?_, p9, fun i j hi hj he => ?_⟩
  · obtain ⟨q1, q2⟩ := exi_ok (show k < exc tu n from hk)
    exact ⟨p4 _, ⟨(p13 _ q1).1, (p5 _).2⟩, (p13 _ q1).2, (p6 _).2⟩
  · obtain ⟨q1, -⟩ := exi_ok (show i < exc tu n from hi)
    obtain ⟨r1, -⟩ := exi_ok (show j < exc tu n from hj)
    exact exi_inj hi hj (p14 _ _ q1 r1 he)
theorem xS0_st {n : Nat} {pl fu fa tu se : Int → Int} (hW : pW n pl fu fa tu se) : xSt (xEof n pl fu fa tu (se 1)) (xS0 n tu (se 0)) := by
  obtain ⟨p1, p2, p3, p4, p5, p6, p7, p8, p9, p10, p11, p12, p13, p14⟩ := hW
  refine ⟨by show (se 0).toNat < 8; omega, fun k hk => ?_⟩
  have e : xt (xS0 n tu (se 0)) k = xdg n tu k := by
    unfold xt xS0
    rcases (show k = 0 ∨ k = 1 ∨ k = 2 by omega) with z | z | z <;> subst z <;> rfl
  rw [e]
  unfold xdg
  refine ⟨fun h1 => ?_, fun h1 => if_neg (by have h1' : exc tu n ≤ k := h1; omega)⟩
  rw [if_pos (show k < exc tu n from h1)]
  obtain ⟨q1, q2⟩ := exi_ok (show k < exc tu n from h1)
  have := p7 (exi tu n k)
  show 1 ≤ (tu (exi tu n k)).toNat ∧ ((tu (exi tu n k)).toNat : Int) ≤ fu (exi tu n k)
  omega
theorem bc_ex {tu : Int → Int} {n : Nat} (hn : n ≤ 6) : bcN (pbN tu n) = exc tu n := by
  have hb : ∀ j, pbN tu n / 2 ^ j % 2 = if j < n ∧ 0 < tu j then 1 else 0 := fun j => by
    have h := pbN_bit tu n j
    rw [Nat.testBit_eq_decide_div_mod_eq] at h
    have h2 : pbN tu n / 2 ^ j % 2 < 2 := Nat.mod_lt _ (by decide)
    by_cases hc : j < n ∧ 0 < tu j
    · rw [if_pos hc]
      rw [decide_eq_true hc.1, decide_eq_true hc.2] at h
      exact of_decide_eq_true h
    · rw [if_neg hc]
      have : ¬ pbN tu n / 2 ^ j % 2 = 1 := fun z => by
        rw [decide_eq_true z] at h
        have h9 : (decide (j < n) && decide (0 < tu j)) = true := h.symm
        simp at h9
        exact hc h9
      omega
  have h0 := hb 0; have h1 := hb 1; have h2 := hb 2; have h3 := hb 3; have h4 := hb 4; have h5 := hb 5
  rw [show (2 : Nat) ^ 0 = 1 from rfl, Nat.div_one] at h0
  rw [show (2 : Nat) ^ 1 = 2 from rfl] at h1
  rw [show (2 : Nat) ^ 2 = 4 from rfl] at h2
  rw [show (2 : Nat) ^ 3 = 8 from rfl] at h3
  rw [show (2 : Nat) ^ 4 = 16 from rfl] at h4
  rw [show (2 : Nat) ^ 5 = 32 from rfl] at h5
  unfold bcN
  rw [h0, h1, h2, h3, h4, h5]
  rcases (show n = 0 ∨ n = 1 ∨ n = 2 ∨ n = 3 ∨ n = 4 ∨ n = 5 ∨ n = 6 by omega) with z | z | z | z | z | z | z <;> subst z <;> simp [exc]
/-- AllWays has taken the first p plates -/
def tkI (M N : vM) (n p : Nat) : Prop := mSame [100, 102, 103, 104] M N ∧ (∀ j, j ≠ 0 → j ≠ 1 → N 100 j = M 100 j) ∧ N 100 0 = exc (M 14) p ∧ N 100 1 = M 15 1 ∧ (∀ k : Nat, k < exc (M 14) p → N 102 k = M 12 (exi (M 14) p k) ∧ N 103 k = M 13 (exi (M 14) p k)) ∧ ∀ w : Nat, w < 8 → N 104 w = pOr (-1) (pFind (fun k => decide (M 11 (exi (M 14) p k) = w)) (exc (M 14) p))
theorem tkI.no {M N : vM} {n p : Nat} (h : tkI M N n p) (ht : ¬ 0 < M 14 p) : tkI M N n (p + 1) := by
  obtain ⟨a1, a2, a3, a4, a5, a6⟩ := h
  refine ⟨a1, a2, by rw [exc_f ht]; exact a3, a4, fun k hk => ?_, fun w hw => ?_⟩
  · rw [exc_f ht] at hk; rw [exi_s hk]; exact a5 k hk
  · rw [a6 w hw, exc_f ht]; congr 1; exact pFind_cg (fun k hk => by rw [exi_s hk])
theorem tkI.ye {M N : vM} {n p : Nat} (h : tkI M N n p) (hd : pDis n (M 11)) (hp : p < n) (ht : 0 < M 14 p) (h7 : 0 ≤ M 11 p ∧ M 11 p ≤ 7) : tkI M (vUpd (vUpd (vUpd (vUpd N 102 (exc (M 14) p : Nat) (M 12 p)) 103 (exc (M 14) p : Nat) (M 13 p)) 104 (M 11 p) (exc (M 14) p : Nat)) 100 0 ((exc (M 14) p : Nat) + 1)) n (p + 1) := by
  obtain ⟨a1, a2, a3, a4, a5, a6⟩ := h
  refine ⟨fun k hk => ?_, fun j h0 h1 => ?_, ?_, ?_, fun k hk => ?_, fun w hw => ?_⟩
  · simp at hk; rw [vUpd_row hk.1, vUpd_row hk.2.2.2, vUpd_row hk.2.2.1, vUpd_row hk.2.1]; exact a1 k (by simp; omega)
  · rw [vUpd_ni h0, vUpd_nk (by decide), vUpd_nk (by decide), vUpd_nk (by decide)]; exact a2 j h0 h1
  · rw [vUpd_s, exc_t ht]; omega
  · rw [vUpd_ni (by decide), vUpd_nk (by decide), vUpd_nk (by decide), vUpd_nk (by decide)]; exact a4
  · rw [exc_t ht] at hk
    refine ⟨?_, ?_⟩
    · rw [vUpd_nk (by decide), vUpd_nk (by decide), vUpd_nk (by decide)]
      by_cases e : k = exc (M 14) p
      · rw [e, vUpd_s, exi_t ht]
      · rw [vUpd_ni (by omega), exi_s (by omega)]; exact (a5 k (by omega)).1
    · rw [vUpd_nk (by decide), vUpd_nk (by decide)]
      by_cases e : k = exc (M 14) p
      · rw [e, vUpd_s, exi_t ht]
      · rw [vUpd_ni (by omega), vUpd_nk (by decide), exi_s (by omega)]; exact (a5 k (by omega)).2
  · rw [vUpd_nk (by decide), exc_t ht]
    have hcg : ∀ w : Nat, pFind (fun k => decide (M 11 (exi (M 14) (p + 1) k) = w)) (exc (M 14) p) = pFind (fun k => decide (M 11 (exi (M 14) p k) = w)) (exc (M 14) p) := fun w => pFind_cg (fun k hk => by rw [exi_s hk])
    by_cases e : (w : Int) = M 11 p
    · rw [e, vUpd_s, pFind_yes (p := exc (M 14) p) (by omega) (by rw [exi_t ht]; simp) (fun k hk => by
        rw [exi_s hk]
        have hq := (exi_ok hk).1
        simp
        intro z
        have := hd _ p (by omega) hp z
        omega)]
      rfl
    · rw [vUpd_ni e, vUpd_nk (by decide), vUpd_nk (by decide), a6 w hw, ← hcg]
      show _ = pOr (-1) (match pFind (fun k => decide (M 11 (exi (M 14) (p + 1) k) = (w : Int))) (exc (M 14) p) with | some q => some q | none => if (decide (M 11 (exi (M 14) (p + 1) (exc (M 14) p)) = (w : Int))) = true then some (exc (M 14) p) else none)
      rw [exi_t ht]
      cases pFind (fun k => decide (M 11 (exi (M 14) (p + 1) k) = (w : Int))) (exc (M 14) p) with
      | some q => rfl
      | none => simp only; rw [if_neg (by simp; exact fun z => e z.symm)]
theorem dX0_take_0 : decode cX0_take 0 = .ok (.aload_n 1, 1) := by decide +kernel
theorem dX0_take_1 : decode cX0_take 1 = .ok (.invokevirtual 21, 3) := by decide +kernel
theorem dX0_take_4 : decode cX0_take 4 = .ok (.invokestatic 27, 3) := by decide +kernel
theorem dX0_take_7 : decode cX0_take 7 = .ok (.istore_n 2, 1) := by decide +kernel
theorem dX0_take_8 : decode cX0_take 8 = .ok (.iload_n 2, 1) := by decide +kernel
theorem dX0_take_9 : decode cX0_take 9 = .ok (.iconst 1, 1) := by decide +kernel
theorem dX0_take_10 : decode cX0_take 10 = .ok (.if_icmp .lt 8, 3) := by decide +kernel
theorem dX0_take_13 : decode cX0_take 13 = .ok (.iload_n 2, 1) := by decide +kernel
theorem dX0_take_14 : decode cX0_take 14 = .ok (.iconst 3, 1) := by decide +kernel
theorem dX0_take_15 : decode cX0_take 15 = .ok (.if_icmp .le 5, 3) := by decide +kernel
theorem dX0_take_18 : decode cX0_take 18 = .ok (.iconst (-1), 1) := by decide +kernel
theorem dX0_take_19 : decode cX0_take 19 = .ok (.ireturn, 1) := by decide +kernel
theorem dX0_take_20 : decode cX0_take 20 = .ok (.aload_n 0, 1) := by decide +kernel
theorem dX0_take_21 : decode cX0_take 21 = .ok (.getfield 18, 3) := by decide +kernel
theorem dX0_take_24 : decode cX0_take 24 = .ok (.iconst (-1), 1) := by decide +kernel
theorem dX0_take_25 : decode cX0_take 25 = .ok (.invokestatic 33, 3) := by decide +kernel
theorem dX0_take_28 : decode cX0_take 28 = .ok (.aload_n 0, 1) := by decide +kernel
theorem dX0_take_29 : decode cX0_take 29 = .ok (.aload_n 1, 1) := by decide +kernel
theorem dX0_take_30 : decode cX0_take 30 = .ok (.getfield 39, 3) := by decide +kernel
theorem dX0_take_33 : decode cX0_take 33 = .ok (.iconst 1, 1) := by decide +kernel
theorem dX0_take_34 : decode cX0_take 34 = .ok (.iaload, 1) := by decide +kernel
theorem dX0_take_35 : decode cX0_take 35 = .ok (.putfield 42, 3) := by decide +kernel
theorem dX0_take_38 : decode cX0_take 38 = .ok (.aload_n 0, 1) := by decide +kernel
theorem dX0_take_39 : decode cX0_take 39 = .ok (.iconst 0, 1) := by decide +kernel
theorem dX0_take_40 : decode cX0_take 40 = .ok (.putfield 46, 3) := by decide +kernel
theorem dX0_take_43 : decode cX0_take 43 = .ok (.aload_n 1, 1) := by decide +kernel
theorem dX0_take_44 : decode cX0_take 44 = .ok (.getfield 39, 3) := by decide +kernel
theorem dX0_take_47 : decode cX0_take 47 = .ok (.iconst 0, 1) := by decide +kernel
theorem dX0_take_48 : decode cX0_take 48 = .ok (.iaload, 1) := by decide +kernel
theorem dX0_take_49 : decode cX0_take 49 = .ok (.istore_n 3, 1) := by decide +kernel
theorem dX0_take_50 : decode cX0_take 50 = .ok (.iconst 0, 1) := by decide +kernel
theorem dX0_take_51 : decode cX0_take 51 = .ok (.istore 4, 2) := by decide +kernel
theorem dX0_take_53 : decode cX0_take 53 = .ok (.iload 4, 2) := by decide +kernel
theorem dX0_take_55 : decode cX0_take 55 = .ok (.aload_n 1, 1) := by decide +kernel
theorem dX0_take_56 : decode cX0_take 56 = .ok (.getfield 49, 3) := by decide +kernel
theorem dX0_take_59 : decode cX0_take 59 = .ok (.if_icmp .ge 103, 3) := by decide +kernel
theorem dX0_take_62 : decode cX0_take 62 = .ok (.aload_n 0, 1) := by decide +kernel
theorem dX0_take_63 : decode cX0_take 63 = .ok (.getfield 46, 3) := by decide +kernel
theorem dX0_take_66 : decode cX0_take 66 = .ok (.iconst 3, 1) := by decide +kernel
theorem dX0_take_67 : decode cX0_take 67 = .ok (.if_icmp .ge 95, 3) := by decide +kernel
theorem dX0_take_70 : decode cX0_take 70 = .ok (.aload_n 1, 1) := by decide +kernel
theorem dX0_take_71 : decode cX0_take 71 = .ok (.getfield 50, 3) := by decide +kernel
theorem dX0_take_74 : decode cX0_take 74 = .ok (.iload 4, 2) := by decide +kernel
theorem dX0_take_76 : decode cX0_take 76 = .ok (.iaload, 1) := by decide +kernel
theorem dX0_take_77 : decode cX0_take 77 = .ok (.ifCond .le 79, 3) := by decide +kernel
theorem dX0_take_80 : decode cX0_take 80 = .ok (.aload_n 0, 1) := by decide +kernel
theorem dX0_take_81 : decode cX0_take 81 = .ok (.getfield 11, 3) := by decide +kernel
theorem dX0_take_84 : decode cX0_take 84 = .ok (.aload_n 0, 1) := by decide +kernel
theorem dX0_take_85 : decode cX0_take 85 = .ok (.getfield 46, 3) := by decide +kernel
theorem dX0_take_88 : decode cX0_take 88 = .ok (.aload_n 1, 1) := by decide +kernel
theorem dX0_take_89 : decode cX0_take 89 = .ok (.getfield 53, 3) := by decide +kernel
theorem dX0_take_92 : decode cX0_take 92 = .ok (.iload 4, 2) := by decide +kernel
theorem dX0_take_94 : decode cX0_take 94 = .ok (.iaload, 1) := by decide +kernel
theorem dX0_take_95 : decode cX0_take 95 = .ok (.iastore, 1) := by decide +kernel
theorem dX0_take_96 : decode cX0_take 96 = .ok (.aload_n 0, 1) := by decide +kernel
theorem dX0_take_97 : decode cX0_take 97 = .ok (.getfield 15, 3) := by decide +kernel
theorem dX0_take_100 : decode cX0_take 100 = .ok (.aload_n 0, 1) := by decide +kernel
theorem dX0_take_101 : decode cX0_take 101 = .ok (.getfield 46, 3) := by decide +kernel
theorem dX0_take_104 : decode cX0_take 104 = .ok (.aload_n 1, 1) := by decide +kernel
theorem dX0_take_105 : decode cX0_take 105 = .ok (.getfield 54, 3) := by decide +kernel
theorem dX0_take_108 : decode cX0_take 108 = .ok (.iload 4, 2) := by decide +kernel
theorem dX0_take_110 : decode cX0_take 110 = .ok (.iaload, 1) := by decide +kernel
theorem dX0_take_111 : decode cX0_take 111 = .ok (.iastore, 1) := by decide +kernel
theorem dX0_take_112 : decode cX0_take 112 = .ok (.aload_n 0, 1) := by decide +kernel
theorem dX0_take_113 : decode cX0_take 113 = .ok (.getfield 18, 3) := by decide +kernel
theorem dX0_take_116 : decode cX0_take 116 = .ok (.aload_n 1, 1) := by decide +kernel
theorem dX0_take_117 : decode cX0_take 117 = .ok (.getfield 55, 3) := by decide +kernel
theorem dX0_take_120 : decode cX0_take 120 = .ok (.iload 4, 2) := by decide +kernel
theorem dX0_take_122 : decode cX0_take 122 = .ok (.iaload, 1) := by decide +kernel
theorem dX0_take_123 : decode cX0_take 123 = .ok (.aload_n 0, 1) := by decide +kernel
theorem dX0_take_124 : decode cX0_take 124 = .ok (.getfield 46, 3) := by decide +kernel
theorem dX0_take_127 : decode cX0_take 127 = .ok (.iastore, 1) := by decide +kernel
theorem dX0_take_128 : decode cX0_take 128 = .ok (.iload_n 3, 1) := by decide +kernel
theorem dX0_take_129 : decode cX0_take 129 = .ok (.aload_n 1, 1) := by decide +kernel
theorem dX0_take_130 : decode cX0_take 130 = .ok (.getfield 50, 3) := by decide +kernel
theorem dX0_take_133 : decode cX0_take 133 = .ok (.iload 4, 2) := by decide +kernel
theorem dX0_take_135 : decode cX0_take 135 = .ok (.iaload, 1) := by decide +kernel
theorem dX0_take_136 : decode cX0_take 136 = .ok (.aload_n 0, 1) := by decide +kernel
theorem dX0_take_137 : decode cX0_take 137 = .ok (.getfield 46, 3) := by decide +kernel
theorem dX0_take_140 : decode cX0_take 140 = .ok (.invokestatic 58, 3) := by decide +kernel
theorem dX0_take_143 : decode cX0_take 143 = .ok (.ishl, 1) := by decide +kernel
theorem dX0_take_144 : decode cX0_take 144 = .ok (.ior, 1) := by decide +kernel
theorem dX0_take_145 : decode cX0_take 145 = .ok (.istore_n 3, 1) := by decide +kernel
theorem dX0_take_146 : decode cX0_take 146 = .ok (.aload_n 0, 1) := by decide +kernel
theorem dX0_take_147 : decode cX0_take 147 = .ok (.dup, 1) := by decide +kernel
theorem dX0_take_148 : decode cX0_take 148 = .ok (.getfield 46, 3) := by decide +kernel
theorem dX0_take_151 : decode cX0_take 151 = .ok (.iconst 1, 1) := by decide +kernel
theorem dX0_take_152 : decode cX0_take 152 = .ok (.iadd, 1) := by decide +kernel
theorem dX0_take_153 : decode cX0_take 153 = .ok (.putfield 46, 3) := by decide +kernel
theorem dX0_take_156 : decode cX0_take 156 = .ok (.iinc 4 1, 3) := by decide +kernel
theorem dX0_take_159 : decode cX0_take 159 = .ok (.goto (-106), 3) := by decide +kernel
theorem dX0_take_162 : decode cX0_take 162 = .ok (.aload_n 0, 1) := by decide +kernel
theorem dX0_take_163 : decode cX0_take 163 = .ok (.invokevirtual 61, 3) := by decide +kernel
theorem dX0_take_166 : decode cX0_take 166 = .ok (.iload_n 3, 1) := by decide +kernel
theorem dX0_take_167 : decode cX0_take 167 = .ok (.ireturn, 1) := by decide +kernel
theorem l_X0_tk53 {d0 d dF : List Nat} {T : vT} {M : vM} {n : Nat} {Q : Option vA → vT → vM → Prop} {x2 : Int} (hB : vB T) (hW : sgW M 10 n) (h3 : exc (M 14) n ≤ 3)
    (go : ∀ (N : vM) (x4 : Option vA), tkI M N n n → vV m_X0_take d0 dF Q 162 [some (vR 100), some (vR 10), some (vI x2), some (vI (enK (M 15 0).toNat (xdg n (M 14)) (exc (M 14) n) : Nat)), x4] [] d T N) : ∀ p : Nat, p ≤ n → ∀ (N : vM), tkI M N n p →
    vV m_X0_take d0 dF Q 53 [some (vR 100), some (vR 10), some (vI x2), some (vI (enK (M 15 0).toNat (xdg n (M 14)) (exc (M 14) p) : Nat)), some (vI p)] [] d T N := by
  obtain ⟨hc, hn, p2, p3, h7, hfu, hfa, ptu, pm, pg, pp, plg, pst, p13, hd⟩ := hW
  change ∀ j, 0 ≤ M 11 j ∧ M 11 j ≤ 7 at h7
  change ∀ j, 0 ≤ M 14 j ∧ M 14 j ≤ M 12 j at ptu
  change ∀ j, 0 ≤ M 12 j ∧ M 12 j ≤ 15 at hfu
  change 0 ≤ M 15 0 ∧ M 15 0 ≤ 7 at pm
  have hx16 : ∀ k, xdg n (M 14) k < 16 := fun k => by unfold xdg; split; have := ptu (exi (M 14) n k); have := hfu (exi (M 14) n k); omega; decide
  refine vUp ?_
  intro p hpn ih N hI
  have hI2 := hI
  obtain ⟨a1, a2, a3, a4, a5, a6⟩ := hI2
  have r10 : N 10 = M 10 := a1 10 (by decide)
  have r11 : N 11 = M 11 := a1 11 (by decide)
  have r12 : N 12 = M 12 := a1 12 (by decide)
  have r13 : N 13 = M 13 := a1 13 (by decide)
  have r14 : N 14 = M 14 := a1 14 (by decide)
  have hcp := exc_mono (M 14) hpn
  have hpl := h7 p
  have htp := ptu p
  have hfp := hfu p
  refine vV.iload dX0_take_53 rfl ?_
  refine vV.aload_n dX0_take_55 rfl ?_
  refine vV.geti (z := 0) dX0_take_56 fl_X0_49 (by first | rfl | assumption) rfl rfl ?_
  rw [r10, hc]
  refine vV.icmp_ge (tgt := 162) dX0_take_59 (by decide) (fun h59 => ?_) (fun h59 => ?_)
  · skip
    have hen : exc (M 14) p = exc (M 14) n := by
      rcases (show p = n ∨ 3 ≤ exc (M 14) p by omega) with z | z
      · rw [z]
      · omega
    have hIn : tkI M N n n := by
      refine ⟨a1, a2, by rw [← hen]; exact a3, a4, fun k hk => ?_, fun w hw => ?_⟩
      · rw [exi_p hpn (by omega)]; exact a5 k (by omega)
      · rw [a6 w hw, ← hen]; congr 1; exact pFind_cg (fun k hk => by rw [exi_p hpn hk])
    rw [hen]
    exact go N _ hIn
  · skip
    refine vV.aload_n dX0_take_62 rfl ?_
    refine vV.geti (z := 0) dX0_take_63 fl_X0_46 (by first | rfl | assumption) rfl rfl ?_
    rw [a3]
    refine vV.iconst dX0_take_66 (by decide) ?_
    refine vV.icmp_ge (tgt := 162) dX0_take_67 (by decide) (fun h67 => ?_) (fun h67 => ?_)
    · skip
      have hen : exc (M 14) p = exc (M 14) n := by
        rcases (show p = n ∨ 3 ≤ exc (M 14) p by omega) with z | z
        · rw [z]
        · omega
      have hIn : tkI M N n n := by
        refine ⟨a1, a2, by rw [← hen]; exact a3, a4, fun k hk => ?_, fun w hw => ?_⟩
        · rw [exi_p hpn (by omega)]; exact a5 k (by omega)
        · rw [a6 w hw, ← hen]; congr 1; exact pFind_cg (fun k hk => by rw [exi_p hpn hk])
      rw [hen]
      exact go N _ hIn
    · skip
      refine vV.aload_n dX0_take_70 rfl ?_
      refine vV.getr dX0_take_71 fl_X0_50 (by first | rfl | assumption) rfl (by first | assumption | exact hB _ _ _ rfl) ?_
      refine vV.iload dX0_take_74 rfl ?_
      refine vV.iald dX0_take_76 (by first | rfl | assumption) (by omega) (by omega) ?_
      rw [r14]
      refine vV.if_le (tgt := 156) dX0_take_77 (by decide) (fun h77 => ?_) (fun h77 => ?_)
      · skip
        refine vV.iinc (L' := [_, _, _, _, _]) dX0_take_156 (by decide) rfl (⟨by omega, by omega⟩) rfl ?_
        refine vV.goto (tgt := 53) dX0_take_159 (by decide) ?_
        first
        | (have ht : ¬ 0 < M 14 p := by omega
           rw [← exc_f ht]
           exact ih (by omega) N (hI.no ht))
        | exact ih (by omega) _ (hI.ye hd (by omega) (by omega) hpl)
      · skip
        refine vV.aload_n dX0_take_80 rfl ?_
        refine vV.getr dX0_take_81 fl_X0_11 (by first | rfl | assumption) rfl (by first | assumption | exact hB _ _ _ rfl) ?_
        refine vV.aload_n dX0_take_84 rfl ?_
        refine vV.geti (z := 0) dX0_take_85 fl_X0_46 (by first | rfl | assumption) rfl rfl ?_
        rw [a3]
        refine vV.aload_n dX0_take_88 rfl ?_
        refine vV.getr dX0_take_89 fl_X0_53 (by first | rfl | assumption) rfl (by first | assumption | exact hB _ _ _ rfl) ?_
        refine vV.iload dX0_take_92 rfl ?_
        refine vV.iald dX0_take_94 (by first | rfl | assumption) (by omega) (by omega) ?_
        rw [r12]
        refine vV.iast dX0_take_95 (by first | rfl | assumption) (by omega) (by omega) ?_
        refine vV.aload_n dX0_take_96 rfl ?_
        refine vV.getr dX0_take_97 fl_X0_15 (by first | rfl | assumption) rfl (by first | assumption | exact hB _ _ _ rfl) ?_
        refine vV.aload_n dX0_take_100 rfl ?_
        refine vV.geti (z := 0) dX0_take_101 fl_X0_46 (by first | rfl | assumption) rfl rfl ?_
        rw [vUpd_nk (by decide), a3]
        refine vV.aload_n dX0_take_104 rfl ?_
        refine vV.getr dX0_take_105 fl_X0_54 (by first | rfl | assumption) rfl (by first | assumption | exact hB _ _ _ rfl) ?_
        refine vV.iload dX0_take_108 rfl ?_
        refine vV.iald dX0_take_110 (by first | rfl | assumption) (by omega) (by omega) ?_
        rw [vUpd_row (show (13 : Nat) ≠ 102 by decide), r13]
        refine vV.iast dX0_take_111 (by first | rfl | assumption) (by omega) (by omega) ?_
        refine vV.aload_n dX0_take_112 rfl ?_
        refine vV.getr dX0_take_113 fl_X0_18 (by first | rfl | assumption) rfl (by first | assumption | exact hB _ _ _ rfl) ?_
        refine vV.aload_n dX0_take_116 rfl ?_
        refine vV.getr dX0_take_117 fl_X0_55 (by first | rfl | assumption) rfl (by first | assumption | exact hB _ _ _ rfl) ?_
        refine vV.iload dX0_take_120 rfl ?_
        refine vV.iald dX0_take_122 (by first | rfl | assumption) (by omega) (by omega) ?_
        rw [vUpd_nk (by decide), vUpd_nk (by decide), r11]
        refine vV.aload_n dX0_take_123 rfl ?_
        refine vV.geti (z := 0) dX0_take_124 fl_X0_46 (by first | rfl | assumption) rfl rfl ?_
        rw [vUpd_nk (by decide), vUpd_nk (by decide), a3]
        refine vV.iast dX0_take_127 (by first | rfl | assumption) (by omega) (by omega) ?_
        refine vV.iload_n dX0_take_128 rfl ?_
        refine vV.aload_n dX0_take_129 rfl ?_
        refine vV.getr dX0_take_130 fl_X0_50 (by first | rfl | assumption) rfl (by first | assumption | exact hB _ _ _ rfl) ?_
        refine vV.iload dX0_take_133 rfl ?_
        refine vV.iald dX0_take_135 (by first | rfl | assumption) (by omega) (by omega) ?_
        rw [vUpd_nk (by decide), vUpd_nk (by decide), vUpd_nk (by decide), r14]
        refine vV.aload_n dX0_take_136 rfl ?_
        refine vV.geti (z := 0) dX0_take_137 fl_X0_46 (by first | rfl | assumption) rfl rfl ?_
        rw [vUpd_nk (by decide), vUpd_nk (by decide), vUpd_nk (by decide), a3]
        refine vV.cSi dX0_take_140 ml_X0_58 cw_X0_shiftOf sw_X0_shiftOf (by unfold vRoom; decide) (c_X0_shiftOf (by omega)) rfl rfl (Nat.le_of_ble_eq_true rfl) ?_
        rintro x140 _ _ hx140 ⟨rfl, rfl, rfl⟩
        have hct := exc_t (show 0 < M 14 p by omega)
        have hcp1 := exc_mono (M 14) (show p + 1 ≤ n by omega)
        have hxp : M 14 p = ((xdg n (M 14) (exc (M 14) p) : Nat) : Int) := by { unfold xdg; rw [if_pos (by omega), exi_p (show p + 1 ≤ n by omega) (by omega), exi_t (by omega)]; omega }
        refine vV.ishl dX0_take_143 ?_
        refine vV.ior dX0_take_144 ?_
        rw [hxp, enK_or (by omega) (by omega) (fun j _ => hx16 j), ← hct]
        refine vV.istore_n (L' := [_, _, _, _, _]) dX0_take_145 (by decide) rfl ?_
        refine vV.aload_n dX0_take_146 rfl ?_
        refine vV.dup dX0_take_147 rfl ?_
        refine vV.geti (z := 0) dX0_take_148 fl_X0_46 (by first | rfl | assumption) rfl rfl ?_
        rw [vUpd_nk (by decide), vUpd_nk (by decide), vUpd_nk (by decide), a3]
        refine vV.iconst dX0_take_151 (by decide) ?_
        refine vV.iadd dX0_take_152 (⟨by omega, by omega⟩) ?_
        refine vV.puti (z := 0) dX0_take_153 fl_X0_46 (by first | rfl | assumption) rfl rfl ?_
        refine vV.iinc (L' := [_, _, _, _, _]) dX0_take_156 (by decide) rfl (⟨by omega, by omega⟩) rfl ?_
        refine vV.goto (tgt := 53) dX0_take_159 (by decide) ?_
        first
        | (have ht : ¬ 0 < M 14 p := by omega
           rw [← exc_f ht]
           exact ih (by omega) N (hI.no ht))
        | exact ih (by omega) _ (hI.ye hd (by omega) (by omega) hpl)
