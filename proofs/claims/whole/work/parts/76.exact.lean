/-! ===== own: AllWays.measure ===== -/
theorem dX0_put_0 : decode cX0_put 0 = .ok (.iload_n 1, 1) := by decide +kernel
theorem dX0_put_1 : decode cX0_put 1 = .ok (.aload_n 0, 1) := by decide +kernel
theorem dX0_put_2 : decode cX0_put 2 = .ok (.getfield 68, 3) := by decide +kernel
theorem dX0_put_5 : decode cX0_put 5 = .ok (.arraylength, 1) := by decide +kernel
theorem dX0_put_6 : decode cX0_put 6 = .ok (.if_icmp .lt 5, 3) := by decide +kernel
theorem dX0_put_9 : decode cX0_put 9 = .ok (.iload_n 1, 1) := by decide +kernel
theorem dX0_put_10 : decode cX0_put 10 = .ok (.ireturn, 1) := by decide +kernel
theorem dX0_put_11 : decode cX0_put 11 = .ok (.aload_n 0, 1) := by decide +kernel
theorem dX0_put_12 : decode cX0_put 12 = .ok (.getfield 68, 3) := by decide +kernel
theorem dX0_put_15 : decode cX0_put 15 = .ok (.iload_n 1, 1) := by decide +kernel
theorem dX0_put_16 : decode cX0_put 16 = .ok (.iload_n 2, 1) := by decide +kernel
theorem dX0_put_17 : decode cX0_put 17 = .ok (.iastore, 1) := by decide +kernel
theorem dX0_put_18 : decode cX0_put 18 = .ok (.iload_n 1, 1) := by decide +kernel
theorem dX0_put_19 : decode cX0_put 19 = .ok (.iconst 1, 1) := by decide +kernel
theorem dX0_put_20 : decode cX0_put 20 = .ok (.iadd, 1) := by decide +kernel
theorem dX0_put_21 : decode cX0_put 21 = .ok (.ireturn, 1) := by decide +kernel
theorem c_X0_put {d : List Nat} {T : vT} {M : vM} {n : Nat} {e : Int} (hA : awT T) (hn : n < 32768) : vCon m_X0_put d d [vR 100, vI n, vI e] T M (vPi fun r T1 M1 => r = (n : Int) + 1 ∧ T = T1 ∧ M1 = vUpd M 107 n e) := by
  obtain ⟨a1, a2, a3⟩ := hA
  refine vCon.of (by decide) rfl rfl (Nat.le_of_ble_eq_true rfl) ?_
  refine vV.iload_n dX0_put_0 rfl ?_
  refine vV.aload_n dX0_put_1 rfl ?_
  refine vV.getr dX0_put_2 fl_X0_68 (by first | rfl | assumption) rfl (by first | assumption | exact hB _ _ _ rfl) ?_
  refine vV.alen (v := 32768) dX0_put_5 (by first | rfl | assumption) rfl (by decide) ?_
  refine vV.icmp_lt (tgt := 11) dX0_put_6 (by decide) (fun h6 => ?_) (fun h6 => ?_)
  · skip
    refine vV.aload_n dX0_put_11 rfl ?_
    refine vV.getr dX0_put_12 fl_X0_68 (by first | rfl | assumption) rfl (by first | assumption | exact hB _ _ _ rfl) ?_
    refine vV.iload_n dX0_put_15 rfl ?_
    refine vV.iload_n dX0_put_16 rfl ?_
    refine vV.iast dX0_put_17 (by first | rfl | assumption) (by omega) (by omega) ?_
    refine vV.iload_n dX0_put_18 rfl ?_
    refine vV.iconst dX0_put_19 (by decide) ?_
    refine vV.iadd dX0_put_20 (⟨by omega, by omega⟩) ?_
    refine vV.ri dX0_put_21 rfl ?_
    exact ⟨rfl, rfl, rfl⟩
  · skip
    omega
theorem or_open {w : Nat} (hw : w < 65536) : vOr 65536 w = ((65536 + w : Nat) : Int) := by
  have h := vOr_sum (a := w) (k := 16) 1 hw (by omega)
  rw [show ((2 ^ 16 * 1 : Nat) : Int) = ((65536 : Nat) : Int) from rfl] at h
  rw [show (65536 : Int) = ((65536 : Nat) : Int) from rfl, vOr_nat (by decide) (by omega), Nat.or_comm, ← vOr_nat (by omega) (by decide), h]
theorem dX0_raise_0 : decode cX0_raise 0 = .ok (.iload_n 2, 1) := by decide +kernel
theorem dX0_raise_1 : decode cX0_raise 1 = .ok (.aload_n 0, 1) := by decide +kernel
theorem dX0_raise_2 : decode cX0_raise 2 = .ok (.iload_n 1, 1) := by decide +kernel
theorem dX0_raise_3 : decode cX0_raise 3 = .ok (.invokevirtual 90, 3) := by decide +kernel
theorem dX0_raise_6 : decode cX0_raise 6 = .ok (.if_icmp .le 12, 3) := by decide +kernel
theorem dX0_raise_9 : decode cX0_raise 9 = .ok (.aload_n 0, 1) := by decide +kernel
theorem dX0_raise_10 : decode cX0_raise 10 = .ok (.iload_n 1, 1) := by decide +kernel
theorem dX0_raise_11 : decode cX0_raise 11 = .ok (.ldc 79, 2) := by decide +kernel
theorem dX0_raise_13 : decode cX0_raise 13 = .ok (.iload_n 2, 1) := by decide +kernel
theorem dX0_raise_14 : decode cX0_raise 14 = .ok (.ior, 1) := by decide +kernel
theorem dX0_raise_15 : decode cX0_raise 15 = .ok (.invokevirtual 93, 3) := by decide +kernel
theorem dX0_raise_18 : decode cX0_raise 18 = .ok (.return_, 1) := by decide +kernel
theorem c_X0_raise {d : List Nat} {T : vT} {M : vM} {p v w : Nat} (hA : awT T) (hM : awM M) (hp : p < 32768) (hk : awK M p = some (65536 + v)) (hv : v ≤ 32768) (hw : w ≤ 32768) : vCon m_X0_raise d d [vR 100, vI p, vI w] T M (vPv fun T1 M1 => T = T1 ∧ M1 = rsM M p v w) := by
  refine vCon.of (by decide) rfl rfl (Nat.le_of_ble_eq_true rfl) ?_
  refine vV.iload_n dX0_raise_0 rfl ?_
  refine vV.aload_n dX0_raise_1 rfl ?_
  refine vV.iload_n dX0_raise_2 rfl ?_
  refine vV.cVi dX0_raise_3 ml_X0_90 cw_X0_valueOf iw_X0_valueOf (by first | rfl | assumption) rfl (by unfold vRoom; decide) (c_X0_valueOf hA hM hp hk) rfl rfl (Nat.le_of_ble_eq_true rfl) ?_
  rintro x3 _ _ hx3 ⟨rfl, rfl, rfl⟩
  rw [show (65536 + v) % 65536 = v by omega]
  refine vV.icmp_le (tgt := 18) dX0_raise_6 (by decide) (fun h6 => ?_) (fun h6 => ?_)
  · skip
    refine vV.rv dX0_raise_18 rfl ?_
    unfold rsM; first | (rw [if_pos (by omega)]; exact ⟨rfl, rfl⟩) | (rw [if_neg (by omega)]; exact ⟨rfl, rfl⟩)
  · skip
    refine vV.aload_n dX0_raise_9 rfl ?_
    refine vV.iload_n dX0_raise_10 rfl ?_
    refine vV.ldc (v := 65536) dX0_raise_11 kc_X0_79 (by decide) (by decide) ?_
    refine vV.iload_n dX0_raise_13 rfl ?_
    refine vV.ior dX0_raise_14 ?_
    rw [or_open (by omega)]
    refine vV.cVv dX0_raise_15 ml_X0_93 cw_X0_mark iw_X0_mark (by first | rfl | assumption) rfl (by unfold vRoom; decide) (c_X0_mark hA hM hp (by omega)) rfl rfl (Nat.le_of_ble_eq_true rfl) ?_
    rintro _ _ ⟨rfl, rfl⟩
    refine vV.rv dX0_raise_18 rfl ?_
    unfold rsM; first | (rw [if_pos (by omega)]; exact ⟨rfl, rfl⟩) | (rw [if_neg (by omega)]; exact ⟨rfl, rfl⟩)
def mpM (M : vM) (st : Nat → xS) : Nat → vM
  | 0 => M
  | i + 1 => vUpd (mpM M st i) 106 (enC (st i) : Nat) (M 100 5 * 131072 + 65535)
theorem mpM_row {M : vM} {st : Nat → xS} {k : Nat} (hk : k ≠ 106) : ∀ i, mpM M st i k = M k
  | 0 => rfl
  | i + 1 => by unfold mpM; rw [vUpd_row hk, mpM_row hk i]
theorem mpM_M {M : vM} {st : Nat → xS} (hM : awM M) : ∀ i, awM (mpM M st i)
  | 0 => hM
  | i + 1 => by
    have h := awM_mark (p := enC (st i)) (v := 65535) (mpM_M (st := st) hM i) (by omega)
    rw [mpM_row (by decide)] at h
    exact h
theorem mpM_K {M : vM} {st : Nat → xS} : ∀ i p, awK (mpM M st (i + 1)) p = if p = enC (st i) then some 65535 else awK (mpM M st i) p := fun i p => by
  have h := awK_mark (M := mpM M st i) (p := enC (st i)) (v := 65535) (by omega) p
  rw [mpM_row (by decide)] at h
  exact h
theorem mpM_in {M : vM} {st : Nat → xS} : ∀ n i, i < n → awK (mpM M st n) (enC (st i)) = some 65535
  | 0, i, h => by omega
  | n + 1, i, h => by
    rw [mpM_K]
    by_cases e : enC (st i) = enC (st n)
    · rw [if_pos e]
    · rw [if_neg e]; exact mpM_in n i (by rcases Nat.lt_or_ge i n with z | z; exact z; rw [show i = n by omega] at e; exact absurd rfl e)
theorem mpM_out {M : vM} {st : Nat → xS} {p : Nat} : ∀ n, (∀ i, i < n → enC (st i) ≠ p) → awK (mpM M st n) p = awK M p
  | 0, _ => rfl
  | n + 1, h => by rw [mpM_K, if_neg (fun z => h n (by omega) z.symm)]; exact mpM_out n (fun i hi => h i (by omega))
theorem shr3 {p t : Nat} (hp : p < 32768) (ht : t ≤ 4) : vShr ((p * 8 + t : Nat) : Int) 3 = (p : Nat) ∧ vAnd ((p * 8 + t : Nat) : Int) 7 = (t : Nat) := by
  constructor
  · rw [show (3 : Int) = ((3 : Nat) : Int) from rfl, vShr_nat (by decide) (by omega)]; congr 1; omega
  · rw [show (7 : Int) = ((2 ^ 3 - 1 : Nat) : Int) from rfl, vAnd_nat 3 (by decide) (by omega)]; congr 1; omega
theorem dX0_markPath_0 : decode cX0_markPath 0 = .ok (.iconst 0, 1) := by decide +kernel
theorem dX0_markPath_1 : decode cX0_markPath 1 = .ok (.istore_n 2, 1) := by decide +kernel
theorem dX0_markPath_2 : decode cX0_markPath 2 = .ok (.iload_n 2, 1) := by decide +kernel
theorem dX0_markPath_3 : decode cX0_markPath 3 = .ok (.iload_n 1, 1) := by decide +kernel
theorem dX0_markPath_4 : decode cX0_markPath 4 = .ok (.if_icmp .ge 23, 3) := by decide +kernel
theorem dX0_markPath_7 : decode cX0_markPath 7 = .ok (.aload_n 0, 1) := by decide +kernel
theorem dX0_markPath_8 : decode cX0_markPath 8 = .ok (.aload_n 0, 1) := by decide +kernel
theorem dX0_markPath_9 : decode cX0_markPath 9 = .ok (.getfield 68, 3) := by decide +kernel
theorem dX0_markPath_12 : decode cX0_markPath 12 = .ok (.iload_n 2, 1) := by decide +kernel
theorem dX0_markPath_13 : decode cX0_markPath 13 = .ok (.iaload, 1) := by decide +kernel
theorem dX0_markPath_14 : decode cX0_markPath 14 = .ok (.iconst 3, 1) := by decide +kernel
theorem dX0_markPath_15 : decode cX0_markPath 15 = .ok (.ishr, 1) := by decide +kernel
theorem dX0_markPath_16 : decode cX0_markPath 16 = .ok (.ldc 78, 2) := by decide +kernel
theorem dX0_markPath_18 : decode cX0_markPath 18 = .ok (.invokevirtual 93, 3) := by decide +kernel
theorem dX0_markPath_21 : decode cX0_markPath 21 = .ok (.iinc 2 1, 3) := by decide +kernel
theorem dX0_markPath_24 : decode cX0_markPath 24 = .ok (.goto (-22), 3) := by decide +kernel
theorem dX0_markPath_27 : decode cX0_markPath 27 = .ok (.ldc 78, 2) := by decide +kernel
theorem dX0_markPath_29 : decode cX0_markPath 29 = .ok (.ireturn, 1) := by decide +kernel
theorem l_X0_mp {d : List Nat} {T : vT} {M : vM} {n : Nat} {st : Nat → xS} {th : Nat → Nat} (hA : awT T) (hM : awM M) (hn : n ≤ 32768) (hl : ∀ i, i < n → M 107 i = ((enC (st i) * 8 + th i : Nat) : Int) ∧ th i ≤ 4 ∧ enC (st i) < 32768) : ∀ i, i ≤ n →
    vV m_X0_markPath d d (vPi fun r T1 M1 => r = 65535 ∧ T = T1 ∧ M1 = mpM M st n) 2 [some (vR 100), some (vI n), some (vI i)] [] d T (mpM M st i) := by
  refine vUp ?_
  intro i hi ih
  have e107 : mpM M st i 107 = M 107 := mpM_row (by decide) i
  have hA2 := hA
  obtain ⟨a1, a2, a3⟩ := hA2
  refine vV.iload_n dX0_markPath_2 rfl ?_
  refine vV.iload_n dX0_markPath_3 rfl ?_
  refine vV.icmp_ge (tgt := 27) dX0_markPath_4 (by decide) (fun h4 => ?_) (fun h4 => ?_)
  · skip
    refine vV.ldc (v := 65535) dX0_markPath_27 kc_X0_78 (by decide) (by decide) ?_
    refine vV.ri dX0_markPath_29 rfl ?_
    rw [show i = n by omega]; exact ⟨rfl, rfl, rfl⟩
  · skip
    obtain ⟨l1, l2, l3⟩ := hl i (by omega)
    refine vV.aload_n dX0_markPath_7 rfl ?_
    refine vV.aload_n dX0_markPath_8 rfl ?_
    refine vV.getr dX0_markPath_9 fl_X0_68 (by first | rfl | assumption) rfl (by first | assumption | exact hB _ _ _ rfl) ?_
    refine vV.iload_n dX0_markPath_12 rfl ?_
    refine vV.iald dX0_markPath_13 (by first | rfl | assumption) (by omega) (by omega) ?_
    rw [e107, l1]
    refine vV.iconst dX0_markPath_14 (by decide) ?_
    refine vV.ishr dX0_markPath_15 ?_
    rw [(shr3 l3 l2).1]
    refine vV.ldc (v := 65535) dX0_markPath_16 kc_X0_78 (by decide) (by decide) ?_
    refine vV.cVv dX0_markPath_18 ml_X0_93 cw_X0_mark iw_X0_mark (by first | rfl | assumption) rfl (by unfold vRoom; decide) (c_X0_mark hA (mpM_M hM i) l3 (by omega)) rfl rfl (Nat.le_of_ble_eq_true rfl) ?_
    rintro _ _ ⟨rfl, rfl⟩
    rw [mpM_row (show (100 : Nat) ≠ 106 by decide) i]
    refine vV.iinc (L' := [_, _, _]) dX0_markPath_21 (by decide) rfl (⟨by omega, by omega⟩) rfl ?_
    refine vV.goto (tgt := 2) dX0_markPath_24 (by decide) ?_
    exact ih (by omega)
theorem c_X0_markPath {d : List Nat} {T : vT} {M : vM} {n : Nat} {st : Nat → xS} {th : Nat → Nat} (hA : awT T) (hM : awM M) (hn : n ≤ 32768) (hl : ∀ i, i < n → M 107 i = ((enC (st i) * 8 + th i : Nat) : Int) ∧ th i ≤ 4 ∧ enC (st i) < 32768) : vCon m_X0_markPath d d [vR 100, vI n] T M (vPi fun r T1 M1 => r = 65535 ∧ T = T1 ∧ M1 = mpM M st n) := by
  refine vCon.of (by decide) rfl rfl (Nat.le_of_ble_eq_true rfl) ?_
  refine vV.iconst dX0_markPath_0 (by decide) ?_
  refine vV.istore_n (L' := [_, _, _]) dX0_markPath_1 (by decide) rfl ?_
  exact l_X0_mp hA hM hn hl 0 (by omega)
/-- behind measure -/
def msQ (E : xE) (s0 : xS) (M M1 : vM) (r : Int) : Prop := mSame [106, 107] M M1 ∧ awM M1 ∧ awP E M1 ∧ xLq E s0 r
theorem xC_o {M N : vM} {E : xE} (h : mSame [106, 107] M N) (hC : xC M E) : xC N E := by
  unfold xC at hC ⊢
  rw [h 100 (by decide), h 102 (by decide), h 103 (by decide), h 104 (by decide)]
  exact hC
theorem mSame_mark {M N : vM} {p y : Int} (h : mSame [106, 107] M N) : mSame [106, 107] M (vUpd N 106 p y) := fun k hk => by rw [vUpd_row (fun z => hk (by rw [z]; decide))]; exact h k hk
theorem mSame_list {M N : vM} {p y : Int} (h : mSame [106, 107] M N) : mSame [106, 107] M (vUpd N 107 p y) := fun k hk => by rw [vUpd_row (fun z => hk (by rw [z]; decide))]; exact h k hk
theorem mSame_rs {M N : vM} {p v w : Nat} (h : mSame [106, 107] M N) : mSame [106, 107] M (rsM N p v w) := by
  unfold rsM; split
  · exact mSame_mark h
  · exact h
theorem dfI.fin {E : xE} {M : vM} {st : Nat → xS} {th : Nat → Nat} {cnt : Nat} {ord : Nat → Nat} {s0 : xS} {q : Nat} (h : dfI E M 0 q st th cnt ord) (hs0 : xSt E s0) (ho : ord 0 = enC s0) (hc : 0 < cnt) : awM M ∧ awP E M ∧ ∃ w, awK M (enC s0) = some w ∧ xLq E s0 ((w % 65536 : Nat) : Int) := by
  obtain ⟨a1, a2, a3, a4, a5, a6, a7, a8⟩ := h
  have hP : awP E M := fun s w hs hw => by
    rcases a5 s w hs hw with z | ⟨i, i1, -⟩
    · exact z
    · omega
  obtain ⟨w, hw⟩ := Option.isSome_iff_exists.mp (a6 0 hc).2
  rw [ho] at hw
  refine ⟨a1, hP, w, hw, ?_⟩
  rcases hP s0 w hs0 hw with ⟨z1, z2⟩ | ⟨z1, z2⟩
  · exact Or.inr ⟨w, by rw [Nat.mod_eq_of_lt (by omega)], z1, z2⟩
  · exact Or.inl ⟨by rw [z1]; rfl, z2⟩
theorem mp_P {E : xE} {M : vM} {q : Nat} {st : Nat → xS} {th : Nat → Nat} {cnt : Nat} {ord : Nat → Nat} (hE : xEok E) (h : dfI E M (q + 1) (q + 2) st th cnt ord) (hev : ∀ i, i < q + 1 → xever E (st i)) : awP E (mpM M st (q + 1)) := by
  obtain ⟨a1, a2, a3, a4, a5, a6, a7, a8⟩ := h
  intro s w hs hw
  rcases Classical.em (∃ i, i < q + 1 ∧ enC (st i) = enC s) with ⟨i, i1, i2⟩ | hno
  · rw [← i2, mpM_in _ _ i1] at hw
    cases hw
    rw [← enC_inj ((a2 i i1).1.ok hE) (hs.ok hE) i2]
    exact Or.inr ⟨rfl, hev i i1⟩
  · rw [mpM_out _ (fun i hi z => hno ⟨i, hi, z⟩)] at hw
    rcases a5 s w hs hw with z | ⟨i, i1, i2⟩
    · exact z
    · exact absurd ⟨i, i1, by rw [i2]⟩ hno
theorem dfI_0 {E : xE} {M : vM} {s0 : xS} (hE : xEok E) (hs0 : xSt E s0) (hM : awM M) (hP : awP E M) (hK : awK M (enC s0) = none) :
    dfI E (vUpd (vUpd M 106 (enC s0 : Nat) (M 100 5 * 131072 + 65536)) 107 0 ((enC s0 * 8 : Nat) : Int)) 1 1 (fun _ => s0) (fun _ => 0) 1 (fun _ => enC s0) := by
  have hK2 : ∀ p, awK (vUpd (vUpd M 106 (enC s0 : Nat) (M 100 5 * 131072 + 65536)) 107 0 ((enC s0 * 8 : Nat) : Int)) p = if p = enC s0 then some 65536 else awK M p := fun p => by
    rw [awK_107, awK_mark (by omega)]; rfl
  refine ⟨awM_107 _ _ (awM_mark hM (by omega)), fun i hi => ⟨hs0, by show (0 : Nat) ≤ 4; omega, ?_, 0, by rw [hK2, if_pos rfl], by omega, trivial, fun t s' h1 => absurd h1 (Nat.not_lt_zero t)⟩, fun i j hi hj _ => by omega, fun i hi => by omega, fun s w hs hw => ?_, fun i hi => ⟨enC_lt (hs0.ok hE), by rw [hK2, if_pos rfl]; rfl⟩, fun i j hi hj _ => by omega, by omega⟩
  · rw [show (i : Int) = 0 by omega, vUpd_s]; simp
  · rw [hK2] at hw
    by_cases e : enC s = enC s0
    · exact Or.inr ⟨0, by omega, (enC_inj (hs.ok hE) (hs0.ok hE) e).symm⟩
    · rw [if_neg e] at hw; exact Or.inl (hP s w hs hw)
theorem dX0_measure_0 : decode cX0_measure 0 = .ok (.aload_n 0, 1) := by decide +kernel
theorem dX0_measure_1 : decode cX0_measure 1 = .ok (.iload_n 1, 1) := by decide +kernel
theorem dX0_measure_2 : decode cX0_measure 2 = .ok (.invokevirtual 86, 3) := by decide +kernel
theorem dX0_measure_5 : decode cX0_measure 5 = .ok (.ifCond .eq 9, 3) := by decide +kernel
theorem dX0_measure_8 : decode cX0_measure 8 = .ok (.aload_n 0, 1) := by decide +kernel
theorem dX0_measure_9 : decode cX0_measure 9 = .ok (.iload_n 1, 1) := by decide +kernel
theorem dX0_measure_10 : decode cX0_measure 10 = .ok (.invokevirtual 90, 3) := by decide +kernel
theorem dX0_measure_13 : decode cX0_measure 13 = .ok (.ireturn, 1) := by decide +kernel
theorem dX0_measure_14 : decode cX0_measure 14 = .ok (.aload_n 0, 1) := by decide +kernel
theorem dX0_measure_15 : decode cX0_measure 15 = .ok (.iload_n 1, 1) := by decide +kernel
theorem dX0_measure_16 : decode cX0_measure 16 = .ok (.ldc 79, 2) := by decide +kernel
theorem dX0_measure_18 : decode cX0_measure 18 = .ok (.invokevirtual 93, 3) := by decide +kernel
theorem dX0_measure_21 : decode cX0_measure 21 = .ok (.aload_n 0, 1) := by decide +kernel
theorem dX0_measure_22 : decode cX0_measure 22 = .ok (.getfield 68, 3) := by decide +kernel
theorem dX0_measure_25 : decode cX0_measure 25 = .ok (.iconst 0, 1) := by decide +kernel
theorem dX0_measure_26 : decode cX0_measure 26 = .ok (.iload_n 1, 1) := by decide +kernel
theorem dX0_measure_27 : decode cX0_measure 27 = .ok (.iconst 3, 1) := by decide +kernel
theorem dX0_measure_28 : decode cX0_measure 28 = .ok (.ishl, 1) := by decide +kernel
theorem dX0_measure_29 : decode cX0_measure 29 = .ok (.iastore, 1) := by decide +kernel
theorem dX0_measure_30 : decode cX0_measure 30 = .ok (.iconst 1, 1) := by decide +kernel
theorem dX0_measure_31 : decode cX0_measure 31 = .ok (.istore_n 2, 1) := by decide +kernel
theorem dX0_measure_32 : decode cX0_measure 32 = .ok (.iconst 0, 1) := by decide +kernel
theorem dX0_measure_33 : decode cX0_measure 33 = .ok (.istore_n 3, 1) := by decide +kernel
theorem dX0_measure_34 : decode cX0_measure 34 = .ok (.iload_n 2, 1) := by decide +kernel
theorem dX0_measure_35 : decode cX0_measure 35 = .ok (.ifCond .le 190, 3) := by decide +kernel
theorem dX0_measure_38 : decode cX0_measure 38 = .ok (.iload_n 3, 1) := by decide +kernel
theorem dX0_measure_39 : decode cX0_measure 39 = .ok (.ldc 97, 2) := by decide +kernel
theorem dX0_measure_41 : decode cX0_measure 41 = .ok (.if_icmp .ge 184, 3) := by decide +kernel
theorem dX0_measure_44 : decode cX0_measure 44 = .ok (.aload_n 0, 1) := by decide +kernel
theorem dX0_measure_45 : decode cX0_measure 45 = .ok (.getfield 68, 3) := by decide +kernel
theorem dX0_measure_48 : decode cX0_measure 48 = .ok (.iload_n 2, 1) := by decide +kernel
theorem dX0_measure_49 : decode cX0_measure 49 = .ok (.iconst 1, 1) := by decide +kernel
theorem dX0_measure_50 : decode cX0_measure 50 = .ok (.isub, 1) := by decide +kernel
theorem dX0_measure_51 : decode cX0_measure 51 = .ok (.iaload, 1) := by decide +kernel
theorem dX0_measure_52 : decode cX0_measure 52 = .ok (.iconst 3, 1) := by decide +kernel
theorem dX0_measure_53 : decode cX0_measure 53 = .ok (.ishr, 1) := by decide +kernel
theorem dX0_measure_54 : decode cX0_measure 54 = .ok (.istore 4, 2) := by decide +kernel
theorem dX0_measure_56 : decode cX0_measure 56 = .ok (.aload_n 0, 1) := by decide +kernel
theorem dX0_measure_57 : decode cX0_measure 57 = .ok (.getfield 68, 3) := by decide +kernel
theorem dX0_measure_60 : decode cX0_measure 60 = .ok (.iload_n 2, 1) := by decide +kernel
theorem dX0_measure_61 : decode cX0_measure 61 = .ok (.iconst 1, 1) := by decide +kernel
theorem dX0_measure_62 : decode cX0_measure 62 = .ok (.isub, 1) := by decide +kernel
theorem dX0_measure_63 : decode cX0_measure 63 = .ok (.iaload, 1) := by decide +kernel
theorem dX0_measure_64 : decode cX0_measure 64 = .ok (.bipush 7, 2) := by decide +kernel
theorem dX0_measure_66 : decode cX0_measure 66 = .ok (.iand, 1) := by decide +kernel
theorem dX0_measure_67 : decode cX0_measure 67 = .ok (.istore 5, 2) := by decide +kernel
theorem dX0_measure_69 : decode cX0_measure 69 = .ok (.iload 5, 2) := by decide +kernel
theorem dX0_measure_71 : decode cX0_measure 71 = .ok (.iconst 3, 1) := by decide +kernel
theorem dX0_measure_72 : decode cX0_measure 72 = .ok (.if_icmp .le 47, 3) := by decide +kernel
theorem dX0_measure_75 : decode cX0_measure 75 = .ok (.iinc 2 (-1), 3) := by decide +kernel
theorem dX0_measure_78 : decode cX0_measure 78 = .ok (.aload_n 0, 1) := by decide +kernel
theorem dX0_measure_79 : decode cX0_measure 79 = .ok (.iload 4, 2) := by decide +kernel
theorem dX0_measure_81 : decode cX0_measure 81 = .ok (.aload_n 0, 1) := by decide +kernel
theorem dX0_measure_82 : decode cX0_measure 82 = .ok (.iload 4, 2) := by decide +kernel
theorem dX0_measure_84 : decode cX0_measure 84 = .ok (.invokevirtual 90, 3) := by decide +kernel
theorem dX0_measure_87 : decode cX0_measure 87 = .ok (.invokevirtual 93, 3) := by decide +kernel
theorem dX0_measure_90 : decode cX0_measure 90 = .ok (.iload_n 2, 1) := by decide +kernel
theorem dX0_measure_91 : decode cX0_measure 91 = .ok (.ifCond .le 128, 3) := by decide +kernel
theorem dX0_measure_94 : decode cX0_measure 94 = .ok (.aload_n 0, 1) := by decide +kernel
theorem dX0_measure_95 : decode cX0_measure 95 = .ok (.aload_n 0, 1) := by decide +kernel
theorem dX0_measure_96 : decode cX0_measure 96 = .ok (.getfield 68, 3) := by decide +kernel
theorem dX0_measure_99 : decode cX0_measure 99 = .ok (.iload_n 2, 1) := by decide +kernel
theorem dX0_measure_100 : decode cX0_measure 100 = .ok (.iconst 1, 1) := by decide +kernel
theorem dX0_measure_101 : decode cX0_measure 101 = .ok (.isub, 1) := by decide +kernel
theorem dX0_measure_102 : decode cX0_measure 102 = .ok (.iaload, 1) := by decide +kernel
theorem dX0_measure_103 : decode cX0_measure 103 = .ok (.iconst 3, 1) := by decide +kernel
theorem dX0_measure_104 : decode cX0_measure 104 = .ok (.ishr, 1) := by decide +kernel
theorem dX0_measure_105 : decode cX0_measure 105 = .ok (.aload_n 0, 1) := by decide +kernel
theorem dX0_measure_106 : decode cX0_measure 106 = .ok (.iload 4, 2) := by decide +kernel
theorem dX0_measure_108 : decode cX0_measure 108 = .ok (.invokevirtual 90, 3) := by decide +kernel
theorem dX0_measure_111 : decode cX0_measure 111 = .ok (.iconst 1, 1) := by decide +kernel
theorem dX0_measure_112 : decode cX0_measure 112 = .ok (.iadd, 1) := by decide +kernel
theorem dX0_measure_113 : decode cX0_measure 113 = .ok (.invokevirtual 98, 3) := by decide +kernel
theorem dX0_measure_116 : decode cX0_measure 116 = .ok (.goto 103, 3) := by decide +kernel
theorem dX0_measure_119 : decode cX0_measure 119 = .ok (.aload_n 0, 1) := by decide +kernel
theorem dX0_measure_120 : decode cX0_measure 120 = .ok (.getfield 68, 3) := by decide +kernel
theorem dX0_measure_123 : decode cX0_measure 123 = .ok (.iload_n 2, 1) := by decide +kernel
theorem dX0_measure_124 : decode cX0_measure 124 = .ok (.iconst 1, 1) := by decide +kernel
theorem dX0_measure_125 : decode cX0_measure 125 = .ok (.isub, 1) := by decide +kernel
theorem dX0_measure_126 : decode cX0_measure 126 = .ok (.dup2, 1) := by decide +kernel
theorem dX0_measure_127 : decode cX0_measure 127 = .ok (.iaload, 1) := by decide +kernel
theorem dX0_measure_128 : decode cX0_measure 128 = .ok (.iconst 1, 1) := by decide +kernel
theorem dX0_measure_129 : decode cX0_measure 129 = .ok (.iadd, 1) := by decide +kernel
theorem dX0_measure_130 : decode cX0_measure 130 = .ok (.iastore, 1) := by decide +kernel
theorem dX0_measure_131 : decode cX0_measure 131 = .ok (.aload_n 0, 1) := by decide +kernel
theorem dX0_measure_132 : decode cX0_measure 132 = .ok (.iload 4, 2) := by decide +kernel
theorem dX0_measure_134 : decode cX0_measure 134 = .ok (.iload 5, 2) := by decide +kernel
theorem dX0_measure_136 : decode cX0_measure 136 = .ok (.invokevirtual 101, 3) := by decide +kernel
theorem dX0_measure_139 : decode cX0_measure 139 = .ok (.istore 6, 2) := by decide +kernel
theorem dX0_measure_141 : decode cX0_measure 141 = .ok (.iload 6, 2) := by decide +kernel
theorem dX0_measure_143 : decode cX0_measure 143 = .ok (.ifCond .ge 6, 3) := by decide +kernel
theorem dX0_measure_146 : decode cX0_measure 146 = .ok (.goto 73, 3) := by decide +kernel
theorem dX0_measure_149 : decode cX0_measure 149 = .ok (.aload_n 0, 1) := by decide +kernel
theorem dX0_measure_150 : decode cX0_measure 150 = .ok (.iload 6, 2) := by decide +kernel
theorem dX0_measure_152 : decode cX0_measure 152 = .ok (.invokevirtual 86, 3) := by decide +kernel
theorem dX0_measure_155 : decode cX0_measure 155 = .ok (.ifCond .ne 24, 3) := by decide +kernel
theorem dX0_measure_158 : decode cX0_measure 158 = .ok (.aload_n 0, 1) := by decide +kernel
theorem dX0_measure_159 : decode cX0_measure 159 = .ok (.iload 6, 2) := by decide +kernel
theorem dX0_measure_161 : decode cX0_measure 161 = .ok (.ldc 79, 2) := by decide +kernel
theorem dX0_measure_163 : decode cX0_measure 163 = .ok (.invokevirtual 93, 3) := by decide +kernel
theorem dX0_measure_166 : decode cX0_measure 166 = .ok (.aload_n 0, 1) := by decide +kernel
theorem dX0_measure_167 : decode cX0_measure 167 = .ok (.iload_n 2, 1) := by decide +kernel
theorem dX0_measure_168 : decode cX0_measure 168 = .ok (.iload 6, 2) := by decide +kernel
theorem dX0_measure_170 : decode cX0_measure 170 = .ok (.iconst 3, 1) := by decide +kernel
theorem dX0_measure_171 : decode cX0_measure 171 = .ok (.ishl, 1) := by decide +kernel
theorem dX0_measure_172 : decode cX0_measure 172 = .ok (.invokevirtual 104, 3) := by decide +kernel
theorem dX0_measure_175 : decode cX0_measure 175 = .ok (.istore_n 2, 1) := by decide +kernel
theorem dX0_measure_176 : decode cX0_measure 176 = .ok (.goto 43, 3) := by decide +kernel
theorem dX0_measure_179 : decode cX0_measure 179 = .ok (.aload_n 0, 1) := by decide +kernel
theorem dX0_measure_180 : decode cX0_measure 180 = .ok (.iload 6, 2) := by decide +kernel
theorem dX0_measure_182 : decode cX0_measure 182 = .ok (.invokevirtual 107, 3) := by decide +kernel
theorem dX0_measure_185 : decode cX0_measure 185 = .ok (.ifCond .ne 14, 3) := by decide +kernel
theorem dX0_measure_188 : decode cX0_measure 188 = .ok (.aload_n 0, 1) := by decide +kernel
theorem dX0_measure_189 : decode cX0_measure 189 = .ok (.iload 6, 2) := by decide +kernel
theorem dX0_measure_191 : decode cX0_measure 191 = .ok (.invokevirtual 90, 3) := by decide +kernel
theorem dX0_measure_194 : decode cX0_measure 194 = .ok (.ldc 78, 2) := by decide +kernel
theorem dX0_measure_196 : decode cX0_measure 196 = .ok (.if_icmp .ne 9, 3) := by decide +kernel
theorem dX0_measure_199 : decode cX0_measure 199 = .ok (.aload_n 0, 1) := by decide +kernel
theorem dX0_measure_200 : decode cX0_measure 200 = .ok (.iload_n 2, 1) := by decide +kernel
theorem dX0_measure_201 : decode cX0_measure 201 = .ok (.invokevirtual 110, 3) := by decide +kernel
theorem dX0_measure_204 : decode cX0_measure 204 = .ok (.ireturn, 1) := by decide +kernel
theorem dX0_measure_205 : decode cX0_measure 205 = .ok (.aload_n 0, 1) := by decide +kernel
theorem dX0_measure_206 : decode cX0_measure 206 = .ok (.iload 4, 2) := by decide +kernel
theorem dX0_measure_208 : decode cX0_measure 208 = .ok (.aload_n 0, 1) := by decide +kernel
theorem dX0_measure_209 : decode cX0_measure 209 = .ok (.iload 6, 2) := by decide +kernel
theorem dX0_measure_211 : decode cX0_measure 211 = .ok (.invokevirtual 90, 3) := by decide +kernel
theorem dX0_measure_214 : decode cX0_measure 214 = .ok (.iconst 1, 1) := by decide +kernel
theorem dX0_measure_215 : decode cX0_measure 215 = .ok (.iadd, 1) := by decide +kernel
theorem dX0_measure_216 : decode cX0_measure 216 = .ok (.invokevirtual 98, 3) := by decide +kernel
theorem dX0_measure_219 : decode cX0_measure 219 = .ok (.iinc 3 1, 3) := by decide +kernel
theorem dX0_measure_222 : decode cX0_measure 222 = .ok (.goto (-188), 3) := by decide +kernel
theorem dX0_measure_225 : decode cX0_measure 225 = .ok (.aload_n 0, 1) := by decide +kernel
theorem dX0_measure_226 : decode cX0_measure 226 = .ok (.iload_n 1, 1) := by decide +kernel
theorem dX0_measure_227 : decode cX0_measure 227 = .ok (.invokevirtual 90, 3) := by decide +kernel
theorem dX0_measure_230 : decode cX0_measure 230 = .ok (.ireturn, 1) := by decide +kernel
/-- the work that is done -/
def dfW (th : Nat → Nat) (dp cnt : Nat) : Nat := 5 * (cnt - dp) + sTh th dp
theorem l_X0_ms34 {d : List Nat} {T : vT} {M : vM} {E : xE} {s0 : xS} (hB : vB T) (hA : awT T) (hE : xEok E) (hC : xC M E) (hs0 : xSt E s0) : ∀ (f work : Nat), work + f = 163840 → ∀ (dp cnt : Nat) (st : Nat → xS) (th ord : Nat → Nat) (N : vM) (x4 x5 x6 : Option vA), dfI E N dp dp st th cnt ord → mSame [106, 107] M N → ord 0 = enC s0 → 0 < cnt → (0 < dp → st 0 = s0) → dfW th dp cnt = work →
    vV m_X0_measure d d (vPi fun r T1 M1 => T = T1 ∧ msQ E s0 M M1 r) 34 [some (vR 100), some (vI (enC s0 : Nat)), some (vI dp), some (vI work), x4, x5, x6] [] d T N := by
  have hA2 := hA
  obtain ⟨q1, q2, q3⟩ := hA2
  have hp0 := enC_lt (hs0.ok hE)
  intro f
  induction f with
  | zero =>
    intro work hf dp cnt st th ord N x4 x5 x6 hI hk ho hc hst hw
    have hdp : dp = 0 := by
      have h1 := hI.cnt
      have h2 := hI.2.2.2.2.2.2.2
      have h3 := sTh_le (th := th) dp (fun i hi => (hI.2.1 i hi).2.1)
      unfold dfW at hw
      omega
    subst hdp
    obtain ⟨m1, m2, w, m3, m4⟩ := hI.fin hs0 ho hc
    refine vV.iload_n dX0_measure_34 rfl ?_
    refine vV.if_le (tgt := 225) dX0_measure_35 (by decide) (fun h35 => ?_) (fun h35 => ?_)
    · skip
      refine vV.aload_n dX0_measure_225 rfl ?_
      refine vV.iload_n dX0_measure_226 rfl ?_
      refine vV.cVi dX0_measure_227 ml_X0_90 cw_X0_valueOf iw_X0_valueOf (by first | rfl | assumption) rfl (by unfold vRoom; decide) (c_X0_valueOf hA m1 hp0 m3) rfl rfl (Nat.le_of_ble_eq_true rfl) ?_
      rintro x227 _ _ hx227 ⟨rfl, rfl, rfl⟩
      refine vV.ri dX0_measure_230 rfl ?_
      exact ⟨rfl, hk, m1, m2, m4⟩
    · skip
      omega
  | succ f ih =>
    intro work hf dp cnt st th ord N x4 x5 x6 hI hk ho hc hst hw
    cases dp with
    | zero =>
      obtain ⟨m1, m2, w, m3, m4⟩ := hI.fin hs0 ho hc
      refine vV.iload_n dX0_measure_34 rfl ?_
      refine vV.if_le (tgt := 225) dX0_measure_35 (by decide) (fun h35 => ?_) (fun h35 => ?_)
      · skip
        refine vV.aload_n dX0_measure_225 rfl ?_
        refine vV.iload_n dX0_measure_226 rfl ?_
        refine vV.cVi dX0_measure_227 ml_X0_90 cw_X0_valueOf iw_X0_valueOf (by first | rfl | assumption) rfl (by unfold vRoom; decide) (c_X0_valueOf hA m1 hp0 m3) rfl rfl (Nat.le_of_ble_eq_true rfl) ?_
        rintro x227 _ _ hx227 ⟨rfl, rfl, rfl⟩
        refine vV.ri dX0_measure_230 rfl ?_
        exact ⟨rfl, hk, m1, m2, m4⟩
      · skip
        omega
    | succ q =>
      have hcn := hI.cnt
      have hdc := hI.2.2.2.2.2.2.2
      obtain ⟨t1, t2, t3, v0, t4, t5, t6, t7⟩ := hI.2.1 q (by omega)
      have hpq := enC_lt (t1.ok hE)
      have e1 : ((q + 1 : Nat) : Int) - 1 = q := by omega
      obtain ⟨s31, s32⟩ := shr3 hpq t2
      have hwk : work < 163840 := by omega
      have hsW : sTh th (q + 1) = sTh th q + th q := rfl
      have goOn : ∀ (dp' cnt' : Nat) (st' : Nat → xS) (th' ord' : Nat → Nat) (N' : vM) (x4 x5 x6 : Option vA), dfI E N' dp' dp' st' th' cnt' ord' → mSame [106, 107] M N' → ord' 0 = enC s0 → 0 < cnt' → (0 < dp' → st' 0 = s0) → dfW th' dp' cnt' = work + 1 →
          vV m_X0_measure d d (vPi fun r T1 M1 => T = T1 ∧ msQ E s0 M M1 r) 219 [some (vR 100), some (vI (enC s0 : Nat)), some (vI dp'), some (vI work), x4, x5, x6] [] d T N' := by
        intro dp' cnt' st' th' ord' N' x4 x5 x6 g1 g2 g3 g4 g5 g6
        refine vV.iinc (L' := [_, _, _, _, _, _, _]) dX0_measure_219 (by decide) rfl (⟨by omega, by omega⟩) rfl ?_
        refine vV.goto (tgt := 34) dX0_measure_222 (by decide) ?_
        exact ih (work + 1) (by omega) dp' cnt' st' th' ord' N' _ _ _ g1 g2 g3 g4 g5 g6
      unfold dfW at hw
      refine vV.iload_n dX0_measure_34 rfl ?_
      refine vV.if_le (tgt := 225) dX0_measure_35 (by decide) (fun h35 => ?_) (fun h35 => ?_)
      · skip
        omega
      · skip
        refine vV.iload_n dX0_measure_38 rfl ?_
        refine vV.ldc (v := 163840) dX0_measure_39 kc_X0_97 (by decide) (by decide) ?_
        refine vV.icmp_ge (tgt := 225) dX0_measure_41 (by decide) (fun h41 => ?_) (fun h41 => ?_)
        · skip
          omega
        · skip
          refine vV.aload_n dX0_measure_44 rfl ?_
          refine vV.getr dX0_measure_45 fl_X0_68 (by first | rfl | assumption) rfl (by first | assumption | exact hB _ _ _ rfl) ?_
          refine vV.iload_n dX0_measure_48 rfl ?_
          refine vV.iconst dX0_measure_49 (by decide) ?_
          refine vV.isub dX0_measure_50 (⟨by omega, by omega⟩) ?_
          rw [e1]
          refine vV.iald dX0_measure_51 (by first | rfl | assumption) (by omega) (by omega) ?_
          rw [t3]
          refine vV.iconst dX0_measure_52 (by decide) ?_
          refine vV.ishr dX0_measure_53 ?_
          rw [s31]
          refine vV.istore (L' := [_, _, _, _, _, _, _]) dX0_measure_54 (by decide) rfl ?_
          refine vV.aload_n dX0_measure_56 rfl ?_
          refine vV.getr dX0_measure_57 fl_X0_68 (by first | rfl | assumption) rfl (by first | assumption | exact hB _ _ _ rfl) ?_
          refine vV.iload_n dX0_measure_60 rfl ?_
          refine vV.iconst dX0_measure_61 (by decide) ?_
          refine vV.isub dX0_measure_62 (⟨by omega, by omega⟩) ?_
          rw [e1]
          refine vV.iald dX0_measure_63 (by first | rfl | assumption) (by omega) (by omega) ?_
          rw [t3]
          refine vV.bipush (v := 7) dX0_measure_64 (by decide) (by decide) ?_
          refine vV.iand dX0_measure_66 ?_
          rw [s32]
          refine vV.istore (L' := [_, _, _, _, _, _, _]) dX0_measure_67 (by decide) rfl ?_
          refine vV.iload dX0_measure_69 rfl ?_
          refine vV.iconst dX0_measure_71 (by decide) ?_
          refine vV.icmp_le (tgt := 119) dX0_measure_72 (by decide) (fun h72 => ?_) (fun h72 => ?_)
          · skip
            have ht3 : th q ≤ 3 := by omega
            have hI2 := hI.inc ht3
            have hk2 := mSame_list (p := (q : Int)) (y := N 107 q + 1) hk
            have hC2 := xC_o hk2 hC
            obtain ⟨N2, hN2⟩ : ∃ N2, N2 = vUpd N 107 q (N 107 q + 1) := ⟨_, rfl⟩
            rw [← hN2] at hI2 hk2 hC2
            have hth' : nSet th q (th q + 1) q = th q + 1 := nSet_s
            have hsS : sTh (nSet th q (th q + 1)) (q + 1) = sTh th (q + 1) + 1 := by
              show sTh (nSet th q (th q + 1)) q + nSet th q (th q + 1) q = _
              rw [sTh_cg (th' := th) (fun i hi => nSet_n (by omega)), nSet_s, hsW]; omega
            have e107 : N 107 q + 1 = ((enC (st q) * 8 + th q : Nat) : Int) + 1 := by rw [t3]
            obtain ⟨w1, w2, w3, v9, w4, w5, w6, w7⟩ := hI2.2.1 q (by omega)
            refine vV.aload_n dX0_measure_119 rfl ?_
            refine vV.getr dX0_measure_120 fl_X0_68 (by first | rfl | assumption) rfl (by first | assumption | exact hB _ _ _ rfl) ?_
            refine vV.iload_n dX0_measure_123 rfl ?_
            refine vV.iconst dX0_measure_124 (by decide) ?_
            refine vV.isub dX0_measure_125 (⟨by omega, by omega⟩) ?_
            refine vV.dup2 dX0_measure_126 rfl rfl ?_
            rw [e1]
            refine vV.iald dX0_measure_127 (by first | rfl | assumption) (by omega) (by omega) ?_
            refine vV.iconst dX0_measure_128 (by decide) ?_
            refine vV.iadd dX0_measure_129 (⟨by omega, by omega⟩) ?_
            refine vV.iast dX0_measure_130 (by first | rfl | assumption) (by omega) (by omega) ?_
            rw [← hN2]
            refine vV.aload_n dX0_measure_131 rfl ?_
            refine vV.iload dX0_measure_132 rfl ?_
            refine vV.iload dX0_measure_134 rfl ?_
            refine vV.cVi dX0_measure_136 ml_X0_101 cw_X0_after iw_X0_after (by first | rfl | assumption) rfl (by unfold vRoom; decide) (c_X0_after hB hE hC2 t1 (by omega)) rfl rfl (Nat.le_of_ble_eq_true rfl) ?_
            rintro x136 _ _ hx136 ⟨hx, rfl, rfl⟩
            refine vV.istore (L' := [_, _, _, _, _, _, _]) dX0_measure_139 (by decide) rfl ?_
            refine vV.iload dX0_measure_141 rfl ?_
            refine vV.if_ge (tgt := 149) dX0_measure_143 (by decide) (fun h143 => ?_) (fun h143 => ?_)
            · skip
              obtain ⟨s', hn⟩ : ∃ s', xn E ((th q : Nat) : Int) (st q) = some s' := by
                cases hz : xn E ((th q : Nat) : Int) (st q) with
                | none => rw [hz] at hx; have : xr none = -1 := rfl; omega
                | some s => exact ⟨s, rfl⟩
              have hs' := xn_st hE t1 hn
              have hp' := enC_lt (hs'.ok hE)
              have hx' : x136 = ((enC s' : Nat) : Int) := by rw [hx, hn]; rfl
              subst hx'
              clear hx
              have hn' : xn E ((nSet th q (th q + 1) q - 1 : Nat) : Int) (st q) = some s' := by rw [hth']; exact hn
              cases hK : awK N2 (enC s') with
              | none =>
                have hI3 := hI2.push hE (by rw [hth']; omega) hn' hs' hK
                have hroom := hI3.cnt
                have hsS2 : sTh (nSet (nSet th q (th q + 1)) (q + 1) 0) (q + 2) = sTh th (q + 1) + 1 := by
                  show sTh (nSet (nSet th q (th q + 1)) (q + 1) 0) (q + 1) + nSet (nSet th q (th q + 1)) (q + 1) 0 (q + 1) = _
                  rw [sTh_cg (th' := nSet th q (th q + 1)) (fun i hi => nSet_n (by omega)), nSet_s, hsS]
                refine vV.aload_n dX0_measure_149 rfl ?_
                refine vV.iload dX0_measure_150 rfl ?_
                refine vV.cVi dX0_measure_152 ml_X0_86 cw_X0_isMarked iw_X0_isMarked (by first | rfl | assumption) rfl (by unfold vRoom; decide) (c_X0_isMarked hA hI2.1 hp') rfl rfl (Nat.le_of_ble_eq_true rfl) ?_
                rintro x152 _ _ hx152 ⟨hy152, rfl, rfl⟩
                rw [hK] at hy152
                refine vV.if_ne (tgt := 179) dX0_measure_155 (by decide) (fun h155 => ?_) (fun h155 => ?_)
                · skip
                  exact absurd hy152 h155
                · skip
                  refine vV.aload_n dX0_measure_158 rfl ?_
                  refine vV.iload dX0_measure_159 rfl ?_
                  refine vV.ldc (v := 65536) dX0_measure_161 kc_X0_79 (by decide) (by decide) ?_
                  refine vV.cVv dX0_measure_163 ml_X0_93 cw_X0_mark iw_X0_mark (by first | rfl | assumption) rfl (by unfold vRoom; decide) (c_X0_mark hA hI2.1 hp' (by omega)) rfl rfl (Nat.le_of_ble_eq_true rfl) ?_
                  rintro _ _ ⟨rfl, rfl⟩
                  refine vV.aload_n dX0_measure_166 rfl ?_
                  refine vV.iload_n dX0_measure_167 rfl ?_
                  refine vV.iload dX0_measure_168 rfl ?_
                  refine vV.iconst dX0_measure_170 (by decide) ?_
                  refine vV.ishl dX0_measure_171 ?_
                  rw [show (3 : Int) = ((3 : Nat) : Int) from rfl, vShl_nat (by decide) (by omega), show (2 : Nat) ^ 3 = 8 from rfl]
                  refine vV.cVi dX0_measure_172 ml_X0_104 cw_X0_put iw_X0_put (by first | rfl | assumption) rfl (by unfold vRoom; decide) (c_X0_put (n := q + 1) hA (by omega)) rfl rfl (Nat.le_of_ble_eq_true rfl) ?_
                  rintro x172 _ _ hx172 ⟨rfl, rfl, rfl⟩
                  rw [show ((q + 1 : Nat) : Int) + 1 = ((q + 2 : Nat) : Int) from rfl]
                  refine vV.istore_n (L' := [_, _, _, _, _, _, _]) dX0_measure_175 (by decide) rfl ?_
                  refine vV.goto (tgt := 219) dX0_measure_176 (by decide) ?_
                  exact goOn (q + 2) (cnt + 1) _ _ _ _ _ _ _ hI3 (mSame_list (mSame_mark hk2)) (by rw [nSet_n (by omega)]; exact ho) (by omega) (fun _ => by rw [nSet_n (by omega)]; exact hst (by omega)) (by unfold dfW; rw [hsS2]; omega)
              | some w =>
                have hw17 : w < 131072 := by
                  unfold awK at hK; split at hK
                  · cases hK; omega
                  · cases hK
                refine vV.aload_n dX0_measure_149 rfl ?_
                refine vV.iload dX0_measure_150 rfl ?_
                refine vV.cVi dX0_measure_152 ml_X0_86 cw_X0_isMarked iw_X0_isMarked (by first | rfl | assumption) rfl (by unfold vRoom; decide) (c_X0_isMarked hA hI2.1 hp') rfl rfl (Nat.le_of_ble_eq_true rfl) ?_
                rintro x152 _ _ hx152 ⟨hy152, rfl, rfl⟩
                rw [hK] at hy152
                refine vV.if_ne (tgt := 179) dX0_measure_155 (by decide) (fun h155 => ?_) (fun h155 => ?_)
                · skip
                  refine vV.aload_n dX0_measure_179 rfl ?_
                  refine vV.iload dX0_measure_180 rfl ?_
                  refine vV.cVi dX0_measure_182 ml_X0_107 cw_X0_isOpen iw_X0_isOpen (by first | rfl | assumption) rfl (by unfold vRoom; decide) (c_X0_isOpen hA hI2.1 hp' hK) rfl rfl (Nat.le_of_ble_eq_true rfl) ?_
                  rintro x182 _ _ hx182 ⟨hy182, rfl, rfl⟩
                  subst hy182
                  refine vV.if_ne (tgt := 199) dX0_measure_185 (by decide) (fun h185 => ?_) (fun h185 => ?_)
                  · skip
                    have hwe : 65535 ≤ w := by first | (have := of_decide_eq_true (bI_ne h185); omega) | omega
                    have hev := hI2.ever ⟨by rw [hth']; omega, by rw [hth']; omega⟩ hn' hs' hK hwe
                    refine vV.aload_n dX0_measure_199 rfl ?_
                    refine vV.iload_n dX0_measure_200 rfl ?_
                    refine vV.cVi dX0_measure_201 ml_X0_110 cw_X0_markPath iw_X0_markPath (by first | rfl | assumption) rfl (by unfold vRoom; decide) (c_X0_markPath (n := q + 1) (st := st) (th := nSet th q (th q + 1)) hA hI2.1 (by omega) (fun i hi => ⟨(hI2.2.1 i hi).2.2.1, (hI2.2.1 i hi).2.1, enC_lt ((hI2.2.1 i hi).1.ok hE)⟩)) rfl rfl (Nat.le_of_ble_eq_true rfl) ?_
                    rintro x201 _ _ hx201 ⟨rfl, rfl, rfl⟩
                    refine vV.ri dX0_measure_204 rfl ?_
                    exact ⟨rfl, fun k hk9 => by rw [mpM_row (fun z => hk9 (by rw [z]; decide))]; exact hk2 k hk9, mpM_M hI2.1 _, mp_P hE hI2 hev, Or.inl ⟨rfl, by rw [← hst (by omega)]; exact hev 0 (by omega)⟩⟩
                  · skip
                    have hnop : ¬ 65536 ≤ w := of_decide_eq_false (bI_eq h185)
                    refine vV.aload_n dX0_measure_188 rfl ?_
                    refine vV.iload dX0_measure_189 rfl ?_
                    refine vV.cVi dX0_measure_191 ml_X0_90 cw_X0_valueOf iw_X0_valueOf (by first | rfl | assumption) rfl (by unfold vRoom; decide) (c_X0_valueOf hA hI2.1 hp' hK) rfl rfl (Nat.le_of_ble_eq_true rfl) ?_
                    rintro x191 _ _ hx191 ⟨rfl, rfl, rfl⟩
                    refine vV.ldc (v := 65535) dX0_measure_194 kc_X0_78 (by decide) (by decide) ?_
                    refine vV.icmp_ne (tgt := 205) dX0_measure_196 (by decide) (fun h196 => ?_) (fun h196 => ?_)
                    · skip
                      have hcl : w < 32768 ∧ xL E s' w := by
                        rcases hI2.2.2.2.2.1 s' w hs' hK with (z | z) | ⟨i, i1, i2⟩
                        · exact z
                        · omega
                        · obtain ⟨-, -, -, v8, y4, -⟩ := hI2.2.1 i i1
                          rw [i2, hK] at y4
                          have := Option.some.inj y4
                          omega
                      have hI3 := hI2.rs hE ⟨by rw [hth']; omega, by rw [hth']; omega⟩ hn' hcl.2 hcl.1 w4
                      refine vV.aload_n dX0_measure_205 rfl ?_
                      refine vV.iload dX0_measure_206 rfl ?_
                      refine vV.aload_n dX0_measure_208 rfl ?_
                      refine vV.iload dX0_measure_209 rfl ?_
                      refine vV.cVi dX0_measure_211 ml_X0_90 cw_X0_valueOf iw_X0_valueOf (by first | rfl | assumption) rfl (by unfold vRoom; decide) (c_X0_valueOf hA hI2.1 hp' hK) rfl rfl (Nat.le_of_ble_eq_true rfl) ?_
                      rintro x211 _ _ hx211 ⟨rfl, rfl, rfl⟩
                      rw [Nat.mod_eq_of_lt (show w < 65536 by omega)]
                      refine vV.iconst dX0_measure_214 (by decide) ?_
                      refine vV.iadd dX0_measure_215 (⟨by omega, by omega⟩) ?_
                      rw [show (w : Int) + 1 = ((w + 1 : Nat) : Int) from rfl]
                      refine vV.cVv dX0_measure_216 ml_X0_98 cw_X0_raise iw_X0_raise (by first | rfl | assumption) rfl (by unfold vRoom; decide) (c_X0_raise hA hI2.1 hpq w4 w5 (by omega)) rfl rfl (Nat.le_of_ble_eq_true rfl) ?_
                      rintro _ _ ⟨rfl, rfl⟩
                      exact goOn (q + 1) cnt st _ ord _ _ _ _ hI3 (mSame_rs hk2) ho hc (fun _ => hst (by omega)) (by unfold dfW; rw [hsS]; omega)
                    · skip
                      have hwe : 65535 ≤ w := by first | (have := of_decide_eq_true (bI_ne h185); omega) | omega
                      have hev := hI2.ever ⟨by rw [hth']; omega, by rw [hth']; omega⟩ hn' hs' hK hwe
                      refine vV.aload_n dX0_measure_199 rfl ?_
                      refine vV.iload_n dX0_measure_200 rfl ?_
                      refine vV.cVi dX0_measure_201 ml_X0_110 cw_X0_markPath iw_X0_markPath (by first | rfl | assumption) rfl (by unfold vRoom; decide) (c_X0_markPath (n := q + 1) (st := st) (th := nSet th q (th q + 1)) hA hI2.1 (by omega) (fun i hi => ⟨(hI2.2.1 i hi).2.2.1, (hI2.2.1 i hi).2.1, enC_lt ((hI2.2.1 i hi).1.ok hE)⟩)) rfl rfl (Nat.le_of_ble_eq_true rfl) ?_
                      rintro x201 _ _ hx201 ⟨rfl, rfl, rfl⟩
                      refine vV.ri dX0_measure_204 rfl ?_
                      exact ⟨rfl, fun k hk9 => by rw [mpM_row (fun z => hk9 (by rw [z]; decide))]; exact hk2 k hk9, mpM_M hI2.1 _, mp_P hE hI2 hev, Or.inl ⟨rfl, by rw [← hst (by omega)]; exact hev 0 (by omega)⟩⟩
                · skip
                  exact absurd h155 (by rw [hy152]; show ¬ (1 : Int) = 0; decide)
            · skip
              have hnone : xn E ((th q : Nat) : Int) (st q) = none := by
                cases hz : xn E ((th q : Nat) : Int) (st q) with
                | none => rfl
                | some s => rw [hz] at hx; have : (0 : Int) ≤ xr (some s) := Int.natCast_nonneg _; omega
              have hI3 := hI2.nil (by rw [hth']; exact hnone)
              refine vV.goto (tgt := 219) dX0_measure_146 (by decide) ?_
              exact goOn (q + 1) cnt st _ ord N2 _ _ _ hI3 hk2 ho hc (fun _ => hst (by omega)) (by unfold dfW; rw [hsS]; omega)
          · skip
            have ht4 : th q = 4 := by omega
            obtain ⟨v, v1, v2, v3⟩ := hI.top hE ht4
            have hI2 := hI.pop hE v2 v3
            have hk2 := mSame_mark (p := ((enC (st q) : Nat) : Int)) (y := N 100 5 * 131072 + (v : Int)) hk
            have hK2 : awK (vUpd N 106 (enC (st q) : Nat) (N 100 5 * 131072 + (v : Int))) (enC (st q)) = some v := by rw [awK_mark (by omega), if_pos rfl]; rfl
            obtain ⟨N2, hN2⟩ : ∃ N2, N2 = vUpd N 106 (enC (st q) : Nat) (N 100 5 * 131072 + (v : Int)) := ⟨_, rfl⟩
            have e2 : ((q + 1 : Nat) : Int) + -1 = q := by omega
            cases q with
            | zero =>
              refine vV.iinc (L' := [_, _, _, _, _, _, _]) dX0_measure_75 (by decide) rfl (⟨by omega, by omega⟩) rfl ?_
              rw [e2]
              refine vV.aload_n dX0_measure_78 rfl ?_
              refine vV.iload dX0_measure_79 rfl ?_
              refine vV.aload_n dX0_measure_81 rfl ?_
              refine vV.iload dX0_measure_82 rfl ?_
              refine vV.cVi dX0_measure_84 ml_X0_90 cw_X0_valueOf iw_X0_valueOf (by first | rfl | assumption) rfl (by unfold vRoom; decide) (c_X0_valueOf hA hI.1 hpq v1) rfl rfl (Nat.le_of_ble_eq_true rfl) ?_
              rintro x84 _ _ hx84 ⟨rfl, rfl, rfl⟩
              rw [show (65536 + v) % 65536 = v by omega]
              refine vV.cVv dX0_measure_87 ml_X0_93 cw_X0_mark iw_X0_mark (by first | rfl | assumption) rfl (by unfold vRoom; decide) (c_X0_mark hA hI.1 hpq (by omega)) rfl rfl (Nat.le_of_ble_eq_true rfl) ?_
              rintro _ _ ⟨rfl, rfl⟩
              rw [← hN2] at hI2 hk2 ⊢
              refine vV.iload_n dX0_measure_90 rfl ?_
              refine vV.if_le (tgt := 219) dX0_measure_91 (by decide) (fun h91 => ?_) (fun h91 => ?_)
              · skip
                exact goOn 0 cnt st th ord _ _ _ _ ⟨hI2.1, fun i hi => by omega, fun i j hi => by omega, fun i hi => by omega, hI2.2.2.2.2.1, hI2.2.2.2.2.2.1, hI2.2.2.2.2.2.2.1, by omega⟩ hk2 ho hc (fun z => by omega) (by unfold dfW; simp only [sTh] at hsW hw ⊢; omega)
              · skip
                omega
            | succ r =>
              obtain ⟨u1, u2, u3, v9, u4, u5, u6, u7⟩ := hI2.2.1 r (by omega)
              have hpr := enC_lt (u1.ok hE)
              obtain ⟨r31, r32⟩ := shr3 hpr u2
              obtain ⟨ch1, ch2⟩ := hI.2.2.2.1 r (by omega)
              have hI3 := hI2.rs hE ⟨u2, ch1⟩ ch2 v3 v2 u4
              have e3 : ((r + 1 : Nat) : Int) - 1 = r := by omega
              have hsr : sTh th (r + 1 + 1) = sTh th (r + 1) + th (r + 1) := rfl
              refine vV.iinc (L' := [_, _, _, _, _, _, _]) dX0_measure_75 (by decide) rfl (⟨by omega, by omega⟩) rfl ?_
              rw [e2]
              refine vV.aload_n dX0_measure_78 rfl ?_
              refine vV.iload dX0_measure_79 rfl ?_
              refine vV.aload_n dX0_measure_81 rfl ?_
              refine vV.iload dX0_measure_82 rfl ?_
              refine vV.cVi dX0_measure_84 ml_X0_90 cw_X0_valueOf iw_X0_valueOf (by first | rfl | assumption) rfl (by unfold vRoom; decide) (c_X0_valueOf hA hI.1 hpq v1) rfl rfl (Nat.le_of_ble_eq_true rfl) ?_
              rintro x84 _ _ hx84 ⟨rfl, rfl, rfl⟩
              rw [show (65536 + v) % 65536 = v by omega]
              refine vV.cVv dX0_measure_87 ml_X0_93 cw_X0_mark iw_X0_mark (by first | rfl | assumption) rfl (by unfold vRoom; decide) (c_X0_mark hA hI.1 hpq (by omega)) rfl rfl (Nat.le_of_ble_eq_true rfl) ?_
              rintro _ _ ⟨rfl, rfl⟩
              rw [← hN2] at hI2 hI3 hk2 hK2 u3 u4 ⊢
              refine vV.iload_n dX0_measure_90 rfl ?_
              refine vV.if_le (tgt := 219) dX0_measure_91 (by decide) (fun h91 => ?_) (fun h91 => ?_)
              · skip
                omega
              · skip
                refine vV.aload_n dX0_measure_94 rfl ?_
                refine vV.aload_n dX0_measure_95 rfl ?_
                refine vV.getr dX0_measure_96 fl_X0_68 (by first | rfl | assumption) rfl (by first | assumption | exact hB _ _ _ rfl) ?_
                refine vV.iload_n dX0_measure_99 rfl ?_
                refine vV.iconst dX0_measure_100 (by decide) ?_
                refine vV.isub dX0_measure_101 (⟨by omega, by omega⟩) ?_
                rw [e3]
                refine vV.iald dX0_measure_102 (by first | rfl | assumption) (by omega) (by omega) ?_
                rw [u3]
                refine vV.iconst dX0_measure_103 (by decide) ?_
                refine vV.ishr dX0_measure_104 ?_
                rw [r31]
                refine vV.aload_n dX0_measure_105 rfl ?_
                refine vV.iload dX0_measure_106 rfl ?_
                refine vV.cVi dX0_measure_108 ml_X0_90 cw_X0_valueOf iw_X0_valueOf (by first | rfl | assumption) rfl (by unfold vRoom; decide) (c_X0_valueOf hA hI2.1 hpq hK2) rfl rfl (Nat.le_of_ble_eq_true rfl) ?_
                rintro x108 _ _ hx108 ⟨rfl, rfl, rfl⟩
                rw [Nat.mod_eq_of_lt (show v < 65536 by omega)]
                refine vV.iconst dX0_measure_111 (by decide) ?_
                refine vV.iadd dX0_measure_112 (⟨by omega, by omega⟩) ?_
                rw [show (v : Int) + 1 = ((v + 1 : Nat) : Int) from rfl]
                refine vV.cVv dX0_measure_113 ml_X0_98 cw_X0_raise iw_X0_raise (by first | rfl | assumption) rfl (by unfold vRoom; decide) (c_X0_raise hA hI2.1 hpr u4 u5 (by omega)) rfl rfl (Nat.le_of_ble_eq_true rfl) ?_
                rintro _ _ ⟨rfl, rfl⟩
                refine vV.goto (tgt := 219) dX0_measure_116 (by decide) ?_
                exact goOn (r + 1) cnt st th ord _ _ _ _ hI3 (mSame_rs hk2) ho hc (fun _ => hst (by omega)) (by unfold dfW; omega)
theorem c_X0_measure {d : List Nat} {T : vT} {M : vM} {E : xE} {s0 : xS} (hB : vB T) (hA : awT T) (hE : xEok E) (hC : xC M E) (hs0 : xSt E s0) (hM : awM M) (hP : awP E M) : vCon m_X0_measure d d [vR 100, vI (enC s0 : Nat)] T M (vPi fun r T1 M1 => T = T1 ∧ msQ E s0 M M1 r) := by
  have hp0 := enC_lt (hs0.ok hE)
  have hA2 := hA
  obtain ⟨q1, q2, q3⟩ := hA2
  refine vCon.of (by decide) rfl rfl (Nat.le_of_ble_eq_true rfl) ?_
  cases hK : awK M (enC s0) with
  | some w =>
    have hq : xLq E s0 ((w % 65536 : Nat) : Int) := by
      rcases hP s0 w hs0 hK with ⟨z1, z2⟩ | ⟨z1, z2⟩
      · exact Or.inr ⟨w, by rw [Nat.mod_eq_of_lt (by omega)], z1, z2⟩
      · exact Or.inl ⟨by rw [z1]; rfl, z2⟩
    refine vV.aload_n dX0_measure_0 rfl ?_
    refine vV.iload_n dX0_measure_1 rfl ?_
    refine vV.cVi dX0_measure_2 ml_X0_86 cw_X0_isMarked iw_X0_isMarked (by first | rfl | assumption) rfl (by unfold vRoom; decide) (c_X0_isMarked hA hM hp0) rfl rfl (Nat.le_of_ble_eq_true rfl) ?_
    rintro x2 _ _ hx2 ⟨hy2, rfl, rfl⟩
    rw [hK] at hy2
    refine vV.if_eq (tgt := 14) dX0_measure_5 (by decide) (fun h5 => ?_) (fun h5 => ?_)
    · skip
      exact absurd h5 (by rw [hy2]; show ¬ (1 : Int) = 0; decide)
    · skip
      refine vV.aload_n dX0_measure_8 rfl ?_
      refine vV.iload_n dX0_measure_9 rfl ?_
      refine vV.cVi dX0_measure_10 ml_X0_90 cw_X0_valueOf iw_X0_valueOf (by first | rfl | assumption) rfl (by unfold vRoom; decide) (c_X0_valueOf hA hM hp0 hK) rfl rfl (Nat.le_of_ble_eq_true rfl) ?_
      rintro x10 _ _ hx10 ⟨rfl, rfl, rfl⟩
      refine vV.ri dX0_measure_13 rfl ?_
      exact ⟨rfl, fun _ _ => rfl, hM, hP, hq⟩
  | none =>
    refine vV.aload_n dX0_measure_0 rfl ?_
    refine vV.iload_n dX0_measure_1 rfl ?_
    refine vV.cVi dX0_measure_2 ml_X0_86 cw_X0_isMarked iw_X0_isMarked (by first | rfl | assumption) rfl (by unfold vRoom; decide) (c_X0_isMarked hA hM hp0) rfl rfl (Nat.le_of_ble_eq_true rfl) ?_
    rintro x2 _ _ hx2 ⟨hy2, rfl, rfl⟩
    rw [hK] at hy2
    refine vV.if_eq (tgt := 14) dX0_measure_5 (by decide) (fun h5 => ?_) (fun h5 => ?_)
    · skip
      refine vV.aload_n dX0_measure_14 rfl ?_
      refine vV.iload_n dX0_measure_15 rfl ?_
      refine vV.ldc (v := 65536) dX0_measure_16 kc_X0_79 (by decide) (by decide) ?_
      refine vV.cVv dX0_measure_18 ml_X0_93 cw_X0_mark iw_X0_mark (by first | rfl | assumption) rfl (by unfold vRoom; decide) (c_X0_mark hA hM hp0 (by omega)) rfl rfl (Nat.le_of_ble_eq_true rfl) ?_
      rintro _ _ ⟨rfl, rfl⟩
      refine vV.aload_n dX0_measure_21 rfl ?_
      refine vV.getr dX0_measure_22 fl_X0_68 (by first | rfl | assumption) rfl (by first | assumption | exact hB _ _ _ rfl) ?_
      refine vV.iconst dX0_measure_25 (by decide) ?_
      refine vV.iload_n dX0_measure_26 rfl ?_
      refine vV.iconst dX0_measure_27 (by decide) ?_
      refine vV.ishl dX0_measure_28 ?_
      rw [show (3 : Int) = ((3 : Nat) : Int) from rfl, vShl_nat (by decide) (by omega), show (2 : Nat) ^ 3 = 8 from rfl]
      refine vV.iast dX0_measure_29 (by first | rfl | assumption) (by omega) (by omega) ?_
      refine vV.iconst dX0_measure_30 (by decide) ?_
      refine vV.istore_n (L' := [_, _, _, _, _, _, _]) dX0_measure_31 (by decide) rfl ?_
      refine vV.iconst dX0_measure_32 (by decide) ?_
      refine vV.istore_n (L' := [_, _, _, _, _, _, _]) dX0_measure_33 (by decide) rfl ?_
      exact l_X0_ms34 hB hA hE hC hs0 163840 0 rfl 1 1 (fun _ => s0) (fun _ => 0) (fun _ => enC s0) _ _ _ _ (dfI_0 hE hs0 hM hP hK) (mSame_list (mSame_mark (fun _ _ => rfl))) rfl (by decide) (fun _ => rfl) rfl
    · skip
      exact absurd hy2 h5
