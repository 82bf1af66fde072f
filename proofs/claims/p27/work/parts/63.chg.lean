/-! changes of a state that keep what Rel asks -/
/-- the scalars of the class' state stand -/
def scS (S T : CS) : Prop := fixd S T ∧ cs_rates T = cs_rates S ∧ cs_bb T = cs_bb S ∧ cs_tr T = cs_tr S ∧ cs_day T = cs_day S
theorem scS.rf (S : CS) : scS S S := ⟨fixd.rf S, rfl, rfl, rfl, rfl⟩
theorem scS.tr {S T U : CS} (h : scS S T) (g : scS T U) : scS S U := ⟨h.1.tr g.1, g.2.1.trans h.2.1, g.2.2.1.trans h.2.2.1, g.2.2.2.1.trans h.2.2.2.1, g.2.2.2.2.trans h.2.2.2.2⟩
/-- the scalars of the reference's state stand -/
def scM (M N : MS) : Prop := ms_n N = ms_n M ∧ ms_rates N = ms_rates M ∧ ms_bb N = ms_bb M ∧ ms_tr N = ms_tr M ∧ ms_now N = ms_now M ∧ ms_ow N = ms_ow M ∧ ms_te N = ms_te M
theorem scM.rf (M : MS) : scM M M := ⟨rfl, rfl, rfl, rfl, rfl, rfl, rfl⟩
theorem scM.tr {A B C : MS} (h : scM A B) (g : scM B C) : scM A C := ⟨g.1.trans h.1, g.2.1.trans h.2.1, g.2.2.1.trans h.2.2.1, g.2.2.2.1.trans h.2.2.2.1, g.2.2.2.2.1.trans h.2.2.2.2.1, g.2.2.2.2.2.1.trans h.2.2.2.2.2.1, g.2.2.2.2.2.2.trans h.2.2.2.2.2.2⟩
theorem scM.ok {A B : MS} (h : scM A B) (k : okM A) : okM B := by
  unfold okM
  rw [h.1, h.2.2.2.2.2.1]
  exact k
/-- the reference's cells of the lot j are the same -/
def sam (M N : MS) (j : Nat) : Prop := ms_th N j = ms_th M j ∧ ms_te N j = ms_te M j ∧ ms_ow N j = ms_ow M j ∧ ms_pr N j = ms_pr M j ∧ ms_fz N j = ms_fz M j ∧ ms_nd N j = ms_nd M j ∧ ms_le N j = ms_le M j ∧ ms_en N j = ms_en M j ∧ ms_ins N j = ms_ins M j ∧ ms_bg N j = ms_bg M j ∧ ms_ea N j = ms_ea M j ∧ ms_tp N j = ms_tp M j
theorem sam.rf (M : MS) (j : Nat) : sam M M j := ⟨rfl, rfl, rfl, rfl, rfl, rfl, rfl, rfl, rfl, rfl, rfl, rfl⟩
theorem sam.tr {A B C : MS} {j : Nat} (h : sam A B j) (g : sam B C j) : sam A C j := by
  obtain ⟨a1, a2, a3, a4, a5, a6, a7, a8, a9, a10, a11, a12⟩ := h
  obtain ⟨b1, b2, b3, b4, b5, b6, b7, b8, b9, b10, b11, b12⟩ := g
  exact ⟨b1.trans a1, b2.trans a2, b3.trans a3, b4.trans a4, b5.trans a5, b6.trans a6, b7.trans a7, b8.trans a8, b9.trans a9, b10.trans a10, b11.trans a11, b12.trans a12⟩
theorem sam.rel {M N : MS} {j : Nat} (h : sam M N j) {r : LR} {day : Int32} (g : relL r day (ms_th M j) (ms_te M j) (ms_ow M j) (ms_pr M j) (ms_fz M j) (ms_nd M j) (ms_le M j) (ms_en M j) (ms_ins M j) (ms_bg M j) (ms_ea M j) (ms_tp M j)) : relL r day (ms_th N j) (ms_te N j) (ms_ow N j) (ms_pr N j) (ms_fz N j) (ms_nd N j) (ms_le N j) (ms_en N j) (ms_ins N j) (ms_bg N j) (ms_ea N j) (ms_tp N j) := by
  obtain ⟨a1, a2, a3, a4, a5, a6, a7, a8, a9, a10, a11, a12⟩ := h
  rw [a1, a2, a3, a4, a5, a6, a7, a8, a9, a10, a11, a12]
  exact g
theorem Rel.chg {S T : CS} {M N : MS} (h : Rel S M) (hs : scS S T) (hm : scM M N) (hp : cs_paid T = ms_paid N) (hl : cs_lost T = ms_lost N) (hj : ∀ j, j < cs_n S → relL (cs_lt T j) (cs_day S) (ms_th N j) (ms_te N j) (ms_ow N j) (ms_pr N j) (ms_fz N j) (ms_nd N j) (ms_le N j) (ms_en N j) (ms_ins N j) (ms_bg N j) (ms_ea N j) (ms_tp N j)) (hw : sumP (cs_lt T) (cs_n S) ≤ sumP (cs_lt S) (cs_n S)) : Rel T N := by
  obtain ⟨k1, k2, k3, k4, k5, k6, k7, k8, k9, k10, k11, k12, k13, k14, k15⟩ := h
  obtain ⟨f, s1, s2, s3, s4⟩ := hs
  have f0 := f
  obtain ⟨f1, f2, f3, f4⟩ := f
  have hg : grow T := by
    unfold grow
    rw [f1, f3, s4]
    exact ⟨Int.le_trans (Int.mul_le_mul_of_nonneg_right hw (pw _).1) k15.1, k15.2⟩
  refine ⟨f0.ok k1, hm.ok k2, ?_, ?_, hp, hl, ?_, ?_, ?_, ?_, ?_, ?_, ?_, ?_, hg⟩
  · rw [f1, hm.1]; exact k3
  · rw [s1, hm.2.1]; exact k4
  · rw [s2, hm.2.2.1]; exact k7
  · rw [s3, hm.2.2.2.1]; exact k8
  · rw [s4, hm.2.2.2.2.1]; exact k9
  · rw [s2]; exact k10
  · rw [s1]; exact k11
  · rw [s3]; exact k12
  · rw [s4]; exact k13
  · intro j hj2
    rw [f1] at hj2
    show relL (cs_lt T j) (cs_day T) _ _ _ _ _ _ _ _ _ _ _ _
    rw [s4]
    exact hj j hj2
/-- one lot changes in both, nothing of the others -/
theorem Rel.chg1 {S T : CS} {M N : MS} (h : Rel S M) {k : Nat} {r : LR} (hk : k < cs_n S) (hs : scS S T) (hm : scM M N) (hp : cs_paid T = ms_paid N) (hl : cs_lost T = ms_lost N) (ht : cs_lt T = va_up (cs_lt S) k r) (hj : ∀ j, j ≠ k → sam M N j) (hr : relL r (cs_day S) (ms_th N k) (ms_te N k) (ms_ow N k) (ms_pr N k) (ms_fz N k) (ms_nd N k) (ms_le N k) (ms_en N k) (ms_ins N k) (ms_bg N k) (ms_ea N k) (ms_tp N k)) (hw : wP r ≤ wP (cs_lt S k)) : Rel T N := by
  refine Rel.chg h hs hm hp hl (fun j hj2 => ?_) ?_
  · rw [ht]
    by_cases c : j = k
    · subst c
      rw [va_up_self]
      exact hr
    · rw [va_up_ne _ _ c]
      exact (hj j c).rel (h.lot hj2)
  · rw [ht]
    have e : ∀ n, sumP (va_up (cs_lt S) k r) n ≤ sumP (cs_lt S) n := fun n => by
      induction n with
      | zero => exact Int.le_refl _
      | succ n ih =>
        rw [sumP, sumP]
        by_cases c : n = k
        · subst c; rw [va_up_self]; omega
        · rw [va_up_ne _ _ c]; omega
    exact e _
/-- dead -/
theorem wP_dead {r : LR} (h : lr_pr r ≤ 0) : wP r = 0 := by rw [wP, if_pos h]
theorem wP_note {r : LR} (h : bT r = 0) : wP r = 0 := by
  rw [wP]
  by_cases c : lr_pr r ≤ 0
  · rw [if_pos c]
  · rw [if_neg c, if_pos h]
theorem wP_term {r : LR} (h : ¬ lr_pr r ≤ 0) (g : ¬ bT r = 0) : wP r = (lr_pr r).toInt * 3650000 + (lr_ea r).toInt := by rw [wP, if_neg h, if_neg g]
theorem wP_pos {S : CS} {M : MS} (h : Rel S M) {j : Nat} (hj : j < cs_n S) : 0 ≤ wP (cs_lt S j) := by
  by_cases c : lr_pr (cs_lt S j) ≤ 0
  · rw [wP_dead c]; exact Int.le_refl _
  · by_cases d : bT (cs_lt S j) = 0
    · rw [wP_note d]; exact Int.le_refl _
    · rw [wP_term c d]
      have a := alive_b c
      have b := (((h.lot hj).2.2.2 c).2.2.2 d).2.2.2.2.2.2.2.2.2.2
      omega
theorem sumP_ge {f : Nat → LR} : ∀ {n : Nat}, (∀ j, j < n → 0 ≤ wP (f j)) → 0 ≤ sumP f n ∧ ∀ j, j < n → wP (f j) ≤ sumP f n
  | 0, _ => ⟨Int.le_refl _, fun j hj => absurd hj (Nat.not_lt_zero j)⟩
  | n + 1, h => by
    have e := sumP_ge (n := n) (fun j hj => h j (by omega))
    have e2 := h n (by omega)
    rw [sumP]
    refine ⟨by omega, fun j hj => ?_⟩
    by_cases c : j = n
    · subst c; omega
    · have := e.2 j (by omega); omega
theorem pw_pos : ∀ d : Nat, 0 < (1825 : Int) ^ d
  | 0 => by decide
  | d + 1 => by rw [Int.pow_succ]; have := pw_pos d; omega
theorem pw_mono : ∀ e d : Nat, (1826 : Int) ^ d * 1825 ^ (e + d) ≤ 1826 ^ (e + d) * 1825 ^ d
  | 0, d => by rw [Nat.zero_add]; exact Int.le_refl _
  | e + 1, d => by
    have h := pw_mono e d
    have a := pw_pos d
    have b := pw (e + d)
    have c : 0 ≤ (1826 : Int) ^ (e + d) * 1825 ^ d := Int.mul_nonneg (by omega) (by omega)
    rw [show e + 1 + d = (e + d) + 1 by omega, Int.pow_succ, Int.pow_succ, ← Int.mul_assoc, Int.mul_right_comm ((1826 : Int) ^ (e + d)) 1826]
    omega
theorem pw_3000 : (36500000000000 : Int) * 40 * 1826 ^ 3000 < 7838315000000000 * 1825 ^ 3000 := by decide +kernel
/-- no lot by TERM outgrows an int -/
theorem grow_b {x n : Int} {d : Nat} (hd : d ≤ 3000) (hn : n ≤ 40) (h : x * 1825 ^ d ≤ 36500000000000 * n * 1826 ^ d) : x < 7838315000000000 := by
  have e := pw_mono (3000 - d) d
  rw [show 3000 - d + d = 3000 by omega] at e
  have a := pw_pos d
  have b := pw d
  have z := pw_pos 3000
  have h1 : x * 1825 ^ d * 1825 ^ 3000 ≤ 36500000000000 * 40 * 1826 ^ d * 1825 ^ 3000 := by
    refine Int.mul_le_mul_of_nonneg_right (Int.le_trans h ?_) (by omega)
    exact Int.mul_le_mul_of_nonneg_right (by omega) (by omega)
  have h2 : (36500000000000 * 40 * 1826 ^ d * 1825 ^ 3000 : Int) ≤ 36500000000000 * 40 * (1826 ^ 3000 * 1825 ^ d) := by
    rw [Int.mul_assoc (36500000000000 * 40)]
    exact Int.mul_le_mul_of_nonneg_left e (by decide)
  have h3 : (36500000000000 * 40 * (1826 ^ 3000 * 1825 ^ d) : Int) < 7838315000000000 * 1825 ^ 3000 * 1825 ^ d := by
    rw [← Int.mul_assoc]
    exact Int.mul_lt_mul_of_pos_right pw_3000 a
  have h4 : x * (1825 ^ d * 1825 ^ 3000) < 7838315000000000 * (1825 ^ d * 1825 ^ 3000) := by
    rw [← Int.mul_assoc, ← Int.mul_assoc, Int.mul_right_comm 7838315000000000]
    exact Int.lt_of_le_of_lt h1 (Int.lt_of_le_of_lt h2 h3)
  exact Int.lt_of_mul_lt_mul_right h4 (Int.le_of_lt (Int.mul_pos a z))
theorem day_nat {S : CS} {M : MS} (h : Rel S M) : ((cs_day S).toNatClampNeg : Int) = (cs_day S).toInt ∧ (cs_day S).toNatClampNeg ≤ 3000 := by
  have hd := h.2.2.2.2.2.2.2.2.2.2.2.2.1
  have e : ((cs_day S).toNatClampNeg : Int) = (cs_day S).toInt := by
    show (((cs_day S).toInt.toNat : Nat) : Int) = _
    exact Int.toNat_of_nonneg hd.1
  exact ⟨e, by omega⟩
theorem sum_b {S : CS} {M : MS} (h : Rel S M) : sumP (cs_lt S) (cs_n S) < 7838315000000000 := grow_b (day_nat h).2 (by have := h.le; omega) h.2.2.2.2.2.2.2.2.2.2.2.2.2.2.1
theorem wP_b {S : CS} {M : MS} (h : Rel S M) {j : Nat} (hj : j < cs_n S) : 0 ≤ wP (cs_lt S j) ∧ wP (cs_lt S j) < 7838315000000000 := ⟨wP_pos h hj, Int.lt_of_le_of_lt ((sumP_ge (fun i hi => wP_pos h hi)).2 j hj) (sum_b h)⟩
/-- whole cents and what is left -/
theorem cents {x : Int64} (h0 : 0 ≤ x.toInt) (h1 : x.toInt < 7838315000000000) : (Int64.toInt32 (x / 3650000)).toInt = x.toInt / 3650000 ∧ (x - x / 3650000 * 3650000).toInt = x.toInt % 3650000 := by
  have e0 : (3650000 : Int64).toInt = 3650000 := rfl
  have d : (x / 3650000).toInt = x.toInt / 3650000 := by
    rw [Int64.toInt_div, e0, Int.tdiv_eq_ediv_of_nonneg h0]
    exact Int.bmod_eq_of_le (by omega) (by omega)
  have m : (x / 3650000 * 3650000).toInt = x.toInt / 3650000 * 3650000 := by
    rw [Int64.toInt_mul, d, e0]
    exact Int.bmod_eq_of_le (by omega) (by omega)
  refine ⟨?_, ?_⟩
  · rw [Int64.toInt_toInt32, d]
    exact Int.bmod_eq_of_le (by omega) (by omega)
  · rw [j_sub (by omega) (by omega), m]
    omega
