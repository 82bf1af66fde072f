section DAY
variable {S : CS} {M : MS}
def eaR (r : LR) : LR := lr_set_ea r (lr_ea r + lr_pa r)
theorem sea_bT (r : LR) (v : Int64) : bT (lr_set_ea r v) = bT r := bT_td (sea_td r v)
theorem eaR_cu (r : LR) : lr_cu (eaR r) = lr_cu r := sea_cu r _
theorem eaR_pr (r : LR) : lr_pr (eaR r) = lr_pr r := sea_pr r _
theorem eaR_bT (r : LR) : bT (eaR r) = bT r := sea_bT r _
theorem eaR_ea (r : LR) : lr_ea (eaR r) = lr_ea r + lr_pa r := sea_ea r _
theorem sea_pa (r : LR) (v : Int64) : lr_pa (lr_set_ea r v) = lr_pa r := rfl
theorem eaR_pa (r : LR) : lr_pa (eaR r) = lr_pa r := sea_pa r _
theorem eoL_at (h : Rel S M) : ∀ i, i ≤ cs_n S → ∀ q, eoL S i q = if q < i ∧ ¬ lr_pr (cs_lt S q) ≤ 0 then eaR (cs_lt S q) else cs_lt S q
  | 0, _, q => by rw [if_neg (fun k => absurd k.1 (Nat.not_lt_zero q))]; rfl
  | i + 1, hi, q => by
    have e := eoL_at h i (by omega)
    rcases xAt_or h (i := i) (by omega) with ⟨h1, h2, h3⟩ | ⟨h1, h2, h3⟩
    · rw [eoL_s h1]
      by_cases k : q = i
      · subst k
        rw [va_up_self, e q, if_neg (fun z => absurd z.1 (Nat.lt_irrefl q)), if_pos ⟨Nat.lt_succ_self q, h3⟩, eaR]
      · rw [va_up_ne _ _ k, e q]
        by_cases x : q < i ∧ ¬ lr_pr (cs_lt S q) ≤ 0
        · rw [if_pos x, if_pos ⟨by omega, x.2⟩]
        · rw [if_neg x, if_neg (fun z => x ⟨by omega, z.2⟩)]
    · rw [eoL_n h1, e q]
      by_cases k : q = i
      · subst k
        rw [if_neg (fun z => absurd z.1 (Nat.lt_irrefl q)), if_neg (fun z => z.2 h3)]
      · by_cases x : q < i ∧ ¬ lr_pr (cs_lt S q) ≤ 0
        · rw [if_pos x, if_pos ⟨by omega, x.2⟩]
        · rw [if_neg x, if_neg (fun z => x ⟨by omega, z.2⟩)]
theorem meEa_at (M : MS) : ∀ i q, meEa M i q = if q < i then ms_ea M q + (if ms_th M q = 0 then 0 else mPn M q) else ms_ea M q
  | 0, q => by rw [if_neg (Nat.not_lt_zero q)]; rfl
  | i + 1, q => by
    have e := meEa_at M i
    rw [meEa]
    by_cases k : q = i
    · subst k
      rw [updL_self, e q, if_neg (Nat.lt_irrefl q), if_pos (Nat.lt_succ_self q)]
    · rw [updL_ne k, e q]
      by_cases x : q < i
      · rw [if_pos x, if_pos (show q < i + 1 by omega)]
      · rw [if_neg x, if_neg (show ¬ q < i + 1 by omega)]
theorem ps1_lt (S : CS) : cs_lt (ps1 S) = eoL S (cs_n S) := rfl
theorem ps1_day (S : CS) : cs_day (ps1 S) = cs_day S + 1 := rfl
theorem ps1_o (S : CS) : fixd S (ps1 S) ∧ cs_rates (ps1 S) = cs_rates S ∧ cs_bb (ps1 S) = cs_bb S ∧ cs_tr (ps1 S) = cs_tr S ∧ cs_paid (ps1 S) = cs_paid S ∧ cs_lost (ps1 S) = cs_lost S := ⟨⟨rfl, rfl, rfl, rfl⟩, rfl, rfl, rfl, rfl, rfl⟩
theorem mDay_ea (M : MS) : ms_ea (mDay M) = meEa M (ms_n M) := rfl
theorem mDay_now (M : MS) : ms_now (mDay M) = ms_now M + 1 := rfl
theorem mDay_o (M : MS) : ms_n (mDay M) = ms_n M ∧ ms_rates (mDay M) = ms_rates M ∧ ms_bb (mDay M) = ms_bb M ∧ ms_tr (mDay M) = ms_tr M ∧ ms_ow (mDay M) = ms_ow M ∧ ms_te (mDay M) = ms_te M ∧ ms_th (mDay M) = ms_th M ∧ ms_pr (mDay M) = ms_pr M ∧ ms_fz (mDay M) = ms_fz M ∧ ms_nd (mDay M) = ms_nd M ∧ ms_le (mDay M) = ms_le M ∧ ms_en (mDay M) = ms_en M ∧ ms_ins (mDay M) = ms_ins M ∧ ms_bg (mDay M) = ms_bg M ∧ ms_tp (mDay M) = ms_tp M ∧ ms_paid (mDay M) = ms_paid M ∧ ms_lost (mDay M) = ms_lost M := ⟨rfl, rfl, rfl, rfl, rfl, rfl, rfl, rfl, rfl, rfl, rfl, rfl, rfl, rfl, rfl, rfl, rfl⟩
theorem t_dead (h : Rel S M) {j : Nat} (hj : j < cs_n S) (h3 : lr_pr (cs_lt S j) ≤ 0) : cs_lt (ps1 S) j = cs_lt S j := by
  rw [ps1_lt, eoL_at h _ (Nat.le_refl _) j, if_neg (fun k => k.2 h3)]
theorem t_live (h : Rel S M) {j : Nat} (hj : j < cs_n S) (h3 : ¬ lr_pr (cs_lt S j) ≤ 0) : cs_lt (ps1 S) j = eaR (cs_lt S j) := by
  rw [ps1_lt, eoL_at h _ (Nat.le_refl _) j, if_pos ⟨hj, h3⟩]
theorem m_live {j : Nat} (hj : j < ms_n M) (h3 : ¬ ms_th M j = 0) : ms_ea (mDay M) j = ms_ea M j + mPn M j := by
  rw [mDay_ea, meEa_at, if_pos hj, if_neg h3]
theorem earn_term (h : Rel S M) {j : Nat} (hj : j < cs_n S) (h3 : ¬ lr_pr (cs_lt S j) ≤ 0) (h4 : ¬ bT (cs_lt S j) = 0) : (lr_ea (eaR (cs_lt S j))).toInt = (lr_ea (cs_lt S j)).toInt + (lr_pa (cs_lt S j)).toInt ∧ 0 ≤ (lr_pa (cs_lt S j)).toInt ∧ (lr_pa (cs_lt S j)).toInt ≤ 2000 * (lr_pr (cs_lt S j)).toInt := by
  have w := term_w h hj h3 h4
  obtain ⟨t1, t2, t3, t4, t5, t6, t7, t8, t9, t10, t11⟩ := ((h.lot hj).2.2.2 h3).2.2.2 h4
  rw [eaR_ea]
  exact ⟨j_add (by omega) (by omega), t9, t10⟩
theorem earn_w (h : Rel S M) {j : Nat} (hj : j < cs_n S) : 0 ≤ wP (cs_lt (ps1 S) j) ∧ wP (cs_lt (ps1 S) j) * 1825 ≤ wP (cs_lt S j) * 1826 := by
  have w0 := wP_pos h hj
  by_cases h3 : lr_pr (cs_lt S j) ≤ 0
  · rw [t_dead h hj h3]; omega
  · rw [t_live h hj h3]
    by_cases h4 : bT (cs_lt S j) = 0
    · rw [wP_note ((eaR_bT _).trans h4)]; omega
    · have e := earn_term h hj h3 h4
      have w := term_w h hj h3 h4
      rw [wP_term (by rw [eaR_pr]; exact h3) (by rw [eaR_bT]; exact h4), eaR_pr, e.1, wP_term h3 h4]
      omega
theorem sumP_1826 {f g : Nat → LR} : ∀ n, (∀ j, j < n → wP (g j) * 1825 ≤ wP (f j) * 1826) → sumP g n * 1825 ≤ sumP f n * 1826
  | 0, _ => Int.le_refl _
  | n + 1, h => by
    have a := sumP_1826 n (fun j hj => h j (by omega))
    have b := h n (by omega)
    rw [sumP, sumP, Int.add_mul, Int.add_mul]
    exact Int.add_le_add a b
theorem day_grow (h : Rel S M) (hd : (cs_day S).toInt < 3000) : sumP (cs_lt (ps1 S)) (cs_n S) * 1825 ^ (cs_day (ps1 S)).toNatClampNeg ≤ 36500000000000 * (cs_n S : Int) * 1826 ^ (cs_day (ps1 S)).toNatClampNeg ∧ (cs_day (ps1 S)).toInt = (cs_day S).toInt + 1 ∧ sumP (cs_lt (ps1 S)) (cs_n S) < 7838315000000000 ∧ (∀ j, j < cs_n S → wP (cs_lt (ps1 S) j) < 7838315000000000) := by
  have dn := day_nat h
  have e1 : (cs_day (ps1 S)).toInt = (cs_day S).toInt + 1 := by
    rw [ps1_day, i_add (by rw [i_1]; omega) (by rw [i_1]; omega), i_1]
  have e2 : (cs_day (ps1 S)).toNatClampNeg = (cs_day S).toNatClampNeg + 1 := by
    show (cs_day (ps1 S)).toInt.toNat = (cs_day S).toInt.toNat + 1
    rw [e1]
    have := h.2.2.2.2.2.2.2.2.2.2.2.2.1
    omega
  have s := sumP_1826 (f := cs_lt S) (g := cs_lt (ps1 S)) (cs_n S) (fun j hj => (earn_w h hj).2)
  have g := h.2.2.2.2.2.2.2.2.2.2.2.2.2.2.1
  have g2 : sumP (cs_lt (ps1 S)) (cs_n S) * 1825 ^ (cs_day (ps1 S)).toNatClampNeg ≤ 36500000000000 * (cs_n S : Int) * 1826 ^ (cs_day (ps1 S)).toNatClampNeg := by
    rw [e2, Int.pow_succ, Int.pow_succ, ← Int.mul_assoc, ← Int.mul_assoc, Int.mul_right_comm]
    refine Int.le_trans (Int.mul_le_mul_of_nonneg_right s (pw _).1) ?_
    rw [Int.mul_right_comm]
    exact Int.mul_le_mul_of_nonneg_right g (by decide)
  have b := grow_b (by omega) (by have := h.le; omega) g2
  exact ⟨g2, e1, b, fun j hj => Int.lt_of_le_of_lt ((sumP_ge (fun i hi => (earn_w h hi).1)).2 j hj) b⟩
/-! the parts of a day count the lots by NOTICE alone -/
theorem mSu_c {th te ow pr th2 pr2 : Nat → Int32} {cu : Int32} : ∀ i, (∀ j, j < i → te j = 0 → th2 j = th j ∧ pr2 j = pr j) → mSu th2 te ow pr2 cu i = mSu th te ow pr cu i
  | 0, _ => rfl
  | i + 1, h => by
    rw [mSu, mSu, mSu_c i (fun j hj => h j (by omega))]
    by_cases c : te i = 0
    · obtain ⟨a, b⟩ := h i (by omega) c
      have e : mNo th2 te ow i cu = mNo th te ow i cu := by unfold mNo; rw [a]
      rw [e, b]
    · have e1 : mNo th2 te ow i cu = 0 := by unfold mNo; rw [if_neg c]; split <;> rfl
      have e2 : mNo th te ow i cu = 0 := by unfold mNo; rw [if_neg c]; split <;> rfl
      rw [e1, e2, if_pos rfl, if_pos rfl]
theorem mPn_c {M N : MS} (h : ms_n N = ms_n M ∧ ms_rates N = ms_rates M ∧ ms_bb N = ms_bb M ∧ ms_ow N = ms_ow M ∧ ms_te N = ms_te M) (hq : ∀ j, j < ms_n M → ms_te M j = 0 → ms_th N j = ms_th M j ∧ ms_pr N j = ms_pr M j) {j : Nat} (hj : j < ms_n M) (hte : ms_te M j = 0) : mPn N j = mPn M j := by
  obtain ⟨a1, a2, a3, a4, a5⟩ := h
  have b1 : ∀ cu i, i ≤ ms_n M → mSu (ms_th N) (ms_te N) (ms_ow N) (ms_pr N) cu i = mSu (ms_th M) (ms_te M) (ms_ow M) (ms_pr M) cu i := fun cu i hi => by
    rw [a4, a5]
    exact mSu_c i (fun j hj => hq j (by omega))
  show (if ms_te N j = 0 then (if ms_bb N = 0 then Int32.toInt64 (ms_pr N j) * Int32.toInt64 (mRf (ms_rates N) (mSu (ms_th N) (ms_te N) (ms_ow N) (ms_pr N) (ms_ow N j) (ms_n N))) else mPo (ms_rates N) (mSu (ms_th N) (ms_te N) (ms_ow N) (ms_pr N) (ms_ow N j) j + ms_pr N j) - mPo (ms_rates N) (mSu (ms_th N) (ms_te N) (ms_ow N) (ms_pr N) (ms_ow N j) j)) else ms_tp N j) = (if ms_te M j = 0 then (if ms_bb M = 0 then Int32.toInt64 (ms_pr M j) * Int32.toInt64 (mRf (ms_rates M) (mSu (ms_th M) (ms_te M) (ms_ow M) (ms_pr M) (ms_ow M j) (ms_n M))) else mPo (ms_rates M) (mSu (ms_th M) (ms_te M) (ms_ow M) (ms_pr M) (ms_ow M j) j + ms_pr M j) - mPo (ms_rates M) (mSu (ms_th M) (ms_te M) (ms_ow M) (ms_pr M) (ms_ow M j) j)) else ms_tp M j)
  rw [a1, b1 _ _ (Nat.le_refl _), b1 _ j (by omega), a4, a5, a2, a3, if_pos hte, if_pos hte, (hq j hj hte).2]
end DAY
