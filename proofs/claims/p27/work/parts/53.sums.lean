/-! sums over a customer's lots, parts of a day -/
theorem i_sub {x y : Int32} (h1 : -2147483648 ≤ x.toInt - y.toInt) (h2 : x.toInt - y.toInt < 2147483648) : (x - y).toInt = x.toInt - y.toInt := by
  rw [Int32.toInt_sub]
  exact Int.bmod_eq_of_le (by omega) (by omega)
theorem i_add {x y : Int32} (h1 : -2147483648 ≤ x.toInt + y.toInt) (h2 : x.toInt + y.toInt < 2147483648) : (x + y).toInt = x.toInt + y.toInt := by
  rw [Int32.toInt_add]
  exact Int.bmod_eq_of_le (by omega) (by omega)
theorem j_sub {x y : Int64} (h1 : -9223372036854775808 ≤ x.toInt - y.toInt) (h2 : x.toInt - y.toInt < 9223372036854775808) : (x - y).toInt = x.toInt - y.toInt := by
  rw [Int64.toInt_sub]
  exact Int.bmod_eq_of_le (by omega) (by omega)
theorem j_add {x y : Int64} (h1 : -9223372036854775808 ≤ x.toInt + y.toInt) (h2 : x.toInt + y.toInt < 9223372036854775808) : (x + y).toInt = x.toInt + y.toInt := by
  rw [Int64.toInt_add]
  exact Int.bmod_eq_of_le (by omega) (by omega)
theorem i_b (x : Int32) : -2147483648 ≤ x.toInt ∧ x.toInt < 2147483648 := ⟨Int32.le_toInt x, Int32.toInt_lt x⟩
theorem ext_sub {x y : Int32} (h1 : -2147483648 ≤ x.toInt - y.toInt) (h2 : x.toInt - y.toInt < 2147483648) : Int32.toInt64 (x - y) = Int32.toInt64 x - Int32.toInt64 y := by
  apply Int64.toInt_inj.mp
  have a := i_b x
  have b := i_b y
  rw [Int32.toInt_toInt64, i_sub h1 h2, j_sub, Int32.toInt_toInt64, Int32.toInt_toInt64]
  · rw [Int32.toInt_toInt64, Int32.toInt_toInt64]; omega
  · rw [Int32.toInt_toInt64, Int32.toInt_toInt64]; omega
theorem i_0 : (0 : Int32).toInt = 0 := rfl
theorem i_1 : (1 : Int32).toInt = 1 := rfl
theorem i_5 : (100000 : Int32).toInt = 100000 := rfl
theorem i_6 : (1000000 : Int32).toInt = 1000000 := rfl
section SUMS
variable {S : CS} {M : MS}
theorem xN_or (h : Rel S M) {i : Nat} (hi : i < cs_n S) (cu : Int32) : (xN S (nI i) cu = some i ∧ ¬ mNoM M i cu = 0 ∧ ¬ lr_pr (cs_lt S i) ≤ 0 ∧ bT (cs_lt S i) = 0 ∧ lr_cu (cs_lt S i) = cu) ∨ (xN S (nI i) cu = none ∧ mNoM M i cu = 0) := by
  have hn := h.le
  have hc : (nI i).toNatClampNeg = i := nI_clamp (by omega)
  have g := h.lot hi
  rcases lot_or h (nI i) with ⟨h1, h2, h3, h4, h5, h6⟩ | ⟨h1, h2, h3⟩
  · rw [hc] at h2 h5
    have hth : ¬ ms_th M i = 0 := fun q => h5 (g.2.2.1.mpr q)
    by_cases c : bT (cs_lt S i) = 0
    · have hte : ms_te M i = 0 := g.2.1.symm.trans c
      by_cases d : lr_cu (cs_lt S i) = cu
      · refine Or.inl ⟨by rw [xN, h2]; dsimp only; rw [if_pos c, if_pos d], ?_, h5, c, d⟩
        unfold mNoM mNo
        rw [if_neg hth, if_pos hte, if_pos (g.1.symm.trans d)]
        decide
      · refine Or.inr ⟨by rw [xN, h2]; dsimp only; rw [if_pos c, if_neg d], ?_⟩
        unfold mNoM mNo
        rw [if_neg hth, if_pos hte, if_neg (fun q => d (g.1.trans q))]
    · refine Or.inr ⟨by rw [xN, h2]; dsimp only; rw [if_neg c], ?_⟩
      unfold mNoM mNo
      rw [if_neg hth, if_neg (fun q => c (g.2.1.trans q))]
  · have hp : lr_pr (cs_lt S i) ≤ 0 := by
      by_cases q : lr_pr (cs_lt S i) ≤ 0
      · exact q
      · unfold xAt at h2
        have h40 : nI i < 40 := show nI i < nI 40 from nI_lt (by omega) (by decide)
        rw [if_neg (nI_pos (by omega)), if_pos h40, hc, if_pos hi, if_neg q] at h2
        cases h2
    exact Or.inr ⟨by rw [xN, h2], by unfold mNoM mNo; rw [if_pos (g.2.2.1.mp hp)]⟩
theorem tot_eq (h : Rel S M) (cu : Int32) : ∀ i, i ≤ cs_n S → totTo S cu i = mSuM M cu i
  | 0, _ => rfl
  | i + 1, hi => by
    have e := tot_eq h cu i (by omega)
    rcases xN_or h (i := i) (by omega) cu with ⟨h1, h2, h3, h4, h5⟩ | ⟨h1, h2⟩
    · rw [totTo_s h1, msu_1 h2, e, ((h.lot (j := i) (by omega)).2.2.2 h3).1]
    · rw [totTo_n h1, msu_0 h2, e, Int32.add_zero]
theorem alive_b {r : LR} (h : ¬ lr_pr r ≤ 0) : 1 ≤ (lr_pr r).toInt := by
  rw [i_le, i_0] at h; omega
theorem tot_b (h : Rel S M) (cu : Int32) : ∀ i, i ≤ cs_n S → 0 ≤ (totTo S cu i).toInt ∧ (totTo S cu i).toInt ≤ 10000000 * i
  | 0, _ => by
    show 0 ≤ (0 : Int32).toInt ∧ (0 : Int32).toInt ≤ 10000000 * ((0 : Nat) : Int)
    decide
  | i + 1, hi => by
    have e := tot_b h cu i (by omega)
    have hn := h.le
    rcases xN_or h (i := i) (by omega) cu with ⟨h1, h2, h3, h4, h5⟩ | ⟨h1, h2⟩
    · have g := ((h.lot (j := i) (by omega)).2.2.2 h3).2.2.1 h4
      have g1 := g.2.2.2.2.1
      have g2 := alive_b h3
      rw [totTo_s h1, i_add (by omega) (by omega)]
      omega
    · rw [totTo_n h1]; omega
theorem rws_eq (h : Rel S M) {z : Int32} (hz : 0 ≤ z.toInt) : rws S z = mRf (ms_rates M) z := by
  have hb := i_b z
  have e := i_sub (x := z) (y := 1) (by rw [i_1]; omega) (by rw [i_1]; omega)
  rw [i_1] at e
  have a1 : (100000 ≤ z - 1) ↔ 100000 < z := by rw [i_le, i_lt, e, i_5]; omega
  have a2 : (1000000 ≤ z - 1) ↔ 1000000 < z := by rw [i_le, i_lt, e, i_6]; omega
  have hr : cs_rates S = ms_rates M := h.2.2.2.1
  simp only [rws, mRf, a1, a2, hr]
theorem p1_eq (z : Int32) : Int32.toInt64 (pbb1 z) = mP1 z := by
  unfold pbb1 mP1
  by_cases c : 100000 < z
  · rw [if_pos c, if_pos (by rw [i_lt] at c; rw [i_le]; omega)]; rfl
  · rw [if_neg c]
    by_cases d : 100000 ≤ z
    · have e : z = 100000 := by
        apply Int32.toInt_inj.mp
        rw [i_lt] at c; rw [i_le] at d; omega
      rw [if_pos d, e]; rfl
    · rw [if_neg d]
theorem pbb_eq (h : Rel S M) {z : Int32} (hz : 0 ≤ z.toInt) : pbb S z = mPo (ms_rates M) z := by
  have hr : cs_rates S = ms_rates M := h.2.2.2.1
  have hb := i_b z
  have b1 : 0 ≤ (pbb1 z).toInt ∧ (pbb1 z).toInt ≤ z.toInt ∧ (pbb1 z).toInt ≤ 100000 := by
    unfold pbb1
    split
    · rename_i c; rw [i_lt, i_5] at c; rw [i_5]; omega
    · rename_i c; rw [i_lt, i_5] at c; omega
  have b2 : (pbb2 z).toInt = (if 1000000 < z then 1000000 else z).toInt - (pbb1 z).toInt ∧ 0 ≤ (if 1000000 < z then 1000000 else z : Int32).toInt ∧ (if 1000000 < z then 1000000 else z : Int32).toInt ≤ z.toInt := by
    have b3 : 0 ≤ (if 1000000 < z then 1000000 else z : Int32).toInt ∧ (if 1000000 < z then 1000000 else z : Int32).toInt ≤ z.toInt := by
      split
      · rename_i c; rw [i_lt, i_6] at c; rw [i_6]; omega
      · omega
    exact ⟨by unfold pbb2; rw [i_sub (by omega) (by omega)], b3⟩
  have e2 : Int32.toInt64 (pbb2 z) = mP2 z := by
    unfold pbb2 mP2
    rw [ext_sub (by omega) (by omega), p1_eq]
    by_cases c : 1000000 < z
    · have d : 1000000 ≤ z := by rw [i_lt] at c; rw [i_le]; omega
      have d1 : 100000 ≤ z := by rw [i_lt, i_6] at c; rw [i_le, i_5]; omega
      rw [if_pos c, if_pos d, mP1, if_pos d1]; rfl
    · rw [if_neg c]
      by_cases d : 1000000 ≤ z
      · have e : z = 1000000 := by
          apply Int32.toInt_inj.mp
          rw [i_lt] at c; rw [i_le] at d; omega
        rw [if_pos d, e]; rfl
      · rw [if_neg d]
  have e1 := i_sub (x := z) (y := pbb1 z) (by omega) (by omega)
  unfold pbb mPo
  rw [ext_sub (by rw [e1]; omega) (by rw [e1]; omega), ext_sub (by omega) (by omega), p1_eq, e2, hr]
end SUMS
