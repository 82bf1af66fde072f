/-! the days: what stands noted, what a day earns
-/
section PASS
variable {S : CS} {M : MS}
def Noted (S : CS) (M : MS) : Prop := ∀ j, j < cs_n S → ¬ lr_pr (cs_lt S j) ≤ 0 → bT (cs_lt S j) = 0 → lr_pa (cs_lt S j) = mPn M j
theorem noteX_f (S : CS) (cu : Int32) (j : Nat) : lr_cu (cs_lt (noteX S cu) j) = lr_cu (cs_lt S j) ∧ bT (cs_lt (noteX S cu) j) = bT (cs_lt S j) ∧ lr_pr (cs_lt (noteX S cu) j) = lr_pr (cs_lt S j) := by
  obtain ⟨v, hv⟩ := npL_f S cu (cs_n S) j
  have e : cs_lt (noteX S cu) j = lr_set_pa (cs_lt S j) v := hv
  rw [e]
  exact ⟨rfl, rfl, rfl⟩
theorem note_other (h : Rel S M) {cu : Int32} {j : Nat} (hc : ¬ lr_cu (cs_lt S j) = cu) : lr_pa (cs_lt (noteX S cu) j) = lr_pa (cs_lt S j) := by
  show lr_pa (npL S cu (cs_n S) j) = _
  rw [npL_at h cu _ (Nat.le_refl _) j, if_neg (fun k => hc (xN_at k.2).2.2)]
theorem nt_rel (h : Rel S M) : ∀ i, Rel (ntTo S i) M
  | 0 => h
  | i + 1 => note_rel (nt_rel h i) (nI i)
theorem nt_noted (h : Rel S M) : ∀ i j, j < cs_n S → ¬ lr_pr (cs_lt (ntTo S i) j) ≤ 0 → bT (cs_lt (ntTo S i) j) = 0 → (∃ q, q < i ∧ lr_cu (cs_lt (ntTo S i) j) = nI q) → lr_pa (cs_lt (ntTo S i) j) = mPn M j
  | 0, j, _, _, _, h => by obtain ⟨q, hq, _⟩ := h; omega
  | i + 1, j, hj, h1, h2, h3 => by
    have hn : cs_n (ntTo S i) = cs_n S := (fx_nt S i).1
    have hf := noteX_f (ntTo S i) (nI i) j
    have h1' : ¬ lr_pr (cs_lt (ntTo S i) j) ≤ 0 := fun q => h1 (by show lr_pr (cs_lt (noteX (ntTo S i) (nI i)) j) ≤ 0; rw [hf.2.2]; exact q)
    have h2' : bT (cs_lt (ntTo S i) j) = 0 := hf.2.1.symm.trans h2
    obtain ⟨q, hq, hqc⟩ := h3
    have hqc' : lr_cu (cs_lt (ntTo S i) j) = nI q := hf.1.symm.trans hqc
    show lr_pa (cs_lt (noteX (ntTo S i) (nI i)) j) = _
    by_cases c : lr_cu (cs_lt (ntTo S i) j) = nI i
    · exact note_pa (nt_rel h i) (nI i) (by rw [hn]; exact hj) h1' h2' c
    · rw [note_other (nt_rel h i) c]
      refine nt_noted h i j hj h1' h2' ⟨q, ?_, hqc'⟩
      rcases Nat.lt_or_ge q i with k | k
      · exact k
      · have e : q = i := by omega
        subst e
        exact absurd hqc' c
theorem nt4 (h : Rel S M) : Noted (ntTo S 4) M := fun j hj h1 h2 => by
  have hn : cs_n (ntTo S 4) = cs_n S := (fx_nt S 4).1
  obtain ⟨q, hq, e⟩ := vp_in_of ((nt_rel h 4).cu hj) (by decide)
  exact nt_noted h 4 j (by rw [← hn]; exact hj) h1 h2 ⟨q, hq, e⟩
/-! bounds of a day's parts -/
theorem p1_v {z : Int32} (hz : 0 ≤ z.toInt) : (mP1 z).toInt = (if z.toInt < 100000 then z.toInt else 100000) := by
  unfold mP1
  by_cases c : 100000 ≤ z
  · rw [if_pos c]
    rw [i_le, i_5] at c
    rw [if_neg (by omega)]; rfl
  · rw [if_neg c, Int32.toInt_toInt64]
    rw [i_le, i_5] at c
    rw [if_pos (by omega)]
theorem p2_v {z : Int32} (hz : 0 ≤ z.toInt) : (mP2 z).toInt = (if z.toInt < 1000000 then z.toInt - (mP1 z).toInt else 900000) := by
  have e := p1_v hz
  have hb := i_b z
  have b1 : 0 ≤ (mP1 z).toInt ∧ (mP1 z).toInt ≤ 100000 := by rw [e]; split <;> omega
  unfold mP2
  by_cases c : 1000000 ≤ z
  · rw [if_pos c]
    rw [i_le, i_6] at c
    rw [if_neg (by omega)]; rfl
  · rw [if_neg c, j_sub (by rw [Int32.toInt_toInt64]; omega) (by rw [Int32.toInt_toInt64]; omega), Int32.toInt_toInt64]
    rw [i_le, i_6] at c
    rw [if_pos (by omega)]
theorem j_mulr {x : Int64} {y : Int32} (h1 : -9223372036854775808 ≤ x.toInt * y.toInt) (h2 : x.toInt * y.toInt < 9223372036854775808) : (x * Int32.toInt64 y).toInt = x.toInt * y.toInt := by
  rw [Int64.toInt_mul, Int32.toInt_toInt64]
  exact Int.bmod_eq_of_le (by omega) (by omega)
theorem r_b {x : Int64} {t : Int32} (hx : 0 ≤ x.toInt) (hx2 : x.toInt ≤ 2147483647) (ht : in2k t) : (x * Int32.toInt64 t).toInt = x.toInt * t.toInt ∧ 0 ≤ x.toInt * t.toInt ∧ x.toInt * t.toInt ≤ 2000 * x.toInt := by
  have h := mul_b hx (Int.le_refl x.toInt) ht.1 ht.2
  have h2 : x.toInt * 2000 = 2000 * x.toInt := Int.mul_comm _ _
  rw [h2] at h
  exact ⟨j_mulr (by omega) (by omega), h.1, h.2⟩
theorem mPo_v {rt : Nat → Int32} (hr : ∀ i, i < 3 → in2k (rt i)) {z : Int32} (hz : 0 ≤ z.toInt) : (mPo rt z).toInt = (mP1 z).toInt * (rt 0).toInt + (mP2 z).toInt * (rt 1).toInt + (z.toInt - (mP1 z).toInt - (mP2 z).toInt) * (rt 2).toInt ∧ 0 ≤ (mP1 z).toInt ∧ 0 ≤ (mP2 z).toInt ∧ 0 ≤ z.toInt - (mP1 z).toInt - (mP2 z).toInt := by
  have hb := i_b z
  have e1 := p1_v hz
  have e2 := p2_v hz
  have b1 : 0 ≤ (mP1 z).toInt ∧ (mP1 z).toInt ≤ z.toInt ∧ 0 ≤ (mP2 z).toInt ∧ (mP1 z).toInt + (mP2 z).toInt ≤ z.toInt := by
    rw [e2, e1]
    split <;> split <;> omega
  have s1 : (Int32.toInt64 z - mP1 z).toInt = z.toInt - (mP1 z).toInt := by
    rw [j_sub (by rw [Int32.toInt_toInt64]; omega) (by rw [Int32.toInt_toInt64]; omega), Int32.toInt_toInt64]
  have s2 : (Int32.toInt64 z - mP1 z - mP2 z).toInt = z.toInt - (mP1 z).toInt - (mP2 z).toInt := by
    rw [j_sub (by rw [s1]; omega) (by rw [s1]; omega), s1]
  have q1 := r_b (x := mP1 z) b1.1 (by omega) (hr 0 (by decide))
  have q2 := r_b (x := mP2 z) b1.2.2.1 (by omega) (hr 1 (by decide))
  have q3 := r_b (x := Int32.toInt64 z - mP1 z - mP2 z) (by rw [s2]; omega) (by rw [s2]; omega) (hr 2 (by decide))
  rw [s2] at q3
  have a1 : (mP1 z * Int32.toInt64 (rt 0) + mP2 z * Int32.toInt64 (rt 1)).toInt = (mP1 z).toInt * (rt 0).toInt + (mP2 z).toInt * (rt 1).toInt := by
    rw [j_add (by rw [q1.1, q2.1]; omega) (by rw [q1.1, q2.1]; omega), q1.1, q2.1]
  refine ⟨?_, b1.1, b1.2.2.1, by omega⟩
  unfold mPo
  rw [j_add (by rw [a1, q3.1]; omega) (by rw [a1, q3.1]; omega), a1, q3.1]
theorem mPo_b {rt : Nat → Int32} (hr : ∀ i, i < 3 → in2k (rt i)) {y z : Int32} (hy : 0 ≤ y.toInt) (hz : y.toInt ≤ z.toInt) : 0 ≤ (mPo rt z - mPo rt y).toInt ∧ (mPo rt z - mPo rt y).toInt ≤ 2000 * (z.toInt - y.toInt) := by
  have hb := i_b z
  obtain ⟨v1, v2, v3, v4⟩ := mPo_v hr (z := z) (by omega)
  obtain ⟨w1, w2, w3, w4⟩ := mPo_v hr (z := y) hy
  have d1 : (mP1 y).toInt ≤ (mP1 z).toInt := by
    rw [p1_v hy, p1_v (by omega)]
    split <;> split <;> omega
  have d2 : (mP2 y).toInt ≤ (mP2 z).toInt := by
    rw [p2_v hy, p2_v (by omega), p1_v hy, p1_v (by omega)]
    (repeat' split) <;> omega
  have d3 : y.toInt - (mP1 y).toInt - (mP2 y).toInt ≤ z.toInt - (mP1 z).toInt - (mP2 z).toInt := by
    rw [p2_v hy, p2_v (by omega), p1_v hy, p1_v (by omega)]
    (repeat' split) <;> omega
  have m1 := mul_b (x := (mP1 z).toInt - (mP1 y).toInt) (by omega) (Int.le_refl _) (hr 0 (by decide)).1 (hr 0 (by decide)).2
  have m2 := mul_b (x := (mP2 z).toInt - (mP2 y).toInt) (by omega) (Int.le_refl _) (hr 1 (by decide)).1 (hr 1 (by decide)).2
  have m3 := mul_b (x := (z.toInt - (mP1 z).toInt - (mP2 z).toInt) - (y.toInt - (mP1 y).toInt - (mP2 y).toInt)) (by omega) (Int.le_refl _) (hr 2 (by decide)).1 (hr 2 (by decide)).2
  rw [Int.sub_mul] at m1 m2 m3
  have n1 := mul_b (x := (mP1 y).toInt) w2 (Int.le_refl _) (hr 0 (by decide)).1 (hr 0 (by decide)).2
  have n2 := mul_b (x := (mP2 y).toInt) w3 (Int.le_refl _) (hr 1 (by decide)).1 (hr 1 (by decide)).2
  have n3 := mul_b (x := y.toInt - (mP1 y).toInt - (mP2 y).toInt) w4 (Int.le_refl _) (hr 2 (by decide)).1 (hr 2 (by decide)).2
  have o1 := mul_b (x := (mP1 z).toInt) v2 (Int.le_refl _) (hr 0 (by decide)).1 (hr 0 (by decide)).2
  have o2 := mul_b (x := (mP2 z).toInt) v3 (Int.le_refl _) (hr 1 (by decide)).1 (hr 1 (by decide)).2
  have o3 := mul_b (x := z.toInt - (mP1 z).toInt - (mP2 z).toInt) v4 (Int.le_refl _) (hr 2 (by decide)).1 (hr 2 (by decide)).2
  have s : (mPo rt z - mPo rt y).toInt = (mPo rt z).toInt - (mPo rt y).toInt := j_sub (by rw [v1, w1]; omega) (by rw [v1, w1]; omega)
  rw [s, v1, w1]
  omega
theorem mRf_in {rt : Nat → Int32} (hr : ∀ i, i < 3 → in2k (rt i)) (z : Int32) : in2k (mRf rt z) := by
  unfold mRf
  split
  · split
    · exact hr 2 (by decide)
    · exact hr 1 (by decide)
  · exact hr 0 (by decide)
theorem mPn_b (h : Rel S M) {j : Nat} (hj : j < cs_n S) (h3 : ¬ lr_pr (cs_lt S j) ≤ 0) (h4 : bT (cs_lt S j) = 0) : 0 ≤ (mPn M j).toInt ∧ (mPn M j).toInt ≤ 2000 * (ms_pr M j).toInt := by
  have hn := h.le
  have g := h.lot hj
  have ga := g.2.2.2 h3
  have hr : ∀ i, i < 3 → in2k (ms_rates M i) := by
    intro i hi
    rw [← h.2.2.2.1]
    exact h.2.2.2.2.2.2.2.2.2.2.1 i hi
  have a := alive_b h3
  have n3 := (ga.2.2.1 h4).2.2.2.2.1
  have hp := ga.1
  rw [hp] at a n3
  have hte : ms_te M j = 0 := g.2.1.symm.trans h4
  have e := tot_eq h (ms_ow M j) j (by omega)
  have b := tot_b h (ms_ow M j) j (by omega)
  rw [e] at b
  show 0 ≤ Int64.toInt (if ms_te M j = 0 then (if ms_bb M = 0 then Int32.toInt64 (ms_pr M j) * Int32.toInt64 (mRf (ms_rates M) (mSuM M (ms_ow M j) (ms_n M))) else mPo (ms_rates M) (mSuM M (ms_ow M j) j + ms_pr M j) - mPo (ms_rates M) (mSuM M (ms_ow M j) j)) else ms_tp M j) ∧ Int64.toInt (if ms_te M j = 0 then (if ms_bb M = 0 then Int32.toInt64 (ms_pr M j) * Int32.toInt64 (mRf (ms_rates M) (mSuM M (ms_ow M j) (ms_n M))) else mPo (ms_rates M) (mSuM M (ms_ow M j) j + ms_pr M j) - mPo (ms_rates M) (mSuM M (ms_ow M j) j)) else ms_tp M j) ≤ _
  rw [if_pos hte]
  by_cases c : ms_bb M = 0
  · rw [if_pos c]
    have q := parts_b (x := ms_pr M j) (by omega) (mRf_in hr (mSuM M (ms_ow M j) (ms_n M)))
    rw [q.1]; exact q.2
  · rw [if_neg c]
    have s := i_add (x := mSuM M (ms_ow M j) j) (y := ms_pr M j) (by omega) (by omega)
    have q := mPo_b hr (y := mSuM M (ms_ow M j) j) (z := mSuM M (ms_ow M j) j + ms_pr M j) b.1 (by omega)
    rw [s] at q
    omega
end PASS
