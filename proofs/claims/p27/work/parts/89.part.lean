/-! parts of a day: the law's overlaps and the reference's differences are one -/
theorem j_le {x y : Int64} : lg_cmp x y ≤ 0 ↔ x.toInt ≤ y.toInt := by rw [lg_cmp_le, Int64.le_iff_toInt_le]
theorem j_ge {x y : Int64} : 0 ≤ lg_cmp x y ↔ y.toInt ≤ x.toInt := by rw [lg_cmp_ge, Int64.le_iff_toInt_le]
theorem wiB_v (x lo : Int64) : (wiB x lo).toInt = if x.toInt ≤ lo.toInt then lo.toInt else x.toInt := by
  unfold wiB
  by_cases c : lg_cmp x lo ≤ 0
  · rw [if_pos c, if_pos (j_le.mp c)]
  · rw [if_neg c, if_neg (fun q => c (j_le.mpr q))]
theorem wiE_v (y hi : Int64) : (wiE y hi).toInt = if hi.toInt ≤ y.toInt then hi.toInt else y.toInt := by
  unfold wiE
  by_cases c : 0 ≤ lg_cmp y hi
  · rw [if_pos c, if_pos (j_ge.mp c)]
  · rw [if_neg c, if_neg (fun q => c (j_ge.mpr q))]
theorem lWi_v {x y lo hi : Int64} (h1 : 0 ≤ x.toInt) (h2 : x.toInt ≤ y.toInt) (h3 : 0 ≤ lo.toInt) (h4 : lo.toInt ≤ hi.toInt) : (lWi x y lo hi).toInt = if (if hi.toInt ≤ y.toInt then hi.toInt else y.toInt) ≤ (if x.toInt ≤ lo.toInt then lo.toInt else x.toInt) then 0 else (if hi.toInt ≤ y.toInt then hi.toInt else y.toInt) - (if x.toInt ≤ lo.toInt then lo.toInt else x.toInt) := by
  have e1 := wiB_v x lo
  have e2 := wiE_v y hi
  have b1 := Int64.le_toInt y
  have b2 := Int64.toInt_lt y
  have b3 := Int64.le_toInt hi
  have b4 := Int64.toInt_lt hi
  unfold lWi
  by_cases c : lg_cmp (wiE y hi) (wiB x lo) ≤ 0
  · have d := j_le.mp c
    rw [e1, e2] at d
    rw [if_pos c, if_pos d]; rfl
  · have d : ¬ _ := fun q => c (j_le.mpr q)
    rw [e1, e2] at d
    rw [if_neg c, if_neg d, j_sub, e1, e2]
    · rw [e1, e2]; omega
    · rw [e1, e2]; omega
theorem mP1_v (z : Int32) : (mP1 z).toInt = if 100000 ≤ z.toInt then 100000 else z.toInt := by
  unfold mP1
  by_cases c : 100000 ≤ z
  · have d := c
    rw [i_le, i_5] at d
    rw [if_pos c, if_pos d]; rfl
  · have d := c
    rw [i_le, i_5] at d
    rw [if_neg c, if_neg d, Int32.toInt_toInt64]
theorem mP2_v {z : Int32} (h : 0 ≤ z.toInt) : (mP2 z).toInt = if 1000000 ≤ z.toInt then 900000 else z.toInt - (if 100000 ≤ z.toInt then 100000 else z.toInt) := by
  have e := mP1_v z
  have b := i_b z
  unfold mP2
  by_cases c : 1000000 ≤ z
  · have d := c
    rw [i_le, i_6] at d
    rw [if_pos c, if_pos d]; rfl
  · have d := c
    rw [i_le, i_6] at d
    rw [if_neg c, if_neg d, j_sub, Int32.toInt_toInt64, e]
    · rw [Int32.toInt_toInt64, e]; omega
    · rw [Int32.toInt_toInt64, e]; omega
theorem mP3_v {z : Int32} (h : 0 ≤ z.toInt) : (Int32.toInt64 z - mP1 z - mP2 z).toInt = if 1000000 ≤ z.toInt then z.toInt - 1000000 else 0 := by
  have e := mP1_v z
  have f := mP2_v h
  have b := i_b z
  have g : (Int32.toInt64 z - mP1 z).toInt = z.toInt - (if 100000 ≤ z.toInt then 100000 else z.toInt) := by
    rw [j_sub, Int32.toInt_toInt64, e]
    · rw [Int32.toInt_toInt64, e]; omega
    · rw [Int32.toInt_toInt64, e]; omega
  rw [j_sub, g, f]
  · omega
  · rw [g, f]; omega
  · rw [g, f]; omega
theorem j_c0 : (0 : Int64).toInt = 0 := rfl
theorem j_c5 : (100000 : Int64).toInt = 100000 := rfl
theorem j_c6 : (1000000 : Int64).toInt = 1000000 := rfl
theorem j_c9 : (9000000000 : Int64).toInt = 9000000000 := rfl
section WI
variable {X Y : Int32}
theorem wi_1 (h1 : 0 ≤ X.toInt) (h2 : X.toInt ≤ Y.toInt) : lWi (Int32.toInt64 X) (Int32.toInt64 Y) 0 100000 = mP1 Y - mP1 X := by
  apply Int64.toInt_inj.mp
  have e := mP1_v X
  have f := mP1_v Y
  have b := i_b Y
  rw [lWi_v (by rw [Int32.toInt_toInt64]; exact h1) (by rw [Int32.toInt_toInt64, Int32.toInt_toInt64]; exact h2) (by rw [j_c0]; omega) (by rw [j_c0, j_c5]; omega), Int32.toInt_toInt64, Int32.toInt_toInt64, j_c0, j_c5, j_sub, e, f]
  · omega
  · rw [e, f]; omega
  · rw [e, f]; omega
theorem wi_2 (h1 : 0 ≤ X.toInt) (h2 : X.toInt ≤ Y.toInt) : lWi (Int32.toInt64 X) (Int32.toInt64 Y) 100000 1000000 = mP2 Y - mP2 X := by
  apply Int64.toInt_inj.mp
  have e := mP2_v h1
  have f := mP2_v (z := Y) (by omega)
  have b := i_b Y
  rw [lWi_v (by rw [Int32.toInt_toInt64]; exact h1) (by rw [Int32.toInt_toInt64, Int32.toInt_toInt64]; exact h2) (by rw [j_c5]; omega) (by rw [j_c6, j_c5]; omega), Int32.toInt_toInt64, Int32.toInt_toInt64, j_c6, j_c5, j_sub, e, f]
  · omega
  · rw [e, f]; omega
  · rw [e, f]; omega
theorem wi_3 (h1 : 0 ≤ X.toInt) (h2 : X.toInt ≤ Y.toInt) : lWi (Int32.toInt64 X) (Int32.toInt64 Y) 1000000 9000000000 = (Int32.toInt64 Y - mP1 Y - mP2 Y) - (Int32.toInt64 X - mP1 X - mP2 X) := by
  apply Int64.toInt_inj.mp
  have e := mP3_v h1
  have f := mP3_v (z := Y) (by omega)
  have b := i_b Y
  rw [lWi_v (by rw [Int32.toInt_toInt64]; exact h1) (by rw [Int32.toInt_toInt64, Int32.toInt_toInt64]; exact h2) (by rw [j_c6]; omega) (by rw [j_c6, j_c9]; omega), Int32.toInt_toInt64, Int32.toInt_toInt64, j_c6, j_c9, j_sub, e, f]
  · omega
  · rw [e, f]; omega
  · rw [e, f]; omega
theorem j_3 (a b c x y z : Int64) : (a - x) + (b - y) + (c - z) = (a + b + c) - (x + y + z) := by
  rw [Int64.sub_eq_add_neg, Int64.sub_eq_add_neg, Int64.sub_eq_add_neg, Int64.sub_eq_add_neg, Int64.neg_add, Int64.neg_add, Int64.sub_eq_add_neg, Int64.sub_eq_add_neg]
  ac_rfl
theorem lPb_eq (q : Nat → Int32) (h1 : 0 ≤ X.toInt) (h2 : X.toInt ≤ Y.toInt) : lPb q (Int32.toInt64 X) (Int32.toInt64 Y) = mPo q Y - mPo q X := by
  unfold lPb mPo
  rw [wi_1 h1 h2, wi_2 h1 h2, wi_3 h1 h2, Int64.sub_mul, Int64.sub_mul, Int64.sub_mul]
  exact j_3 _ _ _ _ _ _
end WI
theorem lRt_eq (q : Nat → Int32) (z : Int32) : lRt q z = mRf q z := by
  unfold lRt mRf
  by_cases c : z ≤ 1000000
  · rw [if_pos c]
    by_cases d : z ≤ 100000
    · rw [if_pos d, if_neg (by rw [i_lt]; rw [i_le] at d; omega)]
    · rw [if_neg d, if_pos (by rw [i_lt]; rw [i_le] at d; omega), if_neg (by rw [i_lt]; rw [i_le] at c; omega)]
  · have d : ¬ z ≤ 100000 := fun q => c (by rw [i_le, i_6]; rw [i_le, i_5] at q; omega)
    rw [if_neg c, if_pos (by rw [i_lt]; rw [i_le] at d; omega), if_pos (by rw [i_lt]; rw [i_le] at c; omega)]
section PN
variable {S : CS} {M : MS} {L : LWS}
/-- whether a place counts for a customer -/
theorem no_or (h : Rel S M) (r : RelL M L) {i : Nat} (hi : i < ms_n M) {cu : Int32} (hcu : vp_in cu 4) : (¬ mNoM M i cu = 0 ∧ ls_c L i = cu ∧ ¬ ls_p L i ≤ 0 ∧ ls_p L i = ms_pr M i ∧ ¬ ms_th M i = 0 ∧ ms_te M i = 0) ∨ (mNoM M i cu = 0 ∧ ¬ ls_c L i = cu) ∨ (mNoM M i cu = 0 ∧ ls_c L i = cu ∧ ls_p L i = 0 ∧ ls_p L i ≤ 0) := by
  have h20 : i < 20 := by have := r.2.1; omega
  have ho := h.ow4 (j := i) (by omega)
  rcases pl_or h r h20 with ⟨a1, a2, a3, a4, a5, a6, a7, a8, a9⟩ | ⟨a1, a2, a3, a4⟩
  · rcases c_or h r hi with ⟨c1, c2, c3, c4⟩ | ⟨c1, c2, c3, c4⟩
    · by_cases e : ms_ow M i = cu
      · exact Or.inl ⟨by unfold mNoM mNo; rw [if_neg a5, if_pos c1, if_pos e]; decide, c4.trans e, a2, a8, a5, c1⟩
      · exact Or.inr (Or.inl ⟨by unfold mNoM mNo; rw [if_neg a5, if_pos c1, if_neg e], by rw [c4]; exact e⟩)
    · exact Or.inr (Or.inl ⟨by unfold mNoM mNo; rw [if_neg a5, if_neg c1], by rw [c4]; exact o_ne ho hcu⟩)
  · have e : mNoM M i cu = 0 := by unfold mNoM mNo; rw [if_pos (a4 hi)]
    by_cases c : ls_c L i = cu
    · exact Or.inr (Or.inr ⟨e, c, a1, a2⟩)
    · exact Or.inr (Or.inl ⟨e, c⟩)
theorem tot_l (h : Rel S M) (r : RelL M L) {cu : Int32} (hcu : vp_in cu 4) : ∀ i, i ≤ ms_n M → lTot (ls_c L) (ls_p L) cu i = mSuM M cu i
  | 0, _ => rfl
  | i + 1, hi => by
    have ih := tot_l h r hcu i (by omega)
    rcases no_or h r (i := i) (by omega) hcu with ⟨a1, a2, a3, a4, a5, a6⟩ | ⟨a1, a2⟩ | ⟨a1, a2, a3, a4⟩
    · rw [← lTot_2 a2 a3, msu_1 a1, ih, a4]
    · rw [← lTot_0 a2, msu_0 a1, ih]
    · rw [← lTot_1 a2 a4, msu_0 a1, ih]
theorem su_b (h : Rel S M) (cu : Int32) {i : Nat} (hi : i ≤ ms_n M) : 0 ≤ (mSuM M cu i).toInt ∧ (mSuM M cu i).toInt ≤ 10000000 * i := by
  rw [← h.n] at hi
  rw [← tot_eq h cu i hi]
  exact tot_b h cu i hi
theorem be_l (h : Rel S M) (r : RelL M L) {cu : Int32} (hcu : vp_in cu 4) : ∀ i, i ≤ ms_n M → lBe (ls_c L) (ls_p L) cu i = Int32.toInt64 (mSuM M cu i)
  | 0, _ => rfl
  | i + 1, hi => by
    have ih := be_l h r hcu i (by omega)
    have b1 := su_b h cu (i := i) (by omega)
    have b2 := su_b h cu (i := i + 1) (by omega)
    have h20 := r.2.1
    rcases no_or h r (i := i) (by omega) hcu with ⟨a1, a2, a3, a4, a5, a6⟩ | ⟨a1, a2⟩ | ⟨a1, a2, a3, a4⟩
    · have n := ((h.lot (j := i) (by rw [h.n]; omega)).2.2.2)
      have hi2 : i < cs_n S := by rw [h.n]; omega
      have g := h.lot hi2
      have hal : ¬ lr_pr (cs_lt S i) ≤ 0 := fun q => a5 (g.2.2.1.mp q)
      have g2 := g.2.2.2 hal
      have g3 := (g2.2.2.1 (g.2.1.trans a6)).2.2.2.2.1
      have g4 := alive_b hal
      have e : (ms_pr M i).toInt ≤ 10000000 ∧ 1 ≤ (ms_pr M i).toInt := by rw [← g2.1]; exact ⟨g3, g4⟩
      rw [← lBe_1 a2, msu_1 a1, ih, a4, ext_add (by omega) (by omega)]
    · rw [← lBe_0 a2, msu_0 a1, ih, Int64.add_zero, Int32.add_zero]
    · rw [← lBe_1 a2, msu_0 a1, ih, a3, Int32.add_zero]
      exact Int64.add_zero _
/-- the parts of a day of a lot that is there -/
theorem pn_l (h : Rel S M) (r : RelL M L) {j : Nat} (hj : j < ms_n M) (ht : ¬ ms_th M j = 0) : lPa L j = mPn M j := by
  have h20 := r.2.1
  have ho := h.ow4 (j := j) (by omega)
  have hi2 : j < cs_n S := by rw [h.n]; exact hj
  have g := h.lot hi2
  have hal : ¬ lr_pr (cs_lt S j) ≤ 0 := fun q => ht (g.2.2.1.mp q)
  have a := (r.lot hj).2.2.2 ht
  have hq : ls_q L = ms_rates M := r.2.2.2.2.2.1
  have hbb : ls_n L 2 = ms_bb M := r.2.2.2.1
  rcases c_or h r hj with ⟨c1, c2, c3, c4⟩ | ⟨c1, c2, c3, c4⟩
  · unfold lPa mPn
    rw [if_pos c2, if_pos c1, hbb, hq, r.k, c4, tot_l h r ho _ (Nat.le_refl _), be_l h r ho j (by omega), a.1]
    by_cases e : ms_bb M = 0
    · rw [if_pos e, if_pos e, lRt_eq]
    · have b1 := su_b h (ms_ow M j) (i := j) (by omega)
      have g2 := g.2.2.2 hal
      have g3 := (g2.2.2.1 (g.2.1.trans c1)).2.2.2.2.1
      have g4 := alive_b hal
      have f : (ms_pr M j).toInt ≤ 10000000 ∧ 1 ≤ (ms_pr M j).toInt := by rw [← g2.1]; exact ⟨g3, g4⟩
      rw [if_neg e, if_neg e, ← ext_add (by omega) (by omega)]
      have e2 := i_add (x := mSuM M (ms_ow M j) j) (y := ms_pr M j) (by omega) (by omega)
      exact lPb_eq _ b1.1 (by rw [e2]; omega)
  · unfold lPa mPn
    rw [if_neg c2, if_neg c1, (a.2.2.2 c1).2.1]
end PN
