/-! the codes of the one and the places of the other -/
theorem i_nlt {a b : Int32} : ¬ a < b ↔ b ≤ a := by
  rw [i_lt, i_le]; omega
theorem dem_in {z lo hi : Int32} : demR z lo hi = 0 ↔ ¬ mIn z lo hi = 0 := by
  unfold demR mIn
  by_cases h : z < lo
  · simp [h]
  · by_cases h2 : z ≤ hi
    · have h3 : ¬ hi < z := i_nlt.mpr h2
      simp [h, h2, h3]
    · have h3 : hi < z := by rw [i_lt]; rw [i_le] at h2; omega
      simp [h, h2, h3]
theorem demR_or {z lo hi : Int32} : (demR z lo hi = 0 ∧ ¬ mIn z lo hi = 0) ∨ (demR z lo hi = 2 ∧ mIn z lo hi = 0) := by
  rcases demR_r z lo hi with h | h
  · exact Or.inl ⟨h, dem_in.mp h⟩
  · refine Or.inr ⟨h, ?_⟩
    by_cases k : mIn z lo hi = 0
    · exact k
    · rw [dem_in.mpr k] at h; cases h
theorem demC_or {z : Int32} : (demC z = 0 ∧ ¬ mCu z = 0) ∨ (demC z = 1 ∧ mCu z = 0) := by
  unfold demC mCu mIn
  by_cases h : z < 0
  · exact Or.inr ⟨by simp [h], by simp [h]⟩
  · by_cases h2 : z < 4
    · refine Or.inl ⟨by simp [h, h2], ?_⟩
      have h3 : ¬ (3 : Int32) < z := by
        rw [i_lt] at h2 ⊢
        have e3 : (3 : Int32).toInt = 3 := rfl
        have e4 : (4 : Int32).toInt = 4 := rfl
        omega
      simp [h, h3]
    · refine Or.inr ⟨by simp [h, h2], ?_⟩
      have h3 : (3 : Int32) < z := by
        rw [i_lt] at h2 ⊢
        have e3 : (3 : Int32).toInt = 3 := rfl
        have e4 : (4 : Int32).toInt = 4 := rfl
        omega
      simp [h, h3]
section REL
variable {S : CS} {M : MS}
theorem Rel.n (h : Rel S M) : cs_n S = ms_n M := h.2.2.1
theorem Rel.le (h : Rel S M) : cs_n S ≤ 40 := h.1.1
theorem Rel.lot (h : Rel S M) {j : Nat} (hj : j < cs_n S) : relJ S M j := h.2.2.2.2.2.2.2.2.2.2.2.2.2.1 j hj
/-- a lot's number: both know it, or both don't -/
theorem lot_or (h : Rel S M) (z : Int32) : (lotC S z = 0 ∧ xAt S z = some z.toNatClampNeg ∧ ¬ mLo M z = 0 ∧ z.toNatClampNeg < cs_n S ∧ ¬ lr_pr (cs_lt S z.toNatClampNeg) ≤ 0 ∧ z = nI z.toNatClampNeg) ∨ (lotC S z = 1 ∧ xAt S z = none ∧ mLo M z = 0) := by
  by_cases h0 : z < 0
  · have hx : xAt S z = none := by unfold xAt; rw [if_pos h0]
    exact Or.inr ⟨by rw [lotC, hx], hx, by rw [mLo, mIn, if_pos h0]; rfl⟩
  · obtain ⟨j, hj, rfl⟩ := nI_of h0
    rw [nI_clamp hj]
    have hn := h.le
    by_cases h1 : j < cs_n S
    · have h40 : nI j < 40 := show nI j < nI 40 from nI_lt (by omega) (by decide)
      have hin : mIn (nI j) 0 (nI (ms_n M) - 1) = 1 := by
        rw [mIn, if_neg h0, if_neg]
        rw [← h.n]
        obtain ⟨q, hq⟩ : ∃ q, cs_n S = q + 1 := ⟨cs_n S - 1, by omega⟩
        rw [hq, nI_pred, i_nlt]
        exact nI_le (by omega) (by omega)
      by_cases h2 : lr_pr (cs_lt S j) ≤ 0
      · have hx : xAt S (nI j) = none := by unfold xAt; rw [if_neg h0, if_pos h40, nI_clamp hj, if_pos h1, if_pos h2]
        refine Or.inr ⟨by rw [lotC, hx], hx, ?_⟩
        rw [mLo, hin, if_neg (by decide), nI_clamp hj, if_pos ((h.lot h1).2.2.1.mp h2)]
      · have hx : xAt S (nI j) = some j := by unfold xAt; rw [if_neg h0, if_pos h40, nI_clamp hj, if_pos h1, if_neg h2]
        refine Or.inl ⟨by rw [lotC, hx], hx, ?_, h1, h2, rfl⟩
        rw [mLo, hin, if_neg (by decide), nI_clamp hj, if_neg (fun q => h2 ((h.lot h1).2.2.1.mpr q))]
        decide
    · have hx : xAt S (nI j) = none := by
        unfold xAt
        rw [if_neg h0, nI_clamp hj, if_neg h1]
        split <;> rfl
      refine Or.inr ⟨by rw [lotC, hx], hx, ?_⟩
      have hin : mIn (nI j) 0 (nI (ms_n M) - 1) = 0 := by
        rw [mIn, if_neg h0, if_pos]
        rw [← h.n]
        rcases Nat.eq_zero_or_pos (cs_n S) with e | e
        · rw [e, i_lt, nI_toInt hj]
          have e0 : (nI 0 - 1).toInt = -1 := by decide
          omega
        · obtain ⟨q, hq⟩ : ∃ q, cs_n S = q + 1 := ⟨cs_n S - 1, by omega⟩
          rw [hq, nI_pred]
          exact nI_lt (by omega) hj
      rw [mLo, hin, if_pos rfl]
/-- what a call that throws leaves -/
theorem Rel.thr (h : Rel S M) (k : Int32) : Rel S (ms_set_thr M k) := h
end REL
