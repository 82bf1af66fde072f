/-! total, partsByTotal, lots, partsOfDay -/
section SUMS2
variable {S : CS} {M : MS}
theorem sim_total (h : Rel S M) (z : Int32) : Sim (demC z) (pl3 (demC z)) (kCu z) (Int32.toInt64 (totTo S z (cs_n S))) (Int32.toInt64 (mSuM M z (ms_n M))) S (mT0 M) := sim_cu h z (by rw [← h.n, tot_eq h z _ (Nat.le_refl _)])
theorem i_sub0 (z : Int32) : z - 0 = z := Int32.sub_zero z
theorem pbb_0 (S : CS) : pbb S 0 = 0 := by
  show (0 : Int64) * _ + 0 * _ + 0 * _ = 0
  rw [Int64.zero_mul, Int64.zero_mul, Int64.zero_mul]
  rfl
theorem sim_partsByTotal (h : Rel S M) (z : Int32) : Sim (demC z) (pl3 (demC z)) (kCu z) (poc S 0 (totTo S z (cs_n S)) (totTo S z (cs_n S))) (if ms_bb M = 0 then Int32.toInt64 (mSuM M z (ms_n M)) * Int32.toInt64 (mRf (ms_rates M) (mSuM M z (ms_n M))) else mPo (ms_rates M) (mSuM M z (ms_n M))) S (mT0 M) := sim_cu h z (by
  have e := tot_eq h z _ (Nat.le_refl (cs_n S))
  have b := (tot_b h z _ (Nat.le_refl (cs_n S))).1
  rw [← h.n, ← e, poc, i_sub0, rws_eq h b, pbb_eq h b, pbb_0, Int64.sub_zero, show cs_bb S = ms_bb M from h.2.2.2.2.2.2.1])
theorem xAt_or (h : Rel S M) {i : Nat} (hi : i < cs_n S) : (xAt S (nI i) = some i ∧ ¬ ms_th M i = 0 ∧ ¬ lr_pr (cs_lt S i) ≤ 0) ∨ (xAt S (nI i) = none ∧ ms_th M i = 0 ∧ lr_pr (cs_lt S i) ≤ 0) := by
  have hn := h.le
  have hc : (nI i).toNatClampNeg = i := nI_clamp (by omega)
  have g := h.lot hi
  have h40 : nI i < 40 := show nI i < nI 40 from nI_lt (by omega) (by decide)
  by_cases q : lr_pr (cs_lt S i) ≤ 0
  · refine Or.inr ⟨?_, g.2.2.1.mp q, q⟩
    unfold xAt
    rw [if_neg (nI_pos (by omega)), if_pos h40, hc, if_pos hi, if_pos q]
  · refine Or.inl ⟨?_, fun k => q (g.2.2.1.mpr k), q⟩
    unfold xAt
    rw [if_neg (nI_pos (by omega)), if_pos h40, hc, if_pos hi, if_neg q]
theorem lots_eq (h : Rel S M) : ∀ i, i ≤ cs_n S → loTo S i = mLn (ms_th M) i
  | 0, _ => rfl
  | i + 1, hi => by
    have e := lots_eq h i (by omega)
    rcases xAt_or h (i := i) (by omega) with ⟨h1, h2, h3⟩ | ⟨h1, h2, h3⟩
    · rw [loTo_s h1, ← mLn_1 h2, e]
    · rw [loTo_n h1, ← mLn_0 h2, e, Int32.add_zero]
end SUMS2
