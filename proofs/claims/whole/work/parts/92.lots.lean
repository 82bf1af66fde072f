/-! give, withdraw, instruct -/
theorem upd_self (f : Nat → Int32) (k : Nat) (x : Int32) : upd f k x k = x := if_pos rfl
theorem upd_ne {f : Nat → Int32} {k j : Nat} {x : Int32} (h : j ≠ k) : upd f k x j = f j := if_neg h
theorem updL_self (f : Nat → Int64) (k : Nat) (x : Int64) : vp_updL f k x k = x := if_pos rfl
theorem updL_ne {f : Nat → Int64} {k j : Nat} {x : Int64} (h : j ≠ k) : vp_updL f k x j = f j := if_neg h
section LOTS
variable {S : CS} {M : MS}
/-- one lot changes, in both -/
theorem Rel.one (h : Rel S M) {k : Nat} {r : LR} {M2 : MS} (hM : Rel S M2 ∨ (okM M2 ∧ ms_n M2 = ms_n M ∧ ms_rates M2 = ms_rates M ∧ ms_paid M2 = ms_paid M ∧ ms_lost M2 = ms_lost M ∧ ms_bb M2 = ms_bb M ∧ ms_tr M2 = ms_tr M ∧ ms_now M2 = ms_now M)) (ho : ∀ j, j < cs_n S → j ≠ k → relJ S M2 j) (hk : relL r (cs_day S) (ms_th M2 k) (ms_te M2 k) (ms_ow M2 k) (ms_pr M2 k) (ms_fz M2 k) (ms_nd M2 k) (ms_le M2 k) (ms_en M2 k) (ms_ins M2 k) (ms_bg M2 k) (ms_ea M2 k) (ms_tp M2 k)) (hw : wP r = wP (cs_lt S k)) : Rel (cs_setLot S k r) M2 := by
  have hl : ∀ j, j < cs_n S → relJ (cs_set_lt S (va_up (cs_lt S) k r)) M2 j := fun j hj => by
    by_cases c : j = k
    · subst c
      show relL (va_up (cs_lt S) j r j) _ _ _ _ _ _ _ _ _ _ _ _ _
      rw [va_up_self]
      exact hk
    · show relL (va_up (cs_lt S) k r j) _ _ _ _ _ _ _ _ _ _ _ _ _
      rw [va_up_ne _ _ c]
      exact ho j hj c
  have hs : ∀ j, j < cs_n S → wP (va_up (cs_lt S) k r j) = wP (cs_lt S j) := fun j hj => by
    by_cases c : j = k
    · subst c; rw [va_up_self]; exact hw
    · rw [va_up_ne _ _ c]
  have h0 := h
  obtain ⟨k1, k2, k3, k4, k5, k6, k7, k8, k9, k10, k11, k12, k13, k14, k15⟩ := h
  have hg : grow (cs_set_lt S (va_up (cs_lt S) k r)) := by
    show sumP (va_up (cs_lt S) k r) (cs_n S) * 1825 ^ (cs_day S).toNatClampNeg ≤ 36500000000000 * (cs_n S : Int) * 1826 ^ (cs_day S).toNatClampNeg
    rw [sumP_c _ hs]
    exact k15
  rcases hM with hM | ⟨m1, m2, m3, m4, m5, m6, m7, m8⟩
  · obtain ⟨q1, q2, q3, q4, q5, q6, q7, q8, q9, q10, q11, q12, q13, q14, q15⟩ := hM
    exact ⟨q1, q2, q3, q4, q5, q6, q7, q8, q9, q10, q11, q12, q13, hl, hg⟩
  · exact ⟨k1, m1, k3.trans m2.symm, k4.trans m3.symm, k5.trans m4.symm, k6.trans m5.symm, k7.trans m6.symm, k8.trans m7.symm, k9.trans m8.symm, k10, k11, k12, k13, hl, hg⟩
end LOTS
