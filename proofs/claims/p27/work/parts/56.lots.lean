/-! give, withdraw, instruct -/
theorem upd_self (f : Nat → Int32) (k : Nat) (x : Int32) : upd f k x k = x := if_pos rfl
theorem upd_ne {f : Nat → Int32} {k j : Nat} {x : Int32} (h : j ≠ k) : upd f k x j = f j := if_neg h
theorem updL_self (f : Nat → Int64) (k : Nat) (x : Int64) : vp_updL f k x k = x := if_pos rfl
theorem updL_ne {f : Nat → Int64} {k j : Nat} {x : Int64} (h : j ≠ k) : vp_updL f k x j = f j := if_neg h
section LOTS
variable {S : CS} {M : MS}
/-- one lot changes, in both -/
theorem Rel.one (h : Rel S M) {k : Nat} {r : LR} {M2 : MS} (hM : Rel S M2 ∨ (okM M2 ∧ ms_n M2 = ms_n M ∧ ms_rates M2 = ms_rates M ∧ ms_paid M2 = ms_paid M ∧ ms_lost M2 = ms_lost M ∧ ms_bb M2 = ms_bb M ∧ ms_tr M2 = ms_tr M ∧ ms_now M2 = ms_now M)) (ho : ∀ j, j < cs_n S → j ≠ k → relJ S M2 j) (hk : relL r (cs_day S) (ms_th M2 k) (ms_te M2 k) (ms_ow M2 k) (ms_pr M2 k) (ms_fz M2 k) (ms_nd M2 k) (ms_le M2 k) (ms_en M2 k) (ms_ins M2 k) (ms_bg M2 k) (ms_ea M2 k) (ms_tp M2 k)) (hw : wP r = wP (cs_lt S k)) : Rel (cs_setLot S k r) M2 := by
  have hl : ∀ j, j < cs_n S → relJ (cs_set_lt S (va_up (cs_lt S) k r)) M2 j := fun j hj => by
    by_cases c : j = k
    · subst c
      show relL (va_up (cs_lt S) j r j) _ _ _ _ _ _ _ _ _ _ _ _ _
      rw [va_up_self]
      exact hk
    · show relL (va_up (cs_lt S) k r j) _ _ _ _ _ _ _ _ _ _ _ _ _
      rw [va_up_ne _ _ c]
      exact ho j hj c
  have hs : ∀ j, j < cs_n S → wP (va_up (cs_lt S) k r j) = wP (cs_lt S j) := fun j hj => by
    by_cases c : j = k
    · subst c; rw [va_up_self]; exact hw
    · rw [va_up_ne _ _ c]
  have h0 := h
  obtain ⟨k1, k2, k3, k4, k5, k6, k7, k8, k9, k10, k11, k12, k13, k14, k15⟩ := h
  have hg : grow (cs_set_lt S (va_up (cs_lt S) k r)) := by
    refine ⟨?_, k15.2⟩
    show sumP (va_up (cs_lt S) k r) (cs_n S) * 1825 ^ (cs_day S).toNatClampNeg ≤ 36500000000000 * (cs_n S : Int) * 1826 ^ (cs_day S).toNatClampNeg
    rw [sumP_c _ hs]
    exact k15.1
  rcases hM with hM | ⟨m1, m2, m3, m4, m5, m6, m7, m8⟩
  · obtain ⟨q1, q2, q3, q4, q5, q6, q7, q8, q9, q10, q11, q12, q13, q14, q15⟩ := hM
    exact ⟨q1, q2, q3, q4, q5, q6, q7, q8, q9, q10, q11, q12, q13, hl, hg⟩
  · exact ⟨k1, m1, k3.trans m2.symm, k4.trans m3.symm, k5.trans m4.symm, k6.trans m5.symm, k7.trans m6.symm, k8.trans m7.symm, k9.trans m8.symm, k10, k11, k12, k13, hl, hg⟩
end LOTS
section LOTS2
variable {S : CS} {M : MS}
theorem fz_of_notice {S : CS} {M : MS} (h : Rel S M) {j : Nat} (hj : j < cs_n S) (h3 : ¬ lr_pr (cs_lt S j) ≤ 0) (hz : ¬ lr_fz (cs_lt S j) = 0) : bT (cs_lt S j) = 0 := by
  by_cases c : bT (cs_lt S j) = 0
  · exact c
  · exact absurd (((h.lot hj).2.2.2 h3).2.2.2 c).2.2.2.2.2.1 hz
theorem sim_withdraw (h : Rel S M) (z : Int32) : Sim (wdC S z) (plIS (wdC S z)) (kWd M z) (Int32.toInt64 (lr_fz (cs_lt S z.toNatClampNeg))) (Int32.toInt64 (ms_fz M z.toNatClampNeg)) (wdS S z) (mWd (mT0 M) z) := by
  rcases lot_or h z with ⟨h1, h2, h3, h4, h5, h6⟩ | ⟨h1, h2, h3⟩
  · have g := h.lot h4
    have ga := g.2.2.2 h5
    by_cases c : bT (cs_lt S z.toNatClampNeg) = 0
    · have hte : ms_te M z.toNatClampNeg = 0 := g.2.1.symm.trans c
      have hfz := (ga.2.2.1 c).1
      by_cases d : lr_fz (cs_lt S z.toNatClampNeg) = 0
      · have d2 : ms_fz M z.toNatClampNeg = 0 := hfz.symm.trans d
        refine Or.inr ⟨by rw [wdC, if_pos h1, if_pos d]; decide, by rw [kWd, if_neg h3, if_pos hte, if_pos d2]; decide, by rw [wdC, if_pos h1, if_pos d, kWd, if_neg h3, if_pos hte, if_pos d2]; rfl⟩
      · have d2 : ¬ ms_fz M z.toNatClampNeg = 0 := fun q => d (hfz.trans q)
        refine Or.inl ⟨by rw [wdC, if_pos h1, if_neg d], by rw [kWd, if_neg h3, if_pos hte, if_neg d2], by rw [hfz], ?_⟩
        refine Rel.one h (Or.inr ⟨h.2.1, rfl, rfl, rfl, rfl, rfl, rfl, rfl⟩) (fun j hj hne => ?_) ?_ rfl
        · have e : upd (ms_fz M) z.toNatClampNeg 0 j = ms_fz M j := upd_ne hne
          show relL (cs_lt S j) _ _ _ _ _ (upd (ms_fz M) z.toNatClampNeg 0 j) _ _ _ _ _ _ _
          rw [e]
          exact h.lot hj
        · show relL _ _ _ _ _ _ (upd (ms_fz M) z.toNatClampNeg 0 z.toNatClampNeg) _ _ _ _ _ _ _
          rw [upd_self]
          obtain ⟨n1, n2, n3, n4, n5, n6⟩ := (ga.2.2.1 c).2.2
          have a1 := alive_b h5
          exact ⟨g.1, g.2.1, g.2.2.1, fun _ => ⟨ga.1, ga.2.1, fun _ => ⟨rfl, (ga.2.2.1 c).2.1, n1, n2, n3, by rw [show (0 : Int32).toInt = 0 from rfl]; omega, by rw [show (0 : Int32).toInt = 0 from rfl]; show 0 ≤ (lr_pr (cs_lt S z.toNatClampNeg)).toInt; omega, Or.inl rfl, n6.2⟩, fun q => absurd c q⟩⟩
    · have hte : ¬ ms_te M z.toNatClampNeg = 0 := fun q => c (g.2.1.trans q)
      have d := (ga.2.2.2 c).2.2.2.2.2.1
      exact Or.inr ⟨by rw [wdC, if_pos h1, if_pos d]; decide, by rw [kWd, if_neg h3, if_neg hte]; decide, by rw [wdC, if_pos h1, if_pos d, kWd, if_neg h3, if_neg hte]; rfl⟩
  · have d : ¬ lotC S z = 0 := by rw [h1]; decide
    exact Or.inr ⟨by rw [wdC, if_neg d]; decide, by rw [kWd, if_pos h3]; decide, by rw [wdC, if_neg d, kWd, if_pos h3]; rfl⟩
end LOTS2
