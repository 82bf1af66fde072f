/-! the calls that change little -/
def Sim (code : Nat) (p K : Int32) (v u : Int64) (S : CS) (M : MS) : Prop := (code = 0 ∧ K = 0 ∧ v = u ∧ Rel S M) ∨ (¬ code = 0 ∧ ¬ K = 0 ∧ p = K)
theorem in2k_of {z : Int32} (h : ¬ mIn z 0 2000 = 0) : in2k z := by
  obtain ⟨h1, h2⟩ := mIn_0 h
  rw [i_lt] at h1 h2
  have e0 : (0 : Int32).toInt = 0 := rfl
  have e3 : (2000 : Int32).toInt = 2000 := rfl
  exact ⟨by omega, by omega⟩
theorem b3_or {b : Int32} : (¬ b < 0 ∧ b < 3 ∧ ¬ mIn b 0 2 = 0) ∨ ((b < 0 ∨ ¬ b < 3) ∧ mIn b 0 2 = 0) := by
  unfold mIn
  by_cases h : b < 0
  · exact Or.inr ⟨Or.inl h, by simp [h]⟩
  · have e3 : (3 : Int32).toInt = 3 := rfl
    have e2 : (2 : Int32).toInt = 2 := rfl
    by_cases h2 : b < 3
    · have h3 : ¬ (2 : Int32) < b := by rw [i_lt] at h2 ⊢; omega
      exact Or.inl ⟨h, h2, by simp [h, h3]⟩
    · have h3 : (2 : Int32) < b := by rw [i_lt] at h2 ⊢; omega
      exact Or.inr ⟨Or.inr h2, by simp [h, h3]⟩
section EASY
variable {S : CS} {M : MS}
theorem sim_setRate (h : Rel S M) (b z : Int32) : Sim (stC b z) (pl3 (stC b z)) (kSt b z) (Int32.toInt64 (cs_rates S b.toNatClampNeg)) (Int32.toInt64 (ms_rates M b.toNatClampNeg)) (cs_set_rates S (upd (cs_rates S) b.toNatClampNeg z)) (ms_set_rates (mT0 M) (upd (ms_rates M) b.toNatClampNeg z)) := by
  rcases @b3_or b with ⟨h1, h2, h3⟩ | ⟨h1, h3⟩
  · rcases @demR_or z 0 2000 with ⟨g1, g2⟩ | ⟨g1, g2⟩
    · obtain ⟨k1, k2, k3, k4, k5, k6, k7, k8, k9, k10, k11, k12, k13, k14, k15⟩ := h
      refine Or.inl ⟨by rw [stC, if_neg h1, if_pos h2, if_pos g1], by rw [kSt, if_neg h3, if_neg g2], by rw [k4], k1, k2, k3, ?_, k5, k6, k7, k8, k9, k10, ?_, k12, k13, k14, k15⟩
      · show upd (cs_rates S) b.toNatClampNeg z = upd (ms_rates M) b.toNatClampNeg z
        rw [k4]
      · intro i hi
        show in2k (upd (cs_rates S) b.toNatClampNeg z i)
        unfold upd
        split
        · exact in2k_of g2
        · exact k11 i hi
    · exact Or.inr ⟨by rw [stC, if_neg h1, if_pos h2, g1]; decide, by rw [kSt, if_neg h3, if_pos g2]; decide, by rw [stC, if_neg h1, if_pos h2, g1, kSt, if_neg h3, if_pos g2]; rfl⟩
  · have e : stC b z = 1 := by
      rcases h1 with h1 | h1
      · rw [stC, if_pos h1]
      · rw [stC, if_neg h1]; split <;> rfl
    exact Or.inr ⟨by rw [e]; decide, by rw [kSt, if_pos h3]; decide, by rw [e, kSt, if_pos h3]; rfl⟩
theorem sim_setTermRate (h : Rel S M) (z : Int32) : Sim (demR z 0 2000) (pl1 (demR z 0 2000)) (kTr z) (Int32.toInt64 (cs_tr S)) (Int32.toInt64 (ms_tr M)) (cs_set_tr S z) (ms_set_tr (mT0 M) z) := by
  rcases @demR_or z 0 2000 with ⟨g1, g2⟩ | ⟨g1, g2⟩
  · obtain ⟨k1, k2, k3, k4, k5, k6, k7, k8, k9, k10, k11, k12, k13, k14, k15⟩ := h
    exact Or.inl ⟨g1, by rw [kTr, if_neg g2], by rw [k8], k1, k2, k3, k4, k5, k6, k7, rfl, k9, k10, k11, in2k_of g2, k13, k14, k15⟩
  · exact Or.inr ⟨by rw [g1]; decide, by rw [kTr, if_pos g2]; decide, by rw [g1, kTr, if_pos g2]; rfl⟩
theorem sim_setByBands (h : Rel S M) {z : Int32} (hz : z = 0 ∨ z = 1) : cs_bb S = ms_bb M ∧ Rel (cs_set_bb S z) (ms_set_bb (mT0 M) z) := by
  obtain ⟨k1, k2, k3, k4, k5, k6, k7, k8, k9, k10, k11, k12, k13, k14, k15⟩ := h
  exact ⟨k7, k1, k2, k3, k4, k5, k6, rfl, k8, k9, hz, k11, k12, k13, k14, k15⟩
theorem kAs_or (h : Rel S M) (z : Int32) : (lotC S z = 0 ∧ kAs M z = 0 ∧ z.toNatClampNeg < cs_n S ∧ ¬ lr_pr (cs_lt S z.toNatClampNeg) ≤ 0) ∨ (lotC S z = 1 ∧ kAs M z = 1) := by
  rcases lot_or h z with ⟨h1, h2, h3, h4, h5, h6⟩ | ⟨h1, h2, h3⟩
  · exact Or.inl ⟨h1, by rw [kAs, if_neg h3], h4, h5⟩
  · exact Or.inr ⟨h1, by rw [kAs, if_pos h3]⟩
theorem sim_ask (h : Rel S M) (z : Int32) {v u : Int64} (e : z.toNatClampNeg < cs_n S → ¬ lr_pr (cs_lt S z.toNatClampNeg) ≤ 0 → v = u) : Sim (lotC S z) (pl3 (lotC S z)) (kAs M z) v u S (mT0 M) := by
  rcases kAs_or h z with ⟨h1, h2, h3, h4⟩ | ⟨h1, h2⟩
  · exact Or.inl ⟨h1, h2, e h3 h4, h⟩
  · exact Or.inr ⟨by rw [h1]; decide, by rw [h2]; decide, by rw [h1, h2]; rfl⟩
theorem sim_principal (h : Rel S M) (z : Int32) : Sim (lotC S z) (pl3 (lotC S z)) (kAs M z) (Int32.toInt64 (lr_pr (cs_lt S z.toNatClampNeg))) (Int32.toInt64 (ms_pr M z.toNatClampNeg)) S (mT0 M) :=
  sim_ask h z fun h1 h2 => by rw [((h.lot h1).2.2.2 h2).1]
theorem sim_earned (h : Rel S M) (z : Int32) : Sim (lotC S z) (pl3 (lotC S z)) (kAs M z) (lr_ea (cs_lt S z.toNatClampNeg)) (ms_ea M z.toNatClampNeg) S (mT0 M) :=
  sim_ask h z fun h1 h2 => ((h.lot h1).2.2.2 h2).2.1
theorem sim_frozen (h : Rel S M) (z : Int32) : Sim (lotC S z) (pl3 (lotC S z)) (kAs M z) (Int32.toInt64 (lr_fz (cs_lt S z.toNatClampNeg))) (Int32.toInt64 (if ms_te M z.toNatClampNeg = 0 then ms_fz M z.toNatClampNeg else 0)) S (mT0 M) :=
  sim_ask h z fun h1 h2 => by
    have g := h.lot h1
    have g2 := g.2.2.2 h2
    rw [← g.2.1]
    by_cases c : bT (cs_lt S z.toNatClampNeg) = 0
    · rw [if_pos c, (g2.2.2.1 c).1]
    · rw [if_neg c, (g2.2.2.2 c).2.2.2.2.2.1]
theorem sim_endOf (h : Rel S M) (z : Int32) : Sim (lotC S z) (pl3 (lotC S z)) (kAs M z) (Int32.toInt64 (lr_en (cs_lt S z.toNatClampNeg))) (Int32.toInt64 (if ms_te M z.toNatClampNeg = 0 then -1 else ms_en M z.toNatClampNeg)) S (mT0 M) :=
  sim_ask h z fun h1 h2 => by
    have g := h.lot h1
    have g2 := g.2.2.2 h2
    rw [← g.2.1]
    by_cases c : bT (cs_lt S z.toNatClampNeg) = 0
    · rw [if_pos c, (g2.2.2.1 c).2.2.1]
    · rw [if_neg c, (g2.2.2.2 c).2.2.1]
theorem sim_cu (h : Rel S M) (z : Int32) {v u : Int64} (e : v = u) : Sim (demC z) (pl3 (demC z)) (kCu z) v u S (mT0 M) := by
  rcases @demC_or z with ⟨h1, h2⟩ | ⟨h1, h2⟩
  · exact Or.inl ⟨h1, by rw [kCu, if_neg h2], e, h⟩
  · exact Or.inr ⟨by rw [h1]; decide, by rw [kCu, if_pos h2]; decide, by rw [h1, kCu, if_pos h2]; rfl⟩
theorem sim_paid (h : Rel S M) (z : Int32) : Sim (demC z) (pl3 (demC z)) (kCu z) (cs_paid S z.toNatClampNeg) (ms_paid M z.toNatClampNeg) S (mT0 M) := sim_cu h z (by rw [h.2.2.2.2.1])
theorem sim_lost (h : Rel S M) (z : Int32) : Sim (demC z) (pl3 (demC z)) (kCu z) (cs_lost S z.toNatClampNeg) (ms_lost M z.toNatClampNeg) S (mT0 M) := sim_cu h z (by rw [h.2.2.2.2.2.1])
end EASY
