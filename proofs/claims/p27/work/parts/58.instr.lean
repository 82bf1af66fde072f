section INSTR
variable {S : CS} {M : MS}
theorem sim_instruct (h : Rel S M) (z v : Int32) : Sim (inC S z v) (pl3 (inC S z v)) (kIn M z v) (Int32.toInt64 (lr_ins (cs_lt S z.toNatClampNeg))) (Int32.toInt64 (ms_ins M z.toNatClampNeg)) (inS S z v) (mInS (mT0 M) z v) := by
  rcases lot_or h z with ⟨h1, h2, h3, h4, h5, h6⟩ | ⟨h1, h2, h3⟩
  · have g := h.lot h4
    have ga := g.2.2.2 h5
    rcases @demR_or v 0 2 with ⟨d1, d2⟩ | ⟨d1, d2⟩
    · by_cases b : bT (cs_lt S z.toNatClampNeg) = 0
      · have hte : ms_te M z.toNatClampNeg = 0 := g.2.1.symm.trans b
        exact Or.inr ⟨by rw [inC, if_pos h1, if_pos d1, if_pos b]; decide, by rw [kIn, if_neg h3, if_neg d2, if_pos hte]; decide, by rw [inC, if_pos h1, if_pos d1, if_pos b, kIn, if_neg h3, if_neg d2, if_pos hte]; rfl⟩
      · have hte : ¬ ms_te M z.toNatClampNeg = 0 := fun q => b (g.2.1.trans q)
        obtain ⟨t1, t2, t3, t4, t5, t6⟩ := ga.2.2.2 b
        refine Or.inl ⟨by rw [inC, if_pos h1, if_pos d1, if_neg b], by rw [kIn, if_neg h3, if_neg d2, if_neg hte], by rw [t4], ?_⟩
        refine Rel.one h (Or.inr ⟨h.2.1, rfl, rfl, rfl, rfl, rfl, rfl, rfl⟩) (fun j hj hne => ?_) ?_ rfl
        · have e : upd (ms_ins M) z.toNatClampNeg v j = ms_ins M j := upd_ne hne
          show relL (cs_lt S j) _ _ _ _ _ _ _ _ _ (upd (ms_ins M) z.toNatClampNeg v j) _ _ _
          rw [e]
          exact h.lot hj
        · show relL _ _ _ _ _ _ _ _ _ _ (upd (ms_ins M) z.toNatClampNeg v z.toNatClampNeg) _ _ _
          rw [upd_self]
          exact ⟨g.1, g.2.1, g.2.2.1, fun _ => ⟨ga.1, ga.2.1, fun q => absurd q b, fun _ => ⟨t1, t2, t3, rfl, t5, t6⟩⟩⟩
    · have d4 : ¬ demR v 0 2 = 0 := by rw [d1]; decide
      exact Or.inr ⟨by rw [inC, if_pos h1, if_neg d4]; decide, by rw [kIn, if_neg h3, if_pos d2]; decide, by rw [inC, if_pos h1, if_neg d4, kIn, if_neg h3, if_pos d2]; rfl⟩
  · have d : ¬ lotC S z = 0 := by rw [h1]; decide
    exact Or.inr ⟨by rw [inC, if_neg d]; decide, by rw [kIn, if_pos h3]; decide, by rw [inC, if_neg d, kIn, if_pos h3]; rfl⟩
end INSTR
