section GIVE
variable {S : CS} {M : MS}
theorem sim_give (h : Rel S M) (z c : Int32) : Sim (gvC S z c) (pl3 (gvC S z c)) (kGv M z c) (Int32.toInt64 (cs_day S + 32)) (Int32.toInt64 (ms_now M + 32)) (gvS S z c) (mGv (mT0 M) z c) := by
  rcases lot_or h z with ⟨h1, h2, h3, h4, h5, h6⟩ | ⟨h1, h2, h3⟩
  · have g := h.lot h4
    have ga := g.2.2.2 h5
    have hpr := ga.1
    have hday : cs_day S = ms_now M := h.2.2.2.2.2.2.2.2.1
    have hd := h.2.2.2.2.2.2.2.2.2.2.2.2.1
    rcases @demR_or c 1 (lr_pr (cs_lt S z.toNatClampNeg)) with ⟨d1, d2⟩ | ⟨d1, d2⟩
    · have d3 := d2
      rw [hpr] at d3
      by_cases b : bT (cs_lt S z.toNatClampNeg) = 0
      · have hte : ms_te M z.toNatClampNeg = 0 := g.2.1.symm.trans b
        have hfz := (ga.2.2.1 b).1
        by_cases f : lr_fz (cs_lt S z.toNatClampNeg) ≤ 0
        · have f2 : ms_fz M z.toNatClampNeg ≤ 0 := hfz ▸ f
          refine Or.inl ⟨by rw [gvC, if_pos h1, if_pos d1, if_pos b, if_pos f], by rw [kGv, if_neg h3, if_neg d3, if_pos hte, if_pos f2], by rw [hday], ?_⟩
          refine Rel.one h (Or.inr ⟨h.2.1, rfl, rfl, rfl, rfl, rfl, rfl, rfl⟩) (fun j hj hne => ?_) ?_ rfl
          · have e : upd (ms_fz M) z.toNatClampNeg c j = ms_fz M j := upd_ne hne
            have e2 : upd (ms_nd M) z.toNatClampNeg (ms_now M) j = ms_nd M j := upd_ne hne
            show relL (cs_lt S j) _ _ _ _ _ (upd (ms_fz M) z.toNatClampNeg c j) (upd (ms_nd M) z.toNatClampNeg (ms_now M) j) _ _ _ _ _ _
            rw [e, e2]
            exact h.lot hj
          · show relL _ _ _ _ _ _ (upd (ms_fz M) z.toNatClampNeg c z.toNatClampNeg) (upd (ms_nd M) z.toNatClampNeg (ms_now M) z.toNatClampNeg) _ _ _ _ _ _
            rw [upd_self, upd_self]
            obtain ⟨n1, n2, n3, n4, n5, n6⟩ := (ga.2.2.1 b).2.2
            obtain ⟨i1, i2⟩ := mIn_0 d2
            rw [i_lt] at i1 i2
            rw [i_1] at i1
            refine ⟨g.1, g.2.1, g.2.2.1, fun _ => ⟨ga.1, ga.2.1, fun _ => ⟨rfl, (ga.2.2.1 b).2.1, n1, n2, n3, ?_, ?_, Or.inr ⟨?_, ?_, ?_, ?_⟩, n6.2⟩, fun q => absurd b q⟩⟩
            · show 0 ≤ c.toInt; omega
            · show c.toInt ≤ (lr_pr (cs_lt S z.toNatClampNeg)).toInt; omega
            · show cs_day S + 32 = ms_now M + 32; rw [hday]
            · rw [← hday]; exact hd.1
            · rw [← hday]; exact Int.le_refl _
            · rw [← hday]; omega
        · have f2 : ¬ ms_fz M z.toNatClampNeg ≤ 0 := fun q => f (hfz ▸ q)
          exact Or.inr ⟨by rw [gvC, if_pos h1, if_pos d1, if_pos b, if_neg f]; decide, by rw [kGv, if_neg h3, if_neg d3, if_pos hte, if_neg f2]; decide, by rw [gvC, if_pos h1, if_pos d1, if_pos b, if_neg f, kGv, if_neg h3, if_neg d3, if_pos hte, if_neg f2]; rfl⟩
      · have hte : ¬ ms_te M z.toNatClampNeg = 0 := fun q => b (g.2.1.trans q)
        exact Or.inr ⟨by rw [gvC, if_pos h1, if_pos d1, if_neg b]; decide, by rw [kGv, if_neg h3, if_neg d3, if_neg hte]; decide, by rw [gvC, if_pos h1, if_pos d1, if_neg b, kGv, if_neg h3, if_neg d3, if_neg hte]; rfl⟩
    · have d3 := d2
      rw [hpr] at d3
      have d4 : ¬ demR c 1 (lr_pr (cs_lt S z.toNatClampNeg)) = 0 := by rw [d1]; decide
      exact Or.inr ⟨by rw [gvC, if_pos h1, if_neg d4]; decide, by rw [kGv, if_neg h3, if_pos d3]; decide, by rw [gvC, if_pos h1, if_neg d4, kGv, if_neg h3, if_pos d3]; rfl⟩
  · have d : ¬ lotC S z = 0 := by rw [h1]; decide
    exact Or.inr ⟨by rw [gvC, if_neg d]; decide, by rw [kGv, if_pos h3]; decide, by rw [gvC, if_neg d, kGv, if_pos h3]; rfl⟩
end GIVE
