section DEP2
variable {S : CS} {M : MS}
theorem okM_new (h : okM M) (hn : ms_n M < 40) {cu : Int32} (hc : vp_in cu 4) : ms_n M + 1 ≤ 40 ∧ ∀ j, j < 40 → vp_in (upd (ms_ow M) (ms_n M) cu j) 4 := by
  refine ⟨by omega, fun j hj => ?_⟩
  by_cases c : j = ms_n M
  · rw [c, upd_self]; exact hc
  · rw [upd_ne c]; exact h.2 j hj
theorem n40_or (h : Rel S M) : (cs_n S < 40 ∧ ¬ nI (ms_n M) = 40) ∨ (¬ cs_n S < 40 ∧ nI (ms_n M) = 40) := by
  have hl := h.le
  have hn := h.n
  by_cases c : cs_n S < 40
  · refine Or.inl ⟨c, fun q => ?_⟩
    have e := nI_toInt (n := ms_n M) (by omega)
    rw [q] at e
    have e4 : (40 : Int32).toInt = 40 := rfl
    omega
  · refine Or.inr ⟨c, ?_⟩
    rw [← hn, show cs_n S = 40 by omega]
    rfl
theorem sim_deposit (h : Rel S M) (q : Nat) (cu x : Int32) : Sim (dpC S cu x) (pl3 (dpC S cu x)) (kDp M cu x) (Int32.toInt64 (nI (cs_n S))) (Int32.toInt64 (nI (ms_n M))) (dpS S q cu x) (mOp (mT0 M) cu x) := by
  rcases @demC_or cu with ⟨a1, a2⟩ | ⟨a1, a2⟩
  · rcases @demR_or x 1 10000000 with ⟨b1, b2⟩ | ⟨b1, b2⟩
    · rcases n40_or h with ⟨c1, c2⟩ | ⟨c1, c2⟩
      · refine Or.inl ⟨by rw [dpC, if_pos a1, if_pos b1, if_pos c1], by rw [kDp, if_neg a2, if_neg b2, if_neg c2], by rw [h.n], ?_⟩
        rw [dpS_new]
        have hn := h.n
        obtain ⟨i1, i2⟩ := mIn_0 b2
        rw [i_lt] at i1 i2
        rw [i_1] at i1
        have e7 : (10000000 : Int32).toInt = 10000000 := rfl
        have ok := okM_new h.2.1 (by omega) (mCu_in a2)
        refine Rel.new h c1 q ⟨ok, rfl, rfl, rfl, rfl, rfl, rfl, rfl⟩ (fun j hj => ?_) (fun k hk => ?_) ?_
        · have hne : j ≠ ms_n M := by omega
          show relL (cs_lt S j) (cs_day S) (upd (ms_th M) (ms_n M) (1 &&& 1) j) (upd (ms_te M) (ms_n M) (0 &&& 1) j) (upd (ms_ow M) (ms_n M) cu j) (upd (ms_pr M) (ms_n M) x j) (upd (ms_fz M) (ms_n M) 0 j) (ms_nd M j) (ms_le M j) (ms_en M j) (ms_ins M j) (upd (ms_bg M) (ms_n M) (-1) j) (vp_updL (ms_ea M) (ms_n M) 0 j) (ms_tp M j)
          rw [upd_ne hne, upd_ne hne, upd_ne hne, upd_ne hne, upd_ne hne, upd_ne hne, updL_ne hne]
          exact h.lot hj
        · have hk2 : k = ms_n M := by omega
          subst hk2
          show relL (iniR cu x 0) (cs_day S) (upd (ms_th M) (ms_n M) (1 &&& 1) (ms_n M)) (upd (ms_te M) (ms_n M) (0 &&& 1) (ms_n M)) (upd (ms_ow M) (ms_n M) cu (ms_n M)) (upd (ms_pr M) (ms_n M) x (ms_n M)) (upd (ms_fz M) (ms_n M) 0 (ms_n M)) (ms_nd M (ms_n M)) (ms_le M (ms_n M)) (ms_en M (ms_n M)) (ms_ins M (ms_n M)) (upd (ms_bg M) (ms_n M) (-1) (ms_n M)) (vp_updL (ms_ea M) (ms_n M) 0 (ms_n M)) (ms_tp M (ms_n M))
          rw [upd_self, upd_self, upd_self, upd_self, upd_self, upd_self, updL_self]
          have hx : ¬ x ≤ 0 := by rw [i_le, i_0]; omega
          refine ⟨rfl, rfl, ⟨fun k => absurd k hx, fun k => absurd k (by decide)⟩, fun _ => ⟨rfl, rfl, fun _ => ⟨rfl, rfl, rfl, rfl, ?_, Int.le_refl _, ?_, Or.inl rfl, Int.le_refl _, ?_⟩, fun k => absurd rfl k⟩⟩
          · show x.toInt ≤ 10000000; omega
          · show (0 : Int32).toInt ≤ x.toInt; rw [i_0]; omega
          · have hd := h.2.2.2.2.2.2.2.2.2.2.2.2.1
            show (0 : Int64).toInt ≤ 20000000000 * (cs_day S).toInt
            rw [show (0 : Int64).toInt = 0 from rfl]
            omega
        · have hb : bT (iniR cu x 0) = 0 := rfl
          rw [wP, if_pos hb]
          split <;> decide
      · exact Or.inr ⟨by rw [dpC, if_pos a1, if_pos b1, if_neg c1]; decide, by rw [kDp, if_neg a2, if_neg b2, if_pos c2]; decide, by rw [dpC, if_pos a1, if_pos b1, if_neg c1, kDp, if_neg a2, if_neg b2, if_pos c2]; rfl⟩
    · have d : ¬ demR x 1 10000000 = 0 := by rw [b1]; decide
      exact Or.inr ⟨by rw [dpC, if_pos a1, if_neg d]; decide, by rw [kDp, if_neg a2, if_pos b2]; decide, by rw [dpC, if_pos a1, if_neg d, kDp, if_neg a2, if_pos b2]; rfl⟩
  · have d : ¬ demC cu = 0 := by rw [a1]; decide
    exact Or.inr ⟨by rw [dpC, if_neg d]; decide, by rw [kDp, if_pos a2]; decide, by rw [dpC, if_neg d, kDp, if_pos a2]; rfl⟩
end DEP2
