section DEPT
variable {S : CS} {M : MS}
theorem td_pos {d : Int32} (h : ¬ mIn d 1 400 = 0) : ¬ d ≤ 0 ∧ 1 ≤ d.toInt ∧ d.toInt ≤ 400 := by
  obtain ⟨h1, h2⟩ := mIn_0 h
  rw [i_lt] at h1 h2
  rw [i_1] at h1
  have e : (400 : Int32).toInt = 400 := rfl
  exact ⟨by rw [i_le, i_0]; omega, by omega, by omega⟩
theorem j_mul {x y : Int32} (h1 : -9223372036854775808 ≤ x.toInt * y.toInt) (h2 : x.toInt * y.toInt < 9223372036854775808) : (Int32.toInt64 x * Int32.toInt64 y).toInt = x.toInt * y.toInt := by
  rw [Int64.toInt_mul, Int32.toInt_toInt64, Int32.toInt_toInt64]
  exact Int.bmod_eq_of_le (by omega) (by omega)
theorem mul_b {x y m n : Int} (hx : 0 ≤ x) (hxm : x ≤ m) (hy : 0 ≤ y) (hyn : y ≤ n) : 0 ≤ x * y ∧ x * y ≤ m * n :=
  ⟨Int.mul_nonneg hx hy, Int.mul_le_mul hxm hyn hy (by omega)⟩
/-- parts of a day by a rate -/
theorem parts_b {x t : Int32} (hx : 0 ≤ x.toInt) (ht : in2k t) : (Int32.toInt64 x * Int32.toInt64 t).toInt = x.toInt * t.toInt ∧ 0 ≤ x.toInt * t.toInt ∧ x.toInt * t.toInt ≤ 2000 * x.toInt := by
  have hb := i_b x
  have h := mul_b hx (Int.le_refl x.toInt) ht.1 ht.2
  have h2 : x.toInt * 2000 = 2000 * x.toInt := Int.mul_comm _ _
  rw [h2] at h
  exact ⟨j_mul (by omega) (by omega), h.1, h.2⟩
theorem sim_depositTerm (h : Rel S M) (q : Nat) (cu x d v : Int32) : Sim (dtC S cu x d v) (pl3 (dtC S cu x d v)) (kDt M cu x d v) (Int32.toInt64 (nI (cs_n S))) (Int32.toInt64 (nI (ms_n M))) (dtS S q cu x d v) (mDt (mT0 M) cu x d v) := by
  rcases @demC_or cu with ⟨a1, a2⟩ | ⟨a1, a2⟩
  · rcases @demR_or x 1 10000000 with ⟨b1, b2⟩ | ⟨b1, b2⟩
    · rcases @demR_or d 1 400 with ⟨d1, d2⟩ | ⟨d1, d2⟩
      · rcases @demR_or v 0 2 with ⟨v1, v2⟩ | ⟨v1, v2⟩
        · rcases n40_or h with ⟨c1, c2⟩ | ⟨c1, c2⟩
          · refine Or.inl ⟨by rw [dtC, if_pos a1, if_pos b1, if_pos d1, if_pos v1, if_pos c1], by rw [kDt, if_neg a2, if_neg b2, if_neg d2, if_neg v2, if_neg c2], by rw [h.n], ?_⟩
            rw [dtS_new]
            have hn := h.n
            obtain ⟨i1, i2⟩ := mIn_0 b2
            rw [i_lt] at i1 i2
            rw [i_1] at i1
            have e7 : (10000000 : Int32).toInt = 10000000 := rfl
            obtain ⟨t1, t2, t3⟩ := td_pos d2
            have ok := okM_new h.2.1 (by omega) (mCu_in a2)
            have htr : cs_tr S = ms_tr M := h.2.2.2.2.2.2.2.1
            have hday : cs_day S = ms_now M := h.2.2.2.2.2.2.2.2.1
            have hin : in2k (cs_tr S) := h.2.2.2.2.2.2.2.2.2.2.2.1
            obtain ⟨p1, p2, p3⟩ := parts_b (x := x) (by omega) hin
            have hx : ¬ x ≤ 0 := by rw [i_le, i_0]; omega
            have hb : bT (dtR S cu x d v) = 1 := if_neg t1
            refine Rel.new h c1 q ⟨⟨ok.1, ?_⟩, mDt_o (mT0 M) cu x d v⟩ (fun j hj => ?_) (fun k hk => ?_) ?_
            · rw [mDt_ow]; exact ok.2
            · have hne : j ≠ ms_n M := by omega
              show relL (cs_lt S j) (cs_day S) (ms_th (mDt (mT0 M) cu x d v) j) (ms_te (mDt (mT0 M) cu x d v) j) (ms_ow (mDt (mT0 M) cu x d v) j) (ms_pr (mDt (mT0 M) cu x d v) j) (ms_fz (mDt (mT0 M) cu x d v) j) (ms_nd (mDt (mT0 M) cu x d v) j) (ms_le (mDt (mT0 M) cu x d v) j) (ms_en (mDt (mT0 M) cu x d v) j) (ms_ins (mDt (mT0 M) cu x d v) j) (ms_bg (mDt (mT0 M) cu x d v) j) (ms_ea (mDt (mT0 M) cu x d v) j) (ms_tp (mDt (mT0 M) cu x d v) j)
              rw [mDt_th, mDt_te, mDt_ow, mDt_pr, mDt_fz, mDt_bg, mDt_ea, mDt_le, mDt_ins, mDt_nd, mDt_en, mDt_tp]
              have hne2 : j ≠ ms_n (mT0 M) := hne
              rw [upd_ne hne2, upd_ne hne2, upd_ne hne2, upd_ne hne2, upd_ne hne2, upd_ne hne2, upd_ne hne2, updL_ne hne2, upd_ne hne2, upd_ne hne2, upd_ne hne2, updL_ne hne2]
              exact h.lot hj
            · have hk2 : k = ms_n (mT0 M) := by show k = ms_n M; omega
              subst hk2
              rw [mDt_th, mDt_te, mDt_ow, mDt_pr, mDt_fz, mDt_bg, mDt_ea, mDt_le, mDt_ins, mDt_nd, mDt_en, mDt_tp]
              simp only [upd_self, updL_self]
              refine ⟨rfl, hb, ⟨fun k => absurd k hx, fun k => absurd k (by decide)⟩, fun _ => ⟨rfl, rfl, fun k => absurd (hb.symm.trans k) (by decide), fun _ => ⟨?_, rfl, ?_, rfl, rfl, rfl, ⟨t2, t3⟩, Or.inl rfl, ?_, ?_, Int.le_refl _⟩⟩⟩
              · show Int32.toInt64 x * Int32.toInt64 (cs_tr S) = Int32.toInt64 x * Int32.toInt64 (ms_tr M)
                rw [htr]
              · show cs_day S + d = ms_now M + d
                rw [hday]
              · show 0 ≤ (Int32.toInt64 x * Int32.toInt64 (cs_tr S)).toInt
                rw [p1]; exact p2
              · show (Int32.toInt64 x * Int32.toInt64 (cs_tr S)).toInt ≤ 2000 * x.toInt
                rw [p1]; exact p3
            · have hb0 : ¬ bT (dtR S cu x d v) = 0 := by rw [hb]; decide
              have hx0 : ¬ lr_pr (dtR S cu x d v) ≤ 0 := hx
              rw [wP, if_neg hx0, if_neg hb0]
              show 0 ≤ x.toInt * 3650000 + (0 : Int64).toInt ∧ x.toInt * 3650000 + (0 : Int64).toInt ≤ 36500000000000
              rw [show (0 : Int64).toInt = 0 from rfl]
              omega
          · exact Or.inr ⟨by rw [dtC, if_pos a1, if_pos b1, if_pos d1, if_pos v1, if_neg c1]; decide, by rw [kDt, if_neg a2, if_neg b2, if_neg d2, if_neg v2, if_pos c2]; decide, by rw [dtC, if_pos a1, if_pos b1, if_pos d1, if_pos v1, if_neg c1, kDt, if_neg a2, if_neg b2, if_neg d2, if_neg v2, if_pos c2]; rfl⟩
        · have g : ¬ demR v 0 2 = 0 := by rw [v1]; decide
          exact Or.inr ⟨by rw [dtC, if_pos a1, if_pos b1, if_pos d1, if_neg g]; decide, by rw [kDt, if_neg a2, if_neg b2, if_neg d2, if_pos v2]; decide, by rw [dtC, if_pos a1, if_pos b1, if_pos d1, if_neg g, kDt, if_neg a2, if_neg b2, if_neg d2, if_pos v2]; rfl⟩
      · have g : ¬ demR d 1 400 = 0 := by rw [d1]; decide
        exact Or.inr ⟨by rw [dtC, if_pos a1, if_pos b1, if_neg g]; decide, by rw [kDt, if_neg a2, if_neg b2, if_pos d2]; decide, by rw [dtC, if_pos a1, if_pos b1, if_neg g, kDt, if_neg a2, if_neg b2, if_pos d2]; rfl⟩
    · have g : ¬ demR x 1 10000000 = 0 := by rw [b1]; decide
      exact Or.inr ⟨by rw [dtC, if_pos a1, if_neg g]; decide, by rw [kDt, if_neg a2, if_pos b2]; decide, by rw [dtC, if_pos a1, if_neg g, kDt, if_neg a2, if_pos b2]; rfl⟩
  · have g : ¬ demC cu = 0 := by rw [a1]; decide
    exact Or.inr ⟨by rw [dtC, if_neg g]; decide, by rw [kDt, if_pos a2]; decide, by rw [dtC, if_neg g, kDt, if_pos a2]; rfl⟩
end DEPT
