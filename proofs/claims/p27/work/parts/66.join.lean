section JOIN
variable {S : CS} {M : MS}
theorem sumP_up (f : Nat → LR) (i : Nat) (x : LR) : ∀ n, sumP (va_up f i x) n = sumP f n + (if i < n then wP x - wP (f i) else 0)
  | 0 => by rw [if_neg (Nat.not_lt_zero i)]; rfl
  | n + 1 => by
    rw [sumP, sumP, sumP_up f i x n]
    by_cases c : n = i
    · subst c
      rw [va_up_self, if_neg (Nat.lt_irrefl n), if_pos (Nat.lt_succ_self n)]
      omega
    · rw [va_up_ne _ _ c]
      by_cases d : i < n
      · rw [if_pos d, if_pos (by omega)]; omega
      · rw [if_neg d, if_neg (by omega)]; omega
def joR (r t : LR) : LR := lr_set_rn (lr_set_pa (lr_set_ea (lr_set_pr r (lr_pr r + lr_pr t)) (lr_ea r + lr_ea t)) (lr_pa r + lr_pa t)) (-1)
theorem jo1_lt (T : CS) (i j : Nat) : cs_lt (jo1 T i j) = va_up (cs_lt T) i (lr_set_pr (cs_lt T i) (lr_pr (cs_lt T i) + lr_pr (cs_lt T j))) := rfl
theorem jo2_lt (T : CS) (i j : Nat) : cs_lt (jo2 T i j) = va_up (cs_lt T) i (lr_set_ea (cs_lt T i) (lr_ea (cs_lt T i) + lr_ea (cs_lt T j))) := rfl
theorem jo3_lt (T : CS) (i j : Nat) : cs_lt (jo3 T i j) = va_up (cs_lt T) i (lr_set_pa (cs_lt T i) (lr_pa (cs_lt T i) + lr_pa (cs_lt T j))) := rfl
theorem jo4_lt (T : CS) (i : Nat) : cs_lt (jo4 T i) = va_up (cs_lt T) i (lr_set_rn (cs_lt T i) (-1)) := rfl
theorem jo5_lt (T : CS) (j : Nat) : cs_lt (jo5 T j) = va_up (cs_lt T) j (lr_set_pr (cs_lt T j) 0) := rfl
theorem jo_sc1 (T : CS) (i j : Nat) : scS T (jo1 T i j) ∧ cs_paid (jo1 T i j) = cs_paid T ∧ cs_lost (jo1 T i j) = cs_lost T := ⟨⟨⟨rfl, rfl, rfl, rfl⟩, rfl, rfl, rfl, rfl⟩, rfl, rfl⟩
theorem jo_sc2 (T : CS) (i j : Nat) : scS T (jo2 T i j) ∧ cs_paid (jo2 T i j) = cs_paid T ∧ cs_lost (jo2 T i j) = cs_lost T := ⟨⟨⟨rfl, rfl, rfl, rfl⟩, rfl, rfl, rfl, rfl⟩, rfl, rfl⟩
theorem jo_sc3 (T : CS) (i j : Nat) : scS T (jo3 T i j) ∧ cs_paid (jo3 T i j) = cs_paid T ∧ cs_lost (jo3 T i j) = cs_lost T := ⟨⟨⟨rfl, rfl, rfl, rfl⟩, rfl, rfl, rfl, rfl⟩, rfl, rfl⟩
theorem jo_sc4 (T : CS) (i : Nat) : scS T (jo4 T i) ∧ cs_paid (jo4 T i) = cs_paid T ∧ cs_lost (jo4 T i) = cs_lost T := ⟨⟨⟨rfl, rfl, rfl, rfl⟩, rfl, rfl, rfl, rfl⟩, rfl, rfl⟩
theorem jo_sc5 (T : CS) (j : Nat) : scS T (jo5 T j) ∧ cs_paid (jo5 T j) = cs_paid T ∧ cs_lost (jo5 T j) = cs_lost T := ⟨⟨⟨rfl, rfl, rfl, rfl⟩, rfl, rfl, rfl, rfl⟩, rfl, rfl⟩
theorem jo_f (S : CS) {i j : Nat} (hij : j ≠ i) : cs_lt (joS S i j) = va_up (va_up (cs_lt S) i (joR (cs_lt S i) (cs_lt S j))) j (lr_set_pr (cs_lt S j) 0) ∧ scS S (joS S i j) ∧ cs_paid (joS S i j) = cs_paid S ∧ cs_lost (joS S i j) = cs_lost S := by
  rw [joS]
  have s1 := jo_sc1 S i j
  have a1 : cs_lt (jo1 S i j) i = lr_set_pr (cs_lt S i) (lr_pr (cs_lt S i) + lr_pr (cs_lt S j)) := by rw [jo1_lt, va_up_self]
  have b1 : cs_lt (jo1 S i j) j = cs_lt S j := by rw [jo1_lt, va_up_ne _ _ hij]
  have c1 := jo1_lt S i j
  generalize jo1 S i j = T1 at *
  have s2 := jo_sc2 T1 i j
  have a2 : cs_lt (jo2 T1 i j) i = lr_set_ea (cs_lt T1 i) (lr_ea (cs_lt T1 i) + lr_ea (cs_lt T1 j)) := by rw [jo2_lt, va_up_self]
  have b2 : cs_lt (jo2 T1 i j) j = cs_lt T1 j := by rw [jo2_lt, va_up_ne _ _ hij]
  have c2 := jo2_lt T1 i j
  generalize jo2 T1 i j = T2 at *
  have s3 := jo_sc3 T2 i j
  have a3 : cs_lt (jo3 T2 i j) i = lr_set_pa (cs_lt T2 i) (lr_pa (cs_lt T2 i) + lr_pa (cs_lt T2 j)) := by rw [jo3_lt, va_up_self]
  have b3 : cs_lt (jo3 T2 i j) j = cs_lt T2 j := by rw [jo3_lt, va_up_ne _ _ hij]
  have c3 := jo3_lt T2 i j
  generalize jo3 T2 i j = T3 at *
  have s4 := jo_sc4 T3 i
  have b4 : cs_lt (jo4 T3 i) j = cs_lt T3 j := by rw [jo4_lt, va_up_ne _ _ hij]
  have c4 := jo4_lt T3 i
  generalize jo4 T3 i = T4 at *
  have s5 := jo_sc5 T4 j
  have c5 := jo5_lt T4 j
  generalize jo5 T4 j = T5 at *
  refine ⟨?_, s1.1.tr (s2.1.tr (s3.1.tr (s4.1.tr s5.1))), ?_, ?_⟩
  · rw [c5, b4, b3, b2, b1, c4, a3, b2, b1, a2, b1, a1, c3, a2, b2, b1, a1, c2, a1, b1, c1]
    simp only [va_up_two]
    rfl
  · rw [s5.2.1, s4.2.1, s3.2.1, s2.2.1, s1.2.1]
  · rw [s5.2.2, s4.2.2, s3.2.2, s2.2.2, s1.2.2]
theorem mJo_f (M : MS) (i j : Nat) : ms_pr (mJo M i j) = upd (ms_pr M) i (ms_pr M i + ms_pr M j) ∧ ms_ea (mJo M i j) = vp_updL (ms_ea M) i (ms_ea M i + ms_ea M j) ∧ ms_tp (mJo M i j) = vp_updL (ms_tp M) i (ms_tp M i + ms_tp M j) ∧ ms_bg (mJo M i j) = upd (ms_bg M) i (-1) ∧ ms_th (mJo M i j) = upd (ms_th M) j (0 &&& 1) ∧ scM M (mJo M i j) ∧ ms_paid (mJo M i j) = ms_paid M ∧ ms_lost (mJo M i j) = ms_lost M ∧ ms_fz (mJo M i j) = ms_fz M ∧ ms_nd (mJo M i j) = ms_nd M ∧ ms_le (mJo M i j) = ms_le M ∧ ms_en (mJo M i j) = ms_en M ∧ ms_ins (mJo M i j) = ms_ins M :=
  ⟨rfl, rfl, rfl, rfl, rfl, ⟨rfl, rfl, rfl, rfl, rfl, rfl, rfl⟩, rfl, rfl, rfl, rfl, rfl, rfl, rfl⟩
/-- two lots that both demand of each other the same -/
theorem term_w (h : Rel S M) {j : Nat} (hj : j < cs_n S) (h3 : ¬ lr_pr (cs_lt S j) ≤ 0) (h4 : ¬ bT (cs_lt S j) = 0) : 1 ≤ (lr_pr (cs_lt S j)).toInt ∧ 0 ≤ (lr_ea (cs_lt S j)).toInt ∧ (lr_pr (cs_lt S j)).toInt * 3650000 + (lr_ea (cs_lt S j)).toInt < 7838315000000000 := by
  have a := alive_b h3
  have b := (((h.lot hj).2.2.2 h3).2.2.2 h4).2.2.2.2.2.2.2.2.2.2
  have w := (wP_b h hj).2
  rw [wP_term h3 h4] at w
  exact ⟨a, b, w⟩
theorem cmp_pos {x y : Int64} : ¬ 0 < lg_cmp x y ↔ x.toInt ≤ y.toInt := by
  rw [lg_cmp_gt, Int64.lt_iff_toInt_lt]; omega
theorem cmp_le {x y : Int64} : lg_cmp x y ≤ 0 ↔ x.toInt ≤ y.toInt := by
  rw [lg_cmp_le, Int64.le_iff_toInt_le]
theorem sim_join (h : Rel S M) (z y : Int32) : Sim (joC S z y) (pl3 (joC S z y)) (kJo M z y) (Int32.toInt64 (lr_pr (cs_lt (joS S (Int32.toNatClampNeg z) (Int32.toNatClampNeg y)) (Int32.toNatClampNeg z)))) (Int32.toInt64 (ms_pr (mJo (mT0 M) (Int32.toNatClampNeg z) (Int32.toNatClampNeg y)) (Int32.toNatClampNeg z))) (joS S (Int32.toNatClampNeg z) (Int32.toNatClampNeg y)) (mJo (mT0 M) (Int32.toNatClampNeg z) (Int32.toNatClampNeg y)) := by
  rcases lot_or h z with ⟨h1, h2, h3, h4, h5, h6⟩ | ⟨h1, h2, h3⟩
  · rcases lot_or h y with ⟨k1, k2, k3, k4, k5, k6⟩ | ⟨k1, k2, k3⟩
    · by_cases e : z = y
      · exact Or.inr ⟨by rw [joC, if_pos h1, if_pos k1, if_pos e]; decide, by rw [kJo, if_neg h3, if_neg k3, if_pos e]; decide, by rw [joC, if_pos h1, if_pos k1, if_pos e, kJo, if_neg h3, if_neg k3, if_pos e]; rfl⟩
      · have gi := h.lot h4
        have gj := h.lot k4
        have gai := gi.2.2.2 h5
        have gaj := gj.2.2.2 k5
        have no : ∀ x : Int32, x = 3 → cjn (cs_lt S z.toNatClampNeg) (cs_lt S y.toNatClampNeg) = 0 → kJo M z y = x → Sim (joC S z y) (pl3 (joC S z y)) (kJo M z y) (Int32.toInt64 (lr_pr (cs_lt (joS S (Int32.toNatClampNeg z) (Int32.toNatClampNeg y)) (Int32.toNatClampNeg z)))) (Int32.toInt64 (ms_pr (mJo (mT0 M) (Int32.toNatClampNeg z) (Int32.toNatClampNeg y)) (Int32.toNatClampNeg z))) (joS S (Int32.toNatClampNeg z) (Int32.toNatClampNeg y)) (mJo (mT0 M) (Int32.toNatClampNeg z) (Int32.toNatClampNeg y)) := fun x hx hc hk => by
          rw [hx] at hk
          exact Or.inr ⟨by rw [joC, if_pos h1, if_pos k1, if_neg e, if_pos hc]; decide, by rw [hk]; decide, by rw [joC, if_pos h1, if_pos k1, if_neg e, if_pos hc, hk]; rfl⟩
        by_cases ci : bT (cs_lt S z.toNatClampNeg) = 0
        · have hte : ms_te M z.toNatClampNeg = 0 := gi.2.1.symm.trans ci
          exact no _ rfl (by rw [cjn, if_pos ci]) (by rw [kJo, if_neg h3, if_neg k3, if_neg e, if_pos hte])
        · have hte : ¬ ms_te M z.toNatClampNeg = 0 := fun q => ci (gi.2.1.trans q)
          by_cases cj : bT (cs_lt S y.toNatClampNeg) = 0
          · have htj : ms_te M y.toNatClampNeg = 0 := gj.2.1.symm.trans cj
            exact no _ rfl (by rw [cjn, if_neg ci, if_pos cj]) (by rw [kJo, if_neg h3, if_neg k3, if_neg e, if_neg hte, if_pos htj])
          · have htj : ¬ ms_te M y.toNatClampNeg = 0 := fun q => cj (gj.2.1.trans q)
            obtain ⟨t1, t2, t3, t4, t5, t6, t7, t8, t9, t10, t11⟩ := gai.2.2.2 ci
            obtain ⟨s1, s2, s3, s4, s5, s6, s7, s8, s9, s10, s11⟩ := gaj.2.2.2 cj
            by_cases f : lr_cu (cs_lt S z.toNatClampNeg) = lr_cu (cs_lt S y.toNatClampNeg)
            · have f2 : ms_ow M z.toNatClampNeg = ms_ow M y.toNatClampNeg := by rw [← gi.1, ← gj.1]; exact f
              by_cases f3 : lr_en (cs_lt S z.toNatClampNeg) = lr_en (cs_lt S y.toNatClampNeg)
              · have f4 : ms_en M z.toNatClampNeg = ms_en M y.toNatClampNeg := by rw [← t3, ← s3]; exact f3
                by_cases f5 : 0 < lg_cmp (Int32.toInt64 (lr_pr (cs_lt S z.toNatClampNeg)) + Int32.toInt64 (lr_pr (cs_lt S y.toNatClampNeg))) 100000000
                · have f6 : ¬ lg_cmp (Int32.toInt64 (ms_pr M z.toNatClampNeg) + Int32.toInt64 (ms_pr M y.toNatClampNeg)) 100000000 ≤ 0 := by
                    rw [← gai.1, ← gaj.1, i_le, i_0]
                    rw [i_lt, i_0] at f5
                    omega
                  exact no _ rfl (by rw [cjn, if_neg ci, if_neg cj, if_pos f, if_pos f3, if_pos f5]) (by rw [kJo, if_neg h3, if_neg k3, if_neg e, if_neg hte, if_neg htj, if_pos f2, if_pos f4, if_neg f6])
                · have f6 : lg_cmp (Int32.toInt64 (ms_pr M z.toNatClampNeg) + Int32.toInt64 (ms_pr M y.toNatClampNeg)) 100000000 ≤ 0 := by
                    rw [← gai.1, ← gaj.1, i_le, i_0]
                    rw [i_lt, i_0] at f5
                    omega
                  have hc : ¬ cjn (cs_lt S z.toNatClampNeg) (cs_lt S y.toNatClampNeg) = 0 := by
                    rw [cjn, if_neg ci, if_neg cj, if_pos f, if_pos f3, if_neg f5]; decide
                  have hij : y.toNatClampNeg ≠ z.toNatClampNeg := fun q => e (by rw [h6, k6, q])
                  have wi := term_w h h4 h5 ci
                  have wj := term_w h k4 k5 cj
                  have hs : (lr_pr (cs_lt S z.toNatClampNeg)).toInt + (lr_pr (cs_lt S y.toNatClampNeg)).toInt ≤ 100000000 := by
                    have q := cmp_pos.mp f5
                    have bi := i_b (lr_pr (cs_lt S z.toNatClampNeg))
                    have bj := i_b (lr_pr (cs_lt S y.toNatClampNeg))
                    rw [j_add (by rw [Int32.toInt_toInt64, Int32.toInt_toInt64]; omega) (by rw [Int32.toInt_toInt64, Int32.toInt_toInt64]; omega), Int32.toInt_toInt64, Int32.toInt_toInt64] at q
                    exact q
                  obtain ⟨u1, u2, u3, u4⟩ := jo_f S hij
                  obtain ⟨m1, m2, m3, m4, m5, m6, m7, m8, m9, m10, m11, m12, m13⟩ := mJo_f (mT0 M) z.toNatClampNeg y.toNatClampNeg
                  have hpi : lr_pr (cs_lt S z.toNatClampNeg) = ms_pr M z.toNatClampNeg := gai.1
                  have hpj : lr_pr (cs_lt S y.toNatClampNeg) = ms_pr M y.toNatClampNeg := gaj.1
                  have hei : lr_ea (cs_lt S z.toNatClampNeg) = ms_ea M z.toNatClampNeg := gai.2.1
                  have hej : lr_ea (cs_lt S y.toNatClampNeg) = ms_ea M y.toNatClampNeg := gaj.2.1
                  have spr : (lr_pr (cs_lt S z.toNatClampNeg) + lr_pr (cs_lt S y.toNatClampNeg)).toInt = (lr_pr (cs_lt S z.toNatClampNeg)).toInt + (lr_pr (cs_lt S y.toNatClampNeg)).toInt := i_add (by omega) (by omega)
                  have sea : (lr_ea (cs_lt S z.toNatClampNeg) + lr_ea (cs_lt S y.toNatClampNeg)).toInt = (lr_ea (cs_lt S z.toNatClampNeg)).toInt + (lr_ea (cs_lt S y.toNatClampNeg)).toInt := j_add (by omega) (by omega)
                  have spa : (lr_pa (cs_lt S z.toNatClampNeg) + lr_pa (cs_lt S y.toNatClampNeg)).toInt = (lr_pa (cs_lt S z.toNatClampNeg)).toInt + (lr_pa (cs_lt S y.toNatClampNeg)).toInt := j_add (by omega) (by omega)
                  have hju : lr_pr (joR (cs_lt S z.toNatClampNeg) (cs_lt S y.toNatClampNeg)) = lr_pr (cs_lt S z.toNatClampNeg) + lr_pr (cs_lt S y.toNatClampNeg) := rfl
                  have hjl : ¬ lr_pr (joR (cs_lt S z.toNatClampNeg) (cs_lt S y.toNatClampNeg)) ≤ 0 := by
                    rw [hju, i_le, i_0, spr]; omega
                  have hjb : ¬ bT (joR (cs_lt S z.toNatClampNeg) (cs_lt S y.toNatClampNeg)) = 0 := ci
                  have hjw : wP (joR (cs_lt S z.toNatClampNeg) (cs_lt S y.toNatClampNeg)) = wP (cs_lt S z.toNatClampNeg) + wP (cs_lt S y.toNatClampNeg) := by
                    rw [wP_term hjl hjb, wP_term h5 ci, wP_term k5 cj, hju, spr]
                    show _ + (lr_ea (cs_lt S z.toNatClampNeg) + lr_ea (cs_lt S y.toNatClampNeg)).toInt = _
                    rw [sea]; omega
                  have hdw : wP (lr_set_pr (cs_lt S y.toNatClampNeg) 0) = 0 := wP_dead (by show (0 : Int32) ≤ 0; decide)
                  have hne : z.toNatClampNeg ≠ y.toNatClampNeg := fun q => hij q.symm
                  refine Or.inl ⟨by rw [joC, if_pos h1, if_pos k1, if_neg e, if_neg hc], by rw [kJo, if_neg h3, if_neg k3, if_neg e, if_neg hte, if_neg htj, if_pos f2, if_pos f4, if_pos f6], ?_, ?_⟩
                  · rw [u1, m1, va_up_ne _ _ hne, va_up_self, upd_self, hju, hpi, hpj]
                  · refine Rel.chg h u2 m6 ?_ ?_ (fun q hq => ?_) ?_
                    · rw [u3, m7]; exact h.2.2.2.2.1
                    · rw [u4, m8]; exact h.2.2.2.2.2.1
                    · have sc := m6
                      rw [u1, m1, m2, m3, m4, m5, m6.2.2.2.2.2.1, m6.2.2.2.2.2.2, m9, m10, m11, m12, m13]
                      by_cases qj : q = y.toNatClampNeg
                      · rw [qj, va_up_self, upd_self]
                        exact relL_dead gj.1 gj.2.1 (by show (0 : Int32) ≤ 0; decide) rfl
                      · rw [va_up_ne _ _ qj, upd_ne qj]
                        by_cases qi : q = z.toNatClampNeg
                        · rw [qi, va_up_self, upd_self, upd_self, updL_self, updL_self]
                          have hth : ¬ ms_th M z.toNatClampNeg = 0 := fun q => h5 (gi.2.2.1.mpr q)
                          refine ⟨gi.1, gi.2.1, ⟨fun k => absurd k hjl, fun k => absurd k hth⟩, fun _ => ⟨?_, ?_, fun k => absurd k hjb, fun _ => ⟨?_, t2, t3, t4, rfl, t6, t7, Or.inl rfl, ?_, ?_, ?_⟩⟩⟩
                          · show lr_pr (cs_lt S z.toNatClampNeg) + lr_pr (cs_lt S y.toNatClampNeg) = ms_pr M z.toNatClampNeg + ms_pr M y.toNatClampNeg
                            rw [hpi, hpj]
                          · show lr_ea (cs_lt S z.toNatClampNeg) + lr_ea (cs_lt S y.toNatClampNeg) = ms_ea M z.toNatClampNeg + ms_ea M y.toNatClampNeg
                            rw [hei, hej]
                          · show lr_pa (cs_lt S z.toNatClampNeg) + lr_pa (cs_lt S y.toNatClampNeg) = ms_tp M z.toNatClampNeg + ms_tp M y.toNatClampNeg
                            rw [t1, s1]
                          · show 0 ≤ (lr_pa (cs_lt S z.toNatClampNeg) + lr_pa (cs_lt S y.toNatClampNeg)).toInt
                            rw [spa]; omega
                          · rw [hju, spr]
                            show (lr_pa (cs_lt S z.toNatClampNeg) + lr_pa (cs_lt S y.toNatClampNeg)).toInt ≤ _
                            rw [spa]; omega
                          · show 0 ≤ (lr_ea (cs_lt S z.toNatClampNeg) + lr_ea (cs_lt S y.toNatClampNeg)).toInt
                            rw [sea]; omega
                        · rw [va_up_ne _ _ qi, upd_ne qi, upd_ne qi, updL_ne qi, updL_ne qi]
                          exact h.lot hq
                    · rw [u1, sumP_up, sumP_up, if_pos k4, if_pos h4, va_up_ne _ _ hij, hjw, hdw]
                      omega
              · have f4 : ¬ ms_en M z.toNatClampNeg = ms_en M y.toNatClampNeg := by rw [← t3, ← s3]; exact f3
                exact no _ rfl (by rw [cjn, if_neg ci, if_neg cj, if_pos f, if_neg f3]) (by rw [kJo, if_neg h3, if_neg k3, if_neg e, if_neg hte, if_neg htj, if_pos f2, if_neg f4])
            · have f2 : ¬ ms_ow M z.toNatClampNeg = ms_ow M y.toNatClampNeg := by rw [← gi.1, ← gj.1]; exact f
              exact no _ rfl (by rw [cjn, if_neg ci, if_neg cj, if_neg f]) (by rw [kJo, if_neg h3, if_neg k3, if_neg e, if_neg hte, if_neg htj, if_neg f2])
    · have d : ¬ lotC S y = 0 := by rw [k1]; decide
      exact Or.inr ⟨by rw [joC, if_pos h1, if_neg d]; decide, by rw [kJo, if_neg h3, if_pos k3]; decide, by rw [joC, if_pos h1, if_neg d, kJo, if_neg h3, if_pos k3]; rfl⟩
  · have d : ¬ lotC S z = 0 := by rw [h1]; decide
    exact Or.inr ⟨by rw [joC, if_neg d]; decide, by rw [kJo, if_pos h3]; decide, by rw [joC, if_neg d, kJo, if_pos h3]; rfl⟩
end JOIN
