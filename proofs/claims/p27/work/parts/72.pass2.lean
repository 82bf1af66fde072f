section TSTEP
variable {S : CS} {M : MS}
theorem bd_term (h : Rel S M) (hd : (cs_day S).toInt < 3000) (c : Int32) {i : Nat} (hi : i < cs_n S) (h3 : ¬ lr_pr (cs_lt S i) ≤ 0) (h4 : ¬ bT (cs_lt S i) = 0) (e : (mbTo c (mDay M) i).1 = c + (bdTo (ps1 S) i).1) (b : BDs (ps1 S) (mDay M) (bdTo (ps1 S) i).2 (mbTo c (mDay M) i).2 i) : (mbTo c (mDay M) (i + 1)).1 = c + (bdTo (ps1 S) (i + 1)).1 ∧ BDs (ps1 S) (mDay M) (bdTo (ps1 S) (i + 1)).2 (mbTo c (mDay M) (i + 1)).2 (i + 1) := by
  have hn := h.le
  have g := h.lot hi
  have ga := g.2.2.2 h3
  obtain ⟨t1, t2, t3, t4, t5, t6, t7, t8, t9, t10, t11⟩ := ga.2.2.2 h4
  have o := mDay_o M
  have b5 := b.2.2.2.2.1 i (Nat.le_refl i)
  have hT := t_live h hi h3
  have hX : cs_lt (bdTo (ps1 S) i).2 i = eaR (cs_lt S i) := b5.1.trans hT
  have hnX : cs_n (bdTo (ps1 S) i).2 = cs_n S := b.1.1.1
  have hdX : cs_day (bdTo (ps1 S) i).2 = cs_day (ps1 S) := b.1.2.2.2.2
  have htX : cs_tr (bdTo (ps1 S) i).2 = cs_tr S := b.1.2.2.2.1.trans (ps1_o S).2.2.2.1
  obtain ⟨-, dg, -, wb⟩ := day_grow h hd
  have wb := wb i hi
  have hd0 := h.2.2.2.2.2.2.2.2.2.2.2.2.1
  have hin : in2k (cs_tr S) := h.2.2.2.2.2.2.2.2.2.2.2.1
  have hday : cs_day S = ms_now M := h.2.2.2.2.2.2.2.2.1
  have htr : cs_tr S = ms_tr M := h.2.2.2.2.2.2.2.1
  have hx := (xAt_at (X := (bdTo (ps1 S) i).2) (i := i) (by omega) (by rw [hnX]; exact hi)).1 (by rw [hX, eaR_pr]; exact h3)
  have hthM : ¬ ms_th M i = 0 := fun q => h3 (g.2.2.1.mpr q)
  have hth : ¬ ms_th (mbTo c (mDay M) i).2 i = 0 := by
    rw [b5.2.1, o.2.2.2.2.2.2.1]; exact hthM
  have hte : ¬ ms_te (mbTo c (mDay M) i).2 i = 0 := by
    rw [b5.2.2.1, o.2.2.2.2.2.1]; exact fun q => h4 (g.2.1.trans q)
  have henY : ms_en (mbTo c (mDay M) i).2 i = lr_en (cs_lt S i) := by
    rw [b5.2.2.2.2.2.2.2.2.1, o.2.2.2.2.2.2.2.2.2.2.2.1]; exact t3.symm
  have hnow : ms_now (mbTo c (mDay M) i).2 = cs_day (ps1 S) := by
    rw [b.2.1.2.2.2.2.1, mDay_now, ps1_day, hday]
  have htrY : ms_tr (mbTo c (mDay M) i).2 = cs_tr S := by
    rw [b.2.1.2.2.2.1, o.2.2.2.1, htr]
  obtain ⟨u1, u2⟩ := mbTo_s c (mDay M) i
  obtain ⟨w1, w2⟩ := bdTo_some hx
  have hfzX : lr_fz (cs_lt (bdTo (ps1 S) i).2 i) = 0 := by rw [hX, eaR_fz]; exact t6
  have hsame := bd1_same hfzX
  have hea : lr_ea (cs_lt S i) + lr_pa (cs_lt S i) = ms_ea (mDay M) i := by
    have hte2 : ¬ ms_te M i = 0 := fun q => h4 (g.2.1.trans q)
    have hp : mPn M i = ms_tp M i := if_neg hte2
    rw [m_live (by rw [← h.n]; exact hi) hthM, hp, ← t1, ga.2.1]
  have et := earn_term h hi h3 h4
  rw [eaR_ea] at et
  have hen1 : lr_en (cs_lt (bd1 (bdTo (ps1 S) i).2 i) i) = lr_en (cs_lt S i) := by rw [bd_en, hX, eaR_en]
  have g' : relL (cs_lt S i) (cs_day S) (ms_th (mDay M) i) (ms_te (mDay M) i) (ms_ow (mDay M) i) (ms_pr (mDay M) i) (ms_fz (mDay M) i) (ms_nd (mDay M) i) (ms_le (mDay M) i) (ms_en (mDay M) i) (ms_ins (mDay M) i) (ms_bg (mDay M) i) (ms_ea M i) (ms_tp (mDay M) i) := g
  have hteN : ¬ ms_te (mDay M) i = 0 := by rw [o.2.2.2.2.2.1]; exact fun q => h4 (g.2.1.trans q)
  have hbT : ¬ bT (cs_lt (ps1 S) i) = 0 := by rw [hT, eaR_bT]; exact h4
  have hTw : wP (cs_lt (ps1 S) i) = (lr_pr (cs_lt S i)).toInt * 3650000 + (lr_ea (cs_lt S i) + lr_pa (cs_lt S i)).toInt := by
    rw [hT, wP_term (by rw [eaR_pr]; exact h3) (by rw [eaR_bT]; exact h4), eaR_pr, eaR_ea]
  rw [hTw] at wb
  generalize hE : lr_ea (cs_lt S i) + lr_pa (cs_lt S i) = E at *
  have hXE : cs_lt (bdTo (ps1 S) i).2 i = lr_set_ea (cs_lt S i) E := by rw [hX, eaR, hE]
  have rr := relL_te (e := E) (day2 := cs_day (ps1 S)) g' h3 h4 (by omega) (by omega)
  rw [hea] at rr
  have rY := b5.2.rel rr
  by_cases d : lr_en (cs_lt S i) = cs_day (ps1 S)
  · have d2 : lr_en (cs_lt (bd1 (bdTo (ps1 S) i).2 i) i) = cs_day (bdTo (ps1 S) i).2 := by rw [hen1, hdX]; exact d
    obtain ⟨q1, q2, q3⟩ := bdS1_yes d2
    have v1 : mb1 (mbTo c (mDay M) i).2 i = mEt (mbTo c (mDay M) i).2 i := by rw [mb1, if_neg hth, if_neg hte, henY, hnow, if_pos d]
    have v2 : mbc (mbTo c (mDay M) i).1 (mbTo c (mDay M) i).2 i = (mbTo c (mDay M) i).1 + 1 := by rw [mbc, if_neg hth, if_neg hte, henY, hnow, if_pos d]
    refine ⟨by rw [u2, v2, w2, if_pos d2, e, Int32.add_assoc], ?_⟩
    rw [w1, u1, v1]
    obtain ⟨k1, k2, k3⟩ := bd1_sc (bdTo (ps1 S) i).2 i
    have hLt : cs_lt (bd1 (bdTo (ps1 S) i).2 i) i = lr_set_ea (cs_lt S i) E := by rw [hsame, hXE]
    obtain ⟨r1, r2, r3, r4⟩ := rY
    have r4 := r4 h3
    have r5 := r4.2.2.2 h4
    have hcuS := h.cu hi
    have et := et_sim (X := bd1 (bdTo (ps1 S) i).2 i) (Y := (mbTo c (mDay M) i).2) (i := i)
      (by rw [hLt]; exact hcuS) (k2.trans b.2.2.1) (k3.trans b.2.2.2.1) (by rw [k1.2.2.2.1, htX, htrY]) (by rw [k1.2.2.2.2, hdX, hnow]) (by rw [k1.2.2.2.1, htX]; exact hin) (by rw [k1.2.2.2.2, hdX]; omega)
      (by rw [hLt]; exact r1) (by rw [hLt]; exact r2) (by rw [hLt]; exact h3) hth (by rw [hLt]; exact h4) (by rw [hLt]; exact r4.1) (by rw [hLt, sea_ea, hea]; exact b5.2.2.2.2.2.2.2.2.2.2.2.1.symm) (by rw [hLt]; exact r5.2.1) (by rw [hLt]; exact r5.2.2.2.1) (by rw [hLt]; exact t6) (by rw [hLt]; exact t7) (by rw [hLt, sea_ea]; omega) (by rw [hLt, sea_ea, sea_pr]; exact wb)
    obtain ⟨r, x1, x2, x3, x4, x5, x6, x7⟩ := et
    refine b.step hi (bdS1_sc _ _) x4 (q2.trans x2) (q3.trans x3) (r := r) (by rw [q1, x1, hsame]) x5 ?_ ?_ (fun q => absurd q hteN) (fun q => absurd q hbT)
    · have y := x6
      rw [k1.2.2.2.2, hdX] at y
      exact y
    · have y := x7
      rw [hLt, wP_term (r := lr_set_ea (cs_lt S i) E) h3 h4, sea_pr, sea_ea] at y
      rw [hTw]; exact y
  · have d2 : ¬ lr_en (cs_lt (bd1 (bdTo (ps1 S) i).2 i) i) = cs_day (bdTo (ps1 S) i).2 := by rw [hen1, hdX]; exact d
    obtain ⟨q1, q2, q3⟩ := bdS1_no d2
    have v1 : mb1 (mbTo c (mDay M) i).2 i = (mbTo c (mDay M) i).2 := by rw [mb1, if_neg hth, if_neg hte, henY, hnow, if_neg d]
    have v2 : mbc (mbTo c (mDay M) i).1 (mbTo c (mDay M) i).2 i = (mbTo c (mDay M) i).1 := by rw [mbc, if_neg hth, if_neg hte, henY, hnow, if_neg d]
    refine ⟨by rw [u2, v2, w2, if_neg d2]; exact e, ?_⟩
    rw [w1, u1, v1]
    refine b.step hi (bdS1_sc _ _) (scM.rf _) (q2.trans b.2.2.1) (q3.trans b.2.2.2.1) (r := lr_set_ea (cs_lt S i) E) ?_ (fun q _ => sam.rf _ q) ?_ ?_ (fun q => absurd q hteN) (fun q => absurd q hbT)
    · rw [q1, hsame, ← hXE, va_up_id]
    · rw [hea]; exact rY
    · rw [hTw, wP_term (r := lr_set_ea (cs_lt S i) E) h3 h4, sea_pr, sea_ea]
      exact Int.le_refl _
theorem bd_all (h : Rel S M) (hN : Noted S M) (hd : (cs_day S).toInt < 3000) (c : Int32) : ∀ i, i ≤ cs_n S → (mbTo c (mDay M) i).1 = c + (bdTo (ps1 S) i).1 ∧ BDs (ps1 S) (mDay M) (bdTo (ps1 S) i).2 (mbTo c (mDay M) i).2 i
  | 0, _ => ⟨by show c = c + 0; rw [Int32.add_zero], BDs.zero h⟩
  | i + 1, hi => by
    obtain ⟨e, b⟩ := bd_all h hN hd c i (by omega)
    by_cases h3 : lr_pr (cs_lt S i) ≤ 0
    · exact bd_dead h c (by omega) h3 e b
    · by_cases h4 : bT (cs_lt S i) = 0
      · exact bd_note h hN hd c (by omega) h3 h4 e b
      · exact bd_term h hd c (by omega) h3 h4 e b
theorem day_sim (h : Rel S M) (hN : Noted S M) (hd : (cs_day S).toInt < 3000) (c : Int32) : (mbTo c (mDay M) (ms_n M)).1 = c + (bdTo (ps1 S) (cs_n (ps1 S))).1 ∧ Rel (bdTo (ps1 S) (cs_n (ps1 S))).2 (mbTo c (mDay M) (ms_n M)).2 ∧ Noted (bdTo (ps1 S) (cs_n (ps1 S))).2 (mbTo c (mDay M) (ms_n M)).2 ∧ (cs_day (bdTo (ps1 S) (cs_n (ps1 S))).2).toInt = (cs_day S).toInt + 1 := by
  have hnT : cs_n (ps1 S) = cs_n S := rfl
  obtain ⟨e, b⟩ := bd_all h hN hd c (cs_n S) (Nat.le_refl _)
  rw [hnT, ← h.n]
  obtain ⟨dg1, dg2, dg3, dg4⟩ := day_grow h hd
  have o := mDay_o M
  have p := ps1_o S
  obtain ⟨k1, k2, k3, k4, k5, k6, k7, k8, k9, k10, k11, k12, k13, k14, k15⟩ := h
  have h : Rel S M := ⟨k1, k2, k3, k4, k5, k6, k7, k8, k9, k10, k11, k12, k13, k14, k15⟩
  generalize (bdTo (ps1 S) (cs_n S)).2 = X at *
  generalize (mbTo c (mDay M) (cs_n S)).2 = Y at *
  obtain ⟨b1, b2, b3, b4, b5, b6, b7, b8, b9⟩ := b
  have hnX : cs_n X = cs_n S := b1.1.1
  have hdX : cs_day X = cs_day (ps1 S) := b1.2.2.2.2
  refine ⟨e, ⟨(p.1.tr b1.1).ok k1, ?_, ?_, ?_, b3, b4, ?_, ?_, ?_, ?_, ?_, ?_, ?_, ?_, ?_, ?_⟩, ?_, by rw [hdX]; exact dg2⟩
  · unfold okM
    rw [b2.1, b2.2.2.2.2.2.1, o.1, o.2.2.2.2.1]; exact k2
  · rw [hnX, b2.1, o.1]; exact k3
  · rw [b1.2.1, p.2.1, b2.2.1, o.2.1]; exact k4
  · rw [b1.2.2.1, p.2.2.1, b2.2.2.1, o.2.2.1]; exact k7
  · rw [b1.2.2.2.1, p.2.2.2.1, b2.2.2.2.1, o.2.2.2.1]; exact k8
  · rw [hdX, b2.2.2.2.2.1, ps1_day, mDay_now, k9]
  · rw [b1.2.2.1, p.2.2.1]; exact k10
  · rw [b1.2.1, p.2.1]; exact k11
  · rw [b1.2.2.2.1, p.2.2.2.1]; exact k12
  · rw [hdX]; omega
  · intro j hj
    rw [hnX] at hj
    show relL (cs_lt X j) (cs_day X) _ _ _ _ _ _ _ _ _ _ _ _
    rw [hdX]
    exact b6 j hj
  · rw [hnX, hdX]
    exact Int.le_trans (Int.mul_le_mul_of_nonneg_right b7 (pw _).1) dg1
  · have q := b1.1.2.2.1
    rw [q, hnX]; exact k15.2
  · intro j hj h3 h4
    rw [hnX] at hj
    have r6 := b6 j hj
    have hteY : ms_te Y j = 0 := r6.2.1.symm.trans h4
    have hteN : ms_te (mDay M) j = 0 := by rw [← b2.2.2.2.2.2.2]; exact hteY
    have hteM : ms_te M j = 0 := by rw [← o.2.2.2.2.2.1]; exact hteN
    have hbS : bT (cs_lt S j) = 0 := (k14 j hj).2.1.trans hteM
    have h8 := b8 j hj hteN
    have hthY : ¬ ms_th Y j = 0 := fun q => h3 (r6.2.2.1.mpr q)
    have hthM : ¬ ms_th M j = 0 := by rw [← o.2.2.2.2.2.2.1, ← h8.1]; exact hthY
    have h3S : ¬ lr_pr (cs_lt S j) ≤ 0 := fun q => hthM ((k14 j hj).2.2.1.mp q)
    have hT := t_live h hj h3S
    have hP : mPn Y j = mPn M j := by
      refine mPn_c ⟨by rw [b2.1, o.1], by rw [b2.2.1, o.2.1], by rw [b2.2.2.1, o.2.2.1], by rw [b2.2.2.2.2.2.1, o.2.2.2.2.1], by rw [b2.2.2.2.2.2.2, o.2.2.2.2.2.1]⟩ (fun q hq hz => ?_) (by rw [← k3]; exact hj) hteM
      have z := b8 q (by show q < cs_n S; omega) (by rw [o.2.2.2.2.2.1]; exact hz)
      rw [z.1, z.2, o.2.2.2.2.2.2.1, o.2.2.2.2.2.2.2.1]
      exact ⟨rfl, rfl⟩
    rw [b9 j hj (by rw [hT, eaR_bT]; exact hbS), hT, eaR_pa, hP]
    exact hN j hj h3S hbS
theorem days_sim (h : Rel S M) (hN : Noted S M) : ∀ t : Nat, (cs_day S).toInt + t ≤ 3000 → (mdTo M t).1 = (psTo S t).1 ∧ Rel (psTo S t).2 (mdTo M t).2 ∧ Noted (psTo S t).2 (mdTo M t).2 ∧ (cs_day (psTo S t).2).toInt = (cs_day S).toInt + t
  | 0, _ => ⟨rfl, h, hN, by show (cs_day S).toInt = _; omega⟩
  | t + 1, ht => by
    obtain ⟨a1, a2, a3, a4⟩ := days_sim h hN t (by omega)
    obtain ⟨c1, c2, c3, c4⟩ := day_sim a2 a3 (by omega) (mdTo M t).1
    refine ⟨?_, c2, c3, by rw [show ((t + 1 : Nat) : Int) = (t : Int) + 1 from rfl, ← Int.add_assoc, ← a4]; exact c4⟩
    rw [show (mdTo M (t + 1)).1 = (mbTo (mdTo M t).1 (mDay (mdTo M t).2) (ms_n (mdTo M t).2)).1 from rfl, c1, a1]
    rfl
theorem sim_pass (h : Rel S M) (d : Int32) : Sim (psC S d) (plAS (psC S d)) (kPs M d) (Int32.toInt64 (psTo (ntTo S 4) (Int32.toNatClampNeg d)).1) (Int32.toInt64 (mdTo (mT0 M) (Int32.toNatClampNeg d)).1) (psTo (ntTo S 4) (Int32.toNatClampNeg d)).2 (mdTo (mT0 M) (Int32.toNatClampNeg d)).2 := by
  have hday : cs_day S = ms_now M := h.2.2.2.2.2.2.2.2.1
  have hd0 := h.2.2.2.2.2.2.2.2.2.2.2.2.1
  rcases @demR_or d 1 100 with ⟨a1, a2⟩ | ⟨a1, a2⟩
  · by_cases c : cs_day S + d ≤ 3000
    · have c2 : ms_now M + d ≤ 3000 := by rw [← hday]; exact c
      obtain ⟨e1, e2⟩ := demR_nI a1
      have hdn : d.toInt = (d.toNatClampNeg : Int) := by
        have := nI_toInt (n := d.toNatClampNeg) (by omega)
        rw [← e1] at this
        exact this
      have c3 : (cs_day S).toInt + (d.toNatClampNeg : Int) ≤ 3000 := by
        rw [i_le, i_add (by omega) (by omega), show (3000 : Int32).toInt = 3000 from rfl] at c
        omega
      have hd4 : ∀ i, cs_day (ntTo S i) = cs_day S := fun i => by
        induction i with
        | zero => rfl
        | succ i ih => exact ih
      obtain ⟨q1, q2, q3, q4⟩ := days_sim (S := ntTo S 4) (M := mT0 M) ((nt_rel h 4).thr 0) (nt4 h) d.toNatClampNeg (by rw [hd4]; exact c3)
      exact Or.inl ⟨by rw [psC, if_pos a1, if_pos c], by rw [kPs, if_neg a2, if_pos c2], by rw [q1], q2⟩
    · have c2 : ¬ ms_now M + d ≤ 3000 := by rw [← hday]; exact c
      exact Or.inr ⟨by rw [psC, if_pos a1, if_neg c]; decide, by rw [kPs, if_neg a2, if_neg c2]; decide, by rw [psC, if_pos a1, if_neg c, kPs, if_neg a2, if_neg c2]; rfl⟩
  · have g : ¬ demR d 1 100 = 0 := by rw [a1]; decide
    exact Or.inr ⟨by rw [psC, if_neg g]; decide, by rw [kPs, if_pos a2]; decide, by rw [psC, if_neg g, kPs, if_pos a2]; rfl⟩
end TSTEP
