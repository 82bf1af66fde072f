section RL
variable {r : LR} {e : Int64} {day day2 th te ow pr fz nd le en ins bg : Int32} {ea tp : Int64}
theorem relL_ne (g : relL r day th te ow pr fz nd le en ins bg ea tp) (h3 : ¬ lr_pr r ≤ 0) (h4 : bT r = 0) (he : 0 ≤ e.toInt ∧ e.toInt ≤ 20000000000 * day2.toInt) (hdd : day.toInt ≤ day2.toInt) (hd : lr_fz r = 0 ∨ day2.toInt ≤ nd.toInt + 38) : relL (lr_set_ea r e) day2 th te ow pr fz nd le en ins bg e tp := by
  obtain ⟨g1, g2, g3, g4⟩ := g
  obtain ⟨a1, a2, a3, a4⟩ := g4 h3
  obtain ⟨b1, b2, n1, n2, n3, n4, n5, n6, n7⟩ := a3 h4
  refine ⟨g1, g2, g3, fun _ => ⟨a1, rfl, fun _ => ⟨b1, b2, n1, n2, n3, n4, n5, ?_, he⟩, fun k => absurd h4 k⟩⟩
  by_cases c : lr_fz r = 0
  · exact Or.inl c
  · obtain ⟨m1, m2, m3, m4⟩ := n6.resolve_left c
    have m5 := hd.resolve_left c
    exact Or.inr ⟨m1, m2, by omega, m5⟩
theorem relL_nf (g : relL r day th te ow pr fz nd le en ins bg ea tp) (h3 : ¬ lr_pr r ≤ 0) (h4 : bT r = 0) : relL (lr_set_fz r 0) day th te ow pr 0 nd le en ins bg ea tp := by
  obtain ⟨g1, g2, g3, g4⟩ := g
  obtain ⟨a1, a2, a3, a4⟩ := g4 h3
  obtain ⟨b1, b2, n1, n2, n3, n4, n5, n6, n7⟩ := a3 h4
  have a := alive_b h3
  exact ⟨g1, g2, g3, fun _ => ⟨a1, a2, fun _ => ⟨rfl, b2, n1, n2, n3, Int.le_refl _, (by show (0 : Int32).toInt ≤ (lr_pr r).toInt; rw [i_0]; omega), Or.inl rfl, n7⟩, fun k => absurd h4 k⟩⟩
theorem relL_te (g : relL r day th te ow pr fz nd le en ins bg ea tp) (h3 : ¬ lr_pr r ≤ 0) (h4 : ¬ bT r = 0) (he : 0 ≤ e.toInt) (hdd : day.toInt ≤ day2.toInt) : relL (lr_set_ea r e) day2 th te ow pr fz nd le en ins bg e tp := by
  obtain ⟨g1, g2, g3, g4⟩ := g
  obtain ⟨a1, a2, a3, a4⟩ := g4 h3
  obtain ⟨t1, t2, t3, t4, t5, t6, t7, t8, t9, t10, t11⟩ := a4 h4
  refine ⟨g1, g2, g3, fun _ => ⟨a1, rfl, fun k => absurd k h4, fun _ => ⟨t1, t2, t3, t4, t5, t6, t7, ?_, t9, t10, he⟩⟩⟩
  rcases t8 with k | k
  · exact Or.inl k
  · exact Or.inr ⟨k.1, by show (lr_rn r).toInt ≤ _; omega⟩
theorem sea_en (r : LR) (v : Int64) : lr_en (lr_set_ea r v) = lr_en r := rfl
theorem sea_tf (r : LR) (v : Int64) : lr_tf (lr_set_ea r v) = lr_tf r := rfl
theorem sfz_en (r : LR) (v : Int32) : lr_en (lr_set_fz r v) = lr_en r := rfl
theorem sfz_pa (r : LR) (v : Int32) : lr_pa (lr_set_fz r v) = lr_pa r := rfl
theorem sfz_td (r : LR) (v : Int32) : lr_td (lr_set_fz r v) = lr_td r := rfl
theorem eaR_en (r : LR) : lr_en (eaR r) = lr_en r := sea_en r _
theorem eaR_tf (r : LR) : lr_tf (eaR r) = lr_tf r := sea_tf r _
theorem eaR_fz (r : LR) : lr_fz (eaR r) = lr_fz r := sea_fz r _
theorem eaR_ins (r : LR) : lr_ins (eaR r) = lr_ins r := sea_ins r _
theorem eaR_td (r : LR) : lr_td (eaR r) = lr_td r := sea_td r _
theorem sfz_comm (r : LR) (v : Int64) (x : Int32) : lr_set_fz (lr_set_ea r v) x = lr_set_ea (lr_set_fz r x) v := rfl
end RL
section STEP
variable {S : CS} {M : MS}
theorem bd_en (X : CS) (i : Nat) : lr_en (cs_lt (bd1 X i) i) = lr_en (cs_lt X i) := by
  rw [bd1_lt]
  split
  · rfl
  · rw [va_up_self, sfz_en]
theorem bd_note (h : Rel S M) (hN : Noted S M) (hd : (cs_day S).toInt < 3000) (c : Int32) {i : Nat} (hi : i < cs_n S) (h3 : ¬ lr_pr (cs_lt S i) ≤ 0) (h4 : bT (cs_lt S i) = 0) (e : (mbTo c (mDay M) i).1 = c + (bdTo (ps1 S) i).1) (b : BDs (ps1 S) (mDay M) (bdTo (ps1 S) i).2 (mbTo c (mDay M) i).2 i) : (mbTo c (mDay M) (i + 1)).1 = c + (bdTo (ps1 S) (i + 1)).1 ∧ BDs (ps1 S) (mDay M) (bdTo (ps1 S) (i + 1)).2 (mbTo c (mDay M) (i + 1)).2 (i + 1) := by
  have hn := h.le
  have g := h.lot hi
  have ga := g.2.2.2 h3
  obtain ⟨gb1, gb2, n1, n2, n3, n4, n5, n6, n7, n8⟩ := ga.2.2.1 h4
  have o := mDay_o M
  have b5 := b.2.2.2.2.1 i (Nat.le_refl i)
  have hT := t_live h hi h3
  have hX : cs_lt (bdTo (ps1 S) i).2 i = eaR (cs_lt S i) := b5.1.trans hT
  have hnX : cs_n (bdTo (ps1 S) i).2 = cs_n S := b.1.1.1
  have hdX : cs_day (bdTo (ps1 S) i).2 = cs_day (ps1 S) := b.1.2.2.2.2
  obtain ⟨-, dg, -, -⟩ := day_grow h hd
  have hd0 := h.2.2.2.2.2.2.2.2.2.2.2.2.1
  have hday : cs_day S = ms_now M := h.2.2.2.2.2.2.2.2.1
  have hx := (xAt_at (X := (bdTo (ps1 S) i).2) (i := i) (by omega) (by rw [hnX]; exact hi)).1 (by rw [hX, eaR_pr]; exact h3)
  have hthM : ¬ ms_th M i = 0 := fun q => h3 (g.2.2.1.mpr q)
  have hth : ¬ ms_th (mbTo c (mDay M) i).2 i = 0 := by
    rw [b5.2.1, o.2.2.2.2.2.2.1]; exact hthM
  have hte : ms_te (mbTo c (mDay M) i).2 i = 0 := by
    rw [b5.2.2.1, o.2.2.2.2.2.1]; exact g.2.1.symm.trans h4
  have hfzY : ms_fz (mbTo c (mDay M) i).2 i = lr_fz (cs_lt S i) := by
    rw [b5.2.2.2.2.2.1, o.2.2.2.2.2.2.2.2.1]; exact gb1.symm
  have hndY : ms_nd (mbTo c (mDay M) i).2 i = ms_nd M i := by
    rw [b5.2.2.2.2.2.2.1, o.2.2.2.2.2.2.2.2.2.1]
  have hnow : ms_now (mbTo c (mDay M) i).2 = cs_day (ps1 S) := by
    rw [b.2.1.2.2.2.2.1, mDay_now, ps1_day, hday]
  obtain ⟨u1, u2⟩ := mbTo_s c (mDay M) i
  obtain ⟨w1, w2⟩ := bdTo_some hx
  have hen : ¬ lr_en (cs_lt (bd1 (bdTo (ps1 S) i).2 i) i) = cs_day (bdTo (ps1 S) i).2 := by
    rw [bd_en, hX, eaR_en, n1, hdX]
    exact no_eq_day (by omega)
  have v2 : mbc (mbTo c (mDay M) i).1 (mbTo c (mDay M) i).2 i = (mbTo c (mDay M) i).1 := by rw [mbc, if_neg hth, if_pos hte]
  have hpa : lr_pa (cs_lt S i) = mPn M i := hN i hi h3 h4
  have pb := mPn_b h hi h3 h4
  rw [← hpa, ← ga.1] at pb
  have hea : lr_ea (cs_lt S i) + lr_pa (cs_lt S i) = ms_ea (mDay M) i := by
    rw [m_live (by rw [← h.n]; exact hi) hthM, ← hpa, ga.2.1]
  have heb : (lr_ea (cs_lt S i) + lr_pa (cs_lt S i)).toInt = (lr_ea (cs_lt S i)).toInt + (lr_pa (cs_lt S i)).toInt := j_add (by omega) (by omega)
  obtain ⟨q1, q2, q3⟩ := bdS1_no hen
  refine ⟨by rw [u2, v2, w2, if_neg hen]; exact e, ?_⟩
  rw [w1, u1]
  have g' : relL (cs_lt S i) (cs_day S) (ms_th (mDay M) i) (ms_te (mDay M) i) (ms_ow (mDay M) i) (ms_pr (mDay M) i) (ms_fz (mDay M) i) (ms_nd (mDay M) i) (ms_le (mDay M) i) (ms_en (mDay M) i) (ms_ins (mDay M) i) (ms_bg (mDay M) i) (ms_ea M i) (ms_tp (mDay M) i) := g
  have hw0 : ∀ x, wP (lr_set_ea (lr_set_fz (cs_lt S i) x) (lr_ea (cs_lt S i) + lr_pa (cs_lt S i))) = 0 := fun x => wP_note (by rw [sea_bT]; exact h4)
  have hwT : 0 ≤ wP (cs_lt (ps1 S) i) := (earn_w h hi).1
  have ndM : ms_nd (mDay M) i = ms_nd M i := by rw [o.2.2.2.2.2.2.2.2.2.1]
  generalize hE : lr_ea (cs_lt S i) + lr_pa (cs_lt S i) = E at *
  have hXE : cs_lt (bdTo (ps1 S) i).2 i = lr_set_ea (cs_lt S i) E := by rw [hX, eaR, hE]
  have same : lr_fz (cs_lt S i) = 0 ∨ (cs_day (ps1 S)).toInt ≤ (ms_nd M i).toInt + 38 → cs_lt (bd1 (bdTo (ps1 S) i).2 i) = cs_lt (bdTo (ps1 S) i).2 → mb1 (mbTo c (mDay M) i).2 i = (mbTo c (mDay M) i).2 → BDs (ps1 S) (mDay M) (bdS1 (bdTo (ps1 S) i).2 i) (mb1 (mbTo c (mDay M) i).2 i) (i + 1) := fun z1 z2 z3 => by
    rw [z3]
    have rr := relL_ne (e := E) (day2 := cs_day (ps1 S)) g' h3 h4 (by omega) (by omega) (by rw [ndM]; exact z1)
    rw [hea] at rr
    refine b.step hi (bdS1_sc _ _) (scM.rf _) (q2.trans b.2.2.1) (q3.trans b.2.2.2.1) (r := lr_set_ea (cs_lt S i) E) ?_ (fun q _ => sam.rf _ q) ?_ ?_ ?_ ?_
    · rw [q1, z2, ← hXE, va_up_id]
    · rw [hea]; exact b5.2.rel rr
    · rw [wP_note (by rw [sea_bT]; exact h4)]; exact hwT
    · intro _; exact ⟨b5.2.1, b5.2.2.2.2.1⟩
    · intro _; rw [hT, eaR, hE]
  by_cases f : lr_fz (cs_lt S i) = 0
  · refine same (Or.inl f) (bd1_same (by rw [hX, eaR_fz]; exact f)) ?_
    rw [mb1, if_neg hth, if_pos hte, hfzY, f, if_pos (by decide)]
  · obtain ⟨m1, m2, m3, m4⟩ := n6.resolve_left f
    have hfp : ¬ lr_fz (cs_lt S i) ≤ 0 := by
      intro q
      rw [i_le, i_0] at q
      exact f (i_eq0.mpr (by omega))
    have t32 : (32 : Int32).toInt = 32 := rfl
    have t7 : (7 : Int32).toInt = 7 := rfl
    have k1 : (ms_nd M i + 32).toInt = (ms_nd M i).toInt + 32 := by rw [i_add (by omega) (by omega), t32]
    have k2 : (ms_nd M i + 32 + 7).toInt = (ms_nd M i).toInt + 39 := by rw [i_add (by omega) (by omega), k1, t7]; omega
    by_cases d : cs_day (ps1 S) < ms_nd M i + 32 + 7
    · have d' := d
      rw [i_lt, k2] at d'
      have d2 : ¬ cs_day (ps1 S) = ms_nd M i + 32 + 7 := fun q => by rw [q, k2] at d'; omega
      refine same (Or.inr (by omega)) ?_ ?_
      · rw [bd1_lt, hdX, hX, eaR_tf, m1, if_pos d]
      · rw [mb1, if_neg hth, if_pos hte, hfzY, if_neg hfp, hnow, hndY, if_neg d2]
    · have d' := d
      rw [i_lt, k2] at d'
      have d2 : cs_day (ps1 S) = ms_nd M i + 32 + 7 := Int32.toInt_inj.mp (by rw [k2]; omega)
      have z3 : mb1 (mbTo c (mDay M) i).2 i = ms_set_fz (mbTo c (mDay M) i).2 (upd (ms_fz (mbTo c (mDay M) i).2) i 0) := by
        rw [mb1, if_neg hth, if_pos hte, hfzY, if_neg hfp, hnow, hndY, if_pos d2]
      rw [z3]
      have rr := relL_ne (e := E) (day2 := cs_day (ps1 S)) (relL_nf g' h3 h4) h3 h4 (by omega) (by omega) (Or.inl rfl)
      rw [hea] at rr
      obtain ⟨s1, s2, s3, s4, s5, s6, s7, s8, s9, s10, s11, s12⟩ := b5.2
      refine b.step hi (bdS1_sc _ _) ⟨rfl, rfl, rfl, rfl, rfl, rfl, rfl⟩ (q2.trans b.2.2.1) (q3.trans b.2.2.2.1) (r := lr_set_ea (lr_set_fz (cs_lt S i) 0) E) ?_ (fun q hq => ⟨rfl, rfl, rfl, rfl, upd_ne hq, rfl, rfl, rfl, rfl, rfl, rfl, rfl⟩) ?_ ?_ ?_ ?_
      · rw [q1, bd1_lt, hdX, hXE, sea_tf, m1, if_neg d, sfz_comm]
      · show relL _ _ (ms_th (mbTo c (mDay M) i).2 i) (ms_te (mbTo c (mDay M) i).2 i) (ms_ow (mbTo c (mDay M) i).2 i) (ms_pr (mbTo c (mDay M) i).2 i) (upd (ms_fz (mbTo c (mDay M) i).2) i 0 i) (ms_nd (mbTo c (mDay M) i).2 i) (ms_le (mbTo c (mDay M) i).2 i) (ms_en (mbTo c (mDay M) i).2 i) (ms_ins (mbTo c (mDay M) i).2 i) (ms_bg (mbTo c (mDay M) i).2 i) (ms_ea (mbTo c (mDay M) i).2 i) (ms_tp (mbTo c (mDay M) i).2 i)
        rw [upd_self, s1, s2, s3, s4, s6, s7, s8, s9, s10, s11, s12, hea]
        exact rr
      · rw [hw0]; exact hwT
      · intro _; exact ⟨s1, s4⟩
      · intro _; rw [hT, eaR, hE]
end STEP
