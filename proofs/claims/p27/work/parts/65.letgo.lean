section LETGO
variable {S : CS} {M : MS}
theorem z_div : (0 : Int64) / 3650000 = 0 := by decide
theorem drw_0 (r : LR) : drwC (lr_set_ea r 0) = 0 := by
  obtain ⟨r1, r2, r3, r4, r5, r6, r7, r8, r9, r10⟩ := r
  show Int64.toInt32 (0 / 3650000) = 0
  rw [z_div]; rfl
theorem rem_0 (r : LR) : remR (lr_set_ea r 0) = 0 := by
  obtain ⟨r1, r2, r3, r4, r5, r6, r7, r8, r9, r10⟩ := r
  show (0 : Int64) - 0 / 3650000 * 3650000 = 0
  rw [z_div, Int64.zero_mul]; rfl
theorem lg_f (S : CS) (z : Int32) (h : vp_in (lr_cu (cs_lt S z.toNatClampNeg)) 4) : cs_lt (lgS S z) = va_up (cs_lt S) z.toNatClampNeg (dieR (lr_set_ea (cs_lt S z.toNatClampNeg) 0) (lr_pr (cs_lt S z.toNatClampNeg))) ∧ cs_paid (lgS S z) = vp_updL (cs_paid S) (lr_cu (cs_lt S z.toNatClampNeg)).toNatClampNeg (cs_paid S (lr_cu (cs_lt S z.toNatClampNeg)).toNatClampNeg + Int32.toInt64 (lr_pr (cs_lt S z.toNatClampNeg))) ∧ cs_lost (lgS S z) = vp_updL (cs_lost S) (lr_cu (cs_lt S z.toNatClampNeg)).toNatClampNeg (cs_lost S (lr_cu (cs_lt S z.toNatClampNeg)).toNatClampNeg + lr_ea (cs_lt S z.toNatClampNeg)) ∧ lgV S z = lr_pr (cs_lt S z.toNatClampNeg) ∧ scS S (lgS S z) := by
  generalize hk : z.toNatClampNeg = k at *
  have e1 : cs_lt (lg1 S z) = va_up (cs_lt S) k (lr_set_ea (cs_lt S k) 0) := by
    rw [lg1, hk, los_lt, Int64.sub_self]
  have e2 : cs_lt (lg1 S z) k = lr_set_ea (cs_lt S k) 0 := by rw [e1, va_up_self]
  have e3 : cs_paid (lg1 S z) = cs_paid S := rfl
  have e4 : cs_lost (lg1 S z) = vp_updL (cs_lost S) (lr_cu (cs_lt S k)).toNatClampNeg (cs_lost S (lr_cu (cs_lt S k)).toNatClampNeg + lr_ea (cs_lt S k)) := by rw [lg1, hk, los_lost h]
  have hc : vp_in (lr_cu (cs_lt (lg1 S z) k)) 4 := by rw [e2]; exact h
  have hp : lr_pr (cs_lt (lg1 S z) k) - lr_pr (cs_lt (lg1 S z) k) ≤ 0 := by rw [Int32.sub_self]; decide
  obtain ⟨u1, u2, u3, u4⟩ := po_dead hc hp
  have e5 : scS S (lg1 S z) := ⟨⟨rfl, rfl, rfl, rfl⟩, rfl, rfl, rfl, rfl⟩
  refine ⟨?_, ?_, ?_, ?_, ?_⟩
  · rw [lgS, hk, u1, e2, e1, va_up_two]
  · rw [lgS, hk, u2, e2, e3, drw_0]
    show vp_updL (cs_paid S) (lr_cu (cs_lt S k)).toNatClampNeg (cs_paid S (lr_cu (cs_lt S k)).toNatClampNeg + Int32.toInt64 (lr_pr (cs_lt S k)) + Int32.toInt64 0) = _
    rw [show Int32.toInt64 0 = 0 from rfl, Int64.add_zero]
  · rw [lgS, hk, u3, e2, e4, rem_0]
    show vp_updL (vp_updL (cs_lost S) (lr_cu (cs_lt S k)).toNatClampNeg _) (lr_cu (cs_lt S k)).toNatClampNeg (vp_updL (cs_lost S) (lr_cu (cs_lt S k)).toNatClampNeg _ (lr_cu (cs_lt S k)).toNatClampNeg + 0) = _
    rw [Int64.add_zero, updL_self, updL_two]
  · rw [lgV, hk, u4, e2, drw_0, Int32.add_zero]
  · rw [lgS]; exact e5.tr sc_poS
theorem mLg_f (M : MS) (j : Nat) : ms_paid (mLg M j) = vp_updL (ms_paid M) (ms_ow M j).toNatClampNeg (ms_paid M (ms_ow M j).toNatClampNeg + Int32.toInt64 (ms_pr M j)) ∧ ms_lost (mLg M j) = vp_updL (ms_lost M) (ms_ow M j).toNatClampNeg (ms_lost M (ms_ow M j).toNatClampNeg + ms_ea M j) ∧ scM M (mLg M j) ∧ (∀ q, q ≠ j → sam M (mLg M j) q) ∧ ms_th (mLg M j) j = 0 := by
  refine ⟨rfl, rfl, ⟨rfl, rfl, rfl, rfl, rfl, rfl, rfl⟩, fun q hq => ⟨upd_ne hq, rfl, rfl, rfl, rfl, rfl, rfl, rfl, rfl, rfl, rfl, rfl⟩, ?_⟩
  show upd (ms_th M) j (0 &&& 1) j = 0
  rw [upd_self]; rfl
theorem sim_letGo (h : Rel S M) (z : Int32) : Sim (lgC S z) (plIS (lgC S z)) (kLg M z) (Int32.toInt64 (lgV S z)) (Int32.toInt64 (ms_pr M (Int32.toNatClampNeg z))) (lgS S z) (mLg (mT0 M) (Int32.toNatClampNeg z)) := by
  rcases lot_or h z with ⟨h1, h2, h3, h4, h5, h6⟩ | ⟨h1, h2, h3⟩
  · have g := h.lot h4
    have ga := g.2.2.2 h5
    have hday : cs_day S = ms_now M := h.2.2.2.2.2.2.2.2.1
    have hd := h.2.2.2.2.2.2.2.2.2.2.2.2.1
    by_cases c : bT (cs_lt S z.toNatClampNeg) = 0
    · have hte : ms_te M z.toNatClampNeg = 0 := g.2.1.symm.trans c
      have hrn : lr_rn (cs_lt S z.toNatClampNeg) = -1 := (ga.2.2.1 c).2.2.2.1
      exact Or.inr ⟨by rw [lgC, if_pos h1, if_pos hrn]; decide, by rw [kLg, if_neg h3, if_pos hte]; decide, by rw [lgC, if_pos h1, if_pos hrn, kLg, if_neg h3, if_pos hte]; rfl⟩
    · have hte : ¬ ms_te M z.toNatClampNeg = 0 := fun q => c (g.2.1.trans q)
      obtain ⟨t1, t2, t3, t4, t5, t6, t7, t8, t9, t10, t11⟩ := ga.2.2.2 c
      by_cases d : lr_rn (cs_lt S z.toNatClampNeg) = -1
      · have d2 : ms_bg M z.toNatClampNeg = -1 := t5.symm.trans d
        exact Or.inr ⟨by rw [lgC, if_pos h1, if_pos d]; decide, by rw [kLg, if_neg h3, if_neg hte, if_pos d2]; decide, by rw [lgC, if_pos h1, if_pos d, kLg, if_neg h3, if_neg hte, if_pos d2]; rfl⟩
      · have d2 : ¬ ms_bg M z.toNatClampNeg = -1 := fun q => d (t5.trans q)
        have t8 := t8.resolve_left d
        have e7 : (7 : Int32).toInt = 7 := rfl
        have e6 : (6 : Int32).toInt = 6 := rfl
        have s1 := i_sub (x := cs_day S) (y := lr_rn (cs_lt S z.toNatClampNeg)) (by omega) (by omega)
        have s2 := i_sub (x := cs_day S) (y := 6) (by omega) (by omega)
        by_cases f : cs_day S - lr_rn (cs_lt S z.toNatClampNeg) < 7
        · have f2 : ms_now M - 6 ≤ ms_bg M z.toNatClampNeg := by
            rw [← t5, ← hday]
            rw [i_lt] at f
            rw [i_le]
            omega
          have hcu := h.cu h4
          obtain ⟨u1, u2, u3, u4, u5⟩ := lg_f S z hcu
          obtain ⟨m1, m2, m3, m4, m5⟩ := mLg_f (mT0 M) z.toNatClampNeg
          have hpd : cs_paid S = ms_paid M := h.2.2.2.2.1
          have hls : cs_lost S = ms_lost M := h.2.2.2.2.2.1
          refine Or.inl ⟨by rw [lgC, if_pos h1, if_neg d, if_pos f], by rw [kLg, if_neg h3, if_neg hte, if_neg d2, if_pos f2], by rw [u4, ga.1], ?_⟩
          have hz : lr_pr (dieR (lr_set_ea (cs_lt S z.toNatClampNeg) 0) (lr_pr (cs_lt S z.toNatClampNeg))) ≤ 0 := by
            rw [die_pr, Int32.sub_self]; decide
          refine Rel.chg1 h h4 u5 m3 ?_ ?_ u1 m4 (relL_dead ((die_cu _ _).trans g.1) ((die_bT _ _).trans g.2.1) hz m5) ?_
          · rw [u2, m1]
            show _ = vp_updL (ms_paid M) (ms_ow M z.toNatClampNeg).toNatClampNeg (ms_paid M (ms_ow M z.toNatClampNeg).toNatClampNeg + Int32.toInt64 (ms_pr M z.toNatClampNeg))
            rw [hpd, g.1, ga.1]
          · rw [u3, m2]
            show _ = vp_updL (ms_lost M) (ms_ow M z.toNatClampNeg).toNatClampNeg (ms_lost M (ms_ow M z.toNatClampNeg).toNatClampNeg + ms_ea M z.toNatClampNeg)
            rw [hls, g.1, ga.2.1]
          · rw [wP_dead hz]; exact wP_pos h h4
        · have f2 : ¬ ms_now M - 6 ≤ ms_bg M z.toNatClampNeg := by
            rw [← t5, ← hday]
            rw [i_lt] at f
            rw [i_le]
            omega
          exact Or.inr ⟨by rw [lgC, if_pos h1, if_neg d, if_neg f]; decide, by rw [kLg, if_neg h3, if_neg hte, if_neg d2, if_neg f2]; decide, by rw [lgC, if_pos h1, if_neg d, if_neg f, kLg, if_neg h3, if_neg hte, if_neg d2, if_neg f2]; rfl⟩
  · have d : ¬ lotC S z = 0 := by rw [h1]; decide
    exact Or.inr ⟨by rw [lgC, if_neg d]; decide, by rw [kLg, if_pos h3]; decide, by rw [lgC, if_neg d, kLg, if_pos h3]; rfl⟩
end LETGO
