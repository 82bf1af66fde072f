section ES
variable {X : CS} {j : Nat} {part : Int32} {l : Int64}
theorem los_sc : scS X (los X j l) := ⟨⟨rfl, rfl, rfl, rfl⟩, rfl, rfl, rfl, rfl⟩
theorem es_dead (h : vp_in (lr_cu (cs_lt X j)) 4) (hc : lr_pr (cs_lt X j) - part ≤ 0) : cs_lt (poS (los X j l) j part) = va_up (cs_lt X) j (dieR (lr_set_ea (cs_lt X j) (lr_ea (cs_lt X j) - l)) part) ∧ cs_paid (poS (los X j l) j part) = vp_updL (cs_paid X) (lr_cu (cs_lt X j)).toNatClampNeg (cs_paid X (lr_cu (cs_lt X j)).toNatClampNeg + Int32.toInt64 part + Int32.toInt64 (drwC (lr_set_ea (cs_lt X j) (lr_ea (cs_lt X j) - l)))) ∧ cs_lost (poS (los X j l) j part) = vp_updL (cs_lost X) (lr_cu (cs_lt X j)).toNatClampNeg (cs_lost X (lr_cu (cs_lt X j)).toNatClampNeg + l + remR (lr_set_ea (cs_lt X j) (lr_ea (cs_lt X j) - l))) ∧ poC (los X j l) j part = part + drwC (lr_set_ea (cs_lt X j) (lr_ea (cs_lt X j) - l)) ∧ scS X (poS (los X j l) j part) := by
  have a := los_at (S := X) (i := j) l
  have b := los_lt (S := X) (i := j) l
  have c := los_paid (S := X) (i := j) l
  have d := los_lost h l
  have e := los_sc (X := X) (j := j) (l := l)
  generalize los X j l = T at *
  have ec : lr_cu (cs_lt T j) = lr_cu (cs_lt X j) := by rw [a]
  have ep : lr_pr (cs_lt T j) = lr_pr (cs_lt X j) := by rw [a]
  obtain ⟨u1, u2, u3, u4⟩ := po_dead (S := T) (i := j) (c := part) (by rw [ec]; exact h) (by rw [ep]; exact hc)
  rw [u1, u2, u3, u4, a, b, c, d, va_up_two]
  refine ⟨rfl, rfl, ?_, rfl, e.tr sc_poS⟩
  show vp_updL (vp_updL (cs_lost X) (lr_cu (cs_lt X j)).toNatClampNeg _) (lr_cu (cs_lt X j)).toNatClampNeg (vp_updL (cs_lost X) (lr_cu (cs_lt X j)).toNatClampNeg _ (lr_cu (cs_lt X j)).toNatClampNeg + _) = _
  rw [updL_self, updL_two]
theorem es_live (h : vp_in (lr_cu (cs_lt X j)) 4) (hc : ¬ lr_pr (cs_lt X j) - part ≤ 0) : cs_lt (poS (los X j l) j part) = va_up (cs_lt X) j (lr_set_pr (lr_set_ea (cs_lt X j) (lr_ea (cs_lt X j) - l)) (lr_pr (cs_lt X j) - part)) ∧ cs_paid (poS (los X j l) j part) = vp_updL (cs_paid X) (lr_cu (cs_lt X j)).toNatClampNeg (cs_paid X (lr_cu (cs_lt X j)).toNatClampNeg + Int32.toInt64 part) ∧ cs_lost (poS (los X j l) j part) = vp_updL (cs_lost X) (lr_cu (cs_lt X j)).toNatClampNeg (cs_lost X (lr_cu (cs_lt X j)).toNatClampNeg + l) ∧ poC (los X j l) j part = part ∧ scS X (poS (los X j l) j part) := by
  have a := los_at (S := X) (i := j) l
  have b := los_lt (S := X) (i := j) l
  have c := los_paid (S := X) (i := j) l
  have d := los_lost h l
  have e := los_sc (X := X) (j := j) (l := l)
  generalize los X j l = T at *
  have ec : lr_cu (cs_lt T j) = lr_cu (cs_lt X j) := by rw [a]
  have ep : lr_pr (cs_lt T j) = lr_pr (cs_lt X j) := by rw [a]
  obtain ⟨u1, u2, u3, u4⟩ := po_live (S := T) (i := j) (c := part) (by rw [ec]; exact h) (by rw [ep]; exact hc)
  rw [u1, u2, u3, u4, a, b, c, d, va_up_two]
  exact ⟨rfl, rfl, rfl, rfl, e.tr sc_poS⟩
def mEl (M : MS) (cu : Int32) (j : Nat) (t : Int32) (l : Int64) : MS := me4 (me3 (me2 (me1 M j l) cu l) j t) j
theorem mE1_l (M : MS) (cu : Int32) (j : Nat) (t : Int32) : mE1 M cu j t = mEl M cu j t (meL M j t) := rfl
theorem mEl_f (M : MS) (cu : Int32) (j : Nat) (t : Int32) (l : Int64) : ms_ea (mEl M cu j t l) = vp_updL (ms_ea M) j (ms_ea M j - l) ∧ ms_lost (mEl M cu j t l) = vp_updL (ms_lost M) cu.toNatClampNeg (ms_lost M cu.toNatClampNeg + l) ∧ ms_pr (mEl M cu j t l) = upd (ms_pr M) j (ms_pr M j - t) ∧ ms_dn (mEl M cu j t l) = upd (ms_dn M) j 1 ∧ scM M (mEl M cu j t l) ∧ ms_paid (mEl M cu j t l) = ms_paid M ∧ ms_th (mEl M cu j t l) = ms_th M ∧ ms_fz (mEl M cu j t l) = ms_fz M ∧ ms_nd (mEl M cu j t l) = ms_nd M ∧ ms_le (mEl M cu j t l) = ms_le M ∧ ms_en (mEl M cu j t l) = ms_en M ∧ ms_ins (mEl M cu j t l) = ms_ins M ∧ ms_bg (mEl M cu j t l) = ms_bg M ∧ ms_tp (mEl M cu j t l) = ms_tp M ∧ ms_pah (mEl M cu j t l) = ms_pah M ∧ ms_prh (mEl M cu j t l) = ms_prh M :=
  ⟨rfl, rfl, rfl, rfl, ⟨rfl, rfl, rfl, rfl, rfl, rfl, rfl⟩, rfl, rfl, rfl, rfl, rfl, rfl, rfl, rfl, rfl, rfl, rfl⟩
theorem mEl_sam (M : MS) (cu : Int32) (j : Nat) (t : Int32) (l : Int64) {q : Nat} (hq : q ≠ j) : sam M (mEl M cu j t l) q := ⟨rfl, rfl, rfl, upd_ne hq, rfl, rfl, rfl, rfl, rfl, rfl, updL_ne hq, rfl⟩
theorem mEn_dn (M : MS) (j : Nat) : ms_dn (mEn M j) = ms_dn M ∧ ms_pah (mEn M j) = ms_pah M ∧ ms_prh (mEn M j) = ms_prh M := ⟨rfl, rfl, rfl⟩
theorem updL_id (f : Nat → Int64) (k : Nat) : vp_updL f k (f k) = f := funext fun j => by
  by_cases h : j = k
  · subst h; rw [updL_self]
  · rw [updL_ne h]
theorem upd_id (f : Nat → Int32) (k : Nat) : upd f k (f k) = f := funext fun j => by
  by_cases h : j = k
  · subst h; rw [upd_self]
  · rw [upd_ne h]
end ES
section JSTEP
variable {P0 X : CS} {Q0 Y : MS} {cu m v vm : Int32} {i k j : Nat}
/-- a lot that has all frozen is asked by the reference alone -/
theorem JJ.idle (s : JS P0 Q0 cu) (b : JJ P0 Q0 cu m v X vm Y i k) (hm : 0 < m.toInt) (hj : j < cs_n P0) (c : nL (cs_lt X j) cu) (z : ms_dn Y j = 0) (u : unf (cs_lt X j) ≤ 0) : m - meTk m Y j = m ∧ JJ P0 Q0 cu m v X (mE2c vm (mE1 Y cu j (meTk m Y j)) j) (mE2 (mE1 Y cu j (meTk m Y j)) j) (i + 1) k := by
  obtain ⟨h, hcu, hs⟩ := s
  obtain ⟨b1, b2, b3, b4, b5, b6, b7, b8, b9, b10, b11, b12, b13, b14, b15, b16, b17⟩ := b
  have e := b12 j hj z
  have g := b9 j hj
  have ga := g.2.2.2 c.1
  have gb := ga.2.2.1 c.2.1
  obtain ⟨gb1, gb2, n1, n2, n3, n4, n5, n6, n7, n8⟩ := gb
  have a1 := alive_b c.1
  have p := hs j hj (by rw [← e]; exact c)
  rw [← e] at p
  have u0 : (unf (cs_lt X j)).toInt = (lr_pr (cs_lt X j)).toInt - (lr_fz (cs_lt X j)).toInt := i_sub_le n4 n5
  have can0 : mCan Y j = 0 := by
    rw [mCan, ← ga.1, ← gb1]
    show unf (cs_lt X j) = 0
    rw [i_eq0]
    rw [i_le, i_0] at u
    omega
  have t0 : meTk m Y j = 0 := by
    rw [meTk, can0, if_neg (by rw [i_le, i_0]; omega)]
  have hea : 0 ≤ (ms_ea Y j).toInt := by rw [← ga.2.1]; exact n7
  have hpr : 1 ≤ (ms_prh Y j).toInt := by rw [b11, ← p.2.1]; exact a1
  have l0 : meL Y j 0 = 0 := meL_0 hea hpr
  rw [t0, Int32.sub_zero, mE1_l, l0]
  refine ⟨rfl, ?_⟩
  obtain ⟨f1, f2, f3, f4, f5, f6, f7, f8, f9, f10, f11, f12, f13, f14, f15, f16⟩ := mEl_f Y cu j 0 0
  rw [Int64.sub_zero, updL_id] at f1
  rw [Int64.add_zero, updL_id] at f2
  rw [Int32.sub_zero, upd_id] at f3
  generalize mEl Y cu j 0 0 = N at *
  have np : ¬ ms_pr N j = 0 := by
    rw [f3, ← ga.1, i_eq0]; omega
  rw [mE2c, if_neg np, mE2, if_neg np]
  refine ⟨b1, b2.tr f5, b3, b4, b5, b6, by rw [f6]; exact b7, by rw [f2]; exact b8, fun q hq => ?_, f15.trans b10, f16.trans b11, fun q hq hz => ?_, fun q hq hz => ?_, b14, fun _ => ?_, by omega, b17⟩
  · rw [f7, f5.2.2.2.2.2.2, f5.2.2.2.2.2.1, f3, f8, f9, f10, f11, f12, f13, f1, f14]
    exact b9 q hq
  · rw [f4] at hz
    by_cases d : q = j
    · subst d; rw [upd_self] at hz; exact absurd hz (by decide)
    · rw [upd_ne d] at hz; exact b12 q hq hz
  · rw [f4] at hz
    by_cases d : q = j
    · subst d
      exact Or.inr (Or.inr (by rw [i_le, i_0] at u; exact u))
    · rw [upd_ne d] at hz; exact b13 q hq hz
  · rw [f4, cnt_up z (by decide) _ hj, b15 hm]
end JSTEP
