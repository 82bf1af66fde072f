section WORK
theorem note_cents {x : Int64} {d : Int} (h0 : 0 ≤ x.toInt) (h1 : x.toInt ≤ 20000000000 * d) (hd : d ≤ 3000) : 0 ≤ (Int64.toInt32 (x / 3650000)).toInt ∧ (Int64.toInt32 (x / 3650000)).toInt ≤ 16438357 := by
  have e := (cents (x := x) h0 (by omega)).1
  rw [e]
  omega
variable {P0 X X2 : CS} {Q0 Y Y2 : MS} {cu m v vm part dd : Int32} {i k j : Nat} {r2 : LR}
/-- what one round must leave -/
theorem JJ.next (b : JJ P0 Q0 cu m v X vm Y i k) (hm : 0 < m.toInt) (hj : j < cs_n P0) (c : nL (cs_lt X j) cu) (z : ms_dn Y j = 0) (hk : k < 40)
    (p1 : 0 ≤ part.toInt) (p2 : part.toInt ≤ m.toInt) (d1 : 0 ≤ dd.toInt) (d2 : dd.toInt ≤ 16438357)
    (hx : scS X X2) (hy : scM Y Y2) (ht : cs_lt X2 = va_up (cs_lt X) j r2) (hs : ∀ q, q ≠ j → sam Y Y2 q)
    (hp : cs_paid X2 = vp_updL (cs_paid X) cu.toNatClampNeg (cs_paid X cu.toNatClampNeg + Int32.toInt64 part + Int32.toInt64 dd)) (hpY : ms_paid Y2 = ms_paid Y) (hl : cs_lost X2 = ms_lost Y2)
    (hr : relL r2 (cs_day P0) (ms_th Y2 j) (ms_te Y2 j) (ms_ow Y2 j) (ms_pr Y2 j) (ms_fz Y2 j) (ms_nd Y2 j) (ms_le Y2 j) (ms_en Y2 j) (ms_ins Y2 j) (ms_bg Y2 j) (ms_ea Y2 j) (ms_tp Y2 j))
    (hpah : ms_pah Y2 = ms_pah Y) (hprh : ms_prh Y2 = ms_prh Y) (hdn : ms_dn Y2 = upd (ms_dn Y) j 1)
    (hdone : m.toInt - part.toInt ≤ 0 ∨ lr_pr r2 ≤ 0 ∨ (unf r2).toInt ≤ 0) (hu : uA r2 cu = uA (cs_lt X j) cu - part.toInt) (hw : wP r2 ≤ wP (cs_lt X j)) :
    JJ P0 Q0 cu (m - part) (v + (part + dd)) X2 (vm + dd) Y2 (i + 1) (k + 1) := by
  obtain ⟨b1, b2, b3, b4, b5, b6, b7, b8, b9, b10, b11, b12, b13, b14, b15, b16, b17⟩ := b
  have s1 : (m - part).toInt = m.toInt - part.toInt := i_sub_le p1 p2
  have s2 : (part + dd).toInt = part.toInt + dd.toInt := i_add (by omega) (by omega)
  have s3 : (v + (part + dd)).toInt = v.toInt + (part.toInt + dd.toInt) := by rw [i_add (by rw [s2]; omega) (by rw [s2]; omega), s2]
  have s4 : vm.toInt = v.toInt + m.toInt := by rw [b3, i_add (by omega) (by omega)]
  have s5 : (vm + dd).toInt = v.toInt + m.toInt + dd.toInt := by rw [i_add (by omega) (by omega), s4]
  refine ⟨b1.tr hx, b2.tr hy, ?_, by omega, by omega, ?_, ?_, hl, fun q hq => ?_, hpah.trans b10, hprh.trans b11, fun q hq hz => ?_, fun q hq hz => ?_, ?_, fun hm2 => ?_, by omega, ?_⟩
  · apply Int32.toInt_inj.mp
    rw [s5, i_add (by rw [s3, s1]; omega) (by rw [s3, s1]; omega), s3, s1]
    omega
  · rw [s3, s1]
    have : ((k + 1 : Nat) : Int) = (k : Int) + 1 := rfl
    omega
  · rw [hp, b7, hpY, updL_two, updL_self, ext_add (x := v) (y := part + dd) (by rw [s2]; omega) (by rw [s2]; omega), ext_add (x := part) (y := dd) (by omega) (by omega), ← Int64.add_assoc, ← Int64.add_assoc]
  · rw [ht]
    by_cases d : q = j
    · subst d; rw [va_up_self]; exact hr
    · rw [va_up_ne _ _ d]; exact (hs q d).rel (b9 q hq)
  · rw [hdn] at hz
    rw [ht]
    by_cases d : q = j
    · subst d; rw [upd_self] at hz; exact absurd hz (by decide)
    · rw [upd_ne d] at hz; rw [va_up_ne _ _ d]; exact b12 q hq hz
  · rw [hdn] at hz
    rw [ht, s1]
    by_cases d : q = j
    · subst d; rw [va_up_self]; exact hdone
    · rw [upd_ne d] at hz
      rw [va_up_ne _ _ d]
      rcases b13 q hq hz with w | w
      · omega
      · exact Or.inr w
  · rw [ht, uS_up, if_pos hj, hu, s1]; omega
  · rw [hdn, cnt_up z (by decide) _ hj, b15 hm]
  · rw [ht, sumP_up, if_pos hj]; omega
theorem JJ.work (s : JS P0 Q0 cu) (b : JJ P0 Q0 cu m v X vm Y i k) (hm : 0 < m.toInt) (hi : i < cs_n P0) (hj : j < cs_n P0) (c : nL (cs_lt X j) cu) (z : ms_dn Y j = 0) (u : ¬ unf (cs_lt X j) ≤ 0) : meTk m Y j = erPart m (cs_lt X j) ∧ JJ P0 Q0 cu (m - erPart m (cs_lt X j)) (v + poC (er1 X j (erPart m (cs_lt X j))) j (erPart m (cs_lt X j))) (poS (er1 X j (erPart m (cs_lt X j))) j (erPart m (cs_lt X j))) (mE2c vm (mE1 Y cu j (meTk m Y j)) j) (mE2 (mE1 Y cu j (meTk m Y j)) j) (i + 1) (k + 1) := by
  obtain ⟨h, hcu, hs⟩ := s
  have bb := b
  obtain ⟨b1, b2, b3, b4, b5, b6, b7, b8, b9, b10, b11, b12, b13, b14, b15, b16, b17⟩ := b
  have hn := h.le
  have e := b12 j hj z
  have g := b9 j hj
  have ga := g.2.2.2 c.1
  obtain ⟨gb1, gb2, n1, n2, n3, n4, n5, n6, n7, n8⟩ := ga.2.2.1 c.2.1
  have a1 := alive_b c.1
  have p := hs j hj (by rw [← e]; exact c)
  rw [← e, ← b10, ← b11] at p
  have hd3 := (h.2.2.2.2.2.2.2.2.2.2.2.2.1).2
  have hu0 : (unf (cs_lt X j)).toInt = (lr_pr (cs_lt X j)).toInt - (lr_fz (cs_lt X j)).toInt := i_sub_le n4 n5
  have hup : 0 < (unf (cs_lt X j)).toInt := by rw [i_le, i_0] at u; omega
  have hcan : mCan Y j = unf (cs_lt X j) := by rw [mCan, ← ga.1, ← gb1]; rfl
  have hwX : wP (cs_lt X j) = 0 := wP_note c.2.1
  -- what is taken
  have hpt : meTk m Y j = erPart m (cs_lt X j) ∧ 0 < (erPart m (cs_lt X j)).toInt ∧ (erPart m (cs_lt X j)).toInt ≤ m.toInt ∧ (erPart m (cs_lt X j)).toInt ≤ (unf (cs_lt X j)).toInt ∧ ((erPart m (cs_lt X j)).toInt = m.toInt ∨ (erPart m (cs_lt X j)).toInt = (unf (cs_lt X j)).toInt) := by
    unfold meTk erPart
    rw [hcan]
    by_cases q : unf (cs_lt X j) < m
    · have q2 : ¬ m ≤ unf (cs_lt X j) := by rw [i_le]; rw [i_lt] at q; omega
      rw [if_pos q, if_neg q2]
      rw [i_lt] at q
      exact ⟨rfl, hup, by omega, Int.le_refl _, Or.inr rfl⟩
    · have q2 : m ≤ unf (cs_lt X j) := by rw [i_le]; rw [i_lt] at q; omega
      rw [if_neg q, if_pos q2]
      rw [i_lt] at q
      exact ⟨rfl, hm, Int.le_refl _, by omega, Or.inl rfl⟩
  obtain ⟨q1, q2, q3, q4, q5⟩ := hpt
  refine ⟨q1, ?_⟩
  rw [q1, mE1_l]
  generalize erPart m (cs_lt X j) = part at *
  have hl : lbe (cs_lt X j) part = meL Y j part := lbe_eq p.1 p.2.1 ga.2.1 (by rw [i_lt, i_0]; omega)
  have hlb := meL_b (M := Y) (j := j) (t := part) (by rw [← ga.2.1]; exact n7) ⟨p.2.2.1, p.2.2.2⟩ ⟨by omega, by omega⟩ (by rw [← p.2.1]; exact a1)
  rw [← ga.2.1] at hlb
  rw [er1, hl]
  generalize meL Y j part = l at *
  have hE : (lr_ea (cs_lt X j) - l).toInt = (lr_ea (cs_lt X j)).toInt - l.toInt := j_sub (by omega) (by omega)
  have hcuX : vp_in (lr_cu (cs_lt X j)) 4 := by rw [c.2.2]; exact hcu
  have hsub : (lr_pr (cs_lt X j) - part).toInt = (lr_pr (cs_lt X j)).toInt - part.toInt := i_sub_le (by omega) (by omega)
  obtain ⟨f1, f2, f3, f4, f5, f6, f7, f8, f9, f10, f11, f12, f13, f14, f15, f16⟩ := mEl_f Y cu j part l
  have fs : ∀ q, q ≠ j → sam Y (mEl Y cu j part l) q := fun q hq => mEl_sam Y cu j part l hq
  have hNea : ms_ea (mEl Y cu j part l) j = lr_ea (cs_lt X j) - l := by rw [f1, updL_self, ga.2.1]
  have hNpr : ms_pr (mEl Y cu j part l) j = lr_pr (cs_lt X j) - part := by rw [f3, upd_self, ga.1]
  have uX : uA (cs_lt X j) cu = (unf (cs_lt X j)).toInt := uA_in c
  by_cases w : lr_pr (cs_lt X j) - part ≤ 0
  · obtain ⟨x1, x2, x3, x4, x5⟩ := es_dead (l := l) hcuX w
    obtain ⟨dd, hdd⟩ : ∃ d, drwC (lr_set_ea (cs_lt X j) (lr_ea (cs_lt X j) - l)) = d := ⟨_, rfl⟩
    have hdd1 : Int64.toInt32 ((lr_ea (cs_lt X j) - l) / 3650000) = dd := hdd
    have hddb : 0 ≤ dd.toInt ∧ dd.toInt ≤ 16438357 := by
      rw [← hdd1]
      exact note_cents (d := (cs_day P0).toInt) (by rw [hE]; omega) (by rw [hE]; omega) hd3
    obtain ⟨rm, hrm⟩ : ∃ d, remR (lr_set_ea (cs_lt X j) (lr_ea (cs_lt X j) - l)) = d := ⟨_, rfl⟩
    have hrm1 : (lr_ea (cs_lt X j) - l) - (lr_ea (cs_lt X j) - l) / 3650000 * 3650000 = rm := hrm
    rw [hdd] at x2 x4
    rw [hrm] at x3
    have np : ms_pr (mEl Y cu j part l) j = 0 := by
      rw [hNpr, i_eq0]
      rw [i_le, i_0] at w
      omega
    have hT : mTiC (mEl Y cu j part l) j = dd := by rw [mTiC, hNea]; exact hdd1
    have hlo := mEn_lost (mEl Y cu j part l) j
    rw [hNea, hrm1, f2, f5.2.2.2.2.2.1, ← g.1, c.2.2, updL_self, updL_two] at hlo
    rw [c.2.2] at x2 x3
    rw [mE2c, if_pos np, mE2, if_pos np, x4, hT]
    have hdp : lr_pr (dieR (lr_set_ea (cs_lt X j) (lr_ea (cs_lt X j) - l)) part) ≤ 0 := by
      rw [die_pr, sea_pr]; exact w
    have es := mEn_sc (mEl Y cu j part l) j
    have em := mEn_sam (mEl Y cu j part l) j
    have et := mEn_th (mEl Y cu j part l) j
    have ep := mEn_paid (mEl Y cu j part l) j
    have ed := mEn_dn (mEl Y cu j part l) j
    generalize mEn (mEl Y cu j part l) j = N at *
    refine bb.next hm hj c z (by omega) (by omega) q3 hddb.1 hddb.2 x5 (f5.tr es) x1 (fun q hq => (fs q hq).tr (em q hq)) x2 (ep.trans f6) (by rw [x3, hlo, b8]) (relL_dead ?_ ?_ hdp et) (ed.2.1.trans f15) (ed.2.2.trans f16) (ed.1.trans f4) (Or.inr (Or.inl hdp)) ?_ ?_
    · rw [die_cu, sea_cu, es.2.2.2.2.2.1, f5.2.2.2.2.2.1]; exact g.1
    · rw [die_bT, sea_bT, es.2.2.2.2.2.2, f5.2.2.2.2.2.2]; exact g.2.1
    · rw [uA_out (fun q => q.1 hdp), uX]
      rw [i_le, i_0] at w
      omega
    · rw [wP_dead hdp, hwX]; exact Int.le_refl _
  · obtain ⟨x1, x2, x3, x4, x5⟩ := es_live (l := l) hcuX w
    have np : ¬ ms_pr (mEl Y cu j part l) j = 0 := by
      rw [hNpr, i_eq0]
      rw [i_le, i_0] at w
      omega
    rw [c.2.2] at x2 x3
    rw [mE2c, if_neg np, mE2, if_neg np, x4]
    have hth : ¬ ms_th Y j = 0 := fun q => c.1 (g.2.2.1.mpr q)
    have hu2 : (unf (lr_set_pr (lr_set_ea (cs_lt X j) (lr_ea (cs_lt X j) - l)) (lr_pr (cs_lt X j) - part))).toInt = (unf (cs_lt X j)).toInt - part.toInt := by
      have e0 : unf (lr_set_pr (lr_set_ea (cs_lt X j) (lr_ea (cs_lt X j) - l)) (lr_pr (cs_lt X j) - part)) = lr_pr (cs_lt X j) - part - lr_fz (cs_lt X j) := rfl
      rw [e0, i_sub_le n4 (by rw [hsub]; omega), hsub]
      omega
    have hz0 : (0 : Int32).toInt = 0 := rfl
    have nx := bb.next (part := part) (dd := 0) (X2 := poS (los X j l) j part) (Y2 := mEl Y cu j part l) (r2 := lr_set_pr (lr_set_ea (cs_lt X j) (lr_ea (cs_lt X j) - l)) (lr_pr (cs_lt X j) - part)) hm hj c z (by omega) (by omega) q3 (by rw [hz0]; exact Int.le_refl _) (by rw [hz0]; decide) x5 f5 x1 fs (by rw [x2, show Int32.toInt64 0 = 0 from rfl, Int64.add_zero]) f6 (by rw [x3, f2, b8]) ?_ f15 f16 f4 ?_ ?_ ?_
    · rw [Int32.add_zero, Int32.add_zero] at nx
      exact nx
    · rw [f7, f5.2.2.2.2.2.2, f5.2.2.2.2.2.1, hNpr, f8, f9, f10, f11, f12, f13, hNea, f14]
      generalize hEE : lr_ea (cs_lt X j) - l = E at *
      refine ⟨g.1, g.2.1, ⟨fun q => absurd q w, fun q => absurd q hth⟩, fun _ => ⟨rfl, rfl, fun _ => ⟨gb1, gb2, n1, n2, ?_, n4, ?_, n6, ?_, ?_⟩, fun q => absurd c.2.1 q⟩⟩
      · show (lr_pr (cs_lt X j) - part).toInt ≤ 10000000
        omega
      · show (lr_fz (cs_lt X j)).toInt ≤ (lr_pr (cs_lt X j) - part).toInt
        omega
      · show 0 ≤ E.toInt
        omega
      · show E.toInt ≤ _
        omega
    · rw [hu2]
      rcases q5 with q | q
      · exact Or.inl (by omega)
      · exact Or.inr (Or.inr (by omega))
    · rw [uA_in (r := lr_set_pr (lr_set_ea (cs_lt X j) (lr_ea (cs_lt X j) - l)) (lr_pr (cs_lt X j) - part)) ⟨w, c.2.1, c.2.2⟩, hu2, uX]
    · rw [wP_note (r := lr_set_pr (lr_set_ea (cs_lt X j) (lr_ea (cs_lt X j) - l)) (lr_pr (cs_lt X j) - part)) c.2.1, hwX]
      exact Int.le_refl _
end WORK
