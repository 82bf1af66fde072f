/-! calls about one lot: what the law holds due, and its arrays behind it -/
def qGvX (pt : Int32) : Int32 := if pt = 0 then 1 else pt
def qGvC (L : LWS) (j : Nat) (pt : Int32) : Int32 := if ls_p L j ≤ 0 then 0 else if ls_p L j < pt then 0 else if 10 ≤ ls_c L j then 0 else if ls_f L j = 0 then 1 else 0
def qGvD (L : LWS) (j : Nat) (pt : Int32) : Int32 := if ls_p L j = 0 then -11 else if pt ≤ ls_p L j then (if qGvC L j pt = 0 then -13 else ls_n L 1 + 32) else -12
def qGv1 (L : LWS) (j : Nat) (pt : Int32) : LWS := ls_set_t (ls_set_f L (upd (ls_f L) j pt)) (upd (ls_t L) j (ls_n L 1))
def qGvL (L : LWS) (j : Nat) (pt : Int32) : LWS := if qGvC L j pt = 0 then L else qGv1 L j pt
def qWdD (L : LWS) (j : Nat) : Int32 := if ls_p L j = 0 then -11 else if 10 ≤ ls_c L j then -13 else if ls_f L j = 0 then -13 else ls_f L j
def qWdF (L : LWS) (j : Nat) : Int32 := if qWdD L j ≤ 0 then ls_f L j else 0
def qWdL (L : LWS) (j : Nat) : LWS := ls_set_f L (upd (ls_f L) j (qWdF L j))
def qInD (L : LWS) (j : Nat) : Int32 := if ls_p L j = 0 then -11 else if 10 ≤ ls_c L j then ls_d L (3 * j + 1) else -13
def qInV (L : LWS) (j : Nat) (v : Int32) : Int32 := if qInD L j < 0 then ls_d L (3 * j + 1) else v
def qInL (L : LWS) (j : Nat) (v : Int32) : LWS := ls_set_d L (upd (ls_d L) (3 * j + 1) (qInV L j v))
def qLgC (L : LWS) (j : Nat) : Int32 := if ls_p L j ≤ 0 then 0 else if ls_c L j < 10 then 0 else if ls_d L (3 * j + 2) < 0 then 0 else if 6 < ls_n L 1 - ls_d L (3 * j + 2) then 0 else 1
def qLgD (L : LWS) (j : Nat) : Int32 := if ls_p L j = 0 then -11 else if qLgC L j = 0 then -13 else ls_p L j
def qLg1 (L : LWS) (j : Nat) : LWS := ls_set_g L (vp_updL (ls_g L) (lOw L j).toNatClampNeg (ls_g L (lOw L j).toNatClampNeg + Int32.toInt64 (ls_p L j)))
def qLg2 (L : LWS) (j : Nat) : LWS := ls_set_g L (vp_updL (ls_g L) (4 + lOw L j).toNatClampNeg (ls_g L (4 + lOw L j).toNatClampNeg + ls_e L j))
def qLg3 (L : LWS) (j : Nat) : LWS := lEn4 (lEn3 (qLg2 (qLg1 L j) j) j) j
def qLgL (L : LWS) (j : Nat) : LWS := if qLgC L j = 0 then L else qLg3 L j
theorem d_ne {i j : Nat} (h : i ≠ j) (k m : Nat) (hk : k < 3) (hm : m < 3) : 3 * i + k ≠ 3 * j + m := by omega
theorem mGv_f (M : MS) (z c : Int32) : scM M (mGv (mT0 M) z c) ∧ ms_fz (mGv (mT0 M) z c) = upd (ms_fz M) z.toNatClampNeg c ∧ ms_nd (mGv (mT0 M) z c) = upd (ms_nd M) z.toNatClampNeg (ms_now M) ∧ ms_th (mGv (mT0 M) z c) = ms_th M ∧ ms_pr (mGv (mT0 M) z c) = ms_pr M ∧ ms_ea (mGv (mT0 M) z c) = ms_ea M ∧ ms_paid (mGv (mT0 M) z c) = ms_paid M ∧ ms_lost (mGv (mT0 M) z c) = ms_lost M ∧ ∀ q, q ≠ z.toNatClampNeg → sam M (mGv (mT0 M) z c) q :=
  ⟨⟨rfl, rfl, rfl, rfl, rfl, rfl, rfl⟩, rfl, rfl, rfl, rfl, rfl, rfl, rfl, fun q hq => ⟨rfl, rfl, rfl, rfl, upd_ne hq, upd_ne hq, rfl, rfl, rfl, rfl, rfl, rfl⟩⟩
section OPS
variable {S : CS} {M : MS} {L : LWS}
/-- of an alive lot by NOTICE -/
theorem al_n (h : Rel S M) {j : Nat} (hn : j < ms_n M) (ht : ¬ ms_th M j = 0) (c : ms_te M j = 0) : 0 ≤ (ms_fz M j).toInt ∧ (ms_fz M j).toInt ≤ (ms_pr M j).toInt ∧ 1 ≤ (ms_pr M j).toInt ∧ (ms_pr M j).toInt ≤ 10000000 ∧ 0 ≤ (ms_ea M j).toInt ∧ (ms_ea M j).toInt ≤ 60000000000000 := by
  have hi2 : j < cs_n S := by rw [h.n]; exact hn
  have g := h.lot hi2
  have hal : ¬ lr_pr (cs_lt S j) ≤ 0 := fun q => ht (g.2.2.1.mp q)
  have g2 := g.2.2.2 hal
  have g3 := g2.2.2.1 (g.2.1.trans c)
  have g4 := alive_b hal
  obtain ⟨n1, n2, n3, n4, n5, n6, n7, n8⟩ := g3.2.2
  have hd := h.2.2.2.2.2.2.2.2.2.2.2.2.1
  rw [← g3.1, ← g2.1, ← g2.2.1]
  omega
theorem op_give (h : Rel S M) (r : RelL M L) {j : Nat} (hj : j < 20) {pt : Int32} (hpt : ¬ ls_p L j = 0 → 1 ≤ pt.toInt) : Op (gvC S (nI j) (qGvX pt)) (cs_day S + 32) (qGvD L j pt) S (gvS S (nI j) (qGvX pt)) (qGvL L j pt) := by
  have hc : (nI j).toNatClampNeg = j := nI_clamp (by omega)
  have s := sim_give h (nI j) (qGvX pt)
  rcases pl_or h r hj with ⟨a1, a2, a3, a4, a5, a6, a7, a8, a9⟩ | ⟨a1, a2, a3, a4⟩
  · have b1 := hpt a1
    have ex : qGvX pt = pt := by
      unfold qGvX
      rw [if_neg (fun q => by rw [q, i_0] at b1; omega)]
    rw [ex] at s ⊢
    by_cases e : pt ≤ ls_p L j
    · have e1 : ¬ ls_p L j < pt := by rw [i_nlt]; exact e
      have hin : ¬ mIn pt 1 (ms_pr M j) = 0 := by
        rw [mIn, if_neg (by rw [i_lt, i_1]; omega), if_neg (by rw [← a8]; exact e1)]; decide
      rcases c_or h r a3 with ⟨c1, c2, c3, c4⟩ | ⟨c1, c2, c3, c4⟩
      · have fb := al_n h a3 a5 c1
        have hf := (((r.lot a3).2.2.2 a5).2.2.1 c1).1
        by_cases f : ls_f L j = 0
        · have hC : ¬ qGvC L j pt = 0 := by rw [qGvC, if_neg a2, if_neg e1, if_neg c3, if_pos f]; decide
          have hk : kGv M (nI j) pt = 0 := by rw [kGv, if_neg a7, hc, if_neg hin, if_pos c1, if_pos (by rw [← hf, f]; decide)]
          obtain ⟨s1, s2, s3⟩ := s.ok hk
          refine Or.inl ⟨s1, ?_, _, s3, ?_⟩
          · rw [qGvD, if_neg a1, if_pos e, if_neg hC, t64_inj s2, r.2.2.1]
          · rw [qGvL, if_neg hC]
            obtain ⟨m1, m2, m3, m4, m5, m6, m7, m8, m9⟩ := mGv_f M (nI j) pt
            rw [hc] at m2 m3 m9
            have l := (r.lot a3)
            refine r.chg j a3 m1 m9 ⟨rfl, rfl, rfl⟩ (fun q hq => ⟨rfl, upd_ne hq, upd_ne hq, rfl, rfl, rfl, rfl, rfl⟩) ?_ (r.g.mv m7 m8 rfl)
            refine ⟨fun _ => l.1 c1, fun q => absurd c1 q, fun q => absurd q (by rw [m4]; exact a5), fun _ => ⟨?_, ?_, fun _ => ⟨?_, fun _ => ?_⟩, fun q => absurd c1 q⟩⟩
            · rw [m5]; exact a8
            · rw [m6]; exact (l.2.2.2 a5).2.1
            · rw [m2, upd_self]; exact upd_self _ _ _
            · rw [m3, upd_self]; exact (upd_self _ _ _).trans r.2.2.1
        · have hC : qGvC L j pt = 0 := by rw [qGvC, if_neg a2, if_neg e1, if_neg c3, if_neg f]
          have f2 : ¬ ms_fz M j ≤ 0 := by
            rw [i_le, i_0]
            intro q
            exact f (hf.trans (Int32.toInt_inj.mp (by rw [i_0]; omega)))
          have hk : kGv M (nI j) pt = 3 := by rw [kGv, if_neg a7, hc, if_neg hin, if_pos c1, if_neg f2]
          obtain ⟨s1, s2⟩ := s.no (by rw [hk]; decide)
          exact Or.inr ⟨s1, by rw [ex3_3 (s2.trans hk), qGvD, if_neg a1, if_pos e, if_pos hC], M, h, by rw [qGvL, if_pos hC]; exact r⟩
      · have hC : qGvC L j pt = 0 := by rw [qGvC, if_neg a2, if_neg e1, if_pos c3]
        have hk : kGv M (nI j) pt = 3 := by rw [kGv, if_neg a7, hc, if_neg hin, if_neg c1]
        obtain ⟨s1, s2⟩ := s.no (by rw [hk]; decide)
        exact Or.inr ⟨s1, by rw [ex3_3 (s2.trans hk), qGvD, if_neg a1, if_pos e, if_pos hC], M, h, by rw [qGvL, if_pos hC]; exact r⟩
    · have e1 : ls_p L j < pt := by rw [i_lt]; rw [i_le] at e; omega
      have hC : qGvC L j pt = 0 := by rw [qGvC, if_neg a2, if_pos e1]
      have hin : mIn pt 1 (ms_pr M j) = 0 := by
        rw [mIn, if_neg (by rw [i_lt, i_1]; omega), if_pos (by rw [← a8]; exact e1)]
      have hk : kGv M (nI j) pt = 2 := by rw [kGv, if_neg a7, hc, if_pos hin]
      obtain ⟨s1, s2⟩ := s.no (by rw [hk]; decide)
      exact Or.inr ⟨s1, by rw [ex3_2 (s2.trans hk), qGvD, if_neg a1, if_neg e], M, h, by rw [qGvL, if_pos hC]; exact r⟩
  · have hC : qGvC L j pt = 0 := by rw [qGvC, if_pos a2]
    have hk : kGv M (nI j) (qGvX pt) = 1 := by rw [kGv, if_pos a3]
    obtain ⟨s1, s2⟩ := s.no (by rw [hk]; decide)
    exact Or.inr ⟨s1, by rw [ex3_1 (s2.trans hk), qGvD, if_pos a1], M, h, by rw [qGvL, if_pos hC]; exact r⟩
theorem upd_same (f : Nat → Int32) (k : Nat) : upd f k (f k) = f := funext fun i => by
  by_cases h : i = k
  · subst h; exact upd_self _ _ _
  · exact upd_ne h
theorem mWd_f (M : MS) (z : Int32) : scM M (mWd (mT0 M) z) ∧ ms_fz (mWd (mT0 M) z) = upd (ms_fz M) z.toNatClampNeg 0 ∧ ms_nd (mWd (mT0 M) z) = ms_nd M ∧ ms_th (mWd (mT0 M) z) = ms_th M ∧ ms_pr (mWd (mT0 M) z) = ms_pr M ∧ ms_ea (mWd (mT0 M) z) = ms_ea M ∧ ms_paid (mWd (mT0 M) z) = ms_paid M ∧ ms_lost (mWd (mT0 M) z) = ms_lost M ∧ ∀ q, q ≠ z.toNatClampNeg → sam M (mWd (mT0 M) z) q :=
  ⟨⟨rfl, rfl, rfl, rfl, rfl, rfl, rfl⟩, rfl, rfl, rfl, rfl, rfl, rfl, rfl, fun q hq => ⟨rfl, rfl, rfl, rfl, upd_ne hq, rfl, rfl, rfl, rfl, rfl, rfl, rfl⟩⟩
theorem op_withdraw (h : Rel S M) (r : RelL M L) {j : Nat} (hj : j < 20) : Op (wdC S (nI j)) (lr_fz (cs_lt S (nI j).toNatClampNeg)) (qWdD L j) S (wdS S (nI j)) (qWdL L j) := by
  have hc : (nI j).toNatClampNeg = j := nI_clamp (by omega)
  have s := sim_withdraw h (nI j)
  have no : qWdD L j ≤ 0 → qWdL L j = L := fun q => by
    unfold qWdL qWdF
    rw [if_pos q, upd_same]
  rcases pl_or h r hj with ⟨a1, a2, a3, a4, a5, a6, a7, a8, a9⟩ | ⟨a1, a2, a3, a4⟩
  · rcases c_or h r a3 with ⟨c1, c2, c3, c4⟩ | ⟨c1, c2, c3, c4⟩
    · have hf := (((r.lot a3).2.2.2 a5).2.2.1 c1).1
      have fb := al_n h a3 a5 c1
      by_cases f : ls_f L j = 0
      · have hD : qWdD L j = -13 := by rw [qWdD, if_neg a1, if_neg c3, if_pos f]
        have hk : kWd M (nI j) = 2 := by rw [kWd, if_neg a7, hc, if_pos c1, if_pos (hf.symm.trans f)]
        obtain ⟨s1, s2⟩ := s.no (by rw [hk]; decide)
        exact Or.inr ⟨s1, by rw [exIS_2 (wdC_r _ _) s1 (s2.trans hk), hD], M, h, by rw [no (by rw [hD]; decide)]; exact r⟩
      · have hD : qWdD L j = ls_f L j := by rw [qWdD, if_neg a1, if_neg c3, if_neg f]
        have hk : kWd M (nI j) = 0 := by rw [kWd, if_neg a7, hc, if_pos c1, if_neg (fun q => f (hf.trans q))]
        obtain ⟨s1, s2, s3⟩ := s.ok hk
        refine Or.inl ⟨s1, ?_, _, s3, ?_⟩
        · rw [t64_inj s2, hc, hD, hf]
        · have f2 : ¬ qWdD L j ≤ 0 := by
            rw [hD, i_le, i_0, hf]
            intro q
            exact f (hf.trans (Int32.toInt_inj.mp (by rw [i_0]; omega)))
          obtain ⟨m1, m2, m3, m4, m5, m6, m7, m8, m9⟩ := mWd_f M (nI j)
          rw [hc] at m2 m9
          have l := (r.lot a3)
          refine r.chg j a3 m1 m9 ⟨rfl, rfl, rfl⟩ (fun q hq => ⟨rfl, upd_ne hq, rfl, rfl, rfl, rfl, rfl, rfl⟩) ?_ (r.g.mv m7 m8 rfl)
          refine ⟨fun _ => l.1 c1, fun q => absurd c1 q, fun q => absurd q (by rw [m4]; exact a5), fun _ => ⟨?_, ?_, fun _ => ⟨?_, fun q => ?_⟩, fun q => absurd c1 q⟩⟩
          · rw [m5]; exact a8
          · rw [m6]; exact (l.2.2.2 a5).2.1
          · rw [m2, upd_self]
            refine (upd_self _ _ _).trans ?_
            unfold qWdF
            rw [if_neg f2]
          · rw [m2, upd_self] at q
            exact absurd rfl q
    · have hD : qWdD L j = -13 := by rw [qWdD, if_neg a1, if_pos c3]
      have hk : kWd M (nI j) = 2 := by rw [kWd, if_neg a7, hc, if_neg c1]
      obtain ⟨s1, s2⟩ := s.no (by rw [hk]; decide)
      exact Or.inr ⟨s1, by rw [exIS_2 (wdC_r _ _) s1 (s2.trans hk), hD], M, h, by rw [no (by rw [hD]; decide)]; exact r⟩
  · have hD : qWdD L j = -11 := by rw [qWdD, if_pos a1]
    have hk : kWd M (nI j) = 1 := by rw [kWd, if_pos a3]
    obtain ⟨s1, s2⟩ := s.no (by rw [hk]; decide)
    exact Or.inr ⟨s1, by rw [exIS_1 (s2.trans hk), hD], M, h, by rw [no (by rw [hD]; decide)]; exact r⟩
theorem mIn_f (M : MS) (z v : Int32) : scM M (mInS (mT0 M) z v) ∧ ms_ins (mInS (mT0 M) z v) = upd (ms_ins M) z.toNatClampNeg v ∧ ms_th (mInS (mT0 M) z v) = ms_th M ∧ ms_pr (mInS (mT0 M) z v) = ms_pr M ∧ ms_ea (mInS (mT0 M) z v) = ms_ea M ∧ ms_paid (mInS (mT0 M) z v) = ms_paid M ∧ ms_lost (mInS (mT0 M) z v) = ms_lost M ∧ (∀ q, q ≠ z.toNatClampNeg → sam M (mInS (mT0 M) z v) q) ∧ ms_en (mInS (mT0 M) z v) = ms_en M ∧ ms_tp (mInS (mT0 M) z v) = ms_tp M ∧ ms_le (mInS (mT0 M) z v) = ms_le M ∧ ms_bg (mInS (mT0 M) z v) = ms_bg M :=
  ⟨⟨rfl, rfl, rfl, rfl, rfl, rfl, rfl⟩, rfl, rfl, rfl, rfl, rfl, rfl, fun q hq => ⟨rfl, rfl, rfl, rfl, rfl, rfl, rfl, rfl, upd_ne hq, rfl, rfl, rfl⟩, rfl, rfl, rfl, rfl⟩
theorem op_instruct (h : Rel S M) (r : RelL M L) {j : Nat} (hj : j < 20) {v : Int32} (hv : v = 0 ∨ v = 1 ∨ v = 2) : Op (inC S (nI j) v) (lr_ins (cs_lt S (nI j).toNatClampNeg)) (qInD L j) S (inS S (nI j) v) (qInL L j v) := by
  have hc : (nI j).toNatClampNeg = j := nI_clamp (by omega)
  have s := sim_instruct h (nI j) v
  have hin : ¬ mIn v 0 2 = 0 := by rcases hv with e | e | e <;> subst e <;> decide
  have no : qInD L j < 0 → qInL L j v = L := fun q => by
    unfold qInL qInV
    rw [if_pos q, upd_same]
  rcases pl_or h r hj with ⟨a1, a2, a3, a4, a5, a6, a7, a8, a9⟩ | ⟨a1, a2, a3, a4⟩
  · rcases c_or h r a3 with ⟨c1, c2, c3, c4⟩ | ⟨c1, c2, c3, c4⟩
    · have hD : qInD L j = -13 := by rw [qInD, if_neg a1, if_neg c3]
      have hk : kIn M (nI j) v = 3 := by rw [kIn, if_neg a7, if_neg hin, hc, if_pos c1]
      obtain ⟨s1, s2⟩ := s.no (by rw [hk]; decide)
      exact Or.inr ⟨s1, by rw [ex3_3 (s2.trans hk), hD], M, h, by rw [no (by rw [hD]; decide)]; exact r⟩
    · have l := (r.lot a3)
      obtain ⟨t1, t2, t3, t4, t5, t6⟩ := (l.2.2.2 a5).2.2.2 c1
      have hD : qInD L j = ms_ins M j := by rw [qInD, if_neg a1, if_pos c3, t4]
      have hk : kIn M (nI j) v = 0 := by rw [kIn, if_neg a7, if_neg hin, hc, if_neg c1]
      obtain ⟨s1, s2, s3⟩ := s.ok hk
      refine Or.inl ⟨s1, ?_, _, s3, ?_⟩
      · rw [t64_inj s2, hc, hD]
      · have f2 : ¬ qInD L j < 0 := by
          rw [hD]
          rcases t6 with e | e | e <;> rw [e] <;> decide
        obtain ⟨m1, m2, m3, m4, m5, m6, m7, m8, m9, m10, m11, m12⟩ := mIn_f M (nI j) v
        rw [hc] at m2 m8
        refine r.chg j a3 m1 m8 ⟨rfl, rfl, rfl⟩ (fun q hq => ⟨rfl, rfl, rfl, rfl, rfl, upd_ne (d_ne hq 0 1 (by omega) (by omega)), upd_ne (d_ne hq 1 1 (by omega) (by omega)), upd_ne (d_ne hq 2 1 (by omega) (by omega))⟩) ?_ (r.g.mv m6 m7 rfl)
        refine ⟨fun q => absurd q c1, fun _ => l.2.1 c1, fun q => absurd q (by rw [m3]; exact a5), fun _ => ⟨?_, ?_, fun q => absurd q c1, fun _ => ⟨?_, ?_, ?_, ?_, ?_, ?_⟩⟩⟩
        · rw [m4]; exact a8
        · rw [m5]; exact (l.2.2.2 a5).2.1
        · rw [m9]; exact t1
        · rw [m10]; exact t2
        · rw [m11]; exact (upd_ne (by omega)).trans t3
        · rw [m2, upd_self]
          refine (upd_self _ _ _).trans ?_
          unfold qInV
          rw [if_neg f2]
        · rw [m12]; exact (upd_ne (by omega)).trans t5
        · rw [m2, upd_self]; exact hv
  · have hD : qInD L j = -11 := by rw [qInD, if_pos a1]
    have hk : kIn M (nI j) v = 1 := by rw [kIn, if_pos a3]
    obtain ⟨s1, s2⟩ := s.no (by rw [hk]; decide)
    exact Or.inr ⟨s1, by rw [ex3_1 (s2.trans hk), hD], M, h, by rw [no (by rw [hD]; decide)]; exact r⟩
end OPS
