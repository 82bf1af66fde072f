/-! taking what a notice froze; new lots; rates -/
def qTkC (L : LWS) (j : Nat) : Int32 := if ls_p L j ≤ 0 then 0 else if 10 ≤ ls_c L j then 0 else if ls_f L j ≤ 0 then 0 else if ls_n L 1 < ls_t L j + 32 then 0 else 1
def qTkD (L : LWS) (j : Nat) : Int32 := if ls_p L j = 0 then -11 else if qTkC L j = 0 then -13 else ls_f L j
def qTk1 (L : LWS) (j : Nat) : LWS := ls_set_g L (vp_updL (ls_g L) (ls_c L j).toNatClampNeg (ls_g L (ls_c L j).toNatClampNeg + Int32.toInt64 (ls_f L j)))
def qTk2 (L : LWS) (j : Nat) : LWS := ls_set_p L (upd (ls_p L) j (ls_p L j - ls_f L j))
def qTk3 (L : LWS) (j : Nat) : LWS := ls_set_f L (upd (ls_f L) j 0)
def qTkA (L : LWS) (j : Nat) : LWS := qTk3 (qTk2 (qTk1 L j) j) j
def qTkG (L : LWS) (j : Nat) : Int32 := if ls_f L j = ls_p L j then 1 else 0
def qTkE (L : LWS) (j : Nat) : Int32 := if qTkG L j = 0 then 0 else lEnC (qTkA L j) j
def qTkB (L : LWS) (j : Nat) : LWS := if qTkG L j = 0 then qTkA L j else lEn (qTkA L j) j
def qTkV (L : LWS) (j : Nat) : Int32 := if qTkC L j = 0 then qTkD L j else qTkD L j + qTkE L j
def qTkL (L : LWS) (j : Nat) : LWS := if qTkC L j = 0 then L else qTkB L j
theorem qTkA_f (L : LWS) (j : Nat) : ls_p (qTkA L j) = upd (ls_p L) j (ls_p L j - ls_f L j) ∧ ls_f (qTkA L j) = upd (ls_f L) j 0 ∧ ls_g (qTkA L j) = vp_updL (ls_g L) (ls_c L j).toNatClampNeg (ls_g L (ls_c L j).toNatClampNeg + Int32.toInt64 (ls_f L j)) ∧ ls_e (qTkA L j) = ls_e L ∧ fxL L (qTkA L j) ∧ ∀ q, q ≠ j → samL L (qTkA L j) q :=
  ⟨rfl, rfl, rfl, rfl, ⟨rfl, rfl, rfl⟩, fun q hq => ⟨upd_ne hq, upd_ne hq, rfl, rfl, rfl, rfl, rfl, rfl⟩⟩
theorem lEn_f (L : LWS) (j : Nat) : ls_p (lEn L j) = upd (ls_p L) j 0 ∧ ls_g (lEn1 L j) = vp_updL (ls_g L) (lOw L j).toNatClampNeg (ls_g L (lOw L j).toNatClampNeg + Int32.toInt64 (lEnC L j)) ∧ ls_g (lEn L j) = vp_updL (ls_g (lEn1 L j)) (4 + lOw L j).toNatClampNeg (ls_g (lEn1 L j) (4 + lOw L j).toNatClampNeg + (ls_e L j - ls_e L j / 3650000 * 3650000)) ∧ fxL L (lEn L j) ∧ ∀ q, q ≠ j → samL L (lEn L j) q :=
  ⟨rfl, rfl, rfl, ⟨rfl, rfl, rfl⟩, fun q hq => ⟨upd_ne hq, rfl, rfl, rfl, updL_ne hq, rfl, rfl, rfl⟩⟩
theorem lEnC_of {A B : LWS} {j : Nat} (h : ls_e B j = ls_e A j) : lEnC B j = lEnC A j := by unfold lEnC; rw [h]
section TK
variable {S : CS} {M : MS} {L : LWS}
/-- a month's bound on what a lot by NOTICE pays -/
theorem cents_n {x : Int64} (h0 : 0 ≤ x.toInt) (h1 : x.toInt ≤ 60000000000000) : 0 ≤ (Int64.toInt32 (x / 3650000)).toInt ∧ (Int64.toInt32 (x / 3650000)).toInt ≤ 16438357 := by
  have e := (cents (x := x) h0 (by omega)).1
  rw [e]
  omega
theorem mTk_live (N : MS) (j : Nat) (hz : ¬ ms_pr (mTk1 N j) j = 0) : ms_paid (mTk N j) = vp_updL (ms_paid N) (ms_ow N j).toNatClampNeg (ms_paid N (ms_ow N j).toNatClampNeg + Int32.toInt64 (ms_fz N j)) ∧ ms_lost (mTk N j) = ms_lost N ∧ scM N (mTk N j) ∧ (∀ q, q ≠ j → sam N (mTk N j) q) ∧ mTkV N j = ms_fz N j ∧ ms_th (mTk N j) = ms_th N ∧ ms_pr (mTk N j) j = ms_pr N j - ms_fz N j ∧ ms_fz (mTk N j) j = 0 ∧ ms_ea (mTk N j) = ms_ea N := by
  obtain ⟨t1, t2, t3, t4, t5, t6, t7, t8⟩ := mTk1_f N j
  have e1 : mTkV N j = ms_fz N j := by rw [mTkV, if_neg hz]
  have e2 : mTk2 N j = mTk1 N j := by rw [mTk2, if_neg hz]
  have e3 : mTk N j = mPa (mTk1 N j) (ms_ow N j) (ms_fz N j) := by rw [mTk, e1, e2, t6]
  rw [e3]
  refine ⟨by rw [mPa_paid, t3], by rw [mPa_lost, t4], t7.tr (mPa_sc _ _ _), fun q hq => (t8 q hq).tr (mPa_sam _ _ _ _), e1, rfl, t1, t2, t5⟩
theorem mTk_dead (N : MS) (j : Nat) (hz : ms_pr (mTk1 N j) j = 0) : ms_paid (mTk N j) = vp_updL (ms_paid N) (ms_ow N j).toNatClampNeg (ms_paid N (ms_ow N j).toNatClampNeg + Int32.toInt64 (ms_fz N j + Int64.toInt32 (ms_ea N j / 3650000))) ∧ ms_lost (mTk N j) = vp_updL (ms_lost N) (ms_ow N j).toNatClampNeg (ms_lost N (ms_ow N j).toNatClampNeg + (ms_ea N j - ms_ea N j / 3650000 * 3650000)) ∧ scM N (mTk N j) ∧ (∀ q, q ≠ j → sam N (mTk N j) q) ∧ mTkV N j = ms_fz N j + Int64.toInt32 (ms_ea N j / 3650000) ∧ ms_th (mTk N j) j = 0 := by
  obtain ⟨t1, t2, t3, t4, t5, t6, t7, t8⟩ := mTk1_f N j
  have e0 : mTiC (mTk1 N j) j = Int64.toInt32 (ms_ea N j / 3650000) := by rw [mTiC, t5]
  have e1 : mTkV N j = ms_fz N j + Int64.toInt32 (ms_ea N j / 3650000) := by rw [mTkV, if_pos hz, e0]
  have e2 : mTk2 N j = mEn (mTk1 N j) j := by rw [mTk2, if_pos hz]
  have e4 : ms_ow (mEn (mTk1 N j) j) j = ms_ow N j := by
    have a := (mEn_sc (mTk1 N j) j).2.2.2.2.2.1
    rw [a, t6]
  have e3 : mTk N j = mPa (mEn (mTk1 N j) j) (ms_ow N j) (ms_fz N j + Int64.toInt32 (ms_ea N j / 3650000)) := by rw [mTk, e1, e2, e4]
  rw [e3]
  refine ⟨by rw [mPa_paid, mEn_paid, t3], by rw [mPa_lost, mEn_lost, t4, t5, t6], (t7.tr (mEn_sc _ _)).tr (mPa_sc _ _ _), fun q hq => ((t8 q hq).tr (mEn_sam _ _ q hq)).tr (mPa_sam _ _ _ _), e1, ?_⟩
  exact mEn_th (mTk1 N j) j
theorem op_take (h : Rel S M) (r : RelL M L) {j : Nat} (hj : j < 20) : Op (tkC S (nI j)) (poC (wdS S (nI j)) (nI j).toNatClampNeg (lr_fz (cs_lt S (nI j).toNatClampNeg))) (qTkV L j) S (poS (wdS S (nI j)) (nI j).toNatClampNeg (lr_fz (cs_lt S (nI j).toNatClampNeg))) (qTkL L j) := by
  have hc : (nI j).toNatClampNeg = j := nI_clamp (by omega)
  have s := sim_take h (nI j)
  rw [hc] at s ⊢
  have no : qTkC L j = 0 → qTkL L j = L ∧ qTkV L j = qTkD L j := fun q => ⟨by rw [qTkL, if_pos q], by rw [qTkV, if_pos q]⟩
  rcases pl_or h r hj with ⟨a1, a2, a3, a4, a5, a6, a7, a8, a9⟩ | ⟨a1, a2, a3, a4⟩
  · have l := r.lot a3
    have no2 : qTkC L j = 0 → kTk M (nI j) = 2 → Op (tkC S (nI j)) (poC (wdS S (nI j)) j (lr_fz (cs_lt S j))) (qTkV L j) S (poS (wdS S (nI j)) j (lr_fz (cs_lt S j))) (qTkL L j) := fun q hk => by
      obtain ⟨s1, s2⟩ := s.no (by rw [hk]; decide)
      exact Or.inr ⟨s1, by rw [exIS_2 (tkC_r _ _) s1 (s2.trans hk), (no q).2, qTkD, if_neg a1, if_pos q], M, h, by rw [(no q).1]; exact r⟩
    rcases c_or h r a3 with ⟨c1, c2, c3, c4⟩ | ⟨c1, c2, c3, c4⟩
    · obtain ⟨hf, ht⟩ := (l.2.2.2 a5).2.2.1 c1
      have fb := al_n h a3 a5 c1
      by_cases d : ms_fz M j = 0
      · exact no2 (by rw [qTkC, if_neg a2, if_neg c3, if_pos (by rw [hf, d]; decide)]) (by rw [kTk, if_neg a7, hc, if_pos c1, if_pos d])
      · have d2 : ¬ ls_f L j ≤ 0 := by
          rw [hf, i_le, i_0]
          intro q
          exact d (Int32.toInt_inj.mp (by rw [i_0]; omega))
        by_cases e : ms_nd M j + 32 ≤ ms_now M
        · have e2 : ¬ ls_n L 1 < ls_t L j + 32 := by rw [r.2.2.1, ht d, i_nlt]; exact e
          have hC : ¬ qTkC L j = 0 := by rw [qTkC, if_neg a2, if_neg c3, if_neg d2, if_neg e2]; decide
          have hk : kTk M (nI j) = 0 := by rw [kTk, if_neg a7, hc, if_pos c1, if_neg d, if_pos e]
          obtain ⟨s1, s2, s3⟩ := s.ok hk
          have ho := r.ow h a3
          have ho4 := h.ow4 (j := j) (by omega)
          obtain ⟨l1, l2, l3, l4, l5, l6⟩ := qTkA_f L j
          have t1 : ms_pr (mTk1 (mT0 M) j) j = ms_pr M j - ms_fz M j := (mTk1_f (mT0 M) j).1
          have es := i_sub_le (x := ms_pr M j) (y := ms_fz M j) fb.1 fb.2.1
          have hea : ls_e L j = ms_ea M j := (l.2.2.2 a5).2.1
          by_cases g : ls_f L j = ls_p L j
          · have hz : ms_pr (mTk1 (mT0 M) j) j = 0 := by
              rw [t1, ← hf, ← a8, g, Int32.sub_self]
            have hG : ¬ qTkG L j = 0 := by rw [qTkG, if_pos g]; decide
            obtain ⟨m1, m2, m3, m4, m5, m6⟩ := mTk_dead (mT0 M) j hz
            have cn := cents_n fb.2.2.2.2.1 fb.2.2.2.2.2
            have eC : lEnC (qTkA L j) j = Int64.toInt32 (ms_ea M j / 3650000) := by
              unfold lEnC
              rw [l4, hea]
            refine Or.inl ⟨s1, ?_, _, s3, ?_⟩
            · rw [t64_inj s2, m5, qTkV, if_neg hC, qTkD, if_neg a1, if_neg hC, qTkE, if_neg hG, eC, hf]
            · rw [qTkL, if_neg hC, qTkB, if_neg hG]
              obtain ⟨n1, n2, n3, n4, n5⟩ := lEn_f (qTkA L j) j
              have oA : lOw (qTkA L j) j = ms_ow M j := by
                unfold lOw at ho ⊢
                rw [l5.2.1]; exact ho
              have cA : ls_c L j = ms_ow M j := c4
              refine r.chg j a3 m3 m4 (l5.tr n4) (fun q hq => (l6 q hq).tr (n5 q hq)) (relC_dead l m3.2.2.2.2.2.2 m3.2.2.2.2.2.1 (l5.tr n4).2.1 m6 (by rw [n1]; exact upd_self _ _ _)) ?_
              refine relG.both (o := ms_ow M j) (x := Int32.toInt64 (ms_fz M j) + Int32.toInt64 (Int64.toInt32 (ms_ea M j / 3650000))) (y := ms_ea M j - ms_ea M j / 3650000 * 3650000) (G1 := ls_g (lEn1 (qTkA L j) j)) ho4 r.g ?_ m2 ?_ ?_
              · rw [m1]
                show vp_updL (ms_paid M) (ms_ow M j).toNatClampNeg (ms_paid M (ms_ow M j).toNatClampNeg + Int32.toInt64 (ms_fz M j + Int64.toInt32 (ms_ea M j / 3650000))) = _
                rw [ext_add (by omega) (by omega)]
              · rw [n2, oA, l3, cA, eC, hf, updL_two, updL_self, Int64.add_assoc]
              · rw [n3, oA, l4, hea]
          · have hz : ¬ ms_pr (mTk1 (mT0 M) j) j = 0 := by
              rw [t1]
              intro q
              rw [i_eq0, es] at q
              exact g (by rw [hf, a8]; exact Int32.toInt_inj.mp (by omega))
            have hG : qTkG L j = 0 := by rw [qTkG, if_neg g]
            obtain ⟨m1, m2, m3, m4, m5, m6, m7, m8, m9⟩ := mTk_live (mT0 M) j hz
            refine Or.inl ⟨s1, ?_, _, s3, ?_⟩
            · rw [t64_inj s2, m5, qTkV, if_neg hC, qTkD, if_neg a1, if_neg hC, qTkE, if_pos hG, hf, Int32.add_zero]
            · rw [qTkL, if_neg hC, qTkB, if_pos hG]
              refine r.chg j a3 m3 m4 l5 l6 ?_ (relG.pay (o := ms_ow M j) (x := Int32.toInt64 (ms_fz M j)) ho4 r.g m1 m2 (by rw [l3, c4, hf]))
              refine ⟨fun _ => by rw [l5.2.1, m3.2.2.2.2.2.1]; exact c4, fun q => absurd c1 (by rw [m3.2.2.2.2.2.2] at q; exact q), fun q => absurd q (by rw [m6]; exact a5), fun _ => ⟨?_, ?_, fun _ => ⟨?_, fun q => absurd m8 q⟩, fun q => absurd c1 (by rw [m3.2.2.2.2.2.2] at q; exact q)⟩⟩
              · rw [l1, upd_self, m7, a8, hf]
              · rw [l4, m9]; exact hea
              · rw [l2, upd_self, m8]
        · have e2 : ls_n L 1 < ls_t L j + 32 := by
            rw [r.2.2.1, ht d, i_lt]
            rw [i_le] at e
            omega
          exact no2 (by rw [qTkC, if_neg a2, if_neg c3, if_neg d2, if_pos e2]) (by rw [kTk, if_neg a7, hc, if_pos c1, if_neg d, if_neg e])
    · exact no2 (by rw [qTkC, if_neg a2, if_pos c3]) (by rw [kTk, if_neg a7, hc, if_neg c1])
  · have hC : qTkC L j = 0 := by rw [qTkC, if_pos a2]
    have hk : kTk M (nI j) = 1 := by rw [kTk, if_pos a3]
    obtain ⟨s1, s2⟩ := s.no (by rw [hk]; decide)
    exact Or.inr ⟨s1, by rw [exIS_1 (s2.trans hk), (no hC).2, qTkD, if_pos a1], M, h, by rw [(no hC).1]; exact r⟩
/-- a new lot -/
theorem RelL.new {N : MS} {B : LWS} (r : RelL M L) (hn : ms_n M < 20) (hm : ms_n N = ms_n M + 1 ∧ ms_rates N = ms_rates M ∧ ms_paid N = ms_paid M ∧ ms_lost N = ms_lost M ∧ ms_bb N = ms_bb M ∧ ms_tr N = ms_tr M ∧ ms_now N = ms_now M) (hs : ∀ q, q ≠ ms_n M → sam M N q) (h0 : ls_n B 0 = nI (ms_n M + 1)) (h1 : ls_n B 1 = ls_n L 1) (h2 : ls_n B 2 = ls_n L 2) (h3 : ls_n B 3 = ls_n L 3) (hq : ls_q B = ls_q L) (hg : ls_g B = ls_g L) (hl : ∀ q, q ≠ ms_n M → samL L B q ∧ ls_c B q = ls_c L q) (hc : relC N B (ms_n M)) : RelL N B := by
  obtain ⟨r1, r2, r3, r4, r5, r6, r7, r8, r9⟩ := r
  obtain ⟨m1, m2, m3, m4, m5, m6, m7⟩ := hm
  refine ⟨by rw [h0, m1], by rw [m1]; omega, by rw [h1, m7]; exact r3, by rw [h2, m5]; exact r4, by rw [h3, m6]; exact r5, by rw [hq, m2]; exact r6, fun q hq2 => ?_, fun q hq2 h20 => ?_, r9.mv m3 m4 hg⟩
  · rw [m1] at hq2
    by_cases c : q = ms_n M
    · subst c; exact hc
    · exact (r7 q (by omega)).mv (hs q c) (hl q c).1 (hl q c).2
  · rw [m1] at hq2
    obtain ⟨b1, b2, b3, b4, b5, b6, b7, b8⟩ := (hl q (by omega)).1
    rw [b1, b2, b5]
    exact r8 q (by omega) h20
end TK
def qNw (L : LWS) (x : Int32) : LWS := ls_set_p (ls_set_n L (upd (ls_n L) 0 (ls_n L 0 + 1))) (upd (ls_p L) (lK L) x)
def qDpL (L : LWS) (cu x : Int32) : LWS := ls_set_c (qNw L x) (upd (ls_c L) (lK L) cu)
def qDt1 (L : LWS) (cu x : Int32) : LWS := ls_set_c (qNw L x) (upd (ls_c L) (lK L) (10 + cu))
def qDt2 (L : LWS) (cu x d : Int32) : LWS := ls_set_t (qDt1 L cu x) (upd (ls_t L) (lK L) (ls_n L 1 + d))
def qDt3 (L : LWS) (cu x d : Int32) : LWS := ls_set_w (qDt2 L cu x d) (vp_updL (ls_w L) (lK L) (Int32.toInt64 x * Int32.toInt64 (ls_n L 3)))
def qDt4 (L : LWS) (cu x d v : Int32) : LWS := ls_set_d (qDt3 L cu x d) (upd (upd (upd (ls_d L) (3 * lK L) d) (3 * lK L + 1) v) (3 * lK L + 2) (-1))
theorem qDt4_f (L : LWS) (cu x d v : Int32) : ls_n (qDt4 L cu x d v) = upd (ls_n L) 0 (ls_n L 0 + 1) ∧ ls_p (qDt4 L cu x d v) = upd (ls_p L) (lK L) x ∧ ls_c (qDt4 L cu x d v) = upd (ls_c L) (lK L) (10 + cu) ∧ ls_t (qDt4 L cu x d v) = upd (ls_t L) (lK L) (ls_n L 1 + d) ∧ ls_w (qDt4 L cu x d v) = vp_updL (ls_w L) (lK L) (Int32.toInt64 x * Int32.toInt64 (ls_n L 3)) ∧ ls_d (qDt4 L cu x d v) = upd (upd (upd (ls_d L) (3 * lK L) d) (3 * lK L + 1) v) (3 * lK L + 2) (-1) ∧ ls_q (qDt4 L cu x d v) = ls_q L ∧ ls_g (qDt4 L cu x d v) = ls_g L ∧ ls_f (qDt4 L cu x d v) = ls_f L ∧ ls_e (qDt4 L cu x d v) = ls_e L := ⟨rfl, rfl, rfl, rfl, rfl, rfl, rfl, rfl, rfl, rfl⟩
section NW
variable {S : CS} {M : MS} {L : LWS}
theorem mOp_f (M : MS) (cu x : Int32) : (ms_n (mOp (mT0 M) cu x) = ms_n M + 1 ∧ ms_rates (mOp (mT0 M) cu x) = ms_rates M ∧ ms_paid (mOp (mT0 M) cu x) = ms_paid M ∧ ms_lost (mOp (mT0 M) cu x) = ms_lost M ∧ ms_bb (mOp (mT0 M) cu x) = ms_bb M ∧ ms_tr (mOp (mT0 M) cu x) = ms_tr M ∧ ms_now (mOp (mT0 M) cu x) = ms_now M) ∧ ms_th (mOp (mT0 M) cu x) = upd (ms_th M) (ms_n M) (1 &&& 1) ∧ ms_te (mOp (mT0 M) cu x) = upd (ms_te M) (ms_n M) (0 &&& 1) ∧ ms_ow (mOp (mT0 M) cu x) = upd (ms_ow M) (ms_n M) cu ∧ ms_pr (mOp (mT0 M) cu x) = upd (ms_pr M) (ms_n M) x ∧ ms_ea (mOp (mT0 M) cu x) = vp_updL (ms_ea M) (ms_n M) 0 ∧ ms_fz (mOp (mT0 M) cu x) = upd (ms_fz M) (ms_n M) 0 ∧ (∀ q, q ≠ ms_n M → sam M (mOp (mT0 M) cu x) q) :=
  ⟨⟨rfl, rfl, rfl, rfl, rfl, rfl, rfl⟩, rfl, rfl, rfl, rfl, rfl, rfl, fun q hq => ⟨upd_ne hq, upd_ne hq, upd_ne hq, upd_ne hq, upd_ne hq, rfl, rfl, rfl, rfl, upd_ne hq, updL_ne hq, rfl⟩⟩
theorem n_succ (r : RelL M L) : ls_n L 0 + 1 = nI (ms_n M + 1) := by rw [r.1]; exact nI_1 _
theorem cu_m {cu : Int32} (h : vp_in cu 4) : ¬ mCu cu = 0 := by
  obtain ⟨k, hk, rfl⟩ := vp_in_of h (by decide)
  rcases k with _ | _ | _ | _ | k
  · decide
  · decide
  · decide
  · decide
  · omega
theorem in_m {x lo hi : Int32} (h1 : lo.toInt ≤ x.toInt) (h2 : x.toInt ≤ hi.toInt) : ¬ mIn x lo hi = 0 := by
  rw [mIn, if_neg (by rw [i_lt]; omega), if_neg (by rw [i_lt]; omega)]
  decide
theorem in_m1 {x : Int32} (h1 : 1 ≤ x.toInt) (h2 : x.toInt ≤ 10000000) : ¬ mIn x 1 10000000 = 0 := in_m (show (1 : Int32).toInt ≤ x.toInt from h1) (show x.toInt ≤ (10000000 : Int32).toInt from h2)
theorem in_m2 {x : Int32} (h1 : 1 ≤ x.toInt) (h2 : x.toInt ≤ 400) : ¬ mIn x 1 400 = 0 := in_m (show (1 : Int32).toInt ≤ x.toInt from h1) (show x.toInt ≤ (400 : Int32).toInt from h2)
theorem in_m3 {x : Int32} (h1 : 0 ≤ x.toInt) (h2 : x.toInt ≤ 2000) : ¬ mIn x 0 2000 = 0 := in_m (show (0 : Int32).toInt ≤ x.toInt from h1) (show x.toInt ≤ (2000 : Int32).toInt from h2)
theorem n_ne40 (r : RelL M L) (hn : ms_n M < 20) : ¬ nI (ms_n M) = 40 := fun q => by
  rw [show (40 : Int32) = nI 40 from rfl, nI_eq (by omega) (by omega)] at q
  omega
theorem op_deposit (h : Rel S M) (r : RelL M L) (hn : ms_n M < 20) {cu x : Int32} (hcu : vp_in cu 4) (h1 : 1 ≤ x.toInt) (h2 : x.toInt ≤ 10000000) (q : Nat) : dpC S cu x = 0 ∧ Rl (dpS S q cu x) (qDpL L cu x) := by
  have s := sim_deposit h q cu x
  have hk : kDp M cu x = 0 := by rw [kDp, if_neg (cu_m hcu), if_neg (in_m1 h1 h2), if_neg (n_ne40 r hn)]
  obtain ⟨s1, s2, s3⟩ := s.ok hk
  refine ⟨s1, _, s3, ?_⟩
  obtain ⟨m0, m1, m2, m3, m4, m5, m6, m7⟩ := mOp_f M cu x
  have k := r.k
  refine RelL.new r hn m0 m7 (n_succ r) rfl rfl rfl rfl rfl (fun z hz => ?_) ?_
  · rw [← k] at hz
    exact ⟨⟨upd_ne hz, rfl, rfl, rfl, rfl, rfl, rfl, rfl⟩, upd_ne hz⟩
  · have f := r.fr (Nat.le_refl _) hn
    have e1 : ls_c (qDpL L cu x) (ms_n M) = cu := by rw [← k]; exact upd_self _ _ _
    have e2 : ls_p (qDpL L cu x) (ms_n M) = x := by rw [← k]; exact upd_self _ _ _
    unfold relC
    rw [m1, m2, m3, m4, m5, m6, upd_self, upd_self, upd_self, upd_self, updL_self, upd_self, e1, e2]
    exact ⟨fun _ => rfl, fun z => absurd rfl z, fun z => absurd z (by decide), fun _ => ⟨rfl, f.2.2, fun _ => ⟨f.2.1, fun z => absurd rfl z⟩, fun z => absurd rfl z⟩⟩
theorem mDt_sam (M : MS) (cu x d v : Int32) : ∀ q, q ≠ ms_n M → sam M (mDt (mT0 M) cu x d v) q := fun q hq => by
  have hq2 : q ≠ ms_n (mT0 M) := hq
  unfold sam
  rw [mDt_th, mDt_te, mDt_ow, mDt_pr, mDt_fz, mDt_nd, mDt_le, mDt_en, mDt_ins, mDt_bg, mDt_ea, mDt_tp, upd_ne hq2, upd_ne hq2, upd_ne hq2, upd_ne hq2, upd_ne hq2, upd_ne hq2, upd_ne hq2, upd_ne hq2, upd_ne hq2, upd_ne hq2, updL_ne hq2, updL_ne hq2]
  exact ⟨rfl, rfl, rfl, rfl, rfl, rfl, rfl, rfl, rfl, rfl, rfl, rfl⟩
theorem op_depositTerm (h : Rel S M) (r : RelL M L) (hn : ms_n M < 20) {cu x d v : Int32} (hcu : vp_in cu 4) (h1 : 1 ≤ x.toInt) (h2 : x.toInt ≤ 10000000) (h3 : 1 ≤ d.toInt) (h4 : d.toInt ≤ 400) (hv : v = 0 ∨ v = 1 ∨ v = 2) (q : Nat) : dtC S cu x d v = 0 ∧ Rl (dtS S q cu x d v) (qDt4 L cu x d v) := by
  have s := sim_depositTerm h q cu x d v
  have hin : ¬ mIn v 0 2 = 0 := by rcases hv with e | e | e <;> subst e <;> decide
  have hk : kDt M cu x d v = 0 := by rw [kDt, if_neg (cu_m hcu), if_neg (in_m1 h1 h2), if_neg (in_m2 h3 h4), if_neg hin, if_neg (n_ne40 r hn)]
  obtain ⟨s1, s2, s3⟩ := s.ok hk
  refine ⟨s1, _, s3, ?_⟩
  have k := r.k
  obtain ⟨l1, l2, l3, l4, l5, l6, l7, l8, l9, l10⟩ := qDt4_f L cu x d v
  have m0 := @mDt_o (mT0 M) cu x d v
  refine RelL.new r hn m0 (mDt_sam M cu x d v) (by rw [l1]; exact (upd_self _ _ _).trans (n_succ r)) (by rw [l1]; exact upd_ne (by decide)) (by rw [l1]; exact upd_ne (by decide)) (by rw [l1]; exact upd_ne (by decide)) l7 l8 (fun z hz => ?_) ?_
  · rw [← k] at hz
    unfold samL
    rw [l2, l3, l4, l5, l6, l9, l10, upd_ne hz, upd_ne hz, upd_ne hz, updL_ne hz, upd_ne (show 3 * z ≠ 3 * lK L + 2 by omega), upd_ne (show 3 * z ≠ 3 * lK L + 1 by omega), upd_ne (show 3 * z ≠ 3 * lK L by omega), upd_ne (show 3 * z + 1 ≠ 3 * lK L + 2 by omega), upd_ne (show 3 * z + 1 ≠ 3 * lK L + 1 by omega), upd_ne (show 3 * z + 1 ≠ 3 * lK L by omega), upd_ne (show 3 * z + 2 ≠ 3 * lK L + 2 by omega), upd_ne (show 3 * z + 2 ≠ 3 * lK L + 1 by omega), upd_ne (show 3 * z + 2 ≠ 3 * lK L by omega)]
    exact ⟨⟨rfl, rfl, rfl, rfl, rfl, rfl, rfl, rfl⟩, rfl⟩
  · have f := r.fr (Nat.le_refl _) hn
    have e0 : ms_n (mT0 M) = ms_n M := rfl
    have e1 : ms_now (mT0 M) = ms_now M := rfl
    have e2 : ms_tr (mT0 M) = ms_tr M := rfl
    have g3 : ls_n L 3 = ms_tr M := r.2.2.2.2.1
    have g1 : ls_n L 1 = ms_now M := r.2.2.1
    have w1 : ls_c (qDt4 L cu x d v) (ms_n M) = 10 + cu := by rw [l3, k, upd_self]
    have w2 : ls_p (qDt4 L cu x d v) (ms_n M) = x := by rw [l2, k, upd_self]
    have w3 : ls_t (qDt4 L cu x d v) (ms_n M) = ms_now M + d := by rw [l4, k, upd_self, g1]
    have w4 : ls_w (qDt4 L cu x d v) (ms_n M) = Int32.toInt64 x * Int32.toInt64 (ms_tr M) := by rw [l5, k, updL_self, g3]
    have w5 : ls_d (qDt4 L cu x d v) (3 * ms_n M) = d := by rw [l6, k, upd_ne (by omega), upd_ne (by omega), upd_self]
    have w6 : ls_d (qDt4 L cu x d v) (3 * ms_n M + 1) = v := by rw [l6, k, upd_ne (by omega), upd_self]
    have w7 : ls_d (qDt4 L cu x d v) (3 * ms_n M + 2) = -1 := by rw [l6, k, upd_self]
    have w8 : ls_e (qDt4 L cu x d v) (ms_n M) = 0 := by rw [l10]; exact f.2.2
    unfold relC
    rw [mDt_th, mDt_te, mDt_ow, mDt_pr, mDt_fz, mDt_le, mDt_en, mDt_ins, mDt_bg, mDt_ea, mDt_tp, e0, e1, e2, w1, w2, w3, w4, w5, w6, w7, w8]
    simp only [upd_self, updL_self]
    exact ⟨fun z => absurd z (by decide), fun _ => trivial, fun z => absurd z (by decide), fun _ => ⟨trivial, trivial, fun z => absurd z (by decide), fun _ => ⟨trivial, trivial, trivial, trivial, trivial, hv⟩⟩⟩
def qStL (L : LWS) (b z : Int32) : LWS := ls_set_q L (upd (ls_q L) b.toNatClampNeg z)
theorem op_setRate (h : Rel S M) (r : RelL M L) {b z : Int32} (hb : vp_in b 3) (h1 : 0 ≤ z.toInt) (h2 : z.toInt ≤ 2000) : stC b z = 0 ∧ cs_rates S b.toNatClampNeg = ls_q L b.toNatClampNeg ∧ Rl (cs_set_rates S (upd (cs_rates S) b.toNatClampNeg z)) (qStL L b z) := by
  have s := sim_setRate h b z
  have hb2 : ¬ mIn b 0 2 = 0 := by
    obtain ⟨k, hk, rfl⟩ := vp_in_of hb (by decide)
    rcases k with _ | _ | _ | k
    · decide
    · decide
    · decide
    · omega
  have hk : kSt b z = 0 := by rw [kSt, if_neg hb2, if_neg (in_m3 h1 h2)]
  obtain ⟨s1, s2, s3⟩ := s.ok hk
  have e : ls_q L = ms_rates M := r.2.2.2.2.2.1
  refine ⟨s1, by rw [e]; exact t64_inj s2, _, s3, ?_⟩
  obtain ⟨r1, r2, r3, r4, r5, r6, r7, r8, r9⟩ := r
  exact ⟨r1, r2, r3, r4, r5, congrArg (fun f => upd f b.toNatClampNeg z) r6, r7, r8, r9⟩
def qNs (L : LWS) (k : Nat) (z : Int32) : LWS := ls_set_n L (upd (ls_n L) k z)
theorem qNs_n (L : LWS) (k : Nat) (z : Int32) : ls_n (qNs L k z) = upd (ls_n L) k z := rfl
theorem op_setByBands (h : Rel S M) (r : RelL M L) {z : Int32} (hz : z = 0 ∨ z = 1) : cs_bb S = ls_n L 2 ∧ (cs_bb S = 0 ∨ cs_bb S = 1) ∧ Rl (cs_set_bb S z) (qNs L 2 z) := by
  have s := sim_setByBands h hz
  obtain ⟨r1, r2, r3, r4, r5, r6, r7, r8, r9⟩ := r
  refine ⟨by rw [r4]; exact s.1, h.2.2.2.2.2.2.2.2.2.1, _, s.2, ?_⟩
  exact ⟨by rw [qNs_n, upd_ne (by decide)]; exact r1, r2, by rw [qNs_n, upd_ne (by decide)]; exact r3, by rw [qNs_n, upd_self], by rw [qNs_n, upd_ne (by decide)]; exact r5, r6, r7, r8, r9⟩
theorem op_setTermRate (h : Rel S M) (r : RelL M L) {z : Int32} (h1 : 0 ≤ z.toInt) (h2 : z.toInt ≤ 2000) : demR z 0 2000 = 0 ∧ cs_tr S = ls_n L 3 ∧ Rl (cs_set_tr S z) (qNs L 3 z) := by
  have s := sim_setTermRate h z
  have hk : kTr z = 0 := by rw [kTr, if_neg (in_m3 h1 h2)]
  obtain ⟨s1, s2, s3⟩ := s.ok hk
  obtain ⟨r1, r2, r3, r4, r5, r6, r7, r8, r9⟩ := r
  refine ⟨s1, by rw [r5]; exact t64_inj s2, _, s3, ?_⟩
  exact ⟨by rw [qNs_n, upd_ne (by decide)]; exact r1, r2, by rw [qNs_n, upd_ne (by decide)]; exact r3, by rw [qNs_n, upd_ne (by decide)]; exact r4, by rw [qNs_n, upd_self], r6, r7, r8, r9⟩
end NW
