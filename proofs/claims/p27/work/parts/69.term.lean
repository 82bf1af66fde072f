/-! the end of a term -/
def rnw (r : LR) (pa : Int64) (en rn : Int32) : LR := lr_set_rn (lr_set_en (lr_set_pa r pa) en) rn
section RNW
variable (r : LR) (pa e : Int64) (en rn p : Int32)
theorem relL_rnw {day th te ow pr fz nd le ins : Int32} {ea : Int64} (h1 : lr_cu r = ow) (h2 : bT r = te) (h3 : ¬ lr_pr r ≤ 0) (h3t : ¬ th = 0) (h4 : ¬ bT r = 0) (h5 : lr_pr r = pr) (h6 : lr_ea r = ea) (h7 : lr_td r = le) (h8 : lr_ins r = ins) (h9 : lr_fz r = 0) (h10 : 1 ≤ (lr_td r).toInt ∧ (lr_td r).toInt ≤ 400) (h11 : 0 ≤ (lr_ea r).toInt) (h12 : 0 ≤ rn.toInt ∧ rn.toInt ≤ day.toInt) (h13 : 0 ≤ pa.toInt ∧ pa.toInt ≤ 2000 * (lr_pr r).toInt) : relL (rnw r pa en rn) day th te ow pr fz nd le en ins rn ea pa :=
  ⟨h1, h2, ⟨fun k => absurd k h3, fun k => absurd k h3t⟩, fun _ => ⟨h5, h6, fun k => absurd k h4, fun _ => ⟨rfl, h7, rfl, h8, rfl, h9, h10, Or.inr h12, h13.1, h13.2, h11⟩⟩⟩
theorem wP_rnw : wP (rnw r pa en rn) = wP r := rfl
theorem sea_ins : lr_ins (lr_set_ea r e) = lr_ins r := rfl
theorem sea_fz : lr_fz (lr_set_ea r e) = lr_fz r := rfl
end RNW
section ET
variable {S : CS} {i : Nat}
theorem bgt1_lt : cs_lt (bgt1 S i) = va_up (cs_lt S) i (lr_set_pa (cs_lt S i) (Int32.toInt64 (lr_pr (cs_lt S i)) * Int32.toInt64 (cs_tr S))) := rfl
theorem bgt_lt0 : cs_lt (bgt S i) = va_up (cs_lt (bgt1 S i)) i (lr_set_en (cs_lt (bgt1 S i) i) (cs_day (bgt1 S i) + lr_td (cs_lt (bgt1 S i) i))) := rfl
theorem et2_lt0 : cs_lt (et2 S i) = va_up (cs_lt S) i (lr_set_rn (cs_lt S i) (cs_day S)) := rfl
theorem bgt1_day : cs_day (bgt1 S i) = cs_day S := rfl
theorem bgt_day : cs_day (bgt S i) = cs_day S := rfl
theorem spa_td (r : LR) (v : Int64) : lr_td (lr_set_pa r v) = lr_td r := rfl
theorem et2_lt : cs_lt (et2 (bgt S i) i) = va_up (cs_lt S) i (rnw (cs_lt S i) (Int32.toInt64 (lr_pr (cs_lt S i)) * Int32.toInt64 (cs_tr S)) (cs_day S + lr_td (cs_lt S i)) (cs_day S)) := by
  have a : cs_lt (bgt1 S i) i = lr_set_pa (cs_lt S i) (Int32.toInt64 (lr_pr (cs_lt S i)) * Int32.toInt64 (cs_tr S)) := by rw [bgt1_lt, va_up_self]
  have b : cs_lt (bgt S i) = va_up (cs_lt S) i (lr_set_en (lr_set_pa (cs_lt S i) (Int32.toInt64 (lr_pr (cs_lt S i)) * Int32.toInt64 (cs_tr S))) (cs_day S + lr_td (cs_lt S i))) := by
    rw [bgt_lt0, a, bgt1_lt, va_up_two, bgt1_day, spa_td]
  have d : cs_lt (bgt S i) i = lr_set_en (lr_set_pa (cs_lt S i) (Int32.toInt64 (lr_pr (cs_lt S i)) * Int32.toInt64 (cs_tr S))) (cs_day S + lr_td (cs_lt S i)) := by rw [b, va_up_self]
  rw [et2_lt0, d, b, va_up_two, bgt_day, rnw]
theorem et2_paid : cs_paid (et2 (bgt S i) i) = cs_paid S := rfl
theorem et2_lost : cs_lost (et2 (bgt S i) i) = cs_lost S := rfl
theorem mix_lt {c : Prop} [Decidable c] {S A B : CS} : cs_lt (mixS c S A B) = if c then cs_lt A else cs_lt B := rfl
theorem mix_paid {c : Prop} [Decidable c] {S A B : CS} : cs_paid (mixS c S A B) = if c then cs_paid A else cs_paid B := rfl
theorem mix_lost {c : Prop} [Decidable c] {S A B : CS} : cs_lost (mixS c S A B) = if c then cs_lost A else cs_lost B := rfl
theorem etX_0 (h : lr_ins (cs_lt S i) = 0) : cs_lt (etX S i) = cs_lt (poS S i (lr_pr (cs_lt S i))) ∧ cs_paid (etX S i) = cs_paid (poS S i (lr_pr (cs_lt S i))) ∧ cs_lost (etX S i) = cs_lost (poS S i (lr_pr (cs_lt S i))) := by
  rw [etX]
  exact ⟨mix_lt.trans (if_pos h), mix_paid.trans (if_pos h), mix_lost.trans (if_pos h)⟩
theorem etX_1 (h0 : ¬ lr_ins (cs_lt S i) = 0) (h : lr_ins (cs_lt S i) = 1) : cs_lt (etX S i) = cs_lt (et2 (bgt (pinS S i) i) i) ∧ cs_paid (etX S i) = cs_paid (pinS S i) ∧ cs_lost (etX S i) = cs_lost S := by
  rw [etX]
  exact ⟨mix_lt.trans ((if_neg h0).trans (mix_lt.trans (if_pos h))), mix_paid.trans ((if_neg h0).trans (mix_paid.trans ((if_pos h).trans et2_paid))), mix_lost.trans ((if_neg h0).trans (mix_lost.trans ((if_pos h).trans (et2_lost.trans pin_lost))))⟩
theorem et1_lt : cs_lt (et1 S i) = va_up (cs_lt S) i (lr_set_pr (drwR (cs_lt S i)) (lr_pr (cs_lt S i) + drwC (cs_lt S i))) := rfl
theorem et1_paid : cs_paid (et1 S i) = cs_paid S := rfl
theorem et1_lost : cs_lost (et1 S i) = cs_lost S := rfl
theorem etX_2 (h0 : ¬ lr_ins (cs_lt S i) = 0) (h : ¬ lr_ins (cs_lt S i) = 1) : cs_lt (etX S i) = cs_lt (et2 (bgt (et1 S i) i) i) ∧ cs_paid (etX S i) = cs_paid S ∧ cs_lost (etX S i) = cs_lost S := by
  rw [etX]
  exact ⟨mix_lt.trans ((if_neg h0).trans (mix_lt.trans (if_neg h))), mix_paid.trans ((if_neg h0).trans (mix_paid.trans ((if_neg h).trans (et2_paid.trans et1_paid)))), mix_lost.trans ((if_neg h0).trans (mix_lost.trans ((if_neg h).trans (et2_lost.trans et1_lost))))⟩
theorem et_sc : scS S (etX S i) := ⟨fx_etX S i, rfl, rfl, rfl, rfl⟩
theorem pin_tr : cs_tr (pinS S i) = cs_tr S := rfl
theorem pin_day : cs_day (pinS S i) = cs_day S := rfl
theorem et1_tr : cs_tr (et1 S i) = cs_tr S := rfl
theorem et1_day : cs_day (et1 S i) = cs_day S := rfl
end ET
section MET
variable (M : MS) (j : Nat)
def mRn (M : MS) (j : Nat) : MS := mEt3 (mBt M j) j
theorem mBt_f : ms_paid (mBt M j) = ms_paid M ∧ ms_lost (mBt M j) = ms_lost M ∧ scM M (mBt M j) ∧ (∀ q, q ≠ j → sam M (mBt M j) q) ∧ ms_th (mBt M j) = ms_th M ∧ ms_pr (mBt M j) = ms_pr M ∧ ms_fz (mBt M j) = ms_fz M ∧ ms_nd (mBt M j) = ms_nd M ∧ ms_le (mBt M j) = ms_le M ∧ ms_ins (mBt M j) = ms_ins M ∧ ms_ea (mBt M j) = ms_ea M ∧ ms_bg (mBt M j) = ms_bg M ∧ ms_en (mBt M j) = upd (ms_en M) j (ms_now M + ms_le M j) ∧ ms_tp (mBt M j) = vp_updL (ms_tp M) j (Int32.toInt64 (ms_pr M j) * Int32.toInt64 (ms_tr M)) :=
  ⟨rfl, rfl, ⟨rfl, rfl, rfl, rfl, rfl, rfl, rfl⟩, fun q hq => ⟨rfl, rfl, rfl, rfl, rfl, rfl, rfl, upd_ne hq, rfl, rfl, rfl, updL_ne hq⟩, rfl, rfl, rfl, rfl, rfl, rfl, rfl, rfl, rfl, rfl⟩
theorem mEt3_f : ms_paid (mEt3 M j) = ms_paid M ∧ ms_lost (mEt3 M j) = ms_lost M ∧ scM M (mEt3 M j) ∧ (∀ q, q ≠ j → sam M (mEt3 M j) q) ∧ ms_th (mEt3 M j) = ms_th M ∧ ms_pr (mEt3 M j) = ms_pr M ∧ ms_fz (mEt3 M j) = ms_fz M ∧ ms_nd (mEt3 M j) = ms_nd M ∧ ms_le (mEt3 M j) = ms_le M ∧ ms_ins (mEt3 M j) = ms_ins M ∧ ms_ea (mEt3 M j) = ms_ea M ∧ ms_bg (mEt3 M j) = upd (ms_bg M) j (ms_now M) ∧ ms_en (mEt3 M j) = ms_en M ∧ ms_tp (mEt3 M j) = ms_tp M :=
  ⟨rfl, rfl, ⟨rfl, rfl, rfl, rfl, rfl, rfl, rfl⟩, fun q hq => ⟨rfl, rfl, rfl, rfl, rfl, rfl, rfl, rfl, rfl, upd_ne hq, rfl, rfl⟩, rfl, rfl, rfl, rfl, rfl, rfl, rfl, rfl, rfl, rfl⟩
theorem mRn_f : ms_paid (mRn M j) = ms_paid M ∧ ms_lost (mRn M j) = ms_lost M ∧ scM M (mRn M j) ∧ (∀ q, q ≠ j → sam M (mRn M j) q) ∧ ms_th (mRn M j) = ms_th M ∧ ms_pr (mRn M j) = ms_pr M ∧ ms_fz (mRn M j) = ms_fz M ∧ ms_nd (mRn M j) = ms_nd M ∧ ms_le (mRn M j) = ms_le M ∧ ms_ins (mRn M j) = ms_ins M ∧ ms_ea (mRn M j) = ms_ea M ∧ ms_bg (mRn M j) j = ms_now M ∧ ms_en (mRn M j) j = ms_now M + ms_le M j ∧ ms_tp (mRn M j) j = Int32.toInt64 (ms_pr M j) * Int32.toInt64 (ms_tr M) := by
  obtain ⟨a1, a2, a3, a4, a5, a6, a7, a8, a9, a10, a11, a12, a13, a14⟩ := mBt_f M j
  obtain ⟨b1, b2, b3, b4, b5, b6, b7, b8, b9, b10, b11, b12, b13, b14⟩ := mEt3_f (mBt M j) j
  rw [mRn]
  refine ⟨b1.trans a1, b2.trans a2, a3.tr b3, fun q hq => (a4 q hq).tr (b4 q hq), b5.trans a5, b6.trans a6, b7.trans a7, b8.trans a8, b9.trans a9, b10.trans a10, b11.trans a11, ?_, ?_, ?_⟩
  · rw [b12, upd_self]; exact a3.2.2.2.2.1
  · rw [b13, a13, upd_self]
  · rw [b14, a14, updL_self]
theorem mEt1_f : ms_paid (mEt1 M j) = vp_updL (ms_paid M) (ms_ow M j).toNatClampNeg (ms_paid M (ms_ow M j).toNatClampNeg + (Int32.toInt64 (ms_pr M j) + Int32.toInt64 (mTiC M j))) ∧ ms_lost (mEt1 M j) = ms_lost (mEn M j) ∧ scM M (mEt1 M j) ∧ (∀ q, q ≠ j → sam M (mEt1 M j) q) ∧ ms_th (mEt1 M j) j = 0 := by
  have a := mEn_sc M j
  have b := mEn_sam M j
  have c := mEn_th M j
  have d := mEn_paid M j
  rw [mEt1]
  generalize mEn M j = N at *
  refine ⟨?_, rfl, a.tr ⟨rfl, rfl, rfl, rfl, rfl, rfl, rfl⟩, fun q hq => (b q hq).tr ⟨rfl, rfl, rfl, rfl, rfl, rfl, rfl, rfl, rfl, rfl, rfl, rfl⟩, c⟩
  show vp_updL (ms_paid N) (ms_ow N j).toNatClampNeg (ms_paid N (ms_ow N j).toNatClampNeg + _) = _
  rw [d, a.2.2.2.2.2.1]
theorem mEt2_f : ms_paid (mEt2 M j) = ms_paid M ∧ ms_lost (mEt2 M j) = ms_lost M ∧ scM M (mEt2 M j) ∧ (∀ q, q ≠ j → sam M (mEt2 M j) q) ∧ ms_th (mEt2 M j) = ms_th M ∧ ms_pr (mEt2 M j) j = ms_pr M j + mTiC M j ∧ ms_ea (mEt2 M j) j = ms_ea M j - ms_ea M j / 3650000 * 3650000 ∧ ms_le (mEt2 M j) = ms_le M ∧ ms_ins (mEt2 M j) = ms_ins M := by
  have a := mTi_f M j
  have e := mTi_ea M j
  have f : ms_th (mTi M j) = ms_th M ∧ ms_pr (mTi M j) = ms_pr M ∧ ms_le (mTi M j) = ms_le M ∧ ms_ins (mTi M j) = ms_ins M := ⟨rfl, rfl, rfl, rfl⟩
  rw [mEt2]
  generalize mTi M j = N at *
  obtain ⟨f1, f2, f3, f4⟩ := f
  refine ⟨a.1, a.2.1, a.2.2.1.tr ⟨rfl, rfl, rfl, rfl, rfl, rfl, rfl⟩, fun q hq => (a.2.2.2 q hq).tr ⟨rfl, rfl, rfl, upd_ne hq, rfl, rfl, rfl, rfl, rfl, rfl, rfl, rfl⟩, f1, ?_, e, f3, f4⟩
  show upd (ms_pr N) j (ms_pr N j + mTiC M j) j = _
  rw [upd_self, f2]
def mSp (M : MS) (j : Nat) : MS := mPa (mTi M j) (ms_ow (mTi M j) j) (mTiC M j)
theorem mSp_f : ms_paid (mSp M j) = vp_updL (ms_paid M) (ms_ow M j).toNatClampNeg (ms_paid M (ms_ow M j).toNatClampNeg + Int32.toInt64 (mTiC M j)) ∧ ms_lost (mSp M j) = ms_lost M ∧ scM M (mSp M j) ∧ (∀ q, q ≠ j → sam M (mSp M j) q) ∧ ms_th (mSp M j) = ms_th M ∧ ms_pr (mSp M j) = ms_pr M ∧ ms_ea (mSp M j) j = ms_ea M j - ms_ea M j / 3650000 * 3650000 ∧ ms_le (mSp M j) = ms_le M ∧ ms_ins (mSp M j) = ms_ins M := by
  have a := mTi_f M j
  have e := mTi_ea M j
  have f : ms_th (mTi M j) = ms_th M ∧ ms_pr (mTi M j) = ms_pr M ∧ ms_le (mTi M j) = ms_le M ∧ ms_ins (mTi M j) = ms_ins M ∧ ms_ow (mTi M j) = ms_ow M := ⟨rfl, rfl, rfl, rfl, rfl⟩
  rw [mSp]
  generalize mTi M j = N at *
  obtain ⟨f1, f2, f3, f4, f5⟩ := f
  refine ⟨?_, a.2.1, a.2.2.1.tr (mPa_sc _ _ _), fun q hq => (a.2.2.2 q hq).tr (mPa_sam _ _ _ q), f1, f2, e, f3, f4⟩
  rw [mPa_paid, a.1, f5]
theorem mEt_0 (h : ms_ins M j = 0) : mEt M j = mEt1 M j := by rw [mEt, if_pos h]
theorem mEt_1 (h0 : ¬ ms_ins M j = 0) (h : ms_ins M j = 1) : mEt M j = mRn (mSp M j) j := by
  have e : ms_ins (mTi M j) j = 1 := h
  rw [mEt, if_neg h0, if_pos e, mRn, mSp]
theorem mEt_2 (h0 : ¬ ms_ins M j = 0) (h : ¬ ms_ins M j = 1) : mEt M j = mRn (mEt2 M j) j := by
  have e : ¬ ms_ins (mTi M j) j = 1 := h
  rw [mEt, if_neg h0, if_neg e, mRn]
end MET
section ETS
variable {X : CS} {Y : MS} {i : Nat}
def EtG (X : CS) (Y : MS) (i : Nat) : Prop := ∃ r, cs_lt (etX X i) = va_up (cs_lt X) i r ∧ cs_paid (etX X i) = ms_paid (mEt Y i) ∧ cs_lost (etX X i) = ms_lost (mEt Y i) ∧ scM Y (mEt Y i) ∧ (∀ q, q ≠ i → sam Y (mEt Y i) q) ∧ relL r (cs_day X) (ms_th (mEt Y i) i) (ms_te (mEt Y i) i) (ms_ow (mEt Y i) i) (ms_pr (mEt Y i) i) (ms_fz (mEt Y i) i) (ms_nd (mEt Y i) i) (ms_le (mEt Y i) i) (ms_en (mEt Y i) i) (ms_ins (mEt Y i) i) (ms_bg (mEt Y i) i) (ms_ea (mEt Y i) i) (ms_tp (mEt Y i) i) ∧ wP r ≤ wP (cs_lt X i)
theorem drwR_ins (r : LR) : lr_ins (drwR r) = lr_ins r := sea_ins r _
theorem drwR_fz (r : LR) : lr_fz (drwR r) = lr_fz r := sea_fz r _
theorem et_sim0 (hcu : vp_in (lr_cu (cs_lt X i)) 4) (hp : cs_paid X = ms_paid Y) (hl : cs_lost X = ms_lost Y) (htr : cs_tr X = ms_tr Y) (hday : cs_day X = ms_now Y) (hin : in2k (cs_tr X)) (hd : 0 ≤ (cs_day X).toInt) (h1 : lr_cu (cs_lt X i) = ms_ow Y i) (h2 : bT (cs_lt X i) = ms_te Y i) (h3 : ¬ lr_pr (cs_lt X i) ≤ 0) (h3t : ¬ ms_th Y i = 0) (h4 : ¬ bT (cs_lt X i) = 0) (h5 : lr_pr (cs_lt X i) = ms_pr Y i) (h6 : lr_ea (cs_lt X i) = ms_ea Y i) (h7 : lr_td (cs_lt X i) = ms_le Y i) (h8 : lr_ins (cs_lt X i) = ms_ins Y i) (h9 : lr_fz (cs_lt X i) = 0) (h10 : 1 ≤ (lr_td (cs_lt X i)).toInt ∧ (lr_td (cs_lt X i)).toInt ≤ 400) (h11 : 0 ≤ (lr_ea (cs_lt X i)).toInt) (h12 : (lr_pr (cs_lt X i)).toInt * 3650000 + (lr_ea (cs_lt X i)).toInt < 7838315000000000) (c0 : lr_ins (cs_lt X i) = 0) : EtG X Y i := by
  unfold EtG
  have a := alive_b h3
  have hw := wP_term h3 h4
  obtain ⟨cC, hCd, hcC⟩ : ∃ c, drwC (cs_lt X i) = c ∧ c.toInt = (lr_ea (cs_lt X i)).toInt / 3650000 := ⟨_, rfl, (cents h11 (by omega)).1⟩
  obtain ⟨cR, hRd, hcR⟩ : ∃ e, remR (cs_lt X i) = e ∧ e.toInt = (lr_ea (cs_lt X i)).toInt % 3650000 := ⟨_, rfl, (cents h11 (by omega)).2⟩
  have hC : cC = mTiC Y i := by rw [← hCd, drwC, h6, mTiC]
  have hR : cR = ms_ea Y i - ms_ea Y i / 3650000 * 3650000 := by rw [← hRd, remR, h6]
  obtain ⟨e1, e2, e3⟩ := etX_0 c0
  have hz : lr_pr (cs_lt X i) - lr_pr (cs_lt X i) ≤ 0 := by rw [Int32.sub_self]; decide
  obtain ⟨u1, u2, u3, u4⟩ := po_dead hcu hz
  rw [mEt_0 Y i (h8.symm.trans c0)]
  obtain ⟨m1, m2, m3, m4, m5⟩ := mEt1_f Y i
  have hz2 : lr_pr (dieR (cs_lt X i) (lr_pr (cs_lt X i))) ≤ 0 := by rw [die_pr]; exact hz
  refine ⟨_, e1.trans u1, ?_, ?_, m3, m4, relL_dead ?_ ?_ hz2 m5, ?_⟩
  · rw [e2, u2, m1, hp, h1, h5, hCd, hC, Int64.add_assoc]
  · rw [e3, u3, m2, mEn_lost, hl, h1, hRd, hR]
  · rw [die_cu, h1, m3.2.2.2.2.2.1]
  · rw [die_bT, h2, m3.2.2.2.2.2.2]
  · rw [wP_dead hz2, hw]; omega
theorem et_sim1 (hcu : vp_in (lr_cu (cs_lt X i)) 4) (hp : cs_paid X = ms_paid Y) (hl : cs_lost X = ms_lost Y) (htr : cs_tr X = ms_tr Y) (hday : cs_day X = ms_now Y) (hin : in2k (cs_tr X)) (hd : 0 ≤ (cs_day X).toInt) (h1 : lr_cu (cs_lt X i) = ms_ow Y i) (h2 : bT (cs_lt X i) = ms_te Y i) (h3 : ¬ lr_pr (cs_lt X i) ≤ 0) (h3t : ¬ ms_th Y i = 0) (h4 : ¬ bT (cs_lt X i) = 0) (h5 : lr_pr (cs_lt X i) = ms_pr Y i) (h6 : lr_ea (cs_lt X i) = ms_ea Y i) (h7 : lr_td (cs_lt X i) = ms_le Y i) (h8 : lr_ins (cs_lt X i) = ms_ins Y i) (h9 : lr_fz (cs_lt X i) = 0) (h10 : 1 ≤ (lr_td (cs_lt X i)).toInt ∧ (lr_td (cs_lt X i)).toInt ≤ 400) (h11 : 0 ≤ (lr_ea (cs_lt X i)).toInt) (h12 : (lr_pr (cs_lt X i)).toInt * 3650000 + (lr_ea (cs_lt X i)).toInt < 7838315000000000) (c0 : ¬ lr_ins (cs_lt X i) = 0) (c1 : lr_ins (cs_lt X i) = 1) : EtG X Y i := by
  unfold EtG
  have a := alive_b h3
  have hw := wP_term h3 h4
  obtain ⟨cC, hCd, hcC⟩ : ∃ c, drwC (cs_lt X i) = c ∧ c.toInt = (lr_ea (cs_lt X i)).toInt / 3650000 := ⟨_, rfl, (cents h11 (by omega)).1⟩
  obtain ⟨cR, hRd, hcR⟩ : ∃ e, remR (cs_lt X i) = e ∧ e.toInt = (lr_ea (cs_lt X i)).toInt % 3650000 := ⟨_, rfl, (cents h11 (by omega)).2⟩
  have hC : cC = mTiC Y i := by rw [← hCd, drwC, h6, mTiC]
  have hR : cR = ms_ea Y i - ms_ea Y i / 3650000 * 3650000 := by rw [← hRd, remR, h6]
  have c0' : ¬ ms_ins Y i = 0 := fun q => c0 (h8.trans q)
  obtain ⟨e1, e2, e3⟩ := etX_1 c0 c1
  rw [mEt_1 Y i c0' (h8.symm.trans c1)]
  obtain ⟨s1, s2, s3, s4, s5, s6, s7, s8, s9⟩ := mSp_f Y i
  obtain ⟨m1, m2, m3, m4, m5, m6, m7, m8, m9, m10, m11, m12, m13, m14⟩ := mRn_f (mSp Y i) i
  have hpr := drwR_pr (cs_lt X i)
  have hea : lr_ea (drwR (cs_lt X i)) = cR := (drwR_ea (cs_lt X i)).trans hRd
  have htd := drwR_td (cs_lt X i)
  have hins : lr_ins (drwR (cs_lt X i)) = lr_ins (cs_lt X i) := drwR_ins _
  have hfz : lr_fz (drwR (cs_lt X i)) = lr_fz (cs_lt X i) := drwR_fz _
  have hcu2 := drwR_cu (cs_lt X i)
  have hbt := drwR_bT (cs_lt X i)
  have hpb := parts_b (x := lr_pr (cs_lt X i)) (by omega) hin
  have hL : cs_lt (etX X i) = va_up (cs_lt X) i (rnw (drwR (cs_lt X i)) (Int32.toInt64 (lr_pr (cs_lt X i)) * Int32.toInt64 (cs_tr X)) (cs_day X + lr_td (cs_lt X i)) (cs_day X)) := by
    rw [e1, et2_lt, pin_at, pin_lt, va_up_two, pin_tr, pin_day, hpr, htd]
  generalize drwR (cs_lt X i) = r1 at *
  refine ⟨_, hL, ?_, ?_, s3.tr m3, fun q hq => (s4 q hq).tr (m4 q hq), ?_, ?_⟩
  · rw [e2, pin_paid hcu, m1, s1, hp, h1, hCd, hC]
  · rw [e3, m2, s2]; exact hl
  · rw [m5, m6, m7, m8, m9, m10, m11, m12, m13, m14, m3.2.2.2.2.2.1, m3.2.2.2.2.2.2, s3.2.2.2.2.2.1, s3.2.2.2.2.2.2, s5, s6, s7, s8, s9, s3.2.2.2.2.1, s3.2.2.2.1, ← h5, ← htr, ← hday, ← h7, ← h1, ← h2, ← h8, ← hR]
    exact relL_rnw r1 _ _ _ hcu2 hbt (by rw [hpr]; exact h3) h3t (by rw [hbt]; exact h4) hpr hea htd hins (by rw [hfz]; exact h9) (by rw [htd]; exact h10) (by rw [hea, hcR]; omega) ⟨hd, Int.le_refl _⟩ (by rw [hpr, hpb.1]; exact hpb.2)
  · rw [wP_rnw, wP_term (by rw [hpr]; exact h3) (by rw [hbt]; exact h4), hpr, hea, hcR, hw]
    omega
theorem et2_lt2 {r1 : LR} {p : Int32} (h : cs_lt X i = lr_set_pr r1 p) : cs_lt (et2 (bgt X i) i) = va_up (cs_lt X) i (rnw (lr_set_pr r1 p) (Int32.toInt64 p * Int32.toInt64 (cs_tr X)) (cs_day X + lr_td r1) (cs_day X)) := by rw [et2_lt, h]
theorem et_tail2 (hcu : vp_in (lr_cu (cs_lt X i)) 4) (hp : cs_paid X = ms_paid Y) (hl : cs_lost X = ms_lost Y) (htr : cs_tr X = ms_tr Y) (hday : cs_day X = ms_now Y) (hin : in2k (cs_tr X)) (hd : 0 ≤ (cs_day X).toInt) (h1 : lr_cu (cs_lt X i) = ms_ow Y i) (h2 : bT (cs_lt X i) = ms_te Y i) (h3 : ¬ lr_pr (cs_lt X i) ≤ 0) (h3t : ¬ ms_th Y i = 0) (h4 : ¬ bT (cs_lt X i) = 0) (h5 : lr_pr (cs_lt X i) = ms_pr Y i) (h6 : lr_ea (cs_lt X i) = ms_ea Y i) (h7 : lr_td (cs_lt X i) = ms_le Y i) (h8 : lr_ins (cs_lt X i) = ms_ins Y i) (h9 : lr_fz (cs_lt X i) = 0) (h10 : 1 ≤ (lr_td (cs_lt X i)).toInt ∧ (lr_td (cs_lt X i)).toInt ≤ 400) (h11 : 0 ≤ (lr_ea (cs_lt X i)).toInt) (h12 : (lr_pr (cs_lt X i)).toInt * 3650000 + (lr_ea (cs_lt X i)).toInt < 7838315000000000) {r1 : LR} {p2 : Int32} {cR : Int64} (c0' : ¬ ms_ins Y i = 0) (c1' : ¬ ms_ins Y i = 1) (hcR : cR.toInt = (lr_ea (cs_lt X i)).toInt % 3650000) (hR : cR = ms_ea Y i - ms_ea Y i / 3650000 * 3650000) (e2 : cs_paid (etX X i) = cs_paid X) (e3 : cs_lost (etX X i) = cs_lost X) (hea : lr_ea r1 = cR) (htd : lr_td r1 = lr_td (cs_lt X i)) (hins : lr_ins r1 = lr_ins (cs_lt X i)) (hfz : lr_fz r1 = lr_fz (cs_lt X i)) (hcu2 : lr_cu r1 = lr_cu (cs_lt X i)) (hbt : bT r1 = bT (cs_lt X i)) (hsum : p2.toInt = (lr_pr (cs_lt X i)).toInt + (lr_ea (cs_lt X i)).toInt / 3650000) (hL : cs_lt (etX X i) = va_up (cs_lt X) i (rnw (lr_set_pr r1 p2) (Int32.toInt64 p2 * Int32.toInt64 (cs_tr X)) (cs_day X + lr_td (cs_lt X i)) (cs_day X))) (hsp : ms_pr (mEt2 Y i) i = p2) : EtG X Y i := by
  unfold EtG
  have a := alive_b h3
  have hw := wP_term h3 h4
  have hpb := parts_b (x := p2) (by omega) hin
  rw [mEt_2 Y i c0' c1']
  obtain ⟨s1, s2, s3, s4, s5, s6, s7, s8, s9⟩ := mEt2_f Y i
  obtain ⟨m1, m2, m3, m4, m5, m6, m7, m8, m9, m10, m11, m12, m13, m14⟩ := mRn_f (mEt2 Y i) i
  have hp3 : ¬ lr_pr (lr_set_pr r1 p2) ≤ 0 := by
    show ¬ p2 ≤ 0
    rw [i_le, i_0, hsum]; omega
  have hb3 : ¬ bT (lr_set_pr r1 p2) = 0 := by
    show ¬ bT r1 = 0
    rw [hbt]; exact h4
  refine ⟨_, hL, ?_, ?_, s3.tr m3, fun q hq => (s4 q hq).tr (m4 q hq), ?_, ?_⟩
  · rw [e2, m1, s1]; exact hp
  · rw [e3, m2, s2]; exact hl
  · rw [m5, m6, m7, m8, m9, m10, m11, m12, m13, m14, m3.2.2.2.2.2.1, m3.2.2.2.2.2.2, s3.2.2.2.2.2.1, s3.2.2.2.2.2.2, s5, hsp, s7, s8, s9, s3.2.2.2.2.1, s3.2.2.2.1, ← htr, ← hday, ← h7, ← h1, ← h2, ← h8, ← hR]
    exact relL_rnw (lr_set_pr r1 p2) _ _ _ hcu2 hbt hp3 h3t hb3 rfl hea htd hins (hfz.trans h9) (by show 1 ≤ (lr_td r1).toInt ∧ (lr_td r1).toInt ≤ 400; rw [htd]; exact h10) (by show 0 ≤ (lr_ea r1).toInt; rw [hea, hcR]; omega) ⟨hd, Int.le_refl _⟩ (by show _ ∧ _ ≤ 2000 * p2.toInt; rw [hpb.1]; exact hpb.2)
  · rw [wP_rnw, wP_term hp3 hb3, hw]
    show p2.toInt * 3650000 + (lr_ea r1).toInt ≤ _
    rw [hea, hcR, hsum]
    omega
theorem et_sim2 (hcu : vp_in (lr_cu (cs_lt X i)) 4) (hp : cs_paid X = ms_paid Y) (hl : cs_lost X = ms_lost Y) (htr : cs_tr X = ms_tr Y) (hday : cs_day X = ms_now Y) (hin : in2k (cs_tr X)) (hd : 0 ≤ (cs_day X).toInt) (h1 : lr_cu (cs_lt X i) = ms_ow Y i) (h2 : bT (cs_lt X i) = ms_te Y i) (h3 : ¬ lr_pr (cs_lt X i) ≤ 0) (h3t : ¬ ms_th Y i = 0) (h4 : ¬ bT (cs_lt X i) = 0) (h5 : lr_pr (cs_lt X i) = ms_pr Y i) (h6 : lr_ea (cs_lt X i) = ms_ea Y i) (h7 : lr_td (cs_lt X i) = ms_le Y i) (h8 : lr_ins (cs_lt X i) = ms_ins Y i) (h9 : lr_fz (cs_lt X i) = 0) (h10 : 1 ≤ (lr_td (cs_lt X i)).toInt ∧ (lr_td (cs_lt X i)).toInt ≤ 400) (h11 : 0 ≤ (lr_ea (cs_lt X i)).toInt) (h12 : (lr_pr (cs_lt X i)).toInt * 3650000 + (lr_ea (cs_lt X i)).toInt < 7838315000000000) (c0 : ¬ lr_ins (cs_lt X i) = 0) (c1 : ¬ lr_ins (cs_lt X i) = 1) : EtG X Y i := by
  have a := alive_b h3
  have hw := wP_term h3 h4
  obtain ⟨cC, hCd, hcC⟩ : ∃ c, drwC (cs_lt X i) = c ∧ c.toInt = (lr_ea (cs_lt X i)).toInt / 3650000 := ⟨_, rfl, (cents h11 (by omega)).1⟩
  obtain ⟨cR, hRd, hcR⟩ : ∃ e, remR (cs_lt X i) = e ∧ e.toInt = (lr_ea (cs_lt X i)).toInt % 3650000 := ⟨_, rfl, (cents h11 (by omega)).2⟩
  have hC : cC = mTiC Y i := by rw [← hCd, drwC, h6, mTiC]
  have hR : cR = ms_ea Y i - ms_ea Y i / 3650000 * 3650000 := by rw [← hRd, remR, h6]
  have c0' : ¬ ms_ins Y i = 0 := fun q => c0 (h8.trans q)
  obtain ⟨e1, e2, e3⟩ := etX_2 c0 c1
  have c1' : ¬ ms_ins Y i = 1 := fun q => c1 (h8.trans q)
  obtain ⟨s1, s2, s3, s4, s5, s6, s7, s8, s9⟩ := mEt2_f Y i
  have hea : lr_ea (drwR (cs_lt X i)) = cR := (drwR_ea (cs_lt X i)).trans hRd
  have htd := drwR_td (cs_lt X i)
  have hins : lr_ins (drwR (cs_lt X i)) = lr_ins (cs_lt X i) := drwR_ins _
  have hfz : lr_fz (drwR (cs_lt X i)) = lr_fz (cs_lt X i) := drwR_fz _
  have hcu2 := drwR_cu (cs_lt X i)
  have hbt := drwR_bT (cs_lt X i)
  have hsum : (lr_pr (cs_lt X i) + cC).toInt = (lr_pr (cs_lt X i)).toInt + (lr_ea (cs_lt X i)).toInt / 3650000 := by
    rw [i_add (by omega) (by omega), hcC]
  have hat : cs_lt (et1 X i) i = lr_set_pr (drwR (cs_lt X i)) (lr_pr (cs_lt X i) + cC) := by rw [et1_lt, va_up_self, hCd]
  have hL : cs_lt (etX X i) = va_up (cs_lt X) i (rnw (lr_set_pr (drwR (cs_lt X i)) (lr_pr (cs_lt X i) + cC)) (Int32.toInt64 (lr_pr (cs_lt X i) + cC) * Int32.toInt64 (cs_tr X)) (cs_day X + lr_td (cs_lt X i)) (cs_day X)) := by
    have q := et2_lt2 hat
    rw [e1, q, et1_lt, va_up_two, et1_tr, et1_day, htd]
  have hsp : ms_pr (mEt2 Y i) i = lr_pr (cs_lt X i) + cC := by rw [s6, ← h5, ← hC]
  exact et_tail2 hcu hp hl htr hday hin hd h1 h2 h3 h3t h4 h5 h6 h7 h8 h9 h10 h11 h12 c0' c1' hcR hR e2 e3 hea htd hins hfz hcu2 hbt hsum hL hsp
theorem et_sim (hcu : vp_in (lr_cu (cs_lt X i)) 4) (hp : cs_paid X = ms_paid Y) (hl : cs_lost X = ms_lost Y) (htr : cs_tr X = ms_tr Y) (hday : cs_day X = ms_now Y) (hin : in2k (cs_tr X)) (hd : 0 ≤ (cs_day X).toInt) (h1 : lr_cu (cs_lt X i) = ms_ow Y i) (h2 : bT (cs_lt X i) = ms_te Y i) (h3 : ¬ lr_pr (cs_lt X i) ≤ 0) (h3t : ¬ ms_th Y i = 0) (h4 : ¬ bT (cs_lt X i) = 0) (h5 : lr_pr (cs_lt X i) = ms_pr Y i) (h6 : lr_ea (cs_lt X i) = ms_ea Y i) (h7 : lr_td (cs_lt X i) = ms_le Y i) (h8 : lr_ins (cs_lt X i) = ms_ins Y i) (h9 : lr_fz (cs_lt X i) = 0) (h10 : 1 ≤ (lr_td (cs_lt X i)).toInt ∧ (lr_td (cs_lt X i)).toInt ≤ 400) (h11 : 0 ≤ (lr_ea (cs_lt X i)).toInt) (h12 : (lr_pr (cs_lt X i)).toInt * 3650000 + (lr_ea (cs_lt X i)).toInt < 7838315000000000) : EtG X Y i := by
  by_cases c0 : lr_ins (cs_lt X i) = 0
  · exact et_sim0 hcu hp hl htr hday hin hd h1 h2 h3 h3t h4 h5 h6 h7 h8 h9 h10 h11 h12 c0
  · by_cases c1 : lr_ins (cs_lt X i) = 1
    · exact et_sim1 hcu hp hl htr hday hin hd h1 h2 h3 h3t h4 h5 h6 h7 h8 h9 h10 h11 h12 c0 c1
    · exact et_sim2 hcu hp hl htr hday hin hd h1 h2 h3 h3t h4 h5 h6 h7 h8 h9 h10 h11 h12 c0 c1
end ETS
