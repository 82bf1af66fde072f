/-! days that pass: the law's arrays and the reference's state go the same way -/
theorem lEr_f (L : LWS) (j : Nat) : ls_e (lEr L j) = vp_updL (ls_e L) j (ls_e L j - Int32.toInt64 (lEnC L j) * 3650000) ∧ ls_g (lEr L j) = vp_updL (ls_g L) (lOw L j).toNatClampNeg (ls_g L (lOw L j).toNatClampNeg + (if ls_d L (3 * j + 1) = 1 then Int32.toInt64 (lEnC L j) else 0)) ∧ ls_p (lEr L j) = upd (ls_p L) j (ls_p L j + (if ls_d L (3 * j + 1) = 2 then lEnC L j else 0)) ∧ ls_t (lEr L j) = upd (ls_t L) j (ls_n L 1 + ls_d L (3 * j)) ∧ ls_d (lEr L j) = upd (ls_d L) (3 * j + 2) (ls_n L 1) ∧ ls_w (lEr L j) = vp_updL (ls_w L) j (Int32.toInt64 (upd (ls_p L) j (ls_p L j + (if ls_d L (3 * j + 1) = 2 then lEnC L j else 0)) j) * Int32.toInt64 (ls_n L 3)) ∧ ls_f (lEr L j) = ls_f L ∧ fxL L (lEr L j) := by
  have e : lEr1 L j = ls_set_e L (vp_updL (ls_e L) j (ls_e L j - Int32.toInt64 (lEnC L j) * 3650000)) := rfl
  rw [lEr, e]
  generalize lEnC L j = v
  exact ⟨rfl, rfl, rfl, rfl, rfl, rfl, rfl, ⟨rfl, rfl, rfl⟩⟩
theorem lEp_f (L : LWS) (j : Nat) : ls_p (lEp L j) = ls_p L ∧ ls_e (lEp L j) = ls_e L ∧ ls_g (lEp L j) = vp_updL (ls_g L) (lOw L j).toNatClampNeg (ls_g L (lOw L j).toNatClampNeg + Int32.toInt64 (ls_p L j)) ∧ fxL L (lEp L j) ∧ ∀ q, samL L (lEp L j) q := ⟨rfl, rfl, rfl, ⟨rfl, rfl, rfl⟩, fun q => ⟨rfl, rfl, rfl, rfl, rfl, rfl, rfl, rfl⟩⟩
theorem updL_same (f : Nat → Int64) (k : Nat) : vp_updL f k (f k) = f := funext fun i => by
  by_cases h : i = k
  · subst h; exact updL_self _ _ _
  · exact updL_ne h
/-- whole cents and back -/
theorem cents_back {x : Int64} (h0 : 0 ≤ x.toInt) (h1 : x.toInt < 7838315000000000) : Int32.toInt64 (Int64.toInt32 (x / 3650000)) = x / 3650000 := by
  apply Int64.toInt_inj.mp
  rw [Int32.toInt_toInt64, (cents h0 h1).1]
  have e : (3650000 : Int64).toInt = 3650000 := rfl
  rw [Int64.toInt_div, e]
  rw [Int.bmod_eq_of_le]
  · exact (Int.tdiv_eq_ediv_of_nonneg h0).symm
  · rw [Int.tdiv_eq_ediv_of_nonneg h0]; omega
  · rw [Int.tdiv_eq_ediv_of_nonneg h0]; omega
section ET
variable {Y : MS} {B : LWS} {j : Nat}
theorem ow_e (r : RelL Y B) (hj : j < ms_n Y) (hte : ¬ ms_te Y j = 0) (ho : vp_in (ms_ow Y j) 4) : lOw B j = ms_ow Y j := by
  unfold lOw
  rw [(r.lot hj).2.1 hte]
  exact (o_le ho).2.2.2.2.2.1
theorem mEn_lost2 (Y : MS) (j : Nat) : ms_lost (mEn Y j) = vp_updL (ms_lost Y) (ms_ow Y j).toNatClampNeg (ms_lost Y (ms_ow Y j).toNatClampNeg + (ms_ea Y j - ms_ea Y j / 3650000 * 3650000)) := mEn_lost Y j
theorem et_pay (r : RelL Y B) (hj : j < ms_n Y) (hth : ¬ ms_th Y j = 0) (hte : ¬ ms_te Y j = 0) (ho : vp_in (ms_ow Y j) 4) (c : ms_ins Y j = 0) : RelL (mEt Y j) (lEt B j) := by
  have l := r.lot hj
  have hp := (l.2.2.2 hth).1
  have he := (l.2.2.2 hth).2.1
  obtain ⟨t1, t2, t3, t4, t5, t6⟩ := (l.2.2.2 hth).2.2.2 hte
  rw [mEt_0 Y j c, lEt_0 (t4.trans c)]
  obtain ⟨m1, m2, m3, m4, m5⟩ := mEt1_f Y j
  obtain ⟨a1, a2, a3, a4, a5⟩ := lEp_f B j
  obtain ⟨n1, n2, n3, n4, n5⟩ := lEn_f (lEp B j) j
  have oB := ow_e r hj hte ho
  have oE : lOw (lEp B j) j = ms_ow Y j := by
    unfold lOw at oB ⊢
    rw [a4.2.1]; exact oB
  have eC : lEnC (lEp B j) j = mTiC Y j := by
    unfold lEnC mTiC
    rw [a2, he]
  refine r.chg j hj m3 m4 (a4.tr n4) (fun q hq => (a5 q).tr (n5 q hq)) (relC_dead l m3.2.2.2.2.2.2 m3.2.2.2.2.2.1 (a4.tr n4).2.1 m5 (by rw [n1]; exact upd_self _ _ _)) ?_
  refine relG.both (o := ms_ow Y j) (x := Int32.toInt64 (ms_pr Y j) + Int32.toInt64 (mTiC Y j)) (y := ms_ea Y j - ms_ea Y j / 3650000 * 3650000) (G1 := ls_g (lEn1 (lEp B j) j)) ho r.g m1 (m2.trans (mEn_lost2 Y j)) ?_ ?_
  · rw [n2, oE, a3, oB, eC, hp, updL_two, updL_self, Int64.add_assoc]
  · rw [n3, oE, a2, he]
theorem et_renew (r : RelL Y B) (hj : j < ms_n Y) (hth : ¬ ms_th Y j = 0) (hte : ¬ ms_te Y j = 0) (ho : vp_in (ms_ow Y j) 4) (h0 : 0 ≤ (ms_ea Y j).toInt) (h1 : (ms_ea Y j).toInt < 7838315000000000) (c : ¬ ms_ins Y j = 0) : RelL (mEt Y j) (lEt B j) := by
  have l := r.lot hj
  have hp := (l.2.2.2 hth).1
  have he := (l.2.2.2 hth).2.1
  obtain ⟨t1, t2, t3, t4, t5, t6⟩ := (l.2.2.2 hth).2.2.2 hte
  have oB := ow_e r hj hte ho
  rw [lEt_1 (by rw [t4]; exact c)]
  obtain ⟨e1, e2, e3, e4, e5, e6, e7, e8⟩ := lEr_f B j
  have eC : lEnC B j = mTiC Y j := by
    unfold lEnC mTiC
    rw [he]
  have eb : Int32.toInt64 (mTiC Y j) = ms_ea Y j / 3650000 := cents_back h0 h1
  have n3 : ls_n B 3 = ms_tr Y := r.2.2.2.2.1
  have n1 : ls_n B 1 = ms_now Y := r.2.2.1
  rw [eC, he, eb] at e1
  have hs : ∀ q, q ≠ j → samL B (lEr B j) q := fun q hq => by
    unfold samL
    rw [e1, e3, e4, e5, e6, e7, upd_ne hq, upd_ne hq, updL_ne hq, updL_ne hq, upd_ne (show 3 * q ≠ 3 * j + 2 by omega), upd_ne (show 3 * q + 1 ≠ 3 * j + 2 by omega), upd_ne (show 3 * q + 2 ≠ 3 * j + 2 by omega)]
    exact ⟨rfl, rfl, rfl, rfl, rfl, rfl, rfl, rfl⟩
  have lC : ∀ {N : MS} {p9 : Int32}, scM Y N → ms_th N = ms_th Y → ms_pr N j = p9 → ms_ea N j = ms_ea Y j - ms_ea Y j / 3650000 * 3650000 → ms_le N = ms_le Y → ms_ins N = ms_ins Y → p9 = ms_pr Y j + (if ms_ins Y j = 2 then mTiC Y j else 0) → relC (mRn N j) (lEr B j) j := fun {N p9} s1 s2 s3 s4 s5 s6 s7 => by
    obtain ⟨x1, x2, x3, x4, x5, x6, x7, x8, x9, x10, x11, x12, x13, x14⟩ := mRn_f N j
    have hte2 : ms_te (mRn N j) j = ms_te Y j := by rw [x3.2.2.2.2.2.2, s1.2.2.2.2.2.2]
    have how2 : ms_ow (mRn N j) j = ms_ow Y j := by rw [x3.2.2.2.2.2.1, s1.2.2.2.2.2.1]
    have hpN : ls_p (lEr B j) j = p9 := by rw [e3, upd_self, hp, eC, t4, s7]
    refine ⟨fun q => absurd (hte2 ▸ q) hte, fun _ => by rw [e8.2.1, how2]; exact l.2.1 hte, fun q => absurd (by rw [x5, s2] at q; exact q) hth, fun _ => ⟨by rw [hpN, x6, s3], ?_, fun q => absurd (hte2 ▸ q) hte, fun _ => ⟨?_, ?_, ?_, ?_, ?_, ?_⟩⟩⟩
    · rw [e1, updL_self, x11, s4]
    · rw [e4, upd_self, x13, n1, t3, s1.2.2.2.2.1, s5]
    · rw [e6, updL_self, x14, n3, ← e3, hpN, s3, s1.2.2.2.1]
    · rw [e5, upd_ne (by omega), t3, x9, s5]
    · rw [e5, upd_ne (by omega), t4, x10, s6]
    · rw [e5, upd_self, n1, x12, s1.2.2.2.2.1]
    · rw [x10, s6]; exact t6
  by_cases d : ms_ins Y j = 1
  · rw [mEt_1 Y j c d]
    obtain ⟨y1, y2, y3, y4, y5, y6, y7, y8, y9⟩ := mSp_f Y j
    obtain ⟨x1, x2, x3, x4, x5, x6, x7, x8, x9, x10, x11, x12, x13, x14⟩ := mRn_f (mSp Y j) j
    have d2 : ¬ ms_ins Y j = 2 := by rw [d]; decide
    refine r.chg j hj (y3.tr x3) (fun q hq => (y4 q hq).tr (x4 q hq)) e8 hs (lC y3 y5 (congrFun y6 j) y7 y8 y9 (by rw [if_neg d2, Int32.add_zero])) ?_
    refine relG.pay (o := ms_ow Y j) (x := Int32.toInt64 (mTiC Y j)) ho r.g (x1.trans y1) (x2.trans y2) ?_
    rw [e2, oB, t4, if_pos d, eC]
  · rw [mEt_2 Y j c d]
    obtain ⟨y1, y2, y3, y4, y5, y6, y7, y8, y9⟩ := mEt2_f Y j
    obtain ⟨x1, x2, x3, x4, x5, x6, x7, x8, x9, x10, x11, x12, x13, x14⟩ := mRn_f (mEt2 Y j) j
    have d2 : ms_ins Y j = 2 := (t6.resolve_left c).resolve_left d
    refine r.chg j hj (y3.tr x3) (fun q hq => (y4 q hq).tr (x4 q hq)) e8 hs (lC y3 y5 y6 y7 y8 y9 (by rw [if_pos d2])) ?_
    refine r.g.mv (x1.trans y1) (x2.trans y2) ?_
    rw [e2, oB, t4, if_neg d, Int64.add_zero, updL_same]
theorem et_L (r : RelL Y B) (hj : j < ms_n Y) (hth : ¬ ms_th Y j = 0) (hte : ¬ ms_te Y j = 0) (ho : vp_in (ms_ow Y j) 4) (h0 : 0 ≤ (ms_ea Y j).toInt) (h1 : (ms_ea Y j).toInt < 7838315000000000) : RelL (mEt Y j) (lEt B j) := by
  by_cases c : ms_ins Y j = 0
  · exact et_pay r hj hth hte ho c
  · exact et_renew r hj hth hte ho h0 h1 c
theorem lLa_f (L : LWS) (i : Nat) : ls_f (lLa L i) = upd (ls_f L) i (lFv L i) ∧ fxL L (lLa L i) ∧ ls_g (lLa L i) = ls_g L ∧ ls_p (lLa L i) = ls_p L ∧ (∀ q, q ≠ i → samL L (lLa L i) q) ∧ ls_t (lLa L i) = ls_t L := ⟨rfl, ⟨rfl, rfl, rfl⟩, rfl, rfl, fun q hq => ⟨rfl, upd_ne hq, rfl, rfl, rfl, rfl, rfl, rfl⟩, rfl⟩
theorem i39 (x : Int32) : x + 32 + 7 = x + 39 := by rw [Int32.add_assoc]; rfl
/-- one lot of a day -/
theorem lot_L (r : RelL Y B) (hj : j < ms_n Y) (ho : vp_in (ms_ow Y j) 4) (hal : ¬ ms_th Y j = 0 → 1 ≤ (ms_pr Y j).toInt) (hb : ¬ ms_th Y j = 0 → ¬ ms_te Y j = 0 → 0 ≤ (ms_ea Y j).toInt ∧ (ms_ea Y j).toInt < 7838315000000000) (c : Int32) : RelL (mb1 Y j) (lDs (lLa B j) j) ∧ mbc c Y j = lDc c (lLa B j) j := by
  obtain ⟨a1, a2, a3, a4, a5, a6⟩ := lLa_f B j
  have l := r.lot hj
  have o := o_le ho
  have n1 : ls_n B 1 = ms_now Y := r.2.2.1
  by_cases hth : ms_th Y j = 0
  · have hp : ls_p (lLa B j) j ≤ 0 := by rw [a4, l.2.2.1 hth]; decide
    refine ⟨?_, by rw [mbc, if_pos hth, lDc, if_pos hp]⟩
    rw [mb1, if_pos hth, lDs, if_pos hp]
    exact r.chg j hj (scM.rf Y) (fun q _ => sam.rf Y q) a2 a5 (relC_dead l rfl rfl a2.2.1 hth (by rw [a4]; exact l.2.2.1 hth)) (r.g.mv rfl rfl a3)
  · have l4 := l.2.2.2 hth
    have h1 := hal hth
    have hp : ¬ ls_p (lLa B j) j ≤ 0 := by rw [a4, l4.1, i_le, i_0]; omega
    by_cases hte : ms_te Y j = 0
    · have hc : ls_c B j = ms_ow Y j := l.1 hte
      have hc2 : ls_c (lLa B j) j < 10 := by rw [a2.2.1, hc]; exact o.1
      obtain ⟨hf, ht⟩ := l4.2.2.1 hte
      have hv : ∀ N : MS, scM Y N → (∀ q, q ≠ j → sam Y N q) → ms_th N = ms_th Y → ms_pr N = ms_pr Y → ms_ea N = ms_ea Y → ms_nd N = ms_nd Y → ms_paid N = ms_paid Y → ms_lost N = ms_lost Y → ms_fz N j = lFv B j → (¬ ms_fz N j = 0 → ¬ ms_fz Y j = 0) → RelL N (lLa B j) := fun N s1 s2 s3 s4 s5 s6 s7 s8 s9 s10 => by
        refine r.chg j hj s1 s2 a2 a5 ?_ (r.g.mv s7 s8 a3)
        refine ⟨fun _ => by rw [a2.2.1, s1.2.2.2.2.2.1]; exact hc, fun q => absurd hte (by rw [s1.2.2.2.2.2.2] at q; exact q), fun q => absurd (by rw [s3] at q; exact q) hth, fun _ => ⟨by rw [a4, s4]; exact l4.1, by rw [s5]; exact l4.2.1, fun _ => ⟨by rw [a1, upd_self, s9], fun q => by rw [a6, s6]; exact ht (s10 q)⟩, fun q => absurd hte (by rw [s1.2.2.2.2.2.2] at q; exact q)⟩⟩
      have hcc : ¬ 10 ≤ ls_c B j := by rw [hc]; exact o.2.1
      refine ⟨?_, by rw [mbc, if_neg hth, if_pos hte, lDc, if_neg hp, if_pos hc2]⟩
      rw [mb1, if_neg hth, if_pos hte, lDs, if_neg hp, if_pos hc2]
      by_cases f : ms_fz Y j ≤ 0
      · rw [if_pos f]
        exact hv Y (scM.rf Y) (fun q _ => sam.rf Y q) rfl rfl rfl rfl rfl rfl (by rw [lFv, if_neg hcc, if_pos (by rw [hf]; exact f), hf]) (fun q => q)
      · have f0 : ¬ ms_fz Y j = 0 := fun q => f (by rw [q]; decide)
        have ht2 := ht f0
        rw [if_neg f, i39]
        by_cases g : ms_now Y = ms_nd Y j + 39
        · rw [if_pos g]
          refine hv _ ⟨rfl, rfl, rfl, rfl, rfl, rfl, rfl⟩ (fun q hq => ⟨rfl, rfl, rfl, rfl, upd_ne hq, rfl, rfl, rfl, rfl, rfl, rfl, rfl⟩) rfl rfl rfl rfl rfl rfl ?_ (fun q => absurd (upd_self _ _ _) q)
          rw [lFv, if_neg hcc, if_neg (by rw [hf]; exact f), if_pos (by rw [ht2, n1, g])]
          exact upd_self _ _ _
        · rw [if_neg g]
          exact hv Y (scM.rf Y) (fun q _ => sam.rf Y q) rfl rfl rfl rfl rfl rfl (by rw [lFv, if_neg hcc, if_neg (by rw [hf]; exact f), if_neg (by rw [ht2, n1]; exact fun q => g q.symm), hf]) (fun q => q)
    · have hc : ls_c B j = 10 + ms_ow Y j := l.2.1 hte
      have hc2 : ¬ ls_c (lLa B j) j < 10 := by rw [a2.2.1, hc]; exact o.2.2.1
      have hcc : 10 ≤ ls_c B j := by rw [hc]; exact o.2.2.2.1
      have hfv : lFv B j = ls_f B j := by rw [lFv, if_pos hcc]
      have hB : lLa B j = B := by
        unfold lLa
        rw [hfv, upd_same]
      rw [hB] at hp hc2 ⊢
      obtain ⟨t1, t2, t3, t4, t5, t6⟩ := l4.2.2.2 hte
      by_cases e : ms_en Y j = ms_now Y
      · have e2 : ls_t B j = ls_n B 1 := by rw [t1, n1, e]
        refine ⟨?_, by rw [mbc, if_neg hth, if_neg hte, if_pos e, lDc, if_neg hp, if_neg hc2, if_pos e2]⟩
        rw [mb1, if_neg hth, if_neg hte, if_pos e, lDs, if_neg hp, if_neg hc2, if_pos e2]
        exact et_L r hj hth hte ho (hb hth hte).1 (hb hth hte).2
      · have e2 : ¬ ls_t B j = ls_n B 1 := by rw [t1, n1]; exact e
        refine ⟨?_, by rw [mbc, if_neg hth, if_neg hte, if_neg e, lDc, if_neg hp, if_neg hc2, if_neg e2]⟩
        rw [mb1, if_neg hth, if_neg hte, if_neg e, lDs, if_neg hp, if_neg hc2, if_neg e2]
        exact r
end ET
theorem lEa_at (L : LWS) : ∀ i q, lEa L i q = if q < i then ls_e L q + (if ls_p L q ≤ 0 then 0 else lPa L q) else ls_e L q
  | 0, q => by rw [if_neg (Nat.not_lt_zero q)]; rfl
  | i + 1, q => by
    rw [lEa]
    by_cases c : q = i
    · subst c
      rw [updL_self, lEa_at L q q, if_neg (Nat.lt_irrefl q), if_pos (show q < q + 1 by omega)]
    · rw [updL_ne c, lEa_at L i q]
      by_cases d : q < i
      · rw [if_pos d, if_pos (show q < i + 1 by omega)]
      · rw [if_neg d, if_neg (show ¬ q < i + 1 by omega)]
theorem lDy_f (L : LWS) : ls_n (lDy L) = upd (ls_n L) 1 (ls_n L 1 + 1) ∧ ls_e (lDy L) = lEa L (lK L) ∧ ls_q (lDy L) = ls_q L ∧ ls_c (lDy L) = ls_c L ∧ ls_p (lDy L) = ls_p L ∧ ls_f (lDy L) = ls_f L ∧ ls_t (lDy L) = ls_t L ∧ ls_w (lDy L) = ls_w L ∧ ls_d (lDy L) = ls_d L ∧ ls_g (lDy L) = ls_g L := ⟨rfl, rfl, rfl, rfl, rfl, rfl, rfl, rfl, rfl, rfl⟩
section PS
variable {S : CS} {M : MS} {L : LWS}
theorem day_L (h : Rel S M) (r : RelL M L) : RelL (mDay M) (lDy L) := by
  obtain ⟨f1, f2, f3, f4, f5, f6, f7, f8, f9, f10⟩ := lDy_f L
  obtain ⟨o1, o2, o3, o4, o5, o6, o7, o8, o9, o10, o11, o12, o13, o14, o15, o16, o17⟩ := mDay_o M
  have hk := r.k
  have r0 := r
  obtain ⟨r1, r2, r3, r4, r5, r6, r7, r8, r9⟩ := r
  refine ⟨by rw [f1, upd_ne (by decide), o1]; exact r1, by rw [o1]; exact r2, by rw [f1, upd_self, mDay_now, r3], by rw [f1, upd_ne (by decide), o3]; exact r4, by rw [f1, upd_ne (by decide), o4]; exact r5, by rw [f3, o2]; exact r6, fun j hj => ?_, fun j hj h20 => ?_, r9.mv o16 o17 f10⟩
  · rw [o1] at hj
    have l := r7 j hj
    have he : ls_e (lDy L) j = ls_e L j + (if ls_p L j ≤ 0 then 0 else lPa L j) := by rw [f2, lEa_at, hk, if_pos hj]
    have hm : ms_ea (mDay M) j = ms_ea M j + (if ms_th M j = 0 then 0 else mPn M j) := by rw [mDay_ea, meEa_at, if_pos hj]
    unfold relC
    rw [o5, o6, o7, o8, o9, o10, o11, o12, o13, o14, o15, f4, f5, f6, f7, f8, f9, he, hm]
    refine ⟨l.1, l.2.1, l.2.2.1, fun ht => ?_⟩
    obtain ⟨l1, l2, l3, l4⟩ := l.2.2.2 ht
    have hp : ¬ ls_p L j ≤ 0 := by
      rcases pl_or h r0 (j := j) (by omega) with ⟨a1, a2, a3, a4, a5, a6, a7, a8, a9⟩ | ⟨a1, a2, a3, a4⟩
      · exact a2
      · exact absurd (a4 hj) ht
    rw [if_neg ht, if_neg hp, pn_l h r0 hj ht, l2]
    exact ⟨l1, rfl, l3, l4⟩
  · rw [o1] at hj
    obtain ⟨z1, z2, z3⟩ := r8 j hj h20
    rw [f5, f6, f2, lEa_at, hk, if_neg (by omega)]
    exact ⟨z1, z2, z3⟩
theorem lots_L (h : Rel S M) (hN : Noted S M) (hd : (cs_day S).toInt < 3000) (r : RelL M L) (c : Int32) : ∀ i, i ≤ ms_n M → RelL (mbTo c (mDay M) i).2 (lDa c (lDy L) i).2 ∧ (mbTo c (mDay M) i).1 = (lDa c (lDy L) i).1
  | 0, _ => ⟨day_L h r, rfl⟩
  | i + 1, hi => by
    obtain ⟨ih, ic⟩ := lots_L h hN hd r c i (by omega)
    have h20 := r.2.1
    have hiS : i < cs_n S := by rw [h.n]; omega
    obtain ⟨b1, b2, b3, b4, b5, b6, b7, b8, b9⟩ := (bd_all h hN hd c i (by omega)).2
    obtain ⟨s1, s2, s3, s4, s5, s6, s7, s8, s9, s10, s11, s12⟩ := (b5 i (Nat.le_refl i)).2
    obtain ⟨o1, o2, o3, o4, o5, o6, o7, o8, o9, o10, o11, o12, o13, o14, o15, o16, o17⟩ := mDay_o M
    have g := h.lot hiS
    have hal : ¬ ms_th (mbTo c (mDay M) i).2 i = 0 → ¬ lr_pr (cs_lt S i) ≤ 0 ∧ ¬ ms_th M i = 0 := fun q => by
      rw [s1, o7] at q
      exact ⟨fun z => q (g.2.2.1.mp z), q⟩
    have w := lot_L (Y := (mbTo c (mDay M) i).2) (B := (lDa c (lDy L) i).2) (j := i) ih (by rw [b2.1, o1]; omega) (by rw [s3, o5]; exact h.ow4 (by omega)) (fun q => by
      obtain ⟨q1, q2⟩ := hal q
      rw [s4, o8, ← (g.2.2.2 q1).1]
      exact alive_b q1) (fun q te => by
      obtain ⟨q1, q2⟩ := hal q
      rw [s2, o6] at te
      have q3 : ¬ bT (cs_lt S i) = 0 := fun z => te (g.2.1.symm.trans z)
      have hT := t_live h hiS q1
      have dg := (day_grow h hd).2.2.2 i hiS
      have et := earn_term h hiS q1 q3
      have hea : ms_ea (mDay M) i = lr_ea (eaR (cs_lt S i)) := by
        rw [m_live (by omega) q2, eaR_ea, (g.2.2.2 q1).2.1, ((g.2.2.2 q1).2.2.2 q3).1]
        show ms_ea M i + mPn M i = ms_ea M i + ms_tp M i
        unfold mPn
        rw [if_neg te]
      rw [s11, hea]
      rw [hT, wP_term (by rw [eaR_pr]; exact q1) (by rw [eaR_bT]; exact q3), eaR_pr] at dg
      have a := alive_b q1
      obtain ⟨t1, t2, t3, t4, t5, t6, t7, t8, t9, t10, t11⟩ := (g.2.2.2 q1).2.2.2 q3
      omega) (mbTo c (mDay M) i).1
    obtain ⟨w1, w2⟩ := w
    refine ⟨w1, ?_⟩
    show mbc (mbTo c (mDay M) i).1 (mbTo c (mDay M) i).2 i = lDc (lDa c (lDy L) i).1 (lLa (lDa c (lDy L) i).2 i) i
    rw [w2, ic]
theorem days_L (h : Rel S M) (hN : Noted S M) (r : RelL M L) : ∀ t : Nat, (cs_day S).toInt + t ≤ 3000 → RelL (mdTo M t).2 (lPs L t).2 ∧ (mdTo M t).1 = (lPs L t).1
  | 0, _ => ⟨r, rfl⟩
  | t + 1, ht => by
    obtain ⟨a1, a2⟩ := days_L h hN r t (by omega)
    obtain ⟨b1, b2, b3, b4⟩ := days_sim h hN t (by omega)
    have w := lots_L b2 b3 (by omega) a1 (mdTo M t).1 (ms_n (mdTo M t).2) (Nat.le_refl _)
    have hk := a1.k
    show RelL (mbTo (mdTo M t).1 (mDay (mdTo M t).2) (ms_n (mdTo M t).2)).2 (lDa (lPs L t).1 (lDy (lPs L t).2) (lK (lPs L t).2)).2 ∧ (mbTo (mdTo M t).1 (mDay (mdTo M t).2) (ms_n (mdTo M t).2)).1 = (lDa (lPs L t).1 (lDy (lPs L t).2) (lK (lPs L t).2)).1
    rw [hk, ← a2]
    exact w
theorem op_pass (h : Rel S M) (r : RelL M L) {t : Nat} (h1 : 1 ≤ t) (h2 : t ≤ 100) (h3 : (ls_n L 1).toInt < 900) : psC S (nI t) = 0 ∧ (psTo (ntTo S 4) (nI t).toNatClampNeg).1 = (lPs L t).1 ∧ Rl (psTo (ntTo S 4) (nI t).toNatClampNeg).2 (lPs L t).2 := by
  have hc : (nI t).toNatClampNeg = t := nI_clamp (by omega)
  have hi := nI_toInt (n := t) (by omega)
  have s := sim_pass h (nI t)
  rw [hc] at s ⊢
  have hd := h.2.2.2.2.2.2.2.2.2.2.2.2.1
  have hday : cs_day S = ms_now M := h.2.2.2.2.2.2.2.2.1
  have e1 : (1 : Int32).toInt = 1 := rfl
  have e2 : (100 : Int32).toInt = 100 := rfl
  have e3 : (3000 : Int32).toInt = 3000 := rfl
  rw [r.2.2.1, ← hday] at h3
  have hk : kPs M (nI t) = 0 := by
    rw [kPs, if_neg (in_m (by rw [e1, hi]; omega) (by rw [e2, hi]; omega)), if_pos]
    rw [i_le, e3, ← hday, i_add (by rw [hi]; omega) (by rw [hi]; omega), hi]
    omega
  obtain ⟨s1, s2, s3⟩ := s.ok hk
  have hd4 : ∀ i, cs_day (ntTo S i) = cs_day S := fun i => by
    induction i with
    | zero => rfl
    | succ i ih => exact ih
  have r0 : RelL (mT0 M) L := r
  have w := days_L (S := ntTo S 4) (M := mT0 M) ((nt_rel h 4).thr 0) (nt4 h) r0 t (by rw [hd4]; omega)
  exact ⟨s1, (t64_inj s2).trans w.2, _, s3, w.1⟩
end PS
