section ER2
variable {S : CS} {M : MS} {L : LWS} {cu ct : Int32}
theorem JQ.next (s : Srt L cu 0 (lSr L cu)) {k : Nat} {lf v lf2 v2 : Int32} {Y Y2 : MS} {B B2 : LWS} (q : JQ M L cu ct k lf v Y B) (hk : k < (lSr L cu).1) (r2 : RelQ Y2 B2) (hm : scM Y Y2) (hs : ∀ j, j ≠ (lSr L cu).2.2.2 k → sam Y Y2 j) (hf : fxL B B2) (hl : ∀ j, j ≠ (lSr L cu).2.2.2 k → samL B B2 j) (hd : relD Y2 B2 cu (Int32.toInt64 v2 - Int32.toInt64 ct)) (hlf : 0 ≤ lf2.toInt ∧ lf2.toInt ≤ lf.toInt) (hv : 0 ≤ v2.toInt ∧ v2.toInt ≤ v.toInt + 16438357) (hp : ms_pah Y2 = ms_pah Y ∧ ms_prh Y2 = ms_prh Y) (hdn : ms_dn Y2 = upd (ms_dn Y) ((lSr L cu).2.2.2 k) 1) : JQ M L cu ct (k + 1) lf2 v2 Y2 B2 := by
  obtain ⟨q1, q2, q3, q4, q5, q6, q7, q8, q9, q10⟩ := q
  refine ⟨r2, q2.tr hm, q3.tr hf, hd, ⟨hlf.1, by omega⟩, ⟨hv.1, ?_⟩, ⟨hp.1.trans q7.1, hp.2.trans q7.2⟩, fun a ha hma => ?_, fun h0 a ha => ?_, fun j hj hn => ?_⟩
  · have e : 16438357 * ((k + 1 : Nat) : Int) = 16438357 * (k : Int) + 16438357 := by omega
    omega
  · have ne : (lSr L cu).2.2.2 a ≠ (lSr L cu).2.2.2 k := fun e => row_ne s (by omega) hma e.symm
    obtain ⟨g1, g2, g3⟩ := q8 a (by omega) hma
    exact ⟨g1.tr (hs _ ne), g2.tr (hl _ ne), by rw [hdn, upd_ne ne]; exact g3⟩
  · rw [hdn]
    by_cases e : (lSr L cu).2.2.2 a = (lSr L cu).2.2.2 k
    · rw [e, upd_self]; decide
    · rw [upd_ne e]
      rcases Nat.lt_or_ge a k with z | z
      · exact q9 (by omega) a z
      · have z2 : a = k := by omega
        subst z2
        exact absurd rfl e
  · exact (q10 j hj hn).tr (hs j (fun e => hn k hk e.symm))
theorem j_vc (a b c : Int64) : a - b + c = a + c - b := by
  rw [Int64.sub_eq_add_neg, Int64.sub_eq_add_neg]
  ac_rfl
theorem loss_l {z : SrT} {B : LWS} {Y : MS} {j : Nat} {t : Int32} (h1 : z.2.1 j = ms_pah Y j) (h2 : z.2.2.1 j = ms_prh Y j) (h3 : ls_e B j = ms_ea Y j) : tkL z B j t = meL Y j t := by
  have e1 : tkL1 z j t = meL1 Y j t := by
    unfold tkL1 meL1
    rw [h1, h2, Int64.mul_comm (ms_pah Y j) 30]
  unfold tkL meL
  rw [e1, h3]
  by_cases c : 0 ≤ lg_cmp (meL1 Y j t) (ms_ea Y j)
  · rw [if_pos c]
    by_cases d : lg_cmp (meL1 Y j t) (ms_ea Y j) ≤ 0
    · rw [if_pos d]
      rw [j_ge] at c
      rw [j_le] at d
      exact Int64.toInt_inj.mp (by omega)
    · rw [if_neg d]
  · rw [if_neg c, if_pos]
    rw [j_ge] at c
    rw [j_le]
    omega
/-- a round in which there is still something wanted -/
theorem JQ.step (h : Rel S M) (r : RelL M L) (hcu : vp_in cu 4) {k : Nat} {lf v : Int32} {Y : MS} {B : LWS} (q : JQ M L cu ct k lf v Y B) (hk : k < (lSr L cu).1) (hlf : 0 < lf.toInt) : meTk lf Y ((lSr L cu).2.2.2 k) = tkT B lf ((lSr L cu).2.2.2 k) ∧ mE2c v (mE1 Y cu ((lSr L cu).2.2.2 k) (tkT B lf ((lSr L cu).2.2.2 k))) ((lSr L cu).2.2.2 k) = tkV v (lSr L cu) B cu ((lSr L cu).2.2.2 k) (tkT B lf ((lSr L cu).2.2.2 k)) ∧ JQ M L cu ct (k + 1) (lf - tkT B lf ((lSr L cu).2.2.2 k)) (tkV v (lSr L cu) B cu ((lSr L cu).2.2.2 k) (tkT B lf ((lSr L cu).2.2.2 k))) (mE2 (mE1 Y cu ((lSr L cu).2.2.2 k) (tkT B lf ((lSr L cu).2.2.2 k))) ((lSr L cu).2.2.2 k)) (tkS (lSr L cu) B cu ((lSr L cu).2.2.2 k) (tkT B lf ((lSr L cu).2.2.2 k))) := by
  have hb := bnd_of h r hcu
  have s := lSr_ok hb
  obtain ⟨p1, p2, p3, p4, p5⟩ := s.2.1 k hk
  obtain ⟨f1, f2, f3, f4, f5, f6, f7, f8, f9, f10⟩ := cand_f h r hcu p2 p3
  have q0 := q
  obtain ⟨q1, q2, q3, q4, q5, q6, q7, q8, q9, q10⟩ := q
  obtain ⟨g1, g2, g3⟩ := q8 k (Nat.le_refl k) hk
  have nx := @JQ.next M L cu ct s k lf v
  have hz1 := p4.trans f9.symm
  have hz2 := p5.trans f10.symm
  rw [← congrFun q7.1] at hz1
  rw [← congrFun q7.2] at hz2
  have bw := hb _ p2 p3
  have kle : (k : Int) < 20 := by have := s.1; have := r.k; have := r.2.1; omega
  generalize hj : (lSr L cu).2.2.2 k = j at *
  have al := al_n h f1 f3 f4
  obtain ⟨a1, a2, a3, a4, a5, a6, a7, a8, a9, a10, a11, a12⟩ := g1
  obtain ⟨b1, b2, b3, b4, b5, b6, b7, b8⟩ := g2
  have hp : ls_p B j = ms_pr Y j := by rw [b1, f5, a4]
  have hf : ls_f B j = ms_fz Y j := by rw [b2, f6, a5]
  have he : ls_e B j = ms_ea Y j := by rw [b5, f7, a11]
  have hcan := i_sub_le (x := ms_pr Y j) (y := ms_fz Y j) (by rw [a5]; exact al.1) (by rw [a4, a5]; exact al.2.1)
  have eT : meTk lf Y j = tkT B lf j := by
    unfold meTk mCan tkT
    rw [hp, hf]
  have tb : 0 ≤ (tkT B lf j).toInt ∧ (tkT B lf j).toInt ≤ lf.toInt ∧ (tkT B lf j).toInt ≤ (ms_pr Y j).toInt ∧ (tkT B lf j).toInt ≤ 10000000 := by
    unfold tkT
    rw [hp, hf]
    rw [a4, a5] at *
    by_cases c : lf ≤ ms_pr M j - ms_fz M j
    · rw [if_pos c]
      rw [i_le, hcan] at c
      omega
    · rw [if_neg c]
      rw [i_le, hcan] at c
      rw [hcan]
      omega
  generalize hT : tkT B lf j = t at *
  refine ⟨eT, ?_⟩
  have hea : 0 ≤ (ms_ea Y j).toInt ∧ (ms_ea Y j).toInt ≤ 60000000000000 := by rw [a11]; exact ⟨al.2.2.2.2.1, al.2.2.2.2.2⟩
  have hpah : 0 ≤ (ms_pah Y j).toInt ∧ (ms_pah Y j).toInt ≤ 20000000000 := by rw [q7.1, f9]; exact bw.1
  have hprh : 1 ≤ (ms_prh Y j).toInt := by rw [q7.2, f10]; exact bw.2.1
  have lb := meL_b (M := Y) (j := j) (t := t) hea.1 hpah ⟨tb.1, tb.2.2.2⟩ hprh
  have el : tkL (lSr L cu) B j t = meL Y j t := loss_l hz1 hz2 he
  rw [mE1_l]
  generalize hl : meL Y j t = l at *
  obtain ⟨m1, m2, m3, m4, m5, m6, m7, m8, m9, m10, m11, m12, m13, m14, m15, m16⟩ := mEl_f Y cu j t l
  have msam := fun q (hq : q ≠ j) => mEl_sam Y cu j t l hq
  obtain ⟨w1, w2, w3, w4, w5, w6, w7⟩ := tkM_f (lSr L cu) B cu j t l el
  generalize mEl Y cu j t l = N at *
  have how : ms_ow Y j = cu := a3.trans f8
  have hte : ms_te Y j = 0 := a2.trans f4
  have hth : ¬ ms_th Y j = 0 := by rw [a1]; exact f3
  have jY : j < ms_n Y := by rw [q2.1]; exact f1
  have lC := q1.2.2.2.2.2.2.1 j jY
  have rD := relD.live hcu q4 m6 m2 w2
  have eaN : ms_ea N j = ms_ea Y j - l := by rw [m1, updL_self]
  have eaNb : (ms_ea Y j - l).toInt = (ms_ea Y j).toInt - l.toInt := j_sub (by omega) (by omega)
  have cn := cents_n (x := ms_ea N j) (by rw [eaN, eaNb]; omega) (by rw [eaN, eaNb]; omega)
  have prN : ms_pr N j = ms_pr Y j - t := by rw [m3, upd_self]
  have prNb := i_sub_le (x := ms_pr Y j) (y := t) tb.1 tb.2.2.1
  have lfb := i_sub_le (x := lf) (y := t) tb.1 tb.2.1
  have eNw : ls_e (tkM (lSr L cu) B cu j t) j = ms_ea N j := by rw [w1, updL_self, eaN, he]
  have eC : lEnC (tkM (lSr L cu) B cu j t) j = mTiC N j := by
    unfold lEnC mTiC
    rw [eNw]
  by_cases g : t = ls_p (tkM (lSr L cu) B cu j t) j
  · have g0 := g
    rw [w3, hp] at g
    have z : ms_pr N j = 0 := by rw [prN, ← g, Int32.sub_self]
    have eV : mE2c v N j = tkV v (lSr L cu) B cu j t := by rw [mE2c, if_pos z, tkV_1 g0, eC]
    refine ⟨eV, ?_⟩
    rw [tkV_1 g0, tkS_1 g0, mE2, if_pos z, eC]
    obtain ⟨x1, x2, x3, x4, x5⟩ := lEn_f (tkM (lSr L cu) B cu j t) j
    have oT : lOw (tkM (lSr L cu) B cu j t) j = cu := by
      unfold lOw
      rw [w6.2.1, lC.1 hte, how]
      exact (o_le hcu).2.2.2.2.1
    have owN : ms_ow N j = cu := by rw [m5.2.2.2.2.2.1]; exact how
    have dnE := mEn_dn N j
    have eD : Int32.toInt64 (v + mTiC N j) - Int32.toInt64 ct = (Int32.toInt64 v - Int32.toInt64 ct) + Int32.toInt64 (mTiC N j) := by
      have cb : 0 ≤ (mTiC N j).toInt ∧ (mTiC N j).toInt ≤ 16438357 := cn
      rw [ext_add (by omega) (by omega), j_vc]
    have vb : (v + mTiC N j).toInt = v.toInt + (mTiC N j).toInt := by
      have cb : 0 ≤ (mTiC N j).toInt ∧ (mTiC N j).toInt ≤ 16438357 := cn
      exact i_add (by omega) (by omega)
    have cb : 0 ≤ (mTiC N j).toInt ∧ (mTiC N j).toInt ≤ 16438357 := cn
    refine nx q0 hk ?_ (m5.tr (mEn_sc N j)) (fun a ha => (msam a ha).tr (mEn_sam N j a ha)) (w6.tr x4) (fun a ha => (w7 a ha).tr (x5 a ha)) ?_ ⟨by rw [lfb]; omega, by rw [lfb]; omega⟩ ⟨by rw [vb]; omega, by rw [vb]; omega⟩ ⟨dnE.2.1.trans m15, dnE.2.2.trans m16⟩ (dnE.1.trans m4)
    · exact q1.chg j jY (m5.tr (mEn_sc N j)) (fun a ha => (msam a ha).tr (mEn_sam N j a ha)) (w6.tr x4) (fun a ha => (w7 a ha).tr (x5 a ha)) (relC_dead lC (m5.tr (mEn_sc N j)).2.2.2.2.2.2 (m5.tr (mEn_sc N j)).2.2.2.2.2.1 (w6.tr x4).2.1 (mEn_th N j) (by rw [x1]; exact upd_self _ _ _))
    · rw [eD]
      refine relD.dead (G1 := ls_g (lEn1 (tkM (lSr L cu) B cu j t) j)) (y := ms_ea N j - ms_ea N j / 3650000 * 3650000) hcu rD (mEn_paid N j) ?_ ?_ ?_
      · rw [mEn_lost, owN]
      · rw [x2, oT, eC]
      · rw [x3, oT, eNw]
  · have g0 := g
    rw [w3, hp] at g
    have z : ¬ ms_pr N j = 0 := by
      rw [prN]
      intro e
      rw [i_eq0, prNb] at e
      exact g (Int32.toInt_inj.mp (by omega))
    have eV : mE2c v N j = tkV v (lSr L cu) B cu j t := by rw [mE2c, if_neg z, tkV_0 g0]
    refine ⟨eV, ?_⟩
    rw [tkV_0 g0, tkS_0 g0, mE2, if_neg z]
    obtain ⟨x1, x2, x3, x4, x5, x6, x7⟩ := tkP_f (tkM (lSr L cu) B cu j t) j t
    refine nx q0 hk ?_ m5 msam (w6.tr x6) (fun a ha => (w7 a ha).tr (x7 a ha)) ?_ ⟨by rw [lfb]; omega, by rw [lfb]; omega⟩ ⟨q6.1, by omega⟩ ⟨m15, m16⟩ m4
    · refine q1.chg j jY m5 msam (w6.tr x6) (fun a ha => (w7 a ha).tr (x7 a ha)) ?_
      have l4 := (lC.2.2.2 hth).2.2.1 hte
      refine ⟨fun _ => by rw [(w6.tr x6).2.1, m5.2.2.2.2.2.1]; exact lC.1 hte, fun y => absurd hte (by rw [m5.2.2.2.2.2.2] at y; exact y), fun y => absurd (by rw [m7] at y; exact y) hth, fun _ => ⟨?_, ?_, fun _ => ⟨?_, fun y => ?_⟩, fun y => absurd hte (by rw [m5.2.2.2.2.2.2] at y; exact y)⟩⟩
      · rw [x1, upd_self, w3, hp, prN]
      · rw [x3, eNw]
      · rw [x4, w4, m8]; exact l4.1
      · rw [m8] at y
        rw [x5, w5, m9]; exact l4.2 y
    · intro a ha
      rw [x2]
      exact rD a ha
/-- a round in which nothing is wanted any more -/
theorem JQ.idle (h : Rel S M) (r : RelL M L) (hcu : vp_in cu 4) {k : Nat} {lf v : Int32} {Y : MS} {B : LWS} (q : JQ M L cu ct k lf v Y B) (hk : k < (lSr L cu).1) (hlf : lf.toInt ≤ 0) : tkT B lf ((lSr L cu).2.2.2 k) = 0 ∧ lf - 0 = lf ∧ tkS (lSr L cu) B cu ((lSr L cu).2.2.2 k) 0 = B ∧ tkV v (lSr L cu) B cu ((lSr L cu).2.2.2 k) 0 = v ∧ JQ M L cu ct (k + 1) lf v Y B := by
  have hb := bnd_of h r hcu
  have s := lSr_ok hb
  obtain ⟨p1, p2, p3, p4, p5⟩ := s.2.1 k hk
  obtain ⟨f1, f2, f3, f4, f5, f6, f7, f8, f9, f10⟩ := cand_f h r hcu p2 p3
  obtain ⟨q1, q2, q3, q4, q5, q6, q7, q8, q9, q10⟩ := q
  obtain ⟨g1, g2, g3⟩ := q8 k (Nat.le_refl k) hk
  obtain ⟨b1, b2, b3, b4, b5, b6, b7, b8⟩ := g2
  have al := al_n h f1 f3 f4
  have z : lf = 0 := i_eq0.mpr (by omega)
  have hcan := i_sub_le (x := ms_pr M ((lSr L cu).2.2.2 k)) (y := ms_fz M ((lSr L cu).2.2.2 k)) al.1 al.2.1
  have e0 : tkT B lf ((lSr L cu).2.2.2 k) = 0 := by
    unfold tkT
    rw [b1, b2, f5, f6, z, if_pos]
    rw [i_le, i_0, hcan]
    omega
  have id := tk_idle (z := lSr L cu) (B := B) (cu := cu) (v := v) (j := (lSr L cu).2.2.2 k) (by rw [b5, f7]; exact al.2.2.2.2.1) (by
    rw [b1, f5]
    intro e
    have e2 := congrArg Int32.toInt e
    rw [i_0] at e2
    omega)
  refine ⟨e0, Int32.sub_zero lf, id.1, id.2, q1, q2, q3, q4, q5, ⟨q6.1, by omega⟩, q7, fun a ha hm => q8 a (by omega) hm, fun x => absurd x (by omega), q10⟩
theorem early_run (h : Rel S M) (r : RelL M L) (hcu : vp_in cu 4) (h1 : 0 ≤ ct.toInt) (h2 : ct.toInt ≤ 100000000) : ∀ k, k ≤ (lSr L cu).1 → JQ M L cu ct k (mErTo (mEaM M) cu ct k).1 (mErTo (mEaM M) cu ct k).2.1 (mErTo (mEaM M) cu ct k).2.2 (tkTo (lSr L cu) L cu ct k).2.2 ∧ (tkTo (lSr L cu) L cu ct k).1 = (mErTo (mEaM M) cu ct k).1 ∧ (tkTo (lSr L cu) L cu ct k).2.1 = (mErTo (mEaM M) cu ct k).2.1
  | 0, _ => by
    have s := lSr_ok (bnd_of h r hcu)
    refine ⟨⟨r.q, ⟨rfl, rfl, rfl, rfl, rfl, rfl, rfl⟩, fxL.rf L, fun k hk => ?_, ⟨h1, h2⟩, ⟨h1, by show ct.toInt ≤ 100000000 + 16438357 * ((0 : Nat) : Int); omega⟩, ⟨rfl, rfl⟩, fun a _ ha => ⟨⟨rfl, rfl, rfl, rfl, rfl, rfl, rfl, rfl, rfl, rfl, rfl, rfl⟩, samL.rf L _, ?_⟩, fun _ a ha => absurd ha (Nat.not_lt_zero a), fun j _ _ => ⟨rfl, rfl, rfl, rfl, rfl, rfl, rfl, rfl, rfl, rfl, rfl, rfl⟩⟩, rfl, rfl⟩
    · obtain ⟨g1, g2⟩ := r.g k hk
      show ls_g L k = (if k = cu.toNatClampNeg then ms_paid M k + (Int32.toInt64 ct - Int32.toInt64 ct) else ms_paid M k) ∧ ls_g L (4 + k) = ms_lost M k
      rw [Int64.sub_self, Int64.add_zero]
      refine ⟨?_, g2⟩
      split <;> exact g1
    · obtain ⟨p1, p2, p3, p4, p5⟩ := s.2.1 a ha
      show mqD (mT0 M) (ms_n M) _ = 0
      exact mqD_at (mT0 M) _ _ (by have := r.k; omega)
  | k + 1, hk => by
    obtain ⟨ih, e1, e2⟩ := early_run h r hcu h1 h2 k (by omega)
    have hlt : k < (lSr L cu).1 := by omega
    rcases Int.lt_or_le 0 (mErTo (mEaM M) cu ct k).1.toInt with c | c
    · have pk := (ih.pick h r hcu c).1 hlt
      obtain ⟨s1, s2, s3⟩ := ih.step h r hcu hlt c
      have nle : ¬ (mErTo (mEaM M) cu ct k).1 ≤ 0 := by rw [i_le, i_0]; omega
      have em := mer_s (M := mEaM M) (cu := cu) (c := ct) nle pk
      rw [em, s1]
      show JQ M L cu ct (k + 1) _ _ _ (tkS (lSr L cu) (tkTo (lSr L cu) L cu ct k).2.2 cu ((lSr L cu).2.2.2 k) (tkT (tkTo (lSr L cu) L cu ct k).2.2 (tkTo (lSr L cu) L cu ct k).1 ((lSr L cu).2.2.2 k))) ∧ (tkTo (lSr L cu) L cu ct k).1 - tkT (tkTo (lSr L cu) L cu ct k).2.2 (tkTo (lSr L cu) L cu ct k).1 ((lSr L cu).2.2.2 k) = _ ∧ tkV (tkTo (lSr L cu) L cu ct k).2.1 (lSr L cu) (tkTo (lSr L cu) L cu ct k).2.2 cu ((lSr L cu).2.2.2 k) (tkT (tkTo (lSr L cu) L cu ct k).2.2 (tkTo (lSr L cu) L cu ct k).1 ((lSr L cu).2.2.2 k)) = _
      rw [e1, e2, s2]
      exact ⟨s3, rfl, rfl⟩
    · obtain ⟨s1, s2, s3, s4, s5⟩ := ih.idle h r hcu hlt c
      have le : (mErTo (mEaM M) cu ct k).1 ≤ 0 := by rw [i_le, i_0]; exact c
      rw [mer_0 (M := mEaM M) (cu := cu) (c := ct) le]
      show JQ M L cu ct (k + 1) _ _ _ (tkS (lSr L cu) (tkTo (lSr L cu) L cu ct k).2.2 cu ((lSr L cu).2.2.2 k) (tkT (tkTo (lSr L cu) L cu ct k).2.2 (tkTo (lSr L cu) L cu ct k).1 ((lSr L cu).2.2.2 k))) ∧ (tkTo (lSr L cu) L cu ct k).1 - tkT (tkTo (lSr L cu) L cu ct k).2.2 (tkTo (lSr L cu) L cu ct k).1 ((lSr L cu).2.2.2 k) = _ ∧ tkV (tkTo (lSr L cu) L cu ct k).2.1 (lSr L cu) (tkTo (lSr L cu) L cu ct k).2.2 cu ((lSr L cu).2.2.2 k) (tkT (tkTo (lSr L cu) L cu ct k).2.2 (tkTo (lSr L cu) L cu ct k).1 ((lSr L cu).2.2.2 k)) = _
      rw [e1, e2, s1, s3, s4, s2]
      exact ⟨s5, rfl, rfl⟩
def qEaD (L : LWS) (cu ct : Int32) : Int32 := if ct ≤ qFr L cu then lTkV L cu ct else -13
def qEaL (L : LWS) (cu ct : Int32) : LWS := if ct ≤ qFr L cu then lTk L cu ct else L
theorem op_early (h : Rel S M) (r : RelL M L) (hcu : vp_in cu 4) (h1 : 1 ≤ ct.toInt) (h2 : ct.toInt ≤ 100000000) : Op (eaC S cu ct) (erTo (noteX S cu) cu ct (cs_n S)).2.1 (qEaD L cu ct) S (erTo (noteX S cu) cu ct (cs_n S)).2.2 (qEaL L cu ct) := by
  have s := sim_early h cu ct
  have fr : qFr L cu = mfTo M cu (ms_n M) := by
    show lFr _ _ _ _ (lK L) = _
    rw [r.k, fr_l h r hcu _ (Nat.le_refl _)]
  have hin : ¬ mIn ct 1 100000000 = 0 := in_m (show (1 : Int32).toInt ≤ ct.toInt from h1) (show ct.toInt ≤ (100000000 : Int32).toInt from h2)
  by_cases c : ct ≤ qFr L cu
  · have hk : kEa M cu ct = 0 := by rw [kEa, if_neg (cu_m hcu), if_neg hin, if_pos (by rw [← fr]; exact c)]
    obtain ⟨s1, s2, s3⟩ := s.ok hk
    have ok := early_ok h hk
    have so := lSr_ok (bnd_of h r hcu)
    obtain ⟨q, e1, e2⟩ := early_run (ct := ct) h r hcu (by omega) h2 (lSr L cu).1 (Nat.le_refl _)
    have lf0 : (mErTo (mEaM M) cu ct (lSr L cu).1).1 ≤ 0 := by
      by_cases z : (mErTo (mEaM M) cu ct (lSr L cu).1).1 ≤ 0
      · exact z
      · obtain ⟨j, j1, j2⟩ := ok.1 (lSr L cu).1 z
        have pk := (q.pick h r hcu (by rw [i_le, i_0] at z; omega)).2 (Nat.le_refl _)
        have j1 : mnTo (mErTo (mEaM M) cu ct (lSr L cu).1).2.2 cu (ms_n M) = some j := j1
        rw [pk] at j1
        cases j1
    have en : mErTo (mEaM M) cu ct (ms_n (mEaM M)) = mErTo (mEaM M) cu ct (lSr L cu).1 := mer_end lf0 (by
      show (lSr L cu).1 ≤ ms_n M
      have := so.1
      have := r.k
      omega)
    rw [en] at s2 s3
    refine Or.inl ⟨s1, ?_, _, s3, ?_⟩
    · rw [t64_inj s2, qEaD, if_pos c, lTkV, e2]
    · rw [qEaL, if_pos c, lTk]
      obtain ⟨q1, q2, q3, q4, q5, q6, q7, q8, q9, q10⟩ := q
      generalize (tkTo (lSr L cu) L cu ct (lSr L cu).1).2.2 = B at *
      generalize (mErTo (mEaM M) cu ct (lSr L cu).1).2.2 = Y at *
      generalize (mErTo (mEaM M) cu ct (lSr L cu).1).2.1 = V at *
      have q1' : RelQ (mPa Y cu V) (tkE B cu ct) := q1
      refine q1'.l (fun k hk => ?_)
      obtain ⟨d1, d2⟩ := q4 k hk
      have h4 := (o_le hcu).2.2.2.2.2.2.1
      rw [mPa_paid, mPa_lost]
      show vp_updL (ls_g B) cu.toNatClampNeg (ls_g B cu.toNatClampNeg + Int32.toInt64 ct) k = _ ∧ vp_updL (ls_g B) cu.toNatClampNeg (ls_g B cu.toNatClampNeg + Int32.toInt64 ct) (4 + k) = _
      rw [updL_ne (show 4 + k ≠ cu.toNatClampNeg by omega)]
      refine ⟨?_, d2⟩
      by_cases y : k = cu.toNatClampNeg
      · rw [← y, updL_self, updL_self, d1, if_pos y, Int64.add_assoc, Int64.sub_add_cancel]
      · rw [updL_ne y, updL_ne y, d1, if_neg y]
  · have hk : kEa M cu ct = 3 := by rw [kEa, if_neg (cu_m hcu), if_neg hin, if_neg (by rw [← fr]; exact c)]
    obtain ⟨s1, s2⟩ := s.no (by rw [hk]; decide)
    exact Or.inr ⟨s1, by rw [ex3_3 (s2.trans hk), qEaD, if_neg c], M, h, by rw [qEaL, if_neg c]; exact r⟩
end ER2
