/-! letting go, taking, joining -/
theorem relG.both {M N : MS} {A B : LWS} {o : Int32} {x y : Int64} {G1 : Nat → Int64} (ho : vp_in o 4) (h : relG M A) (hp : ms_paid N = vp_updL (ms_paid M) o.toNatClampNeg (ms_paid M o.toNatClampNeg + x)) (hl : ms_lost N = vp_updL (ms_lost M) o.toNatClampNeg (ms_lost M o.toNatClampNeg + y)) (h1 : G1 = vp_updL (ls_g A) o.toNatClampNeg (ls_g A o.toNatClampNeg + x)) (hg : ls_g B = vp_updL G1 (4 + o).toNatClampNeg (G1 (4 + o).toNatClampNeg + y)) : relG N B := by
  intro k hk
  obtain ⟨a1, a2⟩ := h k hk
  have h4 := (o_le ho).2.2.2.2.2.2.1
  have h8 := (o_le ho).2.2.2.2.2.2.2
  subst h1
  rw [hp, hl, hg, h8]
  constructor
  · rw [updL_ne (by omega)]
    by_cases c : k = o.toNatClampNeg
    · rw [← c, updL_self, updL_self, a1]
    · rw [updL_ne c, updL_ne c, a1]
  · by_cases c : k = o.toNatClampNeg
    · rw [← c, updL_self, updL_self, updL_ne (by omega), a2]
    · rw [updL_ne c, updL_ne (by omega), updL_ne (by omega), a2]
/-- of a dead lot little is asked -/
theorem relC_dead {M N : MS} {A B : LWS} {j : Nat} (l : relC M A j) (h1 : ms_te N = ms_te M) (h2 : ms_ow N = ms_ow M) (h3 : ls_c B = ls_c A) (h4 : ms_th N j = 0) (h5 : ls_p B j = 0) : relC N B j := by
  unfold relC
  rw [h1, h2, h3]
  exact ⟨l.1, l.2.1, fun _ => h5, fun q => absurd h4 q⟩
section OPS2
variable {S : CS} {M : MS} {L : LWS}
/-- of an alive lot by TERM -/
theorem al_t (h : Rel S M) {j : Nat} (hn : j < ms_n M) (ht : ¬ ms_th M j = 0) (c : ¬ ms_te M j = 0) : 1 ≤ (ms_pr M j).toInt ∧ 0 ≤ (ms_ea M j).toInt ∧ (ms_pr M j).toInt * 3650000 + (ms_ea M j).toInt < 7838315000000000 ∧ (ms_bg M j = -1 ∨ (0 ≤ (ms_bg M j).toInt ∧ (ms_bg M j).toInt ≤ (ms_now M).toInt)) ∧ (0 ≤ (ms_now M).toInt ∧ (ms_now M).toInt ≤ 3000) := by
  have hi2 : j < cs_n S := by rw [h.n]; exact hn
  have g := h.lot hi2
  have hal : ¬ lr_pr (cs_lt S j) ≤ 0 := fun q => ht (g.2.2.1.mp q)
  have hb : ¬ bT (cs_lt S j) = 0 := fun q => c (g.2.1.symm.trans q)
  have g2 := g.2.2.2 hal
  obtain ⟨t1, t2, t3, t4, t5, t6, t7, t8, t9, t10, t11⟩ := g2.2.2.2 hb
  have w := term_w h hi2 hal hb
  have hd := h.2.2.2.2.2.2.2.2.2.2.2.2.1
  have hday : cs_day S = ms_now M := h.2.2.2.2.2.2.2.2.1
  rw [← g2.1, ← g2.2.1, ← t5, ← hday]
  exact ⟨w.1, w.2.1, w.2.2, t8, hd⟩
theorem op_letGo (h : Rel S M) (r : RelL M L) {j : Nat} (hj : j < 20) : Op (lgC S (nI j)) (lgV S (nI j)) (qLgD L j) S (lgS S (nI j)) (qLgL L j) := by
  have hc : (nI j).toNatClampNeg = j := nI_clamp (by omega)
  have s := sim_letGo h (nI j)
  have e6 : (6 : Int32).toInt = 6 := rfl
  rcases pl_or h r hj with ⟨a1, a2, a3, a4, a5, a6, a7, a8, a9⟩ | ⟨a1, a2, a3, a4⟩
  · have l := r.lot a3
    rcases c_or h r a3 with ⟨c1, c2, c3, c4⟩ | ⟨c1, c2, c3, c4⟩
    · have hC : qLgC L j = 0 := by rw [qLgC, if_neg a2, if_pos c2]
      have hk : kLg M (nI j) = 2 := by rw [kLg, if_neg a7, hc, if_pos c1]
      obtain ⟨s1, s2⟩ := s.no (by rw [hk]; decide)
      exact Or.inr ⟨s1, by rw [exIS_2 (lgC_r _ _) s1 (s2.trans hk), qLgD, if_neg a1, if_pos hC], M, h, by rw [qLgL, if_pos hC]; exact r⟩
    · obtain ⟨t1, t2, t3, t4, t5, t6⟩ := (l.2.2.2 a5).2.2.2 c1
      obtain ⟨w1, w2, w3, w4, w5⟩ := al_t h a3 a5 c1
      by_cases d : ms_bg M j = -1
      · have hC : qLgC L j = 0 := by rw [qLgC, if_neg a2, if_neg c2, if_pos (by rw [t5, d]; decide)]
        have hk : kLg M (nI j) = 2 := by rw [kLg, if_neg a7, hc, if_neg c1, if_pos d]
        obtain ⟨s1, s2⟩ := s.no (by rw [hk]; decide)
        exact Or.inr ⟨s1, by rw [exIS_2 (lgC_r _ _) s1 (s2.trans hk), qLgD, if_neg a1, if_pos hC], M, h, by rw [qLgL, if_pos hC]; exact r⟩
      · have w6 := w4.resolve_left d
        have q1 : ¬ ls_d L (3 * j + 2) < 0 := by rw [t5, i_lt, i_0]; omega
        have x1 := i_sub (x := ms_now M) (y := ms_bg M j) (by omega) (by omega)
        have x2 := i_sub (x := ms_now M) (y := 6) (by omega) (by omega)
        by_cases f : 6 < ls_n L 1 - ls_d L (3 * j + 2)
        · have hC : qLgC L j = 0 := by rw [qLgC, if_neg a2, if_neg c2, if_neg q1, if_pos f]
          have f2 : ¬ ms_now M - 6 ≤ ms_bg M j := by
            rw [r.2.2.1, t5, i_lt, x1] at f
            rw [i_le, x2]
            omega
          have hk : kLg M (nI j) = 2 := by rw [kLg, if_neg a7, hc, if_neg c1, if_neg d, if_neg f2]
          obtain ⟨s1, s2⟩ := s.no (by rw [hk]; decide)
          exact Or.inr ⟨s1, by rw [exIS_2 (lgC_r _ _) s1 (s2.trans hk), qLgD, if_neg a1, if_pos hC], M, h, by rw [qLgL, if_pos hC]; exact r⟩
        · have hC : ¬ qLgC L j = 0 := by rw [qLgC, if_neg a2, if_neg c2, if_neg q1, if_neg f]; decide
          have f2 : ms_now M - 6 ≤ ms_bg M j := by
            rw [r.2.2.1, t5, i_lt, x1] at f
            rw [i_le, x2]
            omega
          have hk : kLg M (nI j) = 0 := by rw [kLg, if_neg a7, hc, if_neg c1, if_neg d, if_pos f2]
          obtain ⟨s1, s2, s3⟩ := s.ok hk
          rw [hc] at s2 s3
          refine Or.inl ⟨s1, ?_, _, s3, ?_⟩
          · rw [t64_inj s2, qLgD, if_neg a1, if_neg hC, a8]
          · rw [qLgL, if_neg hC]
            obtain ⟨m1, m2, m3, m4, m5⟩ := mLg_f (mT0 M) j
            have ho := r.ow h a3
            have ho4 := h.ow4 (j := j) (by omega)
            refine r.chg j a3 m3 m4 ⟨rfl, rfl, rfl⟩ (fun q hq => ⟨upd_ne hq, rfl, rfl, rfl, updL_ne hq, rfl, rfl, rfl⟩) (relC_dead l m3.2.2.2.2.2.2 m3.2.2.2.2.2.1 rfl m5 (upd_self _ _ _)) ?_
            refine relG.both (o := ms_ow M j) (x := Int32.toInt64 (ms_pr M j)) (y := ms_ea M j) (G1 := ls_g (qLg1 L j)) ho4 r.g m1 m2 ?_ ?_
            · rw [← ho, ← a8]; rfl
            · rw [← ho, ← (l.2.2.2 a5).2.1]; rfl
  · have hC : qLgC L j = 0 := by rw [qLgC, if_pos a2]
    have hk : kLg M (nI j) = 1 := by rw [kLg, if_pos a3]
    obtain ⟨s1, s2⟩ := s.no (by rw [hk]; decide)
    exact Or.inr ⟨s1, by rw [exIS_1 (s2.trans hk), qLgD, if_pos a1], M, h, by rw [qLgL, if_pos hC]; exact r⟩
end OPS2
def qJoC (L : LWS) (i j : Nat) : Int32 := if ls_c L i < 10 then 0 else if ls_c L j = ls_c L i then (if ls_t L j = ls_t L i then (if 100000000 < ls_p L i + ls_p L j then 0 else 1) else 0) else 0
def qJoD (L : LWS) (i j : Nat) : Int32 := if ls_p L i = 0 then -11 else if ls_p L j = 0 then -11 else if nI i = nI j then -12 else if qJoC L i j = 0 then -13 else ls_p L i + ls_p L j
def qJo1 (L : LWS) (i j : Nat) : LWS := ls_set_p L (upd (ls_p L) i (ls_p L i + ls_p L j))
def qJo2 (L : LWS) (i j : Nat) : LWS := ls_set_e L (vp_updL (ls_e L) i (ls_e L i + ls_e L j))
def qJo3 (L : LWS) (i j : Nat) : LWS := ls_set_w L (vp_updL (ls_w L) i (ls_w L i + ls_w L j))
def qJo4 (L : LWS) (i : Nat) : LWS := ls_set_d L (upd (ls_d L) (3 * i + 2) (-1))
def qJo5 (L : LWS) (i j : Nat) : LWS := lEn4 (lEn3 (qJo4 (qJo3 (qJo2 (qJo1 L i j) i j) i j) i) j) j
def qJoL (L : LWS) (i j : Nat) : LWS := if qJoD L i j < 0 then L else qJo5 L i j
theorem qJo5_f (L : LWS) (i j : Nat) : ls_p (qJo5 L i j) = upd (upd (ls_p L) i (ls_p L i + ls_p L j)) j 0 ∧ ls_e (qJo5 L i j) = vp_updL (vp_updL (ls_e L) i (ls_e L i + ls_e L j)) j 0 ∧ ls_w (qJo5 L i j) = vp_updL (ls_w L) i (ls_w L i + ls_w L j) ∧ ls_d (qJo5 L i j) = upd (ls_d L) (3 * i + 2) (-1) ∧ ls_f (qJo5 L i j) = ls_f L ∧ ls_t (qJo5 L i j) = ls_t L ∧ ls_g (qJo5 L i j) = ls_g L ∧ fxL L (qJo5 L i j) := ⟨rfl, rfl, rfl, rfl, rfl, rfl, rfl, rfl, rfl, rfl⟩
section JO
variable {S : CS} {M : MS} {L : LWS}
theorem two_b (h : Rel S M) {i j : Nat} (hi : i < cs_n S) (hj : j < cs_n S) (hij : j ≠ i) : wP (cs_lt S i) + wP (cs_lt S j) < 7838315000000000 := by
  have e := sumP_up (cs_lt S) i (lr_set_pr (cs_lt S i) 0) (cs_n S)
  have d : wP (lr_set_pr (cs_lt S i) 0) = 0 := wP_dead (by show (0 : Int32) ≤ 0; decide)
  rw [if_pos hi, d] at e
  have s := sum_b h
  have p : ∀ q, q < cs_n S → 0 ≤ wP (va_up (cs_lt S) i (lr_set_pr (cs_lt S i) 0) q) := fun q hq => by
    by_cases c : q = i
    · subst c; rw [va_up_self, d]; exact Int.le_refl 0
    · rw [va_up_ne _ _ c]; exact wP_pos h hq
  have g := (sumP_ge p).2 j hj
  rw [va_up_ne _ _ hij] at g
  omega
theorem op_join (h : Rel S M) (r : RelL M L) {i j : Nat} (hi : i < 20) (hj : j < 20) : Op (joC S (nI i) (nI j)) (lr_pr (cs_lt (joS S (nI i).toNatClampNeg (nI j).toNatClampNeg) (nI i).toNatClampNeg)) (qJoD L i j) S (joS S (nI i).toNatClampNeg (nI j).toNatClampNeg) (qJoL L i j) := by
  have hci : (nI i).toNatClampNeg = i := nI_clamp (by omega)
  have hcj : (nI j).toNatClampNeg = j := nI_clamp (by omega)
  have s := sim_join h (nI i) (nI j)
  rw [hci, hcj] at s ⊢
  have no : ∀ x : Int32, qJoD L i j = x → x < 0 → ∀ k : Int32, kJo M (nI i) (nI j) = k → ¬ k = 0 → (∀ c, pl3 c = k → exV c = x) → Op (joC S (nI i) (nI j)) (lr_pr (cs_lt (joS S i j) i)) (qJoD L i j) S (joS S i j) (qJoL L i j) := fun x hx h0 k hk hk0 hex => by
    obtain ⟨s1, s2⟩ := s.no (by rw [hk]; exact hk0)
    exact Or.inr ⟨s1, by rw [hex _ (s2.trans hk), hx], M, h, by rw [qJoL, if_pos (by rw [hx]; exact h0)]; exact r⟩
  rcases pl_or h r hi with ⟨a1, a2, a3, a4, a5, a6, a7, a8, a9⟩ | ⟨a1, a2, a3, a4⟩
  · rcases pl_or h r hj with ⟨b1, b2, b3, b4, b5, b6, b7, b8, b9⟩ | ⟨b1, b2, b3, b4⟩
    · by_cases e : nI i = nI j
      · exact no (-12) (by rw [qJoD, if_neg a1, if_neg b1, if_pos e]) (by decide) 2 (by rw [kJo, if_neg a7, if_neg b7, if_pos e]) (by decide) (fun _ => ex3_2)
      · have hij : j ≠ i := fun q => e (by rw [q])
        have oi := h.ow4 (j := i) (by omega)
        have oj := h.ow4 (j := j) (by omega)
        have li := r.lot a3
        have lj := r.lot b3
        have nc : qJoC L i j = 0 → qJoD L i j = -13 := fun q => by rw [qJoD, if_neg a1, if_neg b1, if_neg e, if_pos q]
        have nk : ∀ x, kJo M (nI i) (nI j) = x → kJo M (nI i) (nI j) = x := fun _ q => q
        rcases c_or h r a3 with ⟨c1, c2, c3, c4⟩ | ⟨c1, c2, c3, c4⟩
        · exact no (-13) (nc (by rw [qJoC, if_pos c2])) (by decide) 3 (by rw [kJo, if_neg a7, if_neg b7, if_neg e, hci, if_pos c1]) (by decide) (fun _ => ex3_3)
        · rcases c_or h r b3 with ⟨d1, d2, d3, d4⟩ | ⟨d1, d2, d3, d4⟩
          · exact no (-13) (nc (by rw [qJoC, if_neg c2, if_neg (by rw [c4, d4]; exact fun q => o_ne oi oj q.symm)])) (by decide) 3 (by rw [kJo, if_neg a7, if_neg b7, if_neg e, hci, hcj, if_neg c1, if_pos d1]) (by decide) (fun _ => ex3_3)
          · by_cases f : ms_ow M i = ms_ow M j
            · have f1 : ls_c L j = ls_c L i := by rw [c4, d4, f]
              obtain ⟨t1, t2, t3, t4, t5, t6⟩ := (li.2.2.2 a5).2.2.2 c1
              obtain ⟨u1, u2, u3, u4, u5, u6⟩ := (lj.2.2.2 b5).2.2.2 d1
              by_cases g : ms_en M i = ms_en M j
              · have g1 : ls_t L j = ls_t L i := by rw [t1, u1, g]
                obtain ⟨w1, w2, w3, w4, w5⟩ := al_t h a3 a5 c1
                obtain ⟨x1, x2, x3, x4, x5⟩ := al_t h b3 b5 d1
                have tb := two_b h a4 b4 hij
                have gi := h.lot a4
                have gj := h.lot b4
                have ei := (gi.2.2.2 a6).2.1
                have ej := (gj.2.2.2 b6).2.1
                rw [wP_term a6 (fun q => c1 (gi.2.1.symm.trans q)), wP_term b6 (fun q => d1 (gj.2.1.symm.trans q)), a9, b9, ei, ej] at tb
                have sm := i_add (x := ms_pr M i) (y := ms_pr M j) (by omega) (by omega)
                have e8 : (100000000 : Int32).toInt = 100000000 := rfl
                have e9 : (100000000 : Int64).toInt = 100000000 := rfl
                have sl : (Int32.toInt64 (ms_pr M i) + Int32.toInt64 (ms_pr M j)).toInt = (ms_pr M i).toInt + (ms_pr M j).toInt := by
                  rw [j_add, Int32.toInt_toInt64, Int32.toInt_toInt64]
                  · rw [Int32.toInt_toInt64, Int32.toInt_toInt64]; omega
                  · rw [Int32.toInt_toInt64, Int32.toInt_toInt64]; omega
                by_cases k : 100000000 < ls_p L i + ls_p L j
                · have k2 : ¬ lg_cmp (Int32.toInt64 (ms_pr M i) + Int32.toInt64 (ms_pr M j)) 100000000 ≤ 0 := by
                    rw [cmp_le, sl, e9]
                    rw [a8, b8, i_lt, sm, e8] at k
                    omega
                  exact no (-13) (nc (by rw [qJoC, if_neg c2, if_pos f1, if_pos g1, if_pos k])) (by decide) 3 (by rw [kJo, if_neg a7, if_neg b7, if_neg e, hci, hcj, if_neg c1, if_neg d1, if_pos f, if_pos g, if_neg k2]) (by decide) (fun _ => ex3_3)
                · have k2 : lg_cmp (Int32.toInt64 (ms_pr M i) + Int32.toInt64 (ms_pr M j)) 100000000 ≤ 0 := by
                    rw [cmp_le, sl, e9]
                    rw [a8, b8, i_lt, sm, e8] at k
                    omega
                  have hC : ¬ qJoC L i j = 0 := by rw [qJoC, if_neg c2, if_pos f1, if_pos g1, if_neg k]; decide
                  have hD : qJoD L i j = ls_p L i + ls_p L j := by rw [qJoD, if_neg a1, if_neg b1, if_neg e, if_neg hC]
                  have hk : kJo M (nI i) (nI j) = 0 := by rw [kJo, if_neg a7, if_neg b7, if_neg e, hci, hcj, if_neg c1, if_neg d1, if_pos f, if_pos g, if_pos k2]
                  obtain ⟨s1, s2, s3⟩ := s.ok hk
                  obtain ⟨m1, m2, m3, m4, m5, m6, m7, m8, m9, m10, m11, m12, m13⟩ := mJo_f (mT0 M) i j
                  have p1 : ms_pr (mJo (mT0 M) i j) i = ms_pr M i + ms_pr M j := by rw [m1]; exact upd_self _ _ _
                  refine Or.inl ⟨s1, ?_, _, s3, ?_⟩
                  · rw [t64_inj s2, p1, hD, a8, b8]
                  · have h0 : ¬ qJoD L i j < 0 := by rw [hD, a8, b8, i_lt, sm, i_0]; omega
                    rw [qJoL, if_neg h0]
                    obtain ⟨l1, l2, l3, l4, l5, l6, l7, l8⟩ := qJo5_f L i j
                    have hji : i ≠ j := fun q => hij q.symm
                    obtain ⟨r1, r2, r3, r4, r5, r6, r7, r8, r9⟩ := r
                    obtain ⟨sc1, sc2, sc3, sc4, sc5, sc6, sc7⟩ := m6
                    obtain ⟨y1, y2, y3⟩ := l8
                    have di : 3 * j ≠ 3 * i + 2 := by omega
                    have dj := d_ne hij 1 2 (by omega) (by omega)
                    have dk := d_ne hij 2 2 (by omega) (by omega)
                    refine ⟨by rw [y1, sc1]; exact r1, by rw [sc1]; exact r2, by rw [y1, sc5]; exact r3, by rw [y1, sc3]; exact r4, by rw [y1, sc4]; exact r5, by rw [y3, sc2]; exact r6, fun q hq => ?_, fun q hq h20 => ?_, r9.mv m7 m8 l7⟩
                    · rw [sc1] at hq
                      by_cases z1 : q = j
                      · subst z1
                        exact relC_dead lj sc7 sc6 y2 (by rw [m5, upd_self]; rfl) (by rw [l1]; exact upd_self _ _ _)
                      · by_cases z2 : q = i
                        · subst z2
                          unfold relC
                          rw [sc7, sc6, y2, l1, l2, l3, l4, l5, l6, m1, m2, m3, m4, m5, m9, m10, m11, m12, m13, upd_ne z1, upd_self, upd_self, upd_ne z1, updL_ne z1, updL_self, updL_self, updL_self, updL_self, upd_ne (show 3 * q ≠ 3 * q + 2 by omega), upd_ne (show 3 * q + 1 ≠ 3 * q + 2 by omega), upd_self, upd_self, t2, u2, (li.2.2.2 a5).2.1, (lj.2.2.2 b5).2.1, a8, b8]
                          exact ⟨li.1, li.2.1, fun z => absurd z a5, fun _ => ⟨rfl, rfl, (li.2.2.2 a5).2.2.1, fun _ => ⟨t1, rfl, t3, t4, rfl, t6⟩⟩⟩
                        · have di2 : 3 * q ≠ 3 * i + 2 := by omega
                          have dj2 := d_ne z2 1 2 (by omega) (by omega)
                          have dk2 := d_ne z2 2 2 (by omega) (by omega)
                          have lq := r7 q hq
                          unfold relC
                          rw [sc7, sc6, y2, l1, l2, l3, l4, l5, l6, m1, m2, m3, m4, m5, m9, m10, m11, m12, m13, upd_ne z1, upd_ne z2, upd_ne z1, upd_ne z2, updL_ne z1, updL_ne z2, updL_ne z2, updL_ne z2, updL_ne z2, upd_ne di2, upd_ne dj2, upd_ne dk2, upd_ne z2]
                          exact lq
                    · rw [sc1] at hq
                      have z1 : q ≠ j := by have : j < ms_n (mT0 M) := b3; omega
                      have z2 : q ≠ i := by have : i < ms_n (mT0 M) := a3; omega
                      rw [l1, l2, l5, upd_ne z1, upd_ne z2, updL_ne z1, updL_ne z2]
                      exact r8 q hq h20
              · have g1 : ¬ ls_t L j = ls_t L i := by rw [t1, u1]; exact fun q => g q.symm
                exact no (-13) (nc (by rw [qJoC, if_neg c2, if_pos f1, if_neg g1])) (by decide) 3 (by rw [kJo, if_neg a7, if_neg b7, if_neg e, hci, hcj, if_neg c1, if_neg d1, if_pos f, if_neg g]) (by decide) (fun _ => ex3_3)
            · have f1 : ¬ ls_c L j = ls_c L i := by
                rw [c4, d4]
                intro q
                refine f (Eq.symm ?_)
                have q2 := congrArg (fun z => z - 10) q
                simpa [Int32.add_comm, Int32.add_sub_cancel] using q2
              exact no (-13) (nc (by rw [qJoC, if_neg c2, if_neg f1])) (by decide) 3 (by rw [kJo, if_neg a7, if_neg b7, if_neg e, hci, hcj, if_neg c1, if_neg d1, if_neg f]) (by decide) (fun _ => ex3_3)
    · exact no (-11) (by rw [qJoD, if_neg a1, if_pos b1]) (by decide) 1 (by rw [kJo, if_neg a7, if_pos b3]) (by decide) (fun _ => ex3_1)
  · exact no (-11) (by rw [qJoD, if_pos a1]) (by decide) 1 (by rw [kJo, if_pos a3]) (by decide) (fun _ => ex3_1)
end JO
