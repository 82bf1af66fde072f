/-! the row of early money: what the sorting leaves -/
theorem shf_spec {P : Nat → Int64} {F : Nat → Int32} {j : Nat} : ∀ (pl : Nat) (r : Nat → Nat), (shf P F j pl r).1 ≤ pl ∧ (∀ i, i < (shf P F j pl r).1 → (shf P F j pl r).2 i = r i) ∧ (∀ i, (shf P F j pl r).1 < i → i ≤ pl → (shf P F j pl r).2 i = r (i - 1)) ∧ (∀ i, pl < i → (shf P F j pl r).2 i = r i) ∧ ((shf P F j pl r).1 = 0 ∨ 0 ≤ lg_cmp (P j * Int32.toInt64 (F (r ((shf P F j pl r).1 - 1)))) (P (r ((shf P F j pl r).1 - 1)) * Int32.toInt64 (F j))) ∧ (∀ i, (shf P F j pl r).1 ≤ i → i < pl → ¬ 0 ≤ lg_cmp (P j * Int32.toInt64 (F (r i))) (P (r i) * Int32.toInt64 (F j)))
  | 0, r => ⟨Nat.le_refl 0, fun _ _ => rfl, fun i h1 h2 => by have h1 : 0 < i := h1; omega, fun _ _ => rfl, Or.inl rfl, fun i _ h2 => absurd h2 (Nat.not_lt_zero i)⟩
  | pl + 1, r => by
    by_cases h : 0 ≤ lg_cmp (P j * Int32.toInt64 (F (r pl))) (P (r pl) * Int32.toInt64 (F j))
    · rw [shf_0 h]
      refine ⟨Nat.le_refl _, fun _ _ => rfl, fun i h1 h2 => ?_, fun _ _ => rfl, Or.inr h, fun i h1 h2 => ?_⟩
      · have h1 : pl + 1 < i := h1
        omega
      · have h1 : pl + 1 ≤ i := h1
        omega
    · rw [shf_1 h]
      obtain ⟨a1, a2, a3, a4, a5, a6⟩ := shf_spec (P := P) (F := F) (j := j) pl (va_up r (pl + 1) (r pl))
      have u : ∀ i, i ≤ pl → va_up r (pl + 1) (r pl) i = r i := fun i hi => va_up_ne _ _ (by omega)
      generalize shf P F j pl (va_up r (pl + 1) (r pl)) = T at *
      refine ⟨by omega, fun i hi => ?_, fun i h1 h2 => ?_, fun i h1 => ?_, ?_, fun i h1 h2 => ?_⟩
      · rw [a2 i hi, u i (by omega)]
      · rcases Nat.lt_or_ge pl i with q | q
        · have e : i = pl + 1 := by omega
          subst e
          rw [a4 _ q, va_up_self]; rfl
        · rw [a3 i h1 q, u _ (by omega)]
      · rw [a4 i (by omega), va_up_ne _ _ (by omega)]
      · rcases a5 with q | q
        · exact Or.inl q
        · rw [u _ (by omega)] at q
          exact Or.inr q
      · rcases Nat.lt_or_ge i pl with q | q
        · have w := a6 i h1 q
          rw [u i (by omega)] at w
          exact w
        · have e : i = pl := by omega
          subst e
          exact h
/-- asked before: less harm, or as much and a higher number -/
def bef (L : LWS) (a b : Nat) : Prop := (lPa L a).toInt * (ls_p L b).toInt < (lPa L b).toInt * (ls_p L a).toInt ∨ ((lPa L a).toInt * (ls_p L b).toInt = (lPa L b).toInt * (ls_p L a).toInt ∧ b < a)
def cand (L : LWS) (cu : Int32) (j : Nat) : Prop := ls_c L j = cu ∧ ¬ ls_p L j ≤ 0
theorem bef_tr {L : LWS} {a b c : Nat} (ha : 0 < (ls_p L a).toInt) (hb : 0 < (ls_p L b).toInt) (hc : 0 < (ls_p L c).toInt) (h : bef L a b) (g : bef L b c) : bef L a c := by
  unfold bef at h g ⊢
  generalize (lPa L a).toInt = xa at *
  generalize (lPa L b).toInt = xb at *
  generalize (lPa L c).toInt = xc at *
  generalize (ls_p L a).toInt = ya at *
  generalize (ls_p L b).toInt = yb at *
  generalize (ls_p L c).toInt = yc at *
  have e1 : xa * yb * yc = xa * yc * yb := Int.mul_right_comm _ _ _
  have e2 : xb * ya * yc = xb * yc * ya := Int.mul_right_comm _ _ _
  have e3 : xc * yb * ya = xc * ya * yb := Int.mul_right_comm _ _ _
  have lt : xa * yc * yb < xc * ya * yb → xa * yc < xc * ya := fun q => by
    rcases Int.lt_or_le (xa * yc) (xc * ya) with z | z
    · exact z
    · have := Int.mul_le_mul_of_nonneg_right z (Int.le_of_lt hb)
      omega
  rcases h with h | ⟨h, h2⟩
  · have p := Int.mul_lt_mul_of_pos_right h hc
    rcases g with g | ⟨g, g2⟩
    · have q := Int.mul_lt_mul_of_pos_right g ha
      exact Or.inl (lt (by omega))
    · have q : xb * yc * ya = xc * yb * ya := by rw [g]
      exact Or.inl (lt (by omega))
  · have p : xa * yb * yc = xb * ya * yc := by rw [h]
    rcases g with g | ⟨g, g2⟩
    · have q := Int.mul_lt_mul_of_pos_right g ha
      exact Or.inl (lt (by omega))
    · have q : xb * yc * ya = xc * yb * ya := by rw [g]
      refine Or.inr ⟨?_, by omega⟩
      have w : xa * yc * yb = xc * ya * yb := by omega
      exact Int.eq_of_mul_eq_mul_right (by omega) w
/-- what holds once the lots from u on are sorted -/
def Srt (L : LWS) (cu : Int32) (u : Nat) (z : SrT) : Prop := z.1 + u ≤ lK L ∧ (∀ a, a < z.1 → u ≤ z.2.2.2 a ∧ z.2.2.2 a < lK L ∧ cand L cu (z.2.2.2 a) ∧ z.2.1 (z.2.2.2 a) = lPa L (z.2.2.2 a) ∧ z.2.2.1 (z.2.2.2 a) = ls_p L (z.2.2.2 a)) ∧ (∀ j, u ≤ j → j < lK L → cand L cu j → ∃ a, a < z.1 ∧ z.2.2.2 a = j) ∧ (∀ a b, a < b → b < z.1 → bef L (z.2.2.2 a) (z.2.2.2 b))
/-- bounds under which cross products are exact -/
def bndL (L : LWS) (cu : Int32) : Prop := ∀ j, j < lK L → cand L cu j → (0 ≤ (lPa L j).toInt ∧ (lPa L j).toInt ≤ 20000000000) ∧ (1 ≤ (ls_p L j).toInt ∧ (ls_p L j).toInt ≤ 10000000)
theorem Srt.ins {L : LWS} {cu : Int32} {u : Nat} {z : SrT} (hb : bndL L cu) (h : Srt L cu (u + 1) z) (hu : u < lK L) (hc : cand L cu u) : Srt L cu u (z.1 + 1, srP L u z, srF L u z, va_up (shf (srP L u z) (srF L u z) u z.1 z.2.2.2).2 (shf (srP L u z) (srF L u z) u z.1 z.2.2.2).1 u) := by
  obtain ⟨h1, h2, h3, h4⟩ := h
  have bu := hb u hu hc
  have hP : ∀ a, a < z.1 → srP L u z (z.2.2.2 a) = lPa L (z.2.2.2 a) ∧ srF L u z (z.2.2.2 a) = ls_p L (z.2.2.2 a) := fun a ha => by
    obtain ⟨q1, q2, q3, q4, q5⟩ := h2 a ha
    have ne : z.2.2.2 a ≠ u := by omega
    exact ⟨(updL_ne ne).trans q4, (upd_ne ne).trans q5⟩
  have hPu : srP L u z u = lPa L u := updL_self _ _ _
  have hFu : srF L u z u = ls_p L u := upd_self _ _ _
  have cmp : ∀ a, a < z.1 → (0 ≤ lg_cmp (srP L u z u * Int32.toInt64 (srF L u z (z.2.2.2 a))) (srP L u z (z.2.2.2 a) * Int32.toInt64 (srF L u z u)) ↔ (lPa L (z.2.2.2 a)).toInt * (ls_p L u).toInt ≤ (lPa L u).toInt * (ls_p L (z.2.2.2 a)).toInt) := fun a ha => by
    obtain ⟨q1, q2, q3, q4, q5⟩ := h2 a ha
    obtain ⟨e1, e2⟩ := hP a ha
    have ba := hb _ q2 q3
    rw [hPu, hFu, e1, e2, j_ge, prod_v ba.1.1 ba.1.2 (by omega) bu.2.2, prod_v bu.1.1 bu.1.2 (by omega) ba.2.2]
  obtain ⟨s1, s2, s3, s4, s5, s6⟩ := shf_spec (P := srP L u z) (F := srF L u z) (j := u) z.1 z.2.2.2
  generalize shf (srP L u z) (srF L u z) u z.1 z.2.2.2 = T at *
  have r1 : ∀ i, i < T.1 → va_up T.2 T.1 u i = z.2.2.2 i := fun i hi => by rw [va_up_ne _ _ (by omega), s2 i hi]
  have r2 : ∀ i, T.1 < i → i ≤ z.1 → va_up T.2 T.1 u i = z.2.2.2 (i - 1) := fun i hi h9 => by rw [va_up_ne _ _ (by omega), s3 i hi h9]
  have r3 : va_up T.2 T.1 u T.1 = u := va_up_self _ _ _
  refine ⟨by show z.1 + 1 + u ≤ lK L; omega, fun a ha => ?_, fun j hj1 hj2 hj3 => ?_, fun a b hab hbm => ?_⟩
  · have ha : a < z.1 + 1 := ha
    show u ≤ va_up T.2 T.1 u a ∧ va_up T.2 T.1 u a < lK L ∧ cand L cu (va_up T.2 T.1 u a) ∧ srP L u z (va_up T.2 T.1 u a) = lPa L (va_up T.2 T.1 u a) ∧ srF L u z (va_up T.2 T.1 u a) = ls_p L (va_up T.2 T.1 u a)
    rcases Nat.lt_trichotomy a T.1 with c | c | c
    · rw [r1 a c]
      obtain ⟨q1, q2, q3, q4, q5⟩ := h2 a (by omega)
      exact ⟨by omega, q2, q3, (hP a (by omega)).1, (hP a (by omega)).2⟩
    · subst c
      rw [r3]
      exact ⟨Nat.le_refl u, hu, hc, hPu, hFu⟩
    · rw [r2 a c (by omega)]
      obtain ⟨q1, q2, q3, q4, q5⟩ := h2 (a - 1) (by omega)
      exact ⟨by omega, q2, q3, (hP _ (by omega)).1, (hP _ (by omega)).2⟩
  · show ∃ a, a < z.1 + 1 ∧ va_up T.2 T.1 u a = j
    by_cases e : j = u
    · subst e
      exact ⟨T.1, by omega, r3⟩
    · obtain ⟨a, ha, e2⟩ := h3 j (by omega) hj2 hj3
      rcases Nat.lt_or_ge a T.1 with c | c
      · exact ⟨a, by omega, by rw [r1 a c]; exact e2⟩
      · exact ⟨a + 1, by omega, by rw [r2 (a + 1) (by omega) (by omega)]; exact e2⟩
  · have hbm : b < z.1 + 1 := hbm
    show bef L (va_up T.2 T.1 u a) (va_up T.2 T.1 u b)
    have new_r : ∀ i, T.1 ≤ i → i < z.1 → bef L u (z.2.2.2 i) := fun i i1 i2 => by
      have w := s6 i i1 i2
      rw [cmp i i2] at w
      exact Or.inl (by omega)
    have l_new : ∀ i, i < T.1 → bef L (z.2.2.2 i) u := fun i i1 => by
      have lastb : bef L (z.2.2.2 (T.1 - 1)) u := by
        rcases s5 with q | q
        · omega
        · rw [cmp (T.1 - 1) (by omega)] at q
          obtain ⟨q1, q2, q3, q4, q5⟩ := h2 (T.1 - 1) (by omega)
          unfold bef
          rcases Int.lt_or_eq_of_le q with y | y
          · exact Or.inl y
          · exact Or.inr ⟨y, by omega⟩
      rcases Nat.lt_or_ge i (T.1 - 1) with y | y
      · obtain ⟨q1, q2, q3, q4, q5⟩ := h2 i (by omega)
        obtain ⟨p1, p2, p3, p4, p5⟩ := h2 (T.1 - 1) (by omega)
        have b1 := hb _ q2 q3
        have b2 := hb _ p2 p3
        exact bef_tr (by omega) (by omega) (by omega) (h4 i (T.1 - 1) y (by omega)) lastb
      · have e : i = T.1 - 1 := by omega
        rw [e]; exact lastb
    rcases Nat.lt_trichotomy a T.1 with c | c | c
    · rw [r1 a c]
      rcases Nat.lt_trichotomy b T.1 with d | d | d
      · rw [r1 b d]; exact h4 a b hab (by omega)
      · rw [d, r3]; exact l_new a c
      · rw [r2 b d (by omega)]; exact h4 a (b - 1) (by omega) (by omega)
    · rw [c, r3, r2 b (by omega) (by omega)]
      exact new_r (b - 1) (by omega) (by omega)
    · rw [r2 a c (by omega), r2 b (by omega) (by omega)]
      exact h4 (a - 1) (b - 1) (by omega) (by omega)
theorem srt_ok {L : LWS} {cu : Int32} (hb : bndL L cu) : ∀ (u : Nat) (z : SrT), u ≤ lK L → Srt L cu u z → Srt L cu 0 (srt L cu u z)
  | 0, _, _, h => h
  | u + 1, z, hu, h => by
    rw [srt]
    refine srt_ok hb u _ (by omega) ?_
    have keep : ¬ cand L cu u → Srt L cu u z := fun nc => ⟨by have := h.1; omega, fun a ha => by
        obtain ⟨q1, q2, q3, q4, q5⟩ := h.2.1 a ha
        exact ⟨by omega, q2, q3, q4, q5⟩, fun j hj1 hj2 hj3 => by
        by_cases e : j = u
        · subst e; exact absurd hj3 nc
        · exact h.2.2.1 j (by omega) hj2 hj3, h.2.2.2⟩
    by_cases c : ls_c L u = cu
    · by_cases d : ls_p L u ≤ 0
      · rw [sr1_1 c d]
        exact keep (fun q => q.2 d)
      · rw [sr1_2 c d]
        exact Srt.ins hb h (by omega) ⟨c, d⟩
    · rw [sr1_0 c]
      exact keep (fun q => c q.1)
theorem lSr_ok {L : LWS} {cu : Int32} (hb : bndL L cu) : Srt L cu 0 (lSr L cu) :=
  srt_ok hb (lK L) sr0 (Nat.le_refl _) ⟨by show 0 + lK L ≤ lK L; omega, fun a ha => absurd ha (Nat.not_lt_zero a), fun j h1 h2 _ => by omega, fun a b _ h2 => absurd h2 (Nat.not_lt_zero b)⟩
section SROK
variable {S : CS} {M : MS} {L : LWS}
theorem bnd_of (h : Rel S M) (r : RelL M L) {cu : Int32} (hcu : vp_in cu 4) : bndL L cu := fun j hj hc => by
  rw [r.k] at hj
  have hjS : j < cs_n S := by rw [h.n]; exact hj
  rcases no_or h r hj hcu with ⟨a1, a2, a3, a4, a5, a6⟩ | ⟨a1, a2⟩ | ⟨a1, a2, a3, a4⟩
  · have g := h.lot hjS
    have hal : ¬ lr_pr (cs_lt S j) ≤ 0 := fun q => a5 (g.2.2.1.mp q)
    have b := mPn_b h hjS hal (g.2.1.trans a6)
    have n := al_n h hj a5 a6
    rw [pn_l h r hj a5, a4]
    omega
  · exact absurd hc.1 a2
  · exact absurd a4 hc.2
theorem sr_ok (h : Rel S M) (r : RelL M L) {cu : Int32} (hcu : vp_in cu 4) : srOk L cu := by
  have hb := bnd_of h r hcu
  obtain ⟨s1, s2, s3, s4⟩ := lSr_ok hb
  refine ⟨by omega, fun i hi => ?_⟩
  obtain ⟨q1, q2, q3, q4, q5⟩ := s2 i hi
  refine ⟨q2, ?_⟩
  rw [q5]
  have b := (hb _ q2 q3).2.1
  intro e
  have e2 := congrArg Int64.toInt e
  rw [Int32.toInt_toInt64] at e2
  have e3 : (0 : Int64).toInt = 0 := rfl
  omega
end SROK
