/-! isBook: what the object shows is what stands in the arrays -/
def ibS (S : CS) (L : LWS) : Nat → CS
  | 0 => S
  | i + 1 => if ls_p L i = 0 then ibS S L i else pdS (ibS S L i) (nI i)
def lMa (p : Nat → Int32) : Nat → Int32
  | 0 => 0
  | i + 1 => lMa p i + (if p i ≤ 0 then 0 else 1)
def lSu (L : LWS) (cu : Int32) : Nat → Int64
  | 0 => 0
  | i + 1 => lSu L cu i + (if ls_c L i = cu then (if ls_p L i ≤ 0 then 0 else lPa L i) else 0)
theorem lMa_0 {p : Nat → Int32} {i : Nat} (h : p i ≤ 0) : lMa p i + 0 = lMa p (i + 1) := by rw [lMa, if_pos h]
theorem lMa_1 {p : Nat → Int32} {i : Nat} (h : ¬ p i ≤ 0) : lMa p i + 1 = lMa p (i + 1) := by rw [lMa, if_neg h]
theorem lSu_0 {L : LWS} {cu : Int32} {i : Nat} (h : ¬ ls_c L i = cu) : lSu L cu i + 0 = lSu L cu (i + 1) := by rw [lSu, if_neg h]
theorem lSu_1 {L : LWS} {cu : Int32} {i : Nat} (h : ls_c L i = cu) (g : ls_p L i ≤ 0) : lSu L cu i + 0 = lSu L cu (i + 1) := by rw [lSu, if_pos h, if_pos g]
theorem lSu_2 {L : LWS} {cu : Int32} {i : Nat} (h : ls_c L i = cu) (g : ¬ ls_p L i ≤ 0) : lSu L cu i + lPa L i = lSu L cu (i + 1) := by rw [lSu, if_pos h, if_neg g]
theorem ibS_0 {S : CS} {L : LWS} {i : Nat} (h : ls_p L i = 0) : ibS S L (i + 1) = ibS S L i := by rw [ibS, if_pos h]
theorem ibS_1 {S : CS} {L : LWS} {i : Nat} (h : ¬ ls_p L i = 0) : ibS S L (i + 1) = pdS (ibS S L i) (nI i) := by rw [ibS, if_neg h]
theorem Rl.ok {S : CS} {L : LWS} (h : Rl S L) : okX S ∧ okL L ∧ okO L := h.elim fun _ z => ⟨z.1.1, z.2.ok, z.2.oo z.1⟩
theorem Rl.pd {S : CS} {L : LWS} (h : Rl S L) (z : Int32) : Rl (pdS S z) L := h.elim fun M w => ⟨M, note_rel w.1 _, w.2⟩
theorem Rl.ib {S : CS} {L : LWS} (h : Rl S L) : ∀ i, Rl (ibS S L i) L
  | 0 => h
  | i + 1 => by
    by_cases c : ls_p L i = 0
    · rw [ibS_0 c]; exact h.ib i
    · rw [ibS_1 c]; exact (h.ib i).pd _
theorem Rl.day {S : CS} {L : LWS} (h : Rl S L) : cs_day S = ls_n L 1 := h.elim fun M w => by rw [w.2.2.2.1]; exact w.1.2.2.2.2.2.2.2.2.1
section BK
variable {S : CS} {L : LWS}
theorem bk_dead (w : Rl S L) {i : Nat} (hi : i < 20) (hp : ls_p L i = 0) : ¬ lotC S (nI i) = 0 ∧ exV (lotC S (nI i)) = -11 := by
  obtain ⟨M, h, r⟩ := w
  rcases pl_or h r hi with ⟨a1, a2, a3, a4, a5, a6, a7, a8, a9⟩ | ⟨a1, a2, a3, a4⟩
  · exact absurd hp a1
  · have hk : kAs M (nI i) = 1 := by rw [kAs, if_pos a3]
    obtain ⟨s1, s2⟩ := (sim_principal h (nI i)).no (by rw [hk]; decide)
    exact ⟨s1, ex3_1 (s2.trans hk)⟩
theorem bk_al (w : Rl S L) {i : Nat} (hi : i < 20) (hp : ¬ ls_p L i = 0) : lotC S (nI i) = 0 ∧ lr_pr (cs_lt S (nI i).toNatClampNeg) = ls_p L i ∧ lr_ea (cs_lt S (nI i).toNatClampNeg) = ls_e L i ∧ lr_pa (cs_lt (pdS S (nI i)) (nI i).toNatClampNeg) = lPa L i ∧ lr_fz (cs_lt S (nI i).toNatClampNeg) = (if 10 ≤ ls_c L i then 0 else ls_f L i) ∧ lr_en (cs_lt S (nI i).toNatClampNeg) = (if 10 ≤ ls_c L i then ls_t L i else -1) ∧ ¬ ls_p L i ≤ 0 := by
  obtain ⟨M, h, r⟩ := w
  have hc : (nI i).toNatClampNeg = i := nI_clamp (by omega)
  rcases pl_or h r hi with ⟨a1, a2, a3, a4, a5, a6, a7, a8, a9⟩ | ⟨a1, a2, a3, a4⟩
  · have hk : kAs M (nI i) = 0 := by rw [kAs, if_neg a7]
    have l4 := (r.lot a3).2.2.2 a5
    obtain ⟨s1, s2, s3⟩ := (sim_principal h (nI i)).ok hk
    obtain ⟨t1, t2, t3⟩ := (sim_earned h (nI i)).ok hk
    obtain ⟨u1, u2, u3⟩ := (sim_partsOfDay h (nI i)).ok hk
    obtain ⟨v1, v2, v3⟩ := (sim_frozen h (nI i)).ok hk
    obtain ⟨w1, w2, w3⟩ := (sim_endOf h (nI i)).ok hk
    have v4 := t64_inj v2
    have w4 := t64_inj w2
    refine ⟨s1, ?_, ?_, ?_, ?_, ?_, a2⟩
    · rw [t64_inj s2, hc, a8]
    · rw [t2, hc, l4.2.1]
    · rw [u2, hc, pn_l h r a3 a5]
    · rw [v4, hc]
      rcases c_or h r a3 with ⟨c1, c2, c3, c4⟩ | ⟨c1, c2, c3, c4⟩
      · rw [if_pos c1, if_neg c3, (l4.2.2.1 c1).1]
      · rw [if_neg c1, if_pos c3]
    · rw [w4, hc]
      rcases c_or h r a3 with ⟨c1, c2, c3, c4⟩ | ⟨c1, c2, c3, c4⟩
      · rw [if_pos c1, if_neg c3]
      · rw [if_neg c1, if_pos c3, (l4.2.2.2 c1).1]
  · exact absurd a1 hp
theorem bk_many (w : Rl S L) : loTo S (cs_n S) = lMa (ls_p L) (lK L) := by
  obtain ⟨M, h, r⟩ := w
  have e : ∀ i, i ≤ ms_n M → mLn (ms_th M) i = lMa (ls_p L) i := fun i => by
    induction i with
    | zero => exact fun _ => rfl
    | succ i ih =>
      intro hi
      have ih := ih (by omega)
      have h20 := r.2.1
      rcases pl_or h r (j := i) (by omega) with ⟨a1, a2, a3, a4, a5, a6, a7, a8, a9⟩ | ⟨a1, a2, a3, a4⟩
      · rw [← mLn_1 a5, ← lMa_1 a2, ih]
      · rw [← mLn_0 (a4 (by omega)), ← lMa_0 a2, ih]
  rw [lots_eq h _ (Nat.le_refl _), h.n, r.k]
  exact e _ (Nat.le_refl _)
theorem su_l {M : MS} (h : Rel S M) (r : RelL M L) {cu : Int32} (hcu : vp_in cu 4) : ∀ i, i ≤ ms_n M → lSu L cu i = if ms_bb M = 0 then Int32.toInt64 (mSuM M cu i) * Int32.toInt64 (mRf (ms_rates M) (mSuM M cu (ms_n M))) else mPo (ms_rates M) (mSuM M cu i)
  | 0, _ => by
    show (0 : Int64) = if ms_bb M = 0 then Int32.toInt64 0 * _ else mPo (ms_rates M) 0
    split
    · rw [show Int32.toInt64 0 = 0 from rfl, Int64.zero_mul]
    · have e := pbb_eq h (z := 0) (by decide)
      rw [← e, pbb_0]
  | i + 1, hi => by
    have ih := su_l h r hcu i (by omega)
    have b1 := su_b h cu (i := i) (by omega)
    have h20 := r.2.1
    rcases no_or h r (i := i) (by omega) hcu with ⟨a1, a2, a3, a4, a5, a6⟩ | ⟨a1, a2⟩ | ⟨a1, a2, a3, a4⟩
    · have ho : ms_ow M i = cu := ((r.lot (j := i) (by omega)).1 a6).symm.trans a2
      have al := al_n h (j := i) (by omega) a5 a6
      rw [← lSu_2 a2 a3, msu_1 a1, ih, pn_l h r (j := i) (by omega) a5]
      unfold mPn
      rw [if_pos a6, ho]
      by_cases c : ms_bb M = 0
      · rw [if_pos c, if_pos c, if_pos c, ext_add (by omega) (by omega), Int64.add_mul]
      · rw [if_neg c, if_neg c, if_neg c, Int64.add_comm, Int64.sub_add_cancel]
    · rw [← lSu_0 a2, msu_0 a1, ih, Int64.add_zero, Int32.add_zero]
    · rw [← lSu_1 a2 a4, msu_0 a1, ih, Int64.add_zero, Int32.add_zero]
theorem bk_cu (w : Rl S L) {k : Nat} (hk : k < 4) : demC (nI k) = 0 ∧ totTo S (nI k) (cs_n S) = lTot (ls_c L) (ls_p L) (nI k) (lK L) ∧ poc S 0 (totTo S (nI k) (cs_n S)) (totTo S (nI k) (cs_n S)) = lSu L (nI k) (lK L) ∧ cs_paid S (nI k).toNatClampNeg = ls_g L k ∧ cs_lost S (nI k).toNatClampNeg = ls_g L (4 + k) := by
  obtain ⟨M, h, r⟩ := w
  have hc : (nI k).toNatClampNeg = k := nI_clamp (by omega)
  have hin : vp_in (nI k) 4 := vp_in_nI hk (by decide)
  have hK : kCu (nI k) = 0 := by rw [kCu, if_neg (cu_m hin)]
  obtain ⟨s1, s2, s3⟩ := (sim_total h (nI k)).ok hK
  obtain ⟨t1, t2, t3⟩ := (sim_partsByTotal h (nI k)).ok hK
  obtain ⟨u1, u2, u3⟩ := (sim_paid h (nI k)).ok hK
  obtain ⟨v1, v2, v3⟩ := (sim_lost h (nI k)).ok hK
  obtain ⟨g1, g2⟩ := r.g k hk
  refine ⟨s1, ?_, ?_, ?_, ?_⟩
  · rw [t64_inj s2, r.k, tot_l h r hin _ (Nat.le_refl _)]
  · rw [t2, r.k, su_l h r hin _ (Nat.le_refl _)]
  · rw [u2, hc, g1]
  · rw [v2, hc, g2]
end BK
