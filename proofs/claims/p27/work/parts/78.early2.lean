section RUN
variable {P0 : CS} {Q0 : MS} {cu c : Int32}
theorem JJ.stop {m v vm : Int32} {X : CS} {Y : MS} {i k : Nat} (b : JJ P0 Q0 cu m v X vm Y i k) (hm : m.toInt ≤ 0) : JJ P0 Q0 cu m v X vm Y (i + 1) k := by
  obtain ⟨b1, b2, b3, b4, b5, b6, b7, b8, b9, b10, b11, b12, b13, b14, b15, b16, b17⟩ := b
  exact ⟨b1, b2, b3, b4, b5, b6, b7, b8, b9, b10, b11, b12, b13, b14, fun q => by omega, by omega, b17⟩
theorem er_run (s : JS P0 Q0 cu) (b0 : JJ P0 Q0 cu c 0 P0 c Q0 0 0) : ∀ i, ∃ k, JJ P0 Q0 cu (erTo P0 cu c k).1 (erTo P0 cu c k).2.1 (erTo P0 cu c k).2.2 (mErTo Q0 cu c i).2.1 (mErTo Q0 cu c i).2.2 i k ∧ (mErTo Q0 cu c i).1 = (erTo P0 cu c k).1
  | 0 => ⟨0, b0, rfl⟩
  | i + 1 => by
    obtain ⟨k, b, e⟩ := er_run s b0 i
    by_cases hz : (mErTo Q0 cu c i).1 ≤ 0
    · rw [mer_0 hz]
      refine ⟨k, b.stop ?_, e⟩
      rw [e, i_le, i_0] at hz
      exact hz
    · have hz2 := hz
      rw [e, i_le, i_0] at hz2
      obtain ⟨hi, j, hmn, hj, cj, z, hlh⟩ := b.pick s (by omega)
      have hn : cs_n P0 = ms_n Q0 := s.1.n
      rw [hn] at hmn
      rw [mer_s hz hmn, e]
      by_cases u : unf (cs_lt (erTo P0 cu c k).2.2 j) ≤ 0
      · obtain ⟨y1, y2⟩ := b.idle s (by omega) hj cj z u
        exact ⟨k, y2, y1⟩
      · obtain ⟨y1, y2⟩ := b.work s (by omega) hi hj cj z u
        have hw : ¬ (erTo P0 cu c k).1 ≤ 0 := by rw [← e]; exact hz
        refine ⟨k + 1, ?_, ?_⟩
        · rw [er_s hw (hlh u)]
          exact y2
        · rw [er_s hw (hlh u), y1]
theorem er_ok (s : JS P0 Q0 cu) (b0 : JJ P0 Q0 cu c 0 P0 c Q0 0 0) : erOk Q0 cu c := by
  have hn : cs_n P0 = ms_n Q0 := s.1.n
  refine ⟨fun i hz => ?_, ?_⟩
  · obtain ⟨k, b, e⟩ := er_run s b0 i
    have hz2 := hz
    rw [e, i_le, i_0] at hz2
    obtain ⟨hi, j, hmn, hj, cj, z, hlh⟩ := b.pick s (by omega)
    rw [hn] at hmn
    refine ⟨j, hmn, nz_of ?_⟩
    have e2 := b.2.2.2.2.2.2.2.2.2.2.2.1 j hj z
    rw [e2] at cj
    have p := (s.2.2 j hj cj).2.1
    have a := alive_b cj.1
    rw [b.2.2.2.2.2.2.2.2.2.2.1, ← p, i_lt, i_0]
    omega
  · rw [← hn]
    by_cases hz : (mErTo Q0 cu c (cs_n P0)).1 ≤ 0
    · exact hz
    · exfalso
      obtain ⟨k, b, e⟩ := er_run s b0 (cs_n P0)
      rw [e, i_le, i_0] at hz
      have hi := (b.pick s (by omega)).1
      omega
theorem er_fin (s : JS P0 Q0 cu) (b0 : JJ P0 Q0 cu c 0 P0 c Q0 0 0) : ∃ k, JJ P0 Q0 cu 0 (erTo P0 cu c (cs_n P0)).2.1 (erTo P0 cu c (cs_n P0)).2.2 (mErTo Q0 cu c (ms_n Q0)).2.1 (mErTo Q0 cu c (ms_n Q0)).2.2 (cs_n P0) k := by
  have hn : cs_n P0 = ms_n Q0 := s.1.n
  obtain ⟨k, b, e⟩ := er_run s b0 (cs_n P0)
  have ok := (er_ok s b0).2
  rw [← hn] at ok ⊢
  rw [e] at ok
  have hk := b.2.2.2.2.2.2.2.2.2.2.2.2.2.2.2.1
  have h0 := b.2.2.2.1
  have hst : erTo P0 cu c (cs_n P0) = erTo P0 cu c k := by
    rcases Nat.lt_or_ge k (cs_n P0) with q | q
    · exact er_end (er_0 ok) q
    · have : k = cs_n P0 := by omega
      rw [this]
  have hm : (erTo P0 cu c k).1 = 0 := by
    rw [i_eq0]
    rw [i_le, i_0] at ok
    omega
  rw [hm] at b
  rw [hst]
  exact ⟨k, b⟩
end RUN
section EARLY
variable {S : CS} {M : MS} {cu c : Int32}
theorem early_js (h : Rel S M) (hcu : vp_in cu 4) : JS (noteX S cu) (mEaM M) cu := by
  refine ⟨(note_rel h cu).ea, hcu, fun j hj q => ?_⟩
  have hj2 : j < cs_n S := hj
  obtain ⟨f1, f2, f3⟩ := noteX_f S cu j
  obtain ⟨q1, q2, q3⟩ := q
  rw [f3] at q1
  rw [f2] at q2
  rw [f1] at q3
  have g := h.lot hj2
  have hth : ¬ ms_th M j = 0 := fun w => q1 (g.2.2.1.mpr w)
  have pa := note_pa h cu hj2 q1 q2 q3
  obtain ⟨e1, e2, e3, e4, e5, e6⟩ := mEaM_f M
  have hjm : j < ms_n M := by rw [← h.n]; exact hj2
  have pb := mPn_b h hj2 q1 q2
  have n3 := ((g.2.2.2 q1).2.2.1 q2).2.2.2.2.1
  rw [(g.2.2.2 q1).1] at n3
  have hp : ms_pah (mEaM M) j = mPn M j := by
    rw [e2, mqP_at (mT0 M) _ j hjm]
    exact if_neg hth
  have hr : ms_prh (mEaM M) j = ms_pr M j := by
    rw [e3, mqR_at (mT0 M) _ j hjm]
  rw [hp, hr, f3, pa]
  exact ⟨rfl, (g.2.2.2 q1).1, pb.1, by omega⟩
theorem uA_pa (r : LR) (v : Int64) (cu : Int32) : uA (lr_set_pa r v) cu = uA r cu := rfl
theorem early_b0 (h : Rel S M) (hcu : vp_in cu 4) (h1 : 0 ≤ c.toInt) (h2 : c.toInt ≤ 100000000) (h3 : c ≤ unfTo S cu (cs_n S)) : JJ (noteX S cu) (mEaM M) cu c 0 (noteX S cu) c (mEaM M) 0 0 := by
  have r : Rel (noteX S cu) (mEaM M) := (note_rel h cu).ea
  obtain ⟨e1, e2, e3, e4, e5, e6⟩ := mEaM_f M
  have hz0 : (0 : Int32).toInt = 0 := rfl
  have hnn : cs_n (noteX S cu) = ms_n M := h.n
  have hdn : ∀ j, j < cs_n (noteX S cu) → ms_dn (mEaM M) j = 0 := fun j hj => by
    rw [e1]
    exact mqD_at (mT0 M) _ j (by rw [← hnn]; exact hj)
  have hu : uS (cs_lt (noteX S cu)) cu (cs_n (noteX S cu)) = uS (cs_lt S) cu (cs_n S) := uS_c _ (fun j hj => by
    obtain ⟨v, hv⟩ := npL_f S cu (cs_n S) j
    have e : cs_lt (noteX S cu) j = lr_set_pa (cs_lt S j) v := hv
    rw [e, uA_pa])
  have hf := (unf_eq h cu (cs_n S) (Nat.le_refl _)).2.1
  refine ⟨scS.rf _, scM.rf _, by rw [Int32.zero_add], h1, by rw [hz0]; exact Int.le_refl _, by rw [hz0]; omega, ?_, r.2.2.2.2.2.1, fun j hj => r.lot hj, rfl, rfl, fun j hj _ => rfl, fun j hj q => absurd (hdn j hj) q, ?_, fun _ => cnt_0 _ hdn, Nat.le_refl _, Int.le_refl _⟩
  · rw [show Int32.toInt64 0 = 0 from rfl, Int64.add_zero, updL_id]
    exact r.2.2.2.2.1
  · rw [hu, ← hf]
    rw [i_le] at h3
    exact h3
theorem kEa_facts (h : Rel S M) (hk : kEa M cu c = 0) : vp_in cu 4 ∧ 0 ≤ c.toInt ∧ c.toInt ≤ 100000000 ∧ c ≤ unfTo S cu (cs_n S) := by
  have e := (unf_eq h cu (cs_n S) (Nat.le_refl _)).1
  rw [h.n] at e
  unfold kEa at hk
  by_cases a : mCu cu = 0
  · rw [if_pos a] at hk; exact absurd hk (by decide)
  · rw [if_neg a] at hk
    by_cases b : mIn c 1 100000000 = 0
    · rw [if_pos b] at hk; exact absurd hk (by decide)
    · rw [if_neg b] at hk
      by_cases d : c ≤ mfTo M cu (ms_n M)
      · obtain ⟨i1, i2⟩ := mIn_0 b
        rw [i_lt] at i1 i2
        rw [i_1] at i1
        have e8 : (100000000 : Int32).toInt = 100000000 := rfl
        exact ⟨mCu_in a, by omega, by omega, by rw [h.n, e]; exact d⟩
      · rw [if_neg d] at hk; exact absurd hk (by decide)
theorem early_ok (h : Rel S M) (hk : kEa M cu c = 0) : erOk (mEaM M) cu c := by
  obtain ⟨a1, a2, a3, a4⟩ := kEa_facts h hk
  exact er_ok (early_js h a1) (early_b0 h a1 a2 a3 a4)
theorem sim_early (h : Rel S M) (cu c : Int32) : Sim (eaC S cu c) (pl3 (eaC S cu c)) (kEa M cu c) (Int32.toInt64 (erTo (noteX S cu) cu c (cs_n S)).2.1) (Int32.toInt64 (mErTo (mEaM M) cu c (ms_n (mEaM M))).2.1) (erTo (noteX S cu) cu c (cs_n S)).2.2 (mPa (mErTo (mEaM M) cu c (ms_n (mEaM M))).2.2 cu (mErTo (mEaM M) cu c (ms_n (mEaM M))).2.1) := by
  have e := (unf_eq h cu (cs_n S) (Nat.le_refl _)).1
  have en := h.n
  rcases @demC_or cu with ⟨a1, a2⟩ | ⟨a1, a2⟩
  · rcases @demR_or c 1 100000000 with ⟨b1, b2⟩ | ⟨b1, b2⟩
    · by_cases d : c ≤ unfTo S cu (cs_n S)
      · have d2 : c ≤ mfTo M cu (ms_n M) := by rw [← en, ← e]; exact d
        have hk : kEa M cu c = 0 := by rw [kEa, if_neg a2, if_neg b2, if_pos d2]
        obtain ⟨f1, f2, f3, f4⟩ := kEa_facts h hk
        have s := early_js h f1
        obtain ⟨k, b⟩ := er_fin s (early_b0 h f1 f2 f3 f4)
        have hnS : cs_n (noteX S cu) = cs_n S := rfl
        rw [hnS] at b
        obtain ⟨c1, c2, c3, c4, c5, c6, c7, c8, c9, c10, c11, c12, c13, c14, c15, c16, c17⟩ := b
        rw [Int32.add_zero] at c3
        refine Or.inl ⟨by rw [eaC, if_pos a1, if_pos b1, if_pos d], hk, by rw [c3], ?_⟩
        refine Rel.chg s.1 c1 (c2.tr (mPa_sc _ _ _)) ?_ ?_ (fun j hj => (mPa_sam _ _ _ j).rel (c9 j hj)) c17
        · rw [c7, mPa_paid, c3]
        · rw [c8, mPa_lost]
      · have d2 : ¬ c ≤ mfTo M cu (ms_n M) := by rw [← en, ← e]; exact d
        exact Or.inr ⟨by rw [eaC, if_pos a1, if_pos b1, if_neg d]; decide, by rw [kEa, if_neg a2, if_neg b2, if_neg d2]; decide, by rw [eaC, if_pos a1, if_pos b1, if_neg d, kEa, if_neg a2, if_neg b2, if_neg d2]; rfl⟩
    · have g : ¬ demR c 1 100000000 = 0 := by rw [b1]; decide
      exact Or.inr ⟨by rw [eaC, if_pos a1, if_neg g]; decide, by rw [kEa, if_neg a2, if_pos b2]; decide, by rw [eaC, if_pos a1, if_neg g, kEa, if_neg a2, if_pos b2]; rfl⟩
  · have g : ¬ demC cu = 0 := by rw [a1]; decide
    exact Or.inr ⟨by rw [eaC, if_neg g]; decide, by rw [kEa, if_pos a2]; decide, by rw [eaC, if_neg g, kEa, if_pos a2]; rfl⟩
end EARLY
