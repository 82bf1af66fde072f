/-! how the law's arrays and the reference's state stand together -/
def relC (M : MS) (L : LWS) (j : Nat) : Prop := (ms_te M j = 0 → ls_c L j = ms_ow M j) ∧ (¬ ms_te M j = 0 → ls_c L j = 10 + ms_ow M j) ∧ (ms_th M j = 0 → ls_p L j = 0) ∧ (¬ ms_th M j = 0 → ls_p L j = ms_pr M j ∧ ls_e L j = ms_ea M j ∧ (ms_te M j = 0 → ls_f L j = ms_fz M j ∧ (¬ ms_fz M j = 0 → ls_t L j = ms_nd M j)) ∧ (¬ ms_te M j = 0 → ls_t L j = ms_en M j ∧ ls_w L j = ms_tp M j ∧ ls_d L (3 * j) = ms_le M j ∧ ls_d L (3 * j + 1) = ms_ins M j ∧ ls_d L (3 * j + 2) = ms_bg M j ∧ (ms_ins M j = 0 ∨ ms_ins M j = 1 ∨ ms_ins M j = 2)))
def relG (M : MS) (L : LWS) : Prop := ∀ k, k < 4 → ls_g L k = ms_paid M k ∧ ls_g L (4 + k) = ms_lost M k
def RelL (M : MS) (L : LWS) : Prop := ls_n L 0 = nI (ms_n M) ∧ ms_n M ≤ 20 ∧ ls_n L 1 = ms_now M ∧ ls_n L 2 = ms_bb M ∧ ls_n L 3 = ms_tr M ∧ ls_q L = ms_rates M ∧ (∀ j, j < ms_n M → relC M L j) ∧ (∀ j, ms_n M ≤ j → j < 20 → ls_p L j = 0 ∧ ls_f L j = 0 ∧ ls_e L j = 0) ∧ relG M L
def Rl (S : CS) (L : LWS) : Prop := ∃ M, Rel S M ∧ RelL M L
/-- a call: it answers what is due, or throws what is due; then both stand together again -/
def Op (code : Nat) (v due : Int32) (S S2 : CS) (L2 : LWS) : Prop := (code = 0 ∧ v = due ∧ Rl S2 L2) ∨ (¬ code = 0 ∧ exV code = due ∧ Rl S L2)
theorem Sim.ok {code : Nat} {p K : Int32} {v u : Int64} {S : CS} {M : MS} (h : Sim code p K v u S M) (k : K = 0) : code = 0 ∧ v = u ∧ Rel S M := by
  rcases h with ⟨h1, h2, h3, h4⟩ | ⟨h1, h2, h3⟩
  · exact ⟨h1, h3, h4⟩
  · exact absurd k h2
theorem Sim.no {code : Nat} {p K : Int32} {v u : Int64} {S : CS} {M : MS} (h : Sim code p K v u S M) (k : ¬ K = 0) : ¬ code = 0 ∧ p = K := by
  rcases h with ⟨h1, h2, h3, h4⟩ | ⟨h1, h2, h3⟩
  · exact absurd h2 k
  · exact ⟨h1, h3⟩
theorem t64_inj {x y : Int32} (h : Int32.toInt64 x = Int32.toInt64 y) : x = y := by
  have e := congrArg Int64.toInt h
  rw [Int32.toInt_toInt64, Int32.toInt_toInt64] at e
  exact Int32.toInt_inj.mp e
theorem ex3_1 {k : Nat} (h : pl3 k = 1) : exV k = -11 := by
  unfold pl3 at h
  split at h
  · rename_i e; subst e; rfl
  · split at h
    · exact absurd h (by decide)
    · exact absurd h (by decide)
theorem ex3_2 {k : Nat} (h : pl3 k = 2) : exV k = -12 := by
  unfold pl3 at h
  split at h
  · exact absurd h (by decide)
  · split at h
    · rename_i e; subst e; rfl
    · exact absurd h (by decide)
theorem ex3_3 {k : Nat} (h : pl3 k = 3) : exV k = -13 := by
  unfold pl3 at h
  split at h
  · exact absurd h (by decide)
  · split at h
    · exact absurd h (by decide)
    · rename_i e f; unfold exV; rw [if_neg e, if_neg f]
theorem exIS_1 {k : Nat} (h : plIS k = 1) : exV k = -11 := by
  unfold plIS at h
  split at h
  · rename_i e; subst e; rfl
  · exact absurd h (by decide)
theorem exIS_2 {k : Nat} (r : k = 0 ∨ k = 1 ∨ k = 3) (h0 : ¬ k = 0) (h : plIS k = 2) : exV k = -13 := by
  unfold plIS at h
  split at h
  · exact absurd h (by decide)
  · rename_i e
    rcases r with r | r | r
    · exact absurd r h0
    · exact absurd r e
    · subst r; rfl
/-- owners: a number below four tells whose a lot is, ten more that it is by TERM -/
theorem o_le {o : Int32} (h : vp_in o 4) : o < 10 ∧ ¬ 10 ≤ o ∧ ¬ 10 + o < 10 ∧ 10 ≤ 10 + o ∧ o - o / 10 * 10 = o ∧ (10 + o) - (10 + o) / 10 * 10 = o ∧ o.toNatClampNeg < 4 ∧ (4 + o).toNatClampNeg = 4 + o.toNatClampNeg := by
  obtain ⟨k, hk, rfl⟩ := vp_in_of h (by decide)
  rcases k with _ | _ | _ | _ | k
  · decide
  · decide
  · decide
  · decide
  · omega
theorem o_ne {o x : Int32} (h : vp_in o 4) (g : vp_in x 4) : ¬ 10 + o = x := by
  obtain ⟨k, hk, rfl⟩ := vp_in_of h (by decide)
  obtain ⟨q, hq, rfl⟩ := vp_in_of g (by decide)
  rw [show (10 : Int32) = nI 10 from rfl, nI_add, nI_eq (by omega) (by omega)]
  omega
section RL
variable {S : CS} {M : MS} {L : LWS}
theorem RelL.k (r : RelL M L) : lK L = ms_n M := by
  unfold lK
  rw [r.1]
  exact nI_clamp (by have := r.2.1; omega)
theorem RelL.ok (r : RelL M L) : okL L := by
  unfold okL
  rw [r.k]
  exact ⟨r.1, r.2.1⟩
theorem RelL.lot (r : RelL M L) {j : Nat} (hj : j < ms_n M) : relC M L j := r.2.2.2.2.2.2.1 j hj
theorem RelL.fr (r : RelL M L) {j : Nat} (hj : ms_n M ≤ j) (h : j < 20) : ls_p L j = 0 ∧ ls_f L j = 0 ∧ ls_e L j = 0 := r.2.2.2.2.2.2.2.1 j hj h
theorem RelL.g (r : RelL M L) : relG M L := r.2.2.2.2.2.2.2.2
theorem Rel.ow4 (h : Rel S M) {j : Nat} (hj : j < 40) : vp_in (ms_ow M j) 4 := h.2.1.2 j hj
theorem RelL.ow (h : Rel S M) (r : RelL M L) {j : Nat} (hj : j < ms_n M) : lOw L j = ms_ow M j := by
  have a := r.lot hj
  have b := r.2.1
  have o := o_le (h.ow4 (j := j) (by omega))
  unfold lOw
  by_cases c : ms_te M j = 0
  · rw [a.1 c]; exact o.2.2.2.2.1
  · rw [a.2.1 c]; exact o.2.2.2.2.2.1
theorem RelL.oo (h : Rel S M) (r : RelL M L) : okO L := by
  intro j hj
  rw [r.k] at hj
  rw [r.ow h hj]
  exact h.ow4 (by have := r.2.1; omega)
/-- a place: a lot's with a principal, or one of which nobody knows -/
theorem pl_or (h : Rel S M) (r : RelL M L) {j : Nat} (hj : j < 20) : (¬ ls_p L j = 0 ∧ ¬ ls_p L j ≤ 0 ∧ j < ms_n M ∧ j < cs_n S ∧ ¬ ms_th M j = 0 ∧ ¬ lr_pr (cs_lt S j) ≤ 0 ∧ ¬ mLo M (nI j) = 0 ∧ ls_p L j = ms_pr M j ∧ lr_pr (cs_lt S j) = ms_pr M j) ∨ (ls_p L j = 0 ∧ ls_p L j ≤ 0 ∧ mLo M (nI j) = 0 ∧ (j < ms_n M → ms_th M j = 0)) := by
  have hc : (nI j).toNatClampNeg = j := nI_clamp (by omega)
  rcases lot_or h (nI j) with ⟨h1, h2, h3, h4, h5, h6⟩ | ⟨h1, h2, h3⟩
  · rw [hc] at h4 h5
    have hn : j < ms_n M := by rw [← h.n]; exact h4
    have hth := (mLo_in h.2.1 h3).2.2
    rw [hc] at hth
    have e1 := ((r.lot hn).2.2.2 hth).1
    have e2 := ((h.lot h4).2.2.2 h5).1
    have e3 : ls_p L j = lr_pr (cs_lt S j) := e1.trans e2.symm
    refine Or.inl ⟨fun q => ?_, by rw [e3]; exact h5, hn, h4, hth, h5, h3, e1, e2⟩
    rw [e3] at q
    rw [q] at h5
    exact h5 (Int32.le_refl 0)
  · have hd : j < ms_n M → ms_th M j = 0 := fun hn => by
      have h4 : j < cs_n S := by rw [h.n]; exact hn
      rcases xAt_or h h4 with ⟨a, b, c⟩ | ⟨a, b, c⟩
      · rw [h2] at a; cases a
      · exact b
    have e : ls_p L j = 0 := by
      rcases Nat.lt_or_ge j (ms_n M) with hn | hn
      · exact (r.lot hn).2.2.1 (hd hn)
      · exact (r.fr hn hj).1
    exact Or.inr ⟨e, by rw [e]; exact Int32.le_refl 0, h3, hd⟩
/-- by NOTICE or by TERM -/
theorem c_or (h : Rel S M) (r : RelL M L) {j : Nat} (hj : j < ms_n M) : (ms_te M j = 0 ∧ ls_c L j < 10 ∧ ¬ 10 ≤ ls_c L j ∧ ls_c L j = ms_ow M j) ∨ (¬ ms_te M j = 0 ∧ ¬ ls_c L j < 10 ∧ 10 ≤ ls_c L j ∧ ls_c L j = 10 + ms_ow M j) := by
  have b := r.2.1
  have a := r.lot hj
  have o := o_le (h.ow4 (j := j) (by omega))
  by_cases c : ms_te M j = 0
  · exact Or.inl ⟨c, by rw [a.1 c]; exact o.1, by rw [a.1 c]; exact o.2.1, a.1 c⟩
  · exact Or.inr ⟨c, by rw [a.2.1 c]; exact o.2.2.1, by rw [a.2.1 c]; exact o.2.2.2.1, a.2.1 c⟩
end RL
/-- the law's cells of the lot j are the same -/
def samL (A B : LWS) (j : Nat) : Prop := ls_p B j = ls_p A j ∧ ls_f B j = ls_f A j ∧ ls_t B j = ls_t A j ∧ ls_w B j = ls_w A j ∧ ls_e B j = ls_e A j ∧ ls_d B (3 * j) = ls_d A (3 * j) ∧ ls_d B (3 * j + 1) = ls_d A (3 * j + 1) ∧ ls_d B (3 * j + 2) = ls_d A (3 * j + 2)
theorem samL.rf (A : LWS) (j : Nat) : samL A A j := ⟨rfl, rfl, rfl, rfl, rfl, rfl, rfl, rfl⟩
theorem samL.tr {A B C : LWS} {j : Nat} (h : samL A B j) (g : samL B C j) : samL A C j := by
  obtain ⟨a1, a2, a3, a4, a5, a6, a7, a8⟩ := h
  obtain ⟨b1, b2, b3, b4, b5, b6, b7, b8⟩ := g
  exact ⟨b1.trans a1, b2.trans a2, b3.trans a3, b4.trans a4, b5.trans a5, b6.trans a6, b7.trans a7, b8.trans a8⟩
theorem relC.mv {M N : MS} {A B : LWS} {j : Nat} (h : relC M A j) (hm : sam M N j) (hl : samL A B j) (hc : ls_c B j = ls_c A j) : relC N B j := by
  obtain ⟨a1, a2, a3, a4, a5, a6, a7, a8, a9, a10, a11, a12⟩ := hm
  obtain ⟨b1, b2, b3, b4, b5, b6, b7, b8⟩ := hl
  unfold relC
  rw [a1, a2, a3, a4, a5, a6, a7, a8, a9, a10, a11, a12, b1, b2, b3, b4, b5, b6, b7, b8, hc]
  exact h
/-- all but one lot stand -/
theorem RelL.chg {M N : MS} {A B : LWS} (r : RelL M A) (k : Nat) (hk : k < ms_n M) (hm : scM M N) (hs : ∀ j, j ≠ k → sam M N j) (hf : fxL A B) (hl : ∀ j, j ≠ k → samL A B j) (hc : relC N B k) (hg : relG N B) : RelL N B := by
  obtain ⟨r1, r2, r3, r4, r5, r6, r7, r8, r9⟩ := r
  obtain ⟨m1, m2, m3, m4, m5, m6, m7⟩ := hm
  obtain ⟨f1, f2, f3⟩ := hf
  refine ⟨by rw [f1, m1]; exact r1, by rw [m1]; exact r2, by rw [f1, m5]; exact r3, by rw [f1, m3]; exact r4, by rw [f1, m4]; exact r5, by rw [f3, m2]; exact r6, fun j hj => ?_, fun j hj h20 => ?_, hg⟩
  · rw [m1] at hj
    by_cases e : j = k
    · subst e; exact hc
    · exact (r7 j hj).mv (hs j e) (hl j e) (congrFun f2 j)
  · rw [m1] at hj
    have e : j ≠ k := by omega
    obtain ⟨b1, b2, b3, b4, b5, b6, b7, b8⟩ := hl j e
    rw [b1, b2, b5]
    exact r8 j hj h20
/-- sums paid and lost, after a sum to one customer -/
theorem relG.pay {M N : MS} {A B : LWS} {o : Int32} {x : Int64} (ho : vp_in o 4) (h : relG M A) (hp : ms_paid N = vp_updL (ms_paid M) o.toNatClampNeg (ms_paid M o.toNatClampNeg + x)) (hl : ms_lost N = ms_lost M) (hg : ls_g B = vp_updL (ls_g A) o.toNatClampNeg (ls_g A o.toNatClampNeg + x)) : relG N B := by
  intro k hk
  obtain ⟨a1, a2⟩ := h k hk
  have h4 := (o_le ho).2.2.2.2.2.2.1
  rw [hp, hl, hg]
  refine ⟨?_, by rw [updL_ne (by omega)]; exact a2⟩
  by_cases c : k = o.toNatClampNeg
  · rw [← c, updL_self, updL_self, a1]
  · rw [updL_ne c, updL_ne c, a1]
theorem relG.lose {M N : MS} {A B : LWS} {o : Int32} {x : Int64} (ho : vp_in o 4) (h : relG M A) (hp : ms_paid N = ms_paid M) (hl : ms_lost N = vp_updL (ms_lost M) o.toNatClampNeg (ms_lost M o.toNatClampNeg + x)) (hg : ls_g B = vp_updL (ls_g A) (4 + o).toNatClampNeg (ls_g A (4 + o).toNatClampNeg + x)) : relG N B := by
  intro k hk
  obtain ⟨a1, a2⟩ := h k hk
  have h4 := (o_le ho).2.2.2.2.2.2.1
  rw [hp, hl, hg, (o_le ho).2.2.2.2.2.2.2]
  refine ⟨by rw [updL_ne (by omega)]; exact a1, ?_⟩
  by_cases c : k = o.toNatClampNeg
  · rw [← c, updL_self, updL_self, a2]
  · rw [updL_ne c, updL_ne (by omega), a2]
theorem relG.mv {M N : MS} {A B : LWS} (h : relG M A) (hp : ms_paid N = ms_paid M) (hl : ms_lost N = ms_lost M) (hg : ls_g B = ls_g A) : relG N B := by
  intro k hk
  rw [hp, hl, hg]
  exact h k hk
