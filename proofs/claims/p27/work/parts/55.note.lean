/-! parts noted before the days pass -/
section NOTE
variable {S : CS} {M : MS}
theorem i_addsub (x y : Int32) : x + y - x = y := by
  rw [Int32.add_comm, Int32.add_sub_cancel]
theorem poc_eq (h : Rel S M) {j : Nat} (hj : j < cs_n S) {cu : Int32} (h3 : ¬ lr_pr (cs_lt S j) ≤ 0) (h4 : bT (cs_lt S j) = 0) (h5 : lr_cu (cs_lt S j) = cu) : poc S (totTo S cu j) (totTo S cu j + lr_pr (cs_lt S j)) (totTo S cu (cs_n S)) = mPn M j := by
  have hn := h.le
  have g := h.lot hj
  have hp : lr_pr (cs_lt S j) = ms_pr M j := (g.2.2.2 h3).1
  have hN := ((g.2.2.2 h3).2.2.1 h4).2.2
  have hte : ms_te M j = 0 := g.2.1.symm.trans h4
  have how : ms_ow M j = cu := g.1.symm.trans h5
  have e1 := tot_eq h cu j (by omega)
  have e2 := tot_eq h cu _ (Nat.le_refl (cs_n S))
  have b1 := tot_b h cu j (by omega)
  have b2 := tot_b h cu _ (Nat.le_refl (cs_n S))
  have a1 := alive_b h3
  have a2 := hN.2.2.1
  have b3 := i_add (x := totTo S cu j) (y := lr_pr (cs_lt S j)) (by omega) (by omega)
  show poc S (totTo S cu j) (totTo S cu j + lr_pr (cs_lt S j)) (totTo S cu (cs_n S)) = (if ms_te M j = 0 then (if ms_bb M = 0 then Int32.toInt64 (ms_pr M j) * Int32.toInt64 (mRf (ms_rates M) (mSuM M (ms_ow M j) (ms_n M))) else mPo (ms_rates M) (mSuM M (ms_ow M j) j + ms_pr M j) - mPo (ms_rates M) (mSuM M (ms_ow M j) j)) else ms_tp M j)
  rw [if_pos hte, how, ← h.n, ← e1, ← e2, ← hp, poc, i_addsub, rws_eq h b2.1, pbb_eq h b1.1, pbb_eq h (by omega), show cs_bb S = ms_bb M from h.2.2.2.2.2.2.1]
theorem npL_at (h : Rel S M) (cu : Int32) : ∀ i, i ≤ cs_n S → ∀ q, npL S cu i q = if q < i ∧ xN S (nI q) cu = some q then lr_set_pa (cs_lt S q) (poc S (totTo S cu q) (totTo S cu q + lr_pr (cs_lt S q)) (totTo S cu (cs_n S))) else cs_lt S q
  | 0, _, q => by rw [if_neg (fun k => absurd k.1 (Nat.not_lt_zero q))]; rfl
  | i + 1, hi, q => by
    have e := npL_at h cu i (by omega)
    rcases xN_or h (i := i) (by omega) cu with ⟨h1, h2, h3, h4, h5⟩ | ⟨h1, h2⟩
    · rw [npL_s h1]
      by_cases k : q = i
      · subst k
        rw [va_up_self, e q, if_neg (fun z => absurd z.1 (Nat.lt_irrefl q)), if_pos ⟨Nat.lt_succ_self q, h1⟩]
      · rw [va_up_ne _ _ k, e q]
        by_cases x : q < i ∧ xN S (nI q) cu = some q
        · rw [if_pos x, if_pos ⟨by omega, x.2⟩]
        · rw [if_neg x, if_neg (fun z => x ⟨by omega, z.2⟩)]
    · rw [npL_n h1, e q]
      by_cases k : q = i
      · subst k
        rw [if_neg (fun z => absurd z.1 (Nat.lt_irrefl q)), if_neg (fun z => by rw [h1] at z; cases z.2)]
      · by_cases x : q < i ∧ xN S (nI q) cu = some q
        · rw [if_pos x, if_pos ⟨by omega, x.2⟩]
        · rw [if_neg x, if_neg (fun z => x ⟨by omega, z.2⟩)]
theorem sumP_c {f g : Nat → LR} : ∀ n, (∀ j, j < n → wP (f j) = wP (g j)) → sumP f n = sumP g n
  | 0, _ => rfl
  | i + 1, h => by rw [sumP, sumP, sumP_c i (fun j hj => h j (by omega)), h i (by omega)]
/-- the lots change alone -/
theorem Rel.lots {f : Nat → LR} (h : Rel S M) (h1 : ∀ j, j < cs_n S → relJ (cs_set_lt S f) M j) (h2 : ∀ j, j < cs_n S → wP (f j) = wP (cs_lt S j)) : Rel (cs_set_lt S f) M := by
  obtain ⟨k1, k2, k3, k4, k5, k6, k7, k8, k9, k10, k11, k12, k13, k14, k15⟩ := h
  refine ⟨k1, k2, k3, k4, k5, k6, k7, k8, k9, k10, k11, k12, k13, h1, ?_, k15.2⟩
  show sumP f (cs_n S) * 1825 ^ (cs_day S).toNatClampNeg ≤ 36500000000000 * (cs_n S : Int) * 1826 ^ (cs_day S).toNatClampNeg
  rw [sumP_c _ h2]
  exact k15.1
theorem relL_pa {r : LR} {v : Int64} (c : bT r = 0) {day th te ow pr fz nd le en ins bg : Int32} {ea tp : Int64} (h : relL r day th te ow pr fz nd le en ins bg ea tp) : relL (lr_set_pa r v) day th te ow pr fz nd le en ins bg ea tp :=
  ⟨h.1, h.2.1, h.2.2.1, fun k => ⟨(h.2.2.2 k).1, (h.2.2.2 k).2.1, (h.2.2.2 k).2.2.1, fun d => absurd c d⟩⟩
theorem note_rel (h : Rel S M) (cu : Int32) : Rel (noteX S cu) M := by
  refine Rel.lots h (fun j hj => ?_) (fun j hj => ?_)
  · show relL (npL S cu (cs_n S) j) _ _ _ _ _ _ _ _ _ _ _ _ _
    rw [npL_at h cu _ (Nat.le_refl _) j]
    split
    · rename_i c
      exact relL_pa (xN_at c.2).2.1 (h.lot hj)
    · exact h.lot hj
  · rw [npL_at h cu _ (Nat.le_refl _) j]
    split
    · rename_i c
      have c2 := (xN_at c.2).2.1
      show (if lr_pr (cs_lt S j) ≤ 0 then (0 : Int) else if bT (cs_lt S j) = 0 then 0 else _) = (if lr_pr (cs_lt S j) ≤ 0 then (0 : Int) else if bT (cs_lt S j) = 0 then 0 else _)
      rw [if_pos c2]
    · rfl
end NOTE
section NOTE2
variable {S : CS} {M : MS}
/-- what stands noted of an alive lot by NOTICE is what the reference counts for the day -/
theorem note_pa (h : Rel S M) (cu : Int32) {j : Nat} (hj : j < cs_n S) (h3 : ¬ lr_pr (cs_lt S j) ≤ 0) (h4 : bT (cs_lt S j) = 0) (h5 : lr_cu (cs_lt S j) = cu) : lr_pa (cs_lt (noteX S cu) j) = mPn M j := by
  have hx : xN S (nI j) cu = some j := by
    rcases xN_or h hj cu with ⟨h1, -⟩ | ⟨h1, h2⟩
    · exact h1
    · exfalso
      rcases xAt_or h hj with ⟨a1, a2, a3⟩ | ⟨a1, a2, a3⟩
      · rw [xN, a1] at h1
        dsimp only at h1
        rw [if_pos h4, if_pos h5] at h1
        cases h1
      · exact h3 a3
  show lr_pa (npL S cu (cs_n S) j) = _
  rw [npL_at h cu _ (Nat.le_refl _) j, if_pos ⟨hj, hx⟩]
  exact poc_eq h hj h3 h4 h5
theorem sim_partsOfDay (h : Rel S M) (z : Int32) : Sim (lotC S z) (pl3 (lotC S z)) (kAs M z) (lr_pa (cs_lt (pdS S z) z.toNatClampNeg)) (mPn M z.toNatClampNeg) (pdS S z) (mT0 M) := by
  rcases kAs_or h z with ⟨h1, h2, h3, h4⟩ | ⟨h1, h2⟩
  · refine Or.inl ⟨h1, h2, ?_, note_rel h _⟩
    by_cases c : bT (cs_lt S z.toNatClampNeg) = 0
    · exact note_pa h _ h3 h4 c rfl
    · have g := (h.lot h3)
      have hte : ¬ ms_te M z.toNatClampNeg = 0 := fun q => c (g.2.1.trans q)
      show lr_pa (npL S _ (cs_n S) z.toNatClampNeg) = (if ms_te M z.toNatClampNeg = 0 then _ else ms_tp M z.toNatClampNeg)
      rw [npL_at h _ _ (Nat.le_refl _), if_neg (fun q => c (xN_at q.2).2.1), if_neg hte]
      exact ((g.2.2.2 h4).2.2.2 c).1
  · exact Or.inr ⟨by rw [h1]; decide, by rw [h2]; decide, by rw [h1, h2]; rfl⟩
end NOTE2
