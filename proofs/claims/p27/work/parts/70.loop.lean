/-! a day begins: the lots one after another -/
section LOOP
theorem va_up_id {α : Type} (f : Nat → α) (k : Nat) : va_up f k (f k) = f := funext fun j => by
  by_cases h : j = k
  · subst h; rw [va_up_self]
  · rw [va_up_ne _ _ h]
theorem xAt_at {X : CS} {i : Nat} (h40 : i < 40) (hi : i < cs_n X) : (¬ lr_pr (cs_lt X i) ≤ 0 → xAt X (nI i) = some i) ∧ (lr_pr (cs_lt X i) ≤ 0 → xAt X (nI i) = none) := by
  have hc : (nI i).toNatClampNeg = i := nI_clamp (by omega)
  have e40 : nI i < 40 := show nI i < nI 40 from nI_lt h40 (by decide)
  refine ⟨fun q => ?_, fun q => ?_⟩
  · unfold xAt
    rw [if_neg (nI_pos (by omega)), if_pos e40, hc, if_pos hi, if_neg q]
  · unfold xAt
    rw [if_neg (nI_pos (by omega)), if_pos e40, hc, if_pos hi, if_pos q]
/-- lots below i have begun the day, the others not yet -/
def BDs (T : CS) (N : MS) (X : CS) (Y : MS) (i : Nat) : Prop := scS T X ∧ scM N Y ∧ cs_paid X = ms_paid Y ∧ cs_lost X = ms_lost Y ∧ (∀ j, i ≤ j → cs_lt X j = cs_lt T j ∧ sam N Y j) ∧ (∀ j, j < i → relL (cs_lt X j) (cs_day T) (ms_th Y j) (ms_te Y j) (ms_ow Y j) (ms_pr Y j) (ms_fz Y j) (ms_nd Y j) (ms_le Y j) (ms_en Y j) (ms_ins Y j) (ms_bg Y j) (ms_ea Y j) (ms_tp Y j)) ∧ sumP (cs_lt X) (cs_n T) ≤ sumP (cs_lt T) (cs_n T) ∧ (∀ j, j < cs_n T → ms_te N j = 0 → ms_th Y j = ms_th N j ∧ ms_pr Y j = ms_pr N j) ∧ (∀ j, j < cs_n T → bT (cs_lt T j) = 0 → lr_pa (cs_lt X j) = lr_pa (cs_lt T j))
theorem BDs.step {T X X2 : CS} {N Y Y2 : MS} {i : Nat} {r : LR} (b : BDs T N X Y i) (hi : i < cs_n T) (hx : scS X X2) (hy : scM Y Y2) (hp : cs_paid X2 = ms_paid Y2) (hl : cs_lost X2 = ms_lost Y2) (ht : cs_lt X2 = va_up (cs_lt X) i r) (hs : ∀ q, q ≠ i → sam Y Y2 q) (hr : relL r (cs_day T) (ms_th Y2 i) (ms_te Y2 i) (ms_ow Y2 i) (ms_pr Y2 i) (ms_fz Y2 i) (ms_nd Y2 i) (ms_le Y2 i) (ms_en Y2 i) (ms_ins Y2 i) (ms_bg Y2 i) (ms_ea Y2 i) (ms_tp Y2 i)) (hw : wP r ≤ wP (cs_lt T i)) (hn : ms_te N i = 0 → ms_th Y2 i = ms_th N i ∧ ms_pr Y2 i = ms_pr N i) (hpa : bT (cs_lt T i) = 0 → lr_pa r = lr_pa (cs_lt T i)) : BDs T N X2 Y2 (i + 1) := by
  obtain ⟨b1, b2, b3, b4, b5, b6, b7, b8, b9⟩ := b
  refine ⟨b1.tr hx, b2.tr hy, hp, hl, fun j hj => ?_, fun j hj => ?_, ?_, fun j hj hte => ?_, fun j hj hbt => ?_⟩
  · have hne : j ≠ i := by omega
    rw [ht, va_up_ne _ _ hne]
    exact ⟨(b5 j (by omega)).1, (b5 j (by omega)).2.tr (hs j hne)⟩
  · rw [ht]
    by_cases c : j = i
    · subst c; rw [va_up_self]; exact hr
    · rw [va_up_ne _ _ c]
      exact (hs j c).rel (b6 j (by omega))
  · rw [ht, sumP_up, if_pos hi, (b5 i (Nat.le_refl i)).1]
    omega
  · by_cases c : j = i
    · subst c; exact hn hte
    · have s := hs j c
      rw [s.1, s.2.2.2.1]
      exact b8 j hj hte
  · rw [ht]
    by_cases c : j = i
    · subst c; rw [va_up_self]; exact hpa hbt
    · rw [va_up_ne _ _ c]; exact b9 j hj hbt
theorem bd1_sc (X : CS) (i : Nat) : scS X (bd1 X i) ∧ cs_paid (bd1 X i) = cs_paid X ∧ cs_lost (bd1 X i) = cs_lost X := ⟨⟨fx_bd1 X i, rfl, rfl, rfl, rfl⟩, rfl, rfl⟩
theorem bd1_lt (X : CS) (i : Nat) : cs_lt (bd1 X i) = if cs_day X < lr_tf (cs_lt X i) + 7 then cs_lt X else va_up (cs_lt X) i (lr_set_fz (cs_lt X i) 0) := rfl
theorem fz_id {r : LR} (h : lr_fz r = 0) : lr_set_fz r 0 = r := by
  obtain ⟨r1, r2, r3, r4, r5, r6, r7, r8, r9, r10⟩ := r
  have h' : r6 = 0 := h
  rw [h']
theorem bd1_same {X : CS} {i : Nat} (h : lr_fz (cs_lt X i) = 0) : cs_lt (bd1 X i) = cs_lt X := by
  rw [bd1_lt, fz_id h, va_up_id]
  split <;> rfl
theorem bdS1_no {X : CS} {i : Nat} (h : ¬ lr_en (cs_lt (bd1 X i) i) = cs_day X) : cs_lt (bdS1 X i) = cs_lt (bd1 X i) ∧ cs_paid (bdS1 X i) = cs_paid X ∧ cs_lost (bdS1 X i) = cs_lost X := by
  rw [bdS1]
  exact ⟨mix_lt.trans (if_neg h), mix_paid.trans ((if_neg h).trans (bd1_sc X i).2.1), mix_lost.trans ((if_neg h).trans (bd1_sc X i).2.2)⟩
theorem bdS1_yes {X : CS} {i : Nat} (h : lr_en (cs_lt (bd1 X i) i) = cs_day X) : cs_lt (bdS1 X i) = cs_lt (etX (bd1 X i) i) ∧ cs_paid (bdS1 X i) = cs_paid (etX (bd1 X i) i) ∧ cs_lost (bdS1 X i) = cs_lost (etX (bd1 X i) i) := by
  rw [bdS1]
  exact ⟨mix_lt.trans (if_pos h), mix_paid.trans (if_pos h), mix_lost.trans (if_pos h)⟩
theorem bdS1_sc (X : CS) (i : Nat) : scS X (bdS1 X i) := ⟨fx_bdS1 X i, rfl, rfl, rfl, rfl⟩
theorem bdTo_some {T : CS} {i j : Nat} (h : xAt (bdTo T i).2 (nI i) = some j) : (bdTo T (i + 1)).2 = bdS1 (bdTo T i).2 j ∧ (bdTo T (i + 1)).1 = if lr_en (cs_lt (bd1 (bdTo T i).2 j) j) = cs_day (bdTo T i).2 then (bdTo T i).1 + 1 else (bdTo T i).1 := by
  rw [bdTo_s h]
  exact ⟨rfl, rfl⟩
theorem mbTo_s (c : Int32) (N : MS) (i : Nat) : (mbTo c N (i + 1)).2 = mb1 (mbTo c N i).2 i ∧ (mbTo c N (i + 1)).1 = mbc (mbTo c N i).1 (mbTo c N i).2 i := ⟨rfl, rfl⟩
end LOOP
section LOOP2
variable {S : CS} {M : MS}
/-- the start of the loop -/
theorem BDs.zero (h : Rel S M) : BDs (ps1 S) (mDay M) (ps1 S) (mDay M) 0 := by
  have o := mDay_o M
  have p := ps1_o S
  refine ⟨scS.rf _, scM.rf _, ?_, ?_, fun j _ => ⟨rfl, sam.rf _ _⟩, fun j hj => absurd hj (Nat.not_lt_zero j), Int.le_refl _, fun j _ _ => ⟨rfl, rfl⟩, fun j _ _ => rfl⟩
  · rw [p.2.2.2.2.1, o.2.2.2.2.2.2.2.2.2.2.2.2.2.2.2.1]; exact h.2.2.2.2.1
  · rw [p.2.2.2.2.2, o.2.2.2.2.2.2.2.2.2.2.2.2.2.2.2.2]; exact h.2.2.2.2.2.1
theorem no_eq_day {d : Int32} (h : 0 ≤ d.toInt) : ¬ (-1 : Int32) = d := fun q => by
  rw [← q] at h
  exact absurd h (by decide)
/-- a lot that is gone -/
theorem bd_dead (h : Rel S M) (c : Int32) {i : Nat} (hi : i < cs_n S) (h3 : lr_pr (cs_lt S i) ≤ 0) (e : (mbTo c (mDay M) i).1 = c + (bdTo (ps1 S) i).1) (b : BDs (ps1 S) (mDay M) (bdTo (ps1 S) i).2 (mbTo c (mDay M) i).2 i) : (mbTo c (mDay M) (i + 1)).1 = c + (bdTo (ps1 S) (i + 1)).1 ∧ BDs (ps1 S) (mDay M) (bdTo (ps1 S) (i + 1)).2 (mbTo c (mDay M) (i + 1)).2 (i + 1) := by
  have hn := h.le
  have g := h.lot hi
  have o := mDay_o M
  have b5 := b.2.2.2.2.1 i (Nat.le_refl i)
  have hX : cs_lt (bdTo (ps1 S) i).2 i = cs_lt S i := b5.1.trans (t_dead h hi h3)
  have hnX : cs_n (bdTo (ps1 S) i).2 = cs_n S := b.1.1.1
  have hx := (xAt_at (X := (bdTo (ps1 S) i).2) (i := i) (by omega) (by rw [hnX]; exact hi)).2 (by rw [hX]; exact h3)
  have hth : ms_th (mbTo c (mDay M) i).2 i = 0 := by
    rw [b5.2.1, o.2.2.2.2.2.2.1]
    exact g.2.2.1.mp h3
  obtain ⟨u1, u2⟩ := mbTo_s c (mDay M) i
  have v1 : mb1 (mbTo c (mDay M) i).2 i = (mbTo c (mDay M) i).2 := by rw [mb1, if_pos hth]
  have v2 : mbc (mbTo c (mDay M) i).1 (mbTo c (mDay M) i).2 i = (mbTo c (mDay M) i).1 := by rw [mbc, if_pos hth]
  rw [bdTo_n hx, u1, u2, v1, v2]
  refine ⟨e, b.step hi (scS.rf _) (scM.rf _) b.2.2.1 b.2.2.2.1 (va_up_id _ _).symm (fun q _ => sam.rf _ q) (relL_dead ?_ ?_ ?_ hth) ?_ ?_ ?_⟩
  · rw [hX, b5.2.2.2.1, o.2.2.2.2.1]; exact g.1
  · rw [hX, b5.2.2.1, o.2.2.2.2.2.1]; exact g.2.1
  · rw [hX]; exact h3
  · rw [b5.1]; exact Int.le_refl _
  · intro _; exact ⟨b5.2.1, b5.2.2.2.2.1⟩
  · intro _; rw [b5.1]
end LOOP2
