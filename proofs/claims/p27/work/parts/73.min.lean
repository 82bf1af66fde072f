/-! the least harmful lot: both choose the same -/
section MIN
/-- the last of the least, by x / y, of those below n that A holds of -/
def isMin (A : Nat → Prop) (x y : Nat → Int) (n b : Nat) : Prop := b < n ∧ A b ∧ ∀ j, j < n → A j → (b < j → x b * y j < x j * y b) ∧ (j < b → x b * y j ≤ x j * y b)
variable {A B : Nat → Prop} {x y x2 y2 : Nat → Int} {n b d : Nat}
theorem isMin.uniq (h : isMin A x y n b) (g : isMin A x y n d) : b = d := by
  rcases Nat.lt_trichotomy b d with k | k | k
  · have p := (h.2.2 d g.1 g.2.1).1 k
    have q := (g.2.2 b h.1 h.2.1).2 k
    omega
  · exact k
  · have p := (g.2.2 b h.1 h.2.1).1 k
    have q := (h.2.2 d g.1 g.2.1).2 k
    omega
theorem isMin.skip (h : isMin A x y n b) (g : ¬ A n) : isMin A x y (n + 1) b :=
  ⟨Nat.lt_succ_of_lt h.1, h.2.1, fun j hj hA => h.2.2 j (by
    rcases Nat.lt_or_ge j n with k | k
    · exact k
    · have e : j = n := by omega
      subst e
      exact absurd hA g) hA⟩
theorem isMin.new (h : ∀ j, j < n → ¬ A j) (g : A n) : isMin A x y (n + 1) n :=
  ⟨Nat.lt_succ_self n, g, fun j hj hA => by
    rcases Nat.lt_or_ge j n with k | k
    · exact absurd hA (h j k)
    · exact ⟨fun z => by omega, fun z => by omega⟩⟩
theorem isMin.keep (h : isMin A x y n b) (g : x b * y n < x n * y b) : isMin A x y (n + 1) b :=
  ⟨Nat.lt_succ_of_lt h.1, h.2.1, fun j hj hA => by
    rcases Nat.lt_or_ge j n with k | k
    · exact h.2.2 j k hA
    · have e : j = n := by omega
      subst e
      exact ⟨fun _ => g, fun z => by have := h.1; omega⟩⟩
theorem cross {a1 a2 a3 b1 b2 b3 : Int} (h1 : 0 ≤ b1) (h2 : 0 < b2) (h3 : 0 ≤ b3) (p : a1 * b2 ≤ a2 * b1) (q : a2 * b3 ≤ a3 * b2) : a1 * b3 ≤ a3 * b1 := by
  have p2 := Int.mul_le_mul_of_nonneg_right p h3
  have q2 := Int.mul_le_mul_of_nonneg_right q h1
  have e1 : a1 * b2 * b3 = a1 * b3 * b2 := Int.mul_right_comm _ _ _
  have e2 : a2 * b1 * b3 = a2 * b3 * b1 := Int.mul_right_comm _ _ _
  have e3 : a3 * b2 * b1 = a3 * b1 * b2 := Int.mul_right_comm _ _ _
  have r : a1 * b3 * b2 ≤ a3 * b1 * b2 := by omega
  exact Int.le_of_mul_le_mul_right r h2
theorem isMin.repl (h : isMin A x y n b) (g : A n) (k : x n * y b ≤ x b * y n) (hy : ∀ j, j ≤ n → A j → 0 < y j) : isMin A x y (n + 1) n :=
  ⟨Nat.lt_succ_self n, g, fun j hj hA => by
    refine ⟨fun z => by omega, fun z => ?_⟩
    have hb := hy b (by have := h.1; omega) h.2.1
    have hn := hy n (Nat.le_refl n) g
    have hj2 := hy j (by omega) hA
    refine cross (Int.le_of_lt hn) hb (Int.le_of_lt hj2) k ?_
    rcases Nat.lt_trichotomy b j with q | q | q
    · exact Int.le_of_lt ((h.2.2 j z hA).1 q)
    · subst q; exact Int.le_refl _
    · exact (h.2.2 j z hA).2 q⟩
theorem isMin.sub (h : isMin A x y n b) (s : ∀ j, j < n → B j → A j) (hb : B b) : isMin B x y n b :=
  ⟨h.1, hb, fun j hj hB => h.2.2 j hj (s j hj hB)⟩
theorem isMin.con (h : isMin A x y n b) (s : ∀ j, j < n → A j → x2 j = x j ∧ y2 j = y j) : isMin A x2 y2 n b :=
  ⟨h.1, h.2.1, fun j hj hA => by
    obtain ⟨a1, a2⟩ := s j hj hA
    obtain ⟨c1, c2⟩ := s b h.1 h.2.1
    rw [a1, a2, c1, c2]
    exact h.2.2 j hj hA⟩
end MIN
section FOLD
theorem xN_at2 {X : CS} {i : Nat} (h40 : i < 40) (hi : i < cs_n X) (cu : Int32) : (¬ lr_pr (cs_lt X i) ≤ 0 ∧ bT (cs_lt X i) = 0 ∧ lr_cu (cs_lt X i) = cu → xN X (nI i) cu = some i) ∧ (¬ (¬ lr_pr (cs_lt X i) ≤ 0 ∧ bT (cs_lt X i) = 0 ∧ lr_cu (cs_lt X i) = cu) → xN X (nI i) cu = none) := by
  have hx := xAt_at (X := X) h40 hi
  refine ⟨fun q => ?_, fun q => ?_⟩
  · rw [xN, hx.1 q.1]
    dsimp only
    rw [if_pos q.2.1, if_pos q.2.2]
  · by_cases c : lr_pr (cs_lt X i) ≤ 0
    · rw [xN, hx.2 c]
    · rw [xN, hx.1 c]
      dsimp only
      by_cases d : bT (cs_lt X i) = 0
      · rw [if_pos d, if_neg (fun e => q ⟨c, d, e⟩)]
      · rw [if_neg d]
/-- an alive lot by NOTICE of the customer -/
def nL (r : LR) (cu : Int32) : Prop := ¬ lr_pr r ≤ 0 ∧ bT r = 0 ∧ lr_cu r = cu
def cS (X : CS) (cu : Int32) (j : Nat) : Prop := nL (cs_lt X j) cu ∧ ¬ unf (cs_lt X j) ≤ 0
abbrev xS (X : CS) (j : Nat) : Int := (lr_pa (cs_lt X j)).toInt
abbrev yS (X : CS) (j : Nat) : Int := (lr_pr (cs_lt X j)).toInt
theorem prod_v {a : Int64} {b : Int32} (h1 : 0 ≤ a.toInt) (h2 : a.toInt ≤ 20000000000) (h3 : 0 ≤ b.toInt) (h4 : b.toInt ≤ 10000000) : (a * Int32.toInt64 b).toInt = a.toInt * b.toInt := by
  have q := mul_b h1 h2 h3 h4
  exact j_mulr (by omega) (by omega)
theorem hnm_v {r t : LR} (r1 : 0 ≤ (lr_pa r).toInt ∧ (lr_pa r).toInt ≤ 20000000000) (r2 : 0 ≤ (lr_pr r).toInt ∧ (lr_pr r).toInt ≤ 10000000) (t1 : 0 ≤ (lr_pa t).toInt ∧ (lr_pa t).toInt ≤ 20000000000) (t2 : 0 ≤ (lr_pr t).toInt ∧ (lr_pr t).toInt ≤ 10000000) : hnm r t = 0 ↔ (lr_pa t).toInt * (lr_pr r).toInt < (lr_pa r).toInt * (lr_pr t).toInt := by
  have e1 := prod_v r1.1 r1.2 t2.1 t2.2
  have e2 := prod_v t1.1 t1.2 r2.1 r2.2
  unfold hnm
  by_cases c : 0 < lg_cmp (lr_pa r * Int32.toInt64 (lr_pr t)) (lr_pa t * Int32.toInt64 (lr_pr r))
  · rw [if_pos c]
    rw [lg_cmp_gt, Int64.lt_iff_toInt_lt, e1, e2] at c
    exact ⟨fun _ => c, fun _ => rfl⟩
  · rw [if_neg c]
    rw [lg_cmp_gt, Int64.lt_iff_toInt_lt, e1, e2] at c
    exact ⟨fun k => absurd k (by decide), fun k => absurd k c⟩
theorem lh_min {X : CS} {cu : Int32} (h40 : cs_n X ≤ 40) (hb : ∀ j, j < cs_n X → cS X cu j → (0 ≤ xS X j ∧ xS X j ≤ 20000000000) ∧ (1 ≤ yS X j ∧ yS X j ≤ 10000000)) : ∀ i, i ≤ cs_n X → (lhTo X cu i = none ∧ ∀ j, j < i → ¬ cS X cu j) ∨ ∃ b, lhTo X cu i = some b ∧ isMin (cS X cu) (xS X) (yS X) i b
  | 0, _ => Or.inl ⟨rfl, fun j hj => absurd hj (Nat.not_lt_zero j)⟩
  | i + 1, hi => by
    have ih := lh_min h40 hb i (by omega)
    have hx := xN_at2 (X := X) (i := i) (by omega) (by omega) cu
    by_cases c : nL (cs_lt X i) cu
    · have hx := hx.1 c
      by_cases d : unf (cs_lt X i) ≤ 0
      · have nc : ¬ cS X cu i := fun q => q.2 d
        rw [lhTo_s0 hx d]
        rcases ih with ⟨e, f⟩ | ⟨b, e, f⟩
        · refine Or.inl ⟨e, fun j hj => ?_⟩
          rcases Nat.lt_or_ge j i with k | k
          · exact f j k
          · have z : j = i := by omega
            subst z; exact nc
        · exact Or.inr ⟨b, e, f.skip nc⟩
      · have cc : cS X cu i := ⟨c, d⟩
        rcases ih with ⟨e, f⟩ | ⟨b, e, f⟩
        · rw [lhTo_s1 hx d e]
          exact Or.inr ⟨i, rfl, isMin.new f cc⟩
        · have bi := hb i (by omega) cc
          have bb := hb b (by have := f.1; omega) f.2.1
          have hv := hnm_v (r := cs_lt X i) (t := cs_lt X b) bi.1 ⟨Int.le_trans (by decide) bi.2.1, bi.2.2⟩ bb.1 ⟨Int.le_trans (by decide) bb.2.1, bb.2.2⟩
          by_cases k : hnm (cs_lt X i) (cs_lt X b) = 0
          · rw [lhTo_s2 hx d e k]
            exact Or.inr ⟨b, rfl, f.keep (hv.mp k)⟩
          · rw [lhTo_s3 hx d e k]
            refine Or.inr ⟨i, rfl, f.repl cc (Int.not_lt.mp (fun q => k (hv.mpr q))) (fun j hj hA => ?_)⟩
            have := hb j (by omega) hA
            omega
    · have hx := hx.2 c
      have nc : ¬ cS X cu i := fun q => c q.1
      rw [lhTo_n hx]
      rcases ih with ⟨e, f⟩ | ⟨b, e, f⟩
      · refine Or.inl ⟨e, fun j hj => ?_⟩
        rcases Nat.lt_or_ge j i with k | k
        · exact f j k
        · have z : j = i := by omega
          subst z; exact nc
      · exact Or.inr ⟨b, e, f.skip nc⟩
def cM (Y : MS) (cu : Int32) (j : Nat) : Prop := ¬ mNoM Y j cu = 0 ∧ ms_dn Y j = 0
abbrev xM (Y : MS) (j : Nat) : Int := (ms_pah Y j).toInt
abbrev yM (Y : MS) (j : Nat) : Int := (ms_prh Y j).toInt
theorem mn_min {Y : MS} {cu : Int32} {n : Nat} (hb : ∀ j, j < n → cM Y cu j → (0 ≤ xM Y j ∧ xM Y j ≤ 20000000000) ∧ (1 ≤ yM Y j ∧ yM Y j ≤ 10000000)) : ∀ i, i ≤ n → (mnTo Y cu i = none ∧ ∀ j, j < i → ¬ cM Y cu j) ∨ ∃ b, mnTo Y cu i = some b ∧ isMin (cM Y cu) (xM Y) (yM Y) i b
  | 0, _ => Or.inl ⟨rfl, fun j hj => absurd hj (Nat.not_lt_zero j)⟩
  | i + 1, hi => by
    have ih := mn_min hb i (by omega)
    have skip : ¬ cM Y cu i → mnTo Y cu (i + 1) = mnTo Y cu i → (mnTo Y cu (i + 1) = none ∧ ∀ j, j < i + 1 → ¬ cM Y cu j) ∨ ∃ b, mnTo Y cu (i + 1) = some b ∧ isMin (cM Y cu) (xM Y) (yM Y) (i + 1) b := fun nc e0 => by
      rw [e0]
      rcases ih with ⟨e, f⟩ | ⟨b, e, f⟩
      · refine Or.inl ⟨e, fun j hj => ?_⟩
        rcases Nat.lt_or_ge j i with k | k
        · exact f j k
        · have z : j = i := by omega
          subst z; exact nc
      · exact Or.inr ⟨b, e, f.skip nc⟩
    by_cases c : mNoM Y i cu = 0
    · exact skip (fun q => q.1 c) (mn_0 c)
    · by_cases d : ms_dn Y i = 0
      · have cc : cM Y cu i := ⟨c, d⟩
        rcases ih with ⟨e, f⟩ | ⟨b, e, f⟩
        · rw [mn_2 c d e]
          exact Or.inr ⟨i, rfl, isMin.new f cc⟩
        · have bi := hb i (by omega) cc
          have bb := hb b (by have := f.1; omega) f.2.1
          have e1 := prod_v (a := ms_pah Y i) (b := ms_prh Y b) bi.1.1 bi.1.2 (Int.le_trans (by decide) bb.2.1) bb.2.2
          have e2 := prod_v (a := ms_pah Y b) (b := ms_prh Y i) bb.1.1 bb.1.2 (Int.le_trans (by decide) bi.2.1) bi.2.2
          by_cases k : 0 < lg_cmp (ms_pah Y i * Int32.toInt64 (ms_prh Y b)) (ms_pah Y b * Int32.toInt64 (ms_prh Y i))
          · rw [mn_3 c d e k]
            rw [lg_cmp_gt, Int64.lt_iff_toInt_lt, e1, e2] at k
            exact Or.inr ⟨b, rfl, f.keep k⟩
          · rw [mn_4 c d e k]
            rw [lg_cmp_gt, Int64.lt_iff_toInt_lt, e1, e2] at k
            refine Or.inr ⟨i, rfl, f.repl cc (Int.not_lt.mp k) (fun j hj hA => ?_)⟩
            have := hb j (by omega) hA
            omega
      · exact skip (fun q => d q.2) (mn_1 c d)
end FOLD
