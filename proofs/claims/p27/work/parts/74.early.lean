/-! early money: what is free, who has been asked -/
section FREE
def uA (r : LR) (cu : Int32) : Int := if lr_pr r ≤ 0 then 0 else if bT r = 0 then (if lr_cu r = cu then (unf r).toInt else 0) else 0
theorem uA_in {r : LR} {cu : Int32} (h : nL r cu) : uA r cu = (unf r).toInt := by rw [uA, if_neg h.1, if_pos h.2.1, if_pos h.2.2]
theorem uA_out {r : LR} {cu : Int32} (h : ¬ nL r cu) : uA r cu = 0 := by
  unfold uA
  by_cases a : lr_pr r ≤ 0
  · rw [if_pos a]
  · by_cases b : bT r = 0
    · rw [if_neg a, if_pos b, if_neg (fun c => h ⟨a, b, c⟩)]
    · rw [if_neg a, if_neg b]
def uS (f : Nat → LR) (cu : Int32) : Nat → Int
  | 0 => 0
  | i + 1 => uS f cu i + uA (f i) cu
theorem uS_up (f : Nat → LR) (cu : Int32) (i : Nat) (x : LR) : ∀ n, uS (va_up f i x) cu n = uS f cu n + (if i < n then uA x cu - uA (f i) cu else 0)
  | 0 => by rw [if_neg (Nat.not_lt_zero i)]; rfl
  | n + 1 => by
    rw [uS, uS, uS_up f cu i x n]
    by_cases c : n = i
    · subst c
      rw [va_up_self, if_neg (Nat.lt_irrefl n), if_pos (Nat.lt_succ_self n)]
      omega
    · rw [va_up_ne _ _ c]
      by_cases d : i < n
      · rw [if_pos d, if_pos (by omega)]; omega
      · rw [if_neg d, if_neg (by omega)]; omega
theorem uS_c {f g : Nat → LR} {cu : Int32} : ∀ n, (∀ j, j < n → uA (f j) cu = uA (g j) cu) → uS f cu n = uS g cu n
  | 0, _ => rfl
  | i + 1, h => by rw [uS, uS, uS_c i (fun j hj => h j (by omega)), h i (by omega)]
theorem uS_ex {f : Nat → LR} {cu : Int32} : ∀ n, 0 < uS f cu n → ∃ j, j < n ∧ nL (f j) cu ∧ 0 < (unf (f j)).toInt
  | 0, h => absurd h (by show ¬ (0 : Int) < 0; decide)
  | i + 1, h => by
    rw [uS] at h
    by_cases c : nL (f i) cu
    · rw [uA_in c] at h
      by_cases d : 0 < (unf (f i)).toInt
      · exact ⟨i, Nat.lt_succ_self i, c, d⟩
      · obtain ⟨j, hj, q⟩ := uS_ex (f := f) (cu := cu) i (by omega)
        exact ⟨j, by omega, q⟩
    · rw [uA_out c] at h
      obtain ⟨j, hj, q⟩ := uS_ex (f := f) (cu := cu) i (by omega)
      exact ⟨j, by omega, q⟩
def cnt (f : Nat → Int32) : Nat → Nat
  | 0 => 0
  | i + 1 => cnt f i + (if f i = 0 then 0 else 1)
theorem cnt_le (f : Nat → Int32) : ∀ n, cnt f n ≤ n
  | 0 => Nat.le_refl _
  | n + 1 => by
    have := cnt_le f n
    rw [cnt]
    split <;> omega
theorem cnt_c {f g : Nat → Int32} : ∀ n, (∀ j, j < n → f j = g j) → cnt f n = cnt g n
  | 0, _ => rfl
  | i + 1, h => by rw [cnt, cnt, cnt_c i (fun j hj => h j (by omega)), h i (by omega)]
theorem cnt_lt {f : Nat → Int32} {j : Nat} (hz : f j = 0) : ∀ n, j < n → cnt f n < n
  | 0, h => absurd h (Nat.not_lt_zero j)
  | n + 1, h => by
    rw [cnt]
    by_cases c : j = n
    · subst c
      rw [if_pos hz]
      have := cnt_le f j
      omega
    · have := cnt_lt hz n (by omega)
      split <;> omega
theorem cnt_up {f : Nat → Int32} {j : Nat} {x : Int32} (hz : f j = 0) (hx : ¬ x = 0) : ∀ n, j < n → cnt (upd f j x) n = cnt f n + 1
  | 0, h => absurd h (Nat.not_lt_zero j)
  | n + 1, h => by
    rw [cnt, cnt]
    by_cases c : n = j
    · subst c
      rw [upd_self, if_neg hx, if_pos hz, cnt_c (g := f) n (fun q hq => upd_ne (by omega))]
    · rw [upd_ne c, cnt_up hz hx n (by omega)]
      omega
theorem cnt_0 {f : Nat → Int32} : ∀ n, (∀ j, j < n → f j = 0) → cnt f n = 0
  | 0, _ => rfl
  | n + 1, h => by rw [cnt, cnt_0 n (fun j hj => h j (by omega)), if_pos (h n (by omega))]
theorem mqD_at (M : MS) : ∀ i j, j < i → mqD M i j = 0
  | 0, j, h => absurd h (Nat.not_lt_zero j)
  | i + 1, j, h => by
    rw [mqD]
    by_cases c : j = i
    · subst c; rw [upd_self]; rfl
    · rw [upd_ne c]; exact mqD_at M i j (by omega)
theorem mqP_at (M : MS) : ∀ i j, j < i → mqP M i j = if ms_th M j = 0 then 0 else mPn M j
  | 0, j, h => absurd h (Nat.not_lt_zero j)
  | i + 1, j, h => by
    rw [mqP]
    by_cases c : j = i
    · subst c; rw [updL_self]
    · rw [updL_ne c]; exact mqP_at M i j (by omega)
theorem mqR_at (M : MS) : ∀ i j, j < i → mqR M i j = ms_pr M j
  | 0, j, h => absurd h (Nat.not_lt_zero j)
  | i + 1, j, h => by
    rw [mqR]
    by_cases c : j = i
    · subst c; rw [upd_self]
    · rw [upd_ne c]; exact mqR_at M i j (by omega)
end FREE
section FREE2
variable {S : CS} {M : MS}
theorem Rel.dn (h : Rel S M) (d : Nat → Int32) : Rel S (ms_set_dn M d) := h
theorem Rel.pah (h : Rel S M) (d : Nat → Int64) : Rel S (ms_set_pah M d) := h
theorem Rel.prh (h : Rel S M) (d : Nat → Int32) : Rel S (ms_set_prh M d) := h
theorem Rel.ea (h : Rel S M) : Rel S (mEaM M) := ((((h.thr 0).dn _).pah _).prh _)
theorem mEaM_f (M : MS) : ms_dn (mEaM M) = mqD (mT0 M) (ms_n M) ∧ ms_pah (mEaM M) = mqP (mT0 M) (ms_n M) ∧ ms_prh (mEaM M) = mqR (mT0 M) (ms_n M) ∧ ms_n (mEaM M) = ms_n M ∧ ms_th (mEaM M) = ms_th M ∧ ms_pr (mEaM M) = ms_pr M := ⟨rfl, rfl, rfl, rfl, rfl, rfl⟩
theorem unf_b (h : Rel S M) {j : Nat} (hj : j < cs_n S) (h3 : ¬ lr_pr (cs_lt S j) ≤ 0) (h4 : bT (cs_lt S j) = 0) : (unf (cs_lt S j)).toInt = (lr_pr (cs_lt S j)).toInt - (lr_fz (cs_lt S j)).toInt ∧ 0 ≤ (unf (cs_lt S j)).toInt ∧ (unf (cs_lt S j)).toInt ≤ 10000000 := by
  obtain ⟨b1, b2, n1, n2, n3, n4, n5, n6, n7⟩ := ((h.lot hj).2.2.2 h3).2.2.1 h4
  have e : (unf (cs_lt S j)).toInt = (lr_pr (cs_lt S j)).toInt - (lr_fz (cs_lt S j)).toInt := i_sub_le n4 n5
  rw [e]
  exact ⟨rfl, by omega, by omega⟩
theorem unf_eq (h : Rel S M) (cu : Int32) : ∀ i, i ≤ cs_n S → unfTo S cu i = mfTo M cu i ∧ (unfTo S cu i).toInt = uS (cs_lt S) cu i ∧ 0 ≤ uS (cs_lt S) cu i ∧ uS (cs_lt S) cu i ≤ 10000000 * i
  | 0, _ => ⟨rfl, rfl, Int.le_refl _, by show (0 : Int) ≤ _; omega⟩
  | i + 1, hi => by
    obtain ⟨e1, e2, e3, e4⟩ := unf_eq h cu i (by omega)
    have hn := h.le
    rcases xN_or h (i := i) (by omega) cu with ⟨h1, h2, h3, h4, h5⟩ | ⟨h1, h2⟩
    · have g := (h.lot (j := i) (by omega)).2.2.2 h3
      have u := unf_b h (j := i) (by omega) h3 h4
      rw [unfTo_s h1, mf_1 h2, uS, uA_in ⟨h3, h4, h5⟩, i_add (by omega) (by omega), e1, ← g.1, ← (g.2.2.1 h4).1]
      refine ⟨rfl, by rw [← e1, e2], by omega, by omega⟩
    · have hx := xN_at2 (X := S) (i := i) (by omega) (by omega) cu
      have nn : ¬ nL (cs_lt S i) cu := fun q => by rw [hx.1 q] at h1; cases h1
      rw [unfTo_n h1, mf_0 h2, Int32.add_zero, uS, uA_out nn, e1]
      rw [e1] at e2
      exact ⟨rfl, by omega, by omega, by omega⟩
/-- the loss is the same -/
theorem lbe_eq {r : LR} {M : MS} {j : Nat} {t : Int32} (h1 : lr_pa r = ms_pah M j) (h2 : lr_pr r = ms_prh M j) (h3 : lr_ea r = ms_ea M j) (h4 : 0 < lr_pr r) : lbe r t = meL M j t := by
  rw [lbe, if_pos h4, meL, meL1, h1, h2, h3]
  by_cases c : ms_ea M j < 30 * ms_pah M j * Int32.toInt64 t / Int32.toInt64 (ms_prh M j)
  · rw [if_pos c, if_neg (fun q => by rw [lg_cmp_le, Int64.le_iff_toInt_le] at q; rw [Int64.lt_iff_toInt_lt] at c; omega)]
  · rw [if_neg c, if_pos (by rw [lg_cmp_le, Int64.le_iff_toInt_le]; rw [Int64.lt_iff_toInt_lt] at c; omega)]
theorem loss_b {p e : Int64} {t r : Int32} (hp : 0 ≤ p.toInt ∧ p.toInt ≤ 20000000000) (ht : 0 ≤ t.toInt ∧ t.toInt ≤ 10000000) (hr : 1 ≤ r.toInt) : 0 ≤ (30 * p * Int32.toInt64 t / Int32.toInt64 r).toInt := by
  have e30 : (30 : Int64).toInt = 30 := rfl
  have a : (30 * p).toInt = 30 * p.toInt := by
    rw [Int64.toInt_mul, e30]
    exact Int.bmod_eq_of_le (by omega) (by omega)
  have m := mul_b (x := 30 * p.toInt) (m := 600000000000) (by omega) (by omega) ht.1 ht.2
  have b : (30 * p * Int32.toInt64 t).toInt = 30 * p.toInt * t.toInt := by
    rw [Int64.toInt_mul, a, Int32.toInt_toInt64]
    exact Int.bmod_eq_of_le (by omega) (by omega)
  rw [Int64.toInt_div, b, Int32.toInt_toInt64, Int.tdiv_eq_ediv_of_nonneg m.1]
  have q := Int.ediv_nonneg m.1 (Int.le_trans (by decide) hr)
  have q2 := Int.ediv_le_self r.toInt m.1
  rw [Int.bmod_eq_of_le (by omega) (by omega)]
  exact q
theorem meL_b {M : MS} {j : Nat} {t : Int32} (he : 0 ≤ (ms_ea M j).toInt) (hp : 0 ≤ (ms_pah M j).toInt ∧ (ms_pah M j).toInt ≤ 20000000000) (ht : 0 ≤ t.toInt ∧ t.toInt ≤ 10000000) (hr : 1 ≤ (ms_prh M j).toInt) : 0 ≤ (meL M j t).toInt ∧ (meL M j t).toInt ≤ (ms_ea M j).toInt := by
  have l := loss_b (e := 0) hp ht hr
  have l1 : 0 ≤ (meL1 M j t).toInt := l
  unfold meL
  by_cases c : lg_cmp (meL1 M j t) (ms_ea M j) ≤ 0
  · rw [if_pos c]
    rw [lg_cmp_le, Int64.le_iff_toInt_le] at c
    exact ⟨l1, c⟩
  · rw [if_neg c]; exact ⟨he, Int.le_refl _⟩
theorem meL_0 {M : MS} {j : Nat} (he : 0 ≤ (ms_ea M j).toInt) (hr : 1 ≤ (ms_prh M j).toInt) : meL M j 0 = 0 := by
  have a : meL1 M j 0 = 0 := by
    apply Int64.toInt_inj.mp
    show (30 * ms_pah M j * Int32.toInt64 0 / Int32.toInt64 (ms_prh M j)).toInt = 0
    rw [show Int32.toInt64 0 = 0 from rfl, Int64.mul_zero, Int64.toInt_div, show (0 : Int64).toInt = 0 from rfl, Int.zero_tdiv]
    rfl
  unfold meL
  rw [a, if_pos (by rw [lg_cmp_le, Int64.le_iff_toInt_le]; exact he)]
end FREE2
