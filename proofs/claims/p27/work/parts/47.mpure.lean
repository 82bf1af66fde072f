def mEt1 (M : MS) (j : Nat) : MS := ms_set_paid (mEn M j) (vp_updL (ms_paid (mEn M j)) (ms_ow (mEn M j) j).toNatClampNeg (ms_paid (mEn M j) (ms_ow (mEn M j) j).toNatClampNeg + (Int32.toInt64 (ms_pr M j) + Int32.toInt64 (mTiC M j))))
def mEt2 (M : MS) (j : Nat) : MS := ms_set_pr (mTi M j) (upd (ms_pr (mTi M j)) j (ms_pr (mTi M j) j + mTiC M j))
def mEt3 (M : MS) (j : Nat) : MS := ms_set_bg M (upd (ms_bg M) j (ms_now M))
def mEt (M : MS) (j : Nat) : MS := if ms_ins M j = 0 then mEt1 M j else if ms_ins (mTi M j) j = 1 then mEt3 (mBt (mPa (mTi M j) (ms_ow (mTi M j) j) (mTiC M j)) j) j else mEt3 (mBt (mEt2 M j) j) j
abbrev mT0 (M : MS) : MS := ms_set_thr M 0
def kSt (b z : Int32) : Int32 := if mIn b 0 2 = 0 then 1 else if mIn z 0 2000 = 0 then 2 else 0
def kTr (z : Int32) : Int32 := if mIn z 0 2000 = 0 then 1 else 0
def kDp (M : MS) (cu x : Int32) : Int32 := if mCu cu = 0 then 1 else if mIn x 1 10000000 = 0 then 2 else if nI (ms_n M) = 40 then 3 else 0
def kDt (M : MS) (cu x d v : Int32) : Int32 := if mCu cu = 0 then 1 else if mIn x 1 10000000 = 0 then 2 else if mIn d 1 400 = 0 then 2 else if mIn v 0 2 = 0 then 2 else if nI (ms_n M) = 40 then 3 else 0
def mDa (M : MS) (cu x : Int32) : MS := ms_set_te (mOp M cu x) (upd (ms_te (mOp M cu x)) (ms_n M) (1 &&& 1))
def mDb (M : MS) (cu x d : Int32) : MS := ms_set_le (mDa M cu x) (upd (ms_le (mDa M cu x)) (ms_n M) d)
def mDt1 (M : MS) (cu x d v : Int32) : MS := ms_set_ins (mDb M cu x d) (upd (ms_ins (mDb M cu x d)) (ms_n M) v)
def mDt (M : MS) (cu x d v : Int32) : MS := mBt (mDt1 M cu x d v) (ms_n M)
def kGv (M : MS) (z c : Int32) : Int32 := if mLo M z = 0 then 1 else if mIn c 1 (ms_pr M z.toNatClampNeg) = 0 then 2 else if ms_te M z.toNatClampNeg = 0 then (if ms_fz M z.toNatClampNeg ≤ 0 then 0 else 3) else 3
def mGv (M : MS) (z c : Int32) : MS := ms_set_nd (ms_set_fz M (upd (ms_fz M) z.toNatClampNeg c)) (upd (ms_nd M) z.toNatClampNeg (ms_now M))
def kWd (M : MS) (z : Int32) : Int32 := if mLo M z = 0 then 1 else if ms_te M z.toNatClampNeg = 0 then (if ms_fz M z.toNatClampNeg = 0 then 2 else 0) else 2
def mWd (M : MS) (z : Int32) : MS := ms_set_fz M (upd (ms_fz M) z.toNatClampNeg 0)
def kTk (M : MS) (z : Int32) : Int32 := if mLo M z = 0 then 1 else if ms_te M z.toNatClampNeg = 0 then (if ms_fz M z.toNatClampNeg = 0 then 2 else if ms_nd M z.toNatClampNeg + 32 ≤ ms_now M then 0 else 2) else 2
def mTk1 (M : MS) (j : Nat) : MS := ms_set_fz (ms_set_pr M (upd (ms_pr M) j (ms_pr M j - ms_fz M j))) (upd (ms_fz M) j 0)
def mTkV (M : MS) (j : Nat) : Int32 := if ms_pr (mTk1 M j) j = 0 then ms_fz M j + mTiC (mTk1 M j) j else ms_fz M j
def mTk2 (M : MS) (j : Nat) : MS := if ms_pr (mTk1 M j) j = 0 then mEn (mTk1 M j) j else mTk1 M j
def mTk (M : MS) (j : Nat) : MS := mPa (mTk2 M j) (ms_ow (mTk2 M j) j) (mTkV M j)
def kIn (M : MS) (z v : Int32) : Int32 := if mLo M z = 0 then 1 else if mIn v 0 2 = 0 then 2 else if ms_te M z.toNatClampNeg = 0 then 3 else 0
def mInS (M : MS) (z v : Int32) : MS := ms_set_ins M (upd (ms_ins M) z.toNatClampNeg v)
def kLg (M : MS) (z : Int32) : Int32 := if mLo M z = 0 then 1 else if ms_te M z.toNatClampNeg = 0 then 2 else if ms_bg M z.toNatClampNeg = -1 then 2 else if ms_now M - 6 ≤ ms_bg M z.toNatClampNeg then 0 else 2
def mLg1 (M : MS) (j : Nat) : MS := ms_set_lost M (vp_updL (ms_lost M) (ms_ow M j).toNatClampNeg (ms_lost M (ms_ow M j).toNatClampNeg + ms_ea M j))
def mLg (M : MS) (j : Nat) : MS := mPa (mTh (mLg1 M j) j 0) (ms_ow (mTh (mLg1 M j) j 0) j) (ms_pr (mTh (mLg1 M j) j 0) j)
def kJo (M : MS) (z y : Int32) : Int32 := if mLo M z = 0 then 1 else if mLo M y = 0 then 1 else if z = y then 2 else if ms_te M z.toNatClampNeg = 0 then 3 else if ms_te M y.toNatClampNeg = 0 then 3 else if ms_ow M z.toNatClampNeg = ms_ow M y.toNatClampNeg then (if ms_en M z.toNatClampNeg = ms_en M y.toNatClampNeg then (if lg_cmp (Int32.toInt64 (ms_pr M z.toNatClampNeg) + Int32.toInt64 (ms_pr M y.toNatClampNeg)) 100000000 ≤ 0 then 0 else 3) else 3) else 3
def mJo1 (M : MS) (i j : Nat) : MS := ms_set_pr M (upd (ms_pr M) i (ms_pr M i + ms_pr M j))
def mJo2 (M : MS) (i j : Nat) : MS := ms_set_ea M (vp_updL (ms_ea M) i (ms_ea M i + ms_ea M j))
def mJo3 (M : MS) (i j : Nat) : MS := ms_set_tp M (vp_updL (ms_tp M) i (ms_tp M i + ms_tp M j))
def mJo (M : MS) (i j : Nat) : MS := mTh (ms_set_bg (mJo3 (mJo2 (mJo1 M i j) i j) i j) (upd (ms_bg (mJo3 (mJo2 (mJo1 M i j) i j) i j)) i (-1))) j 0
def kAs (M : MS) (z : Int32) : Int32 := if mLo M z = 0 then 1 else 0
def kCu (z : Int32) : Int32 := if mCu z = 0 then 1 else 0
def kPs (M : MS) (d : Int32) : Int32 := if mIn d 1 100 = 0 then 1 else if ms_now M + d ≤ 3000 then 0 else 2
theorem n40 {n : Nat} (h : n ≤ 40) (c : ¬ nI n = 40) : n < 40 := by
  rcases Nat.lt_or_ge n 40 with h1 | h1
  · exact h1
  · have : n = 40 := by omega
    subst this
    exact absurd rfl c
theorem kAs_in {M : MS} {z : Int32} (h : kAs M z = 0) : ¬ mLo M z = 0 := by
  unfold kAs at h
  split at h
  · exact absurd h (by decide)
  · assumption
theorem mIn3 {z : Int32} (h : ¬ mIn z 0 2 = 0) : vp_in z 3 := by
  obtain ⟨h1, h2⟩ := mIn_0 h
  rw [i_lt] at h1 h2
  rw [vp_in_iff]
  have e0 : (0 : Int32).toInt = 0 := rfl
  have e3 : (2 : Int32).toInt = 2 := rfl
  omega
theorem mTk2_ow (M : MS) (j : Nat) : ms_ow (mTk2 M j) = ms_ow M := by
  unfold mTk2
  split <;> rfl
