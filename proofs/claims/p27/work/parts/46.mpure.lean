/-! what the reference's methods do, as functions of its state -/
def mIn (z lo hi : Int32) : Int32 := if z < lo then 0 else if hi < z then 0 else 1
def mCu (z : Int32) : Int32 := mIn z 0 3
def mLo (M : MS) (z : Int32) : Int32 := if mIn z 0 (nI (ms_n M) - 1) = 0 then 0 else if ms_th M z.toNatClampNeg = 0 then 0 else 1
def mNo (th te ow : Nat → Int32) (j : Nat) (cu : Int32) : Int32 := if th j = 0 then 0 else if te j = 0 then (if ow j = cu then 1 else 0) else 0
abbrev mNoM (M : MS) (j : Nat) (cu : Int32) : Int32 := mNo (ms_th M) (ms_te M) (ms_ow M) j cu
def mSu (th te ow pr : Nat → Int32) (cu : Int32) : Nat → Int32
  | 0 => 0
  | i + 1 => mSu th te ow pr cu i + (if mNo th te ow i cu = 0 then 0 else pr i)
abbrev mSuM (M : MS) (cu : Int32) (i : Nat) : Int32 := mSu (ms_th M) (ms_te M) (ms_ow M) (ms_pr M) cu i
def mP1 (z : Int32) : Int64 := if 100000 ≤ z then 100000 else Int32.toInt64 z
def mP2 (z : Int32) : Int64 := if 1000000 ≤ z then 900000 else Int32.toInt64 z - mP1 z
def mPo (rt : Nat → Int32) (z : Int32) : Int64 := mP1 z * Int32.toInt64 (rt 0) + mP2 z * Int32.toInt64 (rt 1) + (Int32.toInt64 z - mP1 z - mP2 z) * Int32.toInt64 (rt 2)
def mRf (rt : Nat → Int32) (z : Int32) : Int32 := if 100000 < z then (if 1000000 < z then rt 2 else rt 1) else rt 0
abbrev mPn (M : MS) (j : Nat) : Int64 := if ms_te M j = 0 then (if ms_bb M = 0 then Int32.toInt64 (ms_pr M j) * Int32.toInt64 (mRf (ms_rates M) (mSuM M (ms_ow M j) (ms_n M))) else mPo (ms_rates M) (mSuM M (ms_ow M j) j + ms_pr M j) - mPo (ms_rates M) (mSuM M (ms_ow M j) j)) else ms_tp M j
def mTiC (M : MS) (j : Nat) : Int32 := Int64.toInt32 (ms_ea M j / 3650000)
def mTi (M : MS) (j : Nat) : MS := ms_set_ea M (vp_updL (ms_ea M) j (ms_ea M j - ms_ea M j / 3650000 * 3650000))
def mEn1 (M : MS) (j : Nat) : MS := ms_set_lost (mTi M j) (vp_updL (ms_lost (mTi M j)) (ms_ow (mTi M j) j).toNatClampNeg (ms_lost (mTi M j) (ms_ow (mTi M j) j).toNatClampNeg + ms_ea (mTi M j) j))
def mTh (M : MS) (j : Nat) (v : Int32) : MS := ms_set_th M (upd (ms_th M) j (v &&& 1))
def mEn (M : MS) (j : Nat) : MS := mTh (mEn1 M j) j 0
def mPa (M : MS) (cu x : Int32) : MS := ms_set_paid M (vp_updL (ms_paid M) cu.toNatClampNeg (ms_paid M cu.toNatClampNeg + Int32.toInt64 x))
def mOp (M : MS) (cu x : Int32) : MS := ms_set_bg (ms_set_fz (ms_set_ea (ms_set_pr (ms_set_ow (ms_set_te (ms_set_th (ms_set_n M (ms_n M + 1)) (upd (ms_th M) (ms_n M) (1 &&& 1))) (upd (ms_te M) (ms_n M) (0 &&& 1))) (upd (ms_ow M) (ms_n M) cu)) (upd (ms_pr M) (ms_n M) x)) (vp_updL (ms_ea M) (ms_n M) 0)) (upd (ms_fz M) (ms_n M) 0)) (upd (ms_bg M) (ms_n M) (-1))
def mBt1 (M : MS) (j : Nat) : MS := ms_set_en M (upd (ms_en M) j (ms_now M + ms_le M j))
def mBt (M : MS) (j : Nat) : MS := ms_set_tp (mBt1 M j) (vp_updL (ms_tp (mBt1 M j)) j (Int32.toInt64 (ms_pr (mBt1 M j) j) * Int32.toInt64 (ms_tr (mBt1 M j))))
def mLn (th : Nat → Int32) : Nat → Int32
  | 0 => 0
  | i + 1 => mLn th i + (if th i = 0 then 0 else 1)
def okM (M : MS) : Prop := ms_n M ≤ 40 ∧ ∀ j, j < 40 → vp_in (ms_ow M j) 4
theorem mIn_0 {z lo hi : Int32} (h : ¬ mIn z lo hi = 0) : ¬ z < lo ∧ ¬ hi < z := by
  unfold mIn at h
  split at h
  · exact absurd rfl h
  · split at h
    · exact absurd rfl h
    · exact ⟨by assumption, by assumption⟩
theorem mIn_b (z lo hi : Int32) : mIn z lo hi = 0 ∨ mIn z lo hi = 1 := by
  unfold mIn
  split
  · exact Or.inl rfl
  · split
    · exact Or.inl rfl
    · exact Or.inr rfl
theorem mIn_lot {z : Int32} {n : Nat} (hn : n ≤ 40) (h : ¬ mIn z 0 (nI n - 1) = 0) : z.toNatClampNeg < n ∧ vp_in z 40 := by
  obtain ⟨h1, h2⟩ := mIn_0 h
  obtain ⟨j, hj, rfl⟩ := nI_of h1
  rw [nI_clamp hj]
  rcases Nat.eq_zero_or_pos n with h0 | h0
  · subst h0
    rw [i_lt] at h2
    rw [nI_toInt hj] at h2
    have e : (nI 0 - 1).toInt = -1 := by decide
    omega
  · obtain ⟨n, rfl⟩ : ∃ m, n = m + 1 := ⟨n - 1, by omega⟩
    rw [nI_pred] at h2
    have h3 : ¬ n < j := fun q => h2 (nI_lt q hj)
    exact ⟨by omega, vp_in_nI (by omega) (by decide)⟩
theorem mCu_in {z : Int32} (h : ¬ mCu z = 0) : vp_in z 4 := by
  obtain ⟨h1, h2⟩ := mIn_0 h
  rw [i_lt] at h1 h2
  rw [vp_in_iff]
  have e0 : (0 : Int32).toInt = 0 := rfl
  have e3 : (3 : Int32).toInt = 3 := rfl
  omega
theorem mLo_in {M : MS} (hok : okM M) {z : Int32} (h : ¬ mLo M z = 0) : z.toNatClampNeg < ms_n M ∧ vp_in z 40 ∧ ¬ ms_th M z.toNatClampNeg = 0 := by
  unfold mLo at h
  split at h
  · exact absurd rfl h
  · split at h
    · exact absurd rfl h
    · have := mIn_lot hok.1 (by assumption)
      exact ⟨this.1, this.2, by assumption⟩
theorem vin_eq {z : Int32} {n : Nat} (h : vp_in z n) (hn : n < 2 ^ 31) : z = nI z.toNatClampNeg ∧ z.toNatClampNeg < n := by
  obtain ⟨j, hj, rfl⟩ := vp_in_of h hn
  rw [nI_clamp (by omega)]
  exact ⟨rfl, hj⟩
section MSTEPS
variable {th te ow pr : Nat → Int32} {cu : Int32} {i : Nat}
theorem mSu_0 (h : mNo th te ow i cu = 0) : mSu th te ow pr cu i + 0 = mSu th te ow pr cu (i + 1) := by rw [mSu, if_pos h]
theorem mSu_1 (h : ¬ mNo th te ow i cu = 0) : mSu th te ow pr cu i + pr i = mSu th te ow pr cu (i + 1) := by rw [mSu, if_neg h]
theorem msu_0 {M : MS} (h : mNoM M i cu = 0) : mSuM M cu (i + 1) = mSuM M cu i + 0 := (mSu_0 h).symm
theorem msu_1 {M : MS} (h : ¬ mNoM M i cu = 0) : mSuM M cu (i + 1) = mSuM M cu i + ms_pr M i := (mSu_1 h).symm
theorem mLn_0 (h : th i = 0) : mLn th i + 0 = mLn th (i + 1) := by rw [mLn, if_pos h]
theorem mLn_1 (h : ¬ th i = 0) : mLn th i + 1 = mLn th (i + 1) := by rw [mLn, if_neg h]
end MSTEPS
