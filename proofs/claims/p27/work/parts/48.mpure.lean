/-! the reference: days that pass, early money -/
def meEa (M : MS) : Nat → Nat → Int64
  | 0 => ms_ea M
  | i + 1 => vp_updL (meEa M i) i (meEa M i i + (if ms_th M i = 0 then 0 else mPn M i))
abbrev meM (M : MS) (i : Nat) : MS := ms_set_ea M (meEa M i)
theorem me_0 {M : MS} {i : Nat} (h : ms_th M i = 0) : ms_set_ea (meM M i) (vp_updL (ms_ea (meM M i)) i (ms_ea (meM M i) i + 0)) = meM M (i + 1) := by
  show _ = ms_set_ea M (vp_updL (meEa M i) i (meEa M i i + (if ms_th M i = 0 then 0 else mPn M i)))
  rw [if_pos h]
theorem me_1 {M : MS} {i : Nat} (h : ¬ ms_th M i = 0) : ms_set_ea (meM M i) (vp_updL (ms_ea (meM M i)) i (ms_ea (meM M i) i + mPn (meM M i) i)) = meM M (i + 1) := by
  show _ = ms_set_ea M (vp_updL (meEa M i) i (meEa M i i + (if ms_th M i = 0 then 0 else mPn M i)))
  rw [if_neg h]
def mNow (M : MS) : MS := ms_set_now M (ms_now M + 1)
def mb1 (M : MS) (j : Nat) : MS := if ms_th M j = 0 then M else if ms_te M j = 0 then (if ms_fz M j ≤ 0 then M else if ms_now M = ms_nd M j + 32 + 7 then ms_set_fz M (upd (ms_fz M) j 0) else M) else if ms_en M j = ms_now M then mEt M j else M
def mbc (c : Int32) (M : MS) (j : Nat) : Int32 := if ms_th M j = 0 then c else if ms_te M j = 0 then c else if ms_en M j = ms_now M then c + 1 else c
def mbTo (c : Int32) (M : MS) : Nat → Int32 × MS
  | 0 => (c, M)
  | i + 1 => (mbc (mbTo c M i).1 (mbTo c M i).2 i, mb1 (mbTo c M i).2 i)
def mDay (X : MS) : MS := mNow (meM X (ms_n X))
def mdTo (M : MS) : Nat → Int32 × MS
  | 0 => (0, M)
  | t + 1 => mbTo (mdTo M t).1 (mDay (mdTo M t).2) (ms_n (mdTo M t).2)
def fxM (M M2 : MS) : Prop := ms_n M2 = ms_n M ∧ ms_ow M2 = ms_ow M ∧ ms_thr M2 = ms_thr M
theorem fxM.rf (M : MS) : fxM M M := ⟨rfl, rfl, rfl⟩
theorem fxM.tr {A B C : MS} (h : fxM A B) (g : fxM B C) : fxM A C := ⟨g.1.trans h.1, g.2.1.trans h.2.1, g.2.2.trans h.2.2⟩
theorem fxM.ok {A B : MS} (h : fxM A B) (k : okM A) : okM B := by
  unfold okM
  rw [h.1, h.2.1]
  exact k
theorem fx_mEt (M : MS) (j : Nat) : fxM M (mEt M j) := by
  unfold mEt
  split
  · exact ⟨rfl, rfl, rfl⟩
  · split <;> exact ⟨rfl, rfl, rfl⟩
theorem fx_mb1 (M : MS) (j : Nat) : fxM M (mb1 M j) := by
  unfold mb1
  split
  · exact fxM.rf M
  · split
    · split
      · exact fxM.rf M
      · split
        · exact ⟨rfl, rfl, rfl⟩
        · exact fxM.rf M
    · split
      · exact fx_mEt M j
      · exact fxM.rf M
theorem fx_mbTo (c : Int32) (M : MS) : ∀ i, fxM M (mbTo c M i).2
  | 0 => fxM.rf M
  | i + 1 => (fx_mbTo c M i).tr (fx_mb1 _ i)
theorem fx_mdTo (M : MS) : ∀ t, fxM M (mdTo M t).2
  | 0 => fxM.rf M
  | t + 1 => ((fx_mdTo M t).tr (B := (mdTo M t).2) (C := mDay (mdTo M t).2) ⟨rfl, rfl, rfl⟩).tr (fx_mbTo _ _ _)
theorem mIn_nI {d : Int32} (h : ¬ mIn d 1 100 = 0) : d = nI d.toNatClampNeg ∧ d.toNatClampNeg ≤ 100 := by
  obtain ⟨a, b⟩ := mIn_0 h
  rw [i_lt] at a b
  have h1 : (1 : Int32).toInt = 1 := rfl
  have h2 : (100 : Int32).toInt = 100 := rfl
  obtain ⟨j, hj, rfl⟩ := nI_of (x := d) (by rw [i_lt]; have : (0 : Int32).toInt = 0 := rfl; omega)
  rw [nI_toInt hj] at b
  rw [nI_clamp hj]
  exact ⟨rfl, by omega⟩
/-- a lot's place, or -1 -/
def oI (o : Option Nat) : Int32 := match o with
  | none => -1
  | some b => nI b
def mnS (M : MS) (o : Option Nat) (i : Nat) : Option Nat := match o with
  | none => some i
  | some b => if 0 < lg_cmp (ms_pah M i * Int32.toInt64 (ms_prh M b)) (ms_pah M b * Int32.toInt64 (ms_prh M i)) then some b else some i
def mnTo (M : MS) (cu : Int32) : Nat → Option Nat
  | 0 => none
  | i + 1 => if mNoM M i cu = 0 then mnTo M cu i else if ms_dn M i = 0 then mnS M (mnTo M cu i) i else mnTo M cu i
section MN
variable {M : MS} {cu : Int32} {i b : Nat}
theorem mn_0 (h : mNoM M i cu = 0) : mnTo M cu (i + 1) = mnTo M cu i := by rw [mnTo, if_pos h]
theorem mn_1 (h : ¬ mNoM M i cu = 0) (g : ¬ ms_dn M i = 0) : mnTo M cu (i + 1) = mnTo M cu i := by rw [mnTo, if_neg h, if_neg g]
theorem mn_2 (h : ¬ mNoM M i cu = 0) (g : ms_dn M i = 0) (k : mnTo M cu i = none) : mnTo M cu (i + 1) = some i := by rw [mnTo, if_neg h, if_pos g, k]; rfl
theorem mn_3 (h : ¬ mNoM M i cu = 0) (g : ms_dn M i = 0) (k : mnTo M cu i = some b) (x : 0 < lg_cmp (ms_pah M i * Int32.toInt64 (ms_prh M b)) (ms_pah M b * Int32.toInt64 (ms_prh M i))) : mnTo M cu (i + 1) = some b := by rw [mnTo, if_neg h, if_pos g, k]; exact if_pos x
theorem mn_4 (h : ¬ mNoM M i cu = 0) (g : ms_dn M i = 0) (k : mnTo M cu i = some b) (x : ¬ 0 < lg_cmp (ms_pah M i * Int32.toInt64 (ms_prh M b)) (ms_pah M b * Int32.toInt64 (ms_prh M i))) : mnTo M cu (i + 1) = some i := by rw [mnTo, if_neg h, if_pos g, k]; exact if_neg x
theorem mnTo_lt : ∀ {i b : Nat}, mnTo M cu i = some b → b < i
  | 0, b, h => by cases h
  | i + 1, b, h => by
    by_cases h1 : mNoM M i cu = 0
    · rw [mn_0 h1] at h; have := mnTo_lt h; omega
    · by_cases h2 : ms_dn M i = 0
      · rcases opt_c (mnTo M cu i) with k | ⟨b2, k⟩
        · rw [mn_2 h1 h2 k] at h; cases h; omega
        · by_cases x : 0 < lg_cmp (ms_pah M i * Int32.toInt64 (ms_prh M b2)) (ms_pah M b2 * Int32.toInt64 (ms_prh M i))
          · rw [mn_3 h1 h2 k x] at h; cases h; have := mnTo_lt k; omega
          · rw [mn_4 h1 h2 k x] at h; cases h; omega
      · rw [mn_1 h1 h2] at h; have := mnTo_lt h; omega
theorem nI_neg1 {b : Nat} (h : b < 40) : ¬ nI b = -1 := fun q => by
  have h1 := nI_toInt (n := b) (by omega)
  rw [q] at h1
  have h2 : (-1 : Int32).toInt = -1 := rfl
  omega
end MN
def mfTo (M : MS) (cu : Int32) : Nat → Int32
  | 0 => 0
  | i + 1 => mfTo M cu i + (if mNoM M i cu = 0 then 0 else ms_pr M i - ms_fz M i)
theorem mf_0 {M : MS} {cu : Int32} {i : Nat} (h : mNoM M i cu = 0) : mfTo M cu (i + 1) = mfTo M cu i + 0 := by rw [mfTo, if_pos h]
theorem mf_1 {M : MS} {cu : Int32} {i : Nat} (h : ¬ mNoM M i cu = 0) : mfTo M cu (i + 1) = mfTo M cu i + (ms_pr M i - ms_fz M i) := by rw [mfTo, if_neg h]
def kEa (M : MS) (cu c : Int32) : Int32 := if mCu cu = 0 then 1 else if mIn c 1 100000000 = 0 then 2 else if c ≤ mfTo M cu (ms_n M) then 0 else 3
def mqD (M : MS) : Nat → Nat → Int32
  | 0 => ms_dn M
  | i + 1 => upd (mqD M i) i (0 &&& 1)
def mqP (M : MS) : Nat → Nat → Int64
  | 0 => ms_pah M
  | i + 1 => vp_updL (mqP M i) i (if ms_th M i = 0 then 0 else mPn M i)
def mqR (M : MS) : Nat → Nat → Int32
  | 0 => ms_prh M
  | i + 1 => upd (mqR M i) i (ms_pr M i)
theorem mqP_0 {M : MS} {i : Nat} (h : ms_th M i = 0) : mqP M (i + 1) = vp_updL (mqP M i) i 0 := by rw [mqP, if_pos h]
theorem mqP_1 {M : MS} {i : Nat} (h : ¬ ms_th M i = 0) : mqP M (i + 1) = vp_updL (mqP M i) i (mPn M i) := by rw [mqP, if_neg h]
abbrev mqM (M : MS) (i : Nat) : MS := ms_set_prh (ms_set_pah (ms_set_dn M (mqD M i)) (mqP M i)) (mqR M i)
def mCan (M : MS) (j : Nat) : Int32 := ms_pr M j - ms_fz M j
def meTk (lf : Int32) (M : MS) (j : Nat) : Int32 := if lf ≤ mCan M j then lf else mCan M j
def meL1 (M : MS) (j : Nat) (t : Int32) : Int64 := 30 * ms_pah M j * Int32.toInt64 t / Int32.toInt64 (ms_prh M j)
def meL (M : MS) (j : Nat) (t : Int32) : Int64 := if lg_cmp (meL1 M j t) (ms_ea M j) ≤ 0 then meL1 M j t else ms_ea M j
def me1 (M : MS) (j : Nat) (x : Int64) : MS := ms_set_ea M (vp_updL (ms_ea M) j (ms_ea M j - x))
def me2 (M : MS) (cu : Int32) (x : Int64) : MS := ms_set_lost M (vp_updL (ms_lost M) cu.toNatClampNeg (ms_lost M cu.toNatClampNeg + x))
def me3 (M : MS) (j : Nat) (t : Int32) : MS := ms_set_pr M (upd (ms_pr M) j (ms_pr M j - t))
def me4 (M : MS) (j : Nat) : MS := ms_set_dn M (upd (ms_dn M) j (1 &&& 1))
def mE1 (M : MS) (cu : Int32) (j : Nat) (t : Int32) : MS := me4 (me3 (me2 (me1 M j (meL M j t)) cu (meL M j t)) j t) j
def mE2 (M : MS) (j : Nat) : MS := if ms_pr M j = 0 then mEn M j else M
def mE2c (v : Int32) (M : MS) (j : Nat) : Int32 := if ms_pr M j = 0 then v + mTiC M j else v
def mErTo (M : MS) (cu c : Int32) : Nat → Int32 × Int32 × MS
  | 0 => (c, c, M)
  | i + 1 => if (mErTo M cu c i).1 ≤ 0 then mErTo M cu c i else match mnTo (mErTo M cu c i).2.2 cu (ms_n M) with
    | none => mErTo M cu c i
    | some j => ((mErTo M cu c i).1 - meTk (mErTo M cu c i).1 (mErTo M cu c i).2.2 j, mE2c (mErTo M cu c i).2.1 (mE1 (mErTo M cu c i).2.2 cu j (meTk (mErTo M cu c i).1 (mErTo M cu c i).2.2 j)) j, mE2 (mE1 (mErTo M cu c i).2.2 cu j (meTk (mErTo M cu c i).1 (mErTo M cu c i).2.2 j)) j)
theorem mer_0 {M : MS} {cu c : Int32} {i : Nat} (h : (mErTo M cu c i).1 ≤ 0) : mErTo M cu c (i + 1) = mErTo M cu c i := by rw [mErTo, if_pos h]
theorem mer_n {M : MS} {cu c : Int32} {i : Nat} (h : ¬ (mErTo M cu c i).1 ≤ 0) (g : mnTo (mErTo M cu c i).2.2 cu (ms_n M) = none) : mErTo M cu c (i + 1) = mErTo M cu c i := by rw [mErTo, if_neg h, g]
theorem mer_s {M : MS} {cu c : Int32} {i j : Nat} (h : ¬ (mErTo M cu c i).1 ≤ 0) (g : mnTo (mErTo M cu c i).2.2 cu (ms_n M) = some j) : mErTo M cu c (i + 1) = ((mErTo M cu c i).1 - meTk (mErTo M cu c i).1 (mErTo M cu c i).2.2 j, mE2c (mErTo M cu c i).2.1 (mE1 (mErTo M cu c i).2.2 cu j (meTk (mErTo M cu c i).1 (mErTo M cu c i).2.2 j)) j, mE2 (mE1 (mErTo M cu c i).2.2 cu j (meTk (mErTo M cu c i).1 (mErTo M cu c i).2.2 j)) j) := by rw [mErTo, if_neg h, g]
theorem mer_stuck {M : MS} {cu c : Int32} {i : Nat} (h : (mErTo M cu c i).1 ≤ 0) : ∀ k, mErTo M cu c (i + k) = mErTo M cu c i
  | 0 => rfl
  | k + 1 => by
    have e := mer_stuck h k
    rw [← e] at h
    exact (mer_0 h).trans e
theorem mer_end {M : MS} {cu c : Int32} {i n : Nat} (h : (mErTo M cu c i).1 ≤ 0) (hi : i ≤ n) : mErTo M cu c n = mErTo M cu c i := by
  have := mer_stuck h (n - i)
  rwa [show i + (n - i) = n by omega] at this
theorem fx_mE2 (M : MS) (j : Nat) : fxM M (mE2 M j) := by
  unfold mE2
  split
  · exact ⟨rfl, rfl, rfl⟩
  · exact fxM.rf M
theorem fx_mer (M : MS) (cu c : Int32) : ∀ i, fxM M (mErTo M cu c i).2.2
  | 0 => fxM.rf M
  | i + 1 => by
    by_cases h : (mErTo M cu c i).1 ≤ 0
    · rw [mer_0 h]; exact fx_mer M cu c i
    · rcases opt_c (mnTo (mErTo M cu c i).2.2 cu (ms_n M)) with g | ⟨j, g⟩
      · rw [mer_n h g]; exact fx_mer M cu c i
      · rw [mer_s h g]
        refine (fx_mer M cu c i).tr ?_
        exact fxM.tr (B := mE1 (mErTo M cu c i).2.2 cu j (meTk (mErTo M cu c i).1 (mErTo M cu c i).2.2 j)) ⟨rfl, rfl, rfl⟩ (fx_mE2 _ j)
/-- what the loop over the rounds of early money asks -/
def erOk (M : MS) (cu c : Int32) : Prop := (∀ i, ¬ (mErTo M cu c i).1 ≤ 0 → ∃ j, mnTo (mErTo M cu c i).2.2 cu (ms_n M) = some j ∧ ¬ Int32.toInt64 (ms_prh (mErTo M cu c i).2.2 j) = 0) ∧ (mErTo M cu c (ms_n M)).1 ≤ 0
def mEaM (M : MS) : MS := mqM (mT0 M) (ms_n M)
theorem mPn_1 (M : MS) (d : Nat → Int32) (j : Nat) : mPn (ms_set_dn M d) j = mPn M j := rfl
theorem mPn_2 (M : MS) (d : Nat → Int64) (j : Nat) : mPn (ms_set_pah M d) j = mPn M j := rfl
theorem mPn_3 (M : MS) (d : Nat → Int32) (j : Nat) : mPn (ms_set_prh M d) j = mPn M j := rfl
theorem okM_1 {M : MS} (d : Nat → Int32) (h : okM M) : okM (ms_set_dn M d) := h
theorem okM_2 {M : MS} (d : Nat → Int64) (h : okM M) : okM (ms_set_pah M d) := h
theorem okM_3 {M : MS} (d : Nat → Int32) (h : okM M) : okM (ms_set_prh M d) := h
theorem okM_4 {M : MS} (d : Int32) (h : okM M) : okM (ms_set_thr M d) := h
theorem okM_q {M : MS} (i : Nat) (h : okM M) : okM (mqM M i) := okM_3 _ (okM_2 _ (okM_1 _ h))
def mq1 (M : MS) (i : Nat) : MS := ms_set_dn (mqM M i) (upd (mqD M i) i (0 &&& 1))
theorem mq1_e (M : MS) (i : Nat) : ms_set_dn (mqM M i) (upd (ms_dn (mqM M i)) i (0 &&& 1)) = mq1 M i := rfl
theorem okM_q1 {M : MS} (i : Nat) (h : okM M) : okM (mq1 M i) := okM_1 _ (okM_q i h)
theorem mPn_q (M : MS) (i j : Nat) : mPn (mqM M i) j = mPn M j := (mPn_3 _ _ _).trans ((mPn_2 _ _ _).trans (mPn_1 _ _ _))
theorem mPn_q1 (M : MS) (i j : Nat) : mPn (mq1 M i) j = mPn M j := (mPn_1 _ _ _).trans (mPn_q M i j)
theorem th_1 (M : MS) (d : Nat → Int32) : ms_th (ms_set_dn M d) = ms_th M := rfl
theorem th_2 (M : MS) (d : Nat → Int64) : ms_th (ms_set_pah M d) = ms_th M := rfl
theorem th_3 (M : MS) (d : Nat → Int32) : ms_th (ms_set_prh M d) = ms_th M := rfl
theorem pr_1 (M : MS) (d : Nat → Int32) : ms_pr (ms_set_dn M d) = ms_pr M := rfl
theorem pr_2 (M : MS) (d : Nat → Int64) : ms_pr (ms_set_pah M d) = ms_pr M := rfl
theorem pr_3 (M : MS) (d : Nat → Int32) : ms_pr (ms_set_prh M d) = ms_pr M := rfl
theorem prh_1 (M : MS) (d : Nat → Int32) : ms_prh (ms_set_dn M d) = ms_prh M := rfl
theorem prh_2 (M : MS) (d : Nat → Int64) : ms_prh (ms_set_pah M d) = ms_prh M := rfl
theorem prh_3 (M : MS) (d : Nat → Int32) : ms_prh (ms_set_prh M d) = d := rfl
theorem pah_1 (M : MS) (d : Nat → Int32) : ms_pah (ms_set_dn M d) = ms_pah M := rfl
theorem pah_2 (M : MS) (d : Nat → Int64) : ms_pah (ms_set_pah M d) = d := rfl
theorem pah_3 (M : MS) (d : Nat → Int32) : ms_pah (ms_set_prh M d) = ms_pah M := rfl
theorem ow_1 (M : MS) (d : Nat → Int32) : ms_ow (ms_set_dn M d) = ms_ow M := rfl
theorem ow_2 (M : MS) (d : Nat → Int64) : ms_ow (ms_set_ea M d) = ms_ow M := rfl
theorem ow_3 (M : MS) (d : Nat → Int64) : ms_ow (ms_set_lost M d) = ms_ow M := rfl
theorem ow_4 (M : MS) (d : Nat → Int32) : ms_ow (ms_set_pr M d) = ms_ow M := rfl
theorem ow_e1 (M : MS) (cu : Int32) (j : Nat) (t : Int32) : ms_ow (mE1 M cu j t) = ms_ow M := by
  rw [mE1, me4, ow_1, me3, ow_4, me2, ow_3, me1, ow_2]
theorem th_q1 (M : MS) (i : Nat) : ms_th (mq1 M i) = ms_th M := by
  rw [mq1, th_1, mqM, th_3, th_2, th_1]
theorem pah_q1 (M : MS) (i : Nat) : ms_pah (mq1 M i) = mqP M i := by
  rw [mq1, pah_1, mqM, pah_3, pah_2]
def mq2 (M : MS) (i : Nat) : MS := ms_set_pah (mq1 M i) (mqP M (i + 1))
theorem mq2_0 {M : MS} {i : Nat} (h : ms_th (mq1 M i) i = 0) : ms_set_pah (mq1 M i) (vp_updL (ms_pah (mq1 M i)) i 0) = mq2 M i := by
  rw [th_q1] at h
  rw [mq2, mqP_0 h, pah_q1]
theorem mq2_1 {M : MS} {i : Nat} (h : ¬ ms_th (mq1 M i) i = 0) : ms_set_pah (mq1 M i) (vp_updL (ms_pah (mq1 M i)) i (mPn (mq1 M i) i)) = mq2 M i := by
  rw [th_q1] at h
  rw [mq2, mqP_1 h, pah_q1, mPn_q1]
theorem mqw {M : MS} {d d2 r r2 : Nat → Int32} {p p2 : Nat → Int64} : ms_set_prh (ms_set_pah (ms_set_dn (ms_set_prh (ms_set_pah (ms_set_dn M d) p) r) d2) p2) r2 = ms_set_prh (ms_set_pah (ms_set_dn M d2) p2) r2 := by
  obtain ⟨m1, m2, m3, m4, m5, m6, m7, m8, m9, m10, m11, m12, m13, m14, m15, m16, m17, m18, m19, m20, m21, m22, m23⟩ := M
  simp only [ms_set_prh, ms_set_pah, ms_set_dn]
theorem prh_q2 (M : MS) (i : Nat) : ms_prh (mq2 M i) = mqR M i := by
  rw [mq2, prh_2, mq1, prh_1, mqM, prh_3]
theorem pr_q2 (M : MS) (i : Nat) : ms_pr (mq2 M i) = ms_pr M := by
  rw [mq2, pr_2, mq1, pr_1, mqM, pr_3, pr_2, pr_1]
theorem mq3 (M : MS) (i : Nat) : ms_set_prh (mq2 M i) (upd (ms_prh (mq2 M i)) i (ms_pr (mq2 M i) i)) = mqM M (i + 1) := by
  rw [prh_q2, pr_q2]
  exact mqw
section GJ
variable {p : Program} {l : Launch} {e : Env} {R : Room} {s : State} {m : MethodId} {args : Array Value} {below : List Frame} {meth : Method} {c : Code} {D : va_G} {N0 mL : Nat} {Q : State → Prop} {w : va_W} {k n pc : Nat} {lo : List (Nat × Value)} {st : List Value}
theorem go_join (w2 : va_W) (pc2 : Nat) (lo2 : List (Nat × Value)) (st2 : List Value) (g : Go p l e R s m args below meth c D N0 mL Q (w2) (k) (n) (pc2) (lo2) (st2)) (h : Go p l e R s m args below meth c D N0 mL Q (w2) (k) (n) (pc2) (lo2) (st2) → Go p l e R s m args below meth c D N0 mL Q (w) (k) (n) (pc) (lo) (st)) : Go p l e R s m args below meth c D N0 mL Q (w) (k) (n) (pc) (lo) (st) := h g
end GJ
