/-! what the law's own methods do, as functions of its arrays -/
theorem vin_0_4 : vp_in 0 4 := vp_in_nI (n := 0) (by decide) (by decide)
theorem vin_1_4 : vp_in 1 4 := vp_in_nI (n := 1) (by decide) (by decide)
theorem vin_2_4 : vp_in 2 4 := vp_in_nI (n := 2) (by decide) (by decide)
theorem vin_3_4 : vp_in 3 4 := vp_in_nI (n := 3) (by decide) (by decide)
theorem ck_0 : (0 : Int32).toNatClampNeg = 0 := rfl
theorem ck_1 : (1 : Int32).toNatClampNeg = 1 := rfl
theorem ck_2 : (2 : Int32).toNatClampNeg = 2 := rfl
theorem ck_3 : (3 : Int32).toNatClampNeg = 3 := rfl
/-- how many lots the law has made -/
def lK (M : LWS) : Nat := (ls_n M 0).toNatClampNeg
def okL (M : LWS) : Prop := ls_n M 0 = nI (lK M) ∧ lK M ≤ 20
def lTot (c p : Nat → Int32) (cu : Int32) : Nat → Int32
  | 0 => 0
  | i + 1 => lTot c p cu i + (if c i = cu then (if p i ≤ 0 then 0 else p i) else 0)
theorem lTot_0 {c p : Nat → Int32} {cu : Int32} {i : Nat} (h : ¬ c i = cu) : lTot c p cu i + 0 = lTot c p cu (i + 1) := by rw [lTot, if_neg h]
theorem lTot_1 {c p : Nat → Int32} {cu : Int32} {i : Nat} (h : c i = cu) (g : p i ≤ 0) : lTot c p cu i + 0 = lTot c p cu (i + 1) := by rw [lTot, if_pos h, if_pos g]
theorem lTot_2 {c p : Nat → Int32} {cu : Int32} {i : Nat} (h : c i = cu) (g : ¬ p i ≤ 0) : lTot c p cu i + p i = lTot c p cu (i + 1) := by rw [lTot, if_pos h, if_neg g]
def wiB (x lo : Int64) : Int64 := if lg_cmp x lo ≤ 0 then lo else x
def wiE (y hi : Int64) : Int64 := if 0 ≤ lg_cmp y hi then hi else y
def lWi (x y lo hi : Int64) : Int64 := if lg_cmp (wiE y hi) (wiB x lo) ≤ 0 then 0 else wiE y hi - wiB x lo
def lRt (q : Nat → Int32) (z : Int32) : Int32 := if z ≤ 1000000 then (if z ≤ 100000 then q 0 else q 1) else q 2
def lBe (c p : Nat → Int32) (cu : Int32) : Nat → Int64
  | 0 => 0
  | i + 1 => lBe c p cu i + (if c i = cu then Int32.toInt64 (p i) else 0)
theorem lBe_0 {c p : Nat → Int32} {cu : Int32} {i : Nat} (h : ¬ c i = cu) : lBe c p cu i + 0 = lBe c p cu (i + 1) := by rw [lBe, if_neg h]
theorem lBe_1 {c p : Nat → Int32} {cu : Int32} {i : Nat} (h : c i = cu) : lBe c p cu i + Int32.toInt64 (p i) = lBe c p cu (i + 1) := by rw [lBe, if_pos h]
def lPb (q : Nat → Int32) (x y : Int64) : Int64 := lWi x y 0 100000 * Int32.toInt64 (q 0) + lWi x y 100000 1000000 * Int32.toInt64 (q 1) + lWi x y 1000000 9000000000 * Int32.toInt64 (q 2)
def lPa (M : LWS) (j : Nat) : Int64 := if ls_c M j < 10 then (if ls_n M 2 = 0 then Int32.toInt64 (ls_p M j) * Int32.toInt64 (lRt (ls_q M) (lTot (ls_c M) (ls_p M) (ls_c M j) (lK M))) else lPb (ls_q M) (lBe (ls_c M) (ls_p M) (ls_c M j) j) (lBe (ls_c M) (ls_p M) (ls_c M j) j + Int32.toInt64 (ls_p M j))) else ls_w M j
/-- whose a lot is -/
def lOw (M : LWS) (j : Nat) : Int32 := ls_c M j - ls_c M j / 10 * 10
def lEnC (M : LWS) (j : Nat) : Int32 := Int64.toInt32 (ls_e M j / 3650000)
def lEn1 (M : LWS) (j : Nat) : LWS := ls_set_g M (vp_updL (ls_g M) (lOw M j).toNatClampNeg (ls_g M (lOw M j).toNatClampNeg + Int32.toInt64 (lEnC M j)))
def lEn2 (M : LWS) (j : Nat) : LWS := ls_set_g M (vp_updL (ls_g M) (4 + lOw M j).toNatClampNeg (ls_g M (4 + lOw M j).toNatClampNeg + (ls_e M j - ls_e M j / 3650000 * 3650000)))
def lEn3 (M : LWS) (j : Nat) : LWS := ls_set_p M (upd (ls_p M) j 0)
def lEn4 (M : LWS) (j : Nat) : LWS := ls_set_e M (vp_updL (ls_e M) j 0)
def lEn (M : LWS) (j : Nat) : LWS := lEn4 (lEn3 (lEn2 (lEn1 M j) j) j) j
theorem lEn2_e (M : LWS) (j : Nat) : ls_set_g (lEn1 M j) (vp_updL (ls_g (lEn1 M j)) (4 + lOw M j).toNatClampNeg (ls_g (lEn1 M j) (4 + lOw M j).toNatClampNeg + (ls_e (lEn1 M j) j - ls_e (lEn1 M j) j / 3650000 * 3650000))) = lEn2 (lEn1 M j) j := rfl
theorem vin_48 {z : Int32} (h : vp_in z 4) : vp_in (4 + z) 8 := by
  obtain ⟨j, hj, rfl⟩ := vp_in_of h (by decide)
  rw [show (4 : Int32) = nI 4 from rfl, nI_add]
  exact vp_in_nI (by omega) (by decide)
theorem vin_8 {z : Int32} (h : vp_in z 4) : vp_in z 8 := by
  obtain ⟨j, hj, rfl⟩ := vp_in_of h (by decide)
  exact vp_in_nI (by omega) (by decide)
theorem i3m (j : Nat) : 3 * nI j = nI (3 * j) := by
  induction j with
  | zero => decide
  | succ j ih => rw [show 3 * (j + 1) = 3 * j + 3 from by omega, ← nI_add (3 * j) 3, ← ih, ← nI_add j 1, Int32.mul_add]; rfl
