/-! days that pass, in the law's arrays -/
def lEa (M : LWS) : Nat → Nat → Int64
  | 0 => ls_e M
  | i + 1 => vp_updL (lEa M i) i (lEa M i i + (if ls_p M i ≤ 0 then 0 else lPa M i))
def lNow (M : LWS) : LWS := ls_set_n M (upd (ls_n M) 1 (ls_n M 1 + 1))
def lFv (M : LWS) (j : Nat) : Int32 := if 10 ≤ ls_c M j then ls_f M j else if ls_f M j ≤ 0 then ls_f M j else if ls_t M j + 39 = ls_n M 1 then 0 else ls_f M j
def lLa (M : LWS) (j : Nat) : LWS := ls_set_f M (upd (ls_f M) j (lFv M j))
def lEp (M : LWS) (j : Nat) : LWS := ls_set_g M (vp_updL (ls_g M) (lOw M j).toNatClampNeg (ls_g M (lOw M j).toNatClampNeg + Int32.toInt64 (ls_p M j)))
def lEr1 (M : LWS) (j : Nat) : LWS := ls_set_e M (vp_updL (ls_e M) j (ls_e M j - Int32.toInt64 (lEnC M j) * 3650000))
def lEr2 (M : LWS) (j : Nat) (v : Int32) : LWS := ls_set_g M (vp_updL (ls_g M) (lOw M j).toNatClampNeg (ls_g M (lOw M j).toNatClampNeg + (if ls_d M (3 * j + 1) = 1 then Int32.toInt64 v else 0)))
def lEr3 (M : LWS) (j : Nat) (v : Int32) : LWS := ls_set_p M (upd (ls_p M) j (ls_p M j + (if ls_d M (3 * j + 1) = 2 then v else 0)))
def lEr4 (M : LWS) (j : Nat) : LWS := ls_set_t M (upd (ls_t M) j (ls_n M 1 + ls_d M (3 * j)))
def lEr5 (M : LWS) (j : Nat) : LWS := ls_set_d M (upd (ls_d M) (3 * j + 2) (ls_n M 1))
def lEr6 (M : LWS) (j : Nat) : LWS := ls_set_w M (vp_updL (ls_w M) j (Int32.toInt64 (ls_p M j) * Int32.toInt64 (ls_n M 3)))
def lEr (M : LWS) (j : Nat) : LWS := lEr6 (lEr5 (lEr4 (lEr3 (lEr2 (lEr1 M j) j (lEnC M j)) j (lEnC M j)) j) j) j
def lEt (M : LWS) (j : Nat) : LWS := if ls_d M (3 * j + 1) = 0 then lEn (lEp M j) j else lEr M j
def lDs (M : LWS) (j : Nat) : LWS := if ls_p M j ≤ 0 then M else if ls_c M j < 10 then M else if ls_t M j = ls_n M 1 then lEt M j else M
def lDc (c : Int32) (M : LWS) (j : Nat) : Int32 := if ls_p M j ≤ 0 then c else if ls_c M j < 10 then c else if ls_t M j = ls_n M 1 then c + 1 else c
def lDa (c : Int32) (M : LWS) : Nat → Int32 × LWS
  | 0 => (c, M)
  | i + 1 => (lDc (lDa c M i).1 (lLa (lDa c M i).2 i) i, lDs (lLa (lDa c M i).2 i) i)
def lDy (M : LWS) : LWS := lNow (ls_set_e M (lEa M (lK M)))
def lPs (M : LWS) : Nat → Int32 × LWS
  | 0 => (0, M)
  | t + 1 => lDa (lPs M t).1 (lDy (lPs M t).2) (lK (lPs M t).2)
theorem lPa_e (M : LWS) (f : Nat → Int64) (j : Nat) : lPa (ls_set_e M f) j = lPa M j := rfl
theorem lEa_0 {M : LWS} {i : Nat} (h : ls_p (ls_set_e M (lEa M i)) i ≤ 0) : ls_set_e (ls_set_e M (lEa M i)) (vp_updL (ls_e (ls_set_e M (lEa M i))) i (ls_e (ls_set_e M (lEa M i)) i + 0)) = ls_set_e M (lEa M (i + 1)) := by
  show ls_set_e M (vp_updL (lEa M i) i (lEa M i i + 0)) = ls_set_e M (vp_updL (lEa M i) i (lEa M i i + (if ls_p M i ≤ 0 then 0 else lPa M i)))
  rw [if_pos (show ls_p M i ≤ 0 from h)]
theorem lEa_1 {M : LWS} {i : Nat} (h : ¬ ls_p (ls_set_e M (lEa M i)) i ≤ 0) : ls_set_e (ls_set_e M (lEa M i)) (vp_updL (ls_e (ls_set_e M (lEa M i))) i (ls_e (ls_set_e M (lEa M i)) i + lPa (ls_set_e M (lEa M i)) i)) = ls_set_e M (lEa M (i + 1)) := by
  rw [lPa_e]
  show ls_set_e M (vp_updL (lEa M i) i (lEa M i i + lPa M i)) = ls_set_e M (vp_updL (lEa M i) i (lEa M i i + (if ls_p M i ≤ 0 then 0 else lPa M i)))
  rw [if_neg (show ¬ ls_p M i ≤ 0 from h)]
/-- what the walk over the lots of a day leaves alone -/
def fxL (A B : LWS) : Prop := ls_n B = ls_n A ∧ ls_c B = ls_c A ∧ ls_q B = ls_q A
theorem fxL.rf (A : LWS) : fxL A A := ⟨rfl, rfl, rfl⟩
theorem fxL.tr {A B C : LWS} (h : fxL A B) (g : fxL B C) : fxL A C := ⟨g.1.trans h.1, g.2.1.trans h.2.1, g.2.2.trans h.2.2⟩
theorem fx_lLa (M : LWS) (j : Nat) : fxL M (lLa M j) := ⟨rfl, rfl, rfl⟩
theorem fx_lEt (M : LWS) (j : Nat) : fxL M (lEt M j) := by
  unfold lEt
  split
  · exact ⟨rfl, rfl, rfl⟩
  · exact ⟨rfl, rfl, rfl⟩
theorem fx_lDs (M : LWS) (j : Nat) : fxL M (lDs M j) := by
  unfold lDs
  split
  · exact fxL.rf M
  · split
    · exact fxL.rf M
    · split
      · exact fx_lEt M j
      · exact fxL.rf M
theorem fx_lDa (c : Int32) (M : LWS) : ∀ i, fxL M (lDa c M i).2
  | 0 => fxL.rf M
  | i + 1 => ((fx_lDa c M i).tr (fx_lLa _ i)).tr (fx_lDs _ i)
theorem lDy_n0 (M : LWS) : ls_n (lDy M) 0 = ls_n M 0 := rfl
theorem lDy_c (M : LWS) : ls_c (lDy M) = ls_c M := rfl
theorem lPs_n0 (M : LWS) : ∀ t, ls_n (lPs M t).2 0 = ls_n M 0 ∧ ls_c (lPs M t).2 = ls_c M
  | 0 => ⟨rfl, rfl⟩
  | t + 1 => by
    have h := fx_lDa (lPs M t).1 (lDy (lPs M t).2) (lK (lPs M t).2)
    have g := lPs_n0 M t
    exact ⟨(congrFun h.1 0).trans g.1, h.2.1.trans g.2⟩
theorem lK_of {A B : LWS} (h : ls_n B 0 = ls_n A 0) : lK B = lK A := by unfold lK; rw [h]
theorem okL_of {A B : LWS} (h : ls_n B 0 = ls_n A 0) (k : okL A) : okL B := by
  unfold okL
  rw [lK_of h, h]
  exact k
/-- each lot made so far is a customer's -/
def okO (M : LWS) : Prop := ∀ j, j < lK M → vp_in (lOw M j) 4
theorem okO_of {A B : LWS} (h : ls_n B 0 = ls_n A 0) (g : ls_c B = ls_c A) (k : okO A) : okO B := by
  unfold okO lOw
  rw [lK_of h, g]
  exact k
theorem ow_of {A B : LWS} {j : Nat} (g : ls_c B = ls_c A) (k : vp_in (lOw A j) 4) : vp_in (lOw B j) 4 := by
  unfold lOw
  rw [g]
  exact k
theorem lDs_e {M : LWS} {j : Nat} (h : ¬ ls_p M j ≤ 0) (g : ¬ ls_c M j < 10) (k : ls_t M j = ls_n M 1) : lDs M j = lEt M j := by rw [lDs, if_neg h, if_neg g, if_pos k]
theorem lEt_0 {M : LWS} {j : Nat} (h : ls_d M (3 * j + 1) = 0) : lEt M j = lEn (lEp M j) j := by rw [lEt, if_pos h]
theorem lEt_1 {M : LWS} {j : Nat} (h : ¬ ls_d M (3 * j + 1) = 0) : lEt M j = lEr M j := by rw [lEt, if_neg h]
