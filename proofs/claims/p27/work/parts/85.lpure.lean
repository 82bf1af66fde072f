/-! early money, in the law's arrays: a row of lots sorted ahead, then one after the other -/
theorem upd_nI (r : Nat → Nat) (k v : Nat) : upd (fun i => nI (r i)) k (nI v) = fun i => nI (va_up r k v i) := funext fun i => by
  by_cases h : i = k
  · subst h; simp [upd, va_up]
  · simp [upd, va_up, h]
theorem nI_m1 (x : Int32) : x + -1 = x - 1 := (Int32.sub_eq_add_neg x 1).symm
def shf (P : Nat → Int64) (F : Nat → Int32) (j : Nat) : Nat → (Nat → Nat) → Nat × (Nat → Nat)
  | 0, r => (0, r)
  | pl + 1, r => if 0 ≤ lg_cmp (P j * Int32.toInt64 (F (r pl))) (P (r pl) * Int32.toInt64 (F j)) then (pl + 1, r) else shf P F j pl (va_up r (pl + 1) (r pl))
theorem shf_0 {P : Nat → Int64} {F : Nat → Int32} {j pl : Nat} {r : Nat → Nat} (h : 0 ≤ lg_cmp (P j * Int32.toInt64 (F (r pl))) (P (r pl) * Int32.toInt64 (F j))) : shf P F j (pl + 1) r = (pl + 1, r) := by rw [shf, if_pos h]
theorem shf_1 {P : Nat → Int64} {F : Nat → Int32} {j pl : Nat} {r : Nat → Nat} (h : ¬ 0 ≤ lg_cmp (P j * Int32.toInt64 (F (r pl))) (P (r pl) * Int32.toInt64 (F j))) : shf P F j (pl + 1) r = shf P F j pl (va_up r (pl + 1) (r pl)) := by rw [shf, if_neg h]
theorem shf_le {P : Nat → Int64} {F : Nat → Int32} {j : Nat} : ∀ (pl : Nat) (r : Nat → Nat), (shf P F j pl r).1 ≤ pl
  | 0, _ => Nat.le_refl 0
  | pl + 1, r => by
    by_cases h : 0 ≤ lg_cmp (P j * Int32.toInt64 (F (r pl))) (P (r pl) * Int32.toInt64 (F j))
    · rw [shf_0 h]; exact Nat.le_refl _
    · rw [shf_1 h]; exact Nat.le_succ_of_le (shf_le pl _)
theorem up_lt {r : Nat → Nat} {k v N : Nat} (h : ∀ i, r i < N) (hv : v < N) : ∀ i, va_up r k v i < N := fun i => by
  by_cases e : i = k
  · subst e; rw [va_up_self]; exact hv
  · rw [va_up_ne _ _ e]; exact h i
theorem shf_r {P : Nat → Int64} {F : Nat → Int32} {j N : Nat} : ∀ (pl : Nat) (r : Nat → Nat), (∀ i, r i < N) → ∀ i, (shf P F j pl r).2 i < N
  | 0, _, h => h
  | pl + 1, r, h => by
    by_cases g : 0 ≤ lg_cmp (P j * Int32.toInt64 (F (r pl))) (P (r pl) * Int32.toInt64 (F j))
    · rw [shf_0 g]; exact h
    · rw [shf_1 g]; exact shf_r pl _ (up_lt h (h pl))
/-- what the sorting holds: how many, their parts, their principals, the row -/
abbrev SrT : Type := Nat × (Nat → Int64) × (Nat → Int32) × (Nat → Nat)
def srP (M : LWS) (j : Nat) (z : SrT) : Nat → Int64 := vp_updL z.2.1 j (lPa M j)
def srF (M : LWS) (j : Nat) (z : SrT) : Nat → Int32 := upd z.2.2.1 j (ls_p M j)
def sr1 (M : LWS) (cu : Int32) (j : Nat) (z : SrT) : SrT := if ls_c M j = cu then (if ls_p M j ≤ 0 then z else (z.1 + 1, srP M j z, srF M j z, va_up (shf (srP M j z) (srF M j z) j z.1 z.2.2.2).2 (shf (srP M j z) (srF M j z) j z.1 z.2.2.2).1 j)) else z
def srt (M : LWS) (cu : Int32) : Nat → SrT → SrT
  | 0, z => z
  | u + 1, z => srt M cu u (sr1 M cu u z)
theorem sr1_0 {M : LWS} {cu : Int32} {j : Nat} {z : SrT} (h : ¬ ls_c M j = cu) : sr1 M cu j z = z := by rw [sr1, if_neg h]
theorem sr1_1 {M : LWS} {cu : Int32} {j : Nat} {z : SrT} (h : ls_c M j = cu) (g : ls_p M j ≤ 0) : sr1 M cu j z = z := by rw [sr1, if_pos h, if_pos g]
theorem sr1_2 {M : LWS} {cu : Int32} {j : Nat} {z : SrT} (h : ls_c M j = cu) (g : ¬ ls_p M j ≤ 0) : sr1 M cu j z = (z.1 + 1, srP M j z, srF M j z, va_up (shf (srP M j z) (srF M j z) j z.1 z.2.2.2).2 (shf (srP M j z) (srF M j z) j z.1 z.2.2.2).1 j) := by rw [sr1, if_pos h, if_neg g]
def sr0 : SrT := (0, fun _ => 0, fun _ => 0, fun _ => 0)
def lSr (M : LWS) (cu : Int32) : SrT := srt M cu (lK M) sr0
def tkT (M : LWS) (lf : Int32) (j : Nat) : Int32 := if lf ≤ ls_p M j - ls_f M j then lf else ls_p M j - ls_f M j
def tkL1 (z : SrT) (j : Nat) (t : Int32) : Int64 := z.2.1 j * 30 * Int32.toInt64 t / Int32.toInt64 (z.2.2.1 j)
def tkL (z : SrT) (M : LWS) (j : Nat) (t : Int32) : Int64 := if 0 ≤ lg_cmp (tkL1 z j t) (ls_e M j) then ls_e M j else tkL1 z j t
def tk1 (M : LWS) (j : Nat) (x : Int64) : LWS := ls_set_e M (vp_updL (ls_e M) j (ls_e M j - x))
def tk2 (M : LWS) (cu : Int32) (x : Int64) : LWS := ls_set_g M (vp_updL (ls_g M) (4 + cu).toNatClampNeg (ls_g M (4 + cu).toNatClampNeg + x))
def tkM (z : SrT) (M : LWS) (cu : Int32) (j : Nat) (t : Int32) : LWS := tk2 (tk1 M j (tkL z M j t)) cu (tkL z M j t)
def tkP (M : LWS) (j : Nat) (t : Int32) : LWS := ls_set_p M (upd (ls_p M) j (ls_p M j - t))
def tkS (z : SrT) (M : LWS) (cu : Int32) (j : Nat) (t : Int32) : LWS := if t = ls_p (tkM z M cu j t) j then lEn (tkM z M cu j t) j else tkP (tkM z M cu j t) j t
def tkV (v : Int32) (z : SrT) (M : LWS) (cu : Int32) (j : Nat) (t : Int32) : Int32 := if t = ls_p (tkM z M cu j t) j then v + lEnC (tkM z M cu j t) j else v
def tkTo (z : SrT) (M : LWS) (cu ct : Int32) : Nat → Int32 × Int32 × LWS
  | 0 => (ct, ct, M)
  | k + 1 => ((tkTo z M cu ct k).1 - tkT (tkTo z M cu ct k).2.2 (tkTo z M cu ct k).1 (z.2.2.2 k), tkV (tkTo z M cu ct k).2.1 z (tkTo z M cu ct k).2.2 cu (z.2.2.2 k) (tkT (tkTo z M cu ct k).2.2 (tkTo z M cu ct k).1 (z.2.2.2 k)), tkS z (tkTo z M cu ct k).2.2 cu (z.2.2.2 k) (tkT (tkTo z M cu ct k).2.2 (tkTo z M cu ct k).1 (z.2.2.2 k)))
def tkE (M : LWS) (cu ct : Int32) : LWS := ls_set_g M (vp_updL (ls_g M) cu.toNatClampNeg (ls_g M cu.toNatClampNeg + Int32.toInt64 ct))
def lTkV (M : LWS) (cu ct : Int32) : Int32 := (tkTo (lSr M cu) M cu ct (lSr M cu).1).2.1
def lTk (M : LWS) (cu ct : Int32) : LWS := tkE (tkTo (lSr M cu) M cu ct (lSr M cu).1).2.2 cu ct
theorem fx_tkS (z : SrT) (M : LWS) (cu : Int32) (j : Nat) (t : Int32) : fxL M (tkS z M cu j t) := by
  unfold tkS
  split
  · exact ⟨rfl, rfl, rfl⟩
  · exact ⟨rfl, rfl, rfl⟩
theorem fx_tkTo (z : SrT) (M : LWS) (cu ct : Int32) : ∀ k, fxL M (tkTo z M cu ct k).2.2
  | 0 => fxL.rf M
  | k + 1 => (fx_tkTo z M cu ct k).tr (fx_tkS z _ cu _ _)
/-- the row is not longer than there are lots, it names lots, and none of those without a principal -/
def srI (M : LWS) (u : Nat) (z : SrT) : Prop := z.1 + u ≤ lK M ∧ (∀ i, z.2.2.2 i < 20) ∧ ∀ i, i < z.1 → z.2.2.2 i < lK M
/-- what the rounds ask of the row -/
def srOk (M : LWS) (cu : Int32) : Prop := (lSr M cu).1 ≤ lK M ∧ ∀ i, i < (lSr M cu).1 → (lSr M cu).2.2.2 i < lK M ∧ ¬ Int32.toInt64 ((lSr M cu).2.2.1 ((lSr M cu).2.2.2 i)) = 0
theorem tkS_1 {z : SrT} {M : LWS} {cu : Int32} {j : Nat} {t : Int32} (h : t = ls_p (tkM z M cu j t) j) : tkS z M cu j t = lEn (tkM z M cu j t) j := by rw [tkS, if_pos h]
theorem tkS_0 {z : SrT} {M : LWS} {cu : Int32} {j : Nat} {t : Int32} (h : ¬ t = ls_p (tkM z M cu j t) j) : tkS z M cu j t = tkP (tkM z M cu j t) j t := by rw [tkS, if_neg h]
theorem tkV_1 {v : Int32} {z : SrT} {M : LWS} {cu : Int32} {j : Nat} {t : Int32} (h : t = ls_p (tkM z M cu j t) j) : tkV v z M cu j t = v + lEnC (tkM z M cu j t) j := by rw [tkV, if_pos h]
theorem tkV_0 {v : Int32} {z : SrT} {M : LWS} {cu : Int32} {j : Nat} {t : Int32} (h : ¬ t = ls_p (tkM z M cu j t) j) : tkV v z M cu j t = v := by rw [tkV, if_neg h]
