/-! steps of the functions of 20.pure, and facts that the walks ask -/
theorem i_lt (a b : Int32) : a < b ↔ a.toInt < b.toInt := Int32.lt_iff_toInt_lt
theorem i_le (a b : Int32) : a ≤ b ↔ a.toInt ≤ b.toInt := Int32.le_iff_toInt_le
theorem vin_lt {z : Int32} {n : Nat} (h0 : ¬ z < 0) (h1 : z < nI n) (hn : n < 2 ^ 31) : vp_in z n := by
  rw [vp_in_iff]
  rw [i_lt] at h0 h1
  rw [nI_toInt hn] at h1
  have : (0 : Int32).toInt = 0 := rfl
  omega
theorem vin_nle {z : Int32} {n : Nat} (h0 : ¬ z < 0) (h1 : ¬ nI n ≤ z) (hn : n < 2 ^ 31) : vp_in z n := by
  refine vin_lt h0 ?_ hn
  rw [i_le] at h1
  rw [i_lt]
  omega
theorem vin_0_3 : vp_in 0 3 := vp_in_nI (n := 0) (by decide) (by decide)
theorem vin_1_3 : vp_in 1 3 := vp_in_nI (n := 1) (by decide) (by decide)
theorem vin_2_3 : vp_in 2 3 := vp_in_nI (n := 2) (by decide) (by decide)
theorem vin_0_1 : vp_in 0 1 := vp_in_nI (n := 0) (by decide) (by decide)
theorem vin_cl {z : Int32} (h0 : ¬ z < 0) (h1 : z < 40) : z.toNatClampNeg < 40 := Nat.not_le.mp fun q => (vin_lt (n := 40) h0 h1 (by decide)) (Or.inr q)
theorem opt_c {α : Type} (o : Option α) : o = none ∨ ∃ j, o = some j := by
  cases o with
  | none => exact Or.inl rfl
  | some j => exact Or.inr ⟨j, rfl⟩
theorem nz_of {z : Int32} (h : 0 < z) : ¬ Int32.toInt64 z = 0 := fun e => by
  have h1 : (Int32.toInt64 z).toInt = z.toInt := Int32.toInt_toInt64 z
  rw [e] at h1
  rw [i_lt] at h
  have h2 : (0 : Int64).toInt = 0 := rfl
  have h3 : (0 : Int32).toInt = 0 := rfl
  omega
theorem cl_nI {i : Nat} (h : i < 2 ^ 31) : (nI i).toNatClampNeg = i := nI_clamp h
theorem setLot_two (S : CS) (i : Nat) (r r2 : LR) : cs_setLot (cs_setLot S i r) i r2 = cs_setLot S i r2 := by
  show cs_set_lt S (va_up (va_up (cs_lt S) i r) i r2) = cs_set_lt S (va_up (cs_lt S) i r2)
  rw [show va_up (va_up (cs_lt S) i r) i r2 = va_up (cs_lt S) i r2 from funext fun j => by by_cases h : j = i <;> simp [va_up, h]]
theorem setLot_lt (S : CS) (i : Nat) (r : LR) : cs_lt (cs_setLot S i r) i = r := va_up_self _ _ _
theorem setLot_ne (S : CS) {i j : Nat} (r : LR) (h : j ≠ i) : cs_lt (cs_setLot S i r) j = cs_lt S j := va_up_ne _ _ h
def zLR : LR := (0, 0, 0, 0, 0, 0, 0, 0, 0, 0)
def nw1 (S : CS) (q : Nat) : CS := cs_set_nc (cs_set_la (cs_setLot S (cs_nc S) zLR) (va_up (cs_la S) (cs_nc S) q)) (cs_nc S + 1)
theorem nw1_la (S : CS) (q : Nat) : cs_la (nw1 S q) (cs_nc S) = q := va_up_self _ _ _
theorem nw1_hi (S : CS) (q : Nat) : cs_nc S < cs_nc (nw1 S q) := Nat.lt_succ_self _
def iniR (cu pr td : Int32) : LR := (cu, td, pr, 0, 0, 0, 0, -1, 0, -1)
def iniS (S : CS) (i : Nat) (cu pr td : Int32) : CS := cs_setLot S i (iniR cu pr td)
theorem nI_lt40 {n : Nat} (h : n < 40) : nI n < 40 := show nI n < nI 40 from nI_lt h (by decide)
theorem nI_nlt40 {n : Nat} (h : 40 ≤ n) (h2 : n ≤ 40) : ¬ nI n < 40 := show ¬ nI n < nI 40 from nI_nlt h (by omega)
theorem nI_npos {n : Nat} (h : n ≤ 40) : ¬ nI n < 0 := nI_pos (by omega)
theorem nI_vin {n : Nat} (h : n < 40) : vp_in (nI n) 40 := vp_in_nI h (by decide)
theorem nI_nge {i n : Nat} (h : i < n) (hn : n ≤ 40) : ¬ nI n ≤ nI i := nI_ge h (by omega)
theorem nI_ger {n : Nat} (hn : n ≤ 40) : nI n ≤ nI n := nI_le (Nat.le_refl n) (by omega)
section STEPS
variable {S : CS} {cu : Int32} {i j b : Nat}
theorem totTo_n (h : xN S (nI i) cu = none) : totTo S cu (i + 1) = totTo S cu i := by rw [totTo, h]
theorem totTo_s (h : xN S (nI i) cu = some j) : totTo S cu (i + 1) = totTo S cu i + lr_pr (cs_lt S j) := by rw [totTo, h]
theorem unfTo_n (h : xN S (nI i) cu = none) : unfTo S cu (i + 1) = unfTo S cu i := by rw [unfTo, h]
theorem unfTo_s (h : xN S (nI i) cu = some j) : unfTo S cu (i + 1) = unfTo S cu i + unf (cs_lt S j) := by rw [unfTo, h]
theorem lhTo_n (h : xN S (nI i) cu = none) : lhTo S cu (i + 1) = lhTo S cu i := by rw [lhTo, h]
theorem lhTo_s0 (h : xN S (nI i) cu = some j) (c : unf (cs_lt S j) ≤ 0) : lhTo S cu (i + 1) = lhTo S cu i := by rw [lhTo, h]; dsimp only; rw [if_pos c]
theorem lhTo_s1 (h : xN S (nI i) cu = some j) (c : ¬ unf (cs_lt S j) ≤ 0) (g : lhTo S cu i = none) : lhTo S cu (i + 1) = some j := by rw [lhTo, h]; dsimp only; rw [if_neg c, g]
theorem lhTo_s2 (h : xN S (nI i) cu = some j) (c : ¬ unf (cs_lt S j) ≤ 0) (g : lhTo S cu i = some b) (k : hnm (cs_lt S j) (cs_lt S b) = 0) : lhTo S cu (i + 1) = some b := by rw [lhTo, h]; dsimp only; rw [if_neg c, g]; dsimp only; rw [if_pos k]
theorem lhTo_s3 (h : xN S (nI i) cu = some j) (c : ¬ unf (cs_lt S j) ≤ 0) (g : lhTo S cu i = some b) (k : ¬ hnm (cs_lt S j) (cs_lt S b) = 0) : lhTo S cu (i + 1) = some j := by rw [lhTo, h]; dsimp only; rw [if_neg c, g]; dsimp only; rw [if_neg k]
theorem loTo_n (h : xAt S (nI i) = none) : loTo S (i + 1) = loTo S i := by rw [loTo, h]
theorem loTo_s (h : xAt S (nI i) = some j) : loTo S (i + 1) = loTo S i + 1 := by rw [loTo, h]
theorem npL_n (h : xN S (nI i) cu = none) : npL S cu (i + 1) = npL S cu i := by rw [npL, h]
theorem npL_s (h : xN S (nI i) cu = some j) : npL S cu (i + 1) = va_up (npL S cu i) j (lr_set_pa (npL S cu i j) (poc S (totTo S cu i) (totTo S cu i + lr_pr (cs_lt S j)) (totTo S cu (cs_n S)))) := by rw [npL, h]
theorem eoL_n (h : xAt S (nI i) = none) : eoL S (i + 1) = eoL S i := by rw [eoL, h]
theorem eoL_s (h : xAt S (nI i) = some j) : eoL S (i + 1) = va_up (eoL S i) j (lr_set_ea (eoL S i j) (lr_ea (eoL S i j) + lr_pa (eoL S i j))) := by rw [eoL, h]
/-- the walks that note or earn change one field alone -/
theorem npL_f (S : CS) (cu : Int32) : ∀ (i q : Nat), ∃ v, npL S cu i q = lr_set_pa (cs_lt S q) v
  | 0, q => ⟨lr_pa (cs_lt S q), rfl⟩
  | i + 1, q => by
    cases h : xN S (nI i) cu with
    | none => rw [npL_n h]; exact npL_f S cu i q
    | some j =>
      rw [npL_s h]
      by_cases hq : q = j
      · subst hq
        obtain ⟨v, hv⟩ := npL_f S cu i q
        rw [va_up_self, hv]
        exact ⟨_, rfl⟩
      · rw [va_up_ne _ _ hq]; exact npL_f S cu i q
theorem eoL_f (S : CS) : ∀ (i q : Nat), ∃ v, eoL S i q = lr_set_ea (cs_lt S q) v
  | 0, q => ⟨lr_ea (cs_lt S q), rfl⟩
  | i + 1, q => by
    cases h : xAt S (nI i) with
    | none => rw [eoL_n h]; exact eoL_f S i q
    | some j =>
      rw [eoL_s h]
      by_cases hq : q = j
      · subst hq
        obtain ⟨v, hv⟩ := eoL_f S i q
        rw [va_up_self, hv]
        exact ⟨_, rfl⟩
      · rw [va_up_ne _ _ hq]; exact eoL_f S i q
theorem xAt_np (z : Int32) : xAt (cs_set_lt S (npL S cu i)) z = xAt S z := by
  obtain ⟨v, hv⟩ := npL_f S cu i z.toNatClampNeg
  show (if z < 0 then none else if z < 40 then (if z.toNatClampNeg < cs_n S then (if lr_pr (npL S cu i z.toNatClampNeg) ≤ 0 then none else some z.toNatClampNeg) else none) else none) = _
  rw [hv]
  rfl
theorem xN_np (z u : Int32) : xN (cs_set_lt S (npL S cu i)) z u = xN S z u := by
  unfold xN
  rw [xAt_np]
  cases xAt S z with
  | none => rfl
  | some q =>
    obtain ⟨v, hv⟩ := npL_f S cu i q
    show (if bT (npL S cu i q) = 0 then (if lr_cu (npL S cu i q) = u then some q else none) else none) = _
    rw [hv]
    rfl
theorem pr_np (q : Nat) : lr_pr (npL S cu i q) = lr_pr (cs_lt S q) := by
  obtain ⟨v, hv⟩ := npL_f S cu i q
  rw [hv]
theorem xAt_eo (z : Int32) : xAt (cs_set_lt S (eoL S i)) z = xAt S z := by
  obtain ⟨v, hv⟩ := eoL_f S i z.toNatClampNeg
  show (if z < 0 then none else if z < 40 then (if z.toNatClampNeg < cs_n S then (if lr_pr (eoL S i z.toNatClampNeg) ≤ 0 then none else some z.toNatClampNeg) else none) else none) = _
  rw [hv]
  rfl
end STEPS
/-- what the bookkeeping of lots' numbers and addresses rests on -/
def fixd (S T : CS) : Prop := cs_n T = cs_n S ∧ cs_bk T = cs_bk S ∧ cs_nc T = cs_nc S ∧ cs_la T = cs_la S
theorem fixd.rf (S : CS) : fixd S S := ⟨rfl, rfl, rfl, rfl⟩
theorem fixd.tr {S T U : CS} (h : fixd S T) (g : fixd T U) : fixd S U := ⟨g.1.trans h.1, g.2.1.trans h.2.1, g.2.2.1.trans h.2.2.1, g.2.2.2.trans h.2.2.2⟩
theorem fixd.ok {S T : CS} (h : fixd S T) (hok : okX S) : okX T := by
  obtain ⟨h1, h2, h3, h4⟩ := h
  unfold okX
  rw [h1, h2, h3, h4]
  exact hok
theorem mixS_pos {c : Prop} [Decidable c] {S A B : CS} (h : c) (hA : mixS True S A A = A) : mixS c S A B = A := by
  rw [← hA]
  simp only [mixS, if_pos h, if_true]
theorem mixS_neg {c : Prop} [Decidable c] {S A B : CS} (h : ¬ c) (hB : mixS True S B B = B) : mixS c S A B = B := by
  rw [← hB]
  simp only [mixS, if_neg h, if_true]
theorem fx_npd (S : CS) (cu c : Int32) : fixd S (npd S cu c) := ⟨rfl, rfl, rfl, rfl⟩
theorem fx_los (S : CS) (i : Nat) (x : Int64) : fixd S (los S i x) := ⟨rfl, rfl, rfl, rfl⟩
theorem fx_pinS (S : CS) (i : Nat) : fixd S (pinS S i) := ⟨rfl, rfl, rfl, rfl⟩
theorem fx_poS (S : CS) (i : Nat) (c : Int32) : fixd S (poS S i c) := ⟨rfl, rfl, rfl, rfl⟩
theorem fx_bgt (S : CS) (i : Nat) : fixd S (bgt S i) := ⟨rfl, rfl, rfl, rfl⟩
theorem fx_etX (S : CS) (i : Nat) : fixd S (etX S i) := ⟨rfl, rfl, rfl, rfl⟩
theorem fx_bd1 (S : CS) (j : Nat) : fixd S (bd1 S j) := ⟨rfl, rfl, rfl, rfl⟩
theorem fx_bdS1 (S : CS) (j : Nat) : fixd S (bdS1 S j) := ⟨rfl, rfl, rfl, rfl⟩
theorem fx_bd (S : CS) : ∀ i, fixd S (bdTo S i).2
  | 0 => fixd.rf S
  | i + 1 => by
    rw [bdTo]
    cases xAt (bdTo S i).2 (nI i) with
    | none => exact fx_bd S i
    | some j => exact (fx_bd S i).tr (fx_bdS1 _ j)
theorem bdTo_n {S : CS} {i : Nat} (h : xAt (bdTo S i).2 (nI i) = none) : bdTo S (i + 1) = bdTo S i := by rw [bdTo, h]
theorem bdTo_s {S : CS} {i j : Nat} (h : xAt (bdTo S i).2 (nI i) = some j) : bdTo S (i + 1) = ((if lr_en (cs_lt (bd1 (bdTo S i).2 j) j) = cs_day (bd1 (bdTo S i).2 j) then (bdTo S i).1 + 1 else (bdTo S i).1), bdS1 (bdTo S i).2 j) := by rw [bdTo, h]
