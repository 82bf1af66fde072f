/-! what the public methods do: the code of the exception (0: none; 1 index, 2 argument, 3 state), the answer, the state -/
theorem xc_I {k : Nat} {E : String} (h : k = 1) (e : E = nb_I) : k ≠ 0 ∧ E = exN k := by subst h; exact ⟨by decide, e⟩
theorem xc_A {k : Nat} {E : String} (h : k = 2) (e : E = nb_A) : k ≠ 0 ∧ E = exN k := by subst h; exact ⟨by decide, e⟩
theorem xc_S {k : Nat} {E : String} (h : k = 3) (e : E = nb_S) : k ≠ 0 ∧ E = exN k := by subst h; exact ⟨by decide, e⟩
theorem ne0_1 {k : Nat} (h : k = 1) : ¬ k = 0 := by omega
theorem ne0_2 {k : Nat} (h : k = 2) : ¬ k = 0 := by omega
def lotC (S : CS) (z : Int32) : Nat := match xAt S z with
  | none => 1
  | some _ => 0
theorem lotC_n {S : CS} {z : Int32} (h : xAt S z = none) : ¬ lotC S z = 0 := by rw [lotC, h]; decide
theorem lotC_s {S : CS} {z : Int32} {j : Nat} (h : xAt S z = some j) : lotC S z = 0 := by rw [lotC, h]
def stC (b z : Int32) : Nat := if b < 0 then 1 else if b < 3 then (if demR z 0 2000 = 0 then 0 else 2) else 1
def dpC (S : CS) (cu z : Int32) : Nat := if demC cu = 0 then (if demR z 1 10000000 = 0 then (if cs_n S < 40 then 0 else 3) else 2) else 1
def dtC (S : CS) (cu z d v : Int32) : Nat := if demC cu = 0 then (if demR z 1 10000000 = 0 then (if demR d 1 400 = 0 then (if demR v 0 2 = 0 then (if cs_n S < 40 then 0 else 3) else 2) else 2) else 2) else 1
def dpS (S : CS) (q : Nat) (cu z : Int32) : CS := entS (iniS (nw1 S q) (cs_nc S) cu z 0) (cs_nc S)
def dt1 (S : CS) (q : Nat) (cu z d v : Int32) : CS := cs_setLot (iniS (nw1 S q) (cs_nc S) cu z d) (cs_nc S) (lr_set_ins (cs_lt (iniS (nw1 S q) (cs_nc S) cu z d) (cs_nc S)) v)
def dtS (S : CS) (q : Nat) (cu z d v : Int32) : CS := entS (bgt (dt1 S q cu z d v) (cs_nc S)) (cs_nc S)
def gvC (S : CS) (z c : Int32) : Nat := if lotC S z = 0 then (if demR c 1 (lr_pr (cs_lt S z.toNatClampNeg)) = 0 then (if bT (cs_lt S z.toNatClampNeg) = 0 then (if lr_fz (cs_lt S z.toNatClampNeg) ≤ 0 then 0 else 3) else 3) else 2) else 1
def gvS (S : CS) (z c : Int32) : CS := cs_setLot S z.toNatClampNeg (lr_set_tf (lr_set_fz (cs_lt S z.toNatClampNeg) c) (cs_day S + 32))
def wdC (S : CS) (z : Int32) : Nat := if lotC S z = 0 then (if lr_fz (cs_lt S z.toNatClampNeg) = 0 then 3 else 0) else 1
def wdS (S : CS) (z : Int32) : CS := cs_setLot S z.toNatClampNeg (lr_set_fz (cs_lt S z.toNatClampNeg) 0)
def tkC (S : CS) (z : Int32) : Nat := if lotC S z = 0 then (if lr_fz (cs_lt S z.toNatClampNeg) = 0 then 3 else if lr_tf (cs_lt S z.toNatClampNeg) ≤ cs_day S then 0 else 3) else 1
def inC (S : CS) (z v : Int32) : Nat := if lotC S z = 0 then (if demR v 0 2 = 0 then (if bT (cs_lt S z.toNatClampNeg) = 0 then 3 else 0) else 2) else 1
def inS (S : CS) (z v : Int32) : CS := cs_setLot S z.toNatClampNeg (lr_set_ins (cs_lt S z.toNatClampNeg) v)
def lgC (S : CS) (z : Int32) : Nat := if lotC S z = 0 then (if lr_rn (cs_lt S z.toNatClampNeg) = -1 then 3 else if cs_day S - lr_rn (cs_lt S z.toNatClampNeg) < 7 then 0 else 3) else 1
def lg1 (S : CS) (z : Int32) : CS := los S z.toNatClampNeg (lr_ea (cs_lt S z.toNatClampNeg))
def lgV (S : CS) (z : Int32) : Int32 := poC (lg1 S z) z.toNatClampNeg (lr_pr (cs_lt (lg1 S z) z.toNatClampNeg))
def lgS (S : CS) (z : Int32) : CS := poS (lg1 S z) z.toNatClampNeg (lr_pr (cs_lt (lg1 S z) z.toNatClampNeg))
def joC (S : CS) (z y : Int32) : Nat := if lotC S z = 0 then (if lotC S y = 0 then (if z = y then 2 else if cjn (cs_lt S z.toNatClampNeg) (cs_lt S y.toNatClampNeg) = 0 then 3 else 0) else 1) else 1
def jo1 (S : CS) (i j : Nat) : CS := cs_setLot S i (lr_set_pr (cs_lt S i) (lr_pr (cs_lt S i) + lr_pr (cs_lt S j)))
def jo2 (S : CS) (i j : Nat) : CS := cs_setLot S i (lr_set_ea (cs_lt S i) (lr_ea (cs_lt S i) + lr_ea (cs_lt S j)))
def jo3 (S : CS) (i j : Nat) : CS := cs_setLot S i (lr_set_pa (cs_lt S i) (lr_pa (cs_lt S i) + lr_pa (cs_lt S j)))
def jo4 (S : CS) (i : Nat) : CS := cs_setLot S i (lr_set_rn (cs_lt S i) (-1))
def jo5 (S : CS) (j : Nat) : CS := cs_setLot S j (lr_set_pr (cs_lt S j) 0)
def joS (S : CS) (i j : Nat) : CS := jo5 (jo4 (jo3 (jo2 (jo1 S i j) i j) i j) i) j
def psC (S : CS) (d : Int32) : Nat := if demR d 1 100 = 0 then (if cs_day S + d ≤ 3000 then 0 else 3) else 2
def ntTo (S : CS) : Nat → CS
  | 0 => S
  | i + 1 => noteX (ntTo S i) (nI i)
theorem fx_nt (S : CS) : ∀ i, fixd S (ntTo S i)
  | 0 => fixd.rf S
  | i + 1 => (fx_nt S i).tr ⟨rfl, rfl, rfl, rfl⟩
def ps1 (T : CS) : CS := cs_set_day (eoX T) (cs_day (eoX T) + 1)
def psTo (S : CS) : Nat → Int32 × CS
  | 0 => (0, S)
  | i + 1 => ((psTo S i).1 + (bdTo (ps1 (psTo S i).2) (cs_n (ps1 (psTo S i).2))).1, (bdTo (ps1 (psTo S i).2) (cs_n (ps1 (psTo S i).2))).2)
theorem fx_ps (S : CS) : ∀ i, fixd S (psTo S i).2
  | 0 => fixd.rf S
  | i + 1 => ((fx_ps S i).tr (T := (psTo S i).2) (U := ps1 (psTo S i).2) ⟨rfl, rfl, rfl, rfl⟩).tr (fx_bd _ _)
theorem demR_nI {d : Int32} (h : demR d 1 100 = 0) : d = nI d.toNatClampNeg ∧ d.toNatClampNeg ≤ 100 := by
  have h0 : ¬ d < 1 ∧ d ≤ 100 := by
    unfold demR at h
    split at h
    · cases h
    · split at h
      · exact ⟨by assumption, by assumption⟩
      · cases h
  obtain ⟨a, b⟩ := h0
  rw [i_lt] at a
  rw [i_le] at b
  have h1 : (1 : Int32).toInt = 1 := rfl
  have h2 : (100 : Int32).toInt = 100 := rfl
  obtain ⟨j, hj, rfl⟩ := nI_of (x := d) (by rw [i_lt]; have : (0 : Int32).toInt = 0 := rfl; omega)
  rw [nI_toInt hj] at b
  rw [nI_clamp hj]
  exact ⟨rfl, by omega⟩
def pdS (S : CS) (z : Int32) : CS := noteX S (lr_cu (cs_lt S z.toNatClampNeg))
def eaC (S : CS) (cu c : Int32) : Nat := if demC cu = 0 then (if demR c 1 100000000 = 0 then (if c ≤ unfTo S cu (cs_n S) then 0 else 3) else 2) else 1
/-- one lot asked for early money: missing, payment, state -/
def erPart (m : Int32) (r : LR) : Int32 := if unf r < m then unf r else m
def er1 (S : CS) (j : Nat) (part : Int32) : CS := los S j (lbe (cs_lt S j) part)
def erTo (S : CS) (cu c : Int32) : Nat → Int32 × Int32 × CS
  | 0 => (c, 0, S)
  | i + 1 => if (erTo S cu c i).1 ≤ 0 then erTo S cu c i else match lhTo (erTo S cu c i).2.2 cu (cs_n S) with
    | none => erTo S cu c i
    | some j => ((erTo S cu c i).1 - erPart (erTo S cu c i).1 (cs_lt (erTo S cu c i).2.2 j), (erTo S cu c i).2.1 + poC (er1 (erTo S cu c i).2.2 j (erPart (erTo S cu c i).1 (cs_lt (erTo S cu c i).2.2 j))) j (erPart (erTo S cu c i).1 (cs_lt (erTo S cu c i).2.2 j)), poS (er1 (erTo S cu c i).2.2 j (erPart (erTo S cu c i).1 (cs_lt (erTo S cu c i).2.2 j))) j (erPart (erTo S cu c i).1 (cs_lt (erTo S cu c i).2.2 j)))
theorem er_0 {S : CS} {cu c : Int32} {i : Nat} (h : (erTo S cu c i).1 ≤ 0) : erTo S cu c (i + 1) = erTo S cu c i := by rw [erTo, if_pos h]
theorem er_n {S : CS} {cu c : Int32} {i : Nat} (h : ¬ (erTo S cu c i).1 ≤ 0) (g : lhTo (erTo S cu c i).2.2 cu (cs_n S) = none) : erTo S cu c (i + 1) = erTo S cu c i := by rw [erTo, if_neg h, g]
theorem er_s {S : CS} {cu c : Int32} {i j : Nat} (h : ¬ (erTo S cu c i).1 ≤ 0) (g : lhTo (erTo S cu c i).2.2 cu (cs_n S) = some j) : erTo S cu c (i + 1) = ((erTo S cu c i).1 - erPart (erTo S cu c i).1 (cs_lt (erTo S cu c i).2.2 j), (erTo S cu c i).2.1 + poC (er1 (erTo S cu c i).2.2 j (erPart (erTo S cu c i).1 (cs_lt (erTo S cu c i).2.2 j))) j (erPart (erTo S cu c i).1 (cs_lt (erTo S cu c i).2.2 j)), poS (er1 (erTo S cu c i).2.2 j (erPart (erTo S cu c i).1 (cs_lt (erTo S cu c i).2.2 j))) j (erPart (erTo S cu c i).1 (cs_lt (erTo S cu c i).2.2 j))) := by rw [erTo, if_neg h, g]
theorem er_stuck {S : CS} {cu c : Int32} {i : Nat} (h : erTo S cu c (i + 1) = erTo S cu c i) : ∀ k, erTo S cu c (i + k) = erTo S cu c i
  | 0 => rfl
  | k + 1 => by
    have e := er_stuck h k
    show erTo S cu c (i + k + 1) = _
    rw [← h]
    show (if (erTo S cu c (i + k)).1 ≤ 0 then erTo S cu c (i + k) else match lhTo (erTo S cu c (i + k)).2.2 cu (cs_n S) with
      | none => erTo S cu c (i + k)
      | some j => _) = _
    rw [e]
    rfl
theorem er_end {S : CS} {cu c : Int32} {i n : Nat} (h : erTo S cu c (i + 1) = erTo S cu c i) (hi : i < n) : erTo S cu c n = erTo S cu c i := by
  have := er_stuck h (n - i)
  rwa [show i + (n - i) = n by omega] at this
theorem fx_er (S : CS) (cu c : Int32) : ∀ i, fixd S (erTo S cu c i).2.2
  | 0 => fixd.rf S
  | i + 1 => by
    by_cases h : (erTo S cu c i).1 ≤ 0
    · rw [er_0 h]; exact fx_er S cu c i
    · rcases opt_c (lhTo (erTo S cu c i).2.2 cu (cs_n S)) with g | ⟨j, g⟩
      · rw [er_n h g]; exact fx_er S cu c i
      · rw [er_s h g]
        exact (fx_er S cu c i).tr ⟨rfl, rfl, rfl, rfl⟩
theorem demC_in {z : Int32} (h : demC z = 0) : vp_in z 4 := by
  unfold demC at h
  split at h
  · cases h
  · split at h
    · exact vin_lt (n := 4) (by assumption) (by assumption) (by decide)
    · cases h
