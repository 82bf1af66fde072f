/-! what the class' methods do, as functions of its state (written from the landed class, branch by branch) -/
def okX (S : CS) : Prop := cs_n S ≤ 40 ∧ cs_n S ≤ cs_nc S ∧ (∀ i, i < cs_n S → cs_bk S i = some (cs_la S i)) ∧ (∀ i, i < 40 → cs_n S ≤ i → cs_bk S i = none)
def exN : Nat → String
  | 1 => nb_I
  | 2 => nb_A
  | _ => nb_S
def nb_names : List String := ["java/lang/RuntimeException", "java/lang/Exception"]
theorem nb_names_fit : ∀ n ∈ nb_names, Bundle.fit n = true := by decide +kernel
theorem mem_I : nb_I ∈ EXS := List.mem_of_getElem? (i := 0) rfl
theorem mem_A : nb_A ∈ EXS := List.mem_of_getElem? (i := 1) rfl
theorem mem_S : nb_S ∈ EXS := List.mem_of_getElem? (i := 2) rfl
theorem fit_nb_I : Bundle.fit nb_I = true := by decide +kernel
theorem fit_nb_A : Bundle.fit nb_A = true := by decide +kernel
theorem fit_nb_S : Bundle.fit nb_S = true := by decide +kernel
def demC (z : Int32) : Nat := if z < 0 then 1 else if z < 4 then 0 else 1
def demR (z lo hi : Int32) : Nat := if z < lo then 2 else if z ≤ hi then 0 else 2
def bT (r : LR) : Int32 := if lr_td r ≤ 0 then 0 else 1
def unf (r : LR) : Int32 := lr_pr r - lr_fz r
def drwC (r : LR) : Int32 := Int64.toInt32 (lr_ea r / 3650000)
def drwR (r : LR) : LR := lr_set_ea r (lr_ea r - lr_ea r / 3650000 * 3650000)
def hnm (r t : LR) : Int32 := if 0 < lg_cmp (lr_pa r * Int32.toInt64 (lr_pr t)) (lr_pa t * Int32.toInt64 (lr_pr r)) then 0 else 1
def cjn (r t : LR) : Int32 := if bT r = 0 then 0 else if bT t = 0 then 0 else if lr_cu r = lr_cu t then (if lr_en r = lr_en t then (if 0 < lg_cmp (Int32.toInt64 (lr_pr r) + Int32.toInt64 (lr_pr t)) 100000000 then 0 else 1) else 0) else 0
def xAt (S : CS) (z : Int32) : Option Nat := if z < 0 then none else if z < 40 then (if z.toNatClampNeg < cs_n S then (if lr_pr (cs_lt S z.toNatClampNeg) ≤ 0 then none else some z.toNatClampNeg) else none) else none
def xN (S : CS) (z cu : Int32) : Option Nat := match xAt S z with
  | none => none
  | some j => if bT (cs_lt S j) = 0 then (if lr_cu (cs_lt S j) = cu then some j else none) else none
/-- the lot of that number, with a notice -/
def xO (S : CS) (z : Int32) : Option Nat := match xAt S z with
  | none => none
  | some j => if lr_fz (cs_lt S j) = 0 then none else some j
theorem xAt_some {S : CS} {z : Int32} {j : Nat} (h : xAt S z = some j) : j = z.toNatClampNeg ∧ j < cs_n S ∧ ¬ z < 0 ∧ z < 40 ∧ ¬ lr_pr (cs_lt S j) ≤ 0 := by
  unfold xAt at h
  split at h
  · cases h
  · split at h
    · split at h
      · split at h
        · cases h
        · cases h
          exact ⟨rfl, by assumption, by assumption, by assumption, by assumption⟩
      · cases h
    · cases h
theorem xN_at {S : CS} {z cu : Int32} {j : Nat} (h : xN S z cu = some j) : xAt S z = some j ∧ bT (cs_lt S j) = 0 ∧ lr_cu (cs_lt S j) = cu := by
  unfold xN at h
  cases hx : xAt S z with
  | none => rw [hx] at h; cases h
  | some i =>
    rw [hx] at h
    dsimp only at h
    split at h
    · split at h
      · cases h
        exact ⟨rfl, by assumption, by assumption⟩
      · cases h
    · cases h
theorem xAt_nc {S : CS} (hok : okX S) {z : Int32} {j : Nat} (h : xAt S z = some j) : j < cs_nc S := Nat.lt_of_lt_of_le (xAt_some h).2.1 hok.2.1
theorem xN_nc {S : CS} (hok : okX S) {z cu : Int32} {j : Nat} (h : xN S z cu = some j) : j < cs_nc S := xAt_nc hok (xN_at h).1
theorem xO_at {S : CS} {z : Int32} {j : Nat} (h : xO S z = some j) : xAt S z = some j ∧ ¬ lr_fz (cs_lt S j) = 0 := by
  unfold xO at h
  cases hx : xAt S z with
  | none => rw [hx] at h; cases h
  | some i =>
    rw [hx] at h
    dsimp only at h
    split at h
    · cases h
    · cases h
      exact ⟨rfl, by assumption⟩
theorem xO_nc {S : CS} (hok : okX S) {z : Int32} {j : Nat} (h : xO S z = some j) : j < cs_nc S := xAt_nc hok (xO_at h).1
def totTo (S : CS) (cu : Int32) : Nat → Int32
  | 0 => 0
  | i + 1 => match xN S (nI i) cu with
    | none => totTo S cu i
    | some j => totTo S cu i + lr_pr (cs_lt S j)
def unfTo (S : CS) (cu : Int32) : Nat → Int32
  | 0 => 0
  | i + 1 => match xN S (nI i) cu with
    | none => unfTo S cu i
    | some j => unfTo S cu i + unf (cs_lt S j)
def lhTo (S : CS) (cu : Int32) : Nat → Option Nat
  | 0 => none
  | i + 1 => match xN S (nI i) cu with
    | none => lhTo S cu i
    | some j => if unf (cs_lt S j) ≤ 0 then lhTo S cu i else match lhTo S cu i with
      | none => some j
      | some b => if hnm (cs_lt S j) (cs_lt S b) = 0 then some b else some j
def loTo (S : CS) : Nat → Int32
  | 0 => 0
  | i + 1 => match xAt S (nI i) with
    | none => loTo S i
    | some _ => loTo S i + 1
def pbb1 (z : Int32) : Int32 := if 100000 < z then 100000 else z
def pbb2 (z : Int32) : Int32 := (if 1000000 < z then 1000000 else z) - pbb1 z
def pbb (S : CS) (z : Int32) : Int64 := Int32.toInt64 (pbb1 z) * Int32.toInt64 (cs_rates S 0) + Int32.toInt64 (pbb2 z) * Int32.toInt64 (cs_rates S 1) + Int32.toInt64 (z - pbb1 z - pbb2 z) * Int32.toInt64 (cs_rates S 2)
def rws (S : CS) (z : Int32) : Int32 := if 100000 ≤ z - 1 then (if 1000000 ≤ z - 1 then cs_rates S 2 else cs_rates S 1) else cs_rates S 0
def poc (S : CS) (fr to z : Int32) : Int64 := if cs_bb S = 0 then Int32.toInt64 (to - fr) * Int32.toInt64 (rws S z) else pbb S to - pbb S fr
def npL (S : CS) (cu : Int32) : Nat → Nat → LR
  | 0 => cs_lt S
  | i + 1 => match xN S (nI i) cu with
    | none => npL S cu i
    | some j => va_up (npL S cu i) j (lr_set_pa (npL S cu i j) (poc S (totTo S cu i) (totTo S cu i + lr_pr (cs_lt S j)) (totTo S cu (cs_n S))))
def noteX (S : CS) (cu : Int32) : CS := cs_set_lt S (npL S cu (cs_n S))
def npd (S : CS) (cu c : Int32) : CS := cs_set_paid S (if cu < 0 then cs_paid S else if 4 ≤ cu then cs_paid S else vp_updL (cs_paid S) cu.toNatClampNeg (cs_paid S cu.toNatClampNeg + Int32.toInt64 c))
def los1 (S : CS) (i : Nat) (x : Int64) : CS := cs_setLot S i (lr_set_ea (cs_lt S i) (lr_ea (cs_lt S i) - x))
def los (S : CS) (i : Nat) (x : Int64) : CS := cs_set_lost (los1 S i x) (if lr_cu (cs_lt (los1 S i x) i) < 0 then cs_lost S else if 4 ≤ lr_cu (cs_lt (los1 S i x) i) then cs_lost S else vp_updL (cs_lost S) (lr_cu (cs_lt (los1 S i x) i)).toNatClampNeg (cs_lost S (lr_cu (cs_lt (los1 S i x) i)).toNatClampNeg + x))
def drwS (S : CS) (i : Nat) : CS := cs_setLot S i (drwR (cs_lt S i))
def pinS (S : CS) (i : Nat) : CS := npd (drwS S i) (lr_cu (cs_lt (drwS S i) i)) (drwC (cs_lt S i))
def po1 (S : CS) (i : Nat) (c : Int32) : CS := cs_setLot S i (lr_set_pr (cs_lt S i) (lr_pr (cs_lt S i) - c))
def po2 (S : CS) (i : Nat) (c : Int32) : CS := npd (po1 S i c) (lr_cu (cs_lt (po1 S i c) i)) c
def poC (S : CS) (i : Nat) (c : Int32) : Int32 := if lr_pr (cs_lt (po2 S i c) i) ≤ 0 then c + drwC (cs_lt (po2 S i c) i) else c
/-- one state or the other, as far as sums and lots go -/
abbrev mixS (c : Prop) [Decidable c] (S A B : CS) : CS := cs_set_lt (cs_set_paid (cs_set_lost S (if c then cs_lost A else cs_lost B)) (if c then cs_paid A else cs_paid B)) (if c then cs_lt A else cs_lt B)
def poS (S : CS) (i : Nat) (c : Int32) : CS := mixS (lr_pr (cs_lt (po2 S i c) i) ≤ 0) S (los (pinS (po2 S i c) i) i (lr_ea (cs_lt (pinS (po2 S i c) i) i))) (po2 S i c)
def lbe (r : LR) (c : Int32) : Int64 := if 0 < lr_pr r then (if lr_ea r < 30 * lr_pa r * Int32.toInt64 c / Int32.toInt64 (lr_pr r) then lr_ea r else 30 * lr_pa r * Int32.toInt64 c / Int32.toInt64 (lr_pr r)) else 0
def bgt1 (S : CS) (i : Nat) : CS := cs_setLot S i (lr_set_pa (cs_lt S i) (Int32.toInt64 (lr_pr (cs_lt S i)) * Int32.toInt64 (cs_tr S)))
def bgt (S : CS) (i : Nat) : CS := cs_setLot (bgt1 S i) i (lr_set_en (cs_lt (bgt1 S i) i) (cs_day (bgt1 S i) + lr_td (cs_lt (bgt1 S i) i)))
def entS (S : CS) (i : Nat) : CS := cs_set_n (cs_set_bk S (va_up (cs_bk S) (cs_n S) (some (cs_la S i)))) (cs_n S + 1)
def eoL (S : CS) : Nat → Nat → LR
  | 0 => cs_lt S
  | i + 1 => match xAt S (nI i) with
    | none => eoL S i
    | some j => va_up (eoL S i) j (lr_set_ea (eoL S i j) (lr_ea (eoL S i j) + lr_pa (eoL S i j)))
def eoX (S : CS) : CS := cs_set_lt S (eoL S (cs_n S))
def et1 (S : CS) (i : Nat) : CS := cs_setLot S i (lr_set_pr (drwR (cs_lt S i)) (lr_pr (cs_lt S i) + drwC (cs_lt S i)))
def et2 (S : CS) (i : Nat) : CS := cs_setLot S i (lr_set_rn (cs_lt S i) (cs_day S))
def etX (S : CS) (i : Nat) : CS := mixS (lr_ins (cs_lt S i) = 0) S (poS S i (lr_pr (cs_lt S i))) (mixS (lr_ins (cs_lt S i) = 1) S (et2 (bgt (pinS S i) i) i) (et2 (bgt (et1 S i) i) i))
def bd1 (S : CS) (j : Nat) : CS := cs_set_lt S (if cs_day S < lr_tf (cs_lt S j) + 7 then cs_lt S else va_up (cs_lt S) j (lr_set_fz (cs_lt S j) 0))
def bdC1 (S : CS) (j : Nat) : Int32 := if lr_en (cs_lt (bd1 S j) j) = cs_day (bd1 S j) then 1 else 0
def bdS1 (S : CS) (j : Nat) : CS := mixS (lr_en (cs_lt (bd1 S j) j) = cs_day (bd1 S j)) S (etX (bd1 S j) j) (bd1 S j)
def bdTo (S : CS) : Nat → Int32 × CS
  | 0 => (0, S)
  | i + 1 => match xAt (bdTo S i).2 (nI i) with
    | none => bdTo S i
    | some j => ((if lr_en (cs_lt (bd1 (bdTo S i).2 j) j) = cs_day (bd1 (bdTo S i).2 j) then (bdTo S i).1 + 1 else (bdTo S i).1), bdS1 (bdTo S i).2 j)
theorem hat_nb_I_44 : ∀ w9 ∈ (vx_atS RX1 44 nb_I nb_names).filter goodWord, w9 ∈ BIG := fun w h => List.mem_filter.mpr ⟨(show ∀ w9 ∈ (vx_atS RX1 44 nb_I nb_names).filter goodWord, w9 ∈ lw_tbl by decide +kernel) w h, (List.mem_filter.mp h).2⟩
theorem hat_nb_A_146 : ∀ w9 ∈ (vx_atS RX1 146 nb_A nb_names).filter goodWord, w9 ∈ BIG := fun w h => List.mem_filter.mpr ⟨(show ∀ w9 ∈ (vx_atS RX1 146 nb_A nb_names).filter goodWord, w9 ∈ lw_tbl by decide +kernel) w h, (List.mem_filter.mp h).2⟩
theorem hat_nb_S_87 : ∀ w9 ∈ (vx_atS RX1 87 nb_S nb_names).filter goodWord, w9 ∈ BIG := fun w h => List.mem_filter.mpr ⟨(show ∀ w9 ∈ (vx_atS RX1 87 nb_S nb_names).filter goodWord, w9 ∈ lw_tbl by decide +kernel) w h, (List.mem_filter.mp h).2⟩
theorem hat2_nb_I_44 : ∀ w9 ∈ (vx_atS RX1 44 nb_I nb_names).filter (fun w => !goodWord w), w9 ∈ Cond.castable nb_I nb_I :: SUPS.map (fun Z => Cond.declares (Bundle.initS Z)) := by decide +kernel
theorem hat2_nb_A_146 : ∀ w9 ∈ (vx_atS RX1 146 nb_A nb_names).filter (fun w => !goodWord w), w9 ∈ Cond.castable nb_A nb_A :: SUPS.map (fun Z => Cond.declares (Bundle.initS Z)) := by decide +kernel
theorem hat2_nb_S_87 : ∀ w9 ∈ (vx_atS RX1 87 nb_S nb_names).filter (fun w => !goodWord w), w9 ∈ Cond.castable nb_S nb_S :: SUPS.map (fun Z => Cond.declares (Bundle.initS Z)) := by decide +kernel
theorem hgood_nb_I_40_44 : ∀ w9 ∈ Cond.classLink RX1 40 nb_I :: Cond.initialized nb_I :: vx_atS RX1 44 nb_I nb_names, vx_ot w9 = true := by decide +kernel
theorem hgood_nb_A_142_146 : ∀ w9 ∈ Cond.classLink RX1 142 nb_A :: Cond.initialized nb_A :: vx_atS RX1 146 nb_A nb_names, vx_ot w9 = true := by decide +kernel
theorem hgood_nb_S_83_87 : ∀ w9 ∈ Cond.classLink RX1 83 nb_S :: Cond.initialized nb_S :: vx_atS RX1 87 nb_S nb_names, vx_ot w9 = true := by decide +kernel
