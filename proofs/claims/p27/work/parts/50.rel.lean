/-! how the class' state and the reference's stand together -/
def relN (r : LR) (day nd : Int32) : Prop := lr_en r = -1 ∧ lr_rn r = -1 ∧ (lr_pr r).toInt ≤ 10000000 ∧ 0 ≤ (lr_fz r).toInt ∧ (lr_fz r).toInt ≤ (lr_pr r).toInt ∧ (lr_fz r = 0 ∨ (lr_tf r = nd + 32 ∧ 0 ≤ nd.toInt ∧ nd.toInt ≤ day.toInt ∧ day.toInt ≤ nd.toInt + 38)) ∧ 0 ≤ (lr_ea r).toInt ∧ (lr_ea r).toInt ≤ 20000000000 * day.toInt
def relT (r : LR) (day : Int32) : Prop := lr_fz r = 0 ∧ (1 ≤ (lr_td r).toInt ∧ (lr_td r).toInt ≤ 400) ∧ (lr_rn r = -1 ∨ (0 ≤ (lr_rn r).toInt ∧ (lr_rn r).toInt ≤ day.toInt)) ∧ 0 ≤ (lr_pa r).toInt ∧ (lr_pa r).toInt ≤ 2000 * (lr_pr r).toInt ∧ 0 ≤ (lr_ea r).toInt
def relL (r : LR) (day th te ow pr fz nd le en ins bg : Int32) (ea tp : Int64) : Prop := lr_cu r = ow ∧ bT r = te ∧ (lr_pr r ≤ 0 ↔ th = 0) ∧ (¬ lr_pr r ≤ 0 → lr_pr r = pr ∧ lr_ea r = ea ∧ (bT r = 0 → lr_fz r = fz ∧ bg = -1 ∧ relN r day nd) ∧ (¬ bT r = 0 → lr_pa r = tp ∧ lr_td r = le ∧ lr_en r = en ∧ lr_ins r = ins ∧ lr_rn r = bg ∧ relT r day))
abbrev relJ (S : CS) (M : MS) (j : Nat) : Prop := relL (cs_lt S j) (cs_day S) (ms_th M j) (ms_te M j) (ms_ow M j) (ms_pr M j) (ms_fz M j) (ms_nd M j) (ms_le M j) (ms_en M j) (ms_ins M j) (ms_bg M j) (ms_ea M j) (ms_tp M j)
/-- what a lot by TERM can bring, in parts -/
def wP (r : LR) : Int := if lr_pr r ≤ 0 then 0 else if bT r = 0 then 0 else (lr_pr r).toInt * 3650000 + (lr_ea r).toInt
def sumP (f : Nat → LR) : Nat → Int
  | 0 => 0
  | i + 1 => sumP f i + wP (f i)
def grow (S : CS) : Prop := sumP (cs_lt S) (cs_n S) * 1825 ^ (cs_day S).toNatClampNeg ≤ 36500000000000 * (cs_n S : Int) * 1826 ^ (cs_day S).toNatClampNeg ∧ cs_nc S = cs_n S
abbrev in2k (z : Int32) : Prop := 0 ≤ z.toInt ∧ z.toInt ≤ 2000
def Rel (S : CS) (M : MS) : Prop := okX S ∧ okM M ∧ cs_n S = ms_n M ∧ cs_rates S = ms_rates M ∧ cs_paid S = ms_paid M ∧ cs_lost S = ms_lost M ∧ cs_bb S = ms_bb M ∧ cs_tr S = ms_tr M ∧ cs_day S = ms_now M ∧ (cs_bb S = 0 ∨ cs_bb S = 1) ∧ (∀ i, i < 3 → in2k (cs_rates S i)) ∧ in2k (cs_tr S) ∧ (0 ≤ (cs_day S).toInt ∧ (cs_day S).toInt ≤ 3000) ∧ (∀ j, j < cs_n S → relJ S M j) ∧ grow S
theorem rel0 : Rel S0 M0 := by
  refine ⟨⟨by decide, by decide, fun i h => absurd h (Nat.not_lt_zero i), fun i _ _ => rfl⟩, ⟨by decide, fun j _ => show vp_in 0 4 from vp_in_nI (n := 0) (by decide) (by decide)⟩, rfl, rfl, rfl, rfl, rfl, rfl, rfl, Or.inl rfl, ?_, by decide, by decide, fun j h => absurd h (Nat.not_lt_zero j), ⟨show sumP (cs_lt S0) 0 * 1825 ^ 0 ≤ 36500000000000 * ((0 : Nat) : Int) * 1826 ^ 0 by decide, rfl⟩⟩
  intro i hi
  rcases i with _ | _ | _ | i
  · decide
  · decide
  · decide
  · omega
