/-! paying out: a lot loses principal, and is gone with its interest where none is left -/
theorem updL_two (f : Nat → Int64) (k : Nat) (x y : Int64) : vp_updL (vp_updL f k x) k y = vp_updL f k y := funext fun j => by
  by_cases h : j = k
  · subst h; rw [updL_self, updL_self]
  · rw [updL_ne h, updL_ne h, updL_ne h]
theorem cu_in {z : Int32} (h : vp_in z 4) : ¬ z < 0 ∧ ¬ 4 ≤ z := by
  rw [vp_in_iff] at h
  have e4 : (4 : Int32).toInt = 4 := rfl
  exact ⟨by rw [i_lt, i_0]; omega, by rw [i_le, e4]; omega⟩
theorem Rel.cu {S : CS} {M : MS} (h : Rel S M) {j : Nat} (hj : j < cs_n S) : vp_in (lr_cu (cs_lt S j)) 4 := by
  rw [(h.lot hj).1]
  exact h.2.1.2 j (by have := h.le; omega)
def dieR (r : LR) (c : Int32) : LR := lr_set_ea (drwR (lr_set_pr r (lr_pr r - c))) (lr_ea (drwR (lr_set_pr r (lr_pr r - c))) - lr_ea (drwR (lr_set_pr r (lr_pr r - c))))
def remR (r : LR) : Int64 := lr_ea r - lr_ea r / 3650000 * 3650000
theorem sea_td (r : LR) (v : Int64) : lr_td (lr_set_ea r v) = lr_td r := rfl
theorem sea_cu (r : LR) (v : Int64) : lr_cu (lr_set_ea r v) = lr_cu r := rfl
theorem sea_pr (r : LR) (v : Int64) : lr_pr (lr_set_ea r v) = lr_pr r := rfl
theorem sea_ea (r : LR) (v : Int64) : lr_ea (lr_set_ea r v) = v := rfl
theorem spr_td (r : LR) (v : Int32) : lr_td (lr_set_pr r v) = lr_td r := rfl
theorem spr_cu (r : LR) (v : Int32) : lr_cu (lr_set_pr r v) = lr_cu r := rfl
theorem spr_pr (r : LR) (v : Int32) : lr_pr (lr_set_pr r v) = v := rfl
theorem spr_ea (r : LR) (v : Int32) : lr_ea (lr_set_pr r v) = lr_ea r := rfl
theorem sfz_ea (r : LR) (v : Int32) : lr_ea (lr_set_fz r v) = lr_ea r := rfl
theorem drwR_cu (r : LR) : lr_cu (drwR r) = lr_cu r := sea_cu r _
theorem drwR_td (r : LR) : lr_td (drwR r) = lr_td r := sea_td r _
theorem drwR_pr (r : LR) : lr_pr (drwR r) = lr_pr r := sea_pr r _
theorem drwR_ea (r : LR) : lr_ea (drwR r) = remR r := sea_ea r _
theorem drwC_pr (r : LR) (x : Int32) : drwC (lr_set_pr r x) = drwC r := congrArg (fun e : Int64 => Int64.toInt32 (e / 3650000)) (spr_ea r x)
theorem remR_pr (r : LR) (x : Int32) : remR (lr_set_pr r x) = remR r := congrArg (fun e : Int64 => e - e / 3650000 * 3650000) (spr_ea r x)
theorem drwC_fz (r : LR) (x : Int32) : drwC (lr_set_fz r x) = drwC r := congrArg (fun e : Int64 => Int64.toInt32 (e / 3650000)) (sfz_ea r x)
theorem remR_fz (r : LR) (x : Int32) : remR (lr_set_fz r x) = remR r := congrArg (fun e : Int64 => e - e / 3650000 * 3650000) (sfz_ea r x)
theorem die_cu (r : LR) (c : Int32) : lr_cu (dieR r c) = lr_cu r := (sea_cu _ _).trans ((drwR_cu _).trans (spr_cu r _))
theorem die_td (r : LR) (c : Int32) : lr_td (dieR r c) = lr_td r := (sea_td _ _).trans ((drwR_td _).trans (spr_td r _))
theorem die_pr (r : LR) (c : Int32) : lr_pr (dieR r c) = lr_pr r - c := (sea_pr _ _).trans ((drwR_pr _).trans (spr_pr r _))
theorem bT_td {r t : LR} (h : lr_td r = lr_td t) : bT r = bT t := congrArg (fun d : Int32 => if d ≤ 0 then (0 : Int32) else 1) h
theorem drwR_bT (r : LR) : bT (drwR r) = bT r := bT_td (drwR_td r)
theorem die_bT (r : LR) (c : Int32) : bT (dieR r c) = bT r := bT_td (die_td r c)
section PO
variable {S : CS} {i : Nat} {c : Int32}
theorem npd_in {cu : Int32} (h : vp_in cu 4) (c : Int32) : cs_paid (npd S cu c) = vp_updL (cs_paid S) cu.toNatClampNeg (cs_paid S cu.toNatClampNeg + Int32.toInt64 c) := by
  show (if cu < 0 then cs_paid S else if 4 ≤ cu then cs_paid S else _) = _
  rw [if_neg (cu_in h).1, if_neg (cu_in h).2]
theorem npd_lt (cu c : Int32) : cs_lt (npd S cu c) = cs_lt S := rfl
theorem npd_lost (cu c : Int32) : cs_lost (npd S cu c) = cs_lost S := rfl
theorem po2_lt : cs_lt (po2 S i c) = va_up (cs_lt S) i (lr_set_pr (cs_lt S i) (lr_pr (cs_lt S i) - c)) := rfl
theorem po2_at : cs_lt (po2 S i c) i = lr_set_pr (cs_lt S i) (lr_pr (cs_lt S i) - c) := by rw [po2_lt, va_up_self]
theorem po1_at : cs_lt (po1 S i c) i = lr_set_pr (cs_lt S i) (lr_pr (cs_lt S i) - c) := va_up_self _ _ _
theorem po2_paid (h : vp_in (lr_cu (cs_lt S i)) 4) : cs_paid (po2 S i c) = vp_updL (cs_paid S) (lr_cu (cs_lt S i)).toNatClampNeg (cs_paid S (lr_cu (cs_lt S i)).toNatClampNeg + Int32.toInt64 c) := by
  have e : lr_cu (cs_lt (po1 S i c) i) = lr_cu (cs_lt S i) := by rw [po1_at]
  rw [po2, npd_in (by rw [e]; exact h), e]
  rfl
theorem po2_lost : cs_lost (po2 S i c) = cs_lost S := rfl
theorem drw_lt : cs_lt (drwS S i) = va_up (cs_lt S) i (drwR (cs_lt S i)) := rfl
theorem drw_at : cs_lt (drwS S i) i = drwR (cs_lt S i) := va_up_self _ _ _
theorem drw_paid : cs_paid (drwS S i) = cs_paid S := rfl
theorem pin_lt : cs_lt (pinS S i) = va_up (cs_lt S) i (drwR (cs_lt S i)) := rfl
theorem pin_at : cs_lt (pinS S i) i = drwR (cs_lt S i) := va_up_self _ _ _
theorem pin_paid (h : vp_in (lr_cu (cs_lt S i)) 4) : cs_paid (pinS S i) = vp_updL (cs_paid S) (lr_cu (cs_lt S i)).toNatClampNeg (cs_paid S (lr_cu (cs_lt S i)).toNatClampNeg + Int32.toInt64 (drwC (cs_lt S i))) := by
  have e : lr_cu (cs_lt (drwS S i) i) = lr_cu (cs_lt S i) := by rw [drw_at, drwR_cu]
  rw [pinS, npd_in (by rw [e]; exact h), e, drw_paid]
theorem pin_lost : cs_lost (pinS S i) = cs_lost S := rfl
theorem los_lt (x : Int64) : cs_lt (los S i x) = va_up (cs_lt S) i (lr_set_ea (cs_lt S i) (lr_ea (cs_lt S i) - x)) := rfl
theorem los_at (x : Int64) : cs_lt (los S i x) i = lr_set_ea (cs_lt S i) (lr_ea (cs_lt S i) - x) := va_up_self _ _ _
theorem los_paid (x : Int64) : cs_paid (los S i x) = cs_paid S := rfl
theorem los_lost (h : vp_in (lr_cu (cs_lt S i)) 4) (x : Int64) : cs_lost (los S i x) = vp_updL (cs_lost S) (lr_cu (cs_lt S i)).toNatClampNeg (cs_lost S (lr_cu (cs_lt S i)).toNatClampNeg + x) := by
  have e : lr_cu (cs_lt (los1 S i x) i) = lr_cu (cs_lt S i) := by
    show lr_cu (va_up (cs_lt S) i _ i) = _
    rw [va_up_self]
  show (if lr_cu (cs_lt (los1 S i x) i) < 0 then cs_lost S else if 4 ≤ lr_cu (cs_lt (los1 S i x) i) then cs_lost S else vp_updL (cs_lost S) (lr_cu (cs_lt (los1 S i x) i)).toNatClampNeg (cs_lost S (lr_cu (cs_lt (los1 S i x) i)).toNatClampNeg + x)) = _
  rw [e, if_neg (cu_in h).1, if_neg (cu_in h).2]
theorem sc_poS : scS S (poS S i c) := ⟨fx_poS S i c, rfl, rfl, rfl, rfl⟩
/-- some principal is left -/
theorem po_live (h : vp_in (lr_cu (cs_lt S i)) 4) (hc : ¬ lr_pr (cs_lt S i) - c ≤ 0) : cs_lt (poS S i c) = va_up (cs_lt S) i (lr_set_pr (cs_lt S i) (lr_pr (cs_lt S i) - c)) ∧ cs_paid (poS S i c) = vp_updL (cs_paid S) (lr_cu (cs_lt S i)).toNatClampNeg (cs_paid S (lr_cu (cs_lt S i)).toNatClampNeg + Int32.toInt64 c) ∧ cs_lost (poS S i c) = cs_lost S ∧ poC S i c = c := by
  have k : ¬ lr_pr (cs_lt (po2 S i c) i) ≤ 0 := by rw [po2_at]; exact hc
  refine ⟨?_, ?_, ?_, ?_⟩
  · show (if lr_pr (cs_lt (po2 S i c) i) ≤ 0 then _ else cs_lt (po2 S i c)) = _
    rw [if_neg k, po2_lt]
  · show (if lr_pr (cs_lt (po2 S i c) i) ≤ 0 then _ else cs_paid (po2 S i c)) = _
    rw [if_neg k, po2_paid h]
  · show (if lr_pr (cs_lt (po2 S i c) i) ≤ 0 then _ else cs_lost (po2 S i c)) = _
    rw [if_neg k, po2_lost]
  · rw [poC, if_neg k]
/-- none is left -/
theorem po_dead (h : vp_in (lr_cu (cs_lt S i)) 4) (hc : lr_pr (cs_lt S i) - c ≤ 0) : cs_lt (poS S i c) = va_up (cs_lt S) i (dieR (cs_lt S i) c) ∧ cs_paid (poS S i c) = vp_updL (cs_paid S) (lr_cu (cs_lt S i)).toNatClampNeg (cs_paid S (lr_cu (cs_lt S i)).toNatClampNeg + Int32.toInt64 c + Int32.toInt64 (drwC (cs_lt S i))) ∧ cs_lost (poS S i c) = vp_updL (cs_lost S) (lr_cu (cs_lt S i)).toNatClampNeg (cs_lost S (lr_cu (cs_lt S i)).toNatClampNeg + remR (cs_lt S i)) ∧ poC S i c = c + drwC (cs_lt S i) := by
  have k : lr_pr (cs_lt (po2 S i c) i) ≤ 0 := by rw [po2_at]; exact hc
  have e1 : lr_cu (cs_lt (po2 S i c) i) = lr_cu (cs_lt S i) := by rw [po2_at]
  have e2 : lr_cu (cs_lt (pinS (po2 S i c) i) i) = lr_cu (cs_lt S i) := by rw [pin_at, drwR_cu]; exact e1
  refine ⟨?_, ?_, ?_, ?_⟩
  · show (if lr_pr (cs_lt (po2 S i c) i) ≤ 0 then cs_lt (los (pinS (po2 S i c) i) i (lr_ea (cs_lt (pinS (po2 S i c) i) i))) else _) = _
    rw [if_pos k, los_lt, pin_at, pin_lt, po2_at, po2_lt, va_up_two, va_up_two, dieR]
  · show (if lr_pr (cs_lt (po2 S i c) i) ≤ 0 then cs_paid (los (pinS (po2 S i c) i) i (lr_ea (cs_lt (pinS (po2 S i c) i) i))) else _) = _
    rw [if_pos k, los_paid, pin_paid (by rw [e1]; exact h), e1, po2_paid h, updL_two, updL_self, po2_at, drwC_pr]
  · show (if lr_pr (cs_lt (po2 S i c) i) ≤ 0 then cs_lost (los (pinS (po2 S i c) i) i (lr_ea (cs_lt (pinS (po2 S i c) i) i))) else _) = _
    rw [if_pos k, los_lost (by rw [e2]; exact h), e2, pin_lost, po2_lost, pin_at, po2_at, drwR_ea, remR_pr]
  · rw [poC, if_pos k, po2_at, drwC_pr]
end PO
/-- of a dead lot little is asked -/
theorem relL_dead {r : LR} {day th te ow pr fz nd le en ins bg : Int32} {ea tp : Int64} (h1 : lr_cu r = ow) (h2 : bT r = te) (h3 : lr_pr r ≤ 0) (h4 : th = 0) : relL r day th te ow pr fz nd le en ins bg ea tp :=
  ⟨h1, h2, ⟨fun _ => h4, fun _ => h3⟩, fun k => absurd h3 k⟩
theorem ext_add {x y : Int32} (h1 : -2147483648 ≤ x.toInt + y.toInt) (h2 : x.toInt + y.toInt < 2147483648) : Int32.toInt64 (x + y) = Int32.toInt64 x + Int32.toInt64 y := by
  apply Int64.toInt_inj.mp
  have a := i_b x
  have b := i_b y
  rw [Int32.toInt_toInt64, i_add h1 h2, j_add, Int32.toInt_toInt64, Int32.toInt_toInt64]
  · rw [Int32.toInt_toInt64, Int32.toInt_toInt64]; omega
  · rw [Int32.toInt_toInt64, Int32.toInt_toInt64]; omega
section MPO
variable (M : MS) (j : Nat)
theorem mTi_f : ms_paid (mTi M j) = ms_paid M ∧ ms_lost (mTi M j) = ms_lost M ∧ scM M (mTi M j) ∧ (∀ q, q ≠ j → sam M (mTi M j) q) := ⟨rfl, rfl, ⟨rfl, rfl, rfl, rfl, rfl, rfl, rfl⟩, fun q hq => ⟨rfl, rfl, rfl, rfl, rfl, rfl, rfl, rfl, rfl, rfl, updL_ne hq, rfl⟩⟩
theorem mTi_ea : ms_ea (mTi M j) j = ms_ea M j - ms_ea M j / 3650000 * 3650000 := updL_self _ _ _
theorem mEn_paid : ms_paid (mEn M j) = ms_paid M := rfl
theorem mEn_lost : ms_lost (mEn M j) = vp_updL (ms_lost M) (ms_ow M j).toNatClampNeg (ms_lost M (ms_ow M j).toNatClampNeg + (ms_ea M j - ms_ea M j / 3650000 * 3650000)) := by
  rw [← mTi_ea M j]
  rfl
theorem mEn_sc : scM M (mEn M j) := ⟨rfl, rfl, rfl, rfl, rfl, rfl, rfl⟩
theorem mEn_sam : ∀ q, q ≠ j → sam M (mEn M j) q := fun q hq => ⟨upd_ne hq, rfl, rfl, rfl, rfl, rfl, rfl, rfl, rfl, rfl, updL_ne hq, rfl⟩
theorem mEn_th : ms_th (mEn M j) j = 0 := by
  show upd (ms_th M) j (0 &&& 1) j = 0
  rw [upd_self]; rfl
theorem mPa_paid (cu x : Int32) : ms_paid (mPa M cu x) = vp_updL (ms_paid M) cu.toNatClampNeg (ms_paid M cu.toNatClampNeg + Int32.toInt64 x) := rfl
theorem mPa_sc (cu x : Int32) : scM M (mPa M cu x) := ⟨rfl, rfl, rfl, rfl, rfl, rfl, rfl⟩
theorem mPa_sam (cu x : Int32) (q : Nat) : sam M (mPa M cu x) q := ⟨rfl, rfl, rfl, rfl, rfl, rfl, rfl, rfl, rfl, rfl, rfl, rfl⟩
theorem mPa_lost (cu x : Int32) : ms_lost (mPa M cu x) = ms_lost M := rfl
end MPO
section TAKE
variable {S : CS} {M : MS}
theorem note_drw (h : Rel S M) {j : Nat} (hj : j < cs_n S) (h3 : ¬ lr_pr (cs_lt S j) ≤ 0) (h4 : bT (cs_lt S j) = 0) : 0 ≤ (drwC (cs_lt S j)).toInt ∧ (drwC (cs_lt S j)).toInt ≤ 16438357 := by
  have n6 := (((h.lot hj).2.2.2 h3).2.2.1 h4).2.2.2.2.2.2.2.2
  have hd := h.2.2.2.2.2.2.2.2.2.2.2.2.1
  have e := (cents (x := lr_ea (cs_lt S j)) n6.1 (by omega)).1
  show 0 ≤ (Int64.toInt32 (lr_ea (cs_lt S j) / 3650000)).toInt ∧ (Int64.toInt32 (lr_ea (cs_lt S j) / 3650000)).toInt ≤ _
  rw [e]
  omega
theorem mTk1_f (M : MS) (j : Nat) : ms_pr (mTk1 M j) j = ms_pr M j - ms_fz M j ∧ ms_fz (mTk1 M j) j = 0 ∧ ms_paid (mTk1 M j) = ms_paid M ∧ ms_lost (mTk1 M j) = ms_lost M ∧ ms_ea (mTk1 M j) = ms_ea M ∧ ms_ow (mTk1 M j) = ms_ow M ∧ scM M (mTk1 M j) ∧ (∀ q, q ≠ j → sam M (mTk1 M j) q) :=
  ⟨upd_self _ _ _, upd_self _ _ _, rfl, rfl, rfl, rfl, ⟨rfl, rfl, rfl, rfl, rfl, rfl, rfl⟩, fun q hq => ⟨rfl, rfl, rfl, upd_ne hq, upd_ne hq, rfl, rfl, rfl, rfl, rfl, rfl, rfl⟩⟩
theorem i_sub_le {x y : Int32} (h1 : 0 ≤ y.toInt) (h2 : y.toInt ≤ x.toInt) : (x - y).toInt = x.toInt - y.toInt := by
  have := i_b x
  exact i_sub (by omega) (by omega)
theorem i_eq0 {x : Int32} : x = 0 ↔ x.toInt = 0 := by
  constructor
  · intro h; rw [h]; rfl
  · intro h; exact Int32.toInt_inj.mp h
theorem sim_take (h : Rel S M) (z : Int32) : Sim (tkC S z) (plIS (tkC S z)) (kTk M z) (Int32.toInt64 (poC (wdS S z) (Int32.toNatClampNeg z) (lr_fz (cs_lt S (Int32.toNatClampNeg z))))) (Int32.toInt64 (mTkV (mT0 M) (Int32.toNatClampNeg z))) (poS (wdS S z) (Int32.toNatClampNeg z) (lr_fz (cs_lt S (Int32.toNatClampNeg z)))) (mTk (mT0 M) (Int32.toNatClampNeg z)) := by
  rcases lot_or h z with ⟨h1, h2, h3, h4, h5, h6⟩ | ⟨h1, h2, h3⟩
  · have g := h.lot h4
    have ga := g.2.2.2 h5
    have hday : cs_day S = ms_now M := h.2.2.2.2.2.2.2.2.1
    by_cases c : bT (cs_lt S z.toNatClampNeg) = 0
    · have hte : ms_te M z.toNatClampNeg = 0 := g.2.1.symm.trans c
      have hfz := (ga.2.2.1 c).1
      by_cases d : lr_fz (cs_lt S z.toNatClampNeg) = 0
      · have d2 : ms_fz M z.toNatClampNeg = 0 := hfz.symm.trans d
        exact Or.inr ⟨by rw [tkC, if_pos h1, if_pos d]; decide, by rw [kTk, if_neg h3, if_pos hte, if_pos d2]; decide, by rw [tkC, if_pos h1, if_pos d, kTk, if_neg h3, if_pos hte, if_pos d2]; rfl⟩
      · have d2 : ¬ ms_fz M z.toNatClampNeg = 0 := fun q => d (hfz.trans q)
        obtain ⟨n1, n2, n3, n4, n5, n6, n7⟩ := (ga.2.2.1 c).2.2
        obtain ⟨n61, n62, n63, n64⟩ := n6.resolve_left d
        by_cases e : lr_tf (cs_lt S z.toNatClampNeg) ≤ cs_day S
        · have e2 : ms_nd M z.toNatClampNeg + 32 ≤ ms_now M := by rw [← n61, ← hday]; exact e
          have hv := note_drw h h4 h5 c
          have a1 := alive_b h5
          generalize hk : z.toNatClampNeg = k at *
          have hT1 := mTk1_f (mT0 M) k
          obtain ⟨t1, t2, t3, t4, t5, t6, t7, t8⟩ := hT1
          have hwd : cs_lt (wdS S z) = va_up (cs_lt S) k (lr_set_fz (cs_lt S k) 0) := by rw [← hk]; rfl
          have hwa : cs_lt (wdS S z) k = lr_set_fz (cs_lt S k) 0 := by rw [hwd, va_up_self]
          have hwc : vp_in (lr_cu (cs_lt (wdS S z) k)) 4 := by rw [hwa]; exact h.cu h4
          have hcu : lr_cu (cs_lt S k) = ms_ow M k := g.1
          have hpd : cs_paid S = ms_paid M := h.2.2.2.2.1
          have hls : cs_lost S = ms_lost M := h.2.2.2.2.2.1
          have hsc : scS S (wdS S z) := ⟨⟨rfl, rfl, rfl, rfl⟩, rfl, rfl, rfl, rfl⟩
          have hpr : lr_pr (cs_lt S k) = ms_pr M k := ga.1
          have hea : lr_ea (cs_lt S k) = ms_ea M k := ga.2.1
          have es := i_sub_le n4 n5
          have hdr : drwC (cs_lt S k) = Int64.toInt32 (ms_ea (mT0 M) k / 3650000) := by rw [drwC, hea]
          have hrm : remR (cs_lt S k) = ms_ea (mT0 M) k - ms_ea (mT0 M) k / 3650000 * 3650000 := by rw [remR, hea]
          refine Or.inl ⟨by rw [tkC, hk, if_pos h1, if_neg d, if_pos e], by rw [kTk, hk, if_neg h3, if_pos hte, if_neg d2, if_pos e2], ?_, ?_⟩
          · by_cases f : lr_pr (cs_lt S k) - lr_fz (cs_lt S k) ≤ 0
            · have f2 : ms_pr (mTk1 (mT0 M) k) k = 0 := by
                rw [t1]
                show ms_pr M k - ms_fz M k = 0
                rw [← hpr, ← hfz, i_eq0]
                rw [i_le, i_0] at f
                omega
              rw [(po_dead hwc (by rw [hwa]; exact f)).2.2.2, mTkV, if_pos f2, hwa, mTiC, t5, drwC_fz, hdr]
              rw [hfz]
            · have f2 : ¬ ms_pr (mTk1 (mT0 M) k) k = 0 := by
                rw [t1]
                show ¬ ms_pr M k - ms_fz M k = 0
                rw [← hpr, ← hfz, i_eq0]
                rw [i_le, i_0] at f
                omega
              rw [(po_live hwc (by rw [hwa]; exact f)).2.2.2, mTkV, if_neg f2]
              show Int32.toInt64 (lr_fz (cs_lt S k)) = Int32.toInt64 (ms_fz M k)
              rw [hfz]
          · by_cases f : lr_pr (cs_lt S k) - lr_fz (cs_lt S k) ≤ 0
            · have f2 : ms_pr (mTk1 (mT0 M) k) k = 0 := by
                rw [t1]
                show ms_pr M k - ms_fz M k = 0
                rw [← hpr, ← hfz, i_eq0]
                rw [i_le, i_0] at f
                omega
              obtain ⟨u1, u2, u3, u4⟩ := po_dead hwc (c := lr_fz (cs_lt S k)) (by rw [hwa]; exact f)
              have hM2 : mTk2 (mT0 M) k = mEn (mTk1 (mT0 M) k) k := by rw [mTk2, if_pos f2]
              have hV : mTkV (mT0 M) k = ms_fz M k + drwC (cs_lt S k) := by
                rw [mTkV, if_pos f2, mTiC, t5, hdr]
              have ext : Int32.toInt64 (ms_fz M k + drwC (cs_lt S k)) = Int32.toInt64 (lr_fz (cs_lt S k)) + Int32.toInt64 (drwC (cs_lt S k)) := by
                rw [← hfz]
                exact ext_add (x := lr_fz (cs_lt S k)) (y := drwC (cs_lt S k)) (by omega) (by omega)
              rw [mTk, hM2, hV]
              refine Rel.chg1 h h4 (hsc.tr sc_poS) (t7.tr ((mEn_sc _ _).tr (mPa_sc _ _ _))) ?_ ?_ (r := dieR (lr_set_fz (cs_lt S k) 0) (lr_fz (cs_lt S k))) ?_ (fun q hq => (t8 q hq).tr ((mEn_sam _ _ q hq).tr (mPa_sam _ _ _ q))) ?_ ?_
              · rw [u2, mPa_paid, mEn_paid, t3, hwa, ext, drwC_fz]
                show vp_updL (cs_paid S) (lr_cu (cs_lt S k)).toNatClampNeg (cs_paid S (lr_cu (cs_lt S k)).toNatClampNeg + Int32.toInt64 (lr_fz (cs_lt S k)) + Int32.toInt64 (drwC (cs_lt S k))) = vp_updL (ms_paid M) (ms_ow M k).toNatClampNeg (ms_paid M (ms_ow M k).toNatClampNeg + (Int32.toInt64 (lr_fz (cs_lt S k)) + Int32.toInt64 (drwC (cs_lt S k))))
                rw [hcu, hpd, Int64.add_assoc]
              · rw [u3, mPa_lost, mEn_lost, t4, t5, t6, hwa, remR_fz, hrm]
                show vp_updL (cs_lost S) (lr_cu (cs_lt S k)).toNatClampNeg (cs_lost S (lr_cu (cs_lt S k)).toNatClampNeg + _) = vp_updL (ms_lost M) (ms_ow M k).toNatClampNeg (ms_lost M (ms_ow M k).toNatClampNeg + _)
                rw [hcu, hls]
              · rw [u1, hwd, va_up_two, va_up_self]
              · exact relL_dead ((die_cu _ _).trans g.1) ((die_bT _ _).trans g.2.1) (by rw [die_pr]; exact f) (mEn_th (mTk1 (mT0 M) k) k)
              · have w0 : wP (dieR (lr_set_fz (cs_lt S k) 0) (lr_fz (cs_lt S k))) = 0 := wP_dead (by rw [die_pr]; exact f)
                rw [w0]; exact wP_pos h h4
            · have f2 : ¬ ms_pr (mTk1 (mT0 M) k) k = 0 := by
                rw [t1]
                show ¬ ms_pr M k - ms_fz M k = 0
                rw [← hpr, ← hfz, i_eq0]
                rw [i_le, i_0] at f
                omega
              obtain ⟨u1, u2, u3, u4⟩ := po_live hwc (c := lr_fz (cs_lt S k)) (by rw [hwa]; exact f)
              have hM2 : mTk2 (mT0 M) k = mTk1 (mT0 M) k := by rw [mTk2, if_neg f2]
              have hV : mTkV (mT0 M) k = ms_fz M k := by rw [mTkV, if_neg f2]
              rw [mTk, hM2, hV]
              refine Rel.chg1 h h4 (hsc.tr sc_poS) (t7.tr (mPa_sc _ _ _)) ?_ ?_ (r := lr_set_pr (lr_set_fz (cs_lt S k) 0) (lr_pr (cs_lt S k) - lr_fz (cs_lt S k))) ?_ (fun q hq => (t8 q hq).tr (mPa_sam _ _ _ q)) ?_ ?_
              · rw [u2, mPa_paid, t3, hwa]
                show vp_updL (cs_paid S) (lr_cu (cs_lt S k)).toNatClampNeg (cs_paid S (lr_cu (cs_lt S k)).toNatClampNeg + Int32.toInt64 (lr_fz (cs_lt S k))) = vp_updL (ms_paid M) (ms_ow M k).toNatClampNeg (ms_paid M (ms_ow M k).toNatClampNeg + Int32.toInt64 (ms_fz M k))
                rw [hcu, hpd, hfz]
              · rw [u3, mPa_lost, t4]
                exact hls
              · rw [u1, hwd, va_up_two, va_up_self]
              · have hp1 : ms_pr (mPa (mTk1 (mT0 M) k) (ms_ow (mTk1 (mT0 M) k) k) (ms_fz M k)) k = ms_pr M k - ms_fz M k := t1
                have hp2 : ms_fz (mPa (mTk1 (mT0 M) k) (ms_ow (mTk1 (mT0 M) k) k) (ms_fz M k)) k = 0 := t2
                rw [hp1, hp2]
                have hth : ¬ ms_th M k = 0 := fun q => h5 (g.2.2.1.mpr q)
                refine ⟨g.1, g.2.1, ⟨fun q => absurd q f, fun q => absurd q hth⟩, fun _ => ⟨?_, ga.2.1, fun _ => ⟨rfl, (ga.2.2.1 c).2.1, n1, n2, ?_, Int.le_refl _, ?_, Or.inl rfl, n7⟩, fun q => absurd c q⟩⟩
                · show lr_pr (cs_lt S k) - lr_fz (cs_lt S k) = ms_pr M k - ms_fz M k
                  rw [hpr, hfz]
                · show (lr_pr (cs_lt S k) - lr_fz (cs_lt S k)).toInt ≤ 10000000
                  omega
                · show (0 : Int32).toInt ≤ (lr_pr (cs_lt S k) - lr_fz (cs_lt S k)).toInt
                  rw [i_0]; omega
              · have w0 : wP (lr_set_pr (lr_set_fz (cs_lt S k) 0) (lr_pr (cs_lt S k) - lr_fz (cs_lt S k))) = 0 := wP_note c
                rw [w0]; exact wP_pos h h4
        · have e2 : ¬ ms_nd M z.toNatClampNeg + 32 ≤ ms_now M := by rw [← n61, ← hday]; exact e
          exact Or.inr ⟨by rw [tkC, if_pos h1, if_neg d, if_neg e]; decide, by rw [kTk, if_neg h3, if_pos hte, if_neg d2, if_neg e2]; decide, by rw [tkC, if_pos h1, if_neg d, if_neg e, kTk, if_neg h3, if_pos hte, if_neg d2, if_neg e2]; rfl⟩
    · have hte : ¬ ms_te M z.toNatClampNeg = 0 := fun q => c (g.2.1.trans q)
      have d := (ga.2.2.2 c).2.2.2.2.2.1
      exact Or.inr ⟨by rw [tkC, if_pos h1, if_pos d]; decide, by rw [kTk, if_neg h3, if_neg hte]; decide, by rw [tkC, if_pos h1, if_pos d, kTk, if_neg h3, if_neg hte]; rfl⟩
  · have d : ¬ lotC S z = 0 := by rw [h1]; decide
    exact Or.inr ⟨by rw [tkC, if_neg d]; decide, by rw [kTk, if_pos h3]; decide, by rw [tkC, if_neg d, kTk, if_pos h3]; rfl⟩
end TAKE
