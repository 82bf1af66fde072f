def mEt1 (M : MS) (j : Nat) : MS := ms_set_paid (mEn M j) (vp_updL (ms_paid (mEn M j)) (ms_ow (mEn M j) j).toNatClampNeg (ms_paid (mEn M j) (ms_ow (mEn M j) j).toNatClampNeg + (Int32.toInt64 (ms_pr M j) + Int32.toInt64 (mTiC M j))))
def mEt2 (M : MS) (j : Nat) : MS := ms_set_pr (mTi M j) (upd (ms_pr (mTi M j)) j (ms_pr (mTi M j) j + mTiC M j))
def mEt3 (M : MS) (j : Nat) : MS := ms_set_bg M (upd (ms_bg M) j (ms_now M))
def mEt (M : MS) (j : Nat) : MS := if ms_ins M j = 0 then mEt1 M j else if ms_ins (mTi M j) j = 1 then mEt3 (mBt (mPa (mTi M j) (ms_ow (mTi M j) j) (mTiC M j)) j) j else mEt3 (mBt (mEt2 M j) j) j
abbrev mT0 (M : MS) : MS := ms_set_thr M 0
def kSt (b z : Int32) : Int32 := if mIn b 0 2 = 0 then 1 else if mIn z 0 2000 = 0 then 2 else 0
def kTr (z : Int32) : Int32 := if mIn z 0 2000 = 0 then 1 else 0
def kDp (M : MS) (cu x : Int32) : Int32 := if mCu cu = 0 then 1 else if mIn x 1 10000000 = 0 then 2 else if nI (ms_n M) = 40 then 3 else 0
def kDt (M : MS) (cu x d v : Int32) : Int32 := if mCu cu = 0 then 1 else if mIn x 1 10000000 = 0 then 2 else if mIn d 1 400 = 0 then 2 else if mIn v 0 2 = 0 then 2 else if nI (ms_n M) = 40 then 3 else 0
def mDa (M : MS) (cu x : Int32) : MS := ms_set_te (mOp M cu x) (upd (ms_te (mOp M cu x)) (ms_n M) (1 &&& 1))
def mDb (M : MS) (cu x d : Int32) : MS := ms_set_le (mDa M cu x) (upd (ms_le (mDa M cu x)) (ms_n M) d)
def mDt1 (M : MS) (cu x d v : Int32) : MS := ms_set_ins (mDb M cu x d) (upd (ms_ins (mDb M cu x d)) (ms_n M) v)
def mDt (M : MS) (cu x d v : Int32) : MS := mBt (mDt1 M cu x d v) (ms_n M)
def kGv (M : MS) (z c : Int32) : Int32 := if mLo M z = 0 then 1 else if mIn c 1 (ms_pr M z.toNatClampNeg) = 0 then 2 else if ms_te M z.toNatClampNeg = 0 then (if ms_fz M z.toNatClampNeg ≤ 0 then 0 else 3) else 3
def mGv (M : MS) (z c : Int32) : MS := ms_set_nd (ms_set_fz M (upd (ms_fz M) z.toNatClampNeg c)) (upd (ms_nd M) z.toNatClampNeg (ms_now M))
def kWd (M : MS) (z : Int32) : Int32 := if mLo M z = 0 then 1 else if ms_te M z.toNatClampNeg = 0 then (if ms_fz M z.toNatClampNeg = 0 then 2 else 0) else 2
def mWd (M : MS) (z : Int32) : MS := ms_set_fz M (upd (ms_fz M) z.toNatClampNeg 0)
def kTk (M : MS) (z : Int32) : Int32 := if mLo M z = 0 then 1 else if ms_te M z.toNatClampNeg = 0 then (if ms_fz M z.toNatClampNeg = 0 then 2 else if ms_nd M z.toNatClampNeg + 32 ≤ ms_now M then 0 else 2) else 2
def mTk1 (M : MS) (j : Nat) : MS := ms_set_fz (ms_set_pr M (upd (ms_pr M) j (ms_pr M j - ms_fz M j))) (upd (ms_fz M) j 0)
def mTkV (M : MS) (j : Nat) : Int32 := if ms_pr (mTk1 M j) j = 0 then ms_fz M j + mTiC (mTk1 M j) j else ms_fz M j
def mTk2 (M : MS) (j : Nat) : MS := if ms_pr (mTk1 M j) j = 0 then mEn (mTk1 M j) j else mTk1 M j
def mTk (M : MS) (j : Nat) : MS := mPa (mTk2 M j) (ms_ow (mTk2 M j) j) (mTkV M j)
def kIn (M : MS) (z v : Int32) : Int32 := if mLo M z = 0 then 1 else if mIn v 0 2 = 0 then 2 else if ms_te M z.toNatClampNeg = 0 then 3 else 0
def mInS (M : MS) (z v : Int32) : MS := ms_set_ins M (upd (ms_ins M) z.toNatClampNeg v)
def kLg (M : MS) (z : Int32) : Int32 := if mLo M z = 0 then 1 else if ms_te M z.toNatClampNeg = 0 then 2 else if ms_bg M z.toNatClampNeg = -1 then 2 else if ms_now M - 6 ≤ ms_bg M z.toNatClampNeg then 0 else 2
def mLg1 (M : MS) (j : Nat) : MS := ms_set_lost M (vp_updL (ms_lost M) (ms_ow M j).toNatClampNeg (ms_lost M (ms_ow M j).toNatClampNeg + ms_ea M j))
def mLg (M : MS) (j : Nat) : MS := mPa (mTh (mLg1 M j) j 0) (ms_ow (mTh (mLg1 M j) j 0) j) (ms_pr (mTh (mLg1 M j) j 0) j)
def kJo (M : MS) (z y : Int32) : Int32 := if mLo M z = 0 then 1 else if mLo M y = 0 then 1 else if z = y then 2 else if ms_te M z.toNatClampNeg = 0 then 3 else if ms_te M y.toNatClampNeg = 0 then 3 else if ms_ow M z.toNatClampNeg = ms_ow M y.toNatClampNeg then (if ms_en M z.toNatClampNeg = ms_en M y.toNatClampNeg then (if lg_cmp (Int32.toInt64 (ms_pr M z.toNatClampNeg) + Int32.toInt64 (ms_pr M y.toNatClampNeg)) 100000000 ≤ 0 then 0 else 3) else 3) else 3
def mJo1 (M : MS) (i j : Nat) : MS := ms_set_pr M (upd (ms_pr M) i (ms_pr M i + ms_pr M j))
def mJo2 (M : MS) (i j : Nat) : MS := ms_set_ea M (vp_updL (ms_ea M) i (ms_ea M i + ms_ea M j))
def mJo3 (M : MS) (i j : Nat) : MS := ms_set_tp M (vp_updL (ms_tp M) i (ms_tp M i + ms_tp M j))
def mJo (M : MS) (i j : Nat) : MS := mTh (ms_set_bg (mJo3 (mJo2 (mJo1 M i j) i j) i j) (upd (ms_bg (mJo3 (mJo2 (mJo1 M i j) i j) i j)) i (-1))) j 0
def kAs (M : MS) (z : Int32) : Int32 := if mLo M z = 0 then 1 else 0
def kCu (z : Int32) : Int32 := if mCu z = 0 then 1 else 0
def kPs (M : MS) (d : Int32) : Int32 := if mIn d 1 100 = 0 then 1 else if ms_now M + d ≤ 3000 then 0 else 2
theorem n40 {n : Nat} (h : n ≤ 40) (c : ¬ nI n = 40) : n < 40 := by
  rcases Nat.lt_or_ge n 40 with h1 | h1
  · exact h1
  · have : n = 40 := by omega
    subst this
    exact absurd rfl c
theorem kAs_in {M : MS} {z : Int32} (h : kAs M z = 0) : ¬ mLo M z = 0 := by
  unfold kAs at h
  split at h
  · exact absurd h (by decide)
  · assumption
theorem mIn3 {z : Int32} (h : ¬ mIn z 0 2 = 0) : vp_in z 3 := by
  obtain ⟨h1, h2⟩ := mIn_0 h
  rw [i_lt] at h1 h2
  rw [vp_in_iff]
  have e0 : (0 : Int32).toInt = 0 := rfl
  have e3 : (2 : Int32).toInt = 2 := rfl
  omega
theorem mTk2_ow (M : MS) (j : Nat) : ms_ow (mTk2 M j) = ms_ow M := by
  unfold mTk2
  split <;> rfl
set_option maxHeartbeats 4000000 in
set_option maxRecDepth 100000 in
theorem c_X2_endTerm (l : Launch) (D : va_G) (cI cJ cZ cO : ClassId) (N0 : Nat) (a : Nat → Nat) (S : CS) (M : MS) (ov : Nat → Int64) (z : Int32) (hz : vp_in z 40) (hw : vp_in (ms_ow M (Int32.toNatClampNeg z)) 4) : Ct l D (tysW cI cJ cZ cO) N0 yX2_endTerm cX2_endTerm 4 none { frames := 2, cells := 0, slots := 0, locals := 44 } [.ref (a 5), .int z] (wW cI cJ cZ cO a S M ov) (fun r w2 => r = none ∧ w2 = wW cI cJ cZ cO a S (mEt M (Int32.toNatClampNeg z)) ov) := by
  refine ct_of (by decide +kernel) (Nat.le_of_ble_eq_true rfl) ?_
  intro p e s m args below meth c C
  have C : Cxt p s m args meth c D (tysW cI cJ cZ cO) N0 cX2_endTerm 4 RX2 none "endTerm" := C
  refine go_aload_n C 0 dX2_endTerm_0 rfl rfl ?_
  refine gm_instructions C dX2_endTerm_1 ?_
  refine go_iload_n C 1 dX2_endTerm_4 rfl rfl ?_
  refine lm_instructions C hz dX2_endTerm_5 ?_
  refine go_if_ne C (tgt := 44) dX2_endTerm_6 (by decide) (fun c_1 => ?_) (fun c_1 => ?_)
  · refine go_aload_n C 0 dX2_endTerm_44 rfl rfl ?_
    refine go_iload_n C 1 dX2_endTerm_45 rfl rfl ?_
    refine k_RX2_108 C S M ov z hz ⟨(Nat.le_of_ble_eq_true rfl), (Nat.le_of_ble_eq_true rfl)⟩ ⟨(Nat.le_of_ble_eq_true rfl), (Nat.le_of_ble_eq_true rfl)⟩ (Nat.le_of_ble_eq_true rfl) dX2_endTerm_46 ?_
    refine go_istore_n C (lo' := [(2, .int (mTiC M (Int32.toNatClampNeg z))), (0, .ref (a 5)), (1, .int z)]) dX2_endTerm_49 rfl (by decide) rfl ?_
    refine go_aload_n C 1 dX2_endTerm_50 rfl rfl ?_
    refine gm_instructions C dX2_endTerm_51 ?_
    refine go_iload_n C 2 dX2_endTerm_54 rfl rfl ?_
    refine lm_instructions C hz dX2_endTerm_55 ?_
    refine go_iconst C (v := 1) dX2_endTerm_56 (by decide) ?_
    refine go_icmp_ne C (tgt := 75) dX2_endTerm_57 (by decide) (fun c_2 => ?_) (fun c_2 => ?_)
    · refine go_aload_n C 1 dX2_endTerm_75 rfl rfl ?_
      refine gm_principals C dX2_endTerm_76 ?_
      refine go_iload_n C 2 dX2_endTerm_79 rfl rfl ?_
      refine go_dup2 C dX2_endTerm_80 rfl rfl ?_
      refine lm_principals C hz dX2_endTerm_81 ?_
      refine go_iload_n C 0 dX2_endTerm_82 rfl rfl ?_
      refine go_iadd C dX2_endTerm_83 ?_
      refine sm_principals C hz dX2_endTerm_84 ?_
      refine go_w (w2 := wW cI cJ cZ cO a S (mEt2 M (Int32.toNatClampNeg z)) ov) rfl ?_
      refine go_aload_n C 1 dX2_endTerm_85 rfl rfl ?_
      refine go_iload_n C 2 dX2_endTerm_86 rfl rfl ?_
      refine k_RX2_122 C S (mEt2 M (Int32.toNatClampNeg z)) ov z hz ⟨(Nat.le_of_ble_eq_true rfl), (Nat.le_of_ble_eq_true rfl)⟩ ⟨(Nat.le_of_ble_eq_true rfl), (Nat.le_of_ble_eq_true rfl)⟩ (Nat.le_of_ble_eq_true rfl) dX2_endTerm_87 ?_
      refine go_aload_n C 1 dX2_endTerm_90 rfl rfl ?_
      refine gm_begun C dX2_endTerm_91 ?_
      refine go_iload_n C 2 dX2_endTerm_94 rfl rfl ?_
      refine go_aload_n C 1 dX2_endTerm_95 rfl rfl ?_
      refine gm_now C dX2_endTerm_96 ?_
      refine sm_begun C hz dX2_endTerm_99 ?_
      exact go_return C rfl dX2_endTerm_100 (by decide) (by decide) ⟨rfl, by simp only [mEt, if_neg c_1, if_neg c_2] <;> rfl⟩
    · refine go_aload_n C 1 dX2_endTerm_60 rfl rfl ?_
      refine go_aload_n C 1 dX2_endTerm_61 rfl rfl ?_
      refine gm_owners C dX2_endTerm_62 ?_
      refine go_iload_n C 2 dX2_endTerm_65 rfl rfl ?_
      refine lm_owners C hz dX2_endTerm_66 ?_
      refine go_iload_n C 0 dX2_endTerm_67 rfl rfl ?_
      refine k_RX2_132 C S (mTi M (Int32.toNatClampNeg z)) ov (ms_ow (mTi M (Int32.toNatClampNeg z)) (Int32.toNatClampNeg z)) (mTiC M (Int32.toNatClampNeg z)) hw ⟨(Nat.le_of_ble_eq_true rfl), (Nat.le_of_ble_eq_true rfl)⟩ ⟨(Nat.le_of_ble_eq_true rfl), (Nat.le_of_ble_eq_true rfl)⟩ (Nat.le_of_ble_eq_true rfl) dX2_endTerm_68 ?_
      refine go_pop C dX2_endTerm_71 rfl ?_
      refine go_goto C (tgt := 85) dX2_endTerm_72 (by decide) ?_
      refine go_aload_n C 1 dX2_endTerm_85 rfl rfl ?_
      refine go_iload_n C 2 dX2_endTerm_86 rfl rfl ?_
      refine k_RX2_122 C S (mPa (mTi M (Int32.toNatClampNeg z)) (ms_ow (mTi M (Int32.toNatClampNeg z)) (Int32.toNatClampNeg z)) (mTiC M (Int32.toNatClampNeg z))) ov z hz ⟨(Nat.le_of_ble_eq_true rfl), (Nat.le_of_ble_eq_true rfl)⟩ ⟨(Nat.le_of_ble_eq_true rfl), (Nat.le_of_ble_eq_true rfl)⟩ (Nat.le_of_ble_eq_true rfl) dX2_endTerm_87 ?_
      refine go_aload_n C 1 dX2_endTerm_90 rfl rfl ?_
      refine gm_begun C dX2_endTerm_91 ?_
      refine go_iload_n C 2 dX2_endTerm_94 rfl rfl ?_
      refine go_aload_n C 1 dX2_endTerm_95 rfl rfl ?_
      refine gm_now C dX2_endTerm_96 ?_
      refine sm_begun C hz dX2_endTerm_99 ?_
      exact go_return C rfl dX2_endTerm_100 (by decide) (by decide) ⟨rfl, by simp only [mEt, if_neg c_1, if_pos c_2] <;> rfl⟩
  · refine go_aload_n C 0 dX2_endTerm_9 rfl rfl ?_
    refine gm_principals C dX2_endTerm_10 ?_
    refine go_iload_n C 1 dX2_endTerm_13 rfl rfl ?_
    refine lm_principals C hz dX2_endTerm_14 ?_
    refine go_istore_n C (lo' := [(2, .int (ms_pr M (Int32.toNatClampNeg z))), (0, .ref (a 5)), (1, .int z)]) dX2_endTerm_15 rfl (by decide) rfl ?_
    refine go_aload_n C 1 dX2_endTerm_16 rfl rfl ?_
    refine go_iload_n C 2 dX2_endTerm_17 rfl rfl ?_
    refine k_RX2_129 C S M ov z hz hw ⟨(Nat.le_of_ble_eq_true rfl), (Nat.le_of_ble_eq_true rfl)⟩ ⟨(Nat.le_of_ble_eq_true rfl), (Nat.le_of_ble_eq_true rfl)⟩ (Nat.le_of_ble_eq_true rfl) dX2_endTerm_18 ?_
    refine go_istore_n C (lo' := [(3, .int (mTiC M (Int32.toNatClampNeg z))), (2, .int (ms_pr M (Int32.toNatClampNeg z))), (0, .ref (a 5)), (1, .int z)]) dX2_endTerm_21 rfl (by decide) rfl ?_
    refine go_aload_n C 2 dX2_endTerm_22 rfl rfl ?_
    refine gm_paidTo C dX2_endTerm_23 ?_
    refine go_aload_n C 2 dX2_endTerm_26 rfl rfl ?_
    refine gm_owners C dX2_endTerm_27 ?_
    refine go_iload_n C 3 dX2_endTerm_30 rfl rfl ?_
    refine lm_owners C hz dX2_endTerm_31 ?_
    refine go_dup2 C dX2_endTerm_32 rfl rfl ?_
    refine lm_paidTo C hw dX2_endTerm_33 ?_
    refine go_iload_n C 1 dX2_endTerm_34 rfl rfl ?_
    refine go_i2l C dX2_endTerm_35 ?_
    refine go_iload_n C 0 dX2_endTerm_36 rfl rfl ?_
    refine go_i2l C dX2_endTerm_37 ?_
    refine go_ladd C dX2_endTerm_38 ?_
    refine go_ladd C dX2_endTerm_39 ?_
    refine sm_paidTo C hw dX2_endTerm_40 ?_
    refine go_goto C (tgt := 100) dX2_endTerm_41 (by decide) ?_
    exact go_return C rfl dX2_endTerm_100 (by decide) (by decide) ⟨rfl, by simp only [mEt, if_pos c_1] <;> rfl⟩
theorem k_RX2_146 {p : Program} {l : Launch} {e : Env} {R : Room} {s : State} {m : MethodId} {args : Array Value} {below : List Frame} {meth : Method} {c : Code} {D : va_G} {N0 mL : Nat} {cc : ByteArray} {nm : String} {ret : Option FieldType} {Q : State → Prop} {k n pc : Nat} {lo : List (Nat × Value)} {st : List Value} {cI cJ cZ cO : ClassId} {a : Nat → Nat} (C : Cxt p s m args meth c D (tysW cI cJ cZ cO) N0 cc mL RX2 ret nm) (S : CS) (M : MS) (ov : Nat → Int64) (z : Int32) (hz : vp_in z 40) (hw : vp_in (ms_ow M (Int32.toNatClampNeg z)) 4) (hR : 2 + 1 ≤ R.frames ∧ 8 + (4 + 11) + 44 ≤ R.locals) (hcs : k + 0 ≤ R.cells ∧ n + 0 ≤ R.slots) (hcat : (st.map fun v => v.category).sum ≤ 8) (dk : decode cc pc = .ok (.invokevirtual 146, 3)) (g : Go p l e R s m args below meth c D N0 mL Q (wW cI cJ cZ cO a S (mEt M (Int32.toNatClampNeg z)) ov) (k) (n) (pc + 3) lo (st)) : Go p l e R s m args below meth c D N0 mL Q (wW cI cJ cZ cO a S M ov) k n pc lo (.int z :: .ref (a 5) :: st) :=
  go_callV C (ci := 2) (r9 := (RX2, TX2, 23)) (qi := 5) (As := [.int z]) (rest := st) rfl rfl (c_X2_endTerm l D cI cJ cZ cO N0 a S M ov z hz hw) ⟨rfl, by decide +kernel, by decide +kernel⟩ bl_RX2_146 bi_yX2_endTerm bs_yX2_endTerm bz_NoticeBookModel bc_yX2_endTerm (show Option.map (fun d => d.parameters.length) (parseMethodDescriptor yX2_endTerm.desc) = some 1 by decide +kernel) hR hcs hcat dk (fun r w2 h => by obtain ⟨rfl, rfl⟩ := h; exact g) rfl
