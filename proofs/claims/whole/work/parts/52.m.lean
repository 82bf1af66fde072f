set_option maxHeartbeats 4000000 in
set_option maxRecDepth 100000 in
theorem c_X2_takeInterest (l : Launch) (D : va_G) (cI cJ cZ cO : ClassId) (N0 : Nat) (a : Nat → Nat) (S : CS) (M : MS) (ov : Nat → Int64) (z : Int32) (hz : vp_in z 40) : Ct l D (tysW cI cJ cZ cO) N0 yX2_takeInterest cX2_takeInterest 3 (some .int) { frames := 0, cells := 0, slots := 0, locals := 0 } [.ref (a 5), .int z] (wW cI cJ cZ cO a S M ov) (fun r w2 => r = some (.int (mTiC M (Int32.toNatClampNeg z))) ∧ w2 = wW cI cJ cZ cO a S (mTi M (Int32.toNatClampNeg z)) ov) := by
  refine ct_of (by decide +kernel) (Nat.le_of_ble_eq_true rfl) ?_
  intro p e s m args below meth c C
  have C : Cxt p s m args meth c D (tysW cI cJ cZ cO) N0 cX2_takeInterest 3 RX2 (some .int) "takeInterest" := C
  refine go_aload_n C 0 dX2_takeInterest_0 rfl rfl ?_
  refine gm_earnings C dX2_takeInterest_1 ?_
  refine go_iload_n C 1 dX2_takeInterest_4 rfl rfl ?_
  refine lm_earnings C hz dX2_takeInterest_5 ?_
  refine go_ldc2 C bk_RX2_106 dX2_takeInterest_6 ?_
  refine go_ldiv C dX2_takeInterest_9 (by decide) ?_
  refine go_l2i C dX2_takeInterest_10 ?_
  refine go_istore_n C (lo' := [(2, .int (Int64.toInt32 ((ms_ea M (Int32.toNatClampNeg z)) / 3650000))), (0, .ref (a 5)), (1, .int z)]) dX2_takeInterest_11 rfl (by decide) rfl ?_
  refine go_aload_n C 1 dX2_takeInterest_12 rfl rfl ?_
  refine gm_earnings C dX2_takeInterest_13 ?_
  refine go_iload_n C 2 dX2_takeInterest_16 rfl rfl ?_
  refine go_dup2 C dX2_takeInterest_17 rfl rfl ?_
  refine lm_earnings C hz dX2_takeInterest_18 ?_
  refine go_ldc2 C bk_RX2_106 dX2_takeInterest_19 ?_
  refine go_lrem C dX2_takeInterest_22 (by decide) ?_
  refine sm_earnings C hz dX2_takeInterest_23 ?_
  refine go_iload_n C 0 dX2_takeInterest_24 rfl rfl ?_
  exact go_ireturn C rfl dX2_takeInterest_25 (by decide) (by decide) ⟨rfl, rfl⟩
theorem k_RX2_108 {p : Program} {l : Launch} {e : Env} {R : Room} {s : State} {m : MethodId} {args : Array Value} {below : List Frame} {meth : Method} {c : Code} {D : va_G} {N0 mL : Nat} {cc : ByteArray} {nm : String} {ret : Option FieldType} {Q : State → Prop} {k n pc : Nat} {lo : List (Nat × Value)} {st : List Value} {cI cJ cZ cO : ClassId} {a : Nat → Nat} (C : Cxt p s m args meth c D (tysW cI cJ cZ cO) N0 cc mL RX2 ret nm) (S : CS) (M : MS) (ov : Nat → Int64) (z : Int32) (hz : vp_in z 40) (hR : 0 + 1 ≤ R.frames ∧ 8 + (3 + 11) + 0 ≤ R.locals) (hcs : k + 0 ≤ R.cells ∧ n + 0 ≤ R.slots) (hcat : (st.map fun v => v.category).sum ≤ 8) (dk : decode cc pc = .ok (.invokevirtual 108, 3)) (g : Go p l e R s m args below meth c D N0 mL Q (wW cI cJ cZ cO a S (mTi M (Int32.toNatClampNeg z)) ov) (k) (n) (pc + 3) lo (.int (mTiC M (Int32.toNatClampNeg z)) :: st)) : Go p l e R s m args below meth c D N0 mL Q (wW cI cJ cZ cO a S M ov) k n pc lo (.int z :: .ref (a 5) :: st) :=
  go_callV C (ci := 2) (r9 := (RX2, TX2, 23)) (qi := 5) (As := [.int z]) (rest := st) rfl rfl (c_X2_takeInterest l D cI cJ cZ cO N0 a S M ov z hz) ⟨rfl, by decide +kernel, by decide +kernel⟩ bl_RX2_108 bi_yX2_takeInterest bs_yX2_takeInterest bz_NoticeBookModel bc_yX2_takeInterest (show Option.map (fun d => d.parameters.length) (parseMethodDescriptor yX2_takeInterest.desc) = some 1 by decide +kernel) hR hcs hcat dk (fun r w2 h => by obtain ⟨rfl, rfl⟩ := h; exact g) rfl
set_option maxHeartbeats 4000000 in
set_option maxRecDepth 100000 in
theorem c_X2_end (l : Launch) (D : va_G) (cI cJ cZ cO : ClassId) (N0 : Nat) (a : Nat → Nat) (S : CS) (M : MS) (ov : Nat → Int64) (z : Int32) (hz : vp_in z 40) (hw : vp_in (ms_ow M (Int32.toNatClampNeg z)) 4) : Ct l D (tysW cI cJ cZ cO) N0 yX2_end cX2_end 3 (some .int) { frames := 1, cells := 0, slots := 0, locals := 22 } [.ref (a 5), .int z] (wW cI cJ cZ cO a S M ov) (fun r w2 => r = some (.int (mTiC M (Int32.toNatClampNeg z))) ∧ w2 = wW cI cJ cZ cO a S (mEn M (Int32.toNatClampNeg z)) ov) := by
  refine ct_of (by decide +kernel) (Nat.le_of_ble_eq_true rfl) ?_
  intro p e s m args below meth c C
  have C : Cxt p s m args meth c D (tysW cI cJ cZ cO) N0 cX2_end 3 RX2 (some .int) "end" := C
  refine go_aload_n C 0 dX2_end_0 rfl rfl ?_
  refine go_iload_n C 1 dX2_end_1 rfl rfl ?_
  refine k_RX2_108 C S M ov z hz ⟨(Nat.le_of_ble_eq_true rfl), (Nat.le_of_ble_eq_true rfl)⟩ ⟨(Nat.le_of_ble_eq_true rfl), (Nat.le_of_ble_eq_true rfl)⟩ (Nat.le_of_ble_eq_true rfl) dX2_end_2 ?_
  refine go_istore_n C (lo' := [(2, .int (mTiC M (Int32.toNatClampNeg z))), (0, .ref (a 5)), (1, .int z)]) dX2_end_5 rfl (by decide) rfl ?_
  refine go_aload_n C 1 dX2_end_6 rfl rfl ?_
  refine gm_lostBy C dX2_end_7 ?_
  refine go_aload_n C 1 dX2_end_10 rfl rfl ?_
  refine gm_owners C dX2_end_11 ?_
  refine go_iload_n C 2 dX2_end_14 rfl rfl ?_
  refine lm_owners C hz dX2_end_15 ?_
  refine go_dup2 C dX2_end_16 rfl rfl ?_
  refine lm_lostBy C hw dX2_end_17 ?_
  refine go_aload_n C 1 dX2_end_18 rfl rfl ?_
  refine gm_earnings C dX2_end_19 ?_
  refine go_iload_n C 2 dX2_end_22 rfl rfl ?_
  refine lm_earnings C hz dX2_end_23 ?_
  refine go_ladd C dX2_end_24 ?_
  refine sm_lostBy C hw dX2_end_25 ?_
  refine go_w (w2 := wW cI cJ cZ cO a S (mEn1 M (Int32.toNatClampNeg z)) ov) rfl ?_
  refine go_aload_n C 1 dX2_end_26 rfl rfl ?_
  refine gm_isThere C dX2_end_27 ?_
  refine go_iload_n C 2 dX2_end_30 rfl rfl ?_
  refine go_iconst C (v := 0) dX2_end_31 (by decide) ?_
  refine sm_isThere C hz dX2_end_32 ?_
  refine go_iload_n C 0 dX2_end_33 rfl rfl ?_
  exact go_ireturn C rfl dX2_end_34 (by decide) (by decide) ⟨rfl, rfl⟩
theorem k_RX2_129 {p : Program} {l : Launch} {e : Env} {R : Room} {s : State} {m : MethodId} {args : Array Value} {below : List Frame} {meth : Method} {c : Code} {D : va_G} {N0 mL : Nat} {cc : ByteArray} {nm : String} {ret : Option FieldType} {Q : State → Prop} {k n pc : Nat} {lo : List (Nat × Value)} {st : List Value} {cI cJ cZ cO : ClassId} {a : Nat → Nat} (C : Cxt p s m args meth c D (tysW cI cJ cZ cO) N0 cc mL RX2 ret nm) (S : CS) (M : MS) (ov : Nat → Int64) (z : Int32) (hz : vp_in z 40) (hw : vp_in (ms_ow M (Int32.toNatClampNeg z)) 4) (hR : 1 + 1 ≤ R.frames ∧ 8 + (3 + 11) + 22 ≤ R.locals) (hcs : k + 0 ≤ R.cells ∧ n + 0 ≤ R.slots) (hcat : (st.map fun v => v.category).sum ≤ 8) (dk : decode cc pc = .ok (.invokevirtual 129, 3)) (g : Go p l e R s m args below meth c D N0 mL Q (wW cI cJ cZ cO a S (mEn M (Int32.toNatClampNeg z)) ov) (k) (n) (pc + 3) lo (.int (mTiC M (Int32.toNatClampNeg z)) :: st)) : Go p l e R s m args below meth c D N0 mL Q (wW cI cJ cZ cO a S M ov) k n pc lo (.int z :: .ref (a 5) :: st) :=
  go_callV C (ci := 2) (r9 := (RX2, TX2, 23)) (qi := 5) (As := [.int z]) (rest := st) rfl rfl (c_X2_end l D cI cJ cZ cO N0 a S M ov z hz hw) ⟨rfl, by decide +kernel, by decide +kernel⟩ bl_RX2_129 bi_yX2_end bs_yX2_end bz_NoticeBookModel bc_yX2_end (show Option.map (fun d => d.parameters.length) (parseMethodDescriptor yX2_end.desc) = some 1 by decide +kernel) hR hcs hcat dk (fun r w2 h => by obtain ⟨rfl, rfl⟩ := h; exact g) rfl
set_option maxHeartbeats 4000000 in
set_option maxRecDepth 100000 in
theorem c_X2_pay (l : Launch) (D : va_G) (cI cJ cZ cO : ClassId) (N0 : Nat) (a : Nat → Nat) (S : CS) (M : MS) (ov : Nat → Int64) (cu x9 : Int32) (hc : vp_in cu 4) : Ct l D (tysW cI cJ cZ cO) N0 yX2_pay cX2_pay 3 (some .int) { frames := 0, cells := 0, slots := 0, locals := 0 } [.ref (a 5), .int cu, .int x9] (wW cI cJ cZ cO a S M ov) (fun r w2 => r = some (.int x9) ∧ w2 = wW cI cJ cZ cO a S (mPa M cu x9) ov) := by
  refine ct_of (by decide +kernel) (Nat.le_of_ble_eq_true rfl) ?_
  intro p e s m args below meth c C
  have C : Cxt p s m args meth c D (tysW cI cJ cZ cO) N0 cX2_pay 3 RX2 (some .int) "pay" := C
  refine go_aload_n C 0 dX2_pay_0 rfl rfl ?_
  refine gm_paidTo C dX2_pay_1 ?_
  refine go_iload_n C 1 dX2_pay_4 rfl rfl ?_
  refine go_dup2 C dX2_pay_5 rfl rfl ?_
  refine lm_paidTo C hc dX2_pay_6 ?_
  refine go_iload_n C 2 dX2_pay_7 rfl rfl ?_
  refine go_i2l C dX2_pay_8 ?_
  refine go_ladd C dX2_pay_9 ?_
  refine sm_paidTo C hc dX2_pay_10 ?_
  refine go_iload_n C 2 dX2_pay_11 rfl rfl ?_
  exact go_ireturn C rfl dX2_pay_12 (by decide) (by decide) ⟨rfl, rfl⟩
theorem k_RX2_132 {p : Program} {l : Launch} {e : Env} {R : Room} {s : State} {m : MethodId} {args : Array Value} {below : List Frame} {meth : Method} {c : Code} {D : va_G} {N0 mL : Nat} {cc : ByteArray} {nm : String} {ret : Option FieldType} {Q : State → Prop} {k n pc : Nat} {lo : List (Nat × Value)} {st : List Value} {cI cJ cZ cO : ClassId} {a : Nat → Nat} (C : Cxt p s m args meth c D (tysW cI cJ cZ cO) N0 cc mL RX2 ret nm) (S : CS) (M : MS) (ov : Nat → Int64) (cu x9 : Int32) (hc : vp_in cu 4) (hR : 0 + 1 ≤ R.frames ∧ 8 + (3 + 11) + 0 ≤ R.locals) (hcs : k + 0 ≤ R.cells ∧ n + 0 ≤ R.slots) (hcat : (st.map fun v => v.category).sum ≤ 8) (dk : decode cc pc = .ok (.invokevirtual 132, 3)) (g : Go p l e R s m args below meth c D N0 mL Q (wW cI cJ cZ cO a S (mPa M cu x9) ov) (k) (n) (pc + 3) lo (.int x9 :: st)) : Go p l e R s m args below meth c D N0 mL Q (wW cI cJ cZ cO a S M ov) k n pc lo (.int x9 :: .int cu :: .ref (a 5) :: st) :=
  go_callV C (ci := 2) (r9 := (RX2, TX2, 23)) (qi := 5) (As := [.int cu, .int x9]) (rest := st) rfl rfl (c_X2_pay l D cI cJ cZ cO N0 a S M ov cu x9 hc) ⟨rfl, by decide +kernel, by decide +kernel⟩ bl_RX2_132 bi_yX2_pay bs_yX2_pay bz_NoticeBookModel bc_yX2_pay (show Option.map (fun d => d.parameters.length) (parseMethodDescriptor yX2_pay.desc) = some 2 by decide +kernel) hR hcs hcat dk (fun r w2 h => by obtain ⟨rfl, rfl⟩ := h; exact g) rfl
set_option maxHeartbeats 4000000 in
set_option maxRecDepth 100000 in
theorem c_X2_open (l : Launch) (D : va_G) (cI cJ cZ cO : ClassId) (N0 : Nat) (a : Nat → Nat) (S : CS) (M : MS) (ov : Nat → Int64) (cu x9 : Int32) (hq : ms_n M < 40) : Ct l D (tysW cI cJ cZ cO) N0 yX2_open cX2_open 4 (some .int) { frames := 0, cells := 0, slots := 0, locals := 0 } [.ref (a 5), .int cu, .int x9] (wW cI cJ cZ cO a S M ov) (fun r w2 => r = some (.int (nI (ms_n M))) ∧ w2 = wW cI cJ cZ cO a S (mOp M cu x9) ov) := by
  refine ct_of (by decide +kernel) (Nat.le_of_ble_eq_true rfl) ?_
  intro p e s m args below meth c C
  have C : Cxt p s m args meth c D (tysW cI cJ cZ cO) N0 cX2_open 4 RX2 (some .int) "open" := C
  refine go_aload_n C 0 dX2_open_0 rfl rfl ?_
  refine gm_lotMany C dX2_open_1 ?_
  refine go_istore_n C (lo' := [(3, .int (nI (ms_n M))), (0, .ref (a 5)), (1, .int cu), (2, .int x9)]) dX2_open_4 rfl (by decide) rfl ?_
  refine go_aload_n C 1 dX2_open_5 rfl rfl ?_
  refine go_dup C dX2_open_6 rfl ?_
  refine gm_lotMany C dX2_open_7 ?_
  refine go_iconst C (v := 1) dX2_open_10 (by decide) ?_
  refine go_iadd C dX2_open_11 ?_
  refine pm_lotMany C (n2 := ms_n M + 1) (nI_1 _) dX2_open_12 ?_
  refine go_aload_n C 1 dX2_open_15 rfl rfl ?_
  refine gm_isThere C dX2_open_16 ?_
  refine go_iload_n C 0 dX2_open_19 rfl rfl ?_
  refine go_iconst C (v := 1) dX2_open_20 (by decide) ?_
  refine sm_isThere C (nI_vin hq) dX2_open_21 ?_
  rw [cl_nI (i := ms_n M) (by omega)]
  refine go_aload_n C 1 dX2_open_22 rfl rfl ?_
  refine gm_isTerm C dX2_open_23 ?_
  refine go_iload_n C 0 dX2_open_26 rfl rfl ?_
  refine go_iconst C (v := 0) dX2_open_27 (by decide) ?_
  refine sm_isTerm C (nI_vin hq) dX2_open_28 ?_
  rw [cl_nI (i := ms_n M) (by omega)]
  refine go_aload_n C 1 dX2_open_29 rfl rfl ?_
  refine gm_owners C dX2_open_30 ?_
  refine go_iload_n C 0 dX2_open_33 rfl rfl ?_
  refine go_iload_n C 2 dX2_open_34 rfl rfl ?_
  refine sm_owners C (nI_vin hq) dX2_open_35 ?_
  rw [cl_nI (i := ms_n M) (by omega)]
  refine go_aload_n C 1 dX2_open_36 rfl rfl ?_
  refine gm_principals C dX2_open_37 ?_
  refine go_iload_n C 0 dX2_open_40 rfl rfl ?_
  refine go_iload_n C 3 dX2_open_41 rfl rfl ?_
  refine sm_principals C (nI_vin hq) dX2_open_42 ?_
  rw [cl_nI (i := ms_n M) (by omega)]
  refine go_aload_n C 1 dX2_open_43 rfl rfl ?_
  refine gm_earnings C dX2_open_44 ?_
  refine go_iload_n C 0 dX2_open_47 rfl rfl ?_
  refine go_lconst C (v := 0) dX2_open_48 (by decide) ?_
  refine sm_earnings C (nI_vin hq) dX2_open_49 ?_
  rw [cl_nI (i := ms_n M) (by omega)]
  refine go_aload_n C 1 dX2_open_50 rfl rfl ?_
  refine gm_frozenOf C dX2_open_51 ?_
  refine go_iload_n C 0 dX2_open_54 rfl rfl ?_
  refine go_iconst C (v := 0) dX2_open_55 (by decide) ?_
  refine sm_frozenOf C (nI_vin hq) dX2_open_56 ?_
  rw [cl_nI (i := ms_n M) (by omega)]
  refine go_aload_n C 1 dX2_open_57 rfl rfl ?_
  refine gm_begun C dX2_open_58 ?_
  refine go_iload_n C 0 dX2_open_61 rfl rfl ?_
  refine go_iconst C (v := (-1)) dX2_open_62 (by decide) ?_
  refine sm_begun C (nI_vin hq) dX2_open_63 ?_
  rw [cl_nI (i := ms_n M) (by omega)]
  refine go_iload_n C 0 dX2_open_64 rfl rfl ?_
  exact go_ireturn C rfl dX2_open_65 (by decide) (by decide) ⟨rfl, rfl⟩
theorem k_RX2_116 {p : Program} {l : Launch} {e : Env} {R : Room} {s : State} {m : MethodId} {args : Array Value} {below : List Frame} {meth : Method} {c : Code} {D : va_G} {N0 mL : Nat} {cc : ByteArray} {nm : String} {ret : Option FieldType} {Q : State → Prop} {k n pc : Nat} {lo : List (Nat × Value)} {st : List Value} {cI cJ cZ cO : ClassId} {a : Nat → Nat} (C : Cxt p s m args meth c D (tysW cI cJ cZ cO) N0 cc mL RX2 ret nm) (S : CS) (M : MS) (ov : Nat → Int64) (cu x9 : Int32) (hq : ms_n M < 40) (hR : 0 + 1 ≤ R.frames ∧ 8 + (4 + 11) + 0 ≤ R.locals) (hcs : k + 0 ≤ R.cells ∧ n + 0 ≤ R.slots) (hcat : (st.map fun v => v.category).sum ≤ 8) (dk : decode cc pc = .ok (.invokevirtual 116, 3)) (g : Go p l e R s m args below meth c D N0 mL Q (wW cI cJ cZ cO a S (mOp M cu x9) ov) (k) (n) (pc + 3) lo (.int (nI (ms_n M)) :: st)) : Go p l e R s m args below meth c D N0 mL Q (wW cI cJ cZ cO a S M ov) k n pc lo (.int x9 :: .int cu :: .ref (a 5) :: st) :=
  go_callV C (ci := 2) (r9 := (RX2, TX2, 23)) (qi := 5) (As := [.int cu, .int x9]) (rest := st) rfl rfl (c_X2_open l D cI cJ cZ cO N0 a S M ov cu x9 hq) ⟨rfl, by decide +kernel, by decide +kernel⟩ bl_RX2_116 bi_yX2_open bs_yX2_open bz_NoticeBookModel bc_yX2_open (show Option.map (fun d => d.parameters.length) (parseMethodDescriptor yX2_open.desc) = some 2 by decide +kernel) hR hcs hcat dk (fun r w2 h => by obtain ⟨rfl, rfl⟩ := h; exact g) rfl
set_option maxHeartbeats 4000000 in
set_option maxRecDepth 100000 in
theorem c_X2_beginTerm (l : Launch) (D : va_G) (cI cJ cZ cO : ClassId) (N0 : Nat) (a : Nat → Nat) (S : CS) (M : MS) (ov : Nat → Int64) (z : Int32) (hz : vp_in z 40) : Ct l D (tysW cI cJ cZ cO) N0 yX2_beginTerm cX2_beginTerm 2 none { frames := 0, cells := 0, slots := 0, locals := 0 } [.ref (a 5), .int z] (wW cI cJ cZ cO a S M ov) (fun r w2 => r = none ∧ w2 = wW cI cJ cZ cO a S (mBt M (Int32.toNatClampNeg z)) ov) := by
  refine ct_of (by decide +kernel) (Nat.le_of_ble_eq_true rfl) ?_
  intro p e s m args below meth c C
  have C : Cxt p s m args meth c D (tysW cI cJ cZ cO) N0 cX2_beginTerm 2 RX2 none "beginTerm" := C
  refine go_aload_n C 0 dX2_beginTerm_0 rfl rfl ?_
  refine gm_ends C dX2_beginTerm_1 ?_
  refine go_iload_n C 1 dX2_beginTerm_4 rfl rfl ?_
  refine go_aload_n C 0 dX2_beginTerm_5 rfl rfl ?_
  refine gm_now C dX2_beginTerm_6 ?_
  refine go_aload_n C 0 dX2_beginTerm_9 rfl rfl ?_
  refine gm_lengths C dX2_beginTerm_10 ?_
  refine go_iload_n C 1 dX2_beginTerm_13 rfl rfl ?_
  refine lm_lengths C hz dX2_beginTerm_14 ?_
  refine go_iadd C dX2_beginTerm_15 ?_
  refine sm_ends C hz dX2_beginTerm_16 ?_
  refine go_w (w2 := wW cI cJ cZ cO a S (mBt1 M (Int32.toNatClampNeg z)) ov) rfl ?_
  refine go_aload_n C 0 dX2_beginTerm_17 rfl rfl ?_
  refine gm_termParts C dX2_beginTerm_18 ?_
  refine go_iload_n C 1 dX2_beginTerm_21 rfl rfl ?_
  refine go_aload_n C 0 dX2_beginTerm_22 rfl rfl ?_
  refine gm_principals C dX2_beginTerm_23 ?_
  refine go_iload_n C 1 dX2_beginTerm_26 rfl rfl ?_
  refine lm_principals C hz dX2_beginTerm_27 ?_
  refine go_i2l C dX2_beginTerm_28 ?_
  refine go_aload_n C 0 dX2_beginTerm_29 rfl rfl ?_
  refine gm_termRate C dX2_beginTerm_30 ?_
  refine go_i2l C dX2_beginTerm_33 ?_
  refine go_lmul C dX2_beginTerm_34 ?_
  refine sm_termParts C hz dX2_beginTerm_35 ?_
  exact go_return C rfl dX2_beginTerm_36 (by decide) (by decide) ⟨rfl, rfl⟩
theorem k_RX2_122 {p : Program} {l : Launch} {e : Env} {R : Room} {s : State} {m : MethodId} {args : Array Value} {below : List Frame} {meth : Method} {c : Code} {D : va_G} {N0 mL : Nat} {cc : ByteArray} {nm : String} {ret : Option FieldType} {Q : State → Prop} {k n pc : Nat} {lo : List (Nat × Value)} {st : List Value} {cI cJ cZ cO : ClassId} {a : Nat → Nat} (C : Cxt p s m args meth c D (tysW cI cJ cZ cO) N0 cc mL RX2 ret nm) (S : CS) (M : MS) (ov : Nat → Int64) (z : Int32) (hz : vp_in z 40) (hR : 0 + 1 ≤ R.frames ∧ 8 + (2 + 11) + 0 ≤ R.locals) (hcs : k + 0 ≤ R.cells ∧ n + 0 ≤ R.slots) (hcat : (st.map fun v => v.category).sum ≤ 8) (dk : decode cc pc = .ok (.invokevirtual 122, 3)) (g : Go p l e R s m args below meth c D N0 mL Q (wW cI cJ cZ cO a S (mBt M (Int32.toNatClampNeg z)) ov) (k) (n) (pc + 3) lo (st)) : Go p l e R s m args below meth c D N0 mL Q (wW cI cJ cZ cO a S M ov) k n pc lo (.int z :: .ref (a 5) :: st) :=
  go_callV C (ci := 2) (r9 := (RX2, TX2, 23)) (qi := 5) (As := [.int z]) (rest := st) rfl rfl (c_X2_beginTerm l D cI cJ cZ cO N0 a S M ov z hz) ⟨rfl, by decide +kernel, by decide +kernel⟩ bl_RX2_122 bi_yX2_beginTerm bs_yX2_beginTerm bz_NoticeBookModel bc_yX2_beginTerm (show Option.map (fun d => d.parameters.length) (parseMethodDescriptor yX2_beginTerm.desc) = some 1 by decide +kernel) hR hcs hcat dk (fun r w2 h => by obtain ⟨rfl, rfl⟩ := h; exact g) rfl
