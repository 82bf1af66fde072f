set_option maxHeartbeats 4000000 in
set_option maxRecDepth 100000 in
theorem c_X1_today (l : Launch) (D : va_G) (cI cJ cO : ClassId) (N0 : Nat) (a : Nat → Nat) (S : CS) (M : LWS) (ov : va_W)  : Ct l D (tysW cI cJ cO) N0 yX1_today cX1_today 1 (some .int) { frames := 0, cells := 0, slots := 0, locals := 0 } [.ref (a 0)] (wW cI cJ cO a S M ov) (fun r w2 => r = some (.int (cs_day S)) ∧ w2 = wW cI cJ cO a S M ov) := by
  refine ct_of (by decide +kernel) (Nat.le_of_ble_eq_true rfl) ?_
  intro p e s m args below meth c C
  have C : Cxt p s m args meth c D (tysW cI cJ cO) N0 cX1_today 1 RX1 (some .int) "today" := C
  refine go_aload_n C 0 dX1_today_0 rfl rfl ?_
  refine gx_day C dX1_today_1 ?_
  exact go_ireturn C rfl dX1_today_4 (by decide) (by decide) ⟨rfl, rfl⟩
theorem k_RL_77 {p : Program} {l : Launch} {e : Env} {R : Room} {s : State} {m : MethodId} {args : Array Value} {below : List Frame} {meth : Method} {c : Code} {D : va_G} {N0 mL : Nat} {cc : ByteArray} {nm : String} {ret : Option FieldType} {Q : State → Prop} {k n pc : Nat} {lo : List (Nat × Value)} {st : List Value} {cI cJ cO : ClassId} {a : Nat → Nat} (C : Cxt p s m args meth c D (tysW cI cJ cO) N0 cc mL RL ret nm) (S : CS) (M : LWS) (ov : va_W)  (hR : 0 + 1 ≤ R.frames ∧ 8 + (1 + 11) + 0 ≤ R.locals) (hcs : k + 0 ≤ R.cells ∧ n + 0 ≤ R.slots) (hcat : (st.map fun v => v.category).sum ≤ 8) (dk : decode cc pc = .ok (.invokevirtual 77, 3)) (g : Go p l e R s m args below meth c D N0 mL Q (wW cI cJ cO a S M ov) (k) (n) (pc + 3) lo (.int (cs_day S) :: st)) : Go p l e R s m args below meth c D N0 mL Q (wW cI cJ cO a S M ov) k n pc lo (.ref (a 0) :: st) :=
  go_callV C (ci := 1) (r9 := (RX1, TX1, 8)) (qi := 0) (As := []) (rest := st) rfl rfl (c_X1_today l D cI cJ cO N0 a S M ov ) ⟨rfl, by decide +kernel, by decide +kernel⟩ bl_RL_77 bi_yX1_today bs_yX1_today bz_NoticeBook bc_yX1_today (show Option.map (fun d => d.parameters.length) (parseMethodDescriptor yX1_today.desc) = some 0 by decide +kernel) hR hcs hcat dk (fun r w2 h => by obtain ⟨rfl, rfl⟩ := h; exact g) rfl
set_option maxHeartbeats 4000000 in
set_option maxRecDepth 100000 in
theorem c_X1_setByBands (l : Launch) (D : va_G) (cI cJ cO : ClassId) (N0 : Nat) (a : Nat → Nat) (S : CS) (M : LWS) (ov : va_W) (z : Int32) (hz : z = 0 ∨ z = 1) (hb : cs_bb S = 0 ∨ cs_bb S = 1) : Ct l D (tysW cI cJ cO) N0 yX1_setByBands cX1_setByBands 3 (some .boolean) { frames := 0, cells := 0, slots := 0, locals := 0 } [.ref (a 0), .int z] (wW cI cJ cO a S M ov) (fun r w2 => r = some (.int (cs_bb S)) ∧ w2 = wW cI cJ cO a (cs_set_bb S z) M ov) := by
  refine ct_of (by decide +kernel) (Nat.le_of_ble_eq_true rfl) ?_
  intro p e s m args below meth c C
  have C : Cxt p s m args meth c D (tysW cI cJ cO) N0 cX1_setByBands 3 RX1 (some .boolean) "setByBands" := C
  refine go_aload_n C 0 dX1_setByBands_0 rfl rfl ?_
  refine gx_tiersByBands C dX1_setByBands_1 ?_
  refine go_istore_n C (lo' := [(2, .int (cs_bb S)), (0, .ref (a 0)), (1, .int z)]) dX1_setByBands_4 rfl (by decide) rfl ?_
  refine go_aload_n C 1 dX1_setByBands_5 rfl rfl ?_
  refine go_iload_n C 2 dX1_setByBands_6 rfl rfl ?_
  refine px_tiersByBands C (nar_b hz) (fit_b hz) dX1_setByBands_7 ?_
  refine go_iload_n C 0 dX1_setByBands_10 rfl rfl ?_
  exact go_zreturn C rfl (nar_b hb) dX1_setByBands_11 (by decide) (by decide) ⟨rfl, rfl⟩
theorem k_RL_125 {p : Program} {l : Launch} {e : Env} {R : Room} {s : State} {m : MethodId} {args : Array Value} {below : List Frame} {meth : Method} {c : Code} {D : va_G} {N0 mL : Nat} {cc : ByteArray} {nm : String} {ret : Option FieldType} {Q : State → Prop} {k n pc : Nat} {lo : List (Nat × Value)} {st : List Value} {cI cJ cO : ClassId} {a : Nat → Nat} (C : Cxt p s m args meth c D (tysW cI cJ cO) N0 cc mL RL ret nm) (S : CS) (M : LWS) (ov : va_W) (z : Int32) (hz : z = 0 ∨ z = 1) (hb : cs_bb S = 0 ∨ cs_bb S = 1) (hR : 0 + 1 ≤ R.frames ∧ 8 + (3 + 11) + 0 ≤ R.locals) (hcs : k + 0 ≤ R.cells ∧ n + 0 ≤ R.slots) (hcat : (st.map fun v => v.category).sum ≤ 8) (dk : decode cc pc = .ok (.invokevirtual 125, 3)) (g : Go p l e R s m args below meth c D N0 mL Q (wW cI cJ cO a (cs_set_bb S z) M ov) (k) (n) (pc + 3) lo (.int (cs_bb S) :: st)) : Go p l e R s m args below meth c D N0 mL Q (wW cI cJ cO a S M ov) k n pc lo (.int z :: .ref (a 0) :: st) :=
  go_callV C (ci := 1) (r9 := (RX1, TX1, 8)) (qi := 0) (As := [.int z]) (rest := st) rfl rfl (c_X1_setByBands l D cI cJ cO N0 a S M ov z hz hb) ⟨rfl, by decide +kernel, by decide +kernel⟩ bl_RL_125 bi_yX1_setByBands bs_yX1_setByBands bz_NoticeBook bc_yX1_setByBands (show Option.map (fun d => d.parameters.length) (parseMethodDescriptor yX1_setByBands.desc) = some 1 by decide +kernel) hR hcs hcat dk (fun r w2 h => by obtain ⟨rfl, rfl⟩ := h; exact g) rfl
set_option maxHeartbeats 4000000 in
set_option maxRecDepth 100000 in
theorem c_X1_principal (l : Launch) (hlf : l.stackTraces = false) (D : va_G) (cI cJ cO : ClassId) (N0 : Nat) (a : Nat → Nat) (S : CS) (M : LWS) (ov : va_W) (z : Int32) (hok : okX S) : CtX l D (tysW cI cJ cO) N0 yX1_principal cX1_principal 2 (some .int) { frames := 7, cells := 1, slots := 6, locals := 104 } [.ref (a 0), .int z] (wW cI cJ cO a S M ov) (fun r w2 => lotC S z = 0 ∧ r = some (.int (lr_pr (cs_lt S (Int32.toNatClampNeg z)))) ∧ w2 = wW cI cJ cO a S M ov) (fun E w2 => (lotC S z ≠ 0 ∧ E = exN (lotC S z)) ∧ w2 = wW cI cJ cO a S M ov) := by
  refine ctx_of (by decide +kernel) (Nat.le_of_ble_eq_true rfl) ?_
  intro p e s m args below meth c C ht
  have C : Cxt p s m args meth c D (tysW cI cJ cO) N0 cX1_principal 2 RX1 (some .int) "principal" := C
  refine go_aload_n C 0 dX1_principal_0 rfl rfl ?_
  refine go_iload_n C 1 dX1_principal_1 rfl rfl ?_
  refine k_RX1_69 C hlf S M ov z hok ⟨(Nat.le_of_ble_eq_true rfl), (Nat.le_of_ble_eq_true rfl)⟩ ⟨(Nat.le_of_ble_eq_true rfl), (Nat.le_of_ble_eq_true rfl)⟩ (Nat.le_of_ble_eq_true rfl) dX1_principal_2 (fun E hE_1 => gox_out C ht (⟨xc_I (by rw [lotC, hE_1.2]) hE_1.1, rfl⟩) (by decide) (by decide)) (fun j_2 h_3 => ?_)
  obtain rfl := (xAt_some h_3).1
  refine gl_principal C (S := S) (i := (Int32.toNatClampNeg z)) (xAt_nc hok h_3) dX1_principal_5 ?_
  exact go_x (go_ireturn C rfl dX1_principal_8 (by decide) (by decide) ⟨lotC_s h_3, rfl, rfl⟩)
theorem k_RL_65 {p : Program} {l : Launch} {e : Env} {R : Room} {s : State} {m : MethodId} {args : Array Value} {below : List Frame} {meth : Method} {c : Code} {D : va_G} {N0 mL : Nat} {cc : ByteArray} {nm : String} {ret : Option FieldType} {Q : State → Prop} {k n pc : Nat} {lo : List (Nat × Value)} {st : List Value} {cI cJ cO : ClassId} {a : Nat → Nat} (C : Cxt p s m args meth c D (tysW cI cJ cO) N0 cc mL RL ret nm) (hlf : l.stackTraces = false) (S : CS) (M : LWS) (ov : va_W) (z : Int32) (hok : okX S) (hR : 7 + 1 ≤ R.frames ∧ 8 + (2 + 11) + 104 ≤ R.locals) (hcs : k + 1 ≤ R.cells ∧ n + 6 ≤ R.slots) (hcat : (st.map fun v => v.category).sum ≤ 8) (dk : decode cc pc = .ok (.invokevirtual 65, 3)) (gx : ∀ E : String, (lotC S z ≠ 0 ∧ E = exN (lotC S z)) → GoX p l e R s m args below meth c D N0 mL Q (wW cI cJ cO a S M ov) (k + 1) (n + 6) pc lo E) (g : (lotC S z = 0) → Go p l e R s m args below meth c D N0 mL Q (wW cI cJ cO a S M ov) (k + 1) (n + 6) (pc + 3) lo (.int (lr_pr (cs_lt S (Int32.toNatClampNeg z))) :: st)) : Go p l e R s m args below meth c D N0 mL Q (wW cI cJ cO a S M ov) k n pc lo (.int z :: .ref (a 0) :: st) :=
  go_callVX C (ci := 1) (r9 := (RX1, TX1, 8)) (qi := 0) (As := [.int z]) (rest := st) rfl rfl (c_X1_principal l hlf D cI cJ cO N0 a S M ov z hok) ⟨rfl, by decide +kernel, by decide +kernel⟩ bl_RL_65 bi_yX1_principal bs_yX1_principal bz_NoticeBook bc_yX1_principal (show Option.map (fun d => d.parameters.length) (parseMethodDescriptor yX1_principal.desc) = some 1 by decide +kernel) hR hcs hcat dk (fun E w2 h => by obtain ⟨h9, rfl⟩ := h; exact gx E h9) (fun r w2 h => by obtain ⟨h9, rfl, rfl⟩ := h; exact g h9) rfl
set_option maxHeartbeats 4000000 in
set_option maxRecDepth 100000 in
theorem c_X1_earned (l : Launch) (hlf : l.stackTraces = false) (D : va_G) (cI cJ cO : ClassId) (N0 : Nat) (a : Nat → Nat) (S : CS) (M : LWS) (ov : va_W) (z : Int32) (hok : okX S) : CtX l D (tysW cI cJ cO) N0 yX1_earned cX1_earned 2 (some .long) { frames := 7, cells := 1, slots := 6, locals := 104 } [.ref (a 0), .int z] (wW cI cJ cO a S M ov) (fun r w2 => lotC S z = 0 ∧ r = some (.long (lr_ea (cs_lt S (Int32.toNatClampNeg z)))) ∧ w2 = wW cI cJ cO a S M ov) (fun E w2 => (lotC S z ≠ 0 ∧ E = exN (lotC S z)) ∧ w2 = wW cI cJ cO a S M ov) := by
  refine ctx_of (by decide +kernel) (Nat.le_of_ble_eq_true rfl) ?_
  intro p e s m args below meth c C ht
  have C : Cxt p s m args meth c D (tysW cI cJ cO) N0 cX1_earned 2 RX1 (some .long) "earned" := C
  refine go_aload_n C 0 dX1_earned_0 rfl rfl ?_
  refine go_iload_n C 1 dX1_earned_1 rfl rfl ?_
  refine k_RX1_69 C hlf S M ov z hok ⟨(Nat.le_of_ble_eq_true rfl), (Nat.le_of_ble_eq_true rfl)⟩ ⟨(Nat.le_of_ble_eq_true rfl), (Nat.le_of_ble_eq_true rfl)⟩ (Nat.le_of_ble_eq_true rfl) dX1_earned_2 (fun E hE_1 => gox_out C ht (⟨xc_I (by rw [lotC, hE_1.2]) hE_1.1, rfl⟩) (by decide) (by decide)) (fun j_2 h_3 => ?_)
  obtain rfl := (xAt_some h_3).1
  refine gl_earned C (S := S) (i := (Int32.toNatClampNeg z)) (xAt_nc hok h_3) dX1_earned_5 ?_
  exact go_x (go_lreturn C rfl dX1_earned_8 (by decide) (by decide) ⟨lotC_s h_3, rfl, rfl⟩)
theorem k_RL_85 {p : Program} {l : Launch} {e : Env} {R : Room} {s : State} {m : MethodId} {args : Array Value} {below : List Frame} {meth : Method} {c : Code} {D : va_G} {N0 mL : Nat} {cc : ByteArray} {nm : String} {ret : Option FieldType} {Q : State → Prop} {k n pc : Nat} {lo : List (Nat × Value)} {st : List Value} {cI cJ cO : ClassId} {a : Nat → Nat} (C : Cxt p s m args meth c D (tysW cI cJ cO) N0 cc mL RL ret nm) (hlf : l.stackTraces = false) (S : CS) (M : LWS) (ov : va_W) (z : Int32) (hok : okX S) (hR : 7 + 1 ≤ R.frames ∧ 8 + (2 + 11) + 104 ≤ R.locals) (hcs : k + 1 ≤ R.cells ∧ n + 6 ≤ R.slots) (hcat : (st.map fun v => v.category).sum ≤ 8) (dk : decode cc pc = .ok (.invokevirtual 85, 3)) (gx : ∀ E : String, (lotC S z ≠ 0 ∧ E = exN (lotC S z)) → GoX p l e R s m args below meth c D N0 mL Q (wW cI cJ cO a S M ov) (k + 1) (n + 6) pc lo E) (g : (lotC S z = 0) → Go p l e R s m args below meth c D N0 mL Q (wW cI cJ cO a S M ov) (k + 1) (n + 6) (pc + 3) lo (.long (lr_ea (cs_lt S (Int32.toNatClampNeg z))) :: st)) : Go p l e R s m args below meth c D N0 mL Q (wW cI cJ cO a S M ov) k n pc lo (.int z :: .ref (a 0) :: st) :=
  go_callVX C (ci := 1) (r9 := (RX1, TX1, 8)) (qi := 0) (As := [.int z]) (rest := st) rfl rfl (c_X1_earned l hlf D cI cJ cO N0 a S M ov z hok) ⟨rfl, by decide +kernel, by decide +kernel⟩ bl_RL_85 bi_yX1_earned bs_yX1_earned bz_NoticeBook bc_yX1_earned (show Option.map (fun d => d.parameters.length) (parseMethodDescriptor yX1_earned.desc) = some 1 by decide +kernel) hR hcs hcat dk (fun E w2 h => by obtain ⟨h9, rfl⟩ := h; exact gx E h9) (fun r w2 h => by obtain ⟨h9, rfl, rfl⟩ := h; exact g h9) rfl
set_option maxHeartbeats 4000000 in
set_option maxRecDepth 100000 in
theorem c_X1_frozen (l : Launch) (hlf : l.stackTraces = false) (D : va_G) (cI cJ cO : ClassId) (N0 : Nat) (a : Nat → Nat) (S : CS) (M : LWS) (ov : va_W) (z : Int32) (hok : okX S) : CtX l D (tysW cI cJ cO) N0 yX1_frozen cX1_frozen 2 (some .int) { frames := 7, cells := 1, slots := 6, locals := 104 } [.ref (a 0), .int z] (wW cI cJ cO a S M ov) (fun r w2 => lotC S z = 0 ∧ r = some (.int (lr_fz (cs_lt S (Int32.toNatClampNeg z)))) ∧ w2 = wW cI cJ cO a S M ov) (fun E w2 => (lotC S z ≠ 0 ∧ E = exN (lotC S z)) ∧ w2 = wW cI cJ cO a S M ov) := by
  refine ctx_of (by decide +kernel) (Nat.le_of_ble_eq_true rfl) ?_
  intro p e s m args below meth c C ht
  have C : Cxt p s m args meth c D (tysW cI cJ cO) N0 cX1_frozen 2 RX1 (some .int) "frozen" := C
  refine go_aload_n C 0 dX1_frozen_0 rfl rfl ?_
  refine go_iload_n C 1 dX1_frozen_1 rfl rfl ?_
  refine k_RX1_69 C hlf S M ov z hok ⟨(Nat.le_of_ble_eq_true rfl), (Nat.le_of_ble_eq_true rfl)⟩ ⟨(Nat.le_of_ble_eq_true rfl), (Nat.le_of_ble_eq_true rfl)⟩ (Nat.le_of_ble_eq_true rfl) dX1_frozen_2 (fun E hE_1 => gox_out C ht (⟨xc_I (by rw [lotC, hE_1.2]) hE_1.1, rfl⟩) (by decide) (by decide)) (fun j_2 h_3 => ?_)
  obtain rfl := (xAt_some h_3).1
  refine gl_frozenCents C (S := S) (i := (Int32.toNatClampNeg z)) (xAt_nc hok h_3) dX1_frozen_5 ?_
  exact go_x (go_ireturn C rfl dX1_frozen_8 (by decide) (by decide) ⟨lotC_s h_3, rfl, rfl⟩)
theorem k_RL_92 {p : Program} {l : Launch} {e : Env} {R : Room} {s : State} {m : MethodId} {args : Array Value} {below : List Frame} {meth : Method} {c : Code} {D : va_G} {N0 mL : Nat} {cc : ByteArray} {nm : String} {ret : Option FieldType} {Q : State → Prop} {k n pc : Nat} {lo : List (Nat × Value)} {st : List Value} {cI cJ cO : ClassId} {a : Nat → Nat} (C : Cxt p s m args meth c D (tysW cI cJ cO) N0 cc mL RL ret nm) (hlf : l.stackTraces = false) (S : CS) (M : LWS) (ov : va_W) (z : Int32) (hok : okX S) (hR : 7 + 1 ≤ R.frames ∧ 8 + (2 + 11) + 104 ≤ R.locals) (hcs : k + 1 ≤ R.cells ∧ n + 6 ≤ R.slots) (hcat : (st.map fun v => v.category).sum ≤ 8) (dk : decode cc pc = .ok (.invokevirtual 92, 3)) (gx : ∀ E : String, (lotC S z ≠ 0 ∧ E = exN (lotC S z)) → GoX p l e R s m args below meth c D N0 mL Q (wW cI cJ cO a S M ov) (k + 1) (n + 6) pc lo E) (g : (lotC S z = 0) → Go p l e R s m args below meth c D N0 mL Q (wW cI cJ cO a S M ov) (k + 1) (n + 6) (pc + 3) lo (.int (lr_fz (cs_lt S (Int32.toNatClampNeg z))) :: st)) : Go p l e R s m args below meth c D N0 mL Q (wW cI cJ cO a S M ov) k n pc lo (.int z :: .ref (a 0) :: st) :=
  go_callVX C (ci := 1) (r9 := (RX1, TX1, 8)) (qi := 0) (As := [.int z]) (rest := st) rfl rfl (c_X1_frozen l hlf D cI cJ cO N0 a S M ov z hok) ⟨rfl, by decide +kernel, by decide +kernel⟩ bl_RL_92 bi_yX1_frozen bs_yX1_frozen bz_NoticeBook bc_yX1_frozen (show Option.map (fun d => d.parameters.length) (parseMethodDescriptor yX1_frozen.desc) = some 1 by decide +kernel) hR hcs hcat dk (fun E w2 h => by obtain ⟨h9, rfl⟩ := h; exact gx E h9) (fun r w2 h => by obtain ⟨h9, rfl, rfl⟩ := h; exact g h9) rfl
set_option maxHeartbeats 4000000 in
set_option maxRecDepth 100000 in
theorem c_X1_endOf (l : Launch) (hlf : l.stackTraces = false) (D : va_G) (cI cJ cO : ClassId) (N0 : Nat) (a : Nat → Nat) (S : CS) (M : LWS) (ov : va_W) (z : Int32) (hok : okX S) : CtX l D (tysW cI cJ cO) N0 yX1_endOf cX1_endOf 2 (some .int) { frames := 7, cells := 1, slots := 6, locals := 104 } [.ref (a 0), .int z] (wW cI cJ cO a S M ov) (fun r w2 => lotC S z = 0 ∧ r = some (.int (lr_en (cs_lt S (Int32.toNatClampNeg z)))) ∧ w2 = wW cI cJ cO a S M ov) (fun E w2 => (lotC S z ≠ 0 ∧ E = exN (lotC S z)) ∧ w2 = wW cI cJ cO a S M ov) := by
  refine ctx_of (by decide +kernel) (Nat.le_of_ble_eq_true rfl) ?_
  intro p e s m args below meth c C ht
  have C : Cxt p s m args meth c D (tysW cI cJ cO) N0 cX1_endOf 2 RX1 (some .int) "endOf" := C
  refine go_aload_n C 0 dX1_endOf_0 rfl rfl ?_
  refine go_iload_n C 1 dX1_endOf_1 rfl rfl ?_
  refine k_RX1_69 C hlf S M ov z hok ⟨(Nat.le_of_ble_eq_true rfl), (Nat.le_of_ble_eq_true rfl)⟩ ⟨(Nat.le_of_ble_eq_true rfl), (Nat.le_of_ble_eq_true rfl)⟩ (Nat.le_of_ble_eq_true rfl) dX1_endOf_2 (fun E hE_1 => gox_out C ht (⟨xc_I (by rw [lotC, hE_1.2]) hE_1.1, rfl⟩) (by decide) (by decide)) (fun j_2 h_3 => ?_)
  obtain rfl := (xAt_some h_3).1
  refine gl_end C (S := S) (i := (Int32.toNatClampNeg z)) (xAt_nc hok h_3) dX1_endOf_5 ?_
  exact go_x (go_ireturn C rfl dX1_endOf_8 (by decide) (by decide) ⟨lotC_s h_3, rfl, rfl⟩)
theorem k_RL_68 {p : Program} {l : Launch} {e : Env} {R : Room} {s : State} {m : MethodId} {args : Array Value} {below : List Frame} {meth : Method} {c : Code} {D : va_G} {N0 mL : Nat} {cc : ByteArray} {nm : String} {ret : Option FieldType} {Q : State → Prop} {k n pc : Nat} {lo : List (Nat × Value)} {st : List Value} {cI cJ cO : ClassId} {a : Nat → Nat} (C : Cxt p s m args meth c D (tysW cI cJ cO) N0 cc mL RL ret nm) (hlf : l.stackTraces = false) (S : CS) (M : LWS) (ov : va_W) (z : Int32) (hok : okX S) (hR : 7 + 1 ≤ R.frames ∧ 8 + (2 + 11) + 104 ≤ R.locals) (hcs : k + 1 ≤ R.cells ∧ n + 6 ≤ R.slots) (hcat : (st.map fun v => v.category).sum ≤ 8) (dk : decode cc pc = .ok (.invokevirtual 68, 3)) (gx : ∀ E : String, (lotC S z ≠ 0 ∧ E = exN (lotC S z)) → GoX p l e R s m args below meth c D N0 mL Q (wW cI cJ cO a S M ov) (k + 1) (n + 6) pc lo E) (g : (lotC S z = 0) → Go p l e R s m args below meth c D N0 mL Q (wW cI cJ cO a S M ov) (k + 1) (n + 6) (pc + 3) lo (.int (lr_en (cs_lt S (Int32.toNatClampNeg z))) :: st)) : Go p l e R s m args below meth c D N0 mL Q (wW cI cJ cO a S M ov) k n pc lo (.int z :: .ref (a 0) :: st) :=
  go_callVX C (ci := 1) (r9 := (RX1, TX1, 8)) (qi := 0) (As := [.int z]) (rest := st) rfl rfl (c_X1_endOf l hlf D cI cJ cO N0 a S M ov z hok) ⟨rfl, by decide +kernel, by decide +kernel⟩ bl_RL_68 bi_yX1_endOf bs_yX1_endOf bz_NoticeBook bc_yX1_endOf (show Option.map (fun d => d.parameters.length) (parseMethodDescriptor yX1_endOf.desc) = some 1 by decide +kernel) hR hcs hcat dk (fun E w2 h => by obtain ⟨h9, rfl⟩ := h; exact gx E h9) (fun r w2 h => by obtain ⟨h9, rfl, rfl⟩ := h; exact g h9) rfl
set_option maxHeartbeats 4000000 in
set_option maxRecDepth 100000 in
theorem c_X1_setTermRate (l : Launch) (hlf : l.stackTraces = false) (D : va_G) (cI cJ cO : ClassId) (N0 : Nat) (a : Nat → Nat) (S : CS) (M : LWS) (ov : va_W) (z : Int32)  : CtX l D (tysW cI cJ cO) N0 yX1_setTermRate cX1_setTermRate 3 (some .int) { frames := 7, cells := 1, slots := 6, locals := 104 } [.ref (a 0), .int z] (wW cI cJ cO a S M ov) (fun r w2 => demR z 0 2000 = 0 ∧ r = some (.int (cs_tr S)) ∧ w2 = wW cI cJ cO a (cs_set_tr S z) M ov) (fun E w2 => (demR z 0 2000 ≠ 0 ∧ E = exN (demR z 0 2000)) ∧ w2 = wW cI cJ cO a S M ov) := by
  refine ctx_of (by decide +kernel) (Nat.le_of_ble_eq_true rfl) ?_
  intro p e s m args below meth c C ht
  have C : Cxt p s m args meth c D (tysW cI cJ cO) N0 cX1_setTermRate 3 RX1 (some .int) "setTermRate" := C
  refine go_iload_n C 1 dX1_setTermRate_0 rfl rfl ?_
  refine go_iconst C (v := 0) dX1_setTermRate_1 (by decide) ?_
  refine go_sipush C (v := 2000) dX1_setTermRate_2 (by decide) ?_
  refine k_RX1_47 C hlf S M ov z 0 2000 ⟨(Nat.le_of_ble_eq_true rfl), (Nat.le_of_ble_eq_true rfl)⟩ ⟨(Nat.le_of_ble_eq_true rfl), (Nat.le_of_ble_eq_true rfl)⟩ (Nat.le_of_ble_eq_true rfl) dX1_setTermRate_5 (fun E hE_1 => gox_out C ht (⟨xc_A hE_1.2 hE_1.1, rfl⟩) (by decide) (by decide)) (fun h_2 => ?_)
  refine go_aload_n C 0 dX1_setTermRate_8 rfl rfl ?_
  refine gx_termRate C dX1_setTermRate_9 ?_
  refine go_istore_n C (lo' := [(2, .int (cs_tr S)), (0, .ref (a 0)), (1, .int z)]) dX1_setTermRate_12 rfl (by decide) rfl ?_
  refine go_aload_n C 1 dX1_setTermRate_13 rfl rfl ?_
  refine go_iload_n C 2 dX1_setTermRate_14 rfl rfl ?_
  refine px_termRate C dX1_setTermRate_15 ?_
  refine go_iload_n C 0 dX1_setTermRate_18 rfl rfl ?_
  exact go_x (go_ireturn C rfl dX1_setTermRate_19 (by decide) (by decide) ⟨h_2, rfl, rfl⟩)
theorem k_RL_129 {p : Program} {l : Launch} {e : Env} {R : Room} {s : State} {m : MethodId} {args : Array Value} {below : List Frame} {meth : Method} {c : Code} {D : va_G} {N0 mL : Nat} {cc : ByteArray} {nm : String} {ret : Option FieldType} {Q : State → Prop} {k n pc : Nat} {lo : List (Nat × Value)} {st : List Value} {cI cJ cO : ClassId} {a : Nat → Nat} (C : Cxt p s m args meth c D (tysW cI cJ cO) N0 cc mL RL ret nm) (hlf : l.stackTraces = false) (S : CS) (M : LWS) (ov : va_W) (z : Int32)  (hR : 7 + 1 ≤ R.frames ∧ 8 + (3 + 11) + 104 ≤ R.locals) (hcs : k + 1 ≤ R.cells ∧ n + 6 ≤ R.slots) (hcat : (st.map fun v => v.category).sum ≤ 8) (dk : decode cc pc = .ok (.invokevirtual 129, 3)) (gx : ∀ E : String, (demR z 0 2000 ≠ 0 ∧ E = exN (demR z 0 2000)) → GoX p l e R s m args below meth c D N0 mL Q (wW cI cJ cO a S M ov) (k + 1) (n + 6) pc lo E) (g : (demR z 0 2000 = 0) → Go p l e R s m args below meth c D N0 mL Q (wW cI cJ cO a (cs_set_tr S z) M ov) (k + 1) (n + 6) (pc + 3) lo (.int (cs_tr S) :: st)) : Go p l e R s m args below meth c D N0 mL Q (wW cI cJ cO a S M ov) k n pc lo (.int z :: .ref (a 0) :: st) :=
  go_callVX C (ci := 1) (r9 := (RX1, TX1, 8)) (qi := 0) (As := [.int z]) (rest := st) rfl rfl (c_X1_setTermRate l hlf D cI cJ cO N0 a S M ov z ) ⟨rfl, by decide +kernel, by decide +kernel⟩ bl_RL_129 bi_yX1_setTermRate bs_yX1_setTermRate bz_NoticeBook bc_yX1_setTermRate (show Option.map (fun d => d.parameters.length) (parseMethodDescriptor yX1_setTermRate.desc) = some 1 by decide +kernel) hR hcs hcat dk (fun E w2 h => by obtain ⟨h9, rfl⟩ := h; exact gx E h9) (fun r w2 h => by obtain ⟨h9, rfl, rfl⟩ := h; exact g h9) rfl
set_option maxHeartbeats 4000000 in
set_option maxRecDepth 100000 in
theorem c_X1_setRate (l : Launch) (hlf : l.stackTraces = false) (D : va_G) (cI cJ cO : ClassId) (N0 : Nat) (a : Nat → Nat) (S : CS) (M : LWS) (ov : va_W) (b z : Int32)  : CtX l D (tysW cI cJ cO) N0 yX1_setRate cX1_setRate 4 (some .int) { frames := 7, cells := 1, slots := 6, locals := 104 } [.ref (a 0), .int b, .int z] (wW cI cJ cO a S M ov) (fun r w2 => stC b z = 0 ∧ r = some (.int (cs_rates S (Int32.toNatClampNeg b))) ∧ w2 = wW cI cJ cO a (cs_set_rates S (upd (cs_rates S) (Int32.toNatClampNeg b) z)) M ov) (fun E w2 => (stC b z ≠ 0 ∧ E = exN (stC b z)) ∧ w2 = wW cI cJ cO a S M ov) := by
  refine ctx_of (by decide +kernel) (Nat.le_of_ble_eq_true rfl) ?_
  intro p e s m args below meth c C ht
  have C : Cxt p s m args meth c D (tysW cI cJ cO) N0 cX1_setRate 4 RX1 (some .int) "setRate" := C
  refine go_iload_n C 1 dX1_setRate_0 rfl rfl ?_
  refine go_if_lt C (tgt := 13) dX1_setRate_1 (by decide) (fun c_1 => ?_) (fun c_1 => ?_)
  · exact go_throw C hlf ht (names := nb_names) (text := "no such band") rfl mem_I fit_nb_I nb_names_fit bcl_RX1_40 bz_IndexOutOfBoundsException (List.mem_of_getElem? (i := 0) rfl) hat_nb_I_44 hat2_nb_I_44 hgood_nb_I_40_44 dX1_setRate_13 dX1_setRate_16 dX1_setRate_17 dX1_setRate_19 dX1_setRate_22 (by decide) (by decide) (by decide) (by decide) ⟨xc_I (by simp only [stC, if_pos c_1]) rfl, rfl⟩ (by decide) (by decide)
  · refine go_iload_n C 1 dX1_setRate_4 rfl rfl ?_
    refine go_aload_n C 0 dX1_setRate_5 rfl rfl ?_
    refine gx_rates C dX1_setRate_6 ?_
    refine nx_rates C dX1_setRate_9 ?_
    refine go_icmp_lt C (tgt := 23) dX1_setRate_10 (by decide) (fun c_2 => ?_) (fun c_2 => ?_)
    · refine go_iload_n C 2 dX1_setRate_23 rfl rfl ?_
      refine go_iconst C (v := 0) dX1_setRate_24 (by decide) ?_
      refine go_sipush C (v := 2000) dX1_setRate_25 (by decide) ?_
      refine k_RX1_47 C hlf S M ov z 0 2000 ⟨(Nat.le_of_ble_eq_true rfl), (Nat.le_of_ble_eq_true rfl)⟩ ⟨(Nat.le_of_ble_eq_true rfl), (Nat.le_of_ble_eq_true rfl)⟩ (Nat.le_of_ble_eq_true rfl) dX1_setRate_28 (fun E hE_3 => gox_out C ht (⟨xc_A (by simp only [stC, if_neg c_1, if_pos c_2, if_neg (ne0_2 hE_3.2)]) hE_3.1, rfl⟩) (by decide) (by decide)) (fun h_4 => ?_)
      refine go_aload_n C 0 dX1_setRate_31 rfl rfl ?_
      refine gx_rates C dX1_setRate_32 ?_
      refine go_iload_n C 1 dX1_setRate_35 rfl rfl ?_
      refine lx_rates C (vin_lt (n := 3) c_1 c_2 (by decide)) dX1_setRate_36 ?_
      refine go_istore_n C (lo' := [(3, .int (cs_rates S (Int32.toNatClampNeg b))), (0, .ref (a 0)), (1, .int b), (2, .int z)]) dX1_setRate_37 rfl (by decide) rfl ?_
      refine go_aload_n C 1 dX1_setRate_38 rfl rfl ?_
      refine gx_rates C dX1_setRate_39 ?_
      refine go_iload_n C 2 dX1_setRate_42 rfl rfl ?_
      refine go_iload_n C 3 dX1_setRate_43 rfl rfl ?_
      refine sx_rates C (vin_lt (n := 3) c_1 c_2 (by decide)) dX1_setRate_44 ?_
      refine go_iload_n C 0 dX1_setRate_45 rfl rfl ?_
      exact go_x (go_ireturn C rfl dX1_setRate_46 (by decide) (by decide) ⟨by simp only [stC, if_neg c_1, if_pos c_2, if_pos h_4], rfl, rfl⟩)
    · exact go_throw C hlf ht (names := nb_names) (text := "no such band") rfl mem_I fit_nb_I nb_names_fit bcl_RX1_40 bz_IndexOutOfBoundsException (List.mem_of_getElem? (i := 0) rfl) hat_nb_I_44 hat2_nb_I_44 hgood_nb_I_40_44 dX1_setRate_13 dX1_setRate_16 dX1_setRate_17 dX1_setRate_19 dX1_setRate_22 (by decide) (by decide) (by decide) (by decide) ⟨xc_I (by simp only [stC, if_neg c_1, if_neg c_2]) rfl, rfl⟩ (by decide) (by decide)
theorem k_RL_122 {p : Program} {l : Launch} {e : Env} {R : Room} {s : State} {m : MethodId} {args : Array Value} {below : List Frame} {meth : Method} {c : Code} {D : va_G} {N0 mL : Nat} {cc : ByteArray} {nm : String} {ret : Option FieldType} {Q : State → Prop} {k n pc : Nat} {lo : List (Nat × Value)} {st : List Value} {cI cJ cO : ClassId} {a : Nat → Nat} (C : Cxt p s m args meth c D (tysW cI cJ cO) N0 cc mL RL ret nm) (hlf : l.stackTraces = false) (S : CS) (M : LWS) (ov : va_W) (b z : Int32)  (hR : 7 + 1 ≤ R.frames ∧ 8 + (4 + 11) + 104 ≤ R.locals) (hcs : k + 1 ≤ R.cells ∧ n + 6 ≤ R.slots) (hcat : (st.map fun v => v.category).sum ≤ 8) (dk : decode cc pc = .ok (.invokevirtual 122, 3)) (gx : ∀ E : String, (stC b z ≠ 0 ∧ E = exN (stC b z)) → GoX p l e R s m args below meth c D N0 mL Q (wW cI cJ cO a S M ov) (k + 1) (n + 6) pc lo E) (g : (stC b z = 0) → Go p l e R s m args below meth c D N0 mL Q (wW cI cJ cO a (cs_set_rates S (upd (cs_rates S) (Int32.toNatClampNeg b) z)) M ov) (k + 1) (n + 6) (pc + 3) lo (.int (cs_rates S (Int32.toNatClampNeg b)) :: st)) : Go p l e R s m args below meth c D N0 mL Q (wW cI cJ cO a S M ov) k n pc lo (.int z :: .int b :: .ref (a 0) :: st) :=
  go_callVX C (ci := 1) (r9 := (RX1, TX1, 8)) (qi := 0) (As := [.int b, .int z]) (rest := st) rfl rfl (c_X1_setRate l hlf D cI cJ cO N0 a S M ov b z ) ⟨rfl, by decide +kernel, by decide +kernel⟩ bl_RL_122 bi_yX1_setRate bs_yX1_setRate bz_NoticeBook bc_yX1_setRate (show Option.map (fun d => d.parameters.length) (parseMethodDescriptor yX1_setRate.desc) = some 2 by decide +kernel) hR hcs hcat dk (fun E w2 h => by obtain ⟨h9, rfl⟩ := h; exact gx E h9) (fun r w2 h => by obtain ⟨h9, rfl, rfl⟩ := h; exact g h9) rfl
set_option maxHeartbeats 4000000 in
set_option maxRecDepth 100000 in
theorem c_X1_total (l : Launch) (hlf : l.stackTraces = false) (D : va_G) (cI cJ cO : ClassId) (N0 : Nat) (a : Nat → Nat) (S : CS) (M : LWS) (ov : va_W) (z : Int32) (hok : okX S) : CtX l D (tysW cI cJ cO) N0 yX1_total cX1_total 2 (some .int) { frames := 7, cells := 1, slots := 6, locals := 102 } [.ref (a 0), .int z] (wW cI cJ cO a S M ov) (fun r w2 => demC z = 0 ∧ r = some (.int (totTo S z (cs_n S))) ∧ w2 = wW cI cJ cO a S M ov) (fun E w2 => (demC z ≠ 0 ∧ E = exN (demC z)) ∧ w2 = wW cI cJ cO a S M ov) := by
  refine ctx_of (by decide +kernel) (Nat.le_of_ble_eq_true rfl) ?_
  intro p e s m args below meth c C ht
  have C : Cxt p s m args meth c D (tysW cI cJ cO) N0 cX1_total 2 RX1 (some .int) "total" := C
  refine go_iload_n C 1 dX1_total_0 rfl rfl ?_
  refine k_RX1_51 C hlf S M ov z ⟨(Nat.le_of_ble_eq_true rfl), (Nat.le_of_ble_eq_true rfl)⟩ ⟨(Nat.le_of_ble_eq_true rfl), (Nat.le_of_ble_eq_true rfl)⟩ (Nat.le_of_ble_eq_true rfl) dX1_total_1 (fun E hE_1 => gox_out C ht (⟨xc_I hE_1.2 hE_1.1, rfl⟩) (by decide) (by decide)) (fun h_2 => ?_)
  refine go_aload_n C 0 dX1_total_4 rfl rfl ?_
  refine go_iload_n C 1 dX1_total_5 rfl rfl ?_
  refine k_RX1_173 C S M ov z hok ⟨(Nat.le_of_ble_eq_true rfl), (Nat.le_of_ble_eq_true rfl)⟩ ⟨(Nat.le_of_ble_eq_true rfl), (Nat.le_of_ble_eq_true rfl)⟩ (Nat.le_of_ble_eq_true rfl) dX1_total_6 ?_
  exact go_x (go_ireturn C rfl dX1_total_9 (by decide) (by decide) ⟨h_2, rfl, rfl⟩)
theorem k_RL_95 {p : Program} {l : Launch} {e : Env} {R : Room} {s : State} {m : MethodId} {args : Array Value} {below : List Frame} {meth : Method} {c : Code} {D : va_G} {N0 mL : Nat} {cc : ByteArray} {nm : String} {ret : Option FieldType} {Q : State → Prop} {k n pc : Nat} {lo : List (Nat × Value)} {st : List Value} {cI cJ cO : ClassId} {a : Nat → Nat} (C : Cxt p s m args meth c D (tysW cI cJ cO) N0 cc mL RL ret nm) (hlf : l.stackTraces = false) (S : CS) (M : LWS) (ov : va_W) (z : Int32) (hok : okX S) (hR : 7 + 1 ≤ R.frames ∧ 8 + (2 + 11) + 102 ≤ R.locals) (hcs : k + 1 ≤ R.cells ∧ n + 6 ≤ R.slots) (hcat : (st.map fun v => v.category).sum ≤ 8) (dk : decode cc pc = .ok (.invokevirtual 95, 3)) (gx : ∀ E : String, (demC z ≠ 0 ∧ E = exN (demC z)) → GoX p l e R s m args below meth c D N0 mL Q (wW cI cJ cO a S M ov) (k + 1) (n + 6) pc lo E) (g : (demC z = 0) → Go p l e R s m args below meth c D N0 mL Q (wW cI cJ cO a S M ov) (k + 1) (n + 6) (pc + 3) lo (.int (totTo S z (cs_n S)) :: st)) : Go p l e R s m args below meth c D N0 mL Q (wW cI cJ cO a S M ov) k n pc lo (.int z :: .ref (a 0) :: st) :=
  go_callVX C (ci := 1) (r9 := (RX1, TX1, 8)) (qi := 0) (As := [.int z]) (rest := st) rfl rfl (c_X1_total l hlf D cI cJ cO N0 a S M ov z hok) ⟨rfl, by decide +kernel, by decide +kernel⟩ bl_RL_95 bi_yX1_total bs_yX1_total bz_NoticeBook bc_yX1_total (show Option.map (fun d => d.parameters.length) (parseMethodDescriptor yX1_total.desc) = some 1 by decide +kernel) hR hcs hcat dk (fun E w2 h => by obtain ⟨h9, rfl⟩ := h; exact gx E h9) (fun r w2 h => by obtain ⟨h9, rfl, rfl⟩ := h; exact g h9) rfl
set_option maxHeartbeats 4000000 in
set_option maxRecDepth 100000 in
theorem c_X1_partsByTotal (l : Launch) (hlf : l.stackTraces = false) (D : va_G) (cI cJ cO : ClassId) (N0 : Nat) (a : Nat → Nat) (S : CS) (M : LWS) (ov : va_W) (z : Int32) (hok : okX S) : CtX l D (tysW cI cJ cO) N0 yX1_partsByTotal cX1_partsByTotal 3 (some .long) { frames := 7, cells := 1, slots := 6, locals := 102 } [.ref (a 0), .int z] (wW cI cJ cO a S M ov) (fun r w2 => demC z = 0 ∧ r = some (.long (poc S 0 (totTo S z (cs_n S)) (totTo S z (cs_n S)))) ∧ w2 = wW cI cJ cO a S M ov) (fun E w2 => (demC z ≠ 0 ∧ E = exN (demC z)) ∧ w2 = wW cI cJ cO a S M ov) := by
  refine ctx_of (by decide +kernel) (Nat.le_of_ble_eq_true rfl) ?_
  intro p e s m args below meth c C ht
  have C : Cxt p s m args meth c D (tysW cI cJ cO) N0 cX1_partsByTotal 3 RX1 (some .long) "partsByTotal" := C
  refine go_iload_n C 1 dX1_partsByTotal_0 rfl rfl ?_
  refine k_RX1_51 C hlf S M ov z ⟨(Nat.le_of_ble_eq_true rfl), (Nat.le_of_ble_eq_true rfl)⟩ ⟨(Nat.le_of_ble_eq_true rfl), (Nat.le_of_ble_eq_true rfl)⟩ (Nat.le_of_ble_eq_true rfl) dX1_partsByTotal_1 (fun E hE_1 => gox_out C ht (⟨xc_I hE_1.2 hE_1.1, rfl⟩) (by decide) (by decide)) (fun h_2 => ?_)
  refine go_aload_n C 0 dX1_partsByTotal_4 rfl rfl ?_
  refine go_iload_n C 1 dX1_partsByTotal_5 rfl rfl ?_
  refine k_RX1_173 C S M ov z hok ⟨(Nat.le_of_ble_eq_true rfl), (Nat.le_of_ble_eq_true rfl)⟩ ⟨(Nat.le_of_ble_eq_true rfl), (Nat.le_of_ble_eq_true rfl)⟩ (Nat.le_of_ble_eq_true rfl) dX1_partsByTotal_6 ?_
  refine go_istore_n C (lo' := [(2, .int (totTo S z (cs_n S))), (0, .ref (a 0)), (1, .int z)]) dX1_partsByTotal_9 rfl (by decide) rfl ?_
  refine go_aload_n C 1 dX1_partsByTotal_10 rfl rfl ?_
  refine go_iconst C (v := 0) dX1_partsByTotal_11 (by decide) ?_
  refine go_iload_n C 0 dX1_partsByTotal_12 rfl rfl ?_
  refine go_iload_n C 0 dX1_partsByTotal_13 rfl rfl ?_
  refine k_RX1_176 C S M ov 0 (totTo S z (cs_n S)) (totTo S z (cs_n S)) ⟨(Nat.le_of_ble_eq_true rfl), (Nat.le_of_ble_eq_true rfl)⟩ ⟨(Nat.le_of_ble_eq_true rfl), (Nat.le_of_ble_eq_true rfl)⟩ (Nat.le_of_ble_eq_true rfl) dX1_partsByTotal_14 ?_
  exact go_x (go_lreturn C rfl dX1_partsByTotal_17 (by decide) (by decide) ⟨h_2, rfl, rfl⟩)
theorem k_RL_97 {p : Program} {l : Launch} {e : Env} {R : Room} {s : State} {m : MethodId} {args : Array Value} {below : List Frame} {meth : Method} {c : Code} {D : va_G} {N0 mL : Nat} {cc : ByteArray} {nm : String} {ret : Option FieldType} {Q : State → Prop} {k n pc : Nat} {lo : List (Nat × Value)} {st : List Value} {cI cJ cO : ClassId} {a : Nat → Nat} (C : Cxt p s m args meth c D (tysW cI cJ cO) N0 cc mL RL ret nm) (hlf : l.stackTraces = false) (S : CS) (M : LWS) (ov : va_W) (z : Int32) (hok : okX S) (hR : 7 + 1 ≤ R.frames ∧ 8 + (3 + 11) + 102 ≤ R.locals) (hcs : k + 1 ≤ R.cells ∧ n + 6 ≤ R.slots) (hcat : (st.map fun v => v.category).sum ≤ 8) (dk : decode cc pc = .ok (.invokevirtual 97, 3)) (gx : ∀ E : String, (demC z ≠ 0 ∧ E = exN (demC z)) → GoX p l e R s m args below meth c D N0 mL Q (wW cI cJ cO a S M ov) (k + 1) (n + 6) pc lo E) (g : (demC z = 0) → Go p l e R s m args below meth c D N0 mL Q (wW cI cJ cO a S M ov) (k + 1) (n + 6) (pc + 3) lo (.long (poc S 0 (totTo S z (cs_n S)) (totTo S z (cs_n S))) :: st)) : Go p l e R s m args below meth c D N0 mL Q (wW cI cJ cO a S M ov) k n pc lo (.int z :: .ref (a 0) :: st) :=
  go_callVX C (ci := 1) (r9 := (RX1, TX1, 8)) (qi := 0) (As := [.int z]) (rest := st) rfl rfl (c_X1_partsByTotal l hlf D cI cJ cO N0 a S M ov z hok) ⟨rfl, by decide +kernel, by decide +kernel⟩ bl_RL_97 bi_yX1_partsByTotal bs_yX1_partsByTotal bz_NoticeBook bc_yX1_partsByTotal (show Option.map (fun d => d.parameters.length) (parseMethodDescriptor yX1_partsByTotal.desc) = some 1 by decide +kernel) hR hcs hcat dk (fun E w2 h => by obtain ⟨h9, rfl⟩ := h; exact gx E h9) (fun r w2 h => by obtain ⟨h9, rfl, rfl⟩ := h; exact g h9) rfl
set_option maxHeartbeats 4000000 in
set_option maxRecDepth 100000 in
theorem c_X1_paid (l : Launch) (hlf : l.stackTraces = false) (D : va_G) (cI cJ cO : ClassId) (N0 : Nat) (a : Nat → Nat) (S : CS) (M : LWS) (ov : va_W) (z : Int32)  : CtX l D (tysW cI cJ cO) N0 yX1_paid cX1_paid 2 (some .long) { frames := 7, cells := 1, slots := 6, locals := 102 } [.ref (a 0), .int z] (wW cI cJ cO a S M ov) (fun r w2 => demC z = 0 ∧ r = some (.long (cs_paid S (Int32.toNatClampNeg z))) ∧ w2 = wW cI cJ cO a S M ov) (fun E w2 => (demC z ≠ 0 ∧ E = exN (demC z)) ∧ w2 = wW cI cJ cO a S M ov) := by
  refine ctx_of (by decide +kernel) (Nat.le_of_ble_eq_true rfl) ?_
  intro p e s m args below meth c C ht
  have C : Cxt p s m args meth c D (tysW cI cJ cO) N0 cX1_paid 2 RX1 (some .long) "paid" := C
  refine go_iload_n C 1 dX1_paid_0 rfl rfl ?_
  refine k_RX1_51 C hlf S M ov z ⟨(Nat.le_of_ble_eq_true rfl), (Nat.le_of_ble_eq_true rfl)⟩ ⟨(Nat.le_of_ble_eq_true rfl), (Nat.le_of_ble_eq_true rfl)⟩ (Nat.le_of_ble_eq_true rfl) dX1_paid_1 (fun E hE_1 => gox_out C ht (⟨xc_I hE_1.2 hE_1.1, rfl⟩) (by decide) (by decide)) (fun h_2 => ?_)
  refine go_aload_n C 0 dX1_paid_4 rfl rfl ?_
  refine gx_paidCents C dX1_paid_5 ?_
  refine go_iload_n C 1 dX1_paid_8 rfl rfl ?_
  refine lx_paid C (demC_in h_2) dX1_paid_9 ?_
  exact go_x (go_lreturn C rfl dX1_paid_10 (by decide) (by decide) ⟨h_2, rfl, rfl⟩)
theorem k_RL_100 {p : Program} {l : Launch} {e : Env} {R : Room} {s : State} {m : MethodId} {args : Array Value} {below : List Frame} {meth : Method} {c : Code} {D : va_G} {N0 mL : Nat} {cc : ByteArray} {nm : String} {ret : Option FieldType} {Q : State → Prop} {k n pc : Nat} {lo : List (Nat × Value)} {st : List Value} {cI cJ cO : ClassId} {a : Nat → Nat} (C : Cxt p s m args meth c D (tysW cI cJ cO) N0 cc mL RL ret nm) (hlf : l.stackTraces = false) (S : CS) (M : LWS) (ov : va_W) (z : Int32)  (hR : 7 + 1 ≤ R.frames ∧ 8 + (2 + 11) + 102 ≤ R.locals) (hcs : k + 1 ≤ R.cells ∧ n + 6 ≤ R.slots) (hcat : (st.map fun v => v.category).sum ≤ 8) (dk : decode cc pc = .ok (.invokevirtual 100, 3)) (gx : ∀ E : String, (demC z ≠ 0 ∧ E = exN (demC z)) → GoX p l e R s m args below meth c D N0 mL Q (wW cI cJ cO a S M ov) (k + 1) (n + 6) pc lo E) (g : (demC z = 0) → Go p l e R s m args below meth c D N0 mL Q (wW cI cJ cO a S M ov) (k + 1) (n + 6) (pc + 3) lo (.long (cs_paid S (Int32.toNatClampNeg z)) :: st)) : Go p l e R s m args below meth c D N0 mL Q (wW cI cJ cO a S M ov) k n pc lo (.int z :: .ref (a 0) :: st) :=
  go_callVX C (ci := 1) (r9 := (RX1, TX1, 8)) (qi := 0) (As := [.int z]) (rest := st) rfl rfl (c_X1_paid l hlf D cI cJ cO N0 a S M ov z ) ⟨rfl, by decide +kernel, by decide +kernel⟩ bl_RL_100 bi_yX1_paid bs_yX1_paid bz_NoticeBook bc_yX1_paid (show Option.map (fun d => d.parameters.length) (parseMethodDescriptor yX1_paid.desc) = some 1 by decide +kernel) hR hcs hcat dk (fun E w2 h => by obtain ⟨h9, rfl⟩ := h; exact gx E h9) (fun r w2 h => by obtain ⟨h9, rfl, rfl⟩ := h; exact g h9) rfl
set_option maxHeartbeats 4000000 in
set_option maxRecDepth 100000 in
theorem c_X1_lost (l : Launch) (hlf : l.stackTraces = false) (D : va_G) (cI cJ cO : ClassId) (N0 : Nat) (a : Nat → Nat) (S : CS) (M : LWS) (ov : va_W) (z : Int32)  : CtX l D (tysW cI cJ cO) N0 yX1_lost cX1_lost 2 (some .long) { frames := 7, cells := 1, slots := 6, locals := 102 } [.ref (a 0), .int z] (wW cI cJ cO a S M ov) (fun r w2 => demC z = 0 ∧ r = some (.long (cs_lost S (Int32.toNatClampNeg z))) ∧ w2 = wW cI cJ cO a S M ov) (fun E w2 => (demC z ≠ 0 ∧ E = exN (demC z)) ∧ w2 = wW cI cJ cO a S M ov) := by
  refine ctx_of (by decide +kernel) (Nat.le_of_ble_eq_true rfl) ?_
  intro p e s m args below meth c C ht
  have C : Cxt p s m args meth c D (tysW cI cJ cO) N0 cX1_lost 2 RX1 (some .long) "lost" := C
  refine go_iload_n C 1 dX1_lost_0 rfl rfl ?_
  refine k_RX1_51 C hlf S M ov z ⟨(Nat.le_of_ble_eq_true rfl), (Nat.le_of_ble_eq_true rfl)⟩ ⟨(Nat.le_of_ble_eq_true rfl), (Nat.le_of_ble_eq_true rfl)⟩ (Nat.le_of_ble_eq_true rfl) dX1_lost_1 (fun E hE_1 => gox_out C ht (⟨xc_I hE_1.2 hE_1.1, rfl⟩) (by decide) (by decide)) (fun h_2 => ?_)
  refine go_aload_n C 0 dX1_lost_4 rfl rfl ?_
  refine gx_lostParts C dX1_lost_5 ?_
  refine go_iload_n C 1 dX1_lost_8 rfl rfl ?_
  refine lx_lost C (demC_in h_2) dX1_lost_9 ?_
  exact go_x (go_lreturn C rfl dX1_lost_10 (by decide) (by decide) ⟨h_2, rfl, rfl⟩)
theorem k_RL_103 {p : Program} {l : Launch} {e : Env} {R : Room} {s : State} {m : MethodId} {args : Array Value} {below : List Frame} {meth : Method} {c : Code} {D : va_G} {N0 mL : Nat} {cc : ByteArray} {nm : String} {ret : Option FieldType} {Q : State → Prop} {k n pc : Nat} {lo : List (Nat × Value)} {st : List Value} {cI cJ cO : ClassId} {a : Nat → Nat} (C : Cxt p s m args meth c D (tysW cI cJ cO) N0 cc mL RL ret nm) (hlf : l.stackTraces = false) (S : CS) (M : LWS) (ov : va_W) (z : Int32)  (hR : 7 + 1 ≤ R.frames ∧ 8 + (2 + 11) + 102 ≤ R.locals) (hcs : k + 1 ≤ R.cells ∧ n + 6 ≤ R.slots) (hcat : (st.map fun v => v.category).sum ≤ 8) (dk : decode cc pc = .ok (.invokevirtual 103, 3)) (gx : ∀ E : String, (demC z ≠ 0 ∧ E = exN (demC z)) → GoX p l e R s m args below meth c D N0 mL Q (wW cI cJ cO a S M ov) (k + 1) (n + 6) pc lo E) (g : (demC z = 0) → Go p l e R s m args below meth c D N0 mL Q (wW cI cJ cO a S M ov) (k + 1) (n + 6) (pc + 3) lo (.long (cs_lost S (Int32.toNatClampNeg z)) :: st)) : Go p l e R s m args below meth c D N0 mL Q (wW cI cJ cO a S M ov) k n pc lo (.int z :: .ref (a 0) :: st) :=
  go_callVX C (ci := 1) (r9 := (RX1, TX1, 8)) (qi := 0) (As := [.int z]) (rest := st) rfl rfl (c_X1_lost l hlf D cI cJ cO N0 a S M ov z ) ⟨rfl, by decide +kernel, by decide +kernel⟩ bl_RL_103 bi_yX1_lost bs_yX1_lost bz_NoticeBook bc_yX1_lost (show Option.map (fun d => d.parameters.length) (parseMethodDescriptor yX1_lost.desc) = some 1 by decide +kernel) hR hcs hcat dk (fun E w2 h => by obtain ⟨h9, rfl⟩ := h; exact gx E h9) (fun r w2 h => by obtain ⟨h9, rfl, rfl⟩ := h; exact g h9) rfl
set_option maxHeartbeats 4000000 in
set_option maxRecDepth 100000 in
theorem c_X1_partsOfDay (l : Launch) (hlf : l.stackTraces = false) (D : va_G) (cI cJ cO : ClassId) (N0 : Nat) (a : Nat → Nat) (S : CS) (M : LWS) (ov : va_W) (z : Int32) (hok : okX S) : CtX l D (tysW cI cJ cO) N0 yX1_partsOfDay cX1_partsOfDay 3 (some .long) { frames := 7, cells := 1, slots := 6, locals := 104 } [.ref (a 0), .int z] (wW cI cJ cO a S M ov) (fun r w2 => lotC S z = 0 ∧ r = some (.long (lr_pa (cs_lt (pdS S z) (Int32.toNatClampNeg z)))) ∧ w2 = wW cI cJ cO a (pdS S z) M ov) (fun E w2 => (lotC S z ≠ 0 ∧ E = exN (lotC S z)) ∧ w2 = wW cI cJ cO a S M ov) := by
  refine ctx_of (by decide +kernel) (Nat.le_of_ble_eq_true rfl) ?_
  intro p e s m args below meth c C ht
  have C : Cxt p s m args meth c D (tysW cI cJ cO) N0 cX1_partsOfDay 3 RX1 (some .long) "partsOfDay" := C
  refine go_aload_n C 0 dX1_partsOfDay_0 rfl rfl ?_
  refine go_iload_n C 1 dX1_partsOfDay_1 rfl rfl ?_
  refine k_RX1_69 C hlf S M ov z hok ⟨(Nat.le_of_ble_eq_true rfl), (Nat.le_of_ble_eq_true rfl)⟩ ⟨(Nat.le_of_ble_eq_true rfl), (Nat.le_of_ble_eq_true rfl)⟩ (Nat.le_of_ble_eq_true rfl) dX1_partsOfDay_2 (fun E hE_1 => gox_out C ht (⟨xc_I (by rw [lotC, hE_1.2]) hE_1.1, rfl⟩) (by decide) (by decide)) (fun j_2 h_3 => ?_)
  obtain rfl := (xAt_some h_3).1
  refine go_astore_n C (lo' := [(2, .ref (cs_la S (Int32.toNatClampNeg z))), (0, .ref (a 0)), (1, .int z)]) dX1_partsOfDay_5 rfl (by decide) rfl ?_
  refine go_aload_n C 1 dX1_partsOfDay_6 rfl rfl ?_
  refine go_aload_n C 0 dX1_partsOfDay_7 rfl rfl ?_
  refine gl_customer C (S := S) (i := (Int32.toNatClampNeg z)) (xAt_nc hok h_3) dX1_partsOfDay_8 ?_
  refine k_RX1_107 C S M ov (lr_cu (cs_lt S (Int32.toNatClampNeg z))) hok ⟨(Nat.le_of_ble_eq_true rfl), (Nat.le_of_ble_eq_true rfl)⟩ ⟨(Nat.le_of_ble_eq_true rfl), (Nat.le_of_ble_eq_true rfl)⟩ (Nat.le_of_ble_eq_true rfl) dX1_partsOfDay_11 ?_
  refine go_aload_n C 0 dX1_partsOfDay_14 rfl rfl ?_
  refine gl_parts C (S := noteX S (lr_cu (cs_lt S (Int32.toNatClampNeg z)))) (i := (Int32.toNatClampNeg z)) (xAt_nc hok h_3) dX1_partsOfDay_15 ?_
  exact go_x (go_lreturn C rfl dX1_partsOfDay_18 (by decide) (by decide) ⟨lotC_s h_3, rfl, rfl⟩)
theorem k_RL_89 {p : Program} {l : Launch} {e : Env} {R : Room} {s : State} {m : MethodId} {args : Array Value} {below : List Frame} {meth : Method} {c : Code} {D : va_G} {N0 mL : Nat} {cc : ByteArray} {nm : String} {ret : Option FieldType} {Q : State → Prop} {k n pc : Nat} {lo : List (Nat × Value)} {st : List Value} {cI cJ cO : ClassId} {a : Nat → Nat} (C : Cxt p s m args meth c D (tysW cI cJ cO) N0 cc mL RL ret nm) (hlf : l.stackTraces = false) (S : CS) (M : LWS) (ov : va_W) (z : Int32) (hok : okX S) (hR : 7 + 1 ≤ R.frames ∧ 8 + (3 + 11) + 104 ≤ R.locals) (hcs : k + 1 ≤ R.cells ∧ n + 6 ≤ R.slots) (hcat : (st.map fun v => v.category).sum ≤ 8) (dk : decode cc pc = .ok (.invokevirtual 89, 3)) (gx : ∀ E : String, (lotC S z ≠ 0 ∧ E = exN (lotC S z)) → GoX p l e R s m args below meth c D N0 mL Q (wW cI cJ cO a S M ov) (k + 1) (n + 6) pc lo E) (g : (lotC S z = 0) → Go p l e R s m args below meth c D N0 mL Q (wW cI cJ cO a (pdS S z) M ov) (k + 1) (n + 6) (pc + 3) lo (.long (lr_pa (cs_lt (pdS S z) (Int32.toNatClampNeg z))) :: st)) : Go p l e R s m args below meth c D N0 mL Q (wW cI cJ cO a S M ov) k n pc lo (.int z :: .ref (a 0) :: st) :=
  go_callVX C (ci := 1) (r9 := (RX1, TX1, 8)) (qi := 0) (As := [.int z]) (rest := st) rfl rfl (c_X1_partsOfDay l hlf D cI cJ cO N0 a S M ov z hok) ⟨rfl, by decide +kernel, by decide +kernel⟩ bl_RL_89 bi_yX1_partsOfDay bs_yX1_partsOfDay bz_NoticeBook bc_yX1_partsOfDay (show Option.map (fun d => d.parameters.length) (parseMethodDescriptor yX1_partsOfDay.desc) = some 1 by decide +kernel) hR hcs hcat dk (fun E w2 h => by obtain ⟨h9, rfl⟩ := h; exact gx E h9) (fun r w2 h => by obtain ⟨h9, rfl, rfl⟩ := h; exact g h9) rfl
set_option maxHeartbeats 4000000 in
set_option maxRecDepth 100000 in
theorem c_X1_give (l : Launch) (hlf : l.stackTraces = false) (D : va_G) (cI cJ cO : ClassId) (N0 : Nat) (a : Nat → Nat) (S : CS) (M : LWS) (ov : va_W) (z c9 : Int32) (hok : okX S) : CtX l D (tysW cI cJ cO) N0 yX1_give cX1_give 4 (some .int) { frames := 7, cells := 3, slots := 18, locals := 104 } [.ref (a 0), .int z, .int c9] (wW cI cJ cO a S M ov) (fun r w2 => gvC S z c9 = 0 ∧ r = some (.int (cs_day S + 32)) ∧ w2 = wW cI cJ cO a (gvS S z c9) M ov) (fun E w2 => (gvC S z c9 ≠ 0 ∧ E = exN (gvC S z c9)) ∧ w2 = wW cI cJ cO a S M ov) := by
  refine ctx_of (by decide +kernel) (Nat.le_of_ble_eq_true rfl) ?_
  intro p e s m args below meth c C ht
  have C : Cxt p s m args meth c D (tysW cI cJ cO) N0 cX1_give 4 RX1 (some .int) "give" := C
  refine go_aload_n C 0 dX1_give_0 rfl rfl ?_
  refine go_iload_n C 1 dX1_give_1 rfl rfl ?_
  refine k_RX1_69 C hlf S M ov z hok ⟨(Nat.le_of_ble_eq_true rfl), (Nat.le_of_ble_eq_true rfl)⟩ ⟨(Nat.le_of_ble_eq_true rfl), (Nat.le_of_ble_eq_true rfl)⟩ (Nat.le_of_ble_eq_true rfl) dX1_give_2 (fun E hE_1 => gox_out C ht (⟨xc_I (by simp only [gvC, if_neg (lotC_n hE_1.2)]) hE_1.1, rfl⟩) (by decide) (by decide)) (fun j_2 h_3 => ?_)
  obtain rfl := (xAt_some h_3).1
  refine go_astore_n C (lo' := [(3, .ref (cs_la S (Int32.toNatClampNeg z))), (0, .ref (a 0)), (1, .int z), (2, .int c9)]) dX1_give_5 rfl (by decide) rfl ?_
  refine go_iload_n C 3 dX1_give_6 rfl rfl ?_
  refine go_iconst C (v := 1) dX1_give_7 (by decide) ?_
  refine go_aload_n C 0 dX1_give_8 rfl rfl ?_
  refine gl_principal C (S := S) (i := (Int32.toNatClampNeg z)) (xAt_nc hok h_3) dX1_give_9 ?_
  refine k_RX1_47 C hlf S M ov c9 1 (lr_pr (cs_lt S (Int32.toNatClampNeg z))) ⟨(Nat.le_of_ble_eq_true rfl), (Nat.le_of_ble_eq_true rfl)⟩ ⟨(Nat.le_of_ble_eq_true rfl), (Nat.le_of_ble_eq_true rfl)⟩ (Nat.le_of_ble_eq_true rfl) dX1_give_12 (fun E hE_4 => gox_out C ht (⟨xc_A (by simp only [gvC, if_pos (lotC_s h_3), if_neg (ne0_2 hE_4.2)]) hE_4.1, rfl⟩) (by decide) (by decide)) (fun h_5 => ?_)
  refine go_aload_n C 0 dX1_give_15 rfl rfl ?_
  refine k_RX1_76 C S M ov (Int32.toNatClampNeg z) (xAt_nc hok h_3) ⟨(Nat.le_of_ble_eq_true rfl), (Nat.le_of_ble_eq_true rfl)⟩ ⟨(Nat.le_of_ble_eq_true rfl), (Nat.le_of_ble_eq_true rfl)⟩ (Nat.le_of_ble_eq_true rfl) dX1_give_16 ?_
  refine go_if_ne C (tgt := 29) dX1_give_19 (by decide) (fun c_6 => ?_) (fun c_6 => ?_)
  · exact go_throw C hlf ht (names := nb_names) (text := "not by NOTICE, or it has a notice") rfl mem_S fit_nb_S nb_names_fit bcl_RX1_83 bz_IllegalStateException (List.mem_of_getElem? (i := 6) rfl) hat_nb_S_87 hat2_nb_S_87 hgood_nb_S_83_87 dX1_give_29 dX1_give_32 dX1_give_33 dX1_give_35 dX1_give_38 (by decide) (by decide) (by decide) (by decide) ⟨xc_S (by simp only [gvC, if_neg c_6, if_pos (lotC_s h_3), if_pos h_5]) rfl, rfl⟩ (by decide) (by decide)
  · refine go_aload_n C 0 dX1_give_22 rfl rfl ?_
    refine gl_frozenCents C (S := S) (i := (Int32.toNatClampNeg z)) (xAt_nc hok h_3) dX1_give_23 ?_
    refine go_if_le C (tgt := 39) dX1_give_26 (by decide) (fun c_7 => ?_) (fun c_7 => ?_)
    · refine go_aload_n C 0 dX1_give_39 rfl rfl ?_
      refine go_iload_n C 3 dX1_give_40 rfl rfl ?_
      refine pl_frozenCents C (S := S) (i := (Int32.toNatClampNeg z)) (xAt_nc hok h_3) dX1_give_41 ?_
      refine go_aload_n C 0 dX1_give_44 rfl rfl ?_
      refine go_aload_n C 1 dX1_give_45 rfl rfl ?_
      refine gx_day C dX1_give_46 ?_
      refine go_bipush C (v := 32) dX1_give_49 (by decide) ?_
      refine go_iadd C dX1_give_51 ?_
      refine pl_takeFrom C (S := cs_setLot S (Int32.toNatClampNeg z) (lr_set_fz (cs_lt S (Int32.toNatClampNeg z)) c9)) (i := (Int32.toNatClampNeg z)) (xAt_nc hok h_3) dX1_give_52 ?_
      refine go_w (w2 := wW cI cJ cO a (gvS S z c9) M ov) (by simp only [gvS, setLot_two, setLot_lt] <;> rfl) ?_
      refine go_aload_n C 0 dX1_give_55 rfl rfl ?_
      refine gl_takeFrom C (S := gvS S z c9) (i := (Int32.toNatClampNeg z)) (xAt_nc hok h_3) dX1_give_56 ?_
      exact go_x (go_ireturn C rfl dX1_give_59 (by decide) (by decide) ⟨by simp only [gvC, if_pos c_6, if_pos c_7, if_pos (lotC_s h_3), if_pos h_5], by simp only [gvS, setLot_lt], rfl⟩)
    · exact go_throw C hlf ht (names := nb_names) (text := "not by NOTICE, or it has a notice") rfl mem_S fit_nb_S nb_names_fit bcl_RX1_83 bz_IllegalStateException (List.mem_of_getElem? (i := 6) rfl) hat_nb_S_87 hat2_nb_S_87 hgood_nb_S_83_87 dX1_give_29 dX1_give_32 dX1_give_33 dX1_give_35 dX1_give_38 (by decide) (by decide) (by decide) (by decide) ⟨xc_S (by simp only [gvC, if_pos c_6, if_neg c_7, if_pos (lotC_s h_3), if_pos h_5]) rfl, rfl⟩ (by decide) (by decide)
theorem k_RL_43 {p : Program} {l : Launch} {e : Env} {R : Room} {s : State} {m : MethodId} {args : Array Value} {below : List Frame} {meth : Method} {c : Code} {D : va_G} {N0 mL : Nat} {cc : ByteArray} {nm : String} {ret : Option FieldType} {Q : State → Prop} {k n pc : Nat} {lo : List (Nat × Value)} {st : List Value} {cI cJ cO : ClassId} {a : Nat → Nat} (C : Cxt p s m args meth c D (tysW cI cJ cO) N0 cc mL RL ret nm) (hlf : l.stackTraces = false) (S : CS) (M : LWS) (ov : va_W) (z c9 : Int32) (hok : okX S) (hR : 7 + 1 ≤ R.frames ∧ 8 + (4 + 11) + 104 ≤ R.locals) (hcs : k + 3 ≤ R.cells ∧ n + 18 ≤ R.slots) (hcat : (st.map fun v => v.category).sum ≤ 8) (dk : decode cc pc = .ok (.invokevirtual 43, 3)) (gx : ∀ E : String, (gvC S z c9 ≠ 0 ∧ E = exN (gvC S z c9)) → GoX p l e R s m args below meth c D N0 mL Q (wW cI cJ cO a S M ov) (k + 3) (n + 18) pc lo E) (g : (gvC S z c9 = 0) → Go p l e R s m args below meth c D N0 mL Q (wW cI cJ cO a (gvS S z c9) M ov) (k + 3) (n + 18) (pc + 3) lo (.int (cs_day S + 32) :: st)) : Go p l e R s m args below meth c D N0 mL Q (wW cI cJ cO a S M ov) k n pc lo (.int c9 :: .int z :: .ref (a 0) :: st) :=
  go_callVX C (ci := 1) (r9 := (RX1, TX1, 8)) (qi := 0) (As := [.int z, .int c9]) (rest := st) rfl rfl (c_X1_give l hlf D cI cJ cO N0 a S M ov z c9 hok) ⟨rfl, by decide +kernel, by decide +kernel⟩ bl_RL_43 bi_yX1_give bs_yX1_give bz_NoticeBook bc_yX1_give (show Option.map (fun d => d.parameters.length) (parseMethodDescriptor yX1_give.desc) = some 2 by decide +kernel) hR hcs hcat dk (fun E w2 h => by obtain ⟨h9, rfl⟩ := h; exact gx E h9) (fun r w2 h => by obtain ⟨h9, rfl, rfl⟩ := h; exact g h9) rfl
set_option maxHeartbeats 4000000 in
set_option maxRecDepth 100000 in
theorem c_X1_withdraw (l : Launch) (hlf : l.stackTraces = false) (D : va_G) (cI cJ cO : ClassId) (N0 : Nat) (a : Nat → Nat) (S : CS) (M : LWS) (ov : va_W) (z : Int32) (hok : okX S) : CtX l D (tysW cI cJ cO) N0 yX1_withdraw cX1_withdraw 4 (some .int) { frames := 8, cells := 2, slots := 12, locals := 126 } [.ref (a 0), .int z] (wW cI cJ cO a S M ov) (fun r w2 => wdC S z = 0 ∧ r = some (.int (lr_fz (cs_lt S (Int32.toNatClampNeg z)))) ∧ w2 = wW cI cJ cO a (wdS S z) M ov) (fun E w2 => (wdC S z ≠ 0 ∧ E = exN (wdC S z)) ∧ w2 = wW cI cJ cO a S M ov) := by
  refine ctx_of (by decide +kernel) (Nat.le_of_ble_eq_true rfl) ?_
  intro p e s m args below meth c C ht
  have C : Cxt p s m args meth c D (tysW cI cJ cO) N0 cX1_withdraw 4 RX1 (some .int) "withdraw" := C
  refine go_aload_n C 0 dX1_withdraw_0 rfl rfl ?_
  refine go_iload_n C 1 dX1_withdraw_1 rfl rfl ?_
  refine k_RX1_91 C hlf S M ov z hok ⟨(Nat.le_of_ble_eq_true rfl), (Nat.le_of_ble_eq_true rfl)⟩ ⟨(Nat.le_of_ble_eq_true rfl), (Nat.le_of_ble_eq_true rfl)⟩ (Nat.le_of_ble_eq_true rfl) dX1_withdraw_2 (fun E hE_1 => gox_out C ht (hE_1.elim (fun y9 => ⟨xc_I (by simp only [wdC, if_neg (lotC_n y9.2)]) y9.1, rfl⟩) (fun y9 => by obtain ⟨e9, j9, h8, h9⟩ := y9; obtain rfl := (xAt_some h8).1; exact ⟨xc_S (by simp only [wdC, if_pos (lotC_s h8), if_pos h9]) e9, rfl⟩)) (by decide) (by decide)) (fun j_2 h_3 => ?_)
  obtain ⟨h_3a, h_3b⟩ := xO_at h_3
  obtain rfl := (xAt_some h_3a).1
  refine go_astore_n C (lo' := [(2, .ref (cs_la S (Int32.toNatClampNeg z))), (0, .ref (a 0)), (1, .int z)]) dX1_withdraw_5 rfl (by decide) rfl ?_
  refine go_aload_n C 0 dX1_withdraw_6 rfl rfl ?_
  refine gl_frozenCents C (S := S) (i := (Int32.toNatClampNeg z)) (xAt_nc hok h_3a) dX1_withdraw_7 ?_
  refine go_istore_n C (lo' := [(3, .int (lr_fz (cs_lt S (Int32.toNatClampNeg z)))), (2, .ref (cs_la S (Int32.toNatClampNeg z))), (0, .ref (a 0)), (1, .int z)]) dX1_withdraw_10 rfl (by decide) rfl ?_
  refine go_aload_n C 1 dX1_withdraw_11 rfl rfl ?_
  refine go_iconst C (v := 0) dX1_withdraw_12 (by decide) ?_
  refine pl_frozenCents C (S := S) (i := (Int32.toNatClampNeg z)) (xAt_nc hok h_3a) dX1_withdraw_13 ?_
  refine go_iload_n C 0 dX1_withdraw_16 rfl rfl ?_
  exact go_x (go_ireturn C rfl dX1_withdraw_17 (by decide) (by decide) ⟨by simp only [wdC, if_neg h_3b, if_pos (lotC_s h_3a)], rfl, rfl⟩)
theorem k_RL_46 {p : Program} {l : Launch} {e : Env} {R : Room} {s : State} {m : MethodId} {args : Array Value} {below : List Frame} {meth : Method} {c : Code} {D : va_G} {N0 mL : Nat} {cc : ByteArray} {nm : String} {ret : Option FieldType} {Q : State → Prop} {k n pc : Nat} {lo : List (Nat × Value)} {st : List Value} {cI cJ cO : ClassId} {a : Nat → Nat} (C : Cxt p s m args meth c D (tysW cI cJ cO) N0 cc mL RL ret nm) (hlf : l.stackTraces = false) (S : CS) (M : LWS) (ov : va_W) (z : Int32) (hok : okX S) (hR : 8 + 1 ≤ R.frames ∧ 8 + (4 + 11) + 126 ≤ R.locals) (hcs : k + 2 ≤ R.cells ∧ n + 12 ≤ R.slots) (hcat : (st.map fun v => v.category).sum ≤ 8) (dk : decode cc pc = .ok (.invokevirtual 46, 3)) (gx : ∀ E : String, (wdC S z ≠ 0 ∧ E = exN (wdC S z)) → GoX p l e R s m args below meth c D N0 mL Q (wW cI cJ cO a S M ov) (k + 2) (n + 12) pc lo E) (g : (wdC S z = 0) → Go p l e R s m args below meth c D N0 mL Q (wW cI cJ cO a (wdS S z) M ov) (k + 2) (n + 12) (pc + 3) lo (.int (lr_fz (cs_lt S (Int32.toNatClampNeg z))) :: st)) : Go p l e R s m args below meth c D N0 mL Q (wW cI cJ cO a S M ov) k n pc lo (.int z :: .ref (a 0) :: st) :=
  go_callVX C (ci := 1) (r9 := (RX1, TX1, 8)) (qi := 0) (As := [.int z]) (rest := st) rfl rfl (c_X1_withdraw l hlf D cI cJ cO N0 a S M ov z hok) ⟨rfl, by decide +kernel, by decide +kernel⟩ bl_RL_46 bi_yX1_withdraw bs_yX1_withdraw bz_NoticeBook bc_yX1_withdraw (show Option.map (fun d => d.parameters.length) (parseMethodDescriptor yX1_withdraw.desc) = some 1 by decide +kernel) hR hcs hcat dk (fun E w2 h => by obtain ⟨h9, rfl⟩ := h; exact gx E h9) (fun r w2 h => by obtain ⟨h9, rfl, rfl⟩ := h; exact g h9) rfl
set_option maxHeartbeats 4000000 in
set_option maxRecDepth 100000 in
theorem c_X1_take (l : Launch) (hlf : l.stackTraces = false) (D : va_G) (cI cJ cO : ClassId) (N0 : Nat) (a : Nat → Nat) (S : CS) (M : LWS) (ov : va_W) (z : Int32) (hok : okX S) : CtX l D (tysW cI cJ cO) N0 yX1_take cX1_take 4 (some .int) { frames := 8, cells := 3, slots := 18, locals := 126 } [.ref (a 0), .int z] (wW cI cJ cO a S M ov) (fun r w2 => tkC S z = 0 ∧ r = some (.int (poC (wdS S z) (Int32.toNatClampNeg z) (lr_fz (cs_lt S (Int32.toNatClampNeg z))))) ∧ w2 = wW cI cJ cO a (poS (wdS S z) (Int32.toNatClampNeg z) (lr_fz (cs_lt S (Int32.toNatClampNeg z)))) M ov) (fun E w2 => (tkC S z ≠ 0 ∧ E = exN (tkC S z)) ∧ w2 = wW cI cJ cO a S M ov) := by
  refine ctx_of (by decide +kernel) (Nat.le_of_ble_eq_true rfl) ?_
  intro p e s m args below meth c C ht
  have C : Cxt p s m args meth c D (tysW cI cJ cO) N0 cX1_take 4 RX1 (some .int) "take" := C
  refine go_aload_n C 0 dX1_take_0 rfl rfl ?_
  refine go_iload_n C 1 dX1_take_1 rfl rfl ?_
  refine k_RX1_91 C hlf S M ov z hok ⟨(Nat.le_of_ble_eq_true rfl), (Nat.le_of_ble_eq_true rfl)⟩ ⟨(Nat.le_of_ble_eq_true rfl), (Nat.le_of_ble_eq_true rfl)⟩ (Nat.le_of_ble_eq_true rfl) dX1_take_2 (fun E hE_1 => gox_out C ht (hE_1.elim (fun y9 => ⟨xc_I (by simp only [tkC, if_neg (lotC_n y9.2)]) y9.1, rfl⟩) (fun y9 => by obtain ⟨e9, j9, h8, h9⟩ := y9; obtain rfl := (xAt_some h8).1; exact ⟨xc_S (by simp only [tkC, if_pos (lotC_s h8), if_pos h9]) e9, rfl⟩)) (by decide) (by decide)) (fun j_2 h_3 => ?_)
  obtain ⟨h_3a, h_3b⟩ := xO_at h_3
  obtain rfl := (xAt_some h_3a).1
  refine go_astore_n C (lo' := [(2, .ref (cs_la S (Int32.toNatClampNeg z))), (0, .ref (a 0)), (1, .int z)]) dX1_take_5 rfl (by decide) rfl ?_
  refine go_aload_n C 1 dX1_take_6 rfl rfl ?_
  refine gx_day C dX1_take_7 ?_
  refine go_aload_n C 0 dX1_take_10 rfl rfl ?_
  refine gl_takeFrom C (S := S) (i := (Int32.toNatClampNeg z)) (xAt_nc hok h_3a) dX1_take_11 ?_
  refine go_icmp_ge C (tgt := 27) dX1_take_14 (by decide) (fun c_4 => ?_) (fun c_4 => ?_)
  · refine go_aload_n C 0 dX1_take_27 rfl rfl ?_
    refine gl_frozenCents C (S := S) (i := (Int32.toNatClampNeg z)) (xAt_nc hok h_3a) dX1_take_28 ?_
    refine go_istore_n C (lo' := [(3, .int (lr_fz (cs_lt S (Int32.toNatClampNeg z)))), (2, .ref (cs_la S (Int32.toNatClampNeg z))), (0, .ref (a 0)), (1, .int z)]) dX1_take_31 rfl (by decide) rfl ?_
    refine go_aload_n C 1 dX1_take_32 rfl rfl ?_
    refine go_iconst C (v := 0) dX1_take_33 (by decide) ?_
    refine pl_frozenCents C (S := S) (i := (Int32.toNatClampNeg z)) (xAt_nc hok h_3a) dX1_take_34 ?_
    refine go_w (w2 := wW cI cJ cO a (wdS S z) M ov) rfl ?_
    refine go_aload_n C 2 dX1_take_37 rfl rfl ?_
    refine go_aload_n C 1 dX1_take_38 rfl rfl ?_
    refine go_iload_n C 0 dX1_take_39 rfl rfl ?_
    refine k_RX1_96 C (wdS S z) M ov (Int32.toNatClampNeg z) (lr_fz (cs_lt S (Int32.toNatClampNeg z))) (xAt_nc hok h_3a) ⟨(Nat.le_of_ble_eq_true rfl), (Nat.le_of_ble_eq_true rfl)⟩ ⟨(Nat.le_of_ble_eq_true rfl), (Nat.le_of_ble_eq_true rfl)⟩ (Nat.le_of_ble_eq_true rfl) dX1_take_40 ?_
    exact go_x (go_ireturn C rfl dX1_take_43 (by decide) (by decide) ⟨by simp only [tkC, if_pos c_4, if_neg h_3b, if_pos (lotC_s h_3a)], rfl, rfl⟩)
  · exact go_throw C hlf ht (names := nb_names) (text := "it cannot be taken yet") rfl mem_S fit_nb_S nb_names_fit bcl_RX1_83 bz_IllegalStateException (List.mem_of_getElem? (i := 8) rfl) hat_nb_S_87 hat2_nb_S_87 hgood_nb_S_83_87 dX1_take_17 dX1_take_20 dX1_take_21 dX1_take_23 dX1_take_26 (by decide) (by decide) (by decide) (by decide) ⟨xc_S (by simp only [tkC, if_neg c_4, if_neg h_3b, if_pos (lotC_s h_3a)]) rfl, rfl⟩ (by decide) (by decide)
theorem k_RL_50 {p : Program} {l : Launch} {e : Env} {R : Room} {s : State} {m : MethodId} {args : Array Value} {below : List Frame} {meth : Method} {c : Code} {D : va_G} {N0 mL : Nat} {cc : ByteArray} {nm : String} {ret : Option FieldType} {Q : State → Prop} {k n pc : Nat} {lo : List (Nat × Value)} {st : List Value} {cI cJ cO : ClassId} {a : Nat → Nat} (C : Cxt p s m args meth c D (tysW cI cJ cO) N0 cc mL RL ret nm) (hlf : l.stackTraces = false) (S : CS) (M : LWS) (ov : va_W) (z : Int32) (hok : okX S) (hR : 8 + 1 ≤ R.frames ∧ 8 + (4 + 11) + 126 ≤ R.locals) (hcs : k + 3 ≤ R.cells ∧ n + 18 ≤ R.slots) (hcat : (st.map fun v => v.category).sum ≤ 8) (dk : decode cc pc = .ok (.invokevirtual 50, 3)) (gx : ∀ E : String, (tkC S z ≠ 0 ∧ E = exN (tkC S z)) → GoX p l e R s m args below meth c D N0 mL Q (wW cI cJ cO a S M ov) (k + 3) (n + 18) pc lo E) (g : (tkC S z = 0) → Go p l e R s m args below meth c D N0 mL Q (wW cI cJ cO a (poS (wdS S z) (Int32.toNatClampNeg z) (lr_fz (cs_lt S (Int32.toNatClampNeg z)))) M ov) (k + 3) (n + 18) (pc + 3) lo (.int (poC (wdS S z) (Int32.toNatClampNeg z) (lr_fz (cs_lt S (Int32.toNatClampNeg z)))) :: st)) : Go p l e R s m args below meth c D N0 mL Q (wW cI cJ cO a S M ov) k n pc lo (.int z :: .ref (a 0) :: st) :=
  go_callVX C (ci := 1) (r9 := (RX1, TX1, 8)) (qi := 0) (As := [.int z]) (rest := st) rfl rfl (c_X1_take l hlf D cI cJ cO N0 a S M ov z hok) ⟨rfl, by decide +kernel, by decide +kernel⟩ bl_RL_50 bi_yX1_take bs_yX1_take bz_NoticeBook bc_yX1_take (show Option.map (fun d => d.parameters.length) (parseMethodDescriptor yX1_take.desc) = some 1 by decide +kernel) hR hcs hcat dk (fun E w2 h => by obtain ⟨h9, rfl⟩ := h; exact gx E h9) (fun r w2 h => by obtain ⟨h9, rfl, rfl⟩ := h; exact g h9) rfl
set_option maxHeartbeats 4000000 in
set_option maxRecDepth 100000 in
theorem c_X1_instruct (l : Launch) (hlf : l.stackTraces = false) (D : va_G) (cI cJ cO : ClassId) (N0 : Nat) (a : Nat → Nat) (S : CS) (M : LWS) (ov : va_W) (z v : Int32) (hok : okX S) : CtX l D (tysW cI cJ cO) N0 yX1_instruct cX1_instruct 5 (some .int) { frames := 7, cells := 3, slots := 18, locals := 104 } [.ref (a 0), .int z, .int v] (wW cI cJ cO a S M ov) (fun r w2 => inC S z v = 0 ∧ r = some (.int (lr_ins (cs_lt S (Int32.toNatClampNeg z)))) ∧ w2 = wW cI cJ cO a (inS S z v) M ov) (fun E w2 => (inC S z v ≠ 0 ∧ E = exN (inC S z v)) ∧ w2 = wW cI cJ cO a S M ov) := by
  refine ctx_of (by decide +kernel) (Nat.le_of_ble_eq_true rfl) ?_
  intro p e s m args below meth c C ht
  have C : Cxt p s m args meth c D (tysW cI cJ cO) N0 cX1_instruct 5 RX1 (some .int) "instruct" := C
  refine go_aload_n C 0 dX1_instruct_0 rfl rfl ?_
  refine go_iload_n C 1 dX1_instruct_1 rfl rfl ?_
  refine k_RX1_69 C hlf S M ov z hok ⟨(Nat.le_of_ble_eq_true rfl), (Nat.le_of_ble_eq_true rfl)⟩ ⟨(Nat.le_of_ble_eq_true rfl), (Nat.le_of_ble_eq_true rfl)⟩ (Nat.le_of_ble_eq_true rfl) dX1_instruct_2 (fun E hE_1 => gox_out C ht (⟨xc_I (by simp only [inC, if_neg (lotC_n hE_1.2)]) hE_1.1, rfl⟩) (by decide) (by decide)) (fun j_2 h_3 => ?_)
  obtain rfl := (xAt_some h_3).1
  refine go_astore_n C (lo' := [(3, .ref (cs_la S (Int32.toNatClampNeg z))), (0, .ref (a 0)), (1, .int z), (2, .int v)]) dX1_instruct_5 rfl (by decide) rfl ?_
  refine go_iload_n C 3 dX1_instruct_6 rfl rfl ?_
  refine go_iconst C (v := 0) dX1_instruct_7 (by decide) ?_
  refine go_iconst C (v := 2) dX1_instruct_8 (by decide) ?_
  refine k_RX1_47 C hlf S M ov v 0 2 ⟨(Nat.le_of_ble_eq_true rfl), (Nat.le_of_ble_eq_true rfl)⟩ ⟨(Nat.le_of_ble_eq_true rfl), (Nat.le_of_ble_eq_true rfl)⟩ (Nat.le_of_ble_eq_true rfl) dX1_instruct_9 (fun E hE_4 => gox_out C ht (⟨xc_A (by simp only [inC, if_pos (lotC_s h_3), if_neg (ne0_2 hE_4.2)]) hE_4.1, rfl⟩) (by decide) (by decide)) (fun h_5 => ?_)
  refine go_aload_n C 0 dX1_instruct_12 rfl rfl ?_
  refine k_RX1_76 C S M ov (Int32.toNatClampNeg z) (xAt_nc hok h_3) ⟨(Nat.le_of_ble_eq_true rfl), (Nat.le_of_ble_eq_true rfl)⟩ ⟨(Nat.le_of_ble_eq_true rfl), (Nat.le_of_ble_eq_true rfl)⟩ (Nat.le_of_ble_eq_true rfl) dX1_instruct_13 ?_
  refine go_if_ne C (tgt := 29) dX1_instruct_16 (by decide) (fun c_6 => ?_) (fun c_6 => ?_)
  · refine go_aload_n C 0 dX1_instruct_29 rfl rfl ?_
    refine gl_instruction C (S := S) (i := (Int32.toNatClampNeg z)) (xAt_nc hok h_3) dX1_instruct_30 ?_
    refine go_istore C (lo' := [(4, .int (lr_ins (cs_lt S (Int32.toNatClampNeg z)))), (3, .ref (cs_la S (Int32.toNatClampNeg z))), (0, .ref (a 0)), (1, .int z), (2, .int v)]) dX1_instruct_33 (by decide) rfl ?_
    refine go_aload_n C 1 dX1_instruct_35 rfl rfl ?_
    refine go_iload_n C 4 dX1_instruct_36 rfl rfl ?_
    refine pl_instruction C (S := S) (i := (Int32.toNatClampNeg z)) (xAt_nc hok h_3) dX1_instruct_37 ?_
    refine go_iload C 0 dX1_instruct_40 rfl ?_
    exact go_x (go_ireturn C rfl dX1_instruct_42 (by decide) (by decide) ⟨by simp only [inC, if_neg c_6, if_pos (lotC_s h_3), if_pos h_5], rfl, rfl⟩)
  · exact go_throw C hlf ht (names := nb_names) (text := "not by TERM") rfl mem_S fit_nb_S nb_names_fit bcl_RX1_83 bz_IllegalStateException (List.mem_of_getElem? (i := 10) rfl) hat_nb_S_87 hat2_nb_S_87 hgood_nb_S_83_87 dX1_instruct_19 dX1_instruct_22 dX1_instruct_23 dX1_instruct_25 dX1_instruct_28 (by decide) (by decide) (by decide) (by decide) ⟨xc_S (by simp only [inC, if_pos c_6, if_pos (lotC_s h_3), if_pos h_5]) rfl, rfl⟩ (by decide) (by decide)
theorem k_RL_56 {p : Program} {l : Launch} {e : Env} {R : Room} {s : State} {m : MethodId} {args : Array Value} {below : List Frame} {meth : Method} {c : Code} {D : va_G} {N0 mL : Nat} {cc : ByteArray} {nm : String} {ret : Option FieldType} {Q : State → Prop} {k n pc : Nat} {lo : List (Nat × Value)} {st : List Value} {cI cJ cO : ClassId} {a : Nat → Nat} (C : Cxt p s m args meth c D (tysW cI cJ cO) N0 cc mL RL ret nm) (hlf : l.stackTraces = false) (S : CS) (M : LWS) (ov : va_W) (z v : Int32) (hok : okX S) (hR : 7 + 1 ≤ R.frames ∧ 8 + (5 + 11) + 104 ≤ R.locals) (hcs : k + 3 ≤ R.cells ∧ n + 18 ≤ R.slots) (hcat : (st.map fun v => v.category).sum ≤ 8) (dk : decode cc pc = .ok (.invokevirtual 56, 3)) (gx : ∀ E : String, (inC S z v ≠ 0 ∧ E = exN (inC S z v)) → GoX p l e R s m args below meth c D N0 mL Q (wW cI cJ cO a S M ov) (k + 3) (n + 18) pc lo E) (g : (inC S z v = 0) → Go p l e R s m args below meth c D N0 mL Q (wW cI cJ cO a (inS S z v) M ov) (k + 3) (n + 18) (pc + 3) lo (.int (lr_ins (cs_lt S (Int32.toNatClampNeg z))) :: st)) : Go p l e R s m args below meth c D N0 mL Q (wW cI cJ cO a S M ov) k n pc lo (.int v :: .int z :: .ref (a 0) :: st) :=
  go_callVX C (ci := 1) (r9 := (RX1, TX1, 8)) (qi := 0) (As := [.int z, .int v]) (rest := st) rfl rfl (c_X1_instruct l hlf D cI cJ cO N0 a S M ov z v hok) ⟨rfl, by decide +kernel, by decide +kernel⟩ bl_RL_56 bi_yX1_instruct bs_yX1_instruct bz_NoticeBook bc_yX1_instruct (show Option.map (fun d => d.parameters.length) (parseMethodDescriptor yX1_instruct.desc) = some 2 by decide +kernel) hR hcs hcat dk (fun E w2 h => by obtain ⟨h9, rfl⟩ := h; exact gx E h9) (fun r w2 h => by obtain ⟨h9, rfl, rfl⟩ := h; exact g h9) rfl
set_option maxHeartbeats 4000000 in
set_option maxRecDepth 100000 in
theorem c_X1_letGo (l : Launch) (hlf : l.stackTraces = false) (D : va_G) (cI cJ cO : ClassId) (N0 : Nat) (a : Nat → Nat) (S : CS) (M : LWS) (ov : va_W) (z : Int32) (hok : okX S) : CtX l D (tysW cI cJ cO) N0 yX1_letGo cX1_letGo 3 (some .int) { frames := 7, cells := 2, slots := 12, locals := 104 } [.ref (a 0), .int z] (wW cI cJ cO a S M ov) (fun r w2 => lgC S z = 0 ∧ r = some (.int (lgV S z)) ∧ w2 = wW cI cJ cO a (lgS S z) M ov) (fun E w2 => (lgC S z ≠ 0 ∧ E = exN (lgC S z)) ∧ w2 = wW cI cJ cO a S M ov) := by
  refine ctx_of (by decide +kernel) (Nat.le_of_ble_eq_true rfl) ?_
  intro p e s m args below meth c C ht
  have C : Cxt p s m args meth c D (tysW cI cJ cO) N0 cX1_letGo 3 RX1 (some .int) "letGo" := C
  refine go_aload_n C 0 dX1_letGo_0 rfl rfl ?_
  refine go_iload_n C 1 dX1_letGo_1 rfl rfl ?_
  refine k_RX1_69 C hlf S M ov z hok ⟨(Nat.le_of_ble_eq_true rfl), (Nat.le_of_ble_eq_true rfl)⟩ ⟨(Nat.le_of_ble_eq_true rfl), (Nat.le_of_ble_eq_true rfl)⟩ (Nat.le_of_ble_eq_true rfl) dX1_letGo_2 (fun E hE_1 => gox_out C ht (⟨xc_I (by simp only [lgC, if_neg (lotC_n hE_1.2)]) hE_1.1, rfl⟩) (by decide) (by decide)) (fun j_2 h_3 => ?_)
  obtain rfl := (xAt_some h_3).1
  refine go_astore_n C (lo' := [(2, .ref (cs_la S (Int32.toNatClampNeg z))), (0, .ref (a 0)), (1, .int z)]) dX1_letGo_5 rfl (by decide) rfl ?_
  refine go_aload_n C 0 dX1_letGo_6 rfl rfl ?_
  refine gl_renewedOn C (S := S) (i := (Int32.toNatClampNeg z)) (xAt_nc hok h_3) dX1_letGo_7 ?_
  refine go_iconst C (v := (-1)) dX1_letGo_10 (by decide) ?_
  refine go_icmp_eq C (tgt := 28) dX1_letGo_11 (by decide) (fun c_4 => ?_) (fun c_4 => ?_)
  · exact go_throw C hlf ht (names := nb_names) (text := "no days of grace") rfl mem_S fit_nb_S nb_names_fit bcl_RX1_83 bz_IllegalStateException (List.mem_of_getElem? (i := 11) rfl) hat_nb_S_87 hat2_nb_S_87 hgood_nb_S_83_87 dX1_letGo_28 dX1_letGo_31 dX1_letGo_32 dX1_letGo_34 dX1_letGo_37 (by decide) (by decide) (by decide) (by decide) ⟨xc_S (by simp only [lgC, if_pos c_4, if_pos (lotC_s h_3)]) rfl, rfl⟩ (by decide) (by decide)
  · refine go_aload_n C 1 dX1_letGo_14 rfl rfl ?_
    refine gx_day C dX1_letGo_15 ?_
    refine go_aload_n C 0 dX1_letGo_18 rfl rfl ?_
    refine gl_renewedOn C (S := S) (i := (Int32.toNatClampNeg z)) (xAt_nc hok h_3) dX1_letGo_19 ?_
    refine go_isub C dX1_letGo_22 ?_
    refine go_bipush C (v := 7) dX1_letGo_23 (by decide) ?_
    refine go_icmp_lt C (tgt := 38) dX1_letGo_25 (by decide) (fun c_5 => ?_) (fun c_5 => ?_)
    · refine go_aload_n C 1 dX1_letGo_38 rfl rfl ?_
      refine go_aload_n C 0 dX1_letGo_39 rfl rfl ?_
      refine go_aload_n C 0 dX1_letGo_40 rfl rfl ?_
      refine gl_earned C (S := S) (i := (Int32.toNatClampNeg z)) (xAt_nc hok h_3) dX1_letGo_41 ?_
      refine k_RX1_127 C S M ov (Int32.toNatClampNeg z) (lr_ea (cs_lt S (Int32.toNatClampNeg z))) (xAt_nc hok h_3) ⟨(Nat.le_of_ble_eq_true rfl), (Nat.le_of_ble_eq_true rfl)⟩ ⟨(Nat.le_of_ble_eq_true rfl), (Nat.le_of_ble_eq_true rfl)⟩ (Nat.le_of_ble_eq_true rfl) dX1_letGo_44 ?_
      refine go_w (w2 := wW cI cJ cO a (lg1 S z) M ov) rfl ?_
      refine go_aload_n C 1 dX1_letGo_47 rfl rfl ?_
      refine go_aload_n C 0 dX1_letGo_48 rfl rfl ?_
      refine go_aload_n C 0 dX1_letGo_49 rfl rfl ?_
      refine gl_principal C (S := lg1 S z) (i := (Int32.toNatClampNeg z)) (xAt_nc hok h_3) dX1_letGo_50 ?_
      refine k_RX1_96 C (lg1 S z) M ov (Int32.toNatClampNeg z) (lr_pr (cs_lt (lg1 S z) (Int32.toNatClampNeg z))) (xAt_nc hok h_3) ⟨(Nat.le_of_ble_eq_true rfl), (Nat.le_of_ble_eq_true rfl)⟩ ⟨(Nat.le_of_ble_eq_true rfl), (Nat.le_of_ble_eq_true rfl)⟩ (Nat.le_of_ble_eq_true rfl) dX1_letGo_53 ?_
      exact go_x (go_ireturn C rfl dX1_letGo_56 (by decide) (by decide) ⟨by simp only [lgC, if_neg c_4, if_pos c_5, if_pos (lotC_s h_3)], rfl, rfl⟩)
    · exact go_throw C hlf ht (names := nb_names) (text := "no days of grace") rfl mem_S fit_nb_S nb_names_fit bcl_RX1_83 bz_IllegalStateException (List.mem_of_getElem? (i := 11) rfl) hat_nb_S_87 hat2_nb_S_87 hgood_nb_S_83_87 dX1_letGo_28 dX1_letGo_31 dX1_letGo_32 dX1_letGo_34 dX1_letGo_37 (by decide) (by decide) (by decide) (by decide) ⟨xc_S (by simp only [lgC, if_neg c_4, if_neg c_5, if_pos (lotC_s h_3)]) rfl, rfl⟩ (by decide) (by decide)
theorem k_RL_59 {p : Program} {l : Launch} {e : Env} {R : Room} {s : State} {m : MethodId} {args : Array Value} {below : List Frame} {meth : Method} {c : Code} {D : va_G} {N0 mL : Nat} {cc : ByteArray} {nm : String} {ret : Option FieldType} {Q : State → Prop} {k n pc : Nat} {lo : List (Nat × Value)} {st : List Value} {cI cJ cO : ClassId} {a : Nat → Nat} (C : Cxt p s m args meth c D (tysW cI cJ cO) N0 cc mL RL ret nm) (hlf : l.stackTraces = false) (S : CS) (M : LWS) (ov : va_W) (z : Int32) (hok : okX S) (hR : 7 + 1 ≤ R.frames ∧ 8 + (3 + 11) + 104 ≤ R.locals) (hcs : k + 2 ≤ R.cells ∧ n + 12 ≤ R.slots) (hcat : (st.map fun v => v.category).sum ≤ 8) (dk : decode cc pc = .ok (.invokevirtual 59, 3)) (gx : ∀ E : String, (lgC S z ≠ 0 ∧ E = exN (lgC S z)) → GoX p l e R s m args below meth c D N0 mL Q (wW cI cJ cO a S M ov) (k + 2) (n + 12) pc lo E) (g : (lgC S z = 0) → Go p l e R s m args below meth c D N0 mL Q (wW cI cJ cO a (lgS S z) M ov) (k + 2) (n + 12) (pc + 3) lo (.int (lgV S z) :: st)) : Go p l e R s m args below meth c D N0 mL Q (wW cI cJ cO a S M ov) k n pc lo (.int z :: .ref (a 0) :: st) :=
  go_callVX C (ci := 1) (r9 := (RX1, TX1, 8)) (qi := 0) (As := [.int z]) (rest := st) rfl rfl (c_X1_letGo l hlf D cI cJ cO N0 a S M ov z hok) ⟨rfl, by decide +kernel, by decide +kernel⟩ bl_RL_59 bi_yX1_letGo bs_yX1_letGo bz_NoticeBook bc_yX1_letGo (show Option.map (fun d => d.parameters.length) (parseMethodDescriptor yX1_letGo.desc) = some 1 by decide +kernel) hR hcs hcat dk (fun E w2 h => by obtain ⟨h9, rfl⟩ := h; exact gx E h9) (fun r w2 h => by obtain ⟨h9, rfl, rfl⟩ := h; exact g h9) rfl
set_option maxHeartbeats 4000000 in
set_option maxRecDepth 100000 in
theorem c_X1_join (l : Launch) (hlf : l.stackTraces = false) (D : va_G) (cI cJ cO : ClassId) (N0 : Nat) (a : Nat → Nat) (S : CS) (M : LWS) (ov : va_W) (z y : Int32) (hok : okX S) : CtX l D (tysW cI cJ cO) N0 yX1_join cX1_join 5 (some .int) { frames := 7, cells := 3, slots := 18, locals := 104 } [.ref (a 0), .int z, .int y] (wW cI cJ cO a S M ov) (fun r w2 => joC S z y = 0 ∧ r = some (.int (lr_pr (cs_lt (joS S (Int32.toNatClampNeg z) (Int32.toNatClampNeg y)) (Int32.toNatClampNeg z)))) ∧ w2 = wW cI cJ cO a (joS S (Int32.toNatClampNeg z) (Int32.toNatClampNeg y)) M ov) (fun E w2 => (joC S z y ≠ 0 ∧ E = exN (joC S z y)) ∧ w2 = wW cI cJ cO a S M ov) := by
  refine ctx_of (by decide +kernel) (Nat.le_of_ble_eq_true rfl) ?_
  intro p e s m args below meth c C ht
  have C : Cxt p s m args meth c D (tysW cI cJ cO) N0 cX1_join 5 RX1 (some .int) "join" := C
  refine go_aload_n C 0 dX1_join_0 rfl rfl ?_
  refine go_iload_n C 1 dX1_join_1 rfl rfl ?_
  refine k_RX1_69 C hlf S M ov z hok ⟨(Nat.le_of_ble_eq_true rfl), (Nat.le_of_ble_eq_true rfl)⟩ ⟨(Nat.le_of_ble_eq_true rfl), (Nat.le_of_ble_eq_true rfl)⟩ (Nat.le_of_ble_eq_true rfl) dX1_join_2 (fun E hE_1 => gox_out C ht (⟨xc_I (by simp only [joC, if_neg (lotC_n hE_1.2)]) hE_1.1, rfl⟩) (by decide) (by decide)) (fun j_2 h_3 => ?_)
  obtain rfl := (xAt_some h_3).1
  refine go_astore_n C (lo' := [(3, .ref (cs_la S (Int32.toNatClampNeg z))), (0, .ref (a 0)), (1, .int z), (2, .int y)]) dX1_join_5 rfl (by decide) rfl ?_
  refine go_aload_n C 1 dX1_join_6 rfl rfl ?_
  refine go_iload_n C 3 dX1_join_7 rfl rfl ?_
  refine k_RX1_69 C hlf S M ov y hok ⟨(Nat.le_of_ble_eq_true rfl), (Nat.le_of_ble_eq_true rfl)⟩ ⟨(Nat.le_of_ble_eq_true rfl), (Nat.le_of_ble_eq_true rfl)⟩ (Nat.le_of_ble_eq_true rfl) dX1_join_8 (fun E hE_4 => gox_out C ht (⟨xc_I (by simp only [joC, if_pos (lotC_s h_3), if_neg (lotC_n hE_4.2)]) hE_4.1, rfl⟩) (by decide) (by decide)) (fun j_5 h_6 => ?_)
  obtain rfl := (xAt_some h_6).1
  refine go_astore C (lo' := [(4, .ref (cs_la S (Int32.toNatClampNeg y))), (3, .ref (cs_la S (Int32.toNatClampNeg z))), (0, .ref (a 0)), (1, .int z), (2, .int y)]) dX1_join_11 (by decide) rfl ?_
  refine go_iload_n C 3 dX1_join_13 rfl rfl ?_
  refine go_iload_n C 4 dX1_join_14 rfl rfl ?_
  refine go_icmp_ne C (tgt := 28) dX1_join_15 (by decide) (fun c_7 => ?_) (fun c_7 => ?_)
  · refine go_aload_n C 1 dX1_join_28 rfl rfl ?_
    refine go_aload C 0 dX1_join_29 rfl ?_
    refine k_RX1_147 C S M ov (Int32.toNatClampNeg z) (Int32.toNatClampNeg y) (xAt_nc hok h_3) (xAt_nc hok h_6) ⟨(Nat.le_of_ble_eq_true rfl), (Nat.le_of_ble_eq_true rfl)⟩ ⟨(Nat.le_of_ble_eq_true rfl), (Nat.le_of_ble_eq_true rfl)⟩ (Nat.le_of_ble_eq_true rfl) dX1_join_31 ?_
    refine go_if_ne C (tgt := 47) dX1_join_34 (by decide) (fun c_8 => ?_) (fun c_8 => ?_)
    · refine go_aload_n C 1 dX1_join_47 rfl rfl ?_
      refine go_dup C dX1_join_48 rfl ?_
      refine gl_principal C (S := S) (i := (Int32.toNatClampNeg z)) (xAt_nc hok h_3) dX1_join_49 ?_
      refine go_aload C 0 dX1_join_52 rfl ?_
      refine gl_principal C (S := S) (i := (Int32.toNatClampNeg y)) (xAt_nc hok h_6) dX1_join_54 ?_
      refine go_iadd C dX1_join_57 ?_
      refine pl_principal C (S := S) (i := (Int32.toNatClampNeg z)) (xAt_nc hok h_3) dX1_join_58 ?_
      refine go_w (w2 := wW cI cJ cO a (jo1 S (Int32.toNatClampNeg z) (Int32.toNatClampNeg y)) M ov) rfl ?_
      refine go_aload_n C 1 dX1_join_61 rfl rfl ?_
      refine go_dup C dX1_join_62 rfl ?_
      refine gl_earned C (S := jo1 S (Int32.toNatClampNeg z) (Int32.toNatClampNeg y)) (i := (Int32.toNatClampNeg z)) (xAt_nc hok h_3) dX1_join_63 ?_
      refine go_aload C 0 dX1_join_66 rfl ?_
      refine gl_earned C (S := jo1 S (Int32.toNatClampNeg z) (Int32.toNatClampNeg y)) (i := (Int32.toNatClampNeg y)) (xAt_nc hok h_6) dX1_join_68 ?_
      refine go_ladd C dX1_join_71 ?_
      refine pl_earned C (S := jo1 S (Int32.toNatClampNeg z) (Int32.toNatClampNeg y)) (i := (Int32.toNatClampNeg z)) (xAt_nc hok h_3) dX1_join_72 ?_
      refine go_w (w2 := wW cI cJ cO a (jo2 (jo1 S (Int32.toNatClampNeg z) (Int32.toNatClampNeg y)) (Int32.toNatClampNeg z) (Int32.toNatClampNeg y)) M ov) rfl ?_
      refine go_aload_n C 1 dX1_join_75 rfl rfl ?_
      refine go_dup C dX1_join_76 rfl ?_
      refine gl_parts C (S := jo2 (jo1 S (Int32.toNatClampNeg z) (Int32.toNatClampNeg y)) (Int32.toNatClampNeg z) (Int32.toNatClampNeg y)) (i := (Int32.toNatClampNeg z)) (xAt_nc hok h_3) dX1_join_77 ?_
      refine go_aload C 0 dX1_join_80 rfl ?_
      refine gl_parts C (S := jo2 (jo1 S (Int32.toNatClampNeg z) (Int32.toNatClampNeg y)) (Int32.toNatClampNeg z) (Int32.toNatClampNeg y)) (i := (Int32.toNatClampNeg y)) (xAt_nc hok h_6) dX1_join_82 ?_
      refine go_ladd C dX1_join_85 ?_
      refine pl_parts C (S := jo2 (jo1 S (Int32.toNatClampNeg z) (Int32.toNatClampNeg y)) (Int32.toNatClampNeg z) (Int32.toNatClampNeg y)) (i := (Int32.toNatClampNeg z)) (xAt_nc hok h_3) dX1_join_86 ?_
      refine go_w (w2 := wW cI cJ cO a (jo3 (jo2 (jo1 S (Int32.toNatClampNeg z) (Int32.toNatClampNeg y)) (Int32.toNatClampNeg z) (Int32.toNatClampNeg y)) (Int32.toNatClampNeg z) (Int32.toNatClampNeg y)) M ov) rfl ?_
      refine go_aload_n C 1 dX1_join_89 rfl rfl ?_
      refine go_iconst C (v := (-1)) dX1_join_90 (by decide) ?_
      refine pl_renewedOn C (S := jo3 (jo2 (jo1 S (Int32.toNatClampNeg z) (Int32.toNatClampNeg y)) (Int32.toNatClampNeg z) (Int32.toNatClampNeg y)) (Int32.toNatClampNeg z) (Int32.toNatClampNeg y)) (i := (Int32.toNatClampNeg z)) (xAt_nc hok h_3) dX1_join_91 ?_
      refine go_w (w2 := wW cI cJ cO a (jo4 (jo3 (jo2 (jo1 S (Int32.toNatClampNeg z) (Int32.toNatClampNeg y)) (Int32.toNatClampNeg z) (Int32.toNatClampNeg y)) (Int32.toNatClampNeg z) (Int32.toNatClampNeg y)) (Int32.toNatClampNeg z)) M ov) rfl ?_
      refine go_aload C 0 dX1_join_94 rfl ?_
      refine go_iconst C (v := 0) dX1_join_96 (by decide) ?_
      refine pl_principal C (S := jo4 (jo3 (jo2 (jo1 S (Int32.toNatClampNeg z) (Int32.toNatClampNeg y)) (Int32.toNatClampNeg z) (Int32.toNatClampNeg y)) (Int32.toNatClampNeg z) (Int32.toNatClampNeg y)) (Int32.toNatClampNeg z)) (i := (Int32.toNatClampNeg y)) (xAt_nc hok h_6) dX1_join_97 ?_
      refine go_w (w2 := wW cI cJ cO a (joS S (Int32.toNatClampNeg z) (Int32.toNatClampNeg y)) M ov) rfl ?_
      refine go_aload_n C 1 dX1_join_100 rfl rfl ?_
      refine gl_principal C (S := joS S (Int32.toNatClampNeg z) (Int32.toNatClampNeg y)) (i := (Int32.toNatClampNeg z)) (xAt_nc hok h_3) dX1_join_101 ?_
      exact go_x (go_ireturn C rfl dX1_join_104 (by decide) (by decide) ⟨by simp only [joC, if_neg c_7, if_neg c_8, if_pos (lotC_s h_3), if_pos (lotC_s h_6)], rfl, rfl⟩)
    · exact go_throw C hlf ht (names := nb_names) (text := "these lots cannot be joined") rfl mem_S fit_nb_S nb_names_fit bcl_RX1_83 bz_IllegalStateException (List.mem_of_getElem? (i := 13) rfl) hat_nb_S_87 hat2_nb_S_87 hgood_nb_S_83_87 dX1_join_37 dX1_join_40 dX1_join_41 dX1_join_43 dX1_join_46 (by decide) (by decide) (by decide) (by decide) ⟨xc_S (by simp only [joC, if_neg c_7, if_pos c_8, if_pos (lotC_s h_3), if_pos (lotC_s h_6)]) rfl, rfl⟩ (by decide) (by decide)
  · exact go_throw C hlf ht (names := nb_names) (text := "both are the same lot") rfl mem_A fit_nb_A nb_names_fit bcl_RX1_142 bz_IllegalArgumentException (List.mem_of_getElem? (i := 12) rfl) hat_nb_A_146 hat2_nb_A_146 hgood_nb_A_142_146 dX1_join_18 dX1_join_21 dX1_join_22 dX1_join_24 dX1_join_27 (by decide) (by decide) (by decide) (by decide) ⟨xc_A (by simp only [joC, if_pos c_7, if_pos (lotC_s h_3), if_pos (lotC_s h_6)]) rfl, rfl⟩ (by decide) (by decide)
theorem k_RL_62 {p : Program} {l : Launch} {e : Env} {R : Room} {s : State} {m : MethodId} {args : Array Value} {below : List Frame} {meth : Method} {c : Code} {D : va_G} {N0 mL : Nat} {cc : ByteArray} {nm : String} {ret : Option FieldType} {Q : State → Prop} {k n pc : Nat} {lo : List (Nat × Value)} {st : List Value} {cI cJ cO : ClassId} {a : Nat → Nat} (C : Cxt p s m args meth c D (tysW cI cJ cO) N0 cc mL RL ret nm) (hlf : l.stackTraces = false) (S : CS) (M : LWS) (ov : va_W) (z y : Int32) (hok : okX S) (hR : 7 + 1 ≤ R.frames ∧ 8 + (5 + 11) + 104 ≤ R.locals) (hcs : k + 3 ≤ R.cells ∧ n + 18 ≤ R.slots) (hcat : (st.map fun v => v.category).sum ≤ 8) (dk : decode cc pc = .ok (.invokevirtual 62, 3)) (gx : ∀ E : String, (joC S z y ≠ 0 ∧ E = exN (joC S z y)) → GoX p l e R s m args below meth c D N0 mL Q (wW cI cJ cO a S M ov) (k + 3) (n + 18) pc lo E) (g : (joC S z y = 0) → Go p l e R s m args below meth c D N0 mL Q (wW cI cJ cO a (joS S (Int32.toNatClampNeg z) (Int32.toNatClampNeg y)) M ov) (k + 3) (n + 18) (pc + 3) lo (.int (lr_pr (cs_lt (joS S (Int32.toNatClampNeg z) (Int32.toNatClampNeg y)) (Int32.toNatClampNeg z))) :: st)) : Go p l e R s m args below meth c D N0 mL Q (wW cI cJ cO a S M ov) k n pc lo (.int y :: .int z :: .ref (a 0) :: st) :=
  go_callVX C (ci := 1) (r9 := (RX1, TX1, 8)) (qi := 0) (As := [.int z, .int y]) (rest := st) rfl rfl (c_X1_join l hlf D cI cJ cO N0 a S M ov z y hok) ⟨rfl, by decide +kernel, by decide +kernel⟩ bl_RL_62 bi_yX1_join bs_yX1_join bz_NoticeBook bc_yX1_join (show Option.map (fun d => d.parameters.length) (parseMethodDescriptor yX1_join.desc) = some 2 by decide +kernel) hR hcs hcat dk (fun E w2 h => by obtain ⟨h9, rfl⟩ := h; exact gx E h9) (fun r w2 h => by obtain ⟨h9, rfl, rfl⟩ := h; exact g h9) rfl
