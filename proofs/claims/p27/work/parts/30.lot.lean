set_option maxHeartbeats 4000000 in
set_option maxRecDepth 100000 in
theorem c_X0_isByTerm (l : Launch) (D : va_G) (cI cJ cO : ClassId) (N0 : Nat) (a : Nat → Nat) (S : CS) (M : LWS) (ov : va_W) (i : Nat) (hi : i < cs_nc S) : Ct l D (tysW cI cJ cO) N0 yX0_isByTerm cX0_isByTerm 1 (some .boolean) { frames := 0, cells := 0, slots := 0, locals := 0 } [.ref (cs_la S i)] (wW cI cJ cO a S M ov) (fun r w2 => r = some (.int (bT (cs_lt S i))) ∧ w2 = wW cI cJ cO a S M ov) := by
  refine ct_of (by decide +kernel) (Nat.le_of_ble_eq_true rfl) ?_
  intro p e s m args below meth c C
  have C : Cxt p s m args meth c D (tysW cI cJ cO) N0 cX0_isByTerm 1 RX0 (some .boolean) "isByTerm" := C
  refine go_aload_n C 0 dX0_isByTerm_0 rfl rfl ?_
  refine gl0_termDays C (S := S) (i := i) hi dX0_isByTerm_1 ?_
  refine go_if_le C (tgt := 11) dX0_isByTerm_4 (by decide) (fun c_1 => ?_) (fun c_1 => ?_)
  · refine go_iconst C (v := 0) dX0_isByTerm_11 (by decide) ?_
    exact go_zreturn C rfl rfl dX0_isByTerm_12 (by decide) (by decide) ⟨by simp only [bT, if_pos c_1], rfl⟩
  · refine go_iconst C (v := 1) dX0_isByTerm_7 (by decide) ?_
    refine go_goto C (tgt := 12) dX0_isByTerm_8 (by decide) ?_
    exact go_zreturn C rfl rfl dX0_isByTerm_12 (by decide) (by decide) ⟨by simp only [bT, if_neg c_1], rfl⟩
theorem k_RX1_76 {p : Program} {l : Launch} {e : Env} {R : Room} {s : State} {m : MethodId} {args : Array Value} {below : List Frame} {meth : Method} {c : Code} {D : va_G} {N0 mL : Nat} {cc : ByteArray} {nm : String} {ret : Option FieldType} {Q : State → Prop} {k n pc : Nat} {lo : List (Nat × Value)} {st : List Value} {cI cJ cO : ClassId} {a : Nat → Nat} (C : Cxt p s m args meth c D (tysW cI cJ cO) N0 cc mL RX1 ret nm) (S : CS) (M : LWS) (ov : va_W) (i : Nat) (hi : i < cs_nc S) (hR : 0 + 1 ≤ R.frames ∧ 8 + (1 + 11) + 0 ≤ R.locals) (hcs : k + 0 ≤ R.cells ∧ n + 0 ≤ R.slots) (hcat : (st.map fun v => v.category).sum ≤ 8) (dk : decode cc pc = .ok (.invokevirtual 76, 3)) (g : Go p l e R s m args below meth c D N0 mL Q (wW cI cJ cO a S M ov) (k) (n) (pc + 3) lo (.int (bT (cs_lt S i)) :: st)) : Go p l e R s m args below meth c D N0 mL Q (wW cI cJ cO a S M ov) k n pc lo (.ref (cs_la S i) :: st) :=
  go_callVN C (ci := 0) (r9 := (RX0, TX0, 10)) (qi := 15 + i) (As := []) (rest := st) (w_lot hi) rfl (c_X0_isByTerm l D cI cJ cO N0 a S M ov i hi) (host := RX1) ⟨rfl, by decide +kernel, by decide +kernel⟩ (List.mem_of_getElem? (i := 11) rfl) bi_yX0_isByTerm bs_yX0_isByTerm bz_NoticeBook_Lot bc_yX0_isByTerm (show Option.map (fun d => d.parameters.length) (parseMethodDescriptor yX0_isByTerm.desc) = some 0 by decide +kernel) hR hcs hcat dk (fun r w2 h => by obtain ⟨rfl, rfl⟩ := h; exact g) rfl
set_option maxHeartbeats 4000000 in
set_option maxRecDepth 100000 in
theorem c_X0_unfrozen (l : Launch) (D : va_G) (cI cJ cO : ClassId) (N0 : Nat) (a : Nat → Nat) (S : CS) (M : LWS) (ov : va_W) (i : Nat) (hi : i < cs_nc S) : Ct l D (tysW cI cJ cO) N0 yX0_unfrozen cX0_unfrozen 1 (some .int) { frames := 0, cells := 0, slots := 0, locals := 0 } [.ref (cs_la S i)] (wW cI cJ cO a S M ov) (fun r w2 => r = some (.int (unf (cs_lt S i))) ∧ w2 = wW cI cJ cO a S M ov) := by
  refine ct_of (by decide +kernel) (Nat.le_of_ble_eq_true rfl) ?_
  intro p e s m args below meth c C
  have C : Cxt p s m args meth c D (tysW cI cJ cO) N0 cX0_unfrozen 1 RX0 (some .int) "unfrozen" := C
  refine go_aload_n C 0 dX0_unfrozen_0 rfl rfl ?_
  refine gl0_principal C (S := S) (i := i) hi dX0_unfrozen_1 ?_
  refine go_aload_n C 0 dX0_unfrozen_4 rfl rfl ?_
  refine gl0_frozenCents C (S := S) (i := i) hi dX0_unfrozen_5 ?_
  refine go_isub C dX0_unfrozen_8 ?_
  exact go_ireturn C rfl dX0_unfrozen_9 (by decide) (by decide) ⟨rfl, rfl⟩
theorem k_RX1_113 {p : Program} {l : Launch} {e : Env} {R : Room} {s : State} {m : MethodId} {args : Array Value} {below : List Frame} {meth : Method} {c : Code} {D : va_G} {N0 mL : Nat} {cc : ByteArray} {nm : String} {ret : Option FieldType} {Q : State → Prop} {k n pc : Nat} {lo : List (Nat × Value)} {st : List Value} {cI cJ cO : ClassId} {a : Nat → Nat} (C : Cxt p s m args meth c D (tysW cI cJ cO) N0 cc mL RX1 ret nm) (S : CS) (M : LWS) (ov : va_W) (i : Nat) (hi : i < cs_nc S) (hR : 0 + 1 ≤ R.frames ∧ 8 + (1 + 11) + 0 ≤ R.locals) (hcs : k + 0 ≤ R.cells ∧ n + 0 ≤ R.slots) (hcat : (st.map fun v => v.category).sum ≤ 8) (dk : decode cc pc = .ok (.invokevirtual 113, 3)) (g : Go p l e R s m args below meth c D N0 mL Q (wW cI cJ cO a S M ov) (k) (n) (pc + 3) lo (.int (unf (cs_lt S i)) :: st)) : Go p l e R s m args below meth c D N0 mL Q (wW cI cJ cO a S M ov) k n pc lo (.ref (cs_la S i) :: st) :=
  go_callVN C (ci := 0) (r9 := (RX0, TX0, 10)) (qi := 15 + i) (As := []) (rest := st) (w_lot hi) rfl (c_X0_unfrozen l D cI cJ cO N0 a S M ov i hi) (host := RX1) ⟨rfl, by decide +kernel, by decide +kernel⟩ (List.mem_of_getElem? (i := 13) rfl) bi_yX0_unfrozen bs_yX0_unfrozen bz_NoticeBook_Lot bc_yX0_unfrozen (show Option.map (fun d => d.parameters.length) (parseMethodDescriptor yX0_unfrozen.desc) = some 0 by decide +kernel) hR hcs hcat dk (fun r w2 h => by obtain ⟨rfl, rfl⟩ := h; exact g) rfl
set_option maxHeartbeats 4000000 in
set_option maxRecDepth 100000 in
theorem c_X0_drawWholeCents (l : Launch) (D : va_G) (cI cJ cO : ClassId) (N0 : Nat) (a : Nat → Nat) (S : CS) (M : LWS) (ov : va_W) (i : Nat) (hi : i < cs_nc S) : Ct l D (tysW cI cJ cO) N0 yX0_drawWholeCents cX0_drawWholeCents 2 (some .int) { frames := 0, cells := 0, slots := 0, locals := 0 } [.ref (cs_la S i)] (wW cI cJ cO a S M ov) (fun r w2 => r = some (.int (drwC (cs_lt S i))) ∧ w2 = wW cI cJ cO a (drwS S i) M ov) := by
  refine ct_of (by decide +kernel) (Nat.le_of_ble_eq_true rfl) ?_
  intro p e s m args below meth c C
  have C : Cxt p s m args meth c D (tysW cI cJ cO) N0 cX0_drawWholeCents 2 RX0 (some .int) "drawWholeCents" := C
  refine go_aload_n C 0 dX0_drawWholeCents_0 rfl rfl ?_
  refine gl0_earned C (S := S) (i := i) hi dX0_drawWholeCents_1 ?_
  refine go_ldc2 C bk_RX0_43 dX0_drawWholeCents_4 ?_
  refine go_ldiv C dX0_drawWholeCents_7 (by decide) ?_
  refine go_l2i C dX0_drawWholeCents_8 ?_
  refine go_istore_n C (lo' := [(1, .int (Int64.toInt32 ((lr_ea (cs_lt S i)) / 3650000))), (0, .ref (cs_la S i))]) dX0_drawWholeCents_9 rfl (by decide) rfl ?_
  refine go_aload_n C 1 dX0_drawWholeCents_10 rfl rfl ?_
  refine go_aload_n C 1 dX0_drawWholeCents_11 rfl rfl ?_
  refine gl0_earned C (S := S) (i := i) hi dX0_drawWholeCents_12 ?_
  refine go_ldc2 C bk_RX0_43 dX0_drawWholeCents_15 ?_
  refine go_lrem C dX0_drawWholeCents_18 (by decide) ?_
  refine pl0_earned C (S := S) (i := i) hi dX0_drawWholeCents_19 ?_
  refine go_iload_n C 0 dX0_drawWholeCents_22 rfl rfl ?_
  exact go_ireturn C rfl dX0_drawWholeCents_23 (by decide) (by decide) ⟨rfl, rfl⟩
theorem k_RX1_213 {p : Program} {l : Launch} {e : Env} {R : Room} {s : State} {m : MethodId} {args : Array Value} {below : List Frame} {meth : Method} {c : Code} {D : va_G} {N0 mL : Nat} {cc : ByteArray} {nm : String} {ret : Option FieldType} {Q : State → Prop} {k n pc : Nat} {lo : List (Nat × Value)} {st : List Value} {cI cJ cO : ClassId} {a : Nat → Nat} (C : Cxt p s m args meth c D (tysW cI cJ cO) N0 cc mL RX1 ret nm) (S : CS) (M : LWS) (ov : va_W) (i : Nat) (hi : i < cs_nc S) (hR : 0 + 1 ≤ R.frames ∧ 8 + (2 + 11) + 0 ≤ R.locals) (hcs : k + 0 ≤ R.cells ∧ n + 0 ≤ R.slots) (hcat : (st.map fun v => v.category).sum ≤ 8) (dk : decode cc pc = .ok (.invokevirtual 213, 3)) (g : Go p l e R s m args below meth c D N0 mL Q (wW cI cJ cO a (drwS S i) M ov) (k) (n) (pc + 3) lo (.int (drwC (cs_lt S i)) :: st)) : Go p l e R s m args below meth c D N0 mL Q (wW cI cJ cO a S M ov) k n pc lo (.ref (cs_la S i) :: st) :=
  go_callVN C (ci := 0) (r9 := (RX0, TX0, 10)) (qi := 15 + i) (As := []) (rest := st) (w_lot hi) rfl (c_X0_drawWholeCents l D cI cJ cO N0 a S M ov i hi) (host := RX1) ⟨rfl, by decide +kernel, by decide +kernel⟩ (List.mem_of_getElem? (i := 12) rfl) bi_yX0_drawWholeCents bs_yX0_drawWholeCents bz_NoticeBook_Lot bc_yX0_drawWholeCents (show Option.map (fun d => d.parameters.length) (parseMethodDescriptor yX0_drawWholeCents.desc) = some 0 by decide +kernel) hR hcs hcat dk (fun r w2 h => by obtain ⟨rfl, rfl⟩ := h; exact g) rfl
