set_option maxHeartbeats 4000000 in
set_option maxRecDepth 100000 in
theorem c_X1_totalOf (l : Launch) (D : va_G) (cI cJ cO : ClassId) (N0 : Nat) (a : Nat → Nat) (S : CS) (M : LWS) (ov : va_W) (cu : Int32) (hok : okX S) : Ct l D (tysW cI cJ cO) N0 yX1_totalOf cX1_totalOf 5 (some .int) { frames := 2, cells := 0, slots := 0, locals := 45 } [.ref (a 0), .int cu] (wW cI cJ cO a S M ov) (fun r w2 => r = some (.int (totTo S cu (cs_n S))) ∧ w2 = wW cI cJ cO a S M ov) := by
  refine ct_of (by decide +kernel) (Nat.le_of_ble_eq_true rfl) ?_
  intro p e s m args below meth c C
  have C : Cxt p s m args meth c D (tysW cI cJ cO) N0 cX1_totalOf 5 RX1 (some .int) "totalOf" := C
  refine go_iconst C (v := 0) dX1_totalOf_0 (by decide) ?_
  refine go_istore_n C (lo' := [(2, .int 0), (0, .ref (a 0)), (1, .int cu)]) dX1_totalOf_1 rfl (by decide) rfl ?_
  refine go_iconst C (v := 0) dX1_totalOf_2 (by decide) ?_
  refine go_istore_n C (lo' := [(3, .int 0), (2, .int 0), (0, .ref (a 0)), (1, .int cu)]) dX1_totalOf_3 rfl (by decide) rfl ?_
  refine go_for (cs_n S) (fun i => True) (fun i => wW cI cJ cO a S M ov) (fun i => [(3, .int (nI i)), (2, .int (totTo S cu i)), (0, .ref (a 0)), (1, .int cu)]) ⟨rfl, rfl⟩ trivial (fun i hi_i hI_i ih_i => ?_) (fun hI_i => ?_)
  · refine go_iload_n C 0 dX1_totalOf_4 rfl rfl ?_
    refine go_aload_n C 2 dX1_totalOf_5 rfl rfl ?_
    refine gx_lotsMade C dX1_totalOf_6 ?_
    refine go_icmp_ge C (tgt := 39) dX1_totalOf_9 (by decide) (fun c_1 => absurd c_1 (nI_nge hi_i hok.1)) (fun c_1 => ?_)
    refine go_aload_n C 2 dX1_totalOf_12 rfl rfl ?_
    refine go_iload_n C 0 dX1_totalOf_13 rfl rfl ?_
    refine go_iload_n C 3 dX1_totalOf_14 rfl rfl ?_
    refine k_RX1_190 C S M ov (nI i) cu hok ⟨(Nat.le_of_ble_eq_true rfl), (Nat.le_of_ble_eq_true rfl)⟩ ⟨(Nat.le_of_ble_eq_true rfl), (Nat.le_of_ble_eq_true rfl)⟩ (Nat.le_of_ble_eq_true rfl) dX1_totalOf_15 ?_
    rcases opt_c (xN S (nI i) cu) with hx_2 | ⟨j_3, hx_2⟩
    · refine go_st (st2 := [.null]) (by rw [hx_2]; rfl) ?_
      refine go_astoreq C (x := none) (lo' := [(4, .null), (3, .int (nI i)), (2, .int (totTo S cu i)), (0, .ref (a 0)), (1, .int cu)]) dX1_totalOf_18 (by decide) rfl ?_
      refine go_aloadq C (x := none) 0 dX1_totalOf_20 rfl ?_
      refine go_ifnullN C (tgt := 33) dX1_totalOf_22 (by decide) ?_
      refine go_iinc C (v := nI (i + 1)) (lo' := [(3, .int (nI (i + 1))), (4, .null), (2, .int (totTo S cu i)), (0, .ref (a 0)), (1, .int cu)]) 1 dX1_totalOf_33 rfl (nI_1 _) (by decide) rfl ?_
      refine go_goto C (tgt := 4) dX1_totalOf_36 (by decide) ?_
      refine go_lo (lo' := [(3, .int (nI (i + 1))), (2, .int (totTo S cu (i + 1))), (0, .ref (a 0)), (1, .int cu)]) [0, 2, 3, 4] (by rw [totTo_n hx_2]; rfl) ?_
      exact ih_i trivial
    · refine go_st (st2 := [.ref (cs_la S j_3)]) (by rw [hx_2]; rfl) ?_
      refine go_astore C (lo' := [(4, .ref (cs_la S j_3)), (3, .int (nI i)), (2, .int (totTo S cu i)), (0, .ref (a 0)), (1, .int cu)]) dX1_totalOf_18 (by decide) rfl ?_
      refine go_aload C 0 dX1_totalOf_20 rfl ?_
      refine go_ifnull C dX1_totalOf_22 ?_
      refine go_iload_n C 2 dX1_totalOf_25 rfl rfl ?_
      refine go_aload C 0 dX1_totalOf_26 rfl ?_
      refine gl_principal C (S := S) (i := j_3) (xN_nc hok hx_2) dX1_totalOf_28 ?_
      refine go_iadd C dX1_totalOf_31 ?_
      refine go_istore_n C (lo' := [(2, .int ((totTo S cu i) + (lr_pr (cs_lt S j_3)))), (4, .ref (cs_la S j_3)), (3, .int (nI i)), (0, .ref (a 0)), (1, .int cu)]) dX1_totalOf_32 rfl (by decide) rfl ?_
      refine go_iinc C (v := nI (i + 1)) (lo' := [(3, .int (nI (i + 1))), (2, .int ((totTo S cu i) + (lr_pr (cs_lt S j_3)))), (4, .ref (cs_la S j_3)), (0, .ref (a 0)), (1, .int cu)]) 2 dX1_totalOf_33 rfl (nI_1 _) (by decide) rfl ?_
      refine go_goto C (tgt := 4) dX1_totalOf_36 (by decide) ?_
      refine go_lo (lo' := [(3, .int (nI (i + 1))), (2, .int (totTo S cu (i + 1))), (0, .ref (a 0)), (1, .int cu)]) [0, 1, 3, 4] (by rw [totTo_s hx_2]; rfl) ?_
      exact ih_i trivial
  · refine go_iload_n C 0 dX1_totalOf_4 rfl rfl ?_
    refine go_aload_n C 2 dX1_totalOf_5 rfl rfl ?_
    refine gx_lotsMade C dX1_totalOf_6 ?_
    refine go_icmp_ge C (tgt := 39) dX1_totalOf_9 (by decide) (fun c_4 => ?_) (fun c_4 => absurd (nI_ger hok.1) c_4)
    refine go_iload_n C 1 dX1_totalOf_39 rfl rfl ?_
    exact go_ireturn C rfl dX1_totalOf_40 (by decide) (by decide) ⟨rfl, rfl⟩
theorem k_RX1_173 {p : Program} {l : Launch} {e : Env} {R : Room} {s : State} {m : MethodId} {args : Array Value} {below : List Frame} {meth : Method} {c : Code} {D : va_G} {N0 mL : Nat} {cc : ByteArray} {nm : String} {ret : Option FieldType} {Q : State → Prop} {k n pc : Nat} {lo : List (Nat × Value)} {st : List Value} {cI cJ cO : ClassId} {a : Nat → Nat} (C : Cxt p s m args meth c D (tysW cI cJ cO) N0 cc mL RX1 ret nm) (S : CS) (M : LWS) (ov : va_W) (cu : Int32) (hok : okX S) (hR : 2 + 1 ≤ R.frames ∧ 8 + (5 + 11) + 45 ≤ R.locals) (hcs : k + 0 ≤ R.cells ∧ n + 0 ≤ R.slots) (hcat : (st.map fun v => v.category).sum ≤ 8) (dk : decode cc pc = .ok (.invokevirtual 173, 3)) (g : Go p l e R s m args below meth c D N0 mL Q (wW cI cJ cO a S M ov) (k) (n) (pc + 3) lo (.int (totTo S cu (cs_n S)) :: st)) : Go p l e R s m args below meth c D N0 mL Q (wW cI cJ cO a S M ov) k n pc lo (.int cu :: .ref (a 0) :: st) :=
  go_callV C (ci := 1) (r9 := (RX1, TX1, 8)) (qi := 0) (As := [.int cu]) (rest := st) rfl rfl (c_X1_totalOf l D cI cJ cO N0 a S M ov cu hok) ⟨rfl, by decide +kernel, by decide +kernel⟩ bl_RX1_173 bi_yX1_totalOf bs_yX1_totalOf bz_NoticeBook bc_yX1_totalOf (show Option.map (fun d => d.parameters.length) (parseMethodDescriptor yX1_totalOf.desc) = some 1 by decide +kernel) hR hcs hcat dk (fun r w2 h => by obtain ⟨rfl, rfl⟩ := h; exact g) rfl
set_option maxHeartbeats 4000000 in
set_option maxRecDepth 100000 in
theorem c_X1_unfrozenOf (l : Launch) (D : va_G) (cI cJ cO : ClassId) (N0 : Nat) (a : Nat → Nat) (S : CS) (M : LWS) (ov : va_W) (cu : Int32) (hok : okX S) : Ct l D (tysW cI cJ cO) N0 yX1_unfrozenOf cX1_unfrozenOf 5 (some .int) { frames := 2, cells := 0, slots := 0, locals := 45 } [.ref (a 0), .int cu] (wW cI cJ cO a S M ov) (fun r w2 => r = some (.int (unfTo S cu (cs_n S))) ∧ w2 = wW cI cJ cO a S M ov) := by
  refine ct_of (by decide +kernel) (Nat.le_of_ble_eq_true rfl) ?_
  intro p e s m args below meth c C
  have C : Cxt p s m args meth c D (tysW cI cJ cO) N0 cX1_unfrozenOf 5 RX1 (some .int) "unfrozenOf" := C
  refine go_iconst C (v := 0) dX1_unfrozenOf_0 (by decide) ?_
  refine go_istore_n C (lo' := [(2, .int 0), (0, .ref (a 0)), (1, .int cu)]) dX1_unfrozenOf_1 rfl (by decide) rfl ?_
  refine go_iconst C (v := 0) dX1_unfrozenOf_2 (by decide) ?_
  refine go_istore_n C (lo' := [(3, .int 0), (2, .int 0), (0, .ref (a 0)), (1, .int cu)]) dX1_unfrozenOf_3 rfl (by decide) rfl ?_
  refine go_for (cs_n S) (fun i => True) (fun i => wW cI cJ cO a S M ov) (fun i => [(3, .int (nI i)), (2, .int (unfTo S cu i)), (0, .ref (a 0)), (1, .int cu)]) ⟨rfl, rfl⟩ trivial (fun i hi_i hI_i ih_i => ?_) (fun hI_i => ?_)
  · refine go_iload_n C 0 dX1_unfrozenOf_4 rfl rfl ?_
    refine go_aload_n C 2 dX1_unfrozenOf_5 rfl rfl ?_
    refine gx_lotsMade C dX1_unfrozenOf_6 ?_
    refine go_icmp_ge C (tgt := 39) dX1_unfrozenOf_9 (by decide) (fun c_1 => absurd c_1 (nI_nge hi_i hok.1)) (fun c_1 => ?_)
    refine go_aload_n C 2 dX1_unfrozenOf_12 rfl rfl ?_
    refine go_iload_n C 0 dX1_unfrozenOf_13 rfl rfl ?_
    refine go_iload_n C 3 dX1_unfrozenOf_14 rfl rfl ?_
    refine k_RX1_190 C S M ov (nI i) cu hok ⟨(Nat.le_of_ble_eq_true rfl), (Nat.le_of_ble_eq_true rfl)⟩ ⟨(Nat.le_of_ble_eq_true rfl), (Nat.le_of_ble_eq_true rfl)⟩ (Nat.le_of_ble_eq_true rfl) dX1_unfrozenOf_15 ?_
    rcases opt_c (xN S (nI i) cu) with hx_2 | ⟨j_3, hx_2⟩
    · refine go_st (st2 := [.null]) (by rw [hx_2]; rfl) ?_
      refine go_astoreq C (x := none) (lo' := [(4, .null), (3, .int (nI i)), (2, .int (unfTo S cu i)), (0, .ref (a 0)), (1, .int cu)]) dX1_unfrozenOf_18 (by decide) rfl ?_
      refine go_aloadq C (x := none) 0 dX1_unfrozenOf_20 rfl ?_
      refine go_ifnullN C (tgt := 33) dX1_unfrozenOf_22 (by decide) ?_
      refine go_iinc C (v := nI (i + 1)) (lo' := [(3, .int (nI (i + 1))), (4, .null), (2, .int (unfTo S cu i)), (0, .ref (a 0)), (1, .int cu)]) 1 dX1_unfrozenOf_33 rfl (nI_1 _) (by decide) rfl ?_
      refine go_goto C (tgt := 4) dX1_unfrozenOf_36 (by decide) ?_
      refine go_lo (lo' := [(3, .int (nI (i + 1))), (2, .int (unfTo S cu (i + 1))), (0, .ref (a 0)), (1, .int cu)]) [0, 2, 3, 4] (by rw [unfTo_n hx_2]; rfl) ?_
      exact ih_i trivial
    · refine go_st (st2 := [.ref (cs_la S j_3)]) (by rw [hx_2]; rfl) ?_
      refine go_astore C (lo' := [(4, .ref (cs_la S j_3)), (3, .int (nI i)), (2, .int (unfTo S cu i)), (0, .ref (a 0)), (1, .int cu)]) dX1_unfrozenOf_18 (by decide) rfl ?_
      refine go_aload C 0 dX1_unfrozenOf_20 rfl ?_
      refine go_ifnull C dX1_unfrozenOf_22 ?_
      refine go_iload_n C 2 dX1_unfrozenOf_25 rfl rfl ?_
      refine go_aload C 0 dX1_unfrozenOf_26 rfl ?_
      refine k_RX1_113 C S M ov j_3 (xN_nc hok hx_2) ⟨(Nat.le_of_ble_eq_true rfl), (Nat.le_of_ble_eq_true rfl)⟩ ⟨(Nat.le_of_ble_eq_true rfl), (Nat.le_of_ble_eq_true rfl)⟩ (Nat.le_of_ble_eq_true rfl) dX1_unfrozenOf_28 ?_
      refine go_iadd C dX1_unfrozenOf_31 ?_
      refine go_istore_n C (lo' := [(2, .int ((unfTo S cu i) + (unf (cs_lt S j_3)))), (4, .ref (cs_la S j_3)), (3, .int (nI i)), (0, .ref (a 0)), (1, .int cu)]) dX1_unfrozenOf_32 rfl (by decide) rfl ?_
      refine go_iinc C (v := nI (i + 1)) (lo' := [(3, .int (nI (i + 1))), (2, .int ((unfTo S cu i) + (unf (cs_lt S j_3)))), (4, .ref (cs_la S j_3)), (0, .ref (a 0)), (1, .int cu)]) 2 dX1_unfrozenOf_33 rfl (nI_1 _) (by decide) rfl ?_
      refine go_goto C (tgt := 4) dX1_unfrozenOf_36 (by decide) ?_
      refine go_lo (lo' := [(3, .int (nI (i + 1))), (2, .int (unfTo S cu (i + 1))), (0, .ref (a 0)), (1, .int cu)]) [0, 1, 3, 4] (by rw [unfTo_s hx_2]; rfl) ?_
      exact ih_i trivial
  · refine go_iload_n C 0 dX1_unfrozenOf_4 rfl rfl ?_
    refine go_aload_n C 2 dX1_unfrozenOf_5 rfl rfl ?_
    refine gx_lotsMade C dX1_unfrozenOf_6 ?_
    refine go_icmp_ge C (tgt := 39) dX1_unfrozenOf_9 (by decide) (fun c_4 => ?_) (fun c_4 => absurd (nI_ger hok.1) c_4)
    refine go_iload_n C 1 dX1_unfrozenOf_39 rfl rfl ?_
    exact go_ireturn C rfl dX1_unfrozenOf_40 (by decide) (by decide) ⟨rfl, rfl⟩
theorem k_RX1_101 {p : Program} {l : Launch} {e : Env} {R : Room} {s : State} {m : MethodId} {args : Array Value} {below : List Frame} {meth : Method} {c : Code} {D : va_G} {N0 mL : Nat} {cc : ByteArray} {nm : String} {ret : Option FieldType} {Q : State → Prop} {k n pc : Nat} {lo : List (Nat × Value)} {st : List Value} {cI cJ cO : ClassId} {a : Nat → Nat} (C : Cxt p s m args meth c D (tysW cI cJ cO) N0 cc mL RX1 ret nm) (S : CS) (M : LWS) (ov : va_W) (cu : Int32) (hok : okX S) (hR : 2 + 1 ≤ R.frames ∧ 8 + (5 + 11) + 45 ≤ R.locals) (hcs : k + 0 ≤ R.cells ∧ n + 0 ≤ R.slots) (hcat : (st.map fun v => v.category).sum ≤ 8) (dk : decode cc pc = .ok (.invokevirtual 101, 3)) (g : Go p l e R s m args below meth c D N0 mL Q (wW cI cJ cO a S M ov) (k) (n) (pc + 3) lo (.int (unfTo S cu (cs_n S)) :: st)) : Go p l e R s m args below meth c D N0 mL Q (wW cI cJ cO a S M ov) k n pc lo (.int cu :: .ref (a 0) :: st) :=
  go_callV C (ci := 1) (r9 := (RX1, TX1, 8)) (qi := 0) (As := [.int cu]) (rest := st) rfl rfl (c_X1_unfrozenOf l D cI cJ cO N0 a S M ov cu hok) ⟨rfl, by decide +kernel, by decide +kernel⟩ bl_RX1_101 bi_yX1_unfrozenOf bs_yX1_unfrozenOf bz_NoticeBook bc_yX1_unfrozenOf (show Option.map (fun d => d.parameters.length) (parseMethodDescriptor yX1_unfrozenOf.desc) = some 1 by decide +kernel) hR hcs hcat dk (fun r w2 h => by obtain ⟨rfl, rfl⟩ := h; exact g) rfl
set_option maxHeartbeats 4000000 in
set_option maxRecDepth 100000 in
theorem c_X1_lots (l : Launch) (D : va_G) (cI cJ cO : ClassId) (N0 : Nat) (a : Nat → Nat) (S : CS) (M : LWS) (ov : va_W) (hok : okX S) : Ct l D (tysW cI cJ cO) N0 yX1_lots cX1_lots 3 (some .int) { frames := 1, cells := 0, slots := 0, locals := 22 } [.ref (a 0)] (wW cI cJ cO a S M ov) (fun r w2 => r = some (.int (loTo S (cs_n S))) ∧ w2 = wW cI cJ cO a S M ov) := by
  refine ct_of (by decide +kernel) (Nat.le_of_ble_eq_true rfl) ?_
  intro p e s m args below meth c C
  have C : Cxt p s m args meth c D (tysW cI cJ cO) N0 cX1_lots 3 RX1 (some .int) "lots" := C
  refine go_iconst C (v := 0) dX1_lots_0 (by decide) ?_
  refine go_istore_n C (lo' := [(1, .int 0), (0, .ref (a 0))]) dX1_lots_1 rfl (by decide) rfl ?_
  refine go_iconst C (v := 0) dX1_lots_2 (by decide) ?_
  refine go_istore_n C (lo' := [(2, .int 0), (1, .int 0), (0, .ref (a 0))]) dX1_lots_3 rfl (by decide) rfl ?_
  refine go_for (cs_n S) (fun i => True) (fun i => wW cI cJ cO a S M ov) (fun i => [(2, .int (nI i)), (1, .int (loTo S i)), (0, .ref (a 0))]) ⟨rfl, rfl⟩ trivial (fun i hi_i hI_i ih_i => ?_) (fun hI_i => ?_)
  · refine go_iload_n C 0 dX1_lots_4 rfl rfl ?_
    refine go_aload_n C 2 dX1_lots_5 rfl rfl ?_
    refine gx_lotsMade C dX1_lots_6 ?_
    refine go_icmp_ge C (tgt := 29) dX1_lots_9 (by decide) (fun c_1 => absurd c_1 (nI_nge hi_i hok.1)) (fun c_1 => ?_)
    refine go_aload_n C 2 dX1_lots_12 rfl rfl ?_
    refine go_iload_n C 0 dX1_lots_13 rfl rfl ?_
    refine k_RX1_164 C S M ov (nI i) hok ⟨(Nat.le_of_ble_eq_true rfl), (Nat.le_of_ble_eq_true rfl)⟩ ⟨(Nat.le_of_ble_eq_true rfl), (Nat.le_of_ble_eq_true rfl)⟩ (Nat.le_of_ble_eq_true rfl) dX1_lots_14 ?_
    rcases opt_c (xAt S (nI i)) with hx_2 | ⟨j_3, hx_2⟩
    · refine go_st (st2 := [.null]) (by rw [hx_2]; rfl) ?_
      refine go_ifnullN C (tgt := 23) dX1_lots_17 (by decide) ?_
      refine go_iinc C (v := nI (i + 1)) (lo' := [(2, .int (nI (i + 1))), (1, .int (loTo S i)), (0, .ref (a 0))]) 0 dX1_lots_23 rfl (nI_1 _) (by decide) rfl ?_
      refine go_goto C (tgt := 4) dX1_lots_26 (by decide) ?_
      refine go_lo (lo' := [(2, .int (nI (i + 1))), (1, .int (loTo S (i + 1))), (0, .ref (a 0))]) [0, 1, 2] (by rw [loTo_n hx_2]; rfl) ?_
      exact ih_i trivial
    · refine go_st (st2 := [.ref (cs_la S j_3)]) (by rw [hx_2]; rfl) ?_
      refine go_ifnull C dX1_lots_17 ?_
      refine go_iinc C (v := (loTo S i) + 1) (lo' := [(1, .int ((loTo S i) + 1)), (2, .int (nI i)), (0, .ref (a 0))]) 1 dX1_lots_20 rfl rfl (by decide) rfl ?_
      refine go_iinc C (v := nI (i + 1)) (lo' := [(2, .int (nI (i + 1))), (1, .int ((loTo S i) + 1)), (0, .ref (a 0))]) 1 dX1_lots_23 rfl (nI_1 _) (by decide) rfl ?_
      refine go_goto C (tgt := 4) dX1_lots_26 (by decide) ?_
      refine go_lo (lo' := [(2, .int (nI (i + 1))), (1, .int (loTo S (i + 1))), (0, .ref (a 0))]) [0, 1, 2] (by rw [loTo_s hx_2]; rfl) ?_
      exact ih_i trivial
  · refine go_iload_n C 0 dX1_lots_4 rfl rfl ?_
    refine go_aload_n C 2 dX1_lots_5 rfl rfl ?_
    refine gx_lotsMade C dX1_lots_6 ?_
    refine go_icmp_ge C (tgt := 29) dX1_lots_9 (by decide) (fun c_4 => ?_) (fun c_4 => absurd (nI_ger hok.1) c_4)
    refine go_iload_n C 1 dX1_lots_29 rfl rfl ?_
    exact go_ireturn C rfl dX1_lots_30 (by decide) (by decide) ⟨rfl, rfl⟩
theorem k_RL_106 {p : Program} {l : Launch} {e : Env} {R : Room} {s : State} {m : MethodId} {args : Array Value} {below : List Frame} {meth : Method} {c : Code} {D : va_G} {N0 mL : Nat} {cc : ByteArray} {nm : String} {ret : Option FieldType} {Q : State → Prop} {k n pc : Nat} {lo : List (Nat × Value)} {st : List Value} {cI cJ cO : ClassId} {a : Nat → Nat} (C : Cxt p s m args meth c D (tysW cI cJ cO) N0 cc mL RL ret nm) (S : CS) (M : LWS) (ov : va_W) (hok : okX S) (hR : 1 + 1 ≤ R.frames ∧ 8 + (3 + 11) + 22 ≤ R.locals) (hcs : k + 0 ≤ R.cells ∧ n + 0 ≤ R.slots) (hcat : (st.map fun v => v.category).sum ≤ 8) (dk : decode cc pc = .ok (.invokevirtual 106, 3)) (g : Go p l e R s m args below meth c D N0 mL Q (wW cI cJ cO a S M ov) (k) (n) (pc + 3) lo (.int (loTo S (cs_n S)) :: st)) : Go p l e R s m args below meth c D N0 mL Q (wW cI cJ cO a S M ov) k n pc lo (.ref (a 0) :: st) :=
  go_callV C (ci := 1) (r9 := (RX1, TX1, 8)) (qi := 0) (As := []) (rest := st) rfl rfl (c_X1_lots l D cI cJ cO N0 a S M ov hok) ⟨rfl, by decide +kernel, by decide +kernel⟩ bl_RL_106 bi_yX1_lots bs_yX1_lots bz_NoticeBook bc_yX1_lots (show Option.map (fun d => d.parameters.length) (parseMethodDescriptor yX1_lots.desc) = some 0 by decide +kernel) hR hcs hcat dk (fun r w2 h => by obtain ⟨rfl, rfl⟩ := h; exact g) rfl
