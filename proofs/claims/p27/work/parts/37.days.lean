set_option maxHeartbeats 4000000 in
set_option maxRecDepth 100000 in
theorem c_X1_enter (l : Launch) (hlf : l.stackTraces = false) (D : va_G) (cI cJ cO : ClassId) (N0 : Nat) (a : Nat → Nat) (S : CS) (M : LWS) (ov : va_W) (i : Nat) (hi : i < cs_nc S) (hn : cs_n S ≤ 40) : CtX l D (tysW cI cJ cO) N0 yX1_enter cX1_enter 3 (some .int) { frames := 6, cells := 1, slots := 6, locals := 82 } [.ref (a 0), .ref (cs_la S i)] (wW cI cJ cO a S M ov) (fun r w2 => cs_n S < 40 ∧ r = some (.int (nI (cs_n S))) ∧ w2 = wW cI cJ cO a (entS S i) M ov) (fun E w2 => (E = nb_S ∧ 40 ≤ cs_n S) ∧ w2 = wW cI cJ cO a S M ov) := by
  refine ctx_of (by decide +kernel) (Nat.le_of_ble_eq_true rfl) ?_
  intro p e s m args below meth c C ht
  have C : Cxt p s m args meth c D (tysW cI cJ cO) N0 cX1_enter 3 RX1 (some .int) "enter" := C
  refine go_aload_n C 0 dX1_enter_0 rfl rfl ?_
  refine gx_lotsMade C dX1_enter_1 ?_
  refine go_istore_n C (lo' := [(2, .int (nI (cs_n S))), (0, .ref (a 0)), (1, .ref (cs_la S i))]) dX1_enter_4 rfl (by decide) rfl ?_
  refine go_iload_n C 0 dX1_enter_5 rfl rfl ?_
  refine go_if_lt C (tgt := 18) dX1_enter_6 (by decide) (fun c_1 => absurd c_1 (nI_npos hn)) (fun c_1 => ?_)
  refine go_iload_n C 0 dX1_enter_9 rfl rfl ?_
  refine go_aload_n C 1 dX1_enter_10 rfl rfl ?_
  refine gx_book C dX1_enter_11 ?_
  refine nx_bk C dX1_enter_14 ?_
  rcases Nat.lt_or_ge (cs_n S) 40 with hq | hq
  · refine go_icmp_lt C (tgt := 28) dX1_enter_15 (by decide) (fun c_2 => ?_) (fun c_2 => absurd (nI_lt40 hq) c_2)
    refine go_aload_n C 1 dX1_enter_28 rfl rfl ?_
    refine gx_book C dX1_enter_29 ?_
    refine go_iload_n C 0 dX1_enter_32 rfl rfl ?_
    refine go_aload_n C 2 dX1_enter_33 rfl rfl ?_
    refine sx_bk C (S := S) (i := i) hi (nI_vin hq) dX1_enter_34 ?_
    rw [cl_nI (Nat.lt_trans hq (by decide))]
    refine go_aload_n C 1 dX1_enter_35 rfl rfl ?_
    refine go_dup C dX1_enter_36 rfl ?_
    refine gx_lotsMade C dX1_enter_37 ?_
    refine go_iconst C (v := 1) dX1_enter_40 (by decide) ?_
    refine go_iadd C dX1_enter_41 ?_
    refine px_lotsMade C (n2 := cs_n S + 1) (nI_1 _) dX1_enter_42 ?_
    refine go_iload_n C 0 dX1_enter_45 rfl rfl ?_
    exact go_x (go_ireturn C rfl dX1_enter_46 (by decide) (by decide) ⟨hq, rfl, rfl⟩)
  · refine go_icmp_lt C (tgt := 28) dX1_enter_15 (by decide) (fun c_3 => absurd c_3 (nI_nlt40 hq hn)) (fun c_3 => ?_)
    exact go_throw C hlf ht (names := nb_names) (text := "there have been 40 lots") rfl mem_S fit_nb_S nb_names_fit bcl_RX1_83 bz_IllegalStateException (List.mem_of_getElem? (i := 3) rfl) hat_nb_S_87 hat2_nb_S_87 hgood_nb_S_83_87 dX1_enter_18 dX1_enter_21 dX1_enter_22 dX1_enter_24 dX1_enter_27 (by decide) (by decide) (by decide) (by decide) ⟨⟨rfl, hq⟩, rfl⟩ (by decide) (by decide)
theorem k_RX1_58 {p : Program} {l : Launch} {e : Env} {R : Room} {s : State} {m : MethodId} {args : Array Value} {below : List Frame} {meth : Method} {c : Code} {D : va_G} {N0 mL : Nat} {cc : ByteArray} {nm : String} {ret : Option FieldType} {Q : State → Prop} {k n pc : Nat} {lo : List (Nat × Value)} {st : List Value} {cI cJ cO : ClassId} {a : Nat → Nat} (C : Cxt p s m args meth c D (tysW cI cJ cO) N0 cc mL RX1 ret nm) (hlf : l.stackTraces = false) (S : CS) (M : LWS) (ov : va_W) (i : Nat) (hi : i < cs_nc S) (hn : cs_n S ≤ 40) (hR : 6 + 1 ≤ R.frames ∧ 8 + (3 + 11) + 82 ≤ R.locals) (hcs : k + 1 ≤ R.cells ∧ n + 6 ≤ R.slots) (hcat : (st.map fun v => v.category).sum ≤ 8) (dk : decode cc pc = .ok (.invokevirtual 58, 3)) (gx : ∀ E : String, (E = nb_S ∧ 40 ≤ cs_n S) → GoX p l e R s m args below meth c D N0 mL Q (wW cI cJ cO a S M ov) (k + 1) (n + 6) pc lo E) (g : (cs_n S < 40) → Go p l e R s m args below meth c D N0 mL Q (wW cI cJ cO a (entS S i) M ov) (k + 1) (n + 6) (pc + 3) lo (.int (nI (cs_n S)) :: st)) : Go p l e R s m args below meth c D N0 mL Q (wW cI cJ cO a S M ov) k n pc lo (.ref (cs_la S i) :: .ref (a 0) :: st) :=
  go_callVX C (ci := 1) (r9 := (RX1, TX1, 8)) (qi := 0) (As := [.ref (cs_la S i)]) (rest := st) rfl rfl (c_X1_enter l hlf D cI cJ cO N0 a S M ov i hi hn) ⟨rfl, by decide +kernel, by decide +kernel⟩ bl_RX1_58 bi_yX1_enter bs_yX1_enter bz_NoticeBook bc_yX1_enter (show Option.map (fun d => d.parameters.length) (parseMethodDescriptor yX1_enter.desc) = some 1 by decide +kernel) hR hcs hcat dk (fun E w2 h => by obtain ⟨h9, rfl⟩ := h; exact gx E h9) (fun r w2 h => by obtain ⟨h9, rfl, rfl⟩ := h; exact g h9) rfl
set_option maxHeartbeats 4000000 in
set_option maxRecDepth 100000 in
theorem c_X1_beginTerm (l : Launch) (D : va_G) (cI cJ cO : ClassId) (N0 : Nat) (a : Nat → Nat) (S : CS) (M : LWS) (ov : va_W) (i : Nat) (hi : i < cs_nc S) : Ct l D (tysW cI cJ cO) N0 yX1_beginTerm cX1_beginTerm 2 none { frames := 0, cells := 0, slots := 0, locals := 0 } [.ref (a 0), .ref (cs_la S i)] (wW cI cJ cO a S M ov) (fun r w2 => r = none ∧ w2 = wW cI cJ cO a (bgt S i) M ov) := by
  refine ct_of (by decide +kernel) (Nat.le_of_ble_eq_true rfl) ?_
  intro p e s m args below meth c C
  have C : Cxt p s m args meth c D (tysW cI cJ cO) N0 cX1_beginTerm 2 RX1 none "beginTerm" := C
  refine go_aload_n C 1 dX1_beginTerm_0 rfl rfl ?_
  refine go_aload_n C 1 dX1_beginTerm_1 rfl rfl ?_
  refine gl_principal C (S := S) (i := i) hi dX1_beginTerm_2 ?_
  refine go_i2l C dX1_beginTerm_5 ?_
  refine go_aload_n C 0 dX1_beginTerm_6 rfl rfl ?_
  refine gx_termRate C dX1_beginTerm_7 ?_
  refine go_i2l C dX1_beginTerm_10 ?_
  refine go_lmul C dX1_beginTerm_11 ?_
  refine pl_parts C (S := S) (i := i) hi dX1_beginTerm_12 ?_
  refine go_w (w2 := wW cI cJ cO a (bgt1 S i) M ov) rfl ?_
  refine go_aload_n C 1 dX1_beginTerm_15 rfl rfl ?_
  refine go_aload_n C 0 dX1_beginTerm_16 rfl rfl ?_
  refine gx_day C dX1_beginTerm_17 ?_
  refine go_aload_n C 1 dX1_beginTerm_20 rfl rfl ?_
  refine gl_termDays C (S := bgt1 S i) (i := i) hi dX1_beginTerm_21 ?_
  refine go_iadd C dX1_beginTerm_24 ?_
  refine pl_end C (S := bgt1 S i) (i := i) hi dX1_beginTerm_25 ?_
  exact go_return C rfl dX1_beginTerm_28 (by decide) (by decide) ⟨rfl, rfl⟩
theorem k_RX1_65 {p : Program} {l : Launch} {e : Env} {R : Room} {s : State} {m : MethodId} {args : Array Value} {below : List Frame} {meth : Method} {c : Code} {D : va_G} {N0 mL : Nat} {cc : ByteArray} {nm : String} {ret : Option FieldType} {Q : State → Prop} {k n pc : Nat} {lo : List (Nat × Value)} {st : List Value} {cI cJ cO : ClassId} {a : Nat → Nat} (C : Cxt p s m args meth c D (tysW cI cJ cO) N0 cc mL RX1 ret nm) (S : CS) (M : LWS) (ov : va_W) (i : Nat) (hi : i < cs_nc S) (hR : 0 + 1 ≤ R.frames ∧ 8 + (2 + 11) + 0 ≤ R.locals) (hcs : k + 0 ≤ R.cells ∧ n + 0 ≤ R.slots) (hcat : (st.map fun v => v.category).sum ≤ 8) (dk : decode cc pc = .ok (.invokevirtual 65, 3)) (g : Go p l e R s m args below meth c D N0 mL Q (wW cI cJ cO a (bgt S i) M ov) (k) (n) (pc + 3) lo (st)) : Go p l e R s m args below meth c D N0 mL Q (wW cI cJ cO a S M ov) k n pc lo (.ref (cs_la S i) :: .ref (a 0) :: st) :=
  go_callV C (ci := 1) (r9 := (RX1, TX1, 8)) (qi := 0) (As := [.ref (cs_la S i)]) (rest := st) rfl rfl (c_X1_beginTerm l D cI cJ cO N0 a S M ov i hi) ⟨rfl, by decide +kernel, by decide +kernel⟩ bl_RX1_65 bi_yX1_beginTerm bs_yX1_beginTerm bz_NoticeBook bc_yX1_beginTerm (show Option.map (fun d => d.parameters.length) (parseMethodDescriptor yX1_beginTerm.desc) = some 1 by decide +kernel) hR hcs hcat dk (fun r w2 h => by obtain ⟨rfl, rfl⟩ := h; exact g) rfl
set_option maxHeartbeats 4000000 in
set_option maxRecDepth 100000 in
theorem c_X1_endTerm (l : Launch) (D : va_G) (cI cJ cO : ClassId) (N0 : Nat) (a : Nat → Nat) (S : CS) (M : LWS) (ov : va_W) (i : Nat) (hi : i < cs_nc S) : Ct l D (tysW cI cJ cO) N0 yX1_endTerm cX1_endTerm 2 none { frames := 3, cells := 0, slots := 0, locals := 67 } [.ref (a 0), .ref (cs_la S i)] (wW cI cJ cO a S M ov) (fun r w2 => r = none ∧ w2 = wW cI cJ cO a (etX S i) M ov) := by
  refine ct_of (by decide +kernel) (Nat.le_of_ble_eq_true rfl) ?_
  intro p e s m args below meth c C
  have C : Cxt p s m args meth c D (tysW cI cJ cO) N0 cX1_endTerm 2 RX1 none "endTerm" := C
  refine go_aload_n C 1 dX1_endTerm_0 rfl rfl ?_
  refine gl_instruction C (S := S) (i := i) hi dX1_endTerm_1 ?_
  refine go_if_ne C (tgt := 18) dX1_endTerm_4 (by decide) (fun c_1 => ?_) (fun c_1 => ?_)
  · refine go_aload_n C 1 dX1_endTerm_18 rfl rfl ?_
    refine gl_instruction C (S := S) (i := i) hi dX1_endTerm_19 ?_
    refine go_iconst C (v := 1) dX1_endTerm_22 (by decide) ?_
    refine go_icmp_ne C (tgt := 35) dX1_endTerm_23 (by decide) (fun c_2 => ?_) (fun c_2 => ?_)
    · refine go_aload_n C 1 dX1_endTerm_35 rfl rfl ?_
      refine go_dup C dX1_endTerm_36 rfl ?_
      refine gl_principal C (S := S) (i := i) hi dX1_endTerm_37 ?_
      refine go_aload_n C 1 dX1_endTerm_40 rfl rfl ?_
      refine k_RX1_213 C S M ov i hi ⟨(Nat.le_of_ble_eq_true rfl), (Nat.le_of_ble_eq_true rfl)⟩ ⟨(Nat.le_of_ble_eq_true rfl), (Nat.le_of_ble_eq_true rfl)⟩ (Nat.le_of_ble_eq_true rfl) dX1_endTerm_41 ?_
      refine go_iadd C dX1_endTerm_44 ?_
      refine pl_principal C (S := drwS S i) (i := i) hi dX1_endTerm_45 ?_
      refine go_w (w2 := wW cI cJ cO a (et1 S i) M ov) (by rw [et1_eq]) ?_
      refine go_aload_n C 0 dX1_endTerm_48 rfl rfl ?_
      refine go_aload_n C 1 dX1_endTerm_49 rfl rfl ?_
      refine k_RX1_65 C (et1 S i) M ov i hi ⟨(Nat.le_of_ble_eq_true rfl), (Nat.le_of_ble_eq_true rfl)⟩ ⟨(Nat.le_of_ble_eq_true rfl), (Nat.le_of_ble_eq_true rfl)⟩ (Nat.le_of_ble_eq_true rfl) dX1_endTerm_50 ?_
      refine go_aload_n C 1 dX1_endTerm_53 rfl rfl ?_
      refine go_aload_n C 0 dX1_endTerm_54 rfl rfl ?_
      refine gx_day C dX1_endTerm_55 ?_
      refine pl_renewedOn C (S := bgt (et1 S i) i) (i := i) hi dX1_endTerm_58 ?_
      exact go_return C rfl dX1_endTerm_61 (by decide) (by decide) ⟨rfl, by rw [etX, mixS_neg c_1 rfl, mixS_neg c_2 rfl] <;> rfl⟩
    · refine go_aload_n C 0 dX1_endTerm_26 rfl rfl ?_
      refine go_aload_n C 1 dX1_endTerm_27 rfl rfl ?_
      refine k_RX1_210 C S M ov i hi ⟨(Nat.le_of_ble_eq_true rfl), (Nat.le_of_ble_eq_true rfl)⟩ ⟨(Nat.le_of_ble_eq_true rfl), (Nat.le_of_ble_eq_true rfl)⟩ (Nat.le_of_ble_eq_true rfl) dX1_endTerm_28 ?_
      refine go_pop C dX1_endTerm_31 rfl ?_
      refine go_goto C (tgt := 48) dX1_endTerm_32 (by decide) ?_
      refine go_aload_n C 0 dX1_endTerm_48 rfl rfl ?_
      refine go_aload_n C 1 dX1_endTerm_49 rfl rfl ?_
      refine k_RX1_65 C (pinS S i) M ov i hi ⟨(Nat.le_of_ble_eq_true rfl), (Nat.le_of_ble_eq_true rfl)⟩ ⟨(Nat.le_of_ble_eq_true rfl), (Nat.le_of_ble_eq_true rfl)⟩ (Nat.le_of_ble_eq_true rfl) dX1_endTerm_50 ?_
      refine go_aload_n C 1 dX1_endTerm_53 rfl rfl ?_
      refine go_aload_n C 0 dX1_endTerm_54 rfl rfl ?_
      refine gx_day C dX1_endTerm_55 ?_
      refine pl_renewedOn C (S := bgt (pinS S i) i) (i := i) hi dX1_endTerm_58 ?_
      exact go_return C rfl dX1_endTerm_61 (by decide) (by decide) ⟨rfl, by rw [etX, mixS_neg c_1 rfl, mixS_pos c_2 rfl] <;> rfl⟩
  · refine go_aload_n C 0 dX1_endTerm_7 rfl rfl ?_
    refine go_aload_n C 1 dX1_endTerm_8 rfl rfl ?_
    refine go_aload_n C 1 dX1_endTerm_9 rfl rfl ?_
    refine gl_principal C (S := S) (i := i) hi dX1_endTerm_10 ?_
    refine k_RX1_96 C S M ov i (lr_pr (cs_lt S i)) hi ⟨(Nat.le_of_ble_eq_true rfl), (Nat.le_of_ble_eq_true rfl)⟩ ⟨(Nat.le_of_ble_eq_true rfl), (Nat.le_of_ble_eq_true rfl)⟩ (Nat.le_of_ble_eq_true rfl) dX1_endTerm_13 ?_
    refine go_pop C dX1_endTerm_16 rfl ?_
    exact go_return C rfl dX1_endTerm_17 (by decide) (by decide) ⟨rfl, by rw [etX, mixS_pos c_1 rfl] <;> rfl⟩
theorem k_RX1_226 {p : Program} {l : Launch} {e : Env} {R : Room} {s : State} {m : MethodId} {args : Array Value} {below : List Frame} {meth : Method} {c : Code} {D : va_G} {N0 mL : Nat} {cc : ByteArray} {nm : String} {ret : Option FieldType} {Q : State → Prop} {k n pc : Nat} {lo : List (Nat × Value)} {st : List Value} {cI cJ cO : ClassId} {a : Nat → Nat} (C : Cxt p s m args meth c D (tysW cI cJ cO) N0 cc mL RX1 ret nm) (S : CS) (M : LWS) (ov : va_W) (i : Nat) (hi : i < cs_nc S) (hR : 3 + 1 ≤ R.frames ∧ 8 + (2 + 11) + 67 ≤ R.locals) (hcs : k + 0 ≤ R.cells ∧ n + 0 ≤ R.slots) (hcat : (st.map fun v => v.category).sum ≤ 8) (dk : decode cc pc = .ok (.invokevirtual 226, 3)) (g : Go p l e R s m args below meth c D N0 mL Q (wW cI cJ cO a (etX S i) M ov) (k) (n) (pc + 3) lo (st)) : Go p l e R s m args below meth c D N0 mL Q (wW cI cJ cO a S M ov) k n pc lo (.ref (cs_la S i) :: .ref (a 0) :: st) :=
  go_callV C (ci := 1) (r9 := (RX1, TX1, 8)) (qi := 0) (As := [.ref (cs_la S i)]) (rest := st) rfl rfl (c_X1_endTerm l D cI cJ cO N0 a S M ov i hi) ⟨rfl, by decide +kernel, by decide +kernel⟩ bl_RX1_226 bi_yX1_endTerm bs_yX1_endTerm bz_NoticeBook bc_yX1_endTerm (show Option.map (fun d => d.parameters.length) (parseMethodDescriptor yX1_endTerm.desc) = some 1 by decide +kernel) hR hcs hcat dk (fun r w2 h => by obtain ⟨rfl, rfl⟩ := h; exact g) rfl
set_option maxHeartbeats 4000000 in
set_option maxRecDepth 100000 in
theorem c_X1_beginDay (l : Launch) (D : va_G) (cI cJ cO : ClassId) (N0 : Nat) (a : Nat → Nat) (S : CS) (M : LWS) (ov : va_W) (hok : okX S) : Ct l D (tysW cI cJ cO) N0 yX1_beginDay cX1_beginDay 4 (some .int) { frames := 4, cells := 0, slots := 0, locals := 88 } [.ref (a 0)] (wW cI cJ cO a S M ov) (fun r w2 => r = some (.int (bdTo S (cs_n S)).1) ∧ w2 = wW cI cJ cO a (bdTo S (cs_n S)).2 M ov) := by
  refine ct_of (by decide +kernel) (Nat.le_of_ble_eq_true rfl) ?_
  intro p e s m args below meth c C
  have C : Cxt p s m args meth c D (tysW cI cJ cO) N0 cX1_beginDay 4 RX1 (some .int) "beginDay" := C
  refine go_iconst C (v := 0) dX1_beginDay_0 (by decide) ?_
  refine go_istore_n C (lo' := [(1, .int 0), (0, .ref (a 0))]) dX1_beginDay_1 rfl (by decide) rfl ?_
  refine go_iconst C (v := 0) dX1_beginDay_2 (by decide) ?_
  refine go_istore_n C (lo' := [(2, .int 0), (1, .int 0), (0, .ref (a 0))]) dX1_beginDay_3 rfl (by decide) rfl ?_
  refine go_for (cs_n S) (fun i => True) (fun i => wW cI cJ cO a (bdTo S i).2 M ov) (fun i => [(2, .int (nI i)), (1, .int (bdTo S i).1), (0, .ref (a 0))]) ⟨rfl, rfl⟩ trivial (fun i hi_i hI_i ih_i => ?_) (fun hI_i => ?_)
  · have hoki : okX (bdTo S i).2 := (fx_bd S i).ok hok
    refine go_iload_n C 0 dX1_beginDay_4 rfl rfl ?_
    refine go_aload_n C 2 dX1_beginDay_5 rfl rfl ?_
    refine gx_lotsMade C dX1_beginDay_6 ?_
    refine go_icmp_ge C (tgt := 66) dX1_beginDay_9 (by decide) (fun c_1 => absurd c_1 (by rw [(fx_bd S i).1]; exact nI_nge hi_i hok.1)) (fun c_1 => ?_)
    refine go_aload_n C 2 dX1_beginDay_12 rfl rfl ?_
    refine go_iload_n C 0 dX1_beginDay_13 rfl rfl ?_
    refine k_RX1_164 C (bdTo S i).2 M ov (nI i) hoki ⟨(Nat.le_of_ble_eq_true rfl), (Nat.le_of_ble_eq_true rfl)⟩ ⟨(Nat.le_of_ble_eq_true rfl), (Nat.le_of_ble_eq_true rfl)⟩ (Nat.le_of_ble_eq_true rfl) dX1_beginDay_14 ?_
    rcases opt_c (xAt (bdTo S i).2 (nI i)) with hx_2 | ⟨j_3, hx_2⟩
    · refine go_st (st2 := [.null]) (by rw [hx_2]; rfl) ?_
      refine go_astore_nq C (x := none) (lo' := [(3, .null), (2, .int (nI i)), (1, .int (bdTo S i).1), (0, .ref (a 0))]) dX1_beginDay_17 rfl (by decide) rfl ?_
      refine go_aload_nq C (x := none) 0 dX1_beginDay_18 rfl rfl ?_
      refine go_ifnullN C (tgt := 60) dX1_beginDay_19 (by decide) ?_
      refine go_iinc C (v := nI (i + 1)) (lo' := [(2, .int (nI (i + 1))), (3, .null), (1, .int (bdTo S i).1), (0, .ref (a 0))]) 1 dX1_beginDay_60 rfl (nI_1 _) (by decide) rfl ?_
      refine go_goto C (tgt := 4) dX1_beginDay_63 (by decide) ?_
      refine go_lo (lo' := [(2, .int (nI (i + 1))), (1, .int (bdTo S (i + 1)).1), (0, .ref (a 0))]) [0, 2, 3] (by rw [bdTo_n hx_2]; rfl) ?_
      refine go_w (w2 := wW cI cJ cO a (bdTo S (i + 1)).2 M ov) (by rw [bdTo_n hx_2]) ?_
      exact ih_i trivial
    · refine go_st (st2 := [.ref (cs_la (bdTo S i).2 j_3)]) (by rw [hx_2]; rfl) ?_
      refine go_astore_n C (lo' := [(3, .ref (cs_la (bdTo S i).2 j_3)), (2, .int (nI i)), (1, .int (bdTo S i).1), (0, .ref (a 0))]) dX1_beginDay_17 rfl (by decide) rfl ?_
      refine go_aload_n C 0 dX1_beginDay_18 rfl rfl ?_
      refine go_ifnull C dX1_beginDay_19 ?_
      refine go_aload_n C 3 dX1_beginDay_22 rfl rfl ?_
      refine gx_day C dX1_beginDay_23 ?_
      refine go_aload_n C 0 dX1_beginDay_26 rfl rfl ?_
      refine gl_takeFrom C (S := (bdTo S i).2) (i := j_3) (xAt_nc hoki hx_2) dX1_beginDay_27 ?_
      refine go_bipush C (v := 7) dX1_beginDay_30 (by decide) ?_
      refine go_iadd C dX1_beginDay_32 ?_
      refine go_icmp_lt C (tgt := 41) dX1_beginDay_33 (by decide) (fun c_4 => ?_) (fun c_4 => ?_)
      · refine go_w (w2 := wW cI cJ cO a (bd1 (bdTo S i).2 j_3) M ov) (by rw [← bd1_pos c_4]) ?_
        refine go_aload_n C 0 dX1_beginDay_41 rfl rfl ?_
        refine gl_end C (S := bd1 (bdTo S i).2 j_3) (i := j_3) (xAt_nc hoki hx_2) dX1_beginDay_42 ?_
        refine go_aload_n C 3 dX1_beginDay_45 rfl rfl ?_
        refine gx_day C dX1_beginDay_46 ?_
        refine go_icmp_ne C (tgt := 60) dX1_beginDay_49 (by decide) (fun c_5 => ?_) (fun c_5 => ?_)
        · refine go_iinc C (v := nI (i + 1)) (lo' := [(2, .int (nI (i + 1))), (3, .ref (cs_la (bdTo S i).2 j_3)), (1, .int (bdTo S i).1), (0, .ref (a 0))]) 1 dX1_beginDay_60 rfl (nI_1 _) (by decide) rfl ?_
          refine go_goto C (tgt := 4) dX1_beginDay_63 (by decide) ?_
          refine go_lo (lo' := [(2, .int (nI (i + 1))), (1, .int (bdTo S (i + 1)).1), (0, .ref (a 0))]) [0, 2, 3] (by rw [← (bd_w2 hx_2 c_5).2]; rfl) ?_
          refine go_w (w2 := wW cI cJ cO a (bdTo S (i + 1)).2 M ov) (by rw [← (bd_w2 hx_2 c_5).1]) ?_
          exact ih_i trivial
        · refine go_aload_n C 3 dX1_beginDay_52 rfl rfl ?_
          refine go_aload_n C 0 dX1_beginDay_53 rfl rfl ?_
          refine k_RX1_226 C (bd1 (bdTo S i).2 j_3) M ov j_3 (xAt_nc hoki hx_2) ⟨(Nat.le_of_ble_eq_true rfl), (Nat.le_of_ble_eq_true rfl)⟩ ⟨(Nat.le_of_ble_eq_true rfl), (Nat.le_of_ble_eq_true rfl)⟩ (Nat.le_of_ble_eq_true rfl) dX1_beginDay_54 ?_
          refine go_iinc C (v := (bdTo S i).1 + 1) (lo' := [(1, .int ((bdTo S i).1 + 1)), (3, .ref (cs_la (bdTo S i).2 j_3)), (2, .int (nI i)), (0, .ref (a 0))]) 2 dX1_beginDay_57 rfl rfl (by decide) rfl ?_
          refine go_iinc C (v := nI (i + 1)) (lo' := [(2, .int (nI (i + 1))), (1, .int ((bdTo S i).1 + 1)), (3, .ref (cs_la (bdTo S i).2 j_3)), (0, .ref (a 0))]) 2 dX1_beginDay_60 rfl (nI_1 _) (by decide) rfl ?_
          refine go_goto C (tgt := 4) dX1_beginDay_63 (by decide) ?_
          refine go_lo (lo' := [(2, .int (nI (i + 1))), (1, .int (bdTo S (i + 1)).1), (0, .ref (a 0))]) [0, 1, 3] (by rw [← (bd_w1 hx_2 c_5).2]; rfl) ?_
          refine go_w (w2 := wW cI cJ cO a (bdTo S (i + 1)).2 M ov) (by rw [← (bd_w1 hx_2 c_5).1]) ?_
          exact ih_i trivial
      · refine go_aload_n C 0 dX1_beginDay_36 rfl rfl ?_
        refine go_iconst C (v := 0) dX1_beginDay_37 (by decide) ?_
        refine pl_frozenCents C (S := (bdTo S i).2) (i := j_3) (xAt_nc hoki hx_2) dX1_beginDay_38 ?_
        refine go_w (w2 := wW cI cJ cO a (bd1 (bdTo S i).2 j_3) M ov) (by rw [← bd1_neg c_4]) ?_
        refine go_aload_n C 0 dX1_beginDay_41 rfl rfl ?_
        refine gl_end C (S := bd1 (bdTo S i).2 j_3) (i := j_3) (xAt_nc hoki hx_2) dX1_beginDay_42 ?_
        refine go_aload_n C 3 dX1_beginDay_45 rfl rfl ?_
        refine gx_day C dX1_beginDay_46 ?_
        refine go_icmp_ne C (tgt := 60) dX1_beginDay_49 (by decide) (fun c_6 => ?_) (fun c_6 => ?_)
        · refine go_iinc C (v := nI (i + 1)) (lo' := [(2, .int (nI (i + 1))), (3, .ref (cs_la (bdTo S i).2 j_3)), (1, .int (bdTo S i).1), (0, .ref (a 0))]) 1 dX1_beginDay_60 rfl (nI_1 _) (by decide) rfl ?_
          refine go_goto C (tgt := 4) dX1_beginDay_63 (by decide) ?_
          refine go_lo (lo' := [(2, .int (nI (i + 1))), (1, .int (bdTo S (i + 1)).1), (0, .ref (a 0))]) [0, 2, 3] (by rw [← (bd_w2 hx_2 c_6).2]; rfl) ?_
          refine go_w (w2 := wW cI cJ cO a (bdTo S (i + 1)).2 M ov) (by rw [← (bd_w2 hx_2 c_6).1]) ?_
          exact ih_i trivial
        · refine go_aload_n C 3 dX1_beginDay_52 rfl rfl ?_
          refine go_aload_n C 0 dX1_beginDay_53 rfl rfl ?_
          refine k_RX1_226 C (bd1 (bdTo S i).2 j_3) M ov j_3 (xAt_nc hoki hx_2) ⟨(Nat.le_of_ble_eq_true rfl), (Nat.le_of_ble_eq_true rfl)⟩ ⟨(Nat.le_of_ble_eq_true rfl), (Nat.le_of_ble_eq_true rfl)⟩ (Nat.le_of_ble_eq_true rfl) dX1_beginDay_54 ?_
          refine go_iinc C (v := (bdTo S i).1 + 1) (lo' := [(1, .int ((bdTo S i).1 + 1)), (3, .ref (cs_la (bdTo S i).2 j_3)), (2, .int (nI i)), (0, .ref (a 0))]) 2 dX1_beginDay_57 rfl rfl (by decide) rfl ?_
          refine go_iinc C (v := nI (i + 1)) (lo' := [(2, .int (nI (i + 1))), (1, .int ((bdTo S i).1 + 1)), (3, .ref (cs_la (bdTo S i).2 j_3)), (0, .ref (a 0))]) 2 dX1_beginDay_60 rfl (nI_1 _) (by decide) rfl ?_
          refine go_goto C (tgt := 4) dX1_beginDay_63 (by decide) ?_
          refine go_lo (lo' := [(2, .int (nI (i + 1))), (1, .int (bdTo S (i + 1)).1), (0, .ref (a 0))]) [0, 1, 3] (by rw [← (bd_w1 hx_2 c_6).2]; rfl) ?_
          refine go_w (w2 := wW cI cJ cO a (bdTo S (i + 1)).2 M ov) (by rw [← (bd_w1 hx_2 c_6).1]) ?_
          exact ih_i trivial
  · refine go_iload_n C 0 dX1_beginDay_4 rfl rfl ?_
    refine go_aload_n C 2 dX1_beginDay_5 rfl rfl ?_
    refine gx_lotsMade C dX1_beginDay_6 ?_
    refine go_icmp_ge C (tgt := 66) dX1_beginDay_9 (by decide) (fun c_7 => ?_) (fun c_7 => absurd (by rw [(fx_bd S (cs_n S)).1]; exact nI_ger hok.1) c_7)
    refine go_iload_n C 1 dX1_beginDay_66 rfl rfl ?_
    exact go_ireturn C rfl dX1_beginDay_67 (by decide) (by decide) ⟨rfl, rfl⟩
theorem k_RX1_161 {p : Program} {l : Launch} {e : Env} {R : Room} {s : State} {m : MethodId} {args : Array Value} {below : List Frame} {meth : Method} {c : Code} {D : va_G} {N0 mL : Nat} {cc : ByteArray} {nm : String} {ret : Option FieldType} {Q : State → Prop} {k n pc : Nat} {lo : List (Nat × Value)} {st : List Value} {cI cJ cO : ClassId} {a : Nat → Nat} (C : Cxt p s m args meth c D (tysW cI cJ cO) N0 cc mL RX1 ret nm) (S : CS) (M : LWS) (ov : va_W) (hok : okX S) (hR : 4 + 1 ≤ R.frames ∧ 8 + (4 + 11) + 88 ≤ R.locals) (hcs : k + 0 ≤ R.cells ∧ n + 0 ≤ R.slots) (hcat : (st.map fun v => v.category).sum ≤ 8) (dk : decode cc pc = .ok (.invokevirtual 161, 3)) (g : Go p l e R s m args below meth c D N0 mL Q (wW cI cJ cO a (bdTo S (cs_n S)).2 M ov) (k) (n) (pc + 3) lo (.int (bdTo S (cs_n S)).1 :: st)) : Go p l e R s m args below meth c D N0 mL Q (wW cI cJ cO a S M ov) k n pc lo (.ref (a 0) :: st) :=
  go_callV C (ci := 1) (r9 := (RX1, TX1, 8)) (qi := 0) (As := []) (rest := st) rfl rfl (c_X1_beginDay l D cI cJ cO N0 a S M ov hok) ⟨rfl, by decide +kernel, by decide +kernel⟩ bl_RX1_161 bi_yX1_beginDay bs_yX1_beginDay bz_NoticeBook bc_yX1_beginDay (show Option.map (fun d => d.parameters.length) (parseMethodDescriptor yX1_beginDay.desc) = some 0 by decide +kernel) hR hcs hcat dk (fun r w2 h => by obtain ⟨rfl, rfl⟩ := h; exact g) rfl
