set_option maxHeartbeats 4000000 in
set_option maxRecDepth 100000 in
theorem c_X1_notePaid (l : Launch) (D : va_G) (cI cJ cO : ClassId) (N0 : Nat) (a : Nat → Nat) (S : CS) (M : LWS) (ov : va_W) (cu z : Int32)  : Ct l D (tysW cI cJ cO) N0 yX1_notePaid cX1_notePaid 3 none { frames := 0, cells := 0, slots := 0, locals := 0 } [.ref (a 0), .int cu, .int z] (wW cI cJ cO a S M ov) (fun r w2 => r = none ∧ w2 = wW cI cJ cO a (npd S cu z) M ov) := by
  refine ct_of (by decide +kernel) (Nat.le_of_ble_eq_true rfl) ?_
  intro p e s m args below meth c C
  have C : Cxt p s m args meth c D (tysW cI cJ cO) N0 cX1_notePaid 3 RX1 none "notePaid" := C
  refine go_iload_n C 1 dX1_notePaid_0 rfl rfl ?_
  refine go_if_lt C (tgt := 24) dX1_notePaid_1 (by decide) (fun c_1 => ?_) (fun c_1 => ?_)
  · exact go_return C rfl dX1_notePaid_24 (by decide) (by decide) ⟨rfl, by simp only [npd, if_pos c_1] <;> rfl⟩
  · refine go_iload_n C 1 dX1_notePaid_4 rfl rfl ?_
    refine go_aload_n C 0 dX1_notePaid_5 rfl rfl ?_
    refine gx_paidCents C dX1_notePaid_6 ?_
    refine nx_paid C dX1_notePaid_9 ?_
    refine go_icmp_ge C (tgt := 24) dX1_notePaid_10 (by decide) (fun c_2 => ?_) (fun c_2 => ?_)
    · exact go_return C rfl dX1_notePaid_24 (by decide) (by decide) ⟨rfl, by simp only [npd, if_neg c_1, if_pos c_2] <;> rfl⟩
    · refine go_aload_n C 0 dX1_notePaid_13 rfl rfl ?_
      refine gx_paidCents C dX1_notePaid_14 ?_
      refine go_iload_n C 1 dX1_notePaid_17 rfl rfl ?_
      refine go_dup2 C dX1_notePaid_18 rfl rfl ?_
      refine lx_paid C (vin_nle (n := 4) c_1 c_2 (by decide)) dX1_notePaid_19 ?_
      refine go_iload_n C 2 dX1_notePaid_20 rfl rfl ?_
      refine go_i2l C dX1_notePaid_21 ?_
      refine go_ladd C dX1_notePaid_22 ?_
      refine sx_paid C (vin_nle (n := 4) c_1 c_2 (by decide)) dX1_notePaid_23 ?_
      exact go_return C rfl dX1_notePaid_24 (by decide) (by decide) ⟨rfl, by simp only [npd, if_neg c_1, if_neg c_2] <;> rfl⟩
theorem k_RX1_206 {p : Program} {l : Launch} {e : Env} {R : Room} {s : State} {m : MethodId} {args : Array Value} {below : List Frame} {meth : Method} {c : Code} {D : va_G} {N0 mL : Nat} {cc : ByteArray} {nm : String} {ret : Option FieldType} {Q : State → Prop} {k n pc : Nat} {lo : List (Nat × Value)} {st : List Value} {cI cJ cO : ClassId} {a : Nat → Nat} (C : Cxt p s m args meth c D (tysW cI cJ cO) N0 cc mL RX1 ret nm) (S : CS) (M : LWS) (ov : va_W) (cu z : Int32)  (hR : 0 + 1 ≤ R.frames ∧ 8 + (3 + 11) + 0 ≤ R.locals) (hcs : k + 0 ≤ R.cells ∧ n + 0 ≤ R.slots) (hcat : (st.map fun v => v.category).sum ≤ 8) (dk : decode cc pc = .ok (.invokevirtual 206, 3)) (g : Go p l e R s m args below meth c D N0 mL Q (wW cI cJ cO a (npd S cu z) M ov) (k) (n) (pc + 3) lo (st)) : Go p l e R s m args below meth c D N0 mL Q (wW cI cJ cO a S M ov) k n pc lo (.int z :: .int cu :: .ref (a 0) :: st) :=
  go_callV C (ci := 1) (r9 := (RX1, TX1, 8)) (qi := 0) (As := [.int cu, .int z]) (rest := st) rfl rfl (c_X1_notePaid l D cI cJ cO N0 a S M ov cu z ) ⟨rfl, by decide +kernel, by decide +kernel⟩ bl_RX1_206 bi_yX1_notePaid bs_yX1_notePaid bz_NoticeBook bc_yX1_notePaid (show Option.map (fun d => d.parameters.length) (parseMethodDescriptor yX1_notePaid.desc) = some 2 by decide +kernel) hR hcs hcat dk (fun r w2 h => by obtain ⟨rfl, rfl⟩ := h; exact g) rfl
set_option maxHeartbeats 4000000 in
set_option maxRecDepth 100000 in
theorem c_X1_lose (l : Launch) (D : va_G) (cI cJ cO : ClassId) (N0 : Nat) (a : Nat → Nat) (S : CS) (M : LWS) (ov : va_W) (i : Nat) (z : Int64) (hi : i < cs_nc S) : Ct l D (tysW cI cJ cO) N0 yX1_lose cX1_lose 5 none { frames := 0, cells := 0, slots := 0, locals := 0 } [.ref (a 0), .ref (cs_la S i), .long z] (wW cI cJ cO a S M ov) (fun r w2 => r = none ∧ w2 = wW cI cJ cO a (los S i z) M ov) := by
  refine ct_of (by decide +kernel) (Nat.le_of_ble_eq_true rfl) ?_
  intro p e s m args below meth c C
  have C : Cxt p s m args meth c D (tysW cI cJ cO) N0 cX1_lose 5 RX1 none "lose" := C
  refine go_aload_n C 1 dX1_lose_0 rfl rfl ?_
  refine go_dup C dX1_lose_1 rfl ?_
  refine gl_earned C (S := S) (i := i) hi dX1_lose_2 ?_
  refine go_lload_n C 2 dX1_lose_5 rfl rfl ?_
  refine go_lsub C dX1_lose_6 ?_
  refine pl_earned C (S := S) (i := i) hi dX1_lose_7 ?_
  refine go_w (w2 := wW cI cJ cO a (los1 S i z) M ov) rfl ?_
  refine go_aload_n C 1 dX1_lose_10 rfl rfl ?_
  refine gl_customer C (S := los1 S i z) (i := i) hi dX1_lose_11 ?_
  refine go_istore C (lo' := [(4, .int (lr_cu (cs_lt (los1 S i z) i))), (0, .ref (a 0)), (1, .ref (cs_la S i)), (2, .long z)]) dX1_lose_14 (by decide) rfl ?_
  refine go_iload C 0 dX1_lose_16 rfl ?_
  refine go_if_lt C (tgt := 42) dX1_lose_18 (by decide) (fun c_1 => ?_) (fun c_1 => ?_)
  · exact go_return C rfl dX1_lose_42 (by decide) (by decide) ⟨rfl, by simp only [los, if_pos c_1] <;> rfl⟩
  · refine go_iload C 0 dX1_lose_21 rfl ?_
    refine go_aload_n C 1 dX1_lose_23 rfl rfl ?_
    refine gx_lostParts C dX1_lose_24 ?_
    refine nx_lost C dX1_lose_27 ?_
    refine go_icmp_ge C (tgt := 42) dX1_lose_28 (by decide) (fun c_2 => ?_) (fun c_2 => ?_)
    · exact go_return C rfl dX1_lose_42 (by decide) (by decide) ⟨rfl, by simp only [los, if_neg c_1, if_pos c_2] <;> rfl⟩
    · refine go_aload_n C 1 dX1_lose_31 rfl rfl ?_
      refine gx_lostParts C dX1_lose_32 ?_
      refine go_iload C 0 dX1_lose_35 rfl ?_
      refine go_dup2 C dX1_lose_37 rfl rfl ?_
      refine lx_lost C (vin_nle (n := 4) c_1 c_2 (by decide)) dX1_lose_38 ?_
      refine go_lload_n C 3 dX1_lose_39 rfl rfl ?_
      refine go_ladd C dX1_lose_40 ?_
      refine sx_lost C (vin_nle (n := 4) c_1 c_2 (by decide)) dX1_lose_41 ?_
      exact go_return C rfl dX1_lose_42 (by decide) (by decide) ⟨rfl, by simp only [los, if_neg c_1, if_neg c_2] <;> rfl⟩
theorem k_RX1_127 {p : Program} {l : Launch} {e : Env} {R : Room} {s : State} {m : MethodId} {args : Array Value} {below : List Frame} {meth : Method} {c : Code} {D : va_G} {N0 mL : Nat} {cc : ByteArray} {nm : String} {ret : Option FieldType} {Q : State → Prop} {k n pc : Nat} {lo : List (Nat × Value)} {st : List Value} {cI cJ cO : ClassId} {a : Nat → Nat} (C : Cxt p s m args meth c D (tysW cI cJ cO) N0 cc mL RX1 ret nm) (S : CS) (M : LWS) (ov : va_W) (i : Nat) (z : Int64) (hi : i < cs_nc S) (hR : 0 + 1 ≤ R.frames ∧ 8 + (5 + 11) + 0 ≤ R.locals) (hcs : k + 0 ≤ R.cells ∧ n + 0 ≤ R.slots) (hcat : (st.map fun v => v.category).sum ≤ 8) (dk : decode cc pc = .ok (.invokevirtual 127, 3)) (g : Go p l e R s m args below meth c D N0 mL Q (wW cI cJ cO a (los S i z) M ov) (k) (n) (pc + 3) lo (st)) : Go p l e R s m args below meth c D N0 mL Q (wW cI cJ cO a S M ov) k n pc lo (.long z :: .ref (cs_la S i) :: .ref (a 0) :: st) :=
  go_callV C (ci := 1) (r9 := (RX1, TX1, 8)) (qi := 0) (As := [.ref (cs_la S i), .long z]) (rest := st) rfl rfl (c_X1_lose l D cI cJ cO N0 a S M ov i z hi) ⟨rfl, by decide +kernel, by decide +kernel⟩ bl_RX1_127 bi_yX1_lose bs_yX1_lose bz_NoticeBook bc_yX1_lose (show Option.map (fun d => d.parameters.length) (parseMethodDescriptor yX1_lose.desc) = some 2 by decide +kernel) hR hcs hcat dk (fun r w2 h => by obtain ⟨rfl, rfl⟩ := h; exact g) rfl
set_option maxHeartbeats 4000000 in
set_option maxRecDepth 100000 in
theorem c_X1_payInterest (l : Launch) (D : va_G) (cI cJ cO : ClassId) (N0 : Nat) (a : Nat → Nat) (S : CS) (M : LWS) (ov : va_W) (i : Nat) (hi : i < cs_nc S) : Ct l D (tysW cI cJ cO) N0 yX1_payInterest cX1_payInterest 3 (some .int) { frames := 1, cells := 0, slots := 0, locals := 22 } [.ref (a 0), .ref (cs_la S i)] (wW cI cJ cO a S M ov) (fun r w2 => r = some (.int (drwC (cs_lt S i))) ∧ w2 = wW cI cJ cO a (pinS S i) M ov) := by
  refine ct_of (by decide +kernel) (Nat.le_of_ble_eq_true rfl) ?_
  intro p e s m args below meth c C
  have C : Cxt p s m args meth c D (tysW cI cJ cO) N0 cX1_payInterest 3 RX1 (some .int) "payInterest" := C
  refine go_aload_n C 1 dX1_payInterest_0 rfl rfl ?_
  refine k_RX1_213 C S M ov i hi ⟨(Nat.le_of_ble_eq_true rfl), (Nat.le_of_ble_eq_true rfl)⟩ ⟨(Nat.le_of_ble_eq_true rfl), (Nat.le_of_ble_eq_true rfl)⟩ (Nat.le_of_ble_eq_true rfl) dX1_payInterest_1 ?_
  refine go_istore_n C (lo' := [(2, .int (drwC (cs_lt S i))), (0, .ref (a 0)), (1, .ref (cs_la S i))]) dX1_payInterest_4 rfl (by decide) rfl ?_
  refine go_aload_n C 1 dX1_payInterest_5 rfl rfl ?_
  refine go_aload_n C 2 dX1_payInterest_6 rfl rfl ?_
  refine gl_customer C (S := drwS S i) (i := i) hi dX1_payInterest_7 ?_
  refine go_iload_n C 0 dX1_payInterest_10 rfl rfl ?_
  refine k_RX1_206 C (drwS S i) M ov (lr_cu (cs_lt (drwS S i) i)) (drwC (cs_lt S i)) ⟨(Nat.le_of_ble_eq_true rfl), (Nat.le_of_ble_eq_true rfl)⟩ ⟨(Nat.le_of_ble_eq_true rfl), (Nat.le_of_ble_eq_true rfl)⟩ (Nat.le_of_ble_eq_true rfl) dX1_payInterest_11 ?_
  refine go_iload_n C 0 dX1_payInterest_14 rfl rfl ?_
  exact go_ireturn C rfl dX1_payInterest_15 (by decide) (by decide) ⟨rfl, rfl⟩
theorem k_RX1_210 {p : Program} {l : Launch} {e : Env} {R : Room} {s : State} {m : MethodId} {args : Array Value} {below : List Frame} {meth : Method} {c : Code} {D : va_G} {N0 mL : Nat} {cc : ByteArray} {nm : String} {ret : Option FieldType} {Q : State → Prop} {k n pc : Nat} {lo : List (Nat × Value)} {st : List Value} {cI cJ cO : ClassId} {a : Nat → Nat} (C : Cxt p s m args meth c D (tysW cI cJ cO) N0 cc mL RX1 ret nm) (S : CS) (M : LWS) (ov : va_W) (i : Nat) (hi : i < cs_nc S) (hR : 1 + 1 ≤ R.frames ∧ 8 + (3 + 11) + 22 ≤ R.locals) (hcs : k + 0 ≤ R.cells ∧ n + 0 ≤ R.slots) (hcat : (st.map fun v => v.category).sum ≤ 8) (dk : decode cc pc = .ok (.invokevirtual 210, 3)) (g : Go p l e R s m args below meth c D N0 mL Q (wW cI cJ cO a (pinS S i) M ov) (k) (n) (pc + 3) lo (.int (drwC (cs_lt S i)) :: st)) : Go p l e R s m args below meth c D N0 mL Q (wW cI cJ cO a S M ov) k n pc lo (.ref (cs_la S i) :: .ref (a 0) :: st) :=
  go_callV C (ci := 1) (r9 := (RX1, TX1, 8)) (qi := 0) (As := [.ref (cs_la S i)]) (rest := st) rfl rfl (c_X1_payInterest l D cI cJ cO N0 a S M ov i hi) ⟨rfl, by decide +kernel, by decide +kernel⟩ bl_RX1_210 bi_yX1_payInterest bs_yX1_payInterest bz_NoticeBook bc_yX1_payInterest (show Option.map (fun d => d.parameters.length) (parseMethodDescriptor yX1_payInterest.desc) = some 1 by decide +kernel) hR hcs hcat dk (fun r w2 h => by obtain ⟨rfl, rfl⟩ := h; exact g) rfl
set_option maxHeartbeats 4000000 in
set_option maxRecDepth 100000 in
theorem c_X1_payOut (l : Launch) (D : va_G) (cI cJ cO : ClassId) (N0 : Nat) (a : Nat → Nat) (S : CS) (M : LWS) (ov : va_W) (i : Nat) (z : Int32) (hi : i < cs_nc S) : Ct l D (tysW cI cJ cO) N0 yX1_payOut cX1_payOut 4 (some .int) { frames := 2, cells := 0, slots := 0, locals := 44 } [.ref (a 0), .ref (cs_la S i), .int z] (wW cI cJ cO a S M ov) (fun r w2 => r = some (.int (poC S i z)) ∧ w2 = wW cI cJ cO a (poS S i z) M ov) := by
  refine ct_of (by decide +kernel) (Nat.le_of_ble_eq_true rfl) ?_
  intro p e s m args below meth c C
  have C : Cxt p s m args meth c D (tysW cI cJ cO) N0 cX1_payOut 4 RX1 (some .int) "payOut" := C
  refine go_aload_n C 1 dX1_payOut_0 rfl rfl ?_
  refine go_dup C dX1_payOut_1 rfl ?_
  refine gl_principal C (S := S) (i := i) hi dX1_payOut_2 ?_
  refine go_iload_n C 2 dX1_payOut_5 rfl rfl ?_
  refine go_isub C dX1_payOut_6 ?_
  refine pl_principal C (S := S) (i := i) hi dX1_payOut_7 ?_
  refine go_w (w2 := wW cI cJ cO a (po1 S i z) M ov) rfl ?_
  refine go_aload_n C 0 dX1_payOut_10 rfl rfl ?_
  refine go_aload_n C 1 dX1_payOut_11 rfl rfl ?_
  refine gl_customer C (S := po1 S i z) (i := i) hi dX1_payOut_12 ?_
  refine go_iload_n C 2 dX1_payOut_15 rfl rfl ?_
  refine k_RX1_206 C (po1 S i z) M ov (lr_cu (cs_lt (po1 S i z) i)) z ⟨(Nat.le_of_ble_eq_true rfl), (Nat.le_of_ble_eq_true rfl)⟩ ⟨(Nat.le_of_ble_eq_true rfl), (Nat.le_of_ble_eq_true rfl)⟩ (Nat.le_of_ble_eq_true rfl) dX1_payOut_16 ?_
  refine go_w (w2 := wW cI cJ cO a (po2 S i z) M ov) rfl ?_
  refine go_aload_n C 1 dX1_payOut_19 rfl rfl ?_
  refine gl_principal C (S := po2 S i z) (i := i) hi dX1_payOut_20 ?_
  refine go_if_le C (tgt := 28) dX1_payOut_23 (by decide) (fun c_1 => ?_) (fun c_1 => ?_)
  · refine go_aload_n C 0 dX1_payOut_28 rfl rfl ?_
    refine go_aload_n C 1 dX1_payOut_29 rfl rfl ?_
    refine k_RX1_210 C (po2 S i z) M ov i hi ⟨(Nat.le_of_ble_eq_true rfl), (Nat.le_of_ble_eq_true rfl)⟩ ⟨(Nat.le_of_ble_eq_true rfl), (Nat.le_of_ble_eq_true rfl)⟩ (Nat.le_of_ble_eq_true rfl) dX1_payOut_30 ?_
    refine go_istore_n C (lo' := [(3, .int (drwC (cs_lt (po2 S i z) i))), (0, .ref (a 0)), (1, .ref (cs_la S i)), (2, .int z)]) dX1_payOut_33 rfl (by decide) rfl ?_
    refine go_aload_n C 1 dX1_payOut_34 rfl rfl ?_
    refine go_aload_n C 2 dX1_payOut_35 rfl rfl ?_
    refine go_aload_n C 2 dX1_payOut_36 rfl rfl ?_
    refine gl_earned C (S := pinS (po2 S i z) i) (i := i) hi dX1_payOut_37 ?_
    refine k_RX1_127 C (pinS (po2 S i z) i) M ov i (lr_ea (cs_lt (pinS (po2 S i z) i) i)) hi ⟨(Nat.le_of_ble_eq_true rfl), (Nat.le_of_ble_eq_true rfl)⟩ ⟨(Nat.le_of_ble_eq_true rfl), (Nat.le_of_ble_eq_true rfl)⟩ (Nat.le_of_ble_eq_true rfl) dX1_payOut_40 ?_
    refine go_iload_n C 3 dX1_payOut_43 rfl rfl ?_
    refine go_iload_n C 0 dX1_payOut_44 rfl rfl ?_
    refine go_iadd C dX1_payOut_45 ?_
    exact go_ireturn C rfl dX1_payOut_46 (by decide) (by decide) ⟨by simp only [poC, if_pos c_1], by rw [poS, mixS_pos c_1 rfl]⟩
  · refine go_iload_n C 2 dX1_payOut_26 rfl rfl ?_
    exact go_ireturn C rfl dX1_payOut_27 (by decide) (by decide) ⟨by simp only [poC, if_neg c_1], by rw [poS, mixS_neg c_1 rfl]⟩
theorem k_RX1_96 {p : Program} {l : Launch} {e : Env} {R : Room} {s : State} {m : MethodId} {args : Array Value} {below : List Frame} {meth : Method} {c : Code} {D : va_G} {N0 mL : Nat} {cc : ByteArray} {nm : String} {ret : Option FieldType} {Q : State → Prop} {k n pc : Nat} {lo : List (Nat × Value)} {st : List Value} {cI cJ cO : ClassId} {a : Nat → Nat} (C : Cxt p s m args meth c D (tysW cI cJ cO) N0 cc mL RX1 ret nm) (S : CS) (M : LWS) (ov : va_W) (i : Nat) (z : Int32) (hi : i < cs_nc S) (hR : 2 + 1 ≤ R.frames ∧ 8 + (4 + 11) + 44 ≤ R.locals) (hcs : k + 0 ≤ R.cells ∧ n + 0 ≤ R.slots) (hcat : (st.map fun v => v.category).sum ≤ 8) (dk : decode cc pc = .ok (.invokevirtual 96, 3)) (g : Go p l e R s m args below meth c D N0 mL Q (wW cI cJ cO a (poS S i z) M ov) (k) (n) (pc + 3) lo (.int (poC S i z) :: st)) : Go p l e R s m args below meth c D N0 mL Q (wW cI cJ cO a S M ov) k n pc lo (.int z :: .ref (cs_la S i) :: .ref (a 0) :: st) :=
  go_callV C (ci := 1) (r9 := (RX1, TX1, 8)) (qi := 0) (As := [.ref (cs_la S i), .int z]) (rest := st) rfl rfl (c_X1_payOut l D cI cJ cO N0 a S M ov i z hi) ⟨rfl, by decide +kernel, by decide +kernel⟩ bl_RX1_96 bi_yX1_payOut bs_yX1_payOut bz_NoticeBook bc_yX1_payOut (show Option.map (fun d => d.parameters.length) (parseMethodDescriptor yX1_payOut.desc) = some 2 by decide +kernel) hR hcs hcat dk (fun r w2 h => by obtain ⟨rfl, rfl⟩ := h; exact g) rfl
set_option maxHeartbeats 4000000 in
set_option maxRecDepth 100000 in
theorem c_X1_lossByEarly (l : Launch) (D : va_G) (cI cJ cO : ClassId) (N0 : Nat) (a : Nat → Nat) (S : CS) (M : LWS) (ov : va_W) (i : Nat) (z : Int32) (hi : i < cs_nc S) : Ct l D (tysW cI cJ cO) N0 yX1_lossByEarly cX1_lossByEarly 4 (some .long) { frames := 1, cells := 0, slots := 0, locals := 15 } [.ref (cs_la S i), .int z] (wW cI cJ cO a S M ov) (fun r w2 => r = some (.long (lbe (cs_lt S i) z)) ∧ w2 = wW cI cJ cO a S M ov) := by
  refine ct_of (by decide +kernel) (Nat.le_of_ble_eq_true rfl) ?_
  intro p e s m args below meth c C
  have C : Cxt p s m args meth c D (tysW cI cJ cO) N0 cX1_lossByEarly 4 RX1 (some .long) "lossByEarly" := C
  refine go_aload_n C 0 dX1_lossByEarly_0 rfl rfl ?_
  refine gl_principal C (S := S) (i := i) hi dX1_lossByEarly_1 ?_
  refine go_if_gt C (tgt := 9) dX1_lossByEarly_4 (by decide) (fun c_1 => ?_) (fun c_1 => ?_)
  · refine go_ldc2 C bk_RX1_216 dX1_lossByEarly_9 ?_
    refine go_aload_n C 0 dX1_lossByEarly_12 rfl rfl ?_
    refine gl_parts C (S := S) (i := i) hi dX1_lossByEarly_13 ?_
    refine go_lmul C dX1_lossByEarly_16 ?_
    refine go_iload_n C 1 dX1_lossByEarly_17 rfl rfl ?_
    refine go_i2l C dX1_lossByEarly_18 ?_
    refine go_lmul C dX1_lossByEarly_19 ?_
    refine go_aload_n C 0 dX1_lossByEarly_20 rfl rfl ?_
    refine gl_principal C (S := S) (i := i) hi dX1_lossByEarly_21 ?_
    refine go_i2l C dX1_lossByEarly_24 ?_
    have hnz : ¬ Int32.toInt64 (lr_pr (cs_lt S i)) = 0 := nz_of c_1
    refine go_ldiv C dX1_lossByEarly_25 hnz ?_
    refine go_lstore_n C (lo' := [(2, .long (((30 * (lr_pa (cs_lt S i))) * (Int32.toInt64 z)) / (Int32.toInt64 (lr_pr (cs_lt S i))))), (0, .ref (cs_la S i)), (1, .int z)]) dX1_lossByEarly_26 rfl (by decide) rfl ?_
    refine go_lload_n C 0 dX1_lossByEarly_27 rfl rfl ?_
    refine go_aload_n C 1 dX1_lossByEarly_28 rfl rfl ?_
    refine gl_earned C (S := S) (i := i) hi dX1_lossByEarly_29 ?_
    refine go_minL C (x := ((30 * (lr_pa (cs_lt S i))) * (Int32.toInt64 z)) / (Int32.toInt64 (lr_pr (cs_lt S i)))) (y := lr_ea (cs_lt S i)) bl_RX1_218 bst_yJ9_min_f86c9 bz_Math bc_yJ9_min_f86c9 (by decide) (by decide) (by decide) (by decide) dX1_lossByEarly_32 ?_
    exact go_lreturn C rfl dX1_lossByEarly_35 (by decide) (by decide) ⟨by simp only [lbe, if_pos c_1], rfl⟩
  · refine go_lconst C (v := 0) dX1_lossByEarly_7 (by decide) ?_
    exact go_lreturn C rfl dX1_lossByEarly_8 (by decide) (by decide) ⟨by simp only [lbe, if_neg c_1], rfl⟩
theorem k_RX1_123 {p : Program} {l : Launch} {e : Env} {R : Room} {s : State} {m : MethodId} {args : Array Value} {below : List Frame} {meth : Method} {c : Code} {D : va_G} {N0 mL : Nat} {cc : ByteArray} {nm : String} {ret : Option FieldType} {Q : State → Prop} {k n pc : Nat} {lo : List (Nat × Value)} {st : List Value} {cI cJ cO : ClassId} {a : Nat → Nat} (C : Cxt p s m args meth c D (tysW cI cJ cO) N0 cc mL RX1 ret nm) (S : CS) (M : LWS) (ov : va_W) (i : Nat) (z : Int32) (hi : i < cs_nc S) (hR : 1 + 1 ≤ R.frames ∧ 8 + (4 + 11) + 15 ≤ R.locals) (hcs : k + 0 ≤ R.cells ∧ n + 0 ≤ R.slots) (hcat : (st.map fun v => v.category).sum ≤ 8) (dk : decode cc pc = .ok (.invokestatic 123, 3)) (g : Go p l e R s m args below meth c D N0 mL Q (wW cI cJ cO a S M ov) (k) (n) (pc + 3) lo (.long (lbe (cs_lt S i) z) :: st)) : Go p l e R s m args below meth c D N0 mL Q (wW cI cJ cO a S M ov) k n pc lo (.int z :: .ref (cs_la S i) :: st) :=
  go_callS C (As := [.ref (cs_la S i), .int z]) (rest := st) (c_X1_lossByEarly l D cI cJ cO N0 a S M ov i z hi) ⟨rfl, by decide +kernel, by decide +kernel⟩ bl_RX1_123 bst_yX1_lossByEarly bz_NoticeBook bc_yX1_lossByEarly (show Option.map (fun d => d.parameters.length) (parseMethodDescriptor yX1_lossByEarly.desc) = some 2 by decide +kernel) hR hcs hcat dk (fun r w2 h => by obtain ⟨rfl, rfl⟩ := h; exact g) rfl
set_option maxHeartbeats 4000000 in
set_option maxRecDepth 100000 in
theorem c_X1_harmsNoMore (l : Launch) (D : va_G) (cI cJ cO : ClassId) (N0 : Nat) (a : Nat → Nat) (S : CS) (M : LWS) (ov : va_W) (i i2 : Nat) (hi : i < cs_nc S) (hi2 : i2 < cs_nc S) : Ct l D (tysW cI cJ cO) N0 yX1_harmsNoMore cX1_harmsNoMore 2 (some .boolean) { frames := 0, cells := 0, slots := 0, locals := 0 } [.ref (cs_la S i), .ref (cs_la S i2)] (wW cI cJ cO a S M ov) (fun r w2 => r = some (.int (hnm (cs_lt S i) (cs_lt S i2))) ∧ w2 = wW cI cJ cO a S M ov) := by
  refine ct_of (by decide +kernel) (Nat.le_of_ble_eq_true rfl) ?_
  intro p e s m args below meth c C
  have C : Cxt p s m args meth c D (tysW cI cJ cO) N0 cX1_harmsNoMore 2 RX1 (some .boolean) "harmsNoMore" := C
  refine go_aload_n C 0 dX1_harmsNoMore_0 rfl rfl ?_
  refine gl_parts C (S := S) (i := i) hi dX1_harmsNoMore_1 ?_
  refine go_aload_n C 1 dX1_harmsNoMore_4 rfl rfl ?_
  refine gl_principal C (S := S) (i := i2) hi2 dX1_harmsNoMore_5 ?_
  refine go_i2l C dX1_harmsNoMore_8 ?_
  refine go_lmul C dX1_harmsNoMore_9 ?_
  refine go_aload_n C 1 dX1_harmsNoMore_10 rfl rfl ?_
  refine gl_parts C (S := S) (i := i2) hi2 dX1_harmsNoMore_11 ?_
  refine go_aload_n C 0 dX1_harmsNoMore_14 rfl rfl ?_
  refine gl_principal C (S := S) (i := i) hi dX1_harmsNoMore_15 ?_
  refine go_i2l C dX1_harmsNoMore_18 ?_
  refine go_lmul C dX1_harmsNoMore_19 ?_
  refine go_lcmp C dX1_harmsNoMore_20 ?_
  refine go_if_gt C (tgt := 28) dX1_harmsNoMore_21 (by decide) (fun c_1 => ?_) (fun c_1 => ?_)
  · refine go_iconst C (v := 0) dX1_harmsNoMore_28 (by decide) ?_
    exact go_zreturn C rfl rfl dX1_harmsNoMore_29 (by decide) (by decide) ⟨by simp only [hnm, if_pos c_1], rfl⟩
  · refine go_iconst C (v := 1) dX1_harmsNoMore_24 (by decide) ?_
    refine go_goto C (tgt := 29) dX1_harmsNoMore_25 (by decide) ?_
    exact go_zreturn C rfl rfl dX1_harmsNoMore_29 (by decide) (by decide) ⟨by simp only [hnm, if_neg c_1], rfl⟩
theorem k_RX1_194 {p : Program} {l : Launch} {e : Env} {R : Room} {s : State} {m : MethodId} {args : Array Value} {below : List Frame} {meth : Method} {c : Code} {D : va_G} {N0 mL : Nat} {cc : ByteArray} {nm : String} {ret : Option FieldType} {Q : State → Prop} {k n pc : Nat} {lo : List (Nat × Value)} {st : List Value} {cI cJ cO : ClassId} {a : Nat → Nat} (C : Cxt p s m args meth c D (tysW cI cJ cO) N0 cc mL RX1 ret nm) (S : CS) (M : LWS) (ov : va_W) (i i2 : Nat) (hi : i < cs_nc S) (hi2 : i2 < cs_nc S) (hR : 0 + 1 ≤ R.frames ∧ 8 + (2 + 11) + 0 ≤ R.locals) (hcs : k + 0 ≤ R.cells ∧ n + 0 ≤ R.slots) (hcat : (st.map fun v => v.category).sum ≤ 8) (dk : decode cc pc = .ok (.invokestatic 194, 3)) (g : Go p l e R s m args below meth c D N0 mL Q (wW cI cJ cO a S M ov) (k) (n) (pc + 3) lo (.int (hnm (cs_lt S i) (cs_lt S i2)) :: st)) : Go p l e R s m args below meth c D N0 mL Q (wW cI cJ cO a S M ov) k n pc lo (.ref (cs_la S i2) :: .ref (cs_la S i) :: st) :=
  go_callS C (As := [.ref (cs_la S i), .ref (cs_la S i2)]) (rest := st) (c_X1_harmsNoMore l D cI cJ cO N0 a S M ov i i2 hi hi2) ⟨rfl, by decide +kernel, by decide +kernel⟩ bl_RX1_194 bst_yX1_harmsNoMore bz_NoticeBook bc_yX1_harmsNoMore (show Option.map (fun d => d.parameters.length) (parseMethodDescriptor yX1_harmsNoMore.desc) = some 2 by decide +kernel) hR hcs hcat dk (fun r w2 h => by obtain ⟨rfl, rfl⟩ := h; exact g) rfl
set_option maxHeartbeats 4000000 in
set_option maxRecDepth 100000 in
theorem c_X1_canJoin (l : Launch) (D : va_G) (cI cJ cO : ClassId) (N0 : Nat) (a : Nat → Nat) (S : CS) (M : LWS) (ov : va_W) (i i2 : Nat) (hi : i < cs_nc S) (hi2 : i2 < cs_nc S) : Ct l D (tysW cI cJ cO) N0 yX1_canJoin cX1_canJoin 2 (some .boolean) { frames := 1, cells := 0, slots := 0, locals := 20 } [.ref (cs_la S i), .ref (cs_la S i2)] (wW cI cJ cO a S M ov) (fun r w2 => r = some (.int (cjn (cs_lt S i) (cs_lt S i2))) ∧ w2 = wW cI cJ cO a S M ov) := by
  refine ct_of (by decide +kernel) (Nat.le_of_ble_eq_true rfl) ?_
  intro p e s m args below meth c C
  have C : Cxt p s m args meth c D (tysW cI cJ cO) N0 cX1_canJoin 2 RX1 (some .boolean) "canJoin" := C
  refine go_aload_n C 0 dX1_canJoin_0 rfl rfl ?_
  refine k_RX1_76 C S M ov i hi ⟨(Nat.le_of_ble_eq_true rfl), (Nat.le_of_ble_eq_true rfl)⟩ ⟨(Nat.le_of_ble_eq_true rfl), (Nat.le_of_ble_eq_true rfl)⟩ (Nat.le_of_ble_eq_true rfl) dX1_canJoin_1 ?_
  refine go_if_eq C (tgt := 58) dX1_canJoin_4 (by decide) (fun c_1 => ?_) (fun c_1 => ?_)
  · refine go_iconst C (v := 0) dX1_canJoin_58 (by decide) ?_
    exact go_zreturn C rfl rfl dX1_canJoin_59 (by decide) (by decide) ⟨by simp only [cjn, if_pos c_1], rfl⟩
  · refine go_aload_n C 1 dX1_canJoin_7 rfl rfl ?_
    refine k_RX1_76 C S M ov i2 hi2 ⟨(Nat.le_of_ble_eq_true rfl), (Nat.le_of_ble_eq_true rfl)⟩ ⟨(Nat.le_of_ble_eq_true rfl), (Nat.le_of_ble_eq_true rfl)⟩ (Nat.le_of_ble_eq_true rfl) dX1_canJoin_8 ?_
    refine go_if_eq C (tgt := 58) dX1_canJoin_11 (by decide) (fun c_2 => ?_) (fun c_2 => ?_)
    · refine go_iconst C (v := 0) dX1_canJoin_58 (by decide) ?_
      exact go_zreturn C rfl rfl dX1_canJoin_59 (by decide) (by decide) ⟨by simp only [cjn, if_neg c_1, if_pos c_2], rfl⟩
    · refine go_aload_n C 0 dX1_canJoin_14 rfl rfl ?_
      refine gl_customer C (S := S) (i := i) hi dX1_canJoin_15 ?_
      refine go_aload_n C 1 dX1_canJoin_18 rfl rfl ?_
      refine gl_customer C (S := S) (i := i2) hi2 dX1_canJoin_19 ?_
      refine go_icmp_ne C (tgt := 58) dX1_canJoin_22 (by decide) (fun c_3 => ?_) (fun c_3 => ?_)
      · refine go_iconst C (v := 0) dX1_canJoin_58 (by decide) ?_
        exact go_zreturn C rfl rfl dX1_canJoin_59 (by decide) (by decide) ⟨by simp only [cjn, if_neg c_1, if_neg c_2, if_neg c_3], rfl⟩
      · refine go_aload_n C 0 dX1_canJoin_25 rfl rfl ?_
        refine gl_end C (S := S) (i := i) hi dX1_canJoin_26 ?_
        refine go_aload_n C 1 dX1_canJoin_29 rfl rfl ?_
        refine gl_end C (S := S) (i := i2) hi2 dX1_canJoin_30 ?_
        refine go_icmp_ne C (tgt := 58) dX1_canJoin_33 (by decide) (fun c_4 => ?_) (fun c_4 => ?_)
        · refine go_iconst C (v := 0) dX1_canJoin_58 (by decide) ?_
          exact go_zreturn C rfl rfl dX1_canJoin_59 (by decide) (by decide) ⟨by simp only [cjn, if_neg c_1, if_neg c_2, if_pos c_3, if_neg c_4], rfl⟩
        · refine go_aload_n C 0 dX1_canJoin_36 rfl rfl ?_
          refine gl_principal C (S := S) (i := i) hi dX1_canJoin_37 ?_
          refine go_i2l C dX1_canJoin_40 ?_
          refine go_aload_n C 1 dX1_canJoin_41 rfl rfl ?_
          refine gl_principal C (S := S) (i := i2) hi2 dX1_canJoin_42 ?_
          refine go_i2l C dX1_canJoin_45 ?_
          refine go_ladd C dX1_canJoin_46 ?_
          refine go_ldc2 C bk_RX1_188 dX1_canJoin_47 ?_
          refine go_lcmp C dX1_canJoin_50 ?_
          refine go_if_gt C (tgt := 58) dX1_canJoin_51 (by decide) (fun c_5 => ?_) (fun c_5 => ?_)
          · refine go_iconst C (v := 0) dX1_canJoin_58 (by decide) ?_
            exact go_zreturn C rfl rfl dX1_canJoin_59 (by decide) (by decide) ⟨by simp only [cjn, if_neg c_1, if_neg c_2, if_pos c_3, if_pos c_4, if_pos c_5], rfl⟩
          · refine go_iconst C (v := 1) dX1_canJoin_54 (by decide) ?_
            refine go_goto C (tgt := 59) dX1_canJoin_55 (by decide) ?_
            exact go_zreturn C rfl rfl dX1_canJoin_59 (by decide) (by decide) ⟨by simp only [cjn, if_neg c_1, if_neg c_2, if_pos c_3, if_pos c_4, if_neg c_5], rfl⟩
theorem k_RX1_147 {p : Program} {l : Launch} {e : Env} {R : Room} {s : State} {m : MethodId} {args : Array Value} {below : List Frame} {meth : Method} {c : Code} {D : va_G} {N0 mL : Nat} {cc : ByteArray} {nm : String} {ret : Option FieldType} {Q : State → Prop} {k n pc : Nat} {lo : List (Nat × Value)} {st : List Value} {cI cJ cO : ClassId} {a : Nat → Nat} (C : Cxt p s m args meth c D (tysW cI cJ cO) N0 cc mL RX1 ret nm) (S : CS) (M : LWS) (ov : va_W) (i i2 : Nat) (hi : i < cs_nc S) (hi2 : i2 < cs_nc S) (hR : 1 + 1 ≤ R.frames ∧ 8 + (2 + 11) + 20 ≤ R.locals) (hcs : k + 0 ≤ R.cells ∧ n + 0 ≤ R.slots) (hcat : (st.map fun v => v.category).sum ≤ 8) (dk : decode cc pc = .ok (.invokestatic 147, 3)) (g : Go p l e R s m args below meth c D N0 mL Q (wW cI cJ cO a S M ov) (k) (n) (pc + 3) lo (.int (cjn (cs_lt S i) (cs_lt S i2)) :: st)) : Go p l e R s m args below meth c D N0 mL Q (wW cI cJ cO a S M ov) k n pc lo (.ref (cs_la S i2) :: .ref (cs_la S i) :: st) :=
  go_callS C (As := [.ref (cs_la S i), .ref (cs_la S i2)]) (rest := st) (c_X1_canJoin l D cI cJ cO N0 a S M ov i i2 hi hi2) ⟨rfl, by decide +kernel, by decide +kernel⟩ bl_RX1_147 bst_yX1_canJoin bz_NoticeBook bc_yX1_canJoin (show Option.map (fun d => d.parameters.length) (parseMethodDescriptor yX1_canJoin.desc) = some 2 by decide +kernel) hR hcs hcat dk (fun r w2 h => by obtain ⟨rfl, rfl⟩ := h; exact g) rfl
