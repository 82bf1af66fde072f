set_option maxHeartbeats 4000000 in
set_option maxRecDepth 100000 in
theorem c_X1_rateByWholeSum (l : Launch) (D : va_G) (cI cJ cO : ClassId) (N0 : Nat) (a : Nat → Nat) (S : CS) (M : LWS) (ov : va_W) (z : Int32)  : Ct l D (tysW cI cJ cO) N0 yX1_rateByWholeSum cX1_rateByWholeSum 3 (some .int) { frames := 0, cells := 0, slots := 0, locals := 0 } [.ref (a 0), .int z] (wW cI cJ cO a S M ov) (fun r w2 => r = some (.int (rws S z)) ∧ w2 = wW cI cJ cO a S M ov) := by
  refine ct_of (by decide +kernel) (Nat.le_of_ble_eq_true rfl) ?_
  intro p e s m args below meth c C
  have C : Cxt p s m args meth c D (tysW cI cJ cO) N0 cX1_rateByWholeSum 3 RX1 (some .int) "rateByWholeSum" := C
  refine go_iload_n C 1 dX1_rateByWholeSum_0 rfl rfl ?_
  refine go_iconst C (v := 1) dX1_rateByWholeSum_1 (by decide) ?_
  refine go_isub C dX1_rateByWholeSum_2 ?_
  refine go_istore_n C (lo' := [(2, .int (z - 1)), (0, .ref (a 0)), (1, .int z)]) dX1_rateByWholeSum_3 rfl (by decide) rfl ?_
  refine go_iload_n C 0 dX1_rateByWholeSum_4 rfl rfl ?_
  refine go_ldc C bk_RX1_204 dX1_rateByWholeSum_5 ?_
  refine go_icmp_ge C (tgt := 17) dX1_rateByWholeSum_7 (by decide) (fun c_1 => ?_) (fun c_1 => ?_)
  · refine go_iload_n C 0 dX1_rateByWholeSum_17 rfl rfl ?_
    refine go_ldc C bk_RX1_205 dX1_rateByWholeSum_18 ?_
    refine go_icmp_ge C (tgt := 32) dX1_rateByWholeSum_20 (by decide) (fun c_2 => ?_) (fun c_2 => ?_)
    · refine go_aload_n C 1 dX1_rateByWholeSum_32 rfl rfl ?_
      refine gx_rates C dX1_rateByWholeSum_33 ?_
      refine go_iconst C (v := 2) dX1_rateByWholeSum_36 (by decide) ?_
      refine lx_rates C vin_2_3 dX1_rateByWholeSum_37 ?_
      exact go_ireturn C rfl dX1_rateByWholeSum_38 (by decide) (by decide) ⟨by simp only [rws, if_pos c_1, if_pos c_2] <;> rfl, rfl⟩
    · refine go_aload_n C 1 dX1_rateByWholeSum_23 rfl rfl ?_
      refine gx_rates C dX1_rateByWholeSum_24 ?_
      refine go_iconst C (v := 1) dX1_rateByWholeSum_27 (by decide) ?_
      refine lx_rates C vin_1_3 dX1_rateByWholeSum_28 ?_
      refine go_goto C (tgt := 38) dX1_rateByWholeSum_29 (by decide) ?_
      exact go_ireturn C rfl dX1_rateByWholeSum_38 (by decide) (by decide) ⟨by simp only [rws, if_pos c_1, if_neg c_2] <;> rfl, rfl⟩
  · refine go_aload_n C 1 dX1_rateByWholeSum_10 rfl rfl ?_
    refine gx_rates C dX1_rateByWholeSum_11 ?_
    refine go_iconst C (v := 0) dX1_rateByWholeSum_14 (by decide) ?_
    refine lx_rates C vin_0_3 dX1_rateByWholeSum_15 ?_
    exact go_ireturn C rfl dX1_rateByWholeSum_16 (by decide) (by decide) ⟨by simp only [rws, if_neg c_1] <;> rfl, rfl⟩
theorem k_RX1_201 {p : Program} {l : Launch} {e : Env} {R : Room} {s : State} {m : MethodId} {args : Array Value} {below : List Frame} {meth : Method} {c : Code} {D : va_G} {N0 mL : Nat} {cc : ByteArray} {nm : String} {ret : Option FieldType} {Q : State → Prop} {k n pc : Nat} {lo : List (Nat × Value)} {st : List Value} {cI cJ cO : ClassId} {a : Nat → Nat} (C : Cxt p s m args meth c D (tysW cI cJ cO) N0 cc mL RX1 ret nm) (S : CS) (M : LWS) (ov : va_W) (z : Int32)  (hR : 0 + 1 ≤ R.frames ∧ 8 + (3 + 11) + 0 ≤ R.locals) (hcs : k + 0 ≤ R.cells ∧ n + 0 ≤ R.slots) (hcat : (st.map fun v => v.category).sum ≤ 8) (dk : decode cc pc = .ok (.invokevirtual 201, 3)) (g : Go p l e R s m args below meth c D N0 mL Q (wW cI cJ cO a S M ov) (k) (n) (pc + 3) lo (.int (rws S z) :: st)) : Go p l e R s m args below meth c D N0 mL Q (wW cI cJ cO a S M ov) k n pc lo (.int z :: .ref (a 0) :: st) :=
  go_callV C (ci := 1) (r9 := (RX1, TX1, 8)) (qi := 0) (As := [.int z]) (rest := st) rfl rfl (c_X1_rateByWholeSum l D cI cJ cO N0 a S M ov z ) ⟨rfl, by decide +kernel, by decide +kernel⟩ bl_RX1_201 bi_yX1_rateByWholeSum bs_yX1_rateByWholeSum bz_NoticeBook bc_yX1_rateByWholeSum (show Option.map (fun d => d.parameters.length) (parseMethodDescriptor yX1_rateByWholeSum.desc) = some 1 by decide +kernel) hR hcs hcat dk (fun r w2 h => by obtain ⟨rfl, rfl⟩ := h; exact g) rfl
set_option maxHeartbeats 4000000 in
set_option maxRecDepth 100000 in
theorem c_X1_partsByBands (l : Launch) (D : va_G) (cI cJ cO : ClassId) (N0 : Nat) (a : Nat → Nat) (S : CS) (M : LWS) (ov : va_W) (z : Int32)  : Ct l D (tysW cI cJ cO) N0 yX1_partsByBands cX1_partsByBands 5 (some .long) { frames := 1, cells := 0, slots := 0, locals := 13 } [.ref (a 0), .int z] (wW cI cJ cO a S M ov) (fun r w2 => r = some (.long (pbb S z)) ∧ w2 = wW cI cJ cO a S M ov) := by
  refine ct_of (by decide +kernel) (Nat.le_of_ble_eq_true rfl) ?_
  intro p e s m args below meth c C
  have C : Cxt p s m args meth c D (tysW cI cJ cO) N0 cX1_partsByBands 5 RX1 (some .long) "partsByBands" := C
  refine go_iload_n C 1 dX1_partsByBands_0 rfl rfl ?_
  refine go_ldc C bk_RX1_204 dX1_partsByBands_1 ?_
  refine go_min C (x := z) (y := 100000) bl_RX1_117 bst_yJ9_min_7cf53 bz_Math bc_yJ9_min_7cf53 (by decide) (by decide) (by decide) (by decide) dX1_partsByBands_3 ?_
  refine go_istore_n C (lo' := [(2, .int (if 100000 < z then 100000 else z)), (0, .ref (a 0)), (1, .int z)]) dX1_partsByBands_6 rfl (by decide) rfl ?_
  refine go_iload_n C 2 dX1_partsByBands_7 rfl rfl ?_
  refine go_ldc C bk_RX1_205 dX1_partsByBands_8 ?_
  refine go_min C (x := z) (y := 1000000) bl_RX1_117 bst_yJ9_min_7cf53 bz_Math bc_yJ9_min_7cf53 (by decide) (by decide) (by decide) (by decide) dX1_partsByBands_10 ?_
  refine go_iload_n C 0 dX1_partsByBands_13 rfl rfl ?_
  refine go_isub C dX1_partsByBands_14 ?_
  refine go_istore_n C (lo' := [(3, .int ((if 1000000 < z then 1000000 else z) - (if 100000 < z then 100000 else z))), (2, .int (if 100000 < z then 100000 else z)), (0, .ref (a 0)), (1, .int z)]) dX1_partsByBands_15 rfl (by decide) rfl ?_
  refine go_iload_n C 3 dX1_partsByBands_16 rfl rfl ?_
  refine go_iload_n C 1 dX1_partsByBands_17 rfl rfl ?_
  refine go_isub C dX1_partsByBands_18 ?_
  refine go_iload_n C 0 dX1_partsByBands_19 rfl rfl ?_
  refine go_isub C dX1_partsByBands_20 ?_
  refine go_istore C (lo' := [(4, .int ((z - (if 100000 < z then 100000 else z)) - ((if 1000000 < z then 1000000 else z) - (if 100000 < z then 100000 else z)))), (3, .int ((if 1000000 < z then 1000000 else z) - (if 100000 < z then 100000 else z))), (2, .int (if 100000 < z then 100000 else z)), (0, .ref (a 0)), (1, .int z)]) dX1_partsByBands_21 (by decide) rfl ?_
  refine go_iload_n C 2 dX1_partsByBands_23 rfl rfl ?_
  refine go_i2l C dX1_partsByBands_24 ?_
  refine go_aload_n C 3 dX1_partsByBands_25 rfl rfl ?_
  refine gx_rates C dX1_partsByBands_26 ?_
  refine go_iconst C (v := 0) dX1_partsByBands_29 (by decide) ?_
  refine lx_rates C vin_0_3 dX1_partsByBands_30 ?_
  refine go_i2l C dX1_partsByBands_31 ?_
  refine go_lmul C dX1_partsByBands_32 ?_
  refine go_iload_n C 1 dX1_partsByBands_33 rfl rfl ?_
  refine go_i2l C dX1_partsByBands_34 ?_
  refine go_aload_n C 3 dX1_partsByBands_35 rfl rfl ?_
  refine gx_rates C dX1_partsByBands_36 ?_
  refine go_iconst C (v := 1) dX1_partsByBands_39 (by decide) ?_
  refine lx_rates C vin_1_3 dX1_partsByBands_40 ?_
  refine go_i2l C dX1_partsByBands_41 ?_
  refine go_lmul C dX1_partsByBands_42 ?_
  refine go_ladd C dX1_partsByBands_43 ?_
  refine go_iload C 0 dX1_partsByBands_44 rfl ?_
  refine go_i2l C dX1_partsByBands_46 ?_
  refine go_aload_n C 3 dX1_partsByBands_47 rfl rfl ?_
  refine gx_rates C dX1_partsByBands_48 ?_
  refine go_iconst C (v := 2) dX1_partsByBands_51 (by decide) ?_
  refine lx_rates C vin_2_3 dX1_partsByBands_52 ?_
  refine go_i2l C dX1_partsByBands_53 ?_
  refine go_lmul C dX1_partsByBands_54 ?_
  refine go_ladd C dX1_partsByBands_55 ?_
  exact go_lreturn C rfl dX1_partsByBands_56 (by decide) (by decide) ⟨rfl, rfl⟩
theorem k_RX1_197 {p : Program} {l : Launch} {e : Env} {R : Room} {s : State} {m : MethodId} {args : Array Value} {below : List Frame} {meth : Method} {c : Code} {D : va_G} {N0 mL : Nat} {cc : ByteArray} {nm : String} {ret : Option FieldType} {Q : State → Prop} {k n pc : Nat} {lo : List (Nat × Value)} {st : List Value} {cI cJ cO : ClassId} {a : Nat → Nat} (C : Cxt p s m args meth c D (tysW cI cJ cO) N0 cc mL RX1 ret nm) (S : CS) (M : LWS) (ov : va_W) (z : Int32)  (hR : 1 + 1 ≤ R.frames ∧ 8 + (5 + 11) + 13 ≤ R.locals) (hcs : k + 0 ≤ R.cells ∧ n + 0 ≤ R.slots) (hcat : (st.map fun v => v.category).sum ≤ 8) (dk : decode cc pc = .ok (.invokevirtual 197, 3)) (g : Go p l e R s m args below meth c D N0 mL Q (wW cI cJ cO a S M ov) (k) (n) (pc + 3) lo (.long (pbb S z) :: st)) : Go p l e R s m args below meth c D N0 mL Q (wW cI cJ cO a S M ov) k n pc lo (.int z :: .ref (a 0) :: st) :=
  go_callV C (ci := 1) (r9 := (RX1, TX1, 8)) (qi := 0) (As := [.int z]) (rest := st) rfl rfl (c_X1_partsByBands l D cI cJ cO N0 a S M ov z ) ⟨rfl, by decide +kernel, by decide +kernel⟩ bl_RX1_197 bi_yX1_partsByBands bs_yX1_partsByBands bz_NoticeBook bc_yX1_partsByBands (show Option.map (fun d => d.parameters.length) (parseMethodDescriptor yX1_partsByBands.desc) = some 1 by decide +kernel) hR hcs hcat dk (fun r w2 h => by obtain ⟨rfl, rfl⟩ := h; exact g) rfl
set_option maxHeartbeats 4000000 in
set_option maxRecDepth 100000 in
theorem c_X1_partsOfCents (l : Launch) (D : va_G) (cI cJ cO : ClassId) (N0 : Nat) (a : Nat → Nat) (S : CS) (M : LWS) (ov : va_W) (z1 z2 z3 : Int32)  : Ct l D (tysW cI cJ cO) N0 yX1_partsOfCents cX1_partsOfCents 4 (some .long) { frames := 2, cells := 0, slots := 0, locals := 37 } [.ref (a 0), .int z1, .int z2, .int z3] (wW cI cJ cO a S M ov) (fun r w2 => r = some (.long (poc S z1 z2 z3)) ∧ w2 = wW cI cJ cO a S M ov) := by
  refine ct_of (by decide +kernel) (Nat.le_of_ble_eq_true rfl) ?_
  intro p e s m args below meth c C
  have C : Cxt p s m args meth c D (tysW cI cJ cO) N0 cX1_partsOfCents 4 RX1 (some .long) "partsOfCents" := C
  refine go_aload_n C 0 dX1_partsOfCents_0 rfl rfl ?_
  refine gx_tiersByBands C dX1_partsOfCents_1 ?_
  refine go_if_eq C (tgt := 19) dX1_partsOfCents_4 (by decide) (fun c_1 => ?_) (fun c_1 => ?_)
  · refine go_iload_n C 2 dX1_partsOfCents_19 rfl rfl ?_
    refine go_iload_n C 1 dX1_partsOfCents_20 rfl rfl ?_
    refine go_isub C dX1_partsOfCents_21 ?_
    refine go_i2l C dX1_partsOfCents_22 ?_
    refine go_aload_n C 0 dX1_partsOfCents_23 rfl rfl ?_
    refine go_iload_n C 3 dX1_partsOfCents_24 rfl rfl ?_
    refine k_RX1_201 C S M ov z3 ⟨(Nat.le_of_ble_eq_true rfl), (Nat.le_of_ble_eq_true rfl)⟩ ⟨(Nat.le_of_ble_eq_true rfl), (Nat.le_of_ble_eq_true rfl)⟩ (Nat.le_of_ble_eq_true rfl) dX1_partsOfCents_25 ?_
    refine go_i2l C dX1_partsOfCents_28 ?_
    refine go_lmul C dX1_partsOfCents_29 ?_
    exact go_lreturn C rfl dX1_partsOfCents_30 (by decide) (by decide) ⟨by simp only [poc, if_pos c_1], rfl⟩
  · refine go_aload_n C 0 dX1_partsOfCents_7 rfl rfl ?_
    refine go_iload_n C 2 dX1_partsOfCents_8 rfl rfl ?_
    refine k_RX1_197 C S M ov z2 ⟨(Nat.le_of_ble_eq_true rfl), (Nat.le_of_ble_eq_true rfl)⟩ ⟨(Nat.le_of_ble_eq_true rfl), (Nat.le_of_ble_eq_true rfl)⟩ (Nat.le_of_ble_eq_true rfl) dX1_partsOfCents_9 ?_
    refine go_aload_n C 0 dX1_partsOfCents_12 rfl rfl ?_
    refine go_iload_n C 1 dX1_partsOfCents_13 rfl rfl ?_
    refine k_RX1_197 C S M ov z1 ⟨(Nat.le_of_ble_eq_true rfl), (Nat.le_of_ble_eq_true rfl)⟩ ⟨(Nat.le_of_ble_eq_true rfl), (Nat.le_of_ble_eq_true rfl)⟩ (Nat.le_of_ble_eq_true rfl) dX1_partsOfCents_14 ?_
    refine go_lsub C dX1_partsOfCents_17 ?_
    exact go_lreturn C rfl dX1_partsOfCents_18 (by decide) (by decide) ⟨by simp only [poc, if_neg c_1], rfl⟩
theorem k_RX1_176 {p : Program} {l : Launch} {e : Env} {R : Room} {s : State} {m : MethodId} {args : Array Value} {below : List Frame} {meth : Method} {c : Code} {D : va_G} {N0 mL : Nat} {cc : ByteArray} {nm : String} {ret : Option FieldType} {Q : State → Prop} {k n pc : Nat} {lo : List (Nat × Value)} {st : List Value} {cI cJ cO : ClassId} {a : Nat → Nat} (C : Cxt p s m args meth c D (tysW cI cJ cO) N0 cc mL RX1 ret nm) (S : CS) (M : LWS) (ov : va_W) (z1 z2 z3 : Int32)  (hR : 2 + 1 ≤ R.frames ∧ 8 + (4 + 11) + 37 ≤ R.locals) (hcs : k + 0 ≤ R.cells ∧ n + 0 ≤ R.slots) (hcat : (st.map fun v => v.category).sum ≤ 8) (dk : decode cc pc = .ok (.invokevirtual 176, 3)) (g : Go p l e R s m args below meth c D N0 mL Q (wW cI cJ cO a S M ov) (k) (n) (pc + 3) lo (.long (poc S z1 z2 z3) :: st)) : Go p l e R s m args below meth c D N0 mL Q (wW cI cJ cO a S M ov) k n pc lo (.int z3 :: .int z2 :: .int z1 :: .ref (a 0) :: st) :=
  go_callV C (ci := 1) (r9 := (RX1, TX1, 8)) (qi := 0) (As := [.int z1, .int z2, .int z3]) (rest := st) rfl rfl (c_X1_partsOfCents l D cI cJ cO N0 a S M ov z1 z2 z3 ) ⟨rfl, by decide +kernel, by decide +kernel⟩ bl_RX1_176 bi_yX1_partsOfCents bs_yX1_partsOfCents bz_NoticeBook bc_yX1_partsOfCents (show Option.map (fun d => d.parameters.length) (parseMethodDescriptor yX1_partsOfCents.desc) = some 3 by decide +kernel) hR hcs hcat dk (fun r w2 h => by obtain ⟨rfl, rfl⟩ := h; exact g) rfl
