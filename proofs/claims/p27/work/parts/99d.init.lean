set_option maxHeartbeats 4000000 in
set_option maxRecDepth 100000 in
theorem c_X1_init (l : Launch) (D : va_G) (cI cJ cO : ClassId) (N0 : Nat) (a : Nat → Nat) (b0 : Nat) : Ct l D (tysW cI cJ cO) N0 yX1_init cX1_init 1 none { frames := 1, cells := 4, slots := 51, locals := 12 } [.ref b0] ([(b0, .inr (1, [.null, .null, .null, .null, .int 0, .int 0, .int 0, .int 0]))]) (fun r w2 => ∃ b1 b2 b3 b4 : Nat, r = none ∧ w2 = [(b0, .inr (1, [.ref b1, .ref b2, .ref b3, .ref b4, .int 0, .int 250, .int 0, .int 0])), (b1, .inl (cI, 3, .inl (upd (upd (upd (fun _ => 0) 0 100) 1 200) 2 300))), (b2, .inl (cJ, 4, .inr (.inl (fun _ => 0)))), (b3, .inl (cJ, 4, .inr (.inl (fun _ => 0)))), (b4, .inl (cO, 40, .inr (.inr (.inr (.inr (fun _ => none))))))]) := by
  refine ct_of (by decide +kernel) (Nat.le_of_ble_eq_true rfl) ?_
  intro p e s m args below meth c C
  have C : Cxt p s m args meth c D (tysW cI cJ cO) N0 cX1_init 1 RX1 none "<init>" := C
  refine go_aload_n C 0 dX1_init_0 rfl rfl ?_
  refine go_objInit C bl_RX1_1 bi_objectInit bc_objectInit (by decide) (by decide) dX1_init_1 ?_
  refine go_aload_n C 0 dX1_init_4 rfl rfl ?_
  refine go_iconst C (v := 3) dX1_init_5 (by decide) ?_
  refine go_newarray C (ty := .int) (N9 := 3) (t0 := 0) (cA := cI) (a0 := (3, .inl (fun _ => 0))) ba_int rfl rfl (fun _ => rfl) (by decide) (by decide) (by decide) (by decide) (by decide) dX1_init_6 (fun b1 => ?_)
  refine go_w (w2 := [(b0, .inr (1, [.null, .null, .null, .null, .int 0, .int 0, .int 0, .int 0])), (b1, .inl (cI, 3, .inl (fun _ => 0)))]) rfl ?_
  refine go_dup C dX1_init_8 rfl ?_
  refine go_iconst C (v := 0) dX1_init_9 (by decide) ?_
  refine go_bipush C (v := 100) dX1_init_10 (by decide) ?_
  refine go_iast C (cA := cI) (N9 := 3) (f := (fun _ => 0)) 1 0 rfl rfl vin_0_3 dX1_init_12 ?_
  refine go_w (w2 := [(b0, .inr (1, [.null, .null, .null, .null, .int 0, .int 0, .int 0, .int 0])), (b1, .inl (cI, 3, .inl (upd (fun _ => 0) 0 100)))]) rfl ?_
  refine go_dup C dX1_init_13 rfl ?_
  refine go_iconst C (v := 1) dX1_init_14 (by decide) ?_
  refine go_sipush C (v := 200) dX1_init_15 (by decide) ?_
  refine go_iast C (cA := cI) (N9 := 3) (f := (upd (fun _ => 0) 0 100)) 1 0 rfl rfl vin_1_3 dX1_init_18 ?_
  refine go_w (w2 := [(b0, .inr (1, [.null, .null, .null, .null, .int 0, .int 0, .int 0, .int 0])), (b1, .inl (cI, 3, .inl (upd (upd (fun _ => 0) 0 100) 1 200)))]) rfl ?_
  refine go_dup C dX1_init_19 rfl ?_
  refine go_iconst C (v := 2) dX1_init_20 (by decide) ?_
  refine go_sipush C (v := 300) dX1_init_21 (by decide) ?_
  refine go_iast C (cA := cI) (N9 := 3) (f := (upd (upd (fun _ => 0) 0 100) 1 200)) 1 0 rfl rfl vin_2_3 dX1_init_24 ?_
  refine go_w (w2 := [(b0, .inr (1, [.null, .null, .null, .null, .int 0, .int 0, .int 0, .int 0])), (b1, .inl (cI, 3, .inl (upd (upd (upd (fun _ => 0) 0 100) 1 200) 2 300)))]) rfl ?_
  refine go_putF C inX1 (ci := 1) (a := b0) (fs := [.null, .null, .null, .null, .int 0, .int 0, .int 0, .int 0]) 0 rfl rfl 0 (by decide) tyX1 tyX1_ok nmX1 bf_RX1_7 rfl rfl rfl (ty := (.array .int)) (by decide +kernel) rfl rfl (Nat.le_of_ble_eq_true rfl) dX1_init_25 ?_
  refine go_w (w2 := [(b0, .inr (1, [.ref b1, .null, .null, .null, .int 0, .int 0, .int 0, .int 0])), (b1, .inl (cI, 3, .inl (upd (upd (upd (fun _ => 0) 0 100) 1 200) 2 300)))]) rfl ?_
  refine go_aload_n C 0 dX1_init_28 rfl rfl ?_
  refine go_iconst C (v := 4) dX1_init_29 (by decide) ?_
  refine go_newarray C (ty := .long) (N9 := 4) (t0 := 1) (cA := cJ) (a0 := (4, .inr (.inl (fun _ => 0)))) ba_long rfl rfl (fun _ => rfl) (by decide) (by decide) (by decide) (by decide) (by decide) dX1_init_30 (fun b2 => ?_)
  refine go_w (w2 := [(b0, .inr (1, [.ref b1, .null, .null, .null, .int 0, .int 0, .int 0, .int 0])), (b1, .inl (cI, 3, .inl (upd (upd (upd (fun _ => 0) 0 100) 1 200) 2 300))), (b2, .inl (cJ, 4, .inr (.inl (fun _ => 0))))]) rfl ?_
  refine go_putF C inX1 (ci := 1) (a := b0) (fs := [.ref b1, .null, .null, .null, .int 0, .int 0, .int 0, .int 0]) 0 rfl rfl 1 (by decide) tyX1 tyX1_ok nmX1 bf_RX1_13 rfl rfl rfl (ty := (.array .long)) (by decide +kernel) rfl rfl (Nat.le_of_ble_eq_true rfl) dX1_init_32 ?_
  refine go_w (w2 := [(b0, .inr (1, [.ref b1, .ref b2, .null, .null, .int 0, .int 0, .int 0, .int 0])), (b1, .inl (cI, 3, .inl (upd (upd (upd (fun _ => 0) 0 100) 1 200) 2 300))), (b2, .inl (cJ, 4, .inr (.inl (fun _ => 0))))]) rfl ?_
  refine go_aload_n C 0 dX1_init_35 rfl rfl ?_
  refine go_iconst C (v := 4) dX1_init_36 (by decide) ?_
  refine go_newarray C (ty := .long) (N9 := 4) (t0 := 1) (cA := cJ) (a0 := (4, .inr (.inl (fun _ => 0)))) ba_long rfl rfl (fun _ => rfl) (by decide) (by decide) (by decide) (by decide) (by decide) dX1_init_37 (fun b3 => ?_)
  refine go_w (w2 := [(b0, .inr (1, [.ref b1, .ref b2, .null, .null, .int 0, .int 0, .int 0, .int 0])), (b1, .inl (cI, 3, .inl (upd (upd (upd (fun _ => 0) 0 100) 1 200) 2 300))), (b2, .inl (cJ, 4, .inr (.inl (fun _ => 0)))), (b3, .inl (cJ, 4, .inr (.inl (fun _ => 0))))]) rfl ?_
  refine go_putF C inX1 (ci := 1) (a := b0) (fs := [.ref b1, .ref b2, .null, .null, .int 0, .int 0, .int 0, .int 0]) 0 rfl rfl 2 (by decide) tyX1 tyX1_ok nmX1 bf_RX1_17 rfl rfl rfl (ty := (.array .long)) (by decide +kernel) rfl rfl (Nat.le_of_ble_eq_true rfl) dX1_init_39 ?_
  refine go_w (w2 := [(b0, .inr (1, [.ref b1, .ref b2, .ref b3, .null, .int 0, .int 0, .int 0, .int 0])), (b1, .inl (cI, 3, .inl (upd (upd (upd (fun _ => 0) 0 100) 1 200) 2 300))), (b2, .inl (cJ, 4, .inr (.inl (fun _ => 0)))), (b3, .inl (cJ, 4, .inr (.inl (fun _ => 0))))]) rfl ?_
  refine go_aload_n C 0 dX1_init_42 rfl rfl ?_
  refine go_bipush C (v := 40) dX1_init_43 (by decide) ?_
  refine go_anewarray C (N9 := 40) (t0 := 2) (cA := cO) bcl_RX1_20 rfl (by decide) (by decide) (by decide) (by decide) (by decide) dX1_init_45 (fun b4 => ?_)
  refine go_w (w2 := [(b0, .inr (1, [.ref b1, .ref b2, .ref b3, .null, .int 0, .int 0, .int 0, .int 0])), (b1, .inl (cI, 3, .inl (upd (upd (upd (fun _ => 0) 0 100) 1 200) 2 300))), (b2, .inl (cJ, 4, .inr (.inl (fun _ => 0)))), (b3, .inl (cJ, 4, .inr (.inl (fun _ => 0)))), (b4, .inl (cO, 40, .inr (.inr (.inr (.inr (fun _ => none))))))]) rfl ?_
  refine go_putF C inX1 (ci := 1) (a := b0) (fs := [.ref b1, .ref b2, .ref b3, .null, .int 0, .int 0, .int 0, .int 0]) 0 rfl rfl 3 (by decide) tyX1 tyX1_ok nmX1 bf_RX1_22 rfl rfl rfl (ty := (.array (.object RX0))) (by decide +kernel) rfl rfl (Nat.le_of_ble_eq_true rfl) dX1_init_48 ?_
  refine go_w (w2 := [(b0, .inr (1, [.ref b1, .ref b2, .ref b3, .ref b4, .int 0, .int 0, .int 0, .int 0])), (b1, .inl (cI, 3, .inl (upd (upd (upd (fun _ => 0) 0 100) 1 200) 2 300))), (b2, .inl (cJ, 4, .inr (.inl (fun _ => 0)))), (b3, .inl (cJ, 4, .inr (.inl (fun _ => 0)))), (b4, .inl (cO, 40, .inr (.inr (.inr (.inr (fun _ => none))))))]) rfl ?_
  refine go_aload_n C 0 dX1_init_51 rfl rfl ?_
  refine go_iconst C (v := 0) dX1_init_52 (by decide) ?_
  refine go_put C inX1 (ci := 1) (a := b0) (fs := [.ref b1, .ref b2, .ref b3, .ref b4, .int 0, .int 0, .int 0, .int 0]) 0 rfl rfl 4 (by decide) tyX1 tyX1_ok nmX1 bf_RX1_26 rfl (ty := .boolean) (by decide +kernel) rfl rfl (Nat.le_of_ble_eq_true rfl) dX1_init_53 ?_
  refine go_w (w2 := [(b0, .inr (1, [.ref b1, .ref b2, .ref b3, .ref b4, .int 0, .int 0, .int 0, .int 0])), (b1, .inl (cI, 3, .inl (upd (upd (upd (fun _ => 0) 0 100) 1 200) 2 300))), (b2, .inl (cJ, 4, .inr (.inl (fun _ => 0)))), (b3, .inl (cJ, 4, .inr (.inl (fun _ => 0)))), (b4, .inl (cO, 40, .inr (.inr (.inr (.inr (fun _ => none))))))]) rfl ?_
  refine go_aload_n C 0 dX1_init_56 rfl rfl ?_
  refine go_sipush C (v := 250) dX1_init_57 (by decide) ?_
  refine go_put C inX1 (ci := 1) (a := b0) (fs := [.ref b1, .ref b2, .ref b3, .ref b4, .int 0, .int 0, .int 0, .int 0]) 0 rfl rfl 5 (by decide) tyX1 tyX1_ok nmX1 bf_RX1_30 rfl (ty := .int) (by decide +kernel) rfl rfl (Nat.le_of_ble_eq_true rfl) dX1_init_60 ?_
  refine go_w (w2 := [(b0, .inr (1, [.ref b1, .ref b2, .ref b3, .ref b4, .int 0, .int 250, .int 0, .int 0])), (b1, .inl (cI, 3, .inl (upd (upd (upd (fun _ => 0) 0 100) 1 200) 2 300))), (b2, .inl (cJ, 4, .inr (.inl (fun _ => 0)))), (b3, .inl (cJ, 4, .inr (.inl (fun _ => 0)))), (b4, .inl (cO, 40, .inr (.inr (.inr (.inr (fun _ => none))))))]) rfl ?_
  refine go_aload_n C 0 dX1_init_63 rfl rfl ?_
  refine go_iconst C (v := 0) dX1_init_64 (by decide) ?_
  refine go_put C inX1 (ci := 1) (a := b0) (fs := [.ref b1, .ref b2, .ref b3, .ref b4, .int 0, .int 250, .int 0, .int 0]) 0 rfl rfl 6 (by decide) tyX1 tyX1_ok nmX1 bf_RX1_34 rfl (ty := .int) (by decide +kernel) rfl rfl (Nat.le_of_ble_eq_true rfl) dX1_init_65 ?_
  refine go_w (w2 := [(b0, .inr (1, [.ref b1, .ref b2, .ref b3, .ref b4, .int 0, .int 250, .int 0, .int 0])), (b1, .inl (cI, 3, .inl (upd (upd (upd (fun _ => 0) 0 100) 1 200) 2 300))), (b2, .inl (cJ, 4, .inr (.inl (fun _ => 0)))), (b3, .inl (cJ, 4, .inr (.inl (fun _ => 0)))), (b4, .inl (cO, 40, .inr (.inr (.inr (.inr (fun _ => none))))))]) rfl ?_
  refine go_aload_n C 0 dX1_init_68 rfl rfl ?_
  refine go_iconst C (v := 0) dX1_init_69 (by decide) ?_
  refine go_put C inX1 (ci := 1) (a := b0) (fs := [.ref b1, .ref b2, .ref b3, .ref b4, .int 0, .int 250, .int 0, .int 0]) 0 rfl rfl 7 (by decide) tyX1 tyX1_ok nmX1 bf_RX1_37 rfl (ty := .int) (by decide +kernel) rfl rfl (Nat.le_of_ble_eq_true rfl) dX1_init_70 ?_
  refine go_w (w2 := [(b0, .inr (1, [.ref b1, .ref b2, .ref b3, .ref b4, .int 0, .int 250, .int 0, .int 0])), (b1, .inl (cI, 3, .inl (upd (upd (upd (fun _ => 0) 0 100) 1 200) 2 300))), (b2, .inl (cJ, 4, .inr (.inl (fun _ => 0)))), (b3, .inl (cJ, 4, .inr (.inl (fun _ => 0)))), (b4, .inl (cO, 40, .inr (.inr (.inr (.inr (fun _ => none))))))]) rfl ?_
  exact go_return C rfl dX1_init_73 (by decide) (by decide) ⟨b1, b2, b3, b4, rfl, rfl⟩
