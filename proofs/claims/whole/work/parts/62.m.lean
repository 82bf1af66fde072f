set_option maxHeartbeats 4000000 in
set_option maxRecDepth 100000 in
theorem c_X2_nextFor (l : Launch) (D : va_G) (cI cJ cZ cO : ClassId) (N0 : Nat) (a : Nat → Nat) (S : CS) (M : MS) (ov : Nat → Int64) (cu : Int32) (hb : ms_n M ≤ 40) : Ct l D (tysW cI cJ cZ cO) N0 yX2_nextFor cX2_nextFor 5 (some .int) { frames := 1, cells := 0, slots := 0, locals := 22 } [.ref (a 5), .int cu] (wW cI cJ cZ cO a S M ov) (fun r w2 => r = some (.int (oI (mnTo M cu (ms_n M)))) ∧ w2 = wW cI cJ cZ cO a S M ov) := by
  refine ct_of (by decide +kernel) (Nat.le_of_ble_eq_true rfl) ?_
  intro p e s m args below meth c C
  have C : Cxt p s m args meth c D (tysW cI cJ cZ cO) N0 cX2_nextFor 5 RX2 (some .int) "nextFor" := C
  refine go_iconst C (v := (-1)) dX2_nextFor_0 (by decide) ?_
  refine go_istore_n C (lo' := [(2, .int (-1)), (0, .ref (a 5)), (1, .int cu)]) dX2_nextFor_1 rfl (by decide) rfl ?_
  refine go_iconst C (v := 0) dX2_nextFor_2 (by decide) ?_
  refine go_istore_n C (lo' := [(3, .int 0), (2, .int (-1)), (0, .ref (a 5)), (1, .int cu)]) dX2_nextFor_3 rfl (by decide) rfl ?_
  refine go_for (ms_n M) (fun i => True) (fun i => wW cI cJ cZ cO a S M ov) (fun i => [(3, .int (nI i)), (2, .int (oI (mnTo M cu i))), (0, .ref (a 5)), (1, .int cu)]) ⟨rfl, rfl⟩ trivial (fun i hi_i hI_i ih_i => ?_) (fun hI_i => ?_)
  · refine go_iload_n C 0 dX2_nextFor_4 rfl rfl ?_
    refine go_aload_n C 2 dX2_nextFor_5 rfl rfl ?_
    refine gm_lotMany C dX2_nextFor_6 ?_
    refine go_icmp_ge C (tgt := 91) dX2_nextFor_9 (by decide) (fun c_1 => absurd c_1 (nI_nge hi_i hb)) (fun c_1 => ?_)
    refine go_aload_n C 2 dX2_nextFor_12 rfl rfl ?_
    refine go_iload_n C 0 dX2_nextFor_13 rfl rfl ?_
    refine go_iload_n C 3 dX2_nextFor_14 rfl rfl ?_
    refine k_RX2_84 C S M ov (nI i) cu (nI_vin (Nat.lt_of_lt_of_le hi_i hb)) ⟨(Nat.le_of_ble_eq_true rfl), (Nat.le_of_ble_eq_true rfl)⟩ ⟨(Nat.le_of_ble_eq_true rfl), (Nat.le_of_ble_eq_true rfl)⟩ (Nat.le_of_ble_eq_true rfl) dX2_nextFor_15 ?_
    rw [cl_nI (i := i) (by have := hi_i; omega)]
    refine go_if_eq C (tgt := 85) dX2_nextFor_18 (by decide) (fun c_2 => ?_) (fun c_2 => ?_)
    · refine go_iinc C (v := nI (i + 1)) (lo' := [(3, .int (nI (i + 1))), (2, .int (oI (mnTo M cu i))), (0, .ref (a 5)), (1, .int cu)]) 0 dX2_nextFor_85 rfl (nI_1 _) (by decide) rfl ?_
      refine go_goto C (tgt := 4) dX2_nextFor_88 (by decide) ?_
      refine go_lo (lo' := [(3, .int (nI (i + 1))), (2, .int (oI (mnTo M cu (i + 1)))), (0, .ref (a 5)), (1, .int cu)]) [0, 1, 2, 3] (by rw [mn_0 c_2]; rfl) ?_
      exact ih_i trivial
    · refine go_aload_n C 2 dX2_nextFor_21 rfl rfl ?_
      refine gm_isDone C dX2_nextFor_22 ?_
      refine go_iload_n C 0 dX2_nextFor_25 rfl rfl ?_
      refine lm_isDone C (nI_vin (Nat.lt_of_lt_of_le hi_i hb)) dX2_nextFor_26 ?_
      rw [cl_nI (i := i) (by have := hi_i; omega)]
      refine go_if_ne C (tgt := 85) dX2_nextFor_27 (by decide) (fun c_3 => ?_) (fun c_3 => ?_)
      · refine go_iinc C (v := nI (i + 1)) (lo' := [(3, .int (nI (i + 1))), (2, .int (oI (mnTo M cu i))), (0, .ref (a 5)), (1, .int cu)]) 0 dX2_nextFor_85 rfl (nI_1 _) (by decide) rfl ?_
        refine go_goto C (tgt := 4) dX2_nextFor_88 (by decide) ?_
        refine go_lo (lo' := [(3, .int (nI (i + 1))), (2, .int (oI (mnTo M cu (i + 1)))), (0, .ref (a 5)), (1, .int cu)]) [0, 1, 2, 3] (by rw [mn_1 c_2 c_3]; rfl) ?_
        exact ih_i trivial
      · rcases opt_c (mnTo M cu i) with hx_4 | ⟨b_5, hx_4⟩
        · refine go_lo (lo' := [(3, .int (nI i)), (2, .int (-1)), (0, .ref (a 5)), (1, .int cu)]) [0, 1, 2, 3] (by rw [hx_4]; rfl) ?_
          refine go_iload_n C 1 dX2_nextFor_30 rfl rfl ?_
          refine go_iconst C (v := (-1)) dX2_nextFor_31 (by decide) ?_
          refine go_icmp_eq C (tgt := 67) dX2_nextFor_32 (by decide) (fun c_6 => ?_) (fun c_6 => absurd c_6 (by decide))
          refine go_iconst C (v := 1) dX2_nextFor_67 (by decide) ?_
          refine go_goto C (tgt := 72) dX2_nextFor_68 (by decide) ?_
          refine go_istore C (lo' := [(4, .int 1), (3, .int (nI i)), (2, .int (-1)), (0, .ref (a 5)), (1, .int cu)]) dX2_nextFor_72 (by decide) rfl ?_
          refine go_iload C 0 dX2_nextFor_74 rfl ?_
          refine go_if_eq C (tgt := 83) dX2_nextFor_76 (by decide) (fun c_7 => absurd c_7 (by decide)) (fun c_7 => ?_)
          refine go_iload_n C 1 dX2_nextFor_79 rfl rfl ?_
          refine go_goto C (tgt := 84) dX2_nextFor_80 (by decide) ?_
          refine go_istore_n C (lo' := [(2, .int (nI i)), (4, .int 1), (3, .int (nI i)), (0, .ref (a 5)), (1, .int cu)]) dX2_nextFor_84 rfl (by decide) rfl ?_
          refine go_iinc C (v := nI (i + 1)) (lo' := [(3, .int (nI (i + 1))), (2, .int (nI i)), (4, .int 1), (0, .ref (a 5)), (1, .int cu)]) 2 dX2_nextFor_85 rfl (nI_1 _) (by decide) rfl ?_
          refine go_goto C (tgt := 4) dX2_nextFor_88 (by decide) ?_
          refine go_lo (lo' := [(3, .int (nI (i + 1))), (2, .int (oI (mnTo M cu (i + 1)))), (0, .ref (a 5)), (1, .int cu)]) [0, 1, 3, 4] (by rw [mn_2 c_2 c_3 hx_4]; rfl) ?_
          exact ih_i trivial
        · refine go_lo (lo' := [(3, .int (nI i)), (2, .int (nI b_5)), (0, .ref (a 5)), (1, .int cu)]) [0, 1, 2, 3] (by rw [hx_4]; rfl) ?_
          have hlt : b_5 < 40 := by have := mnTo_lt hx_4; omega
          refine go_iload_n C 1 dX2_nextFor_30 rfl rfl ?_
          refine go_iconst C (v := (-1)) dX2_nextFor_31 (by decide) ?_
          refine go_icmp_eq C (tgt := 67) dX2_nextFor_32 (by decide) (fun c_8 => absurd c_8 (nI_neg1 hlt)) (fun c_8 => ?_)
          refine go_aload_n C 2 dX2_nextFor_35 rfl rfl ?_
          refine gm_partsAhead C dX2_nextFor_36 ?_
          refine go_iload_n C 0 dX2_nextFor_39 rfl rfl ?_
          refine lm_partsAhead C (nI_vin (Nat.lt_of_lt_of_le hi_i hb)) dX2_nextFor_40 ?_
          rw [cl_nI (i := i) (by have := hi_i; omega)]
          refine go_aload_n C 2 dX2_nextFor_41 rfl rfl ?_
          refine gm_principalsAhead C dX2_nextFor_42 ?_
          refine go_iload_n C 1 dX2_nextFor_45 rfl rfl ?_
          refine lm_principalsAhead C (nI_vin hlt) dX2_nextFor_46 ?_
          rw [cl_nI (i := b_5) (by omega)]
          refine go_i2l C dX2_nextFor_47 ?_
          refine go_lmul C dX2_nextFor_48 ?_
          refine go_aload_n C 2 dX2_nextFor_49 rfl rfl ?_
          refine gm_partsAhead C dX2_nextFor_50 ?_
          refine go_iload_n C 1 dX2_nextFor_53 rfl rfl ?_
          refine lm_partsAhead C (nI_vin hlt) dX2_nextFor_54 ?_
          rw [cl_nI (i := b_5) (by omega)]
          refine go_aload_n C 2 dX2_nextFor_55 rfl rfl ?_
          refine gm_principalsAhead C dX2_nextFor_56 ?_
          refine go_iload_n C 0 dX2_nextFor_59 rfl rfl ?_
          refine lm_principalsAhead C (nI_vin (Nat.lt_of_lt_of_le hi_i hb)) dX2_nextFor_60 ?_
          rw [cl_nI (i := i) (by have := hi_i; omega)]
          refine go_i2l C dX2_nextFor_61 ?_
          refine go_lmul C dX2_nextFor_62 ?_
          refine go_lcmp C dX2_nextFor_63 ?_
          refine go_if_gt C (tgt := 71) dX2_nextFor_64 (by decide) (fun c_9 => ?_) (fun c_9 => ?_)
          · refine go_iconst C (v := 0) dX2_nextFor_71 (by decide) ?_
            refine go_istore C (lo' := [(4, .int 0), (3, .int (nI i)), (2, .int (nI b_5)), (0, .ref (a 5)), (1, .int cu)]) dX2_nextFor_72 (by decide) rfl ?_
            refine go_iload C 0 dX2_nextFor_74 rfl ?_
            refine go_if_eq C (tgt := 83) dX2_nextFor_76 (by decide) (fun c_10 => ?_) (fun c_10 => absurd c_10 (by decide))
            refine go_iload_n C 2 dX2_nextFor_83 rfl rfl ?_
            refine go_istore_n C (lo' := [(2, .int (nI b_5)), (4, .int 0), (3, .int (nI i)), (0, .ref (a 5)), (1, .int cu)]) dX2_nextFor_84 rfl (by decide) rfl ?_
            refine go_iinc C (v := nI (i + 1)) (lo' := [(3, .int (nI (i + 1))), (2, .int (nI b_5)), (4, .int 0), (0, .ref (a 5)), (1, .int cu)]) 2 dX2_nextFor_85 rfl (nI_1 _) (by decide) rfl ?_
            refine go_goto C (tgt := 4) dX2_nextFor_88 (by decide) ?_
            refine go_lo (lo' := [(3, .int (nI (i + 1))), (2, .int (oI (mnTo M cu (i + 1)))), (0, .ref (a 5)), (1, .int cu)]) [0, 1, 3, 4] (by rw [mn_3 c_2 c_3 hx_4 c_9]; rfl) ?_
            exact ih_i trivial
          · refine go_iconst C (v := 1) dX2_nextFor_67 (by decide) ?_
            refine go_goto C (tgt := 72) dX2_nextFor_68 (by decide) ?_
            refine go_istore C (lo' := [(4, .int 1), (3, .int (nI i)), (2, .int (nI b_5)), (0, .ref (a 5)), (1, .int cu)]) dX2_nextFor_72 (by decide) rfl ?_
            refine go_iload C 0 dX2_nextFor_74 rfl ?_
            refine go_if_eq C (tgt := 83) dX2_nextFor_76 (by decide) (fun c_11 => absurd c_11 (by decide)) (fun c_11 => ?_)
            refine go_iload_n C 1 dX2_nextFor_79 rfl rfl ?_
            refine go_goto C (tgt := 84) dX2_nextFor_80 (by decide) ?_
            refine go_istore_n C (lo' := [(2, .int (nI i)), (4, .int 1), (3, .int (nI i)), (0, .ref (a 5)), (1, .int cu)]) dX2_nextFor_84 rfl (by decide) rfl ?_
            refine go_iinc C (v := nI (i + 1)) (lo' := [(3, .int (nI (i + 1))), (2, .int (nI i)), (4, .int 1), (0, .ref (a 5)), (1, .int cu)]) 2 dX2_nextFor_85 rfl (nI_1 _) (by decide) rfl ?_
            refine go_goto C (tgt := 4) dX2_nextFor_88 (by decide) ?_
            refine go_lo (lo' := [(3, .int (nI (i + 1))), (2, .int (oI (mnTo M cu (i + 1)))), (0, .ref (a 5)), (1, .int cu)]) [0, 1, 3, 4] (by rw [mn_4 c_2 c_3 hx_4 c_9]; rfl) ?_
            exact ih_i trivial
  · refine go_iload_n C 0 dX2_nextFor_4 rfl rfl ?_
    refine go_aload_n C 2 dX2_nextFor_5 rfl rfl ?_
    refine gm_lotMany C dX2_nextFor_6 ?_
    refine go_icmp_ge C (tgt := 91) dX2_nextFor_9 (by decide) (fun c_12 => ?_) (fun c_12 => absurd (nI_ger hb) c_12)
    refine go_iload_n C 1 dX2_nextFor_91 rfl rfl ?_
    exact go_ireturn C rfl dX2_nextFor_92 (by decide) (by decide) ⟨rfl, rfl⟩
theorem k_RX2_139 {p : Program} {l : Launch} {e : Env} {R : Room} {s : State} {m : MethodId} {args : Array Value} {below : List Frame} {meth : Method} {c : Code} {D : va_G} {N0 mL : Nat} {cc : ByteArray} {nm : String} {ret : Option FieldType} {Q : State → Prop} {k n pc : Nat} {lo : List (Nat × Value)} {st : List Value} {cI cJ cZ cO : ClassId} {a : Nat → Nat} (C : Cxt p s m args meth c D (tysW cI cJ cZ cO) N0 cc mL RX2 ret nm) (S : CS) (M : MS) (ov : Nat → Int64) (cu : Int32) (hb : ms_n M ≤ 40) (hR : 1 + 1 ≤ R.frames ∧ 8 + (5 + 11) + 22 ≤ R.locals) (hcs : k + 0 ≤ R.cells ∧ n + 0 ≤ R.slots) (hcat : (st.map fun v => v.category).sum ≤ 8) (dk : decode cc pc = .ok (.invokevirtual 139, 3)) (g : Go p l e R s m args below meth c D N0 mL Q (wW cI cJ cZ cO a S M ov) (k) (n) (pc + 3) lo (.int (oI (mnTo M cu (ms_n M))) :: st)) : Go p l e R s m args below meth c D N0 mL Q (wW cI cJ cZ cO a S M ov) k n pc lo (.int cu :: .ref (a 5) :: st) :=
  go_callV C (ci := 2) (r9 := (RX2, TX2, 23)) (qi := 5) (As := [.int cu]) (rest := st) rfl rfl (c_X2_nextFor l D cI cJ cZ cO N0 a S M ov cu hb) ⟨rfl, by decide +kernel, by decide +kernel⟩ bl_RX2_139 bi_yX2_nextFor bs_yX2_nextFor bz_NoticeBookModel bc_yX2_nextFor (show Option.map (fun d => d.parameters.length) (parseMethodDescriptor yX2_nextFor.desc) = some 1 by decide +kernel) hR hcs hcat dk (fun r w2 h => by obtain ⟨rfl, rfl⟩ := h; exact g) rfl
