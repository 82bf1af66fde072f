set_option maxHeartbeats 4000000 in
set_option maxRecDepth 100000 in
theorem c_X1_lotAt (l : Launch) (D : va_G) (cI cJ cO : ClassId) (N0 : Nat) (a : Nat → Nat) (S : CS) (M : LWS) (ov : va_W) (z : Int32) (hok : okX S) : Ct l D (tysW cI cJ cO) N0 yX1_lotAt cX1_lotAt 3 (some (.object "NoticeBook$Lot")) { frames := 0, cells := 0, slots := 0, locals := 0 } [.ref (a 0), .int z] (wW cI cJ cO a S M ov) (fun r w2 => r = some (va_rf ((xAt S z).map (cs_la S))) ∧ w2 = wW cI cJ cO a S M ov) := by
  refine ct_of (by decide +kernel) (Nat.le_of_ble_eq_true rfl) ?_
  intro p e s m args below meth c C
  have C : Cxt p s m args meth c D (tysW cI cJ cO) N0 cX1_lotAt 3 RX1 (some (.object "NoticeBook$Lot")) "lotAt" := C
  refine go_iload_n C 1 dX1_lotAt_0 rfl rfl ?_
  refine go_if_lt C (tgt := 13) dX1_lotAt_1 (by decide) (fun c_1 => ?_) (fun c_1 => ?_)
  · refine go_null C dX1_lotAt_13 ?_
    exact go_areturnq C (x := none) rfl dX1_lotAt_14 (by decide) (by decide) ⟨by simp only [xAt, if_pos c_1] <;> rfl, rfl⟩
  · refine go_iload_n C 1 dX1_lotAt_4 rfl rfl ?_
    refine go_aload_n C 0 dX1_lotAt_5 rfl rfl ?_
    refine gx_book C dX1_lotAt_6 ?_
    refine nx_bk C dX1_lotAt_9 ?_
    refine go_icmp_lt C (tgt := 15) dX1_lotAt_10 (by decide) (fun c_2 => ?_) (fun c_2 => ?_)
    · refine go_aload_n C 0 dX1_lotAt_15 rfl rfl ?_
      refine gx_book C dX1_lotAt_16 ?_
      refine go_iload_n C 1 dX1_lotAt_19 rfl rfl ?_
      refine lx_bk C (vin_lt (n := 40) c_1 c_2 (by decide)) dX1_lotAt_20 ?_
      rcases Nat.lt_or_ge z.toNatClampNeg (cs_n S) with hn | hn
      · refine go_st (st2 := [.ref (cs_la S z.toNatClampNeg)]) (by rw [hok.2.2.1 _ hn]; rfl) ?_
        refine go_astore_n C (lo' := [(2, .ref (cs_la S z.toNatClampNeg)), (0, .ref (a 0)), (1, .int z)]) dX1_lotAt_21 rfl (by decide) rfl ?_
        refine go_aload_n C 0 dX1_lotAt_22 rfl rfl ?_
        refine go_ifnull C dX1_lotAt_23 ?_
        refine go_aload_n C 0 dX1_lotAt_26 rfl rfl ?_
        refine gl_principal C (S := S) (i := z.toNatClampNeg) (Nat.lt_of_lt_of_le hn hok.2.1) dX1_lotAt_27 ?_
        refine go_if_le C (tgt := 37) dX1_lotAt_30 (by decide) (fun c_3 => ?_) (fun c_3 => ?_)
        · refine go_null C dX1_lotAt_37 ?_
          exact go_areturnq C (x := none) rfl dX1_lotAt_38 (by decide) (by decide) ⟨by simp only [xAt, if_neg c_1, if_pos c_2, if_pos c_3, if_pos hn] <;> rfl, rfl⟩
        · refine go_aload_n C 0 dX1_lotAt_33 rfl rfl ?_
          refine go_goto C (tgt := 38) dX1_lotAt_34 (by decide) ?_
          exact go_areturnq C (x := (some (cs_la S z.toNatClampNeg))) rfl dX1_lotAt_38 (by decide) (by decide) ⟨by simp only [xAt, if_neg c_1, if_pos c_2, if_neg c_3, if_pos hn] <;> rfl, rfl⟩
      · refine go_st (st2 := [.null]) (by rw [hok.2.2.2 _ (vin_cl c_1 c_2) hn]; rfl) ?_
        refine go_astore_nq C (x := none) (lo' := [(2, .null), (0, .ref (a 0)), (1, .int z)]) dX1_lotAt_21 rfl (by decide) rfl ?_
        refine go_aload_nq C (x := none) 0 dX1_lotAt_22 rfl rfl ?_
        refine go_ifnullN C (tgt := 37) dX1_lotAt_23 (by decide) ?_
        refine go_null C dX1_lotAt_37 ?_
        exact go_areturnq C (x := none) rfl dX1_lotAt_38 (by decide) (by decide) ⟨by simp only [xAt, if_neg c_1, if_pos c_2, if_neg (Nat.not_lt.mpr hn)] <;> rfl, rfl⟩
    · refine go_null C dX1_lotAt_13 ?_
      exact go_areturnq C (x := none) rfl dX1_lotAt_14 (by decide) (by decide) ⟨by simp only [xAt, if_neg c_1, if_neg c_2] <;> rfl, rfl⟩
theorem k_RX1_164 {p : Program} {l : Launch} {e : Env} {R : Room} {s : State} {m : MethodId} {args : Array Value} {below : List Frame} {meth : Method} {c : Code} {D : va_G} {N0 mL : Nat} {cc : ByteArray} {nm : String} {ret : Option FieldType} {Q : State → Prop} {k n pc : Nat} {lo : List (Nat × Value)} {st : List Value} {cI cJ cO : ClassId} {a : Nat → Nat} (C : Cxt p s m args meth c D (tysW cI cJ cO) N0 cc mL RX1 ret nm) (S : CS) (M : LWS) (ov : va_W) (z : Int32) (hok : okX S) (hR : 0 + 1 ≤ R.frames ∧ 8 + (3 + 11) + 0 ≤ R.locals) (hcs : k + 0 ≤ R.cells ∧ n + 0 ≤ R.slots) (hcat : (st.map fun v => v.category).sum ≤ 8) (dk : decode cc pc = .ok (.invokevirtual 164, 3)) (g : Go p l e R s m args below meth c D N0 mL Q (wW cI cJ cO a S M ov) (k) (n) (pc + 3) lo (va_rf ((xAt S z).map (cs_la S)) :: st)) : Go p l e R s m args below meth c D N0 mL Q (wW cI cJ cO a S M ov) k n pc lo (.int z :: .ref (a 0) :: st) :=
  go_callV C (ci := 1) (r9 := (RX1, TX1, 8)) (qi := 0) (As := [.int z]) (rest := st) rfl rfl (c_X1_lotAt l D cI cJ cO N0 a S M ov z hok) ⟨rfl, by decide +kernel, by decide +kernel⟩ bl_RX1_164 bi_yX1_lotAt bs_yX1_lotAt bz_NoticeBook bc_yX1_lotAt (show Option.map (fun d => d.parameters.length) (parseMethodDescriptor yX1_lotAt.desc) = some 1 by decide +kernel) hR hcs hcat dk (fun r w2 h => by obtain ⟨rfl, rfl⟩ := h; exact g) rfl
set_option maxHeartbeats 4000000 in
set_option maxRecDepth 100000 in
theorem c_X1_noticeLotAt (l : Launch) (D : va_G) (cI cJ cO : ClassId) (N0 : Nat) (a : Nat → Nat) (S : CS) (M : LWS) (ov : va_W) (z cu : Int32) (hok : okX S) : Ct l D (tysW cI cJ cO) N0 yX1_noticeLotAt cX1_noticeLotAt 4 (some (.object "NoticeBook$Lot")) { frames := 1, cells := 0, slots := 0, locals := 22 } [.ref (a 0), .int z, .int cu] (wW cI cJ cO a S M ov) (fun r w2 => r = some (va_rf ((xN S z cu).map (cs_la S))) ∧ w2 = wW cI cJ cO a S M ov) := by
  refine ct_of (by decide +kernel) (Nat.le_of_ble_eq_true rfl) ?_
  intro p e s m args below meth c C
  have C : Cxt p s m args meth c D (tysW cI cJ cO) N0 cX1_noticeLotAt 4 RX1 (some (.object "NoticeBook$Lot")) "noticeLotAt" := C
  refine go_aload_n C 0 dX1_noticeLotAt_0 rfl rfl ?_
  refine go_iload_n C 1 dX1_noticeLotAt_1 rfl rfl ?_
  refine k_RX1_164 C S M ov z hok ⟨(Nat.le_of_ble_eq_true rfl), (Nat.le_of_ble_eq_true rfl)⟩ ⟨(Nat.le_of_ble_eq_true rfl), (Nat.le_of_ble_eq_true rfl)⟩ (Nat.le_of_ble_eq_true rfl) dX1_noticeLotAt_2 ?_
  rcases opt_c (xAt S z) with hx_1 | ⟨j_2, hx_1⟩
  · refine go_st (st2 := [.null]) (by rw [hx_1]; rfl) ?_
    refine go_astore_nq C (x := none) (lo' := [(3, .null), (0, .ref (a 0)), (1, .int z), (2, .int cu)]) dX1_noticeLotAt_5 rfl (by decide) rfl ?_
    refine go_aload_nq C (x := none) 0 dX1_noticeLotAt_6 rfl rfl ?_
    refine go_ifnullN C (tgt := 29) dX1_noticeLotAt_7 (by decide) ?_
    refine go_null C dX1_noticeLotAt_29 ?_
    exact go_areturnq C (x := none) rfl dX1_noticeLotAt_30 (by decide) (by decide) ⟨by simp only [xN, hx_1] <;> rfl, rfl⟩
  · refine go_st (st2 := [.ref (cs_la S j_2)]) (by rw [hx_1]; rfl) ?_
    refine go_astore_n C (lo' := [(3, .ref (cs_la S j_2)), (0, .ref (a 0)), (1, .int z), (2, .int cu)]) dX1_noticeLotAt_5 rfl (by decide) rfl ?_
    refine go_aload_n C 0 dX1_noticeLotAt_6 rfl rfl ?_
    refine go_ifnull C dX1_noticeLotAt_7 ?_
    refine go_aload_n C 0 dX1_noticeLotAt_10 rfl rfl ?_
    refine k_RX1_76 C S M ov j_2 (xAt_nc hok hx_1) ⟨(Nat.le_of_ble_eq_true rfl), (Nat.le_of_ble_eq_true rfl)⟩ ⟨(Nat.le_of_ble_eq_true rfl), (Nat.le_of_ble_eq_true rfl)⟩ (Nat.le_of_ble_eq_true rfl) dX1_noticeLotAt_11 ?_
    refine go_if_ne C (tgt := 29) dX1_noticeLotAt_14 (by decide) (fun c_3 => ?_) (fun c_3 => ?_)
    · refine go_null C dX1_noticeLotAt_29 ?_
      exact go_areturnq C (x := none) rfl dX1_noticeLotAt_30 (by decide) (by decide) ⟨by simp only [xN, hx_1, if_neg c_3] <;> rfl, rfl⟩
    · refine go_aload_n C 0 dX1_noticeLotAt_17 rfl rfl ?_
      refine gl_customer C (S := S) (i := j_2) (xAt_nc hok hx_1) dX1_noticeLotAt_18 ?_
      refine go_iload_n C 3 dX1_noticeLotAt_21 rfl rfl ?_
      refine go_icmp_ne C (tgt := 29) dX1_noticeLotAt_22 (by decide) (fun c_4 => ?_) (fun c_4 => ?_)
      · refine go_null C dX1_noticeLotAt_29 ?_
        exact go_areturnq C (x := none) rfl dX1_noticeLotAt_30 (by decide) (by decide) ⟨by simp only [xN, hx_1, if_pos c_3, if_neg c_4] <;> rfl, rfl⟩
      · refine go_aload_n C 0 dX1_noticeLotAt_25 rfl rfl ?_
        refine go_goto C (tgt := 30) dX1_noticeLotAt_26 (by decide) ?_
        exact go_areturnq C (x := (some (cs_la S j_2))) rfl dX1_noticeLotAt_30 (by decide) (by decide) ⟨by simp only [xN, hx_1, if_pos c_3, if_pos c_4] <;> rfl, rfl⟩
theorem k_RX1_190 {p : Program} {l : Launch} {e : Env} {R : Room} {s : State} {m : MethodId} {args : Array Value} {below : List Frame} {meth : Method} {c : Code} {D : va_G} {N0 mL : Nat} {cc : ByteArray} {nm : String} {ret : Option FieldType} {Q : State → Prop} {k n pc : Nat} {lo : List (Nat × Value)} {st : List Value} {cI cJ cO : ClassId} {a : Nat → Nat} (C : Cxt p s m args meth c D (tysW cI cJ cO) N0 cc mL RX1 ret nm) (S : CS) (M : LWS) (ov : va_W) (z cu : Int32) (hok : okX S) (hR : 1 + 1 ≤ R.frames ∧ 8 + (4 + 11) + 22 ≤ R.locals) (hcs : k + 0 ≤ R.cells ∧ n + 0 ≤ R.slots) (hcat : (st.map fun v => v.category).sum ≤ 8) (dk : decode cc pc = .ok (.invokevirtual 190, 3)) (g : Go p l e R s m args below meth c D N0 mL Q (wW cI cJ cO a S M ov) (k) (n) (pc + 3) lo (va_rf ((xN S z cu).map (cs_la S)) :: st)) : Go p l e R s m args below meth c D N0 mL Q (wW cI cJ cO a S M ov) k n pc lo (.int cu :: .int z :: .ref (a 0) :: st) :=
  go_callV C (ci := 1) (r9 := (RX1, TX1, 8)) (qi := 0) (As := [.int z, .int cu]) (rest := st) rfl rfl (c_X1_noticeLotAt l D cI cJ cO N0 a S M ov z cu hok) ⟨rfl, by decide +kernel, by decide +kernel⟩ bl_RX1_190 bi_yX1_noticeLotAt bs_yX1_noticeLotAt bz_NoticeBook bc_yX1_noticeLotAt (show Option.map (fun d => d.parameters.length) (parseMethodDescriptor yX1_noticeLotAt.desc) = some 2 by decide +kernel) hR hcs hcat dk (fun r w2 h => by obtain ⟨rfl, rfl⟩ := h; exact g) rfl
set_option maxHeartbeats 4000000 in
set_option maxRecDepth 100000 in
theorem c_X1_demandLot (l : Launch) (hlf : l.stackTraces = false) (D : va_G) (cI cJ cO : ClassId) (N0 : Nat) (a : Nat → Nat) (S : CS) (M : LWS) (ov : va_W) (z : Int32) (hok : okX S) : CtX l D (tysW cI cJ cO) N0 yX1_demandLot cX1_demandLot 3 (some (.object "NoticeBook$Lot")) { frames := 6, cells := 1, slots := 6, locals := 82 } [.ref (a 0), .int z] (wW cI cJ cO a S M ov) (fun r w2 => ∃ j : Nat, xAt S z = some j ∧ r = some (.ref (cs_la S j)) ∧ w2 = wW cI cJ cO a S M ov) (fun E w2 => (E = nb_I ∧ xAt S z = none) ∧ w2 = wW cI cJ cO a S M ov) := by
  refine ctx_of (by decide +kernel) (Nat.le_of_ble_eq_true rfl) ?_
  intro p e s m args below meth c C ht
  have C : Cxt p s m args meth c D (tysW cI cJ cO) N0 cX1_demandLot 3 RX1 (some (.object "NoticeBook$Lot")) "demandLot" := C
  refine go_aload_n C 0 dX1_demandLot_0 rfl rfl ?_
  refine go_iload_n C 1 dX1_demandLot_1 rfl rfl ?_
  refine k_RX1_164 C S M ov z hok ⟨(Nat.le_of_ble_eq_true rfl), (Nat.le_of_ble_eq_true rfl)⟩ ⟨(Nat.le_of_ble_eq_true rfl), (Nat.le_of_ble_eq_true rfl)⟩ (Nat.le_of_ble_eq_true rfl) dX1_demandLot_2 ?_
  rcases opt_c (xAt S z) with hx_1 | ⟨j_2, hx_1⟩
  · refine go_st (st2 := [.null]) (by rw [hx_1]; rfl) ?_
    refine go_astore_nq C (x := none) (lo' := [(2, .null), (0, .ref (a 0)), (1, .int z)]) dX1_demandLot_5 rfl (by decide) rfl ?_
    refine go_aload_nq C (x := none) 0 dX1_demandLot_6 rfl rfl ?_
    refine go_ifnonnullN C dX1_demandLot_7 ?_
    exact go_throw C hlf ht (names := nb_names) (text := "no such lot") rfl mem_I fit_nb_I nb_names_fit bcl_RX1_40 bz_IndexOutOfBoundsException (List.mem_of_getElem? (i := 5) rfl) hat_nb_I_44 hat2_nb_I_44 hgood_nb_I_40_44 dX1_demandLot_10 dX1_demandLot_13 dX1_demandLot_14 dX1_demandLot_16 dX1_demandLot_19 (by decide) (by decide) (by decide) (by decide) ⟨⟨rfl, hx_1⟩, rfl⟩ (by decide) (by decide)
  · refine go_st (st2 := [.ref (cs_la S j_2)]) (by rw [hx_1]; rfl) ?_
    refine go_astore_n C (lo' := [(2, .ref (cs_la S j_2)), (0, .ref (a 0)), (1, .int z)]) dX1_demandLot_5 rfl (by decide) rfl ?_
    refine go_aload_n C 0 dX1_demandLot_6 rfl rfl ?_
    refine go_ifnonnull C (tgt := 20) dX1_demandLot_7 (by decide) ?_
    refine go_aload_n C 0 dX1_demandLot_20 rfl rfl ?_
    exact go_x (go_areturnq C (x := (some (cs_la S j_2))) rfl dX1_demandLot_21 (by decide) (by decide) ⟨_, hx_1, rfl, rfl⟩)
theorem k_RX1_69 {p : Program} {l : Launch} {e : Env} {R : Room} {s : State} {m : MethodId} {args : Array Value} {below : List Frame} {meth : Method} {c : Code} {D : va_G} {N0 mL : Nat} {cc : ByteArray} {nm : String} {ret : Option FieldType} {Q : State → Prop} {k n pc : Nat} {lo : List (Nat × Value)} {st : List Value} {cI cJ cO : ClassId} {a : Nat → Nat} (C : Cxt p s m args meth c D (tysW cI cJ cO) N0 cc mL RX1 ret nm) (hlf : l.stackTraces = false) (S : CS) (M : LWS) (ov : va_W) (z : Int32) (hok : okX S) (hR : 6 + 1 ≤ R.frames ∧ 8 + (3 + 11) + 82 ≤ R.locals) (hcs : k + 1 ≤ R.cells ∧ n + 6 ≤ R.slots) (hcat : (st.map fun v => v.category).sum ≤ 8) (dk : decode cc pc = .ok (.invokevirtual 69, 3)) (gx : ∀ E : String, (E = nb_I ∧ xAt S z = none) → GoX p l e R s m args below meth c D N0 mL Q (wW cI cJ cO a S M ov) (k + 1) (n + 6) pc lo E) (g : ∀ j : Nat, xAt S z = some j → Go p l e R s m args below meth c D N0 mL Q (wW cI cJ cO a S M ov) (k + 1) (n + 6) (pc + 3) lo (.ref (cs_la S j) :: st)) : Go p l e R s m args below meth c D N0 mL Q (wW cI cJ cO a S M ov) k n pc lo (.int z :: .ref (a 0) :: st) :=
  go_callVX C (ci := 1) (r9 := (RX1, TX1, 8)) (qi := 0) (As := [.int z]) (rest := st) rfl rfl (c_X1_demandLot l hlf D cI cJ cO N0 a S M ov z hok) ⟨rfl, by decide +kernel, by decide +kernel⟩ bl_RX1_69 bi_yX1_demandLot bs_yX1_demandLot bz_NoticeBook bc_yX1_demandLot (show Option.map (fun d => d.parameters.length) (parseMethodDescriptor yX1_demandLot.desc) = some 1 by decide +kernel) hR hcs hcat dk (fun E w2 h => by obtain ⟨h9, rfl⟩ := h; exact gx E h9) (fun r w2 h => by obtain ⟨j, h9, rfl, rfl⟩ := h; exact g j h9) rfl
set_option maxHeartbeats 4000000 in
set_option maxRecDepth 100000 in
theorem c_X1_demandNotice (l : Launch) (hlf : l.stackTraces = false) (D : va_G) (cI cJ cO : ClassId) (N0 : Nat) (a : Nat → Nat) (S : CS) (M : LWS) (ov : va_W) (z : Int32) (hok : okX S) : CtX l D (tysW cI cJ cO) N0 yX1_demandNotice cX1_demandNotice 3 (some (.object "NoticeBook$Lot")) { frames := 7, cells := 2, slots := 12, locals := 104 } [.ref (a 0), .int z] (wW cI cJ cO a S M ov) (fun r w2 => ∃ j : Nat, xO S z = some j ∧ r = some (.ref (cs_la S j)) ∧ w2 = wW cI cJ cO a S M ov) (fun E w2 => ((E = nb_I ∧ xAt S z = none) ∨ (E = nb_S ∧ ∃ j, xAt S z = some j ∧ lr_fz (cs_lt S j) = 0)) ∧ w2 = wW cI cJ cO a S M ov) := by
  refine ctx_of (by decide +kernel) (Nat.le_of_ble_eq_true rfl) ?_
  intro p e s m args below meth c C ht
  have C : Cxt p s m args meth c D (tysW cI cJ cO) N0 cX1_demandNotice 3 RX1 (some (.object "NoticeBook$Lot")) "demandNotice" := C
  refine go_aload_n C 0 dX1_demandNotice_0 rfl rfl ?_
  refine go_iload_n C 1 dX1_demandNotice_1 rfl rfl ?_
  refine k_RX1_69 C hlf S M ov z hok ⟨(Nat.le_of_ble_eq_true rfl), (Nat.le_of_ble_eq_true rfl)⟩ ⟨(Nat.le_of_ble_eq_true rfl), (Nat.le_of_ble_eq_true rfl)⟩ (Nat.le_of_ble_eq_true rfl) dX1_demandNotice_2 (fun E hE_1 => gox_out C ht (⟨Or.inl hE_1, rfl⟩) (by decide) (by decide)) (fun j_2 h_3 => ?_)
  refine go_astore_n C (lo' := [(2, .ref (cs_la S j_2)), (0, .ref (a 0)), (1, .int z)]) dX1_demandNotice_5 rfl (by decide) rfl ?_
  refine go_aload_n C 0 dX1_demandNotice_6 rfl rfl ?_
  refine gl_frozenCents C (S := S) (i := j_2) (xAt_nc hok h_3) dX1_demandNotice_7 ?_
  refine go_if_ne C (tgt := 23) dX1_demandNotice_10 (by decide) (fun c_4 => ?_) (fun c_4 => ?_)
  · refine go_aload_n C 0 dX1_demandNotice_23 rfl rfl ?_
    exact go_x (go_areturnq C (x := (some (cs_la S j_2))) rfl dX1_demandNotice_24 (by decide) (by decide) ⟨_, by simp only [xO, h_3, if_neg c_4], rfl, rfl⟩)
  · exact go_throw C hlf ht (names := nb_names) (text := "no notice") rfl mem_S fit_nb_S nb_names_fit bcl_RX1_83 bz_IllegalStateException (List.mem_of_getElem? (i := 7) rfl) hat_nb_S_87 hat2_nb_S_87 hgood_nb_S_83_87 dX1_demandNotice_13 dX1_demandNotice_16 dX1_demandNotice_17 dX1_demandNotice_19 dX1_demandNotice_22 (by decide) (by decide) (by decide) (by decide) ⟨Or.inr ⟨rfl, _, h_3, c_4⟩, rfl⟩ (by decide) (by decide)
theorem k_RX1_91 {p : Program} {l : Launch} {e : Env} {R : Room} {s : State} {m : MethodId} {args : Array Value} {below : List Frame} {meth : Method} {c : Code} {D : va_G} {N0 mL : Nat} {cc : ByteArray} {nm : String} {ret : Option FieldType} {Q : State → Prop} {k n pc : Nat} {lo : List (Nat × Value)} {st : List Value} {cI cJ cO : ClassId} {a : Nat → Nat} (C : Cxt p s m args meth c D (tysW cI cJ cO) N0 cc mL RX1 ret nm) (hlf : l.stackTraces = false) (S : CS) (M : LWS) (ov : va_W) (z : Int32) (hok : okX S) (hR : 7 + 1 ≤ R.frames ∧ 8 + (3 + 11) + 104 ≤ R.locals) (hcs : k + 2 ≤ R.cells ∧ n + 12 ≤ R.slots) (hcat : (st.map fun v => v.category).sum ≤ 8) (dk : decode cc pc = .ok (.invokevirtual 91, 3)) (gx : ∀ E : String, ((E = nb_I ∧ xAt S z = none) ∨ (E = nb_S ∧ ∃ j, xAt S z = some j ∧ lr_fz (cs_lt S j) = 0)) → GoX p l e R s m args below meth c D N0 mL Q (wW cI cJ cO a S M ov) (k + 2) (n + 12) pc lo E) (g : ∀ j : Nat, xO S z = some j → Go p l e R s m args below meth c D N0 mL Q (wW cI cJ cO a S M ov) (k + 2) (n + 12) (pc + 3) lo (.ref (cs_la S j) :: st)) : Go p l e R s m args below meth c D N0 mL Q (wW cI cJ cO a S M ov) k n pc lo (.int z :: .ref (a 0) :: st) :=
  go_callVX C (ci := 1) (r9 := (RX1, TX1, 8)) (qi := 0) (As := [.int z]) (rest := st) rfl rfl (c_X1_demandNotice l hlf D cI cJ cO N0 a S M ov z hok) ⟨rfl, by decide +kernel, by decide +kernel⟩ bl_RX1_91 bi_yX1_demandNotice bs_yX1_demandNotice bz_NoticeBook bc_yX1_demandNotice (show Option.map (fun d => d.parameters.length) (parseMethodDescriptor yX1_demandNotice.desc) = some 1 by decide +kernel) hR hcs hcat dk (fun E w2 h => by obtain ⟨h9, rfl⟩ := h; exact gx E h9) (fun r w2 h => by obtain ⟨j, h9, rfl, rfl⟩ := h; exact g j h9) rfl
