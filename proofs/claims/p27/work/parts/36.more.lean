theorem va_rf_c (o : Option Nat) : (va_rf o).category = 1 := by cases o <;> rfl
theorem lhTo_nc {S : CS} (hok : okX S) {cu : Int32} {b : Nat} : ∀ {i : Nat}, lhTo S cu i = some b → b < cs_nc S
  | 0, h => by cases h
  | i + 1, h => by
    rcases opt_c (xN S (nI i) cu) with hx | ⟨j, hx⟩
    · rw [lhTo_n hx] at h; exact lhTo_nc hok h
    · by_cases c : unf (cs_lt S j) ≤ 0
      · rw [lhTo_s0 hx c] at h; exact lhTo_nc hok h
      · rcases opt_c (lhTo S cu i) with g | ⟨b2, g⟩
        · rw [lhTo_s1 hx c g] at h; cases h; exact xN_nc hok hx
        · by_cases k : hnm (cs_lt S j) (cs_lt S b2) = 0
          · rw [lhTo_s2 hx c g k] at h; cases h; exact lhTo_nc hok g
          · rw [lhTo_s3 hx c g k] at h; cases h; exact xN_nc hok hx
theorem bd1_pos {S : CS} {j : Nat} (c : cs_day S < lr_tf (cs_lt S j) + 7) : S = bd1 S j := by
  simp only [bd1, if_pos c] <;> rfl
theorem bd1_neg {S : CS} {j : Nat} (c : ¬ cs_day S < lr_tf (cs_lt S j) + 7) : cs_setLot S j (lr_set_fz (cs_lt S j) 0) = bd1 S j := by
  simp only [bd1, if_neg c] <;> rfl
theorem et1_eq (S : CS) (i : Nat) : cs_setLot (drwS S i) i (lr_set_pr (cs_lt (drwS S i) i) (lr_pr (cs_lt S i) + drwC (cs_lt S i))) = et1 S i := by
  show cs_setLot (cs_setLot S i (drwR (cs_lt S i))) i (lr_set_pr (cs_lt (cs_setLot S i (drwR (cs_lt S i))) i) (lr_pr (cs_lt S i) + drwC (cs_lt S i))) = _
  rw [setLot_two, setLot_lt]
  rfl
theorem nar_b {v : Int32} (h : v = 0 ∨ v = 1) : narrow .boolean (.int v) = .int v := by rcases h with rfl | rfl <;> rfl
theorem fit_b {v : Int32} (h : v = 0 ∨ v = 1) : fits .boolean (.int v) = true := by rcases h with rfl | rfl <;> rfl
theorem np_w {S : CS} {cu : Int32} {i j : Nat} (h : xN S (nI i) cu = some j) : cs_setLot (cs_set_lt S (npL S cu i)) j (lr_set_pa (cs_lt (cs_set_lt S (npL S cu i)) j) (poc (cs_set_lt S (npL S cu i)) (totTo S cu i) (totTo S cu i + lr_pr (cs_lt (cs_set_lt S (npL S cu i)) j)) (totTo S cu (cs_n S)))) = cs_set_lt S (npL S cu (i + 1)) := by
  have e : lr_pr (cs_lt (cs_set_lt S (npL S cu i)) j) = lr_pr (cs_lt S j) := pr_np j
  rw [e, npL_s h]
  rfl
theorem np_t {S : CS} {cu : Int32} {i j : Nat} (h : xN S (nI i) cu = some j) : totTo S cu i + lr_pr (cs_lt (cs_set_lt S (npL S cu i)) j) = totTo S cu (i + 1) := by
  have e : lr_pr (cs_lt (cs_set_lt S (npL S cu i)) j) = lr_pr (cs_lt S j) := pr_np j
  rw [e, totTo_s h]
theorem eo_w {S : CS} {i j : Nat} (h : xAt S (nI i) = some j) : cs_setLot (cs_set_lt S (eoL S i)) j (lr_set_ea (cs_lt (cs_set_lt S (eoL S i)) j) (lr_ea (cs_lt (cs_set_lt S (eoL S i)) j) + lr_pa (cs_lt (cs_set_lt S (eoL S i)) j))) = cs_set_lt S (eoL S (i + 1)) := by
  rw [eoL_s h]
theorem bd_w1 {S : CS} {i j : Nat} (h : xAt (bdTo S i).2 (nI i) = some j) (c : lr_en (cs_lt (bd1 (bdTo S i).2 j) j) = cs_day (bd1 (bdTo S i).2 j)) : etX (bd1 (bdTo S i).2 j) j = (bdTo S (i + 1)).2 ∧ (bdTo S i).1 + 1 = (bdTo S (i + 1)).1 := by
  rw [bdTo_s h]
  refine ⟨?_, by rw [if_pos c]⟩
  show _ = bdS1 (bdTo S i).2 j
  rw [bdS1, mixS_pos c rfl]
theorem bd_w2 {S : CS} {i j : Nat} (h : xAt (bdTo S i).2 (nI i) = some j) (c : ¬ lr_en (cs_lt (bd1 (bdTo S i).2 j) j) = cs_day (bd1 (bdTo S i).2 j)) : bd1 (bdTo S i).2 j = (bdTo S (i + 1)).2 ∧ (bdTo S i).1 = (bdTo S (i + 1)).1 := by
  rw [bdTo_s h]
  refine ⟨?_, by rw [if_neg c]⟩
  show _ = bdS1 (bdTo S i).2 j
  rw [bdS1, mixS_neg c rfl]
set_option maxHeartbeats 4000000 in
set_option maxRecDepth 100000 in
theorem c_X1_noteParts (l : Launch) (D : va_G) (cI cJ cO : ClassId) (N0 : Nat) (a : Nat → Nat) (S : CS) (M : LWS) (ov : va_W) (cu : Int32) (hok : okX S) : Ct l D (tysW cI cJ cO) N0 yX1_noteParts cX1_noteParts 7 none { frames := 3, cells := 0, slots := 0, locals := 69 } [.ref (a 0), .int cu] (wW cI cJ cO a S M ov) (fun r w2 => r = none ∧ w2 = wW cI cJ cO a (noteX S cu) M ov) := by
  refine ct_of (by decide +kernel) (Nat.le_of_ble_eq_true rfl) ?_
  intro p e s m args below meth c C
  have C : Cxt p s m args meth c D (tysW cI cJ cO) N0 cX1_noteParts 7 RX1 none "noteParts" := C
  refine go_aload_n C 0 dX1_noteParts_0 rfl rfl ?_
  refine go_iload_n C 1 dX1_noteParts_1 rfl rfl ?_
  refine k_RX1_173 C S M ov cu hok ⟨(Nat.le_of_ble_eq_true rfl), (Nat.le_of_ble_eq_true rfl)⟩ ⟨(Nat.le_of_ble_eq_true rfl), (Nat.le_of_ble_eq_true rfl)⟩ (Nat.le_of_ble_eq_true rfl) dX1_noteParts_2 ?_
  refine go_istore_n C (lo' := [(2, .int (totTo S cu (cs_n S))), (0, .ref (a 0)), (1, .int cu)]) dX1_noteParts_5 rfl (by decide) rfl ?_
  refine go_iconst C (v := 0) dX1_noteParts_6 (by decide) ?_
  refine go_istore_n C (lo' := [(3, .int 0), (2, .int (totTo S cu (cs_n S))), (0, .ref (a 0)), (1, .int cu)]) dX1_noteParts_7 rfl (by decide) rfl ?_
  refine go_iconst C (v := 0) dX1_noteParts_8 (by decide) ?_
  refine go_istore C (lo' := [(4, .int 0), (3, .int 0), (2, .int (totTo S cu (cs_n S))), (0, .ref (a 0)), (1, .int cu)]) dX1_noteParts_9 (by decide) rfl ?_
  refine go_for (cs_n S) (fun i => True) (fun i => wW cI cJ cO a (cs_set_lt S (npL S cu i)) M ov) (fun i => [(4, .int (nI i)), (3, .int (totTo S cu i)), (2, .int (totTo S cu (cs_n S))), (0, .ref (a 0)), (1, .int cu)]) ⟨rfl, rfl⟩ trivial (fun i hi_i hI_i ih_i => ?_) (fun hI_i => ?_)
  · refine go_iload C 0 dX1_noteParts_11 rfl ?_
    refine go_aload_n C 3 dX1_noteParts_13 rfl rfl ?_
    refine gx_lotsMade C dX1_noteParts_14 ?_
    refine go_icmp_ge C (tgt := 65) dX1_noteParts_17 (by decide) (fun c_1 => absurd c_1 (nI_nge hi_i hok.1)) (fun c_1 => ?_)
    refine go_aload_n C 3 dX1_noteParts_20 rfl rfl ?_
    refine go_iload C 0 dX1_noteParts_21 rfl ?_
    refine go_iload_n C 4 dX1_noteParts_23 rfl rfl ?_
    refine k_RX1_190 C (cs_set_lt S (npL S cu i)) M ov (nI i) cu hok ⟨(Nat.le_of_ble_eq_true rfl), (Nat.le_of_ble_eq_true rfl)⟩ ⟨(Nat.le_of_ble_eq_true rfl), (Nat.le_of_ble_eq_true rfl)⟩ (Nat.le_of_ble_eq_true rfl) dX1_noteParts_24 ?_
    rcases opt_c (xN S (nI i) cu) with hx_2 | ⟨j_3, hx_2⟩
    · refine go_st (st2 := [.null]) (by rw [xN_np, hx_2]; rfl) ?_
      refine go_astoreq C (x := none) (lo' := [(5, .null), (4, .int (nI i)), (3, .int (totTo S cu i)), (2, .int (totTo S cu (cs_n S))), (0, .ref (a 0)), (1, .int cu)]) dX1_noteParts_27 (by decide) rfl ?_
      refine go_aloadq C (x := none) 0 dX1_noteParts_29 rfl ?_
      refine go_ifnullN C (tgt := 59) dX1_noteParts_31 (by decide) ?_
      refine go_iinc C (v := nI (i + 1)) (lo' := [(4, .int (nI (i + 1))), (5, .null), (3, .int (totTo S cu i)), (2, .int (totTo S cu (cs_n S))), (0, .ref (a 0)), (1, .int cu)]) 1 dX1_noteParts_59 rfl (nI_1 _) (by decide) rfl ?_
      refine go_goto C (tgt := 11) dX1_noteParts_62 (by decide) ?_
      refine go_lo (lo' := [(4, .int (nI (i + 1))), (3, .int (totTo S cu (i + 1))), (2, .int (totTo S cu (cs_n S))), (0, .ref (a 0)), (1, .int cu)]) [0, 2, 3, 4, 5] (by rw [totTo_n hx_2]; rfl) ?_
      refine go_w (w2 := wW cI cJ cO a (cs_set_lt S (npL S cu (i + 1))) M ov) (by rw [npL_n hx_2]) ?_
      exact ih_i trivial
    · refine go_st (st2 := [.ref (cs_la S j_3)]) (by rw [xN_np, hx_2]; rfl) ?_
      refine go_astore C (lo' := [(5, .ref (cs_la S j_3)), (4, .int (nI i)), (3, .int (totTo S cu i)), (2, .int (totTo S cu (cs_n S))), (0, .ref (a 0)), (1, .int cu)]) dX1_noteParts_27 (by decide) rfl ?_
      refine go_aload C 0 dX1_noteParts_29 rfl ?_
      refine go_ifnull C dX1_noteParts_31 ?_
      refine go_iload_n C 2 dX1_noteParts_34 rfl rfl ?_
      refine go_aload C 0 dX1_noteParts_35 rfl ?_
      refine gl_principal C (S := cs_set_lt S (npL S cu i)) (i := j_3) (xN_nc hok hx_2) dX1_noteParts_37 ?_
      refine go_iadd C dX1_noteParts_40 ?_
      refine go_istore C (lo' := [(6, .int ((totTo S cu i) + (lr_pr (cs_lt (cs_set_lt S (npL S cu i)) j_3)))), (5, .ref (cs_la S j_3)), (4, .int (nI i)), (3, .int (totTo S cu i)), (2, .int (totTo S cu (cs_n S))), (0, .ref (a 0)), (1, .int cu)]) dX1_noteParts_41 (by decide) rfl ?_
      refine go_aload C 1 dX1_noteParts_43 rfl ?_
      refine go_aload_n C 5 dX1_noteParts_45 rfl rfl ?_
      refine go_iload_n C 3 dX1_noteParts_46 rfl rfl ?_
      refine go_iload C 0 dX1_noteParts_47 rfl ?_
      refine go_iload_n C 4 dX1_noteParts_49 rfl rfl ?_
      refine k_RX1_176 C (cs_set_lt S (npL S cu i)) M ov (totTo S cu i) ((totTo S cu i) + (lr_pr (cs_lt (cs_set_lt S (npL S cu i)) j_3))) (totTo S cu (cs_n S)) ⟨(Nat.le_of_ble_eq_true rfl), (Nat.le_of_ble_eq_true rfl)⟩ ⟨(Nat.le_of_ble_eq_true rfl), (Nat.le_of_ble_eq_true rfl)⟩ (Nat.le_of_ble_eq_true rfl) dX1_noteParts_50 ?_
      refine pl_parts C (S := cs_set_lt S (npL S cu i)) (i := j_3) (xN_nc hok hx_2) dX1_noteParts_53 ?_
      refine go_iload C 0 dX1_noteParts_56 rfl ?_
      refine go_istore_n C (lo' := [(3, .int ((totTo S cu i) + (lr_pr (cs_lt (cs_set_lt S (npL S cu i)) j_3)))), (6, .int ((totTo S cu i) + (lr_pr (cs_lt (cs_set_lt S (npL S cu i)) j_3)))), (5, .ref (cs_la S j_3)), (4, .int (nI i)), (2, .int (totTo S cu (cs_n S))), (0, .ref (a 0)), (1, .int cu)]) dX1_noteParts_58 rfl (by decide) rfl ?_
      refine go_iinc C (v := nI (i + 1)) (lo' := [(4, .int (nI (i + 1))), (3, .int ((totTo S cu i) + (lr_pr (cs_lt (cs_set_lt S (npL S cu i)) j_3)))), (6, .int ((totTo S cu i) + (lr_pr (cs_lt (cs_set_lt S (npL S cu i)) j_3)))), (5, .ref (cs_la S j_3)), (2, .int (totTo S cu (cs_n S))), (0, .ref (a 0)), (1, .int cu)]) 3 dX1_noteParts_59 rfl (nI_1 _) (by decide) rfl ?_
      refine go_goto C (tgt := 11) dX1_noteParts_62 (by decide) ?_
      refine go_lo (lo' := [(4, .int (nI (i + 1))), (3, .int (totTo S cu (i + 1))), (2, .int (totTo S cu (cs_n S))), (0, .ref (a 0)), (1, .int cu)]) [0, 1, 4, 5, 6] (by rw [← np_t hx_2]; rfl) ?_
      refine go_w (w2 := wW cI cJ cO a (cs_set_lt S (npL S cu (i + 1))) M ov) (by rw [← np_w hx_2]) ?_
      exact ih_i trivial
  · refine go_iload C 0 dX1_noteParts_11 rfl ?_
    refine go_aload_n C 3 dX1_noteParts_13 rfl rfl ?_
    refine gx_lotsMade C dX1_noteParts_14 ?_
    refine go_icmp_ge C (tgt := 65) dX1_noteParts_17 (by decide) (fun c_4 => ?_) (fun c_4 => absurd (nI_ger hok.1) c_4)
    exact go_return C rfl dX1_noteParts_65 (by decide) (by decide) ⟨rfl, rfl⟩
theorem k_RX1_107 {p : Program} {l : Launch} {e : Env} {R : Room} {s : State} {m : MethodId} {args : Array Value} {below : List Frame} {meth : Method} {c : Code} {D : va_G} {N0 mL : Nat} {cc : ByteArray} {nm : String} {ret : Option FieldType} {Q : State → Prop} {k n pc : Nat} {lo : List (Nat × Value)} {st : List Value} {cI cJ cO : ClassId} {a : Nat → Nat} (C : Cxt p s m args meth c D (tysW cI cJ cO) N0 cc mL RX1 ret nm) (S : CS) (M : LWS) (ov : va_W) (cu : Int32) (hok : okX S) (hR : 3 + 1 ≤ R.frames ∧ 8 + (7 + 11) + 69 ≤ R.locals) (hcs : k + 0 ≤ R.cells ∧ n + 0 ≤ R.slots) (hcat : (st.map fun v => v.category).sum ≤ 8) (dk : decode cc pc = .ok (.invokevirtual 107, 3)) (g : Go p l e R s m args below meth c D N0 mL Q (wW cI cJ cO a (noteX S cu) M ov) (k) (n) (pc + 3) lo (st)) : Go p l e R s m args below meth c D N0 mL Q (wW cI cJ cO a S M ov) k n pc lo (.int cu :: .ref (a 0) :: st) :=
  go_callV C (ci := 1) (r9 := (RX1, TX1, 8)) (qi := 0) (As := [.int cu]) (rest := st) rfl rfl (c_X1_noteParts l D cI cJ cO N0 a S M ov cu hok) ⟨rfl, by decide +kernel, by decide +kernel⟩ bl_RX1_107 bi_yX1_noteParts bs_yX1_noteParts bz_NoticeBook bc_yX1_noteParts (show Option.map (fun d => d.parameters.length) (parseMethodDescriptor yX1_noteParts.desc) = some 1 by decide +kernel) hR hcs hcat dk (fun r w2 h => by obtain ⟨rfl, rfl⟩ := h; exact g) rfl
set_option maxHeartbeats 4000000 in
set_option maxRecDepth 100000 in
theorem c_X1_earnOneDay (l : Launch) (D : va_G) (cI cJ cO : ClassId) (N0 : Nat) (a : Nat → Nat) (S : CS) (M : LWS) (ov : va_W) (hok : okX S) : Ct l D (tysW cI cJ cO) N0 yX1_earnOneDay cX1_earnOneDay 3 none { frames := 1, cells := 0, slots := 0, locals := 22 } [.ref (a 0)] (wW cI cJ cO a S M ov) (fun r w2 => r = none ∧ w2 = wW cI cJ cO a (eoX S) M ov) := by
  refine ct_of (by decide +kernel) (Nat.le_of_ble_eq_true rfl) ?_
  intro p e s m args below meth c C
  have C : Cxt p s m args meth c D (tysW cI cJ cO) N0 cX1_earnOneDay 3 RX1 none "earnOneDay" := C
  refine go_iconst C (v := 0) dX1_earnOneDay_0 (by decide) ?_
  refine go_istore_n C (lo' := [(1, .int 0), (0, .ref (a 0))]) dX1_earnOneDay_1 rfl (by decide) rfl ?_
  refine go_for (cs_n S) (fun i => True) (fun i => wW cI cJ cO a (cs_set_lt S (eoL S i)) M ov) (fun i => [(1, .int (nI i)), (0, .ref (a 0))]) ⟨rfl, rfl⟩ trivial (fun i hi_i hI_i ih_i => ?_) (fun hI_i => ?_)
  · refine go_iload_n C 0 dX1_earnOneDay_2 rfl rfl ?_
    refine go_aload_n C 1 dX1_earnOneDay_3 rfl rfl ?_
    refine gx_lotsMade C dX1_earnOneDay_4 ?_
    refine go_icmp_ge C (tgt := 39) dX1_earnOneDay_7 (by decide) (fun c_1 => absurd c_1 (nI_nge hi_i hok.1)) (fun c_1 => ?_)
    refine go_aload_n C 1 dX1_earnOneDay_10 rfl rfl ?_
    refine go_iload_n C 0 dX1_earnOneDay_11 rfl rfl ?_
    refine k_RX1_164 C (cs_set_lt S (eoL S i)) M ov (nI i) hok ⟨(Nat.le_of_ble_eq_true rfl), (Nat.le_of_ble_eq_true rfl)⟩ ⟨(Nat.le_of_ble_eq_true rfl), (Nat.le_of_ble_eq_true rfl)⟩ (Nat.le_of_ble_eq_true rfl) dX1_earnOneDay_12 ?_
    rcases opt_c (xAt S (nI i)) with hx_2 | ⟨j_3, hx_2⟩
    · refine go_st (st2 := [.null]) (by rw [xAt_eo, hx_2]; rfl) ?_
      refine go_astore_nq C (x := none) (lo' := [(2, .null), (1, .int (nI i)), (0, .ref (a 0))]) dX1_earnOneDay_15 rfl (by decide) rfl ?_
      refine go_aload_nq C (x := none) 0 dX1_earnOneDay_16 rfl rfl ?_
      refine go_ifnullN C (tgt := 33) dX1_earnOneDay_17 (by decide) ?_
      refine go_iinc C (v := nI (i + 1)) (lo' := [(1, .int (nI (i + 1))), (2, .null), (0, .ref (a 0))]) 1 dX1_earnOneDay_33 rfl (nI_1 _) (by decide) rfl ?_
      refine go_goto C (tgt := 2) dX1_earnOneDay_36 (by decide) ?_
      refine go_lo (lo' := [(1, .int (nI (i + 1))), (0, .ref (a 0))]) [0, 2] (by rfl) ?_
      refine go_w (w2 := wW cI cJ cO a (cs_set_lt S (eoL S (i + 1))) M ov) (by rw [eoL_n hx_2]) ?_
      exact ih_i trivial
    · refine go_st (st2 := [.ref (cs_la S j_3)]) (by rw [xAt_eo, hx_2]; rfl) ?_
      refine go_astore_n C (lo' := [(2, .ref (cs_la S j_3)), (1, .int (nI i)), (0, .ref (a 0))]) dX1_earnOneDay_15 rfl (by decide) rfl ?_
      refine go_aload_n C 0 dX1_earnOneDay_16 rfl rfl ?_
      refine go_ifnull C dX1_earnOneDay_17 ?_
      refine go_aload_n C 0 dX1_earnOneDay_20 rfl rfl ?_
      refine go_dup C dX1_earnOneDay_21 rfl ?_
      refine gl_earned C (S := cs_set_lt S (eoL S i)) (i := j_3) (xAt_nc hok hx_2) dX1_earnOneDay_22 ?_
      refine go_aload_n C 0 dX1_earnOneDay_25 rfl rfl ?_
      refine gl_parts C (S := cs_set_lt S (eoL S i)) (i := j_3) (xAt_nc hok hx_2) dX1_earnOneDay_26 ?_
      refine go_ladd C dX1_earnOneDay_29 ?_
      refine pl_earned C (S := cs_set_lt S (eoL S i)) (i := j_3) (xAt_nc hok hx_2) dX1_earnOneDay_30 ?_
      refine go_iinc C (v := nI (i + 1)) (lo' := [(1, .int (nI (i + 1))), (2, .ref (cs_la S j_3)), (0, .ref (a 0))]) 1 dX1_earnOneDay_33 rfl (nI_1 _) (by decide) rfl ?_
      refine go_goto C (tgt := 2) dX1_earnOneDay_36 (by decide) ?_
      refine go_lo (lo' := [(1, .int (nI (i + 1))), (0, .ref (a 0))]) [0, 2] (by rfl) ?_
      refine go_w (w2 := wW cI cJ cO a (cs_set_lt S (eoL S (i + 1))) M ov) (by rw [← eo_w hx_2]) ?_
      exact ih_i trivial
  · refine go_iload_n C 0 dX1_earnOneDay_2 rfl rfl ?_
    refine go_aload_n C 1 dX1_earnOneDay_3 rfl rfl ?_
    refine gx_lotsMade C dX1_earnOneDay_4 ?_
    refine go_icmp_ge C (tgt := 39) dX1_earnOneDay_7 (by decide) (fun c_4 => ?_) (fun c_4 => absurd (nI_ger hok.1) c_4)
    exact go_return C rfl dX1_earnOneDay_39 (by decide) (by decide) ⟨rfl, rfl⟩
theorem k_RX1_158 {p : Program} {l : Launch} {e : Env} {R : Room} {s : State} {m : MethodId} {args : Array Value} {below : List Frame} {meth : Method} {c : Code} {D : va_G} {N0 mL : Nat} {cc : ByteArray} {nm : String} {ret : Option FieldType} {Q : State → Prop} {k n pc : Nat} {lo : List (Nat × Value)} {st : List Value} {cI cJ cO : ClassId} {a : Nat → Nat} (C : Cxt p s m args meth c D (tysW cI cJ cO) N0 cc mL RX1 ret nm) (S : CS) (M : LWS) (ov : va_W) (hok : okX S) (hR : 1 + 1 ≤ R.frames ∧ 8 + (3 + 11) + 22 ≤ R.locals) (hcs : k + 0 ≤ R.cells ∧ n + 0 ≤ R.slots) (hcat : (st.map fun v => v.category).sum ≤ 8) (dk : decode cc pc = .ok (.invokevirtual 158, 3)) (g : Go p l e R s m args below meth c D N0 mL Q (wW cI cJ cO a (eoX S) M ov) (k) (n) (pc + 3) lo (st)) : Go p l e R s m args below meth c D N0 mL Q (wW cI cJ cO a S M ov) k n pc lo (.ref (a 0) :: st) :=
  go_callV C (ci := 1) (r9 := (RX1, TX1, 8)) (qi := 0) (As := []) (rest := st) rfl rfl (c_X1_earnOneDay l D cI cJ cO N0 a S M ov hok) ⟨rfl, by decide +kernel, by decide +kernel⟩ bl_RX1_158 bi_yX1_earnOneDay bs_yX1_earnOneDay bz_NoticeBook bc_yX1_earnOneDay (show Option.map (fun d => d.parameters.length) (parseMethodDescriptor yX1_earnOneDay.desc) = some 0 by decide +kernel) hR hcs hcat dk (fun r w2 h => by obtain ⟨rfl, rfl⟩ := h; exact g) rfl
set_option maxHeartbeats 4000000 in
set_option maxRecDepth 100000 in
theorem c_X1_leastHarmful (l : Launch) (D : va_G) (cI cJ cO : ClassId) (N0 : Nat) (a : Nat → Nat) (S : CS) (M : LWS) (ov : va_W) (cu : Int32) (hok : okX S) : Ct l D (tysW cI cJ cO) N0 yX1_leastHarmful cX1_leastHarmful 5 (some (.object "NoticeBook$Lot")) { frames := 2, cells := 0, slots := 0, locals := 45 } [.ref (a 0), .int cu] (wW cI cJ cO a S M ov) (fun r w2 => r = some (va_rf ((lhTo S cu (cs_n S)).map (cs_la S))) ∧ w2 = wW cI cJ cO a S M ov) := by
  refine ct_of (by decide +kernel) (Nat.le_of_ble_eq_true rfl) ?_
  intro p e s m args below meth c C
  have C : Cxt p s m args meth c D (tysW cI cJ cO) N0 cX1_leastHarmful 5 RX1 (some (.object "NoticeBook$Lot")) "leastHarmful" := C
  refine go_null C dX1_leastHarmful_0 ?_
  refine go_astore_nq C (x := none) (lo' := [(2, .null), (0, .ref (a 0)), (1, .int cu)]) dX1_leastHarmful_1 rfl (by decide) rfl ?_
  refine go_iconst C (v := 0) dX1_leastHarmful_2 (by decide) ?_
  refine go_istore_n C (lo' := [(3, .int 0), (2, .null), (0, .ref (a 0)), (1, .int cu)]) dX1_leastHarmful_3 rfl (by decide) rfl ?_
  refine go_for (cs_n S) (fun i => True) (fun i => wW cI cJ cO a S M ov) (fun i => [(3, .int (nI i)), (2, va_rf ((lhTo S cu i).map (cs_la S))), (0, .ref (a 0)), (1, .int cu)]) ⟨rfl, rfl⟩ trivial (fun i hi_i hI_i ih_i => ?_) (fun hI_i => ?_)
  · refine go_iload_n C 0 dX1_leastHarmful_4 rfl rfl ?_
    refine go_aload_n C 2 dX1_leastHarmful_5 rfl rfl ?_
    refine gx_lotsMade C dX1_leastHarmful_6 ?_
    refine go_icmp_ge C (tgt := 55) dX1_leastHarmful_9 (by decide) (fun c_1 => absurd c_1 (nI_nge hi_i hok.1)) (fun c_1 => ?_)
    refine go_aload_n C 2 dX1_leastHarmful_12 rfl rfl ?_
    refine go_iload_n C 0 dX1_leastHarmful_13 rfl rfl ?_
    refine go_iload_n C 3 dX1_leastHarmful_14 rfl rfl ?_
    refine k_RX1_190 C S M ov (nI i) cu hok ⟨(Nat.le_of_ble_eq_true rfl), (Nat.le_of_ble_eq_true rfl)⟩ ⟨(Nat.le_of_ble_eq_true rfl), (Nat.le_of_ble_eq_true rfl)⟩ (Nat.le_of_ble_eq_true rfl) dX1_leastHarmful_15 ?_
    rcases opt_c (xN S (nI i) cu) with hx_2 | ⟨j_3, hx_2⟩
    · refine go_st (st2 := [.null]) (by rw [hx_2]; rfl) ?_
      refine go_astoreq C (x := none) (lo' := [(4, .null), (3, .int (nI i)), (2, va_rf ((lhTo S cu i).map (cs_la S))), (0, .ref (a 0)), (1, .int cu)]) dX1_leastHarmful_18 (by decide) rfl ?_
      refine go_aloadq C (x := none) 0 dX1_leastHarmful_20 rfl ?_
      refine go_ifnullN C (tgt := 49) dX1_leastHarmful_22 (by decide) ?_
      refine go_iinc C (v := nI (i + 1)) (lo' := [(3, .int (nI (i + 1))), (4, .null), (2, va_rf ((lhTo S cu i).map (cs_la S))), (0, .ref (a 0)), (1, .int cu)]) 1 dX1_leastHarmful_49 rfl (nI_1 _) (by decide) (by simp [va_rf_c]) ?_
      refine go_goto C (tgt := 4) dX1_leastHarmful_52 (by decide) ?_
      refine go_lo (lo' := [(3, .int (nI (i + 1))), (2, va_rf ((lhTo S cu (i + 1)).map (cs_la S))), (0, .ref (a 0)), (1, .int cu)]) [0, 2, 3, 4] (by rw [lhTo_n hx_2]; rfl) ?_
      exact ih_i trivial
    · refine go_st (st2 := [.ref (cs_la S j_3)]) (by rw [hx_2]; rfl) ?_
      refine go_astore C (lo' := [(4, .ref (cs_la S j_3)), (3, .int (nI i)), (2, va_rf ((lhTo S cu i).map (cs_la S))), (0, .ref (a 0)), (1, .int cu)]) dX1_leastHarmful_18 (by decide) rfl ?_
      refine go_aload C 0 dX1_leastHarmful_20 rfl ?_
      refine go_ifnull C dX1_leastHarmful_22 ?_
      refine go_aload C 0 dX1_leastHarmful_25 rfl ?_
      refine k_RX1_113 C S M ov j_3 (xN_nc hok hx_2) ⟨(Nat.le_of_ble_eq_true rfl), (Nat.le_of_ble_eq_true rfl)⟩ ⟨(Nat.le_of_ble_eq_true rfl), (Nat.le_of_ble_eq_true rfl)⟩ (Nat.le_of_ble_eq_true rfl) dX1_leastHarmful_27 ?_
      refine go_if_le C (tgt := 49) dX1_leastHarmful_30 (by decide) (fun c_4 => ?_) (fun c_4 => ?_)
      · refine go_iinc C (v := nI (i + 1)) (lo' := [(3, .int (nI (i + 1))), (4, .ref (cs_la S j_3)), (2, va_rf ((lhTo S cu i).map (cs_la S))), (0, .ref (a 0)), (1, .int cu)]) 1 dX1_leastHarmful_49 rfl (nI_1 _) (by decide) (by simp [va_rf_c]) ?_
        refine go_goto C (tgt := 4) dX1_leastHarmful_52 (by decide) ?_
        refine go_lo (lo' := [(3, .int (nI (i + 1))), (2, va_rf ((lhTo S cu (i + 1)).map (cs_la S))), (0, .ref (a 0)), (1, .int cu)]) [0, 2, 3, 4] (by rw [lhTo_s0 hx_2 c_4]; rfl) ?_
        exact ih_i trivial
      · refine go_aload_nq C 2 dX1_leastHarmful_33 rfl rfl ?_
        rcases opt_c (lhTo S cu i) with hx_5 | ⟨b_6, hx_5⟩
        · refine go_st (st2 := [.null]) (by rw [hx_5]; rfl) ?_
          refine go_lo (lo' := [(4, .ref (cs_la S j_3)), (3, .int (nI i)), (2, .null), (0, .ref (a 0)), (1, .int cu)]) [0, 1, 2, 3, 4] (by rw [hx_5]; rfl) ?_
          refine go_ifnullN C (tgt := 46) dX1_leastHarmful_34 (by decide) ?_
          refine go_aload C 0 dX1_leastHarmful_46 rfl ?_
          refine go_astore_n C (lo' := [(2, .ref (cs_la S j_3)), (4, .ref (cs_la S j_3)), (3, .int (nI i)), (0, .ref (a 0)), (1, .int cu)]) dX1_leastHarmful_48 rfl (by decide) rfl ?_
          refine go_iinc C (v := nI (i + 1)) (lo' := [(3, .int (nI (i + 1))), (2, .ref (cs_la S j_3)), (4, .ref (cs_la S j_3)), (0, .ref (a 0)), (1, .int cu)]) 2 dX1_leastHarmful_49 rfl (nI_1 _) (by decide) rfl ?_
          refine go_goto C (tgt := 4) dX1_leastHarmful_52 (by decide) ?_
          refine go_lo (lo' := [(3, .int (nI (i + 1))), (2, va_rf ((lhTo S cu (i + 1)).map (cs_la S))), (0, .ref (a 0)), (1, .int cu)]) [0, 1, 3, 4] (by rw [lhTo_s1 hx_2 c_4 hx_5]; rfl) ?_
          exact ih_i trivial
        · refine go_st (st2 := [.ref (cs_la S b_6)]) (by rw [hx_5]; rfl) ?_
          refine go_lo (lo' := [(4, .ref (cs_la S j_3)), (3, .int (nI i)), (2, .ref (cs_la S b_6)), (0, .ref (a 0)), (1, .int cu)]) [0, 1, 2, 3, 4] (by rw [hx_5]; rfl) ?_
          refine go_ifnull C dX1_leastHarmful_34 ?_
          refine go_aload C 0 dX1_leastHarmful_37 rfl ?_
          refine go_aload_n C 2 dX1_leastHarmful_39 rfl rfl ?_
          refine k_RX1_194 C S M ov j_3 b_6 (xN_nc hok hx_2) (lhTo_nc hok hx_5) ⟨(Nat.le_of_ble_eq_true rfl), (Nat.le_of_ble_eq_true rfl)⟩ ⟨(Nat.le_of_ble_eq_true rfl), (Nat.le_of_ble_eq_true rfl)⟩ (Nat.le_of_ble_eq_true rfl) dX1_leastHarmful_40 ?_
          refine go_if_eq C (tgt := 49) dX1_leastHarmful_43 (by decide) (fun c_7 => ?_) (fun c_7 => ?_)
          · refine go_iinc C (v := nI (i + 1)) (lo' := [(3, .int (nI (i + 1))), (4, .ref (cs_la S j_3)), (2, .ref (cs_la S b_6)), (0, .ref (a 0)), (1, .int cu)]) 1 dX1_leastHarmful_49 rfl (nI_1 _) (by decide) rfl ?_
            refine go_goto C (tgt := 4) dX1_leastHarmful_52 (by decide) ?_
            refine go_lo (lo' := [(3, .int (nI (i + 1))), (2, va_rf ((lhTo S cu (i + 1)).map (cs_la S))), (0, .ref (a 0)), (1, .int cu)]) [0, 2, 3, 4] (by rw [lhTo_s2 hx_2 c_4 hx_5 c_7]; rfl) ?_
            exact ih_i trivial
          · refine go_aload C 0 dX1_leastHarmful_46 rfl ?_
            refine go_astore_n C (lo' := [(2, .ref (cs_la S j_3)), (4, .ref (cs_la S j_3)), (3, .int (nI i)), (0, .ref (a 0)), (1, .int cu)]) dX1_leastHarmful_48 rfl (by decide) rfl ?_
            refine go_iinc C (v := nI (i + 1)) (lo' := [(3, .int (nI (i + 1))), (2, .ref (cs_la S j_3)), (4, .ref (cs_la S j_3)), (0, .ref (a 0)), (1, .int cu)]) 2 dX1_leastHarmful_49 rfl (nI_1 _) (by decide) rfl ?_
            refine go_goto C (tgt := 4) dX1_leastHarmful_52 (by decide) ?_
            refine go_lo (lo' := [(3, .int (nI (i + 1))), (2, va_rf ((lhTo S cu (i + 1)).map (cs_la S))), (0, .ref (a 0)), (1, .int cu)]) [0, 1, 3, 4] (by rw [lhTo_s3 hx_2 c_4 hx_5 c_7]; rfl) ?_
            exact ih_i trivial
  · refine go_iload_n C 0 dX1_leastHarmful_4 rfl rfl ?_
    refine go_aload_n C 2 dX1_leastHarmful_5 rfl rfl ?_
    refine gx_lotsMade C dX1_leastHarmful_6 ?_
    refine go_icmp_ge C (tgt := 55) dX1_leastHarmful_9 (by decide) (fun c_8 => ?_) (fun c_8 => absurd (nI_ger hok.1) c_8)
    refine go_aload_nq C 1 dX1_leastHarmful_55 rfl rfl ?_
    exact go_areturnq C (x := (lhTo S cu (cs_n S)).map (cs_la S)) rfl dX1_leastHarmful_56 (by decide) (by decide) ⟨rfl, rfl⟩
theorem k_RX1_110 {p : Program} {l : Launch} {e : Env} {R : Room} {s : State} {m : MethodId} {args : Array Value} {below : List Frame} {meth : Method} {c : Code} {D : va_G} {N0 mL : Nat} {cc : ByteArray} {nm : String} {ret : Option FieldType} {Q : State → Prop} {k n pc : Nat} {lo : List (Nat × Value)} {st : List Value} {cI cJ cO : ClassId} {a : Nat → Nat} (C : Cxt p s m args meth c D (tysW cI cJ cO) N0 cc mL RX1 ret nm) (S : CS) (M : LWS) (ov : va_W) (cu : Int32) (hok : okX S) (hR : 2 + 1 ≤ R.frames ∧ 8 + (5 + 11) + 45 ≤ R.locals) (hcs : k + 0 ≤ R.cells ∧ n + 0 ≤ R.slots) (hcat : (st.map fun v => v.category).sum ≤ 8) (dk : decode cc pc = .ok (.invokevirtual 110, 3)) (g : Go p l e R s m args below meth c D N0 mL Q (wW cI cJ cO a S M ov) (k) (n) (pc + 3) lo (va_rf ((lhTo S cu (cs_n S)).map (cs_la S)) :: st)) : Go p l e R s m args below meth c D N0 mL Q (wW cI cJ cO a S M ov) k n pc lo (.int cu :: .ref (a 0) :: st) :=
  go_callV C (ci := 1) (r9 := (RX1, TX1, 8)) (qi := 0) (As := [.int cu]) (rest := st) rfl rfl (c_X1_leastHarmful l D cI cJ cO N0 a S M ov cu hok) ⟨rfl, by decide +kernel, by decide +kernel⟩ bl_RX1_110 bi_yX1_leastHarmful bs_yX1_leastHarmful bz_NoticeBook bc_yX1_leastHarmful (show Option.map (fun d => d.parameters.length) (parseMethodDescriptor yX1_leastHarmful.desc) = some 1 by decide +kernel) hR hcs hcat dk (fun r w2 h => by obtain ⟨rfl, rfl⟩ := h; exact g) rfl
