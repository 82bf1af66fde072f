set_option maxHeartbeats 4000000 in
set_option maxRecDepth 100000 in
theorem c_L_total (l : Launch) (D : va_G) (cI cJ cO : ClassId) (N0 : Nat) (a : Nat → Nat) (S : CS) (M : LWS) (ov : va_W) (cu : Int32) (hok : okL M) : Ct l D (tysW cI cJ cO) N0 yL_total cL_total 6 (some .int) { frames := 0, cells := 0, slots := 0, locals := 0 } [.ref (a 5), .ref (a 7), .ref (a 8), .int cu] (wW cI cJ cO a S M ov) (fun r w2 => r = some (.int (lTot (ls_c M) (ls_p M) cu (lK M))) ∧ w2 = wW cI cJ cO a S M ov) := by
  refine ct_of (by decide +kernel) (Nat.le_of_ble_eq_true rfl) ?_
  intro p e s m args below meth c C
  have C : Cxt p s m args meth c D (tysW cI cJ cO) N0 cL_total 6 RL (some .int) "total" := C
  obtain ⟨hn0, hn20⟩ := hok
  refine go_iconst C (v := 0) dL_total_0 (by decide) ?_
  refine go_istore C (lo' := [(4, .int 0), (0, .ref (a 5)), (1, .ref (a 7)), (2, .ref (a 8)), (3, .int cu)]) dL_total_1 (by decide) rfl ?_
  refine go_iconst C (v := 0) dL_total_3 (by decide) ?_
  refine go_istore C (lo' := [(5, .int 0), (4, .int 0), (0, .ref (a 5)), (1, .ref (a 7)), (2, .ref (a 8)), (3, .int cu)]) dL_total_4 (by decide) rfl ?_
  refine go_for (lK M) (fun i => True) (fun i => wW cI cJ cO a S M ov) (fun i => [(5, .int (nI i)), (4, .int (lTot (ls_c M) (ls_p M) cu i)), (0, .ref (a 5)), (1, .ref (a 7)), (2, .ref (a 8)), (3, .int cu)]) ⟨rfl, rfl⟩ trivial (fun i hi_i hI_i ih_i => ?_) (fun hI_i => ?_)
  · refine go_iload C 0 dL_total_6 rfl ?_
    refine go_aload_n C 2 dL_total_8 rfl rfl ?_
    refine go_iconst C (v := 0) dL_total_9 (by decide) ?_
    refine lm_n C vin_0_4 dL_total_10 ?_
    rw [ck_0]
    refine go_icmp_ge C (tgt := 48) dL_total_11 (by decide) (fun c_1 => absurd c_1 (by rw [hn0]; exact nI_ge hi_i (by omega))) (fun c_1 => ?_)
    refine go_iload C 1 dL_total_14 rfl ?_
    refine go_aload_n C 3 dL_total_16 rfl rfl ?_
    refine go_iload C 0 dL_total_17 rfl ?_
    refine lm_c C (vp_in_nI (n := i) (by omega) (by decide)) dL_total_19 ?_
    rw [cl_nI (i := i) (by omega)]
    refine go_iload_n C 5 dL_total_20 rfl rfl ?_
    refine go_icmp_ne C (tgt := 38) dL_total_21 (by decide) (fun c_2 => ?_) (fun c_2 => ?_)
    · refine go_iconst C (v := 0) dL_total_38 (by decide) ?_
      refine go_iadd C dL_total_39 ?_
      refine go_istore C (lo' := [(4, .int ((lTot (ls_c M) (ls_p M) cu i) + 0)), (5, .int (nI i)), (0, .ref (a 5)), (1, .ref (a 7)), (2, .ref (a 8)), (3, .int cu)]) dL_total_40 (by decide) rfl ?_
      refine go_iinc C (v := nI (i + 1)) (lo' := [(5, .int (nI (i + 1))), (4, .int ((lTot (ls_c M) (ls_p M) cu i) + 0)), (0, .ref (a 5)), (1, .ref (a 7)), (2, .ref (a 8)), (3, .int cu)]) 1 dL_total_42 rfl (nI_1 _) (by decide) rfl ?_
      refine go_goto C (tgt := 6) dL_total_45 (by decide) ?_
      refine go_lo (lo' := [(5, .int (nI (i + 1))), (4, .int (lTot (ls_c M) (ls_p M) cu (i + 1))), (0, .ref (a 5)), (1, .ref (a 7)), (2, .ref (a 8)), (3, .int cu)]) [0, 1, 2, 3, 4, 5] (by rw [lTot_0 c_2]; rfl) ?_
      exact ih_i trivial
    · refine go_aload_n C 4 dL_total_24 rfl rfl ?_
      refine go_iload C 0 dL_total_25 rfl ?_
      refine lm_p C (vp_in_nI (n := i) (by omega) (by decide)) dL_total_27 ?_
      rw [cl_nI (i := i) (by omega)]
      refine go_if_le C (tgt := 38) dL_total_28 (by decide) (fun c_3 => ?_) (fun c_3 => ?_)
      · refine go_iconst C (v := 0) dL_total_38 (by decide) ?_
        refine go_iadd C dL_total_39 ?_
        refine go_istore C (lo' := [(4, .int ((lTot (ls_c M) (ls_p M) cu i) + 0)), (5, .int (nI i)), (0, .ref (a 5)), (1, .ref (a 7)), (2, .ref (a 8)), (3, .int cu)]) dL_total_40 (by decide) rfl ?_
        refine go_iinc C (v := nI (i + 1)) (lo' := [(5, .int (nI (i + 1))), (4, .int ((lTot (ls_c M) (ls_p M) cu i) + 0)), (0, .ref (a 5)), (1, .ref (a 7)), (2, .ref (a 8)), (3, .int cu)]) 1 dL_total_42 rfl (nI_1 _) (by decide) rfl ?_
        refine go_goto C (tgt := 6) dL_total_45 (by decide) ?_
        refine go_lo (lo' := [(5, .int (nI (i + 1))), (4, .int (lTot (ls_c M) (ls_p M) cu (i + 1))), (0, .ref (a 5)), (1, .ref (a 7)), (2, .ref (a 8)), (3, .int cu)]) [0, 1, 2, 3, 4, 5] (by rw [lTot_1 c_2 c_3]; rfl) ?_
        exact ih_i trivial
      · refine go_aload_n C 4 dL_total_31 rfl rfl ?_
        refine go_iload C 0 dL_total_32 rfl ?_
        refine lm_p C (vp_in_nI (n := i) (by omega) (by decide)) dL_total_34 ?_
        rw [cl_nI (i := i) (by omega)]
        refine go_goto C (tgt := 39) dL_total_35 (by decide) ?_
        refine go_iadd C dL_total_39 ?_
        refine go_istore C (lo' := [(4, .int ((lTot (ls_c M) (ls_p M) cu i) + (ls_p M i))), (5, .int (nI i)), (0, .ref (a 5)), (1, .ref (a 7)), (2, .ref (a 8)), (3, .int cu)]) dL_total_40 (by decide) rfl ?_
        refine go_iinc C (v := nI (i + 1)) (lo' := [(5, .int (nI (i + 1))), (4, .int ((lTot (ls_c M) (ls_p M) cu i) + (ls_p M i))), (0, .ref (a 5)), (1, .ref (a 7)), (2, .ref (a 8)), (3, .int cu)]) 1 dL_total_42 rfl (nI_1 _) (by decide) rfl ?_
        refine go_goto C (tgt := 6) dL_total_45 (by decide) ?_
        refine go_lo (lo' := [(5, .int (nI (i + 1))), (4, .int (lTot (ls_c M) (ls_p M) cu (i + 1))), (0, .ref (a 5)), (1, .ref (a 7)), (2, .ref (a 8)), (3, .int cu)]) [0, 1, 2, 3, 4, 5] (by rw [lTot_2 c_2 c_3]; rfl) ?_
        exact ih_i trivial
  · refine go_iload C 0 dL_total_6 rfl ?_
    refine go_aload_n C 2 dL_total_8 rfl rfl ?_
    refine go_iconst C (v := 0) dL_total_9 (by decide) ?_
    refine lm_n C vin_0_4 dL_total_10 ?_
    rw [ck_0]
    refine go_icmp_ge C (tgt := 48) dL_total_11 (by decide) (fun c_4 => ?_) (fun c_4 => absurd (by rw [hn0]; exact nI_le (Nat.le_refl _) (by omega)) c_4)
    refine go_iload C 1 dL_total_48 rfl ?_
    exact go_ireturn C rfl dL_total_50 (by decide) (by decide) ⟨rfl, rfl⟩
theorem k_RL_7 {p : Program} {l : Launch} {e : Env} {R : Room} {s : State} {m : MethodId} {args : Array Value} {below : List Frame} {meth : Method} {c : Code} {D : va_G} {N0 mL : Nat} {cc : ByteArray} {nm : String} {ret : Option FieldType} {Q : State → Prop} {k n pc : Nat} {lo : List (Nat × Value)} {st : List Value} {cI cJ cO : ClassId} {a : Nat → Nat} (C : Cxt p s m args meth c D (tysW cI cJ cO) N0 cc mL RL ret nm) (S : CS) (M : LWS) (ov : va_W) (cu : Int32) (hok : okL M) (hR : 0 + 1 ≤ R.frames ∧ 8 + (6 + 11) + 0 ≤ R.locals) (hcs : k + 0 ≤ R.cells ∧ n + 0 ≤ R.slots) (hcat : (st.map fun v => v.category).sum ≤ 8) (dk : decode cc pc = .ok (.invokestatic 7, 3)) (g : Go p l e R s m args below meth c D N0 mL Q (wW cI cJ cO a S M ov) (k) (n) (pc + 3) lo (.int (lTot (ls_c M) (ls_p M) cu (lK M)) :: st)) : Go p l e R s m args below meth c D N0 mL Q (wW cI cJ cO a S M ov) k n pc lo (.int cu :: .ref (a 8) :: .ref (a 7) :: .ref (a 5) :: st) :=
  go_callS C (As := [.ref (a 5), .ref (a 7), .ref (a 8), .int cu]) (rest := st) (c_L_total l D cI cJ cO N0 a S M ov cu hok) ⟨rfl, by decide +kernel, by decide +kernel⟩ bl_RL_7 bst_yL_total bz_NoticeBookLaw bc_yL_total (show Option.map (fun d => d.parameters.length) (parseMethodDescriptor yL_total.desc) = some 4 by decide +kernel) hR hcs hcat dk (fun r w2 h => by obtain ⟨rfl, rfl⟩ := h; exact g) rfl
set_option maxHeartbeats 4000000 in
set_option maxRecDepth 100000 in
theorem c_L_within (l : Launch) (D : va_G) (cI cJ cO : ClassId) (N0 : Nat) (a : Nat → Nat) (S : CS) (M : LWS) (ov : va_W) (x y z1 z2 : Int64)  : Ct l D (tysW cI cJ cO) N0 yL_within cL_within 12 (some .long) { frames := 0, cells := 0, slots := 0, locals := 0 } [.long x, .long y, .long z1, .long z2] (wW cI cJ cO a S M ov) (fun r w2 => r = some (.long (lWi x y z1 z2)) ∧ w2 = wW cI cJ cO a S M ov) := by
  refine ct_of (by decide +kernel) (Nat.le_of_ble_eq_true rfl) ?_
  intro p e s m args below meth c C
  have C : Cxt p s m args meth c D (tysW cI cJ cO) N0 cL_within 12 RL (some .long) "within" := C
  refine go_lload_n C 0 dL_within_0 rfl rfl ?_
  refine go_lload C 2 dL_within_1 rfl ?_
  refine go_lcmp C dL_within_3 ?_
  refine go_if_le C (tgt := 11) dL_within_4 (by decide) (fun c_1 => ?_) (fun c_1 => ?_)
  · refine go_lload C 2 dL_within_11 rfl ?_
    refine go_lstore C (lo' := [(8, .long z1), (0, .long x), (2, .long y), (4, .long z1), (6, .long z2)]) dL_within_13 (by decide) rfl ?_
    refine go_lload_n C 2 dL_within_15 rfl rfl ?_
    refine go_lload C 4 dL_within_16 rfl ?_
    refine go_lcmp C dL_within_18 ?_
    refine go_if_ge C (tgt := 26) dL_within_19 (by decide) (fun c_2 => ?_) (fun c_2 => ?_)
    · refine go_lload C 4 dL_within_26 rfl ?_
      refine go_lstore C (lo' := [(10, .long z2), (8, .long z1), (0, .long x), (2, .long y), (4, .long z1), (6, .long z2)]) dL_within_28 (by decide) rfl ?_
      refine go_lload C 0 dL_within_30 rfl ?_
      refine go_lload C 1 dL_within_32 rfl ?_
      refine go_lcmp C dL_within_34 ?_
      refine go_if_le C (tgt := 46) dL_within_35 (by decide) (fun c_3 => ?_) (fun c_3 => ?_)
      · refine go_lconst C (v := 0) dL_within_46 (by decide) ?_
        exact go_lreturn C rfl dL_within_47 (by decide) (by decide) ⟨by simp only [lWi, wiB, wiE, if_pos c_1, if_pos c_2, if_pos c_3] <;> rfl, rfl⟩
      · refine go_lload C 0 dL_within_38 rfl ?_
        refine go_lload C 1 dL_within_40 rfl ?_
        refine go_lsub C dL_within_42 ?_
        refine go_goto C (tgt := 47) dL_within_43 (by decide) ?_
        exact go_lreturn C rfl dL_within_47 (by decide) (by decide) ⟨by simp only [lWi, wiB, wiE, if_pos c_1, if_pos c_2, if_neg c_3] <;> rfl, rfl⟩
    · refine go_lload_n C 2 dL_within_22 rfl rfl ?_
      refine go_goto C (tgt := 28) dL_within_23 (by decide) ?_
      refine go_lstore C (lo' := [(10, .long y), (8, .long z1), (0, .long x), (2, .long y), (4, .long z1), (6, .long z2)]) dL_within_28 (by decide) rfl ?_
      refine go_lload C 0 dL_within_30 rfl ?_
      refine go_lload C 1 dL_within_32 rfl ?_
      refine go_lcmp C dL_within_34 ?_
      refine go_if_le C (tgt := 46) dL_within_35 (by decide) (fun c_4 => ?_) (fun c_4 => ?_)
      · refine go_lconst C (v := 0) dL_within_46 (by decide) ?_
        exact go_lreturn C rfl dL_within_47 (by decide) (by decide) ⟨by simp only [lWi, wiB, wiE, if_pos c_1, if_neg c_2, if_pos c_4] <;> rfl, rfl⟩
      · refine go_lload C 0 dL_within_38 rfl ?_
        refine go_lload C 1 dL_within_40 rfl ?_
        refine go_lsub C dL_within_42 ?_
        refine go_goto C (tgt := 47) dL_within_43 (by decide) ?_
        exact go_lreturn C rfl dL_within_47 (by decide) (by decide) ⟨by simp only [lWi, wiB, wiE, if_pos c_1, if_neg c_2, if_neg c_4] <;> rfl, rfl⟩
  · refine go_lload_n C 0 dL_within_7 rfl rfl ?_
    refine go_goto C (tgt := 13) dL_within_8 (by decide) ?_
    refine go_lstore C (lo' := [(8, .long x), (0, .long x), (2, .long y), (4, .long z1), (6, .long z2)]) dL_within_13 (by decide) rfl ?_
    refine go_lload_n C 2 dL_within_15 rfl rfl ?_
    refine go_lload C 4 dL_within_16 rfl ?_
    refine go_lcmp C dL_within_18 ?_
    refine go_if_ge C (tgt := 26) dL_within_19 (by decide) (fun c_5 => ?_) (fun c_5 => ?_)
    · refine go_lload C 4 dL_within_26 rfl ?_
      refine go_lstore C (lo' := [(10, .long z2), (8, .long x), (0, .long x), (2, .long y), (4, .long z1), (6, .long z2)]) dL_within_28 (by decide) rfl ?_
      refine go_lload C 0 dL_within_30 rfl ?_
      refine go_lload C 1 dL_within_32 rfl ?_
      refine go_lcmp C dL_within_34 ?_
      refine go_if_le C (tgt := 46) dL_within_35 (by decide) (fun c_6 => ?_) (fun c_6 => ?_)
      · refine go_lconst C (v := 0) dL_within_46 (by decide) ?_
        exact go_lreturn C rfl dL_within_47 (by decide) (by decide) ⟨by simp only [lWi, wiB, wiE, if_neg c_1, if_pos c_5, if_pos c_6] <;> rfl, rfl⟩
      · refine go_lload C 0 dL_within_38 rfl ?_
        refine go_lload C 1 dL_within_40 rfl ?_
        refine go_lsub C dL_within_42 ?_
        refine go_goto C (tgt := 47) dL_within_43 (by decide) ?_
        exact go_lreturn C rfl dL_within_47 (by decide) (by decide) ⟨by simp only [lWi, wiB, wiE, if_neg c_1, if_pos c_5, if_neg c_6] <;> rfl, rfl⟩
    · refine go_lload_n C 2 dL_within_22 rfl rfl ?_
      refine go_goto C (tgt := 28) dL_within_23 (by decide) ?_
      refine go_lstore C (lo' := [(10, .long y), (8, .long x), (0, .long x), (2, .long y), (4, .long z1), (6, .long z2)]) dL_within_28 (by decide) rfl ?_
      refine go_lload C 0 dL_within_30 rfl ?_
      refine go_lload C 1 dL_within_32 rfl ?_
      refine go_lcmp C dL_within_34 ?_
      refine go_if_le C (tgt := 46) dL_within_35 (by decide) (fun c_7 => ?_) (fun c_7 => ?_)
      · refine go_lconst C (v := 0) dL_within_46 (by decide) ?_
        exact go_lreturn C rfl dL_within_47 (by decide) (by decide) ⟨by simp only [lWi, wiB, wiE, if_neg c_1, if_neg c_5, if_pos c_7] <;> rfl, rfl⟩
      · refine go_lload C 0 dL_within_38 rfl ?_
        refine go_lload C 1 dL_within_40 rfl ?_
        refine go_lsub C dL_within_42 ?_
        refine go_goto C (tgt := 47) dL_within_43 (by decide) ?_
        exact go_lreturn C rfl dL_within_47 (by decide) (by decide) ⟨by simp only [lWi, wiB, wiE, if_neg c_1, if_neg c_5, if_neg c_7] <;> rfl, rfl⟩
theorem k_RL_17 {p : Program} {l : Launch} {e : Env} {R : Room} {s : State} {m : MethodId} {args : Array Value} {below : List Frame} {meth : Method} {c : Code} {D : va_G} {N0 mL : Nat} {cc : ByteArray} {nm : String} {ret : Option FieldType} {Q : State → Prop} {k n pc : Nat} {lo : List (Nat × Value)} {st : List Value} {cI cJ cO : ClassId} {a : Nat → Nat} (C : Cxt p s m args meth c D (tysW cI cJ cO) N0 cc mL RL ret nm) (S : CS) (M : LWS) (ov : va_W) (x y z1 z2 : Int64)  (hR : 0 + 1 ≤ R.frames ∧ 8 + (12 + 11) + 0 ≤ R.locals) (hcs : k + 0 ≤ R.cells ∧ n + 0 ≤ R.slots) (hcat : (st.map fun v => v.category).sum ≤ 8) (dk : decode cc pc = .ok (.invokestatic 17, 3)) (g : Go p l e R s m args below meth c D N0 mL Q (wW cI cJ cO a S M ov) (k) (n) (pc + 3) lo (.long (lWi x y z1 z2) :: st)) : Go p l e R s m args below meth c D N0 mL Q (wW cI cJ cO a S M ov) k n pc lo (.long z2 :: .long z1 :: .long y :: .long x :: st) :=
  go_callS C (As := [.long x, .long y, .long z1, .long z2]) (rest := st) (c_L_within l D cI cJ cO N0 a S M ov x y z1 z2 ) ⟨rfl, by decide +kernel, by decide +kernel⟩ bl_RL_17 bst_yL_within bz_NoticeBookLaw bc_yL_within (show Option.map (fun d => d.parameters.length) (parseMethodDescriptor yL_within.desc) = some 4 by decide +kernel) hR hcs hcat dk (fun r w2 h => by obtain ⟨rfl, rfl⟩ := h; exact g) rfl
set_option maxHeartbeats 4000000 in
set_option maxRecDepth 100000 in
theorem c_L_parts (l : Launch) (D : va_G) (cI cJ cO : ClassId) (N0 : Nat) (a : Nat → Nat) (S : CS) (M : LWS) (ov : va_W) (j : Nat) (hok : okL M) (hj : j < 20) : Ct l D (tysW cI cJ cO) N0 yL_parts cL_parts 11 (some .long) { frames := 1, cells := 0, slots := 0, locals := 31 } [.ref (a 5), .ref (a 6), .ref (a 7), .ref (a 8), .ref (a 12), .int (nI j)] (wW cI cJ cO a S M ov) (fun r w2 => r = some (.long (lPa M j)) ∧ w2 = wW cI cJ cO a S M ov) := by
  refine ct_of (by decide +kernel) (Nat.le_of_ble_eq_true rfl) ?_
  intro p e s m args below meth c C
  have C : Cxt p s m args meth c D (tysW cI cJ cO) N0 cL_parts 11 RL (some .long) "parts" := C
  obtain ⟨hn0, hn20⟩ := hok
  refine go_aload_n C 2 dL_parts_0 rfl rfl ?_
  refine go_iload C 5 dL_parts_1 rfl ?_
  refine lm_c C (vp_in_nI (n := j) (by omega) (by decide)) dL_parts_3 ?_
  rw [cl_nI (i := j) (by omega)]
  refine go_bipush C (v := 10) dL_parts_4 (by decide) ?_
  refine go_icmp_lt C (tgt := 15) dL_parts_6 (by decide) (fun c_1 => ?_) (fun c_1 => ?_)
  · refine go_aload_n C 0 dL_parts_15 rfl rfl ?_
    refine go_aload_n C 2 dL_parts_16 rfl rfl ?_
    refine go_aload_n C 3 dL_parts_17 rfl rfl ?_
    refine go_aload_n C 2 dL_parts_18 rfl rfl ?_
    refine go_iload C 5 dL_parts_19 rfl ?_
    refine lm_c C (vp_in_nI (n := j) (by omega) (by decide)) dL_parts_21 ?_
    rw [cl_nI (i := j) (by omega)]
    refine k_RL_7 C S M ov (ls_c M j) ⟨hn0, hn20⟩ ⟨(Nat.le_of_ble_eq_true rfl), (Nat.le_of_ble_eq_true rfl)⟩ ⟨(Nat.le_of_ble_eq_true rfl), (Nat.le_of_ble_eq_true rfl)⟩ (Nat.le_of_ble_eq_true rfl) dL_parts_22 ?_
    refine go_istore C (lo' := [(6, .int (lTot (ls_c M) (ls_p M) (ls_c M j) (lK M))), (0, .ref (a 5)), (1, .ref (a 6)), (2, .ref (a 7)), (3, .ref (a 8)), (4, .ref (a 12)), (5, .int (nI j))]) dL_parts_25 (by decide) rfl ?_
    refine go_aload_n C 1 dL_parts_27 rfl rfl ?_
    refine go_iconst C (v := 2) dL_parts_28 (by decide) ?_
    refine lm_n C vin_2_4 dL_parts_29 ?_
    rw [ck_2]
    refine go_if_ne C (tgt := 66) dL_parts_30 (by decide) (fun c_2 => ?_) (fun c_2 => ?_)
    · refine go_lconst C (v := 0) dL_parts_66 (by decide) ?_
      refine go_lstore C (lo' := [(7, .long 0), (6, .int (lTot (ls_c M) (ls_p M) (ls_c M j) (lK M))), (0, .ref (a 5)), (1, .ref (a 6)), (2, .ref (a 7)), (3, .ref (a 8)), (4, .ref (a 12)), (5, .int (nI j))]) dL_parts_67 (by decide) rfl ?_
      refine go_iconst C (v := 0) dL_parts_69 (by decide) ?_
      refine go_istore C (lo' := [(9, .int 0), (7, .long 0), (6, .int (lTot (ls_c M) (ls_p M) (ls_c M j) (lK M))), (0, .ref (a 5)), (1, .ref (a 6)), (2, .ref (a 7)), (3, .ref (a 8)), (4, .ref (a 12)), (5, .int (nI j))]) dL_parts_70 (by decide) rfl ?_
      refine go_for (j) (fun i => True) (fun i => wW cI cJ cO a S M ov) (fun i => [(9, .int (nI i)), (7, .long (lBe (ls_c M) (ls_p M) (ls_c M j) i)), (6, .int (lTot (ls_c M) (ls_p M) (ls_c M j) (lK M))), (0, .ref (a 5)), (1, .ref (a 6)), (2, .ref (a 7)), (3, .ref (a 8)), (4, .ref (a 12)), (5, .int (nI j))]) ⟨rfl, rfl⟩ trivial (fun i hi_i hI_i ih_i => ?_) (fun hI_i => ?_)
      · refine go_iload C 0 dL_parts_72 rfl ?_
        refine go_iload C 8 dL_parts_74 rfl ?_
        refine go_icmp_ge C (tgt := 110) dL_parts_76 (by decide) (fun c_3 => absurd c_3 (nI_ge hi_i (by omega))) (fun c_3 => ?_)
        refine go_lload C 1 dL_parts_79 rfl ?_
        refine go_aload_n C 5 dL_parts_81 rfl rfl ?_
        refine go_iload C 0 dL_parts_82 rfl ?_
        refine lm_c C (vp_in_nI (n := i) (by omega) (by decide)) dL_parts_84 ?_
        rw [cl_nI (i := i) (by omega)]
        refine go_aload_n C 5 dL_parts_85 rfl rfl ?_
        refine go_iload C 8 dL_parts_86 rfl ?_
        refine lm_c C (vp_in_nI (n := j) (by omega) (by decide)) dL_parts_88 ?_
        rw [cl_nI (i := j) (by omega)]
        refine go_icmp_ne C (tgt := 100) dL_parts_89 (by decide) (fun c_4 => ?_) (fun c_4 => ?_)
        · refine go_lconst C (v := 0) dL_parts_100 (by decide) ?_
          refine go_ladd C dL_parts_101 ?_
          refine go_lstore C (lo' := [(7, .long ((lBe (ls_c M) (ls_p M) (ls_c M j) i) + 0)), (9, .int (nI i)), (6, .int (lTot (ls_c M) (ls_p M) (ls_c M j) (lK M))), (0, .ref (a 5)), (1, .ref (a 6)), (2, .ref (a 7)), (3, .ref (a 8)), (4, .ref (a 12)), (5, .int (nI j))]) dL_parts_102 (by decide) rfl ?_
          refine go_iinc C (v := nI (i + 1)) (lo' := [(9, .int (nI (i + 1))), (7, .long ((lBe (ls_c M) (ls_p M) (ls_c M j) i) + 0)), (6, .int (lTot (ls_c M) (ls_p M) (ls_c M j) (lK M))), (0, .ref (a 5)), (1, .ref (a 6)), (2, .ref (a 7)), (3, .ref (a 8)), (4, .ref (a 12)), (5, .int (nI j))]) 1 dL_parts_104 rfl (nI_1 _) (by decide) rfl ?_
          refine go_goto C (tgt := 72) dL_parts_107 (by decide) ?_
          refine go_lo (lo' := [(9, .int (nI (i + 1))), (7, .long (lBe (ls_c M) (ls_p M) (ls_c M j) (i + 1))), (6, .int (lTot (ls_c M) (ls_p M) (ls_c M j) (lK M))), (0, .ref (a 5)), (1, .ref (a 6)), (2, .ref (a 7)), (3, .ref (a 8)), (4, .ref (a 12)), (5, .int (nI j))]) [0, 1, 2, 3, 4, 5, 6, 7, 8] (by rw [lBe_0 c_4]; rfl) ?_
          exact ih_i trivial
        · refine go_aload_n C 6 dL_parts_92 rfl rfl ?_
          refine go_iload C 0 dL_parts_93 rfl ?_
          refine lm_p C (vp_in_nI (n := i) (by omega) (by decide)) dL_parts_95 ?_
          rw [cl_nI (i := i) (by omega)]
          refine go_i2l C dL_parts_96 ?_
          refine go_goto C (tgt := 101) dL_parts_97 (by decide) ?_
          refine go_ladd C dL_parts_101 ?_
          refine go_lstore C (lo' := [(7, .long ((lBe (ls_c M) (ls_p M) (ls_c M j) i) + (Int32.toInt64 (ls_p M i)))), (9, .int (nI i)), (6, .int (lTot (ls_c M) (ls_p M) (ls_c M j) (lK M))), (0, .ref (a 5)), (1, .ref (a 6)), (2, .ref (a 7)), (3, .ref (a 8)), (4, .ref (a 12)), (5, .int (nI j))]) dL_parts_102 (by decide) rfl ?_
          refine go_iinc C (v := nI (i + 1)) (lo' := [(9, .int (nI (i + 1))), (7, .long ((lBe (ls_c M) (ls_p M) (ls_c M j) i) + (Int32.toInt64 (ls_p M i)))), (6, .int (lTot (ls_c M) (ls_p M) (ls_c M j) (lK M))), (0, .ref (a 5)), (1, .ref (a 6)), (2, .ref (a 7)), (3, .ref (a 8)), (4, .ref (a 12)), (5, .int (nI j))]) 1 dL_parts_104 rfl (nI_1 _) (by decide) rfl ?_
          refine go_goto C (tgt := 72) dL_parts_107 (by decide) ?_
          refine go_lo (lo' := [(9, .int (nI (i + 1))), (7, .long (lBe (ls_c M) (ls_p M) (ls_c M j) (i + 1))), (6, .int (lTot (ls_c M) (ls_p M) (ls_c M j) (lK M))), (0, .ref (a 5)), (1, .ref (a 6)), (2, .ref (a 7)), (3, .ref (a 8)), (4, .ref (a 12)), (5, .int (nI j))]) [0, 1, 2, 3, 4, 5, 6, 7, 8] (by rw [lBe_1 c_4]; rfl) ?_
          exact ih_i trivial
      · refine go_iload C 0 dL_parts_72 rfl ?_
        refine go_iload C 8 dL_parts_74 rfl ?_
        refine go_icmp_ge C (tgt := 110) dL_parts_76 (by decide) (fun c_5 => ?_) (fun c_5 => absurd (nI_le (Nat.le_refl _) (by omega)) c_5)
        refine go_lload C 1 dL_parts_110 rfl ?_
        refine go_aload_n C 6 dL_parts_112 rfl rfl ?_
        refine go_iload C 8 dL_parts_113 rfl ?_
        refine lm_p C (vp_in_nI (n := j) (by omega) (by decide)) dL_parts_115 ?_
        rw [cl_nI (i := j) (by omega)]
        refine go_i2l C dL_parts_116 ?_
        refine go_ladd C dL_parts_117 ?_
        refine go_lstore C (lo' := [(9, .long ((lBe (ls_c M) (ls_p M) (ls_c M j) j) + (Int32.toInt64 (ls_p M j)))), (7, .long (lBe (ls_c M) (ls_p M) (ls_c M j) j)), (6, .int (lTot (ls_c M) (ls_p M) (ls_c M j) (lK M))), (0, .ref (a 5)), (1, .ref (a 6)), (2, .ref (a 7)), (3, .ref (a 8)), (4, .ref (a 12)), (5, .int (nI j))]) dL_parts_118 (by decide) rfl ?_
        refine go_lload C 1 dL_parts_120 rfl ?_
        refine go_lload C 0 dL_parts_122 rfl ?_
        refine go_lconst C (v := 0) dL_parts_124 (by decide) ?_
        refine go_ldc2 C bk_RL_15 dL_parts_125 ?_
        refine k_RL_17 C S M ov (lBe (ls_c M) (ls_p M) (ls_c M j) j) ((lBe (ls_c M) (ls_p M) (ls_c M j) j) + (Int32.toInt64 (ls_p M j))) 0 100000 ⟨(Nat.le_of_ble_eq_true rfl), (Nat.le_of_ble_eq_true rfl)⟩ ⟨(Nat.le_of_ble_eq_true rfl), (Nat.le_of_ble_eq_true rfl)⟩ (Nat.le_of_ble_eq_true rfl) dL_parts_128 ?_
        refine go_aload_n C 4 dL_parts_131 rfl rfl ?_
        refine go_iconst C (v := 0) dL_parts_132 (by decide) ?_
        refine lm_q C vin_0_3 dL_parts_133 ?_
        rw [ck_0]
        refine go_i2l C dL_parts_134 ?_
        refine go_lmul C dL_parts_135 ?_
        refine go_lload C 1 dL_parts_136 rfl ?_
        refine go_lload C 0 dL_parts_138 rfl ?_
        refine go_ldc2 C bk_RL_15 dL_parts_140 ?_
        refine go_ldc2 C bk_RL_21 dL_parts_143 ?_
        refine k_RL_17 C S M ov (lBe (ls_c M) (ls_p M) (ls_c M j) j) ((lBe (ls_c M) (ls_p M) (ls_c M j) j) + (Int32.toInt64 (ls_p M j))) 100000 1000000 ⟨(Nat.le_of_ble_eq_true rfl), (Nat.le_of_ble_eq_true rfl)⟩ ⟨(Nat.le_of_ble_eq_true rfl), (Nat.le_of_ble_eq_true rfl)⟩ (Nat.le_of_ble_eq_true rfl) dL_parts_146 ?_
        refine go_aload_n C 4 dL_parts_149 rfl rfl ?_
        refine go_iconst C (v := 1) dL_parts_150 (by decide) ?_
        refine lm_q C vin_1_3 dL_parts_151 ?_
        rw [ck_1]
        refine go_i2l C dL_parts_152 ?_
        refine go_lmul C dL_parts_153 ?_
        refine go_ladd C dL_parts_154 ?_
        refine go_lload C 1 dL_parts_155 rfl ?_
        refine go_lload C 0 dL_parts_157 rfl ?_
        refine go_ldc2 C bk_RL_21 dL_parts_159 ?_
        refine go_ldc2 C bk_RL_23 dL_parts_162 ?_
        refine k_RL_17 C S M ov (lBe (ls_c M) (ls_p M) (ls_c M j) j) ((lBe (ls_c M) (ls_p M) (ls_c M j) j) + (Int32.toInt64 (ls_p M j))) 1000000 9000000000 ⟨(Nat.le_of_ble_eq_true rfl), (Nat.le_of_ble_eq_true rfl)⟩ ⟨(Nat.le_of_ble_eq_true rfl), (Nat.le_of_ble_eq_true rfl)⟩ (Nat.le_of_ble_eq_true rfl) dL_parts_165 ?_
        refine go_aload_n C 4 dL_parts_168 rfl rfl ?_
        refine go_iconst C (v := 2) dL_parts_169 (by decide) ?_
        refine lm_q C vin_2_3 dL_parts_170 ?_
        rw [ck_2]
        refine go_i2l C dL_parts_171 ?_
        refine go_lmul C dL_parts_172 ?_
        refine go_ladd C dL_parts_173 ?_
        exact go_lreturn C rfl dL_parts_174 (by decide) (by decide) ⟨by simp only [lPa, lRt, lPb, if_pos c_1, if_neg c_2] <;> rfl, rfl⟩
    · refine go_aload_n C 4 dL_parts_33 rfl rfl ?_
      refine go_iload C 6 dL_parts_34 rfl ?_
      refine lm_p C (vp_in_nI (n := j) (by omega) (by decide)) dL_parts_36 ?_
      rw [cl_nI (i := j) (by omega)]
      refine go_i2l C dL_parts_37 ?_
      refine go_aload_n C 2 dL_parts_38 rfl rfl ?_
      refine go_iload C 0 dL_parts_39 rfl ?_
      refine go_ldc C bk_RL_13 dL_parts_41 ?_
      refine go_icmp_le C (tgt := 50) dL_parts_43 (by decide) (fun c_6 => ?_) (fun c_6 => ?_)
      · refine go_iload C 0 dL_parts_50 rfl ?_
        refine go_ldc C bk_RL_14 dL_parts_52 ?_
        refine go_icmp_le C (tgt := 61) dL_parts_54 (by decide) (fun c_7 => ?_) (fun c_7 => ?_)
        · refine go_iconst C (v := 0) dL_parts_61 (by decide) ?_
          refine lm_q C vin_0_3 dL_parts_62 ?_
          rw [ck_0]
          refine go_i2l C dL_parts_63 ?_
          refine go_lmul C dL_parts_64 ?_
          exact go_lreturn C rfl dL_parts_65 (by decide) (by decide) ⟨by simp only [lPa, lRt, lPb, if_pos c_1, if_pos c_2, if_pos c_6, if_pos c_7] <;> rfl, rfl⟩
        · refine go_iconst C (v := 1) dL_parts_57 (by decide) ?_
          refine go_goto C (tgt := 62) dL_parts_58 (by decide) ?_
          refine lm_q C vin_1_3 dL_parts_62 ?_
          rw [ck_1]
          refine go_i2l C dL_parts_63 ?_
          refine go_lmul C dL_parts_64 ?_
          exact go_lreturn C rfl dL_parts_65 (by decide) (by decide) ⟨by simp only [lPa, lRt, lPb, if_pos c_1, if_pos c_2, if_pos c_6, if_neg c_7] <;> rfl, rfl⟩
      · refine go_iconst C (v := 2) dL_parts_46 (by decide) ?_
        refine go_goto C (tgt := 62) dL_parts_47 (by decide) ?_
        refine lm_q C vin_2_3 dL_parts_62 ?_
        rw [ck_2]
        refine go_i2l C dL_parts_63 ?_
        refine go_lmul C dL_parts_64 ?_
        exact go_lreturn C rfl dL_parts_65 (by decide) (by decide) ⟨by simp only [lPa, lRt, lPb, if_pos c_1, if_pos c_2, if_neg c_6] <;> rfl, rfl⟩
  · refine go_aload C 4 dL_parts_9 rfl ?_
    refine go_iload C 5 dL_parts_11 rfl ?_
    refine lm_w C (vp_in_nI (n := j) (by omega) (by decide)) dL_parts_13 ?_
    rw [cl_nI (i := j) (by omega)]
    exact go_lreturn C rfl dL_parts_14 (by decide) (by decide) ⟨by simp only [lPa, lRt, lPb, if_neg c_1] <;> rfl, rfl⟩
theorem k_RL_27 {p : Program} {l : Launch} {e : Env} {R : Room} {s : State} {m : MethodId} {args : Array Value} {below : List Frame} {meth : Method} {c : Code} {D : va_G} {N0 mL : Nat} {cc : ByteArray} {nm : String} {ret : Option FieldType} {Q : State → Prop} {k n pc : Nat} {lo : List (Nat × Value)} {st : List Value} {cI cJ cO : ClassId} {a : Nat → Nat} (C : Cxt p s m args meth c D (tysW cI cJ cO) N0 cc mL RL ret nm) (S : CS) (M : LWS) (ov : va_W) (j : Nat) (hok : okL M) (hj : j < 20) (hR : 1 + 1 ≤ R.frames ∧ 8 + (11 + 11) + 31 ≤ R.locals) (hcs : k + 0 ≤ R.cells ∧ n + 0 ≤ R.slots) (hcat : (st.map fun v => v.category).sum ≤ 8) (dk : decode cc pc = .ok (.invokestatic 27, 3)) (g : Go p l e R s m args below meth c D N0 mL Q (wW cI cJ cO a S M ov) (k) (n) (pc + 3) lo (.long (lPa M j) :: st)) : Go p l e R s m args below meth c D N0 mL Q (wW cI cJ cO a S M ov) k n pc lo (.int (nI j) :: .ref (a 12) :: .ref (a 8) :: .ref (a 7) :: .ref (a 6) :: .ref (a 5) :: st) :=
  go_callS C (As := [.ref (a 5), .ref (a 6), .ref (a 7), .ref (a 8), .ref (a 12), .int (nI j)]) (rest := st) (c_L_parts l D cI cJ cO N0 a S M ov j hok hj) ⟨rfl, by decide +kernel, by decide +kernel⟩ bl_RL_27 bst_yL_parts bz_NoticeBookLaw bc_yL_parts (show Option.map (fun d => d.parameters.length) (parseMethodDescriptor yL_parts.desc) = some 6 by decide +kernel) hR hcs hcat dk (fun r w2 h => by obtain ⟨rfl, rfl⟩ := h; exact g) rfl
set_option maxHeartbeats 4000000 in
set_option maxRecDepth 100000 in
theorem c_L_ends (l : Launch) (D : va_G) (cI cJ cO : ClassId) (N0 : Nat) (a : Nat → Nat) (S : CS) (M : LWS) (ov : va_W) (j : Nat) (hj : j < 20) (hw : vp_in (lOw M j) 4) : Ct l D (tysW cI cJ cO) N0 yL_ends cL_ends 7 (some .int) { frames := 0, cells := 0, slots := 0, locals := 0 } [.ref (a 7), .ref (a 8), .ref (a 13), .ref (a 14), .int (nI j)] (wW cI cJ cO a S M ov) (fun r w2 => r = some (.int (lEnC M j)) ∧ w2 = wW cI cJ cO a S (lEn M j) ov) := by
  refine ct_of (by decide +kernel) (Nat.le_of_ble_eq_true rfl) ?_
  intro p e s m args below meth c C
  have C : Cxt p s m args meth c D (tysW cI cJ cO) N0 cL_ends 7 RL (some .int) "ends" := C
  refine go_aload_n C 0 dL_ends_0 rfl rfl ?_
  refine go_iload C 4 dL_ends_1 rfl ?_
  refine lm_c C (vp_in_nI (n := j) (by omega) (by decide)) dL_ends_3 ?_
  rw [cl_nI (i := j) (by omega)]
  refine go_bipush C (v := 10) dL_ends_4 (by decide) ?_
  refine go_irem C dL_ends_6 (by decide) ?_
  refine go_st (st2 := [.int (lOw M j)]) rfl ?_
  refine go_istore C (lo' := [(5, .int (lOw M j)), (0, .ref (a 7)), (1, .ref (a 8)), (2, .ref (a 13)), (3, .ref (a 14)), (4, .int (nI j))]) dL_ends_7 (by decide) rfl ?_
  refine go_aload_n C 3 dL_ends_9 rfl rfl ?_
  refine go_iload C 5 dL_ends_10 rfl ?_
  refine lm_e C (vp_in_nI (n := j) (by omega) (by decide)) dL_ends_12 ?_
  rw [cl_nI (i := j) (by omega)]
  refine go_ldc2 C bk_RL_25 dL_ends_13 ?_
  refine go_ldiv C dL_ends_16 (by decide) ?_
  refine go_l2i C dL_ends_17 ?_
  refine go_st (st2 := [.int (lEnC M j)]) rfl ?_
  refine go_istore C (lo' := [(6, .int (lEnC M j)), (5, .int (lOw M j)), (0, .ref (a 7)), (1, .ref (a 8)), (2, .ref (a 13)), (3, .ref (a 14)), (4, .int (nI j))]) dL_ends_18 (by decide) rfl ?_
  refine go_aload_n C 5 dL_ends_20 rfl rfl ?_
  refine go_iload C 1 dL_ends_21 rfl ?_
  refine go_dup2 C dL_ends_23 rfl rfl ?_
  refine lm_g C (vin_8 hw) dL_ends_24 ?_
  refine go_iload C 0 dL_ends_25 rfl ?_
  refine go_i2l C dL_ends_27 ?_
  refine go_ladd C dL_ends_28 ?_
  refine sm_g C (vin_8 hw) dL_ends_29 ?_
  refine go_w (w2 := wW cI cJ cO a S (lEn1 M j) ov) rfl ?_
  refine go_aload_n C 5 dL_ends_30 rfl rfl ?_
  refine go_iconst C (v := 4) dL_ends_31 (by decide) ?_
  refine go_iload C 1 dL_ends_32 rfl ?_
  refine go_iadd C dL_ends_34 ?_
  refine go_dup2 C dL_ends_35 rfl rfl ?_
  refine lm_g C (vin_48 hw) dL_ends_36 ?_
  refine go_aload_n C 4 dL_ends_37 rfl rfl ?_
  refine go_iload C 6 dL_ends_38 rfl ?_
  refine lm_e C (vp_in_nI (n := j) (by omega) (by decide)) dL_ends_40 ?_
  rw [cl_nI (i := j) (by omega)]
  refine go_ldc2 C bk_RL_25 dL_ends_41 ?_
  refine go_lrem C dL_ends_44 (by decide) ?_
  refine go_ladd C dL_ends_45 ?_
  refine sm_g C (vin_48 hw) dL_ends_46 ?_
  refine go_w (w2 := wW cI cJ cO a S (lEn2 (lEn1 M j) j) ov) rfl ?_
  refine go_aload_n C 3 dL_ends_47 rfl rfl ?_
  refine go_iload C 6 dL_ends_48 rfl ?_
  refine go_iconst C (v := 0) dL_ends_50 (by decide) ?_
  refine sm_p C (vp_in_nI (n := j) (by omega) (by decide)) dL_ends_51 ?_
  rw [cl_nI (i := j) (by omega)]
  refine go_w (w2 := wW cI cJ cO a S (lEn3 (lEn2 (lEn1 M j) j) j) ov) rfl ?_
  refine go_aload_n C 4 dL_ends_52 rfl rfl ?_
  refine go_iload C 6 dL_ends_53 rfl ?_
  refine go_lconst C (v := 0) dL_ends_55 (by decide) ?_
  refine sm_e C (vp_in_nI (n := j) (by omega) (by decide)) dL_ends_56 ?_
  rw [cl_nI (i := j) (by omega)]
  refine go_w (w2 := wW cI cJ cO a S (lEn M j) ov) rfl ?_
  refine go_iload C 0 dL_ends_57 rfl ?_
  exact go_ireturn C rfl dL_ends_59 (by decide) (by decide) ⟨rfl, rfl⟩
theorem k_RL_33 {p : Program} {l : Launch} {e : Env} {R : Room} {s : State} {m : MethodId} {args : Array Value} {below : List Frame} {meth : Method} {c : Code} {D : va_G} {N0 mL : Nat} {cc : ByteArray} {nm : String} {ret : Option FieldType} {Q : State → Prop} {k n pc : Nat} {lo : List (Nat × Value)} {st : List Value} {cI cJ cO : ClassId} {a : Nat → Nat} (C : Cxt p s m args meth c D (tysW cI cJ cO) N0 cc mL RL ret nm) (S : CS) (M : LWS) (ov : va_W) (j : Nat) (hj : j < 20) (hw : vp_in (lOw M j) 4) (hR : 0 + 1 ≤ R.frames ∧ 8 + (7 + 11) + 0 ≤ R.locals) (hcs : k + 0 ≤ R.cells ∧ n + 0 ≤ R.slots) (hcat : (st.map fun v => v.category).sum ≤ 8) (dk : decode cc pc = .ok (.invokestatic 33, 3)) (g : Go p l e R s m args below meth c D N0 mL Q (wW cI cJ cO a S (lEn M j) ov) (k) (n) (pc + 3) lo (.int (lEnC M j) :: st)) : Go p l e R s m args below meth c D N0 mL Q (wW cI cJ cO a S M ov) k n pc lo (.int (nI j) :: .ref (a 14) :: .ref (a 13) :: .ref (a 8) :: .ref (a 7) :: st) :=
  go_callS C (As := [.ref (a 7), .ref (a 8), .ref (a 13), .ref (a 14), .int (nI j)]) (rest := st) (c_L_ends l D cI cJ cO N0 a S M ov j hj hw) ⟨rfl, by decide +kernel, by decide +kernel⟩ bl_RL_33 bst_yL_ends bz_NoticeBookLaw bc_yL_ends (show Option.map (fun d => d.parameters.length) (parseMethodDescriptor yL_ends.desc) = some 5 by decide +kernel) hR hcs hcat dk (fun r w2 h => by obtain ⟨rfl, rfl⟩ := h; exact g) rfl
