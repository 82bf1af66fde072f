set_option maxHeartbeats 4000000 in
set_option maxRecDepth 100000 in
theorem c_X2_thrown (l : Launch) (D : va_G) (cI cJ cZ cO : ClassId) (N0 : Nat) (a : Nat → Nat) (S : CS) (M : MS) (ov : Nat → Int64)  : Ct l D (tysW cI cJ cZ cO) N0 yX2_thrown cX2_thrown 1 (some .int) { frames := 0, cells := 0, slots := 0, locals := 0 } [.ref (a 5)] (wW cI cJ cZ cO a S M ov) (fun r w2 => r = some (.int (ms_thr M)) ∧ w2 = wW cI cJ cZ cO a S M ov) := by
  refine ct_of (by decide +kernel) (Nat.le_of_ble_eq_true rfl) ?_
  intro p e s m args below meth c C
  have C : Cxt p s m args meth c D (tysW cI cJ cZ cO) N0 cX2_thrown 1 RX2 (some .int) "thrown" := C
  refine go_aload_n C 0 dX2_thrown_0 rfl rfl ?_
  refine gm_thrown C dX2_thrown_1 ?_
  exact go_ireturn C rfl dX2_thrown_4 (by decide) (by decide) ⟨rfl, rfl⟩
theorem k_RL_92 {p : Program} {l : Launch} {e : Env} {R : Room} {s : State} {m : MethodId} {args : Array Value} {below : List Frame} {meth : Method} {c : Code} {D : va_G} {N0 mL : Nat} {cc : ByteArray} {nm : String} {ret : Option FieldType} {Q : State → Prop} {k n pc : Nat} {lo : List (Nat × Value)} {st : List Value} {cI cJ cZ cO : ClassId} {a : Nat → Nat} (C : Cxt p s m args meth c D (tysW cI cJ cZ cO) N0 cc mL RL ret nm) (S : CS) (M : MS) (ov : Nat → Int64)  (hR : 0 + 1 ≤ R.frames ∧ 8 + (1 + 11) + 0 ≤ R.locals) (hcs : k + 0 ≤ R.cells ∧ n + 0 ≤ R.slots) (hcat : (st.map fun v => v.category).sum ≤ 8) (dk : decode cc pc = .ok (.invokevirtual 92, 3)) (g : Go p l e R s m args below meth c D N0 mL Q (wW cI cJ cZ cO a S M ov) (k) (n) (pc + 3) lo (.int (ms_thr M) :: st)) : Go p l e R s m args below meth c D N0 mL Q (wW cI cJ cZ cO a S M ov) k n pc lo (.ref (a 5) :: st) :=
  go_callV C (ci := 2) (r9 := (RX2, TX2, 23)) (qi := 5) (As := []) (rest := st) rfl rfl (c_X2_thrown l D cI cJ cZ cO N0 a S M ov ) ⟨rfl, by decide +kernel, by decide +kernel⟩ bl_RL_92 bi_yX2_thrown bs_yX2_thrown bz_NoticeBookModel bc_yX2_thrown (show Option.map (fun d => d.parameters.length) (parseMethodDescriptor yX2_thrown.desc) = some 0 by decide +kernel) hR hcs hcat dk (fun r w2 h => by obtain ⟨rfl, rfl⟩ := h; exact g) rfl
set_option maxHeartbeats 4000000 in
set_option maxRecDepth 100000 in
theorem c_X2_in (l : Launch) (D : va_G) (cI cJ cZ cO : ClassId) (N0 : Nat) (a : Nat → Nat) (S : CS) (M : MS) (ov : Nat → Int64) (z y1 y2 : Int32)  : Ct l D (tysW cI cJ cZ cO) N0 yX2_in cX2_in 3 (some .boolean) { frames := 0, cells := 0, slots := 0, locals := 0 } [.int z, .int y1, .int y2] (wW cI cJ cZ cO a S M ov) (fun r w2 => r = some (.int (mIn z y1 y2)) ∧ w2 = wW cI cJ cZ cO a S M ov) := by
  refine ct_of (by decide +kernel) (Nat.le_of_ble_eq_true rfl) ?_
  intro p e s m args below meth c C
  have C : Cxt p s m args meth c D (tysW cI cJ cZ cO) N0 cX2_in 3 RX2 (some .boolean) "in" := C
  refine go_iload_n C 0 dX2_in_0 rfl rfl ?_
  refine go_iload_n C 1 dX2_in_1 rfl rfl ?_
  refine go_icmp_lt C (tgt := 14) dX2_in_2 (by decide) (fun c_1 => ?_) (fun c_1 => ?_)
  · refine go_iconst C (v := 0) dX2_in_14 (by decide) ?_
    exact go_zreturn C rfl rfl dX2_in_15 (by decide) (by decide) ⟨by simp only [mIn, if_pos c_1], rfl⟩
  · refine go_iload_n C 0 dX2_in_5 rfl rfl ?_
    refine go_iload_n C 2 dX2_in_6 rfl rfl ?_
    refine go_icmp_gt C (tgt := 14) dX2_in_7 (by decide) (fun c_2 => ?_) (fun c_2 => ?_)
    · refine go_iconst C (v := 0) dX2_in_14 (by decide) ?_
      exact go_zreturn C rfl rfl dX2_in_15 (by decide) (by decide) ⟨by simp only [mIn, if_neg c_1, if_pos c_2], rfl⟩
    · refine go_iconst C (v := 1) dX2_in_10 (by decide) ?_
      refine go_goto C (tgt := 15) dX2_in_11 (by decide) ?_
      exact go_zreturn C rfl rfl dX2_in_15 (by decide) (by decide) ⟨by simp only [mIn, if_neg c_1, if_neg c_2], rfl⟩
theorem k_RX2_73 {p : Program} {l : Launch} {e : Env} {R : Room} {s : State} {m : MethodId} {args : Array Value} {below : List Frame} {meth : Method} {c : Code} {D : va_G} {N0 mL : Nat} {cc : ByteArray} {nm : String} {ret : Option FieldType} {Q : State → Prop} {k n pc : Nat} {lo : List (Nat × Value)} {st : List Value} {cI cJ cZ cO : ClassId} {a : Nat → Nat} (C : Cxt p s m args meth c D (tysW cI cJ cZ cO) N0 cc mL RX2 ret nm) (S : CS) (M : MS) (ov : Nat → Int64) (z y1 y2 : Int32)  (hR : 0 + 1 ≤ R.frames ∧ 8 + (3 + 11) + 0 ≤ R.locals) (hcs : k + 0 ≤ R.cells ∧ n + 0 ≤ R.slots) (hcat : (st.map fun v => v.category).sum ≤ 8) (dk : decode cc pc = .ok (.invokestatic 73, 3)) (g : Go p l e R s m args below meth c D N0 mL Q (wW cI cJ cZ cO a S M ov) (k) (n) (pc + 3) lo (.int (mIn z y1 y2) :: st)) : Go p l e R s m args below meth c D N0 mL Q (wW cI cJ cZ cO a S M ov) k n pc lo (.int y2 :: .int y1 :: .int z :: st) :=
  go_callS C (As := [.int z, .int y1, .int y2]) (rest := st) (c_X2_in l D cI cJ cZ cO N0 a S M ov z y1 y2 ) ⟨rfl, by decide +kernel, by decide +kernel⟩ bl_RX2_73 bst_yX2_in bz_NoticeBookModel bc_yX2_in (show Option.map (fun d => d.parameters.length) (parseMethodDescriptor yX2_in.desc) = some 3 by decide +kernel) hR hcs hcat dk (fun r w2 h => by obtain ⟨rfl, rfl⟩ := h; exact g) rfl
set_option maxHeartbeats 4000000 in
set_option maxRecDepth 100000 in
theorem c_X2_isCustomer (l : Launch) (D : va_G) (cI cJ cZ cO : ClassId) (N0 : Nat) (a : Nat → Nat) (S : CS) (M : MS) (ov : Nat → Int64) (z : Int32)  : Ct l D (tysW cI cJ cZ cO) N0 yX2_isCustomer cX2_isCustomer 1 (some .boolean) { frames := 1, cells := 0, slots := 0, locals := 22 } [.int z] (wW cI cJ cZ cO a S M ov) (fun r w2 => r = some (.int (mCu z)) ∧ w2 = wW cI cJ cZ cO a S M ov) := by
  refine ct_of (by decide +kernel) (Nat.le_of_ble_eq_true rfl) ?_
  intro p e s m args below meth c C
  have C : Cxt p s m args meth c D (tysW cI cJ cZ cO) N0 cX2_isCustomer 1 RX2 (some .boolean) "isCustomer" := C
  refine go_iload_n C 0 dX2_isCustomer_0 rfl rfl ?_
  refine go_iconst C (v := 0) dX2_isCustomer_1 (by decide) ?_
  refine go_iconst C (v := 3) dX2_isCustomer_2 (by decide) ?_
  refine k_RX2_73 C S M ov z 0 3 ⟨(Nat.le_of_ble_eq_true rfl), (Nat.le_of_ble_eq_true rfl)⟩ ⟨(Nat.le_of_ble_eq_true rfl), (Nat.le_of_ble_eq_true rfl)⟩ (Nat.le_of_ble_eq_true rfl) dX2_isCustomer_3 ?_
  exact go_zreturn C rfl (nar_b (mIn_b z 0 3)) dX2_isCustomer_6 (by decide) (by decide) ⟨rfl, rfl⟩
theorem k_RX2_111 {p : Program} {l : Launch} {e : Env} {R : Room} {s : State} {m : MethodId} {args : Array Value} {below : List Frame} {meth : Method} {c : Code} {D : va_G} {N0 mL : Nat} {cc : ByteArray} {nm : String} {ret : Option FieldType} {Q : State → Prop} {k n pc : Nat} {lo : List (Nat × Value)} {st : List Value} {cI cJ cZ cO : ClassId} {a : Nat → Nat} (C : Cxt p s m args meth c D (tysW cI cJ cZ cO) N0 cc mL RX2 ret nm) (S : CS) (M : MS) (ov : Nat → Int64) (z : Int32)  (hR : 1 + 1 ≤ R.frames ∧ 8 + (1 + 11) + 22 ≤ R.locals) (hcs : k + 0 ≤ R.cells ∧ n + 0 ≤ R.slots) (hcat : (st.map fun v => v.category).sum ≤ 8) (dk : decode cc pc = .ok (.invokestatic 111, 3)) (g : Go p l e R s m args below meth c D N0 mL Q (wW cI cJ cZ cO a S M ov) (k) (n) (pc + 3) lo (.int (mCu z) :: st)) : Go p l e R s m args below meth c D N0 mL Q (wW cI cJ cZ cO a S M ov) k n pc lo (.int z :: st) :=
  go_callS C (As := [.int z]) (rest := st) (c_X2_isCustomer l D cI cJ cZ cO N0 a S M ov z ) ⟨rfl, by decide +kernel, by decide +kernel⟩ bl_RX2_111 bst_yX2_isCustomer bz_NoticeBookModel bc_yX2_isCustomer (show Option.map (fun d => d.parameters.length) (parseMethodDescriptor yX2_isCustomer.desc) = some 1 by decide +kernel) hR hcs hcat dk (fun r w2 h => by obtain ⟨rfl, rfl⟩ := h; exact g) rfl
set_option maxHeartbeats 4000000 in
set_option maxRecDepth 100000 in
theorem c_X2_isLot (l : Launch) (D : va_G) (cI cJ cZ cO : ClassId) (N0 : Nat) (a : Nat → Nat) (S : CS) (M : MS) (ov : Nat → Int64) (z : Int32) (hok : okM M) : Ct l D (tysW cI cJ cZ cO) N0 yX2_isLot cX2_isLot 2 (some .boolean) { frames := 1, cells := 0, slots := 0, locals := 22 } [.ref (a 5), .int z] (wW cI cJ cZ cO a S M ov) (fun r w2 => r = some (.int (mLo M z)) ∧ w2 = wW cI cJ cZ cO a S M ov) := by
  refine ct_of (by decide +kernel) (Nat.le_of_ble_eq_true rfl) ?_
  intro p e s m args below meth c C
  have C : Cxt p s m args meth c D (tysW cI cJ cZ cO) N0 cX2_isLot 2 RX2 (some .boolean) "isLot" := C
  refine go_iload_n C 1 dX2_isLot_0 rfl rfl ?_
  refine go_iconst C (v := 0) dX2_isLot_1 (by decide) ?_
  refine go_aload_n C 0 dX2_isLot_2 rfl rfl ?_
  refine gm_lotMany C dX2_isLot_3 ?_
  refine go_iconst C (v := 1) dX2_isLot_6 (by decide) ?_
  refine go_isub C dX2_isLot_7 ?_
  refine k_RX2_73 C S M ov z 0 ((nI (ms_n M)) - 1) ⟨(Nat.le_of_ble_eq_true rfl), (Nat.le_of_ble_eq_true rfl)⟩ ⟨(Nat.le_of_ble_eq_true rfl), (Nat.le_of_ble_eq_true rfl)⟩ (Nat.le_of_ble_eq_true rfl) dX2_isLot_8 ?_
  refine go_if_eq C (tgt := 27) dX2_isLot_11 (by decide) (fun c_1 => ?_) (fun c_1 => ?_)
  · refine go_iconst C (v := 0) dX2_isLot_27 (by decide) ?_
    exact go_zreturn C rfl rfl dX2_isLot_28 (by decide) (by decide) ⟨by simp only [mLo, if_pos c_1] <;> rfl, rfl⟩
  · refine go_aload_n C 0 dX2_isLot_14 rfl rfl ?_
    refine gm_isThere C dX2_isLot_15 ?_
    refine go_iload_n C 1 dX2_isLot_18 rfl rfl ?_
    refine lm_isThere C (mIn_lot hok.1 c_1).2 dX2_isLot_19 ?_
    refine go_if_eq C (tgt := 27) dX2_isLot_20 (by decide) (fun c_2 => ?_) (fun c_2 => ?_)
    · refine go_iconst C (v := 0) dX2_isLot_27 (by decide) ?_
      exact go_zreturn C rfl rfl dX2_isLot_28 (by decide) (by decide) ⟨by simp only [mLo, if_neg c_1, if_pos c_2] <;> rfl, rfl⟩
    · refine go_iconst C (v := 1) dX2_isLot_23 (by decide) ?_
      refine go_goto C (tgt := 28) dX2_isLot_24 (by decide) ?_
      exact go_zreturn C rfl rfl dX2_isLot_28 (by decide) (by decide) ⟨by simp only [mLo, if_neg c_1, if_neg c_2] <;> rfl, rfl⟩
theorem k_RX2_126 {p : Program} {l : Launch} {e : Env} {R : Room} {s : State} {m : MethodId} {args : Array Value} {below : List Frame} {meth : Method} {c : Code} {D : va_G} {N0 mL : Nat} {cc : ByteArray} {nm : String} {ret : Option FieldType} {Q : State → Prop} {k n pc : Nat} {lo : List (Nat × Value)} {st : List Value} {cI cJ cZ cO : ClassId} {a : Nat → Nat} (C : Cxt p s m args meth c D (tysW cI cJ cZ cO) N0 cc mL RX2 ret nm) (S : CS) (M : MS) (ov : Nat → Int64) (z : Int32) (hok : okM M) (hR : 1 + 1 ≤ R.frames ∧ 8 + (2 + 11) + 22 ≤ R.locals) (hcs : k + 0 ≤ R.cells ∧ n + 0 ≤ R.slots) (hcat : (st.map fun v => v.category).sum ≤ 8) (dk : decode cc pc = .ok (.invokevirtual 126, 3)) (g : Go p l e R s m args below meth c D N0 mL Q (wW cI cJ cZ cO a S M ov) (k) (n) (pc + 3) lo (.int (mLo M z) :: st)) : Go p l e R s m args below meth c D N0 mL Q (wW cI cJ cZ cO a S M ov) k n pc lo (.int z :: .ref (a 5) :: st) :=
  go_callV C (ci := 2) (r9 := (RX2, TX2, 23)) (qi := 5) (As := [.int z]) (rest := st) rfl rfl (c_X2_isLot l D cI cJ cZ cO N0 a S M ov z hok) ⟨rfl, by decide +kernel, by decide +kernel⟩ bl_RX2_126 bi_yX2_isLot bs_yX2_isLot bz_NoticeBookModel bc_yX2_isLot (show Option.map (fun d => d.parameters.length) (parseMethodDescriptor yX2_isLot.desc) = some 1 by decide +kernel) hR hcs hcat dk (fun r w2 h => by obtain ⟨rfl, rfl⟩ := h; exact g) rfl
set_option maxHeartbeats 4000000 in
set_option maxRecDepth 100000 in
theorem c_X2_isNotice (l : Launch) (D : va_G) (cI cJ cZ cO : ClassId) (N0 : Nat) (a : Nat → Nat) (S : CS) (M : MS) (ov : Nat → Int64) (z cu : Int32) (hz : vp_in z 40) : Ct l D (tysW cI cJ cZ cO) N0 yX2_isNotice cX2_isNotice 3 (some .boolean) { frames := 0, cells := 0, slots := 0, locals := 0 } [.ref (a 5), .int z, .int cu] (wW cI cJ cZ cO a S M ov) (fun r w2 => r = some (.int (mNoM M (Int32.toNatClampNeg z) cu)) ∧ w2 = wW cI cJ cZ cO a S M ov) := by
  refine ct_of (by decide +kernel) (Nat.le_of_ble_eq_true rfl) ?_
  intro p e s m args below meth c C
  have C : Cxt p s m args meth c D (tysW cI cJ cZ cO) N0 cX2_isNotice 3 RX2 (some .boolean) "isNotice" := C
  refine go_aload_n C 0 dX2_isNotice_0 rfl rfl ?_
  refine gm_isThere C dX2_isNotice_1 ?_
  refine go_iload_n C 1 dX2_isNotice_4 rfl rfl ?_
  refine lm_isThere C hz dX2_isNotice_5 ?_
  refine go_if_eq C (tgt := 32) dX2_isNotice_6 (by decide) (fun c_1 => ?_) (fun c_1 => ?_)
  · refine go_iconst C (v := 0) dX2_isNotice_32 (by decide) ?_
    exact go_zreturn C rfl rfl dX2_isNotice_33 (by decide) (by decide) ⟨by simp only [mNo, if_pos c_1] <;> rfl, rfl⟩
  · refine go_aload_n C 0 dX2_isNotice_9 rfl rfl ?_
    refine gm_isTerm C dX2_isNotice_10 ?_
    refine go_iload_n C 1 dX2_isNotice_13 rfl rfl ?_
    refine lm_isTerm C hz dX2_isNotice_14 ?_
    refine go_if_ne C (tgt := 32) dX2_isNotice_15 (by decide) (fun c_2 => ?_) (fun c_2 => ?_)
    · refine go_iconst C (v := 0) dX2_isNotice_32 (by decide) ?_
      exact go_zreturn C rfl rfl dX2_isNotice_33 (by decide) (by decide) ⟨by simp only [mNo, if_neg c_1, if_neg c_2] <;> rfl, rfl⟩
    · refine go_aload_n C 0 dX2_isNotice_18 rfl rfl ?_
      refine gm_owners C dX2_isNotice_19 ?_
      refine go_iload_n C 1 dX2_isNotice_22 rfl rfl ?_
      refine lm_owners C hz dX2_isNotice_23 ?_
      refine go_iload_n C 2 dX2_isNotice_24 rfl rfl ?_
      refine go_icmp_ne C (tgt := 32) dX2_isNotice_25 (by decide) (fun c_3 => ?_) (fun c_3 => ?_)
      · refine go_iconst C (v := 0) dX2_isNotice_32 (by decide) ?_
        exact go_zreturn C rfl rfl dX2_isNotice_33 (by decide) (by decide) ⟨by simp only [mNo, if_neg c_1, if_pos c_2, if_neg c_3] <;> rfl, rfl⟩
      · refine go_iconst C (v := 1) dX2_isNotice_28 (by decide) ?_
        refine go_goto C (tgt := 33) dX2_isNotice_29 (by decide) ?_
        exact go_zreturn C rfl rfl dX2_isNotice_33 (by decide) (by decide) ⟨by simp only [mNo, if_neg c_1, if_pos c_2, if_pos c_3] <;> rfl, rfl⟩
theorem k_RX2_84 {p : Program} {l : Launch} {e : Env} {R : Room} {s : State} {m : MethodId} {args : Array Value} {below : List Frame} {meth : Method} {c : Code} {D : va_G} {N0 mL : Nat} {cc : ByteArray} {nm : String} {ret : Option FieldType} {Q : State → Prop} {k n pc : Nat} {lo : List (Nat × Value)} {st : List Value} {cI cJ cZ cO : ClassId} {a : Nat → Nat} (C : Cxt p s m args meth c D (tysW cI cJ cZ cO) N0 cc mL RX2 ret nm) (S : CS) (M : MS) (ov : Nat → Int64) (z cu : Int32) (hz : vp_in z 40) (hR : 0 + 1 ≤ R.frames ∧ 8 + (3 + 11) + 0 ≤ R.locals) (hcs : k + 0 ≤ R.cells ∧ n + 0 ≤ R.slots) (hcat : (st.map fun v => v.category).sum ≤ 8) (dk : decode cc pc = .ok (.invokevirtual 84, 3)) (g : Go p l e R s m args below meth c D N0 mL Q (wW cI cJ cZ cO a S M ov) (k) (n) (pc + 3) lo (.int (mNoM M (Int32.toNatClampNeg z) cu) :: st)) : Go p l e R s m args below meth c D N0 mL Q (wW cI cJ cZ cO a S M ov) k n pc lo (.int cu :: .int z :: .ref (a 5) :: st) :=
  go_callV C (ci := 2) (r9 := (RX2, TX2, 23)) (qi := 5) (As := [.int z, .int cu]) (rest := st) rfl rfl (c_X2_isNotice l D cI cJ cZ cO N0 a S M ov z cu hz) ⟨rfl, by decide +kernel, by decide +kernel⟩ bl_RX2_84 bi_yX2_isNotice bs_yX2_isNotice bz_NoticeBookModel bc_yX2_isNotice (show Option.map (fun d => d.parameters.length) (parseMethodDescriptor yX2_isNotice.desc) = some 2 by decide +kernel) hR hcs hcat dk (fun r w2 h => by obtain ⟨rfl, rfl⟩ := h; exact g) rfl
set_option maxHeartbeats 4000000 in
set_option maxRecDepth 100000 in
theorem c_X2_sumBelow (l : Launch) (D : va_G) (cI cJ cZ cO : ClassId) (N0 : Nat) (a : Nat → Nat) (S : CS) (M : MS) (ov : Nat → Int64) (cu y : Int32) (b : Nat) (hy : y = nI b) (hb : b ≤ 40) : Ct l D (tysW cI cJ cZ cO) N0 yX2_sumBelow cX2_sumBelow 5 (some .int) { frames := 1, cells := 0, slots := 0, locals := 22 } [.ref (a 5), .int cu, .int y] (wW cI cJ cZ cO a S M ov) (fun r w2 => r = some (.int (mSuM M cu b)) ∧ w2 = wW cI cJ cZ cO a S M ov) := by
  refine ct_of (by decide +kernel) (Nat.le_of_ble_eq_true rfl) ?_
  intro p e s m args below meth c C
  have C : Cxt p s m args meth c D (tysW cI cJ cZ cO) N0 cX2_sumBelow 5 RX2 (some .int) "sumBelow" := C
  subst hy
  refine go_iconst C (v := 0) dX2_sumBelow_0 (by decide) ?_
  refine go_istore_n C (lo' := [(3, .int 0), (0, .ref (a 5)), (1, .int cu), (2, .int (nI b))]) dX2_sumBelow_1 rfl (by decide) rfl ?_
  refine go_iconst C (v := 0) dX2_sumBelow_2 (by decide) ?_
  refine go_istore C (lo' := [(4, .int 0), (3, .int 0), (0, .ref (a 5)), (1, .int cu), (2, .int (nI b))]) dX2_sumBelow_3 (by decide) rfl ?_
  refine go_for (b) (fun i => True) (fun i => wW cI cJ cZ cO a S M ov) (fun i => [(4, .int (nI i)), (3, .int (mSuM M cu i)), (0, .ref (a 5)), (1, .int cu), (2, .int (nI b))]) ⟨rfl, rfl⟩ trivial (fun i hi_i hI_i ih_i => ?_) (fun hI_i => ?_)
  · refine go_iload C 0 dX2_sumBelow_5 rfl ?_
    refine go_iload_n C 4 dX2_sumBelow_7 rfl rfl ?_
    refine go_icmp_ge C (tgt := 41) dX2_sumBelow_8 (by decide) (fun c_1 => absurd c_1 (nI_nge hi_i hb)) (fun c_1 => ?_)
    refine go_iload_n C 1 dX2_sumBelow_11 rfl rfl ?_
    refine go_aload_n C 2 dX2_sumBelow_12 rfl rfl ?_
    refine go_iload C 0 dX2_sumBelow_13 rfl ?_
    refine go_iload_n C 3 dX2_sumBelow_15 rfl rfl ?_
    refine k_RX2_84 C S M ov (nI i) cu (nI_vin (Nat.lt_of_lt_of_le hi_i hb)) ⟨(Nat.le_of_ble_eq_true rfl), (Nat.le_of_ble_eq_true rfl)⟩ ⟨(Nat.le_of_ble_eq_true rfl), (Nat.le_of_ble_eq_true rfl)⟩ (Nat.le_of_ble_eq_true rfl) dX2_sumBelow_16 ?_
    rw [cl_nI (i := i) (by have := hi_i; have := hb; omega)]
    refine go_if_eq C (tgt := 32) dX2_sumBelow_19 (by decide) (fun c_2 => ?_) (fun c_2 => ?_)
    · refine go_iconst C (v := 0) dX2_sumBelow_32 (by decide) ?_
      refine go_iadd C dX2_sumBelow_33 ?_
      refine go_istore_n C (lo' := [(3, .int ((mSuM M cu i) + 0)), (4, .int (nI i)), (0, .ref (a 5)), (1, .int cu), (2, .int (nI b))]) dX2_sumBelow_34 rfl (by decide) rfl ?_
      refine go_iinc C (v := nI (i + 1)) (lo' := [(4, .int (nI (i + 1))), (3, .int ((mSuM M cu i) + 0)), (0, .ref (a 5)), (1, .int cu), (2, .int (nI b))]) 1 dX2_sumBelow_35 rfl (nI_1 _) (by decide) rfl ?_
      refine go_goto C (tgt := 5) dX2_sumBelow_38 (by decide) ?_
      refine go_lo (lo' := [(4, .int (nI (i + 1))), (3, .int (mSuM M cu (i + 1))), (0, .ref (a 5)), (1, .int cu), (2, .int (nI b))]) [0, 1, 2, 3, 4] (by rw [msu_0 c_2]; rfl) ?_
      exact ih_i trivial
    · refine go_aload_n C 2 dX2_sumBelow_22 rfl rfl ?_
      refine gm_principals C dX2_sumBelow_23 ?_
      refine go_iload C 0 dX2_sumBelow_26 rfl ?_
      refine lm_principals C (nI_vin (Nat.lt_of_lt_of_le hi_i hb)) dX2_sumBelow_28 ?_
      rw [cl_nI (i := i) (by have := hi_i; have := hb; omega)]
      refine go_goto C (tgt := 33) dX2_sumBelow_29 (by decide) ?_
      refine go_iadd C dX2_sumBelow_33 ?_
      refine go_istore_n C (lo' := [(3, .int ((mSuM M cu i) + (ms_pr M i))), (4, .int (nI i)), (0, .ref (a 5)), (1, .int cu), (2, .int (nI b))]) dX2_sumBelow_34 rfl (by decide) rfl ?_
      refine go_iinc C (v := nI (i + 1)) (lo' := [(4, .int (nI (i + 1))), (3, .int ((mSuM M cu i) + (ms_pr M i))), (0, .ref (a 5)), (1, .int cu), (2, .int (nI b))]) 1 dX2_sumBelow_35 rfl (nI_1 _) (by decide) rfl ?_
      refine go_goto C (tgt := 5) dX2_sumBelow_38 (by decide) ?_
      refine go_lo (lo' := [(4, .int (nI (i + 1))), (3, .int (mSuM M cu (i + 1))), (0, .ref (a 5)), (1, .int cu), (2, .int (nI b))]) [0, 1, 2, 3, 4] (by rw [msu_1 c_2]; rfl) ?_
      exact ih_i trivial
  · refine go_iload C 0 dX2_sumBelow_5 rfl ?_
    refine go_iload_n C 4 dX2_sumBelow_7 rfl rfl ?_
    refine go_icmp_ge C (tgt := 41) dX2_sumBelow_8 (by decide) (fun c_3 => ?_) (fun c_3 => absurd (nI_ger hb) c_3)
    refine go_iload_n C 1 dX2_sumBelow_41 rfl rfl ?_
    exact go_ireturn C rfl dX2_sumBelow_42 (by decide) (by decide) ⟨rfl, rfl⟩
theorem k_RX2_94 {p : Program} {l : Launch} {e : Env} {R : Room} {s : State} {m : MethodId} {args : Array Value} {below : List Frame} {meth : Method} {c : Code} {D : va_G} {N0 mL : Nat} {cc : ByteArray} {nm : String} {ret : Option FieldType} {Q : State → Prop} {k n pc : Nat} {lo : List (Nat × Value)} {st : List Value} {cI cJ cZ cO : ClassId} {a : Nat → Nat} (C : Cxt p s m args meth c D (tysW cI cJ cZ cO) N0 cc mL RX2 ret nm) (S : CS) (M : MS) (ov : Nat → Int64) (cu y : Int32) (b : Nat) (hy : y = nI b) (hb : b ≤ 40) (hR : 1 + 1 ≤ R.frames ∧ 8 + (5 + 11) + 22 ≤ R.locals) (hcs : k + 0 ≤ R.cells ∧ n + 0 ≤ R.slots) (hcat : (st.map fun v => v.category).sum ≤ 8) (dk : decode cc pc = .ok (.invokevirtual 94, 3)) (g : Go p l e R s m args below meth c D N0 mL Q (wW cI cJ cZ cO a S M ov) (k) (n) (pc + 3) lo (.int (mSuM M cu b) :: st)) : Go p l e R s m args below meth c D N0 mL Q (wW cI cJ cZ cO a S M ov) k n pc lo (.int y :: .int cu :: .ref (a 5) :: st) :=
  go_callV C (ci := 2) (r9 := (RX2, TX2, 23)) (qi := 5) (As := [.int cu, .int y]) (rest := st) rfl rfl (c_X2_sumBelow l D cI cJ cZ cO N0 a S M ov cu y b hy hb) ⟨rfl, by decide +kernel, by decide +kernel⟩ bl_RX2_94 bi_yX2_sumBelow bs_yX2_sumBelow bz_NoticeBookModel bc_yX2_sumBelow (show Option.map (fun d => d.parameters.length) (parseMethodDescriptor yX2_sumBelow.desc) = some 2 by decide +kernel) hR hcs hcat dk (fun r w2 h => by obtain ⟨rfl, rfl⟩ := h; exact g) rfl
set_option maxHeartbeats 4000000 in
set_option maxRecDepth 100000 in
theorem c_X2_partsOf (l : Launch) (D : va_G) (cI cJ cZ cO : ClassId) (N0 : Nat) (a : Nat → Nat) (S : CS) (M : MS) (ov : Nat → Int64) (z : Int32)  : Ct l D (tysW cI cJ cZ cO) N0 yX2_partsOf cX2_partsOf 6 (some .long) { frames := 0, cells := 0, slots := 0, locals := 0 } [.ref (a 5), .int z] (wW cI cJ cZ cO a S M ov) (fun r w2 => r = some (.long (mPo (ms_rates M) z)) ∧ w2 = wW cI cJ cZ cO a S M ov) := by
  refine ct_of (by decide +kernel) (Nat.le_of_ble_eq_true rfl) ?_
  intro p e s m args below meth c C
  have C : Cxt p s m args meth c D (tysW cI cJ cZ cO) N0 cX2_partsOf 6 RX2 (some .long) "partsOf" := C
  refine go_iload_n C 1 dX2_partsOf_0 rfl rfl ?_
  refine go_ldc C bk_RX2_88 dX2_partsOf_1 ?_
  refine go_icmp_ge C (tgt := 11) dX2_partsOf_3 (by decide) (fun c_1 => ?_) (fun c_1 => ?_)
  · refine go_ldc2 C bk_RX2_89 dX2_partsOf_11 ?_
    refine go_lstore_n C (lo' := [(2, .long 100000), (0, .ref (a 5)), (1, .int z)]) dX2_partsOf_14 rfl (by decide) rfl ?_
    refine go_iload_n C 2 dX2_partsOf_15 rfl rfl ?_
    refine go_ldc C bk_RX2_91 dX2_partsOf_16 ?_
    refine go_icmp_ge C (tgt := 28) dX2_partsOf_18 (by decide) (fun c_2 => ?_) (fun c_2 => ?_)
    · refine go_ldc2 C bk_RX2_92 dX2_partsOf_28 ?_
      refine go_lstore C (lo' := [(4, .long 900000), (2, .long 100000), (0, .ref (a 5)), (1, .int z)]) dX2_partsOf_31 (by decide) rfl ?_
      refine go_lload_n C 1 dX2_partsOf_33 rfl rfl ?_
      refine go_aload_n C 2 dX2_partsOf_34 rfl rfl ?_
      refine gm_rates C dX2_partsOf_35 ?_
      refine go_iconst C (v := 0) dX2_partsOf_38 (by decide) ?_
      refine lm_rates C vin_0_3 dX2_partsOf_39 ?_
      refine go_i2l C dX2_partsOf_40 ?_
      refine go_lmul C dX2_partsOf_41 ?_
      refine go_lload C 0 dX2_partsOf_42 rfl ?_
      refine go_aload_n C 2 dX2_partsOf_44 rfl rfl ?_
      refine gm_rates C dX2_partsOf_45 ?_
      refine go_iconst C (v := 1) dX2_partsOf_48 (by decide) ?_
      refine lm_rates C vin_1_3 dX2_partsOf_49 ?_
      refine go_i2l C dX2_partsOf_50 ?_
      refine go_lmul C dX2_partsOf_51 ?_
      refine go_ladd C dX2_partsOf_52 ?_
      refine go_iload_n C 3 dX2_partsOf_53 rfl rfl ?_
      refine go_i2l C dX2_partsOf_54 ?_
      refine go_lload_n C 1 dX2_partsOf_55 rfl rfl ?_
      refine go_lsub C dX2_partsOf_56 ?_
      refine go_lload C 0 dX2_partsOf_57 rfl ?_
      refine go_lsub C dX2_partsOf_59 ?_
      refine go_aload_n C 2 dX2_partsOf_60 rfl rfl ?_
      refine gm_rates C dX2_partsOf_61 ?_
      refine go_iconst C (v := 2) dX2_partsOf_64 (by decide) ?_
      refine lm_rates C vin_2_3 dX2_partsOf_65 ?_
      refine go_i2l C dX2_partsOf_66 ?_
      refine go_lmul C dX2_partsOf_67 ?_
      refine go_ladd C dX2_partsOf_68 ?_
      exact go_lreturn C rfl dX2_partsOf_69 (by decide) (by decide) ⟨by simp only [mPo, mP1, mP2, if_pos c_1, if_pos c_2] <;> rfl, rfl⟩
    · refine go_iload_n C 2 dX2_partsOf_21 rfl rfl ?_
      refine go_i2l C dX2_partsOf_22 ?_
      refine go_lload_n C 0 dX2_partsOf_23 rfl rfl ?_
      refine go_lsub C dX2_partsOf_24 ?_
      refine go_goto C (tgt := 31) dX2_partsOf_25 (by decide) ?_
      refine go_lstore C (lo' := [(4, .long ((Int32.toInt64 z) - 100000)), (2, .long 100000), (0, .ref (a 5)), (1, .int z)]) dX2_partsOf_31 (by decide) rfl ?_
      refine go_lload_n C 1 dX2_partsOf_33 rfl rfl ?_
      refine go_aload_n C 2 dX2_partsOf_34 rfl rfl ?_
      refine gm_rates C dX2_partsOf_35 ?_
      refine go_iconst C (v := 0) dX2_partsOf_38 (by decide) ?_
      refine lm_rates C vin_0_3 dX2_partsOf_39 ?_
      refine go_i2l C dX2_partsOf_40 ?_
      refine go_lmul C dX2_partsOf_41 ?_
      refine go_lload C 0 dX2_partsOf_42 rfl ?_
      refine go_aload_n C 2 dX2_partsOf_44 rfl rfl ?_
      refine gm_rates C dX2_partsOf_45 ?_
      refine go_iconst C (v := 1) dX2_partsOf_48 (by decide) ?_
      refine lm_rates C vin_1_3 dX2_partsOf_49 ?_
      refine go_i2l C dX2_partsOf_50 ?_
      refine go_lmul C dX2_partsOf_51 ?_
      refine go_ladd C dX2_partsOf_52 ?_
      refine go_iload_n C 3 dX2_partsOf_53 rfl rfl ?_
      refine go_i2l C dX2_partsOf_54 ?_
      refine go_lload_n C 1 dX2_partsOf_55 rfl rfl ?_
      refine go_lsub C dX2_partsOf_56 ?_
      refine go_lload C 0 dX2_partsOf_57 rfl ?_
      refine go_lsub C dX2_partsOf_59 ?_
      refine go_aload_n C 2 dX2_partsOf_60 rfl rfl ?_
      refine gm_rates C dX2_partsOf_61 ?_
      refine go_iconst C (v := 2) dX2_partsOf_64 (by decide) ?_
      refine lm_rates C vin_2_3 dX2_partsOf_65 ?_
      refine go_i2l C dX2_partsOf_66 ?_
      refine go_lmul C dX2_partsOf_67 ?_
      refine go_ladd C dX2_partsOf_68 ?_
      exact go_lreturn C rfl dX2_partsOf_69 (by decide) (by decide) ⟨by simp only [mPo, mP1, mP2, if_pos c_1, if_neg c_2] <;> rfl, rfl⟩
  · refine go_iload_n C 1 dX2_partsOf_6 rfl rfl ?_
    refine go_i2l C dX2_partsOf_7 ?_
    refine go_goto C (tgt := 14) dX2_partsOf_8 (by decide) ?_
    refine go_lstore_n C (lo' := [(2, .long (Int32.toInt64 z)), (0, .ref (a 5)), (1, .int z)]) dX2_partsOf_14 rfl (by decide) rfl ?_
    refine go_iload_n C 2 dX2_partsOf_15 rfl rfl ?_
    refine go_ldc C bk_RX2_91 dX2_partsOf_16 ?_
    refine go_icmp_ge C (tgt := 28) dX2_partsOf_18 (by decide) (fun c_3 => ?_) (fun c_3 => ?_)
    · refine go_ldc2 C bk_RX2_92 dX2_partsOf_28 ?_
      refine go_lstore C (lo' := [(4, .long 900000), (2, .long (Int32.toInt64 z)), (0, .ref (a 5)), (1, .int z)]) dX2_partsOf_31 (by decide) rfl ?_
      refine go_lload_n C 1 dX2_partsOf_33 rfl rfl ?_
      refine go_aload_n C 2 dX2_partsOf_34 rfl rfl ?_
      refine gm_rates C dX2_partsOf_35 ?_
      refine go_iconst C (v := 0) dX2_partsOf_38 (by decide) ?_
      refine lm_rates C vin_0_3 dX2_partsOf_39 ?_
      refine go_i2l C dX2_partsOf_40 ?_
      refine go_lmul C dX2_partsOf_41 ?_
      refine go_lload C 0 dX2_partsOf_42 rfl ?_
      refine go_aload_n C 2 dX2_partsOf_44 rfl rfl ?_
      refine gm_rates C dX2_partsOf_45 ?_
      refine go_iconst C (v := 1) dX2_partsOf_48 (by decide) ?_
      refine lm_rates C vin_1_3 dX2_partsOf_49 ?_
      refine go_i2l C dX2_partsOf_50 ?_
      refine go_lmul C dX2_partsOf_51 ?_
      refine go_ladd C dX2_partsOf_52 ?_
      refine go_iload_n C 3 dX2_partsOf_53 rfl rfl ?_
      refine go_i2l C dX2_partsOf_54 ?_
      refine go_lload_n C 1 dX2_partsOf_55 rfl rfl ?_
      refine go_lsub C dX2_partsOf_56 ?_
      refine go_lload C 0 dX2_partsOf_57 rfl ?_
      refine go_lsub C dX2_partsOf_59 ?_
      refine go_aload_n C 2 dX2_partsOf_60 rfl rfl ?_
      refine gm_rates C dX2_partsOf_61 ?_
      refine go_iconst C (v := 2) dX2_partsOf_64 (by decide) ?_
      refine lm_rates C vin_2_3 dX2_partsOf_65 ?_
      refine go_i2l C dX2_partsOf_66 ?_
      refine go_lmul C dX2_partsOf_67 ?_
      refine go_ladd C dX2_partsOf_68 ?_
      exact go_lreturn C rfl dX2_partsOf_69 (by decide) (by decide) ⟨by simp only [mPo, mP1, mP2, if_neg c_1, if_pos c_3] <;> rfl, rfl⟩
    · refine go_iload_n C 2 dX2_partsOf_21 rfl rfl ?_
      refine go_i2l C dX2_partsOf_22 ?_
      refine go_lload_n C 0 dX2_partsOf_23 rfl rfl ?_
      refine go_lsub C dX2_partsOf_24 ?_
      refine go_goto C (tgt := 31) dX2_partsOf_25 (by decide) ?_
      refine go_lstore C (lo' := [(4, .long ((Int32.toInt64 z) - (Int32.toInt64 z))), (2, .long (Int32.toInt64 z)), (0, .ref (a 5)), (1, .int z)]) dX2_partsOf_31 (by decide) rfl ?_
      refine go_lload_n C 1 dX2_partsOf_33 rfl rfl ?_
      refine go_aload_n C 2 dX2_partsOf_34 rfl rfl ?_
      refine gm_rates C dX2_partsOf_35 ?_
      refine go_iconst C (v := 0) dX2_partsOf_38 (by decide) ?_
      refine lm_rates C vin_0_3 dX2_partsOf_39 ?_
      refine go_i2l C dX2_partsOf_40 ?_
      refine go_lmul C dX2_partsOf_41 ?_
      refine go_lload C 0 dX2_partsOf_42 rfl ?_
      refine go_aload_n C 2 dX2_partsOf_44 rfl rfl ?_
      refine gm_rates C dX2_partsOf_45 ?_
      refine go_iconst C (v := 1) dX2_partsOf_48 (by decide) ?_
      refine lm_rates C vin_1_3 dX2_partsOf_49 ?_
      refine go_i2l C dX2_partsOf_50 ?_
      refine go_lmul C dX2_partsOf_51 ?_
      refine go_ladd C dX2_partsOf_52 ?_
      refine go_iload_n C 3 dX2_partsOf_53 rfl rfl ?_
      refine go_i2l C dX2_partsOf_54 ?_
      refine go_lload_n C 1 dX2_partsOf_55 rfl rfl ?_
      refine go_lsub C dX2_partsOf_56 ?_
      refine go_lload C 0 dX2_partsOf_57 rfl ?_
      refine go_lsub C dX2_partsOf_59 ?_
      refine go_aload_n C 2 dX2_partsOf_60 rfl rfl ?_
      refine gm_rates C dX2_partsOf_61 ?_
      refine go_iconst C (v := 2) dX2_partsOf_64 (by decide) ?_
      refine lm_rates C vin_2_3 dX2_partsOf_65 ?_
      refine go_i2l C dX2_partsOf_66 ?_
      refine go_lmul C dX2_partsOf_67 ?_
      refine go_ladd C dX2_partsOf_68 ?_
      exact go_lreturn C rfl dX2_partsOf_69 (by decide) (by decide) ⟨by simp only [mPo, mP1, mP2, if_neg c_1, if_neg c_3] <;> rfl, rfl⟩
theorem k_RX2_102 {p : Program} {l : Launch} {e : Env} {R : Room} {s : State} {m : MethodId} {args : Array Value} {below : List Frame} {meth : Method} {c : Code} {D : va_G} {N0 mL : Nat} {cc : ByteArray} {nm : String} {ret : Option FieldType} {Q : State → Prop} {k n pc : Nat} {lo : List (Nat × Value)} {st : List Value} {cI cJ cZ cO : ClassId} {a : Nat → Nat} (C : Cxt p s m args meth c D (tysW cI cJ cZ cO) N0 cc mL RX2 ret nm) (S : CS) (M : MS) (ov : Nat → Int64) (z : Int32)  (hR : 0 + 1 ≤ R.frames ∧ 8 + (6 + 11) + 0 ≤ R.locals) (hcs : k + 0 ≤ R.cells ∧ n + 0 ≤ R.slots) (hcat : (st.map fun v => v.category).sum ≤ 8) (dk : decode cc pc = .ok (.invokevirtual 102, 3)) (g : Go p l e R s m args below meth c D N0 mL Q (wW cI cJ cZ cO a S M ov) (k) (n) (pc + 3) lo (.long (mPo (ms_rates M) z) :: st)) : Go p l e R s m args below meth c D N0 mL Q (wW cI cJ cZ cO a S M ov) k n pc lo (.int z :: .ref (a 5) :: st) :=
  go_callV C (ci := 2) (r9 := (RX2, TX2, 23)) (qi := 5) (As := [.int z]) (rest := st) rfl rfl (c_X2_partsOf l D cI cJ cZ cO N0 a S M ov z ) ⟨rfl, by decide +kernel, by decide +kernel⟩ bl_RX2_102 bi_yX2_partsOf bs_yX2_partsOf bz_NoticeBookModel bc_yX2_partsOf (show Option.map (fun d => d.parameters.length) (parseMethodDescriptor yX2_partsOf.desc) = some 1 by decide +kernel) hR hcs hcat dk (fun r w2 h => by obtain ⟨rfl, rfl⟩ := h; exact g) rfl
set_option maxHeartbeats 4000000 in
set_option maxRecDepth 100000 in
theorem c_X2_rateFor (l : Launch) (D : va_G) (cI cJ cZ cO : ClassId) (N0 : Nat) (a : Nat → Nat) (S : CS) (M : MS) (ov : Nat → Int64) (z : Int32)  : Ct l D (tysW cI cJ cZ cO) N0 yX2_rateFor cX2_rateFor 2 (some .int) { frames := 0, cells := 0, slots := 0, locals := 0 } [.ref (a 5), .int z] (wW cI cJ cZ cO a S M ov) (fun r w2 => r = some (.int (mRf (ms_rates M) z)) ∧ w2 = wW cI cJ cZ cO a S M ov) := by
  refine ct_of (by decide +kernel) (Nat.le_of_ble_eq_true rfl) ?_
  intro p e s m args below meth c C
  have C : Cxt p s m args meth c D (tysW cI cJ cZ cO) N0 cX2_rateFor 2 RX2 (some .int) "rateFor" := C
  refine go_iload_n C 1 dX2_rateFor_0 rfl rfl ?_
  refine go_ldc C bk_RX2_88 dX2_rateFor_1 ?_
  refine go_icmp_gt C (tgt := 15) dX2_rateFor_3 (by decide) (fun c_1 => ?_) (fun c_1 => ?_)
  · refine go_iload_n C 1 dX2_rateFor_15 rfl rfl ?_
    refine go_ldc C bk_RX2_91 dX2_rateFor_16 ?_
    refine go_icmp_gt C (tgt := 30) dX2_rateFor_18 (by decide) (fun c_2 => ?_) (fun c_2 => ?_)
    · refine go_aload_n C 0 dX2_rateFor_30 rfl rfl ?_
      refine gm_rates C dX2_rateFor_31 ?_
      refine go_iconst C (v := 2) dX2_rateFor_34 (by decide) ?_
      refine lm_rates C vin_2_3 dX2_rateFor_35 ?_
      exact go_ireturn C rfl dX2_rateFor_36 (by decide) (by decide) ⟨by simp only [mRf, if_pos c_1, if_pos c_2] <;> rfl, rfl⟩
    · refine go_aload_n C 0 dX2_rateFor_21 rfl rfl ?_
      refine gm_rates C dX2_rateFor_22 ?_
      refine go_iconst C (v := 1) dX2_rateFor_25 (by decide) ?_
      refine lm_rates C vin_1_3 dX2_rateFor_26 ?_
      refine go_goto C (tgt := 36) dX2_rateFor_27 (by decide) ?_
      exact go_ireturn C rfl dX2_rateFor_36 (by decide) (by decide) ⟨by simp only [mRf, if_pos c_1, if_neg c_2] <;> rfl, rfl⟩
  · refine go_aload_n C 0 dX2_rateFor_6 rfl rfl ?_
    refine gm_rates C dX2_rateFor_7 ?_
    refine go_iconst C (v := 0) dX2_rateFor_10 (by decide) ?_
    refine lm_rates C vin_0_3 dX2_rateFor_11 ?_
    refine go_goto C (tgt := 36) dX2_rateFor_12 (by decide) ?_
    exact go_ireturn C rfl dX2_rateFor_36 (by decide) (by decide) ⟨by simp only [mRf, if_neg c_1] <;> rfl, rfl⟩
theorem k_RX2_98 {p : Program} {l : Launch} {e : Env} {R : Room} {s : State} {m : MethodId} {args : Array Value} {below : List Frame} {meth : Method} {c : Code} {D : va_G} {N0 mL : Nat} {cc : ByteArray} {nm : String} {ret : Option FieldType} {Q : State → Prop} {k n pc : Nat} {lo : List (Nat × Value)} {st : List Value} {cI cJ cZ cO : ClassId} {a : Nat → Nat} (C : Cxt p s m args meth c D (tysW cI cJ cZ cO) N0 cc mL RX2 ret nm) (S : CS) (M : MS) (ov : Nat → Int64) (z : Int32)  (hR : 0 + 1 ≤ R.frames ∧ 8 + (2 + 11) + 0 ≤ R.locals) (hcs : k + 0 ≤ R.cells ∧ n + 0 ≤ R.slots) (hcat : (st.map fun v => v.category).sum ≤ 8) (dk : decode cc pc = .ok (.invokevirtual 98, 3)) (g : Go p l e R s m args below meth c D N0 mL Q (wW cI cJ cZ cO a S M ov) (k) (n) (pc + 3) lo (.int (mRf (ms_rates M) z) :: st)) : Go p l e R s m args below meth c D N0 mL Q (wW cI cJ cZ cO a S M ov) k n pc lo (.int z :: .ref (a 5) :: st) :=
  go_callV C (ci := 2) (r9 := (RX2, TX2, 23)) (qi := 5) (As := [.int z]) (rest := st) rfl rfl (c_X2_rateFor l D cI cJ cZ cO N0 a S M ov z ) ⟨rfl, by decide +kernel, by decide +kernel⟩ bl_RX2_98 bi_yX2_rateFor bs_yX2_rateFor bz_NoticeBookModel bc_yX2_rateFor (show Option.map (fun d => d.parameters.length) (parseMethodDescriptor yX2_rateFor.desc) = some 1 by decide +kernel) hR hcs hcat dk (fun r w2 h => by obtain ⟨rfl, rfl⟩ := h; exact g) rfl
set_option maxHeartbeats 4000000 in
set_option maxRecDepth 100000 in
theorem c_X2_partsNow (l : Launch) (D : va_G) (cI cJ cZ cO : ClassId) (N0 : Nat) (a : Nat → Nat) (S : CS) (M : MS) (ov : Nat → Int64) (z : Int32) (hz : vp_in z 40) (hok : okM M) : Ct l D (tysW cI cJ cZ cO) N0 yX2_partsNow cX2_partsNow 3 (some .long) { frames := 2, cells := 0, slots := 0, locals := 46 } [.ref (a 5), .int z] (wW cI cJ cZ cO a S M ov) (fun r w2 => r = some (.long (mPn M (Int32.toNatClampNeg z))) ∧ w2 = wW cI cJ cZ cO a S M ov) := by
  refine ct_of (by decide +kernel) (Nat.le_of_ble_eq_true rfl) ?_
  intro p e s m args below meth c C
  have C : Cxt p s m args meth c D (tysW cI cJ cZ cO) N0 cX2_partsNow 3 RX2 (some .long) "partsNow" := C
  refine go_aload_n C 0 dX2_partsNow_0 rfl rfl ?_
  refine gm_isTerm C dX2_partsNow_1 ?_
  refine go_iload_n C 1 dX2_partsNow_4 rfl rfl ?_
  refine lm_isTerm C hz dX2_partsNow_5 ?_
  refine go_if_eq C (tgt := 16) dX2_partsNow_6 (by decide) (fun c_1 => ?_) (fun c_1 => ?_)
  · refine go_aload_n C 0 dX2_partsNow_16 rfl rfl ?_
    refine gm_isByBands C dX2_partsNow_17 ?_
    refine go_if_ne C (tgt := 51) dX2_partsNow_20 (by decide) (fun c_2 => ?_) (fun c_2 => ?_)
    · refine go_aload_n C 0 dX2_partsNow_51 rfl rfl ?_
      refine go_aload_n C 0 dX2_partsNow_52 rfl rfl ?_
      refine gm_owners C dX2_partsNow_53 ?_
      refine go_iload_n C 1 dX2_partsNow_56 rfl rfl ?_
      refine lm_owners C hz dX2_partsNow_57 ?_
      refine go_iload_n C 1 dX2_partsNow_58 rfl rfl ?_
      refine k_RX2_94 C S M ov (ms_ow M (Int32.toNatClampNeg z)) z (Int32.toNatClampNeg z) (vin_eq hz (by decide)).1 (Nat.le_of_lt (vin_eq hz (by decide)).2) ⟨(Nat.le_of_ble_eq_true rfl), (Nat.le_of_ble_eq_true rfl)⟩ ⟨(Nat.le_of_ble_eq_true rfl), (Nat.le_of_ble_eq_true rfl)⟩ (Nat.le_of_ble_eq_true rfl) dX2_partsNow_59 ?_
      refine go_istore_n C (lo' := [(2, .int (mSuM M (ms_ow M (Int32.toNatClampNeg z)) (Int32.toNatClampNeg z))), (0, .ref (a 5)), (1, .int z)]) dX2_partsNow_62 rfl (by decide) rfl ?_
      refine go_aload_n C 1 dX2_partsNow_63 rfl rfl ?_
      refine go_iload_n C 0 dX2_partsNow_64 rfl rfl ?_
      refine go_aload_n C 1 dX2_partsNow_65 rfl rfl ?_
      refine gm_principals C dX2_partsNow_66 ?_
      refine go_iload_n C 2 dX2_partsNow_69 rfl rfl ?_
      refine lm_principals C hz dX2_partsNow_70 ?_
      refine go_iadd C dX2_partsNow_71 ?_
      refine k_RX2_102 C S M ov ((mSuM M (ms_ow M (Int32.toNatClampNeg z)) (Int32.toNatClampNeg z)) + (ms_pr M (Int32.toNatClampNeg z))) ⟨(Nat.le_of_ble_eq_true rfl), (Nat.le_of_ble_eq_true rfl)⟩ ⟨(Nat.le_of_ble_eq_true rfl), (Nat.le_of_ble_eq_true rfl)⟩ (Nat.le_of_ble_eq_true rfl) dX2_partsNow_72 ?_
      refine go_aload_n C 1 dX2_partsNow_75 rfl rfl ?_
      refine go_iload_n C 0 dX2_partsNow_76 rfl rfl ?_
      refine k_RX2_102 C S M ov (mSuM M (ms_ow M (Int32.toNatClampNeg z)) (Int32.toNatClampNeg z)) ⟨(Nat.le_of_ble_eq_true rfl), (Nat.le_of_ble_eq_true rfl)⟩ ⟨(Nat.le_of_ble_eq_true rfl), (Nat.le_of_ble_eq_true rfl)⟩ (Nat.le_of_ble_eq_true rfl) dX2_partsNow_77 ?_
      refine go_lsub C dX2_partsNow_80 ?_
      exact go_lreturn C rfl dX2_partsNow_81 (by decide) (by decide) ⟨by simp only [mPn, if_pos c_1, if_neg c_2] <;> rfl, rfl⟩
    · refine go_aload_n C 0 dX2_partsNow_23 rfl rfl ?_
      refine gm_principals C dX2_partsNow_24 ?_
      refine go_iload_n C 1 dX2_partsNow_27 rfl rfl ?_
      refine lm_principals C hz dX2_partsNow_28 ?_
      refine go_i2l C dX2_partsNow_29 ?_
      refine go_aload_n C 0 dX2_partsNow_30 rfl rfl ?_
      refine go_aload_n C 0 dX2_partsNow_31 rfl rfl ?_
      refine go_aload_n C 0 dX2_partsNow_32 rfl rfl ?_
      refine gm_owners C dX2_partsNow_33 ?_
      refine go_iload_n C 1 dX2_partsNow_36 rfl rfl ?_
      refine lm_owners C hz dX2_partsNow_37 ?_
      refine go_aload_n C 0 dX2_partsNow_38 rfl rfl ?_
      refine gm_lotMany C dX2_partsNow_39 ?_
      refine k_RX2_94 C S M ov (ms_ow M (Int32.toNatClampNeg z)) (nI (ms_n M)) (ms_n M) rfl hok.1 ⟨(Nat.le_of_ble_eq_true rfl), (Nat.le_of_ble_eq_true rfl)⟩ ⟨(Nat.le_of_ble_eq_true rfl), (Nat.le_of_ble_eq_true rfl)⟩ (Nat.le_of_ble_eq_true rfl) dX2_partsNow_42 ?_
      refine k_RX2_98 C S M ov (mSuM M (ms_ow M (Int32.toNatClampNeg z)) (ms_n M)) ⟨(Nat.le_of_ble_eq_true rfl), (Nat.le_of_ble_eq_true rfl)⟩ ⟨(Nat.le_of_ble_eq_true rfl), (Nat.le_of_ble_eq_true rfl)⟩ (Nat.le_of_ble_eq_true rfl) dX2_partsNow_45 ?_
      refine go_i2l C dX2_partsNow_48 ?_
      refine go_lmul C dX2_partsNow_49 ?_
      exact go_lreturn C rfl dX2_partsNow_50 (by decide) (by decide) ⟨by simp only [mPn, if_pos c_1, if_pos c_2] <;> rfl, rfl⟩
  · refine go_aload_n C 0 dX2_partsNow_9 rfl rfl ?_
    refine gm_termParts C dX2_partsNow_10 ?_
    refine go_iload_n C 1 dX2_partsNow_13 rfl rfl ?_
    refine lm_termParts C hz dX2_partsNow_14 ?_
    exact go_lreturn C rfl dX2_partsNow_15 (by decide) (by decide) ⟨by simp only [mPn, if_neg c_1] <;> rfl, rfl⟩
theorem k_RX2_136 {p : Program} {l : Launch} {e : Env} {R : Room} {s : State} {m : MethodId} {args : Array Value} {below : List Frame} {meth : Method} {c : Code} {D : va_G} {N0 mL : Nat} {cc : ByteArray} {nm : String} {ret : Option FieldType} {Q : State → Prop} {k n pc : Nat} {lo : List (Nat × Value)} {st : List Value} {cI cJ cZ cO : ClassId} {a : Nat → Nat} (C : Cxt p s m args meth c D (tysW cI cJ cZ cO) N0 cc mL RX2 ret nm) (S : CS) (M : MS) (ov : Nat → Int64) (z : Int32) (hz : vp_in z 40) (hok : okM M) (hR : 2 + 1 ≤ R.frames ∧ 8 + (3 + 11) + 46 ≤ R.locals) (hcs : k + 0 ≤ R.cells ∧ n + 0 ≤ R.slots) (hcat : (st.map fun v => v.category).sum ≤ 8) (dk : decode cc pc = .ok (.invokevirtual 136, 3)) (g : Go p l e R s m args below meth c D N0 mL Q (wW cI cJ cZ cO a S M ov) (k) (n) (pc + 3) lo (.long (mPn M (Int32.toNatClampNeg z)) :: st)) : Go p l e R s m args below meth c D N0 mL Q (wW cI cJ cZ cO a S M ov) k n pc lo (.int z :: .ref (a 5) :: st) :=
  go_callV C (ci := 2) (r9 := (RX2, TX2, 23)) (qi := 5) (As := [.int z]) (rest := st) rfl rfl (c_X2_partsNow l D cI cJ cZ cO N0 a S M ov z hz hok) ⟨rfl, by decide +kernel, by decide +kernel⟩ bl_RX2_136 bi_yX2_partsNow bs_yX2_partsNow bz_NoticeBookModel bc_yX2_partsNow (show Option.map (fun d => d.parameters.length) (parseMethodDescriptor yX2_partsNow.desc) = some 1 by decide +kernel) hR hcs hcat dk (fun r w2 h => by obtain ⟨rfl, rfl⟩ := h; exact g) rfl
