set_option maxHeartbeats 4000000 in
set_option maxRecDepth 100000 in
theorem c_L_setRate (l : Launch) (hlf : l.stackTraces = false) (D : va_G) (cI cJ cZ cO : ClassId) (N0 : Nat) (a : Nat → Nat) (S : CS) (M : MS) (ov : Nat → Int64) (b z : Int32)  : CtW l D (tysW cI cJ cZ cO) N0 yL_setRate cL_setRate 5 (some .int) [(0, 10, 13, 13), (0, 10, 17, 15)] { frames := 8, cells := 1, slots := 6, locals := 127 } [.ref (a 0), .int b, .int z, .ref (a 24)] (wW cI cJ cZ cO a S M ov) (fun r w2 => (stC b z = 0 ∧ r = some (.int 0) ∧ w2 = wW cI cJ cZ cO a (cs_set_rates S (upd (cs_rates S) (Int32.toNatClampNeg b) z)) M (vp_updL ov 0 (Int32.toInt64 (cs_rates S (Int32.toNatClampNeg b))))) ∨ (¬ stC b z = 0 ∧ r = some (.int (pl3 (stC b z))) ∧ w2 = wW cI cJ cZ cO a S M ov)) := by
  refine ctw_of (by decide +kernel) (Nat.le_of_ble_eq_true rfl) ?_
  intro p e s m args below meth c C ht
  have C : Cxt p s m args meth c D (tysW cI cJ cZ cO) N0 cL_setRate 5 RL (some .int) "setRate" := C
  refine go_aload_n C 3 dL_setRate_0 rfl rfl ?_
  refine go_iconst C (v := 0) dL_setRate_1 (by decide) ?_
  refine go_aload_n C 0 dL_setRate_2 rfl rfl ?_
  refine go_iload_n C 1 dL_setRate_3 rfl rfl ?_
  refine go_iload_n C 2 dL_setRate_4 rfl rfl ?_
  refine k_RL_7 C hlf S M ov b z  ⟨(Nat.le_of_ble_eq_true rfl), (Nat.le_of_ble_eq_true rfl)⟩ ⟨(Nat.le_of_ble_eq_true rfl), (Nat.le_of_ble_eq_true rfl)⟩ (Nat.le_of_ble_eq_true rfl) dL_setRate_5 (fun E hE => ?_) (fun h9 => ?_)
  · obtain ⟨hk, rfl⟩ := hE
    rcases stC_r _ _ with hc | hc | hc
    · exact absurd hc hk
    · rw [hc]
      refine gox_catch C (E := nb_I) [] ⟨0, 10, 13, 13⟩ [⟨0, 10, 17, 15⟩] ht (fun z9 hz9 => (List.not_mem_nil hz9).elim) (by decide) (by decide) bcl_RL_13 mem_I (fun q9 => ?_)
      refine go_astore C (lo' := [(4, .ref q9), (0, .ref (a 0)), (1, .int b), (2, .int z), (3, .ref (a 24))]) dL_setRate_13 (by decide) rfl ?_
      refine go_iconst C (v := 1) dL_setRate_15 (by decide) ?_
      exact go_x (go_ireturn C rfl dL_setRate_16 (by decide) (by decide) (Or.inr ⟨by decide, rfl, rfl⟩))
    · rw [hc]
      refine gox_catch C (E := nb_A) [⟨0, 10, 13, 13⟩] ⟨0, 10, 17, 15⟩ [] ht (pl_all1 (Or.inr ⟨by decide, nb_I, bcl_RL_13, List.mem_of_getElem? (i := 0) rfl⟩)) (by decide) (by decide) bcl_RL_15 mem_A (fun q9 => ?_)
      refine go_astore C (lo' := [(4, .ref q9), (0, .ref (a 0)), (1, .int b), (2, .int z), (3, .ref (a 24))]) dL_setRate_17 (by decide) rfl ?_
      refine go_iconst C (v := 2) dL_setRate_19 (by decide) ?_
      exact go_x (go_ireturn C rfl dL_setRate_20 (by decide) (by decide) (Or.inr ⟨by decide, rfl, rfl⟩))
  · refine go_i2l C dL_setRate_8 ?_
    refine s_out C vin_0_1 dL_setRate_9 ?_
    refine go_goto C (tgt := 21) dL_setRate_10 (by decide) ?_
    refine go_iconst C (v := 0) dL_setRate_21 (by decide) ?_
    exact go_x (go_ireturn C rfl dL_setRate_22 (by decide) (by decide) (Or.inl ⟨h9, rfl, rfl⟩))
theorem k_RL_86 {p : Program} {l : Launch} {e : Env} {R : Room} {s : State} {m : MethodId} {args : Array Value} {below : List Frame} {meth : Method} {c : Code} {D : va_G} {N0 mL : Nat} {cc : ByteArray} {nm : String} {ret : Option FieldType} {Q : State → Prop} {k n pc : Nat} {lo : List (Nat × Value)} {st : List Value} {cI cJ cZ cO : ClassId} {a : Nat → Nat} (C : Cxt p s m args meth c D (tysW cI cJ cZ cO) N0 cc mL RL ret nm) (hlf : l.stackTraces = false) (S : CS) (M : MS) (ov : Nat → Int64) (b z : Int32)  (hR : 8 + 1 ≤ R.frames ∧ 8 + (5 + 11) + 127 ≤ R.locals) (hcs : k + 1 ≤ R.cells ∧ n + 6 ≤ R.slots) (hcat : (st.map fun v => v.category).sum ≤ 8) (dk : decode cc pc = .ok (.invokestatic 86, 3)) (g0 : (stC b z = 0) → Go p l e R s m args below meth c D N0 mL Q (wW cI cJ cZ cO a (cs_set_rates S (upd (cs_rates S) (Int32.toNatClampNeg b) z)) M (vp_updL ov 0 (Int32.toInt64 (cs_rates S (Int32.toNatClampNeg b))))) (k + 1) (n + 6) (pc + 3) lo (.int 0 :: st)) (g1 : (¬ stC b z = 0) → Go p l e R s m args below meth c D N0 mL Q (wW cI cJ cZ cO a S M ov) (k + 1) (n + 6) (pc + 3) lo (.int (pl3 (stC b z)) :: st)) : Go p l e R s m args below meth c D N0 mL Q (wW cI cJ cZ cO a S M ov) k n pc lo (.ref (a 24) :: .int z :: .int b :: .ref (a 0) :: st) :=
  go_callW C (As := [.ref (a 0), .int b, .int z, .ref (a 24)]) (rest := st) (c_L_setRate l hlf D cI cJ cZ cO N0 a S M ov b z ) ⟨by decide +kernel, by decide +kernel⟩ bl_RL_86 bst_yL_setRate bz_NoticeBookLaw bc_yL_setRate (show Option.map (fun d => d.parameters.length) (parseMethodDescriptor yL_setRate.desc) = some 4 by decide +kernel) hR hcs hcat dk (fun r w2 h => by
    rcases h with ⟨h9, rfl, rfl⟩ | ⟨h9, rfl, rfl⟩
    · exact g0 h9
    · exact g1 h9) rfl
set_option maxHeartbeats 4000000 in
set_option maxRecDepth 100000 in
theorem c_L_setTermRate (l : Launch) (hlf : l.stackTraces = false) (D : va_G) (cI cJ cZ cO : ClassId) (N0 : Nat) (a : Nat → Nat) (S : CS) (M : MS) (ov : Nat → Int64) (z : Int32)  : CtW l D (tysW cI cJ cZ cO) N0 yL_setTermRate cL_setTermRate 4 (some .int) [(0, 9, 12, 15)] { frames := 8, cells := 1, slots := 6, locals := 126 } [.ref (a 0), .int z, .ref (a 24)] (wW cI cJ cZ cO a S M ov) (fun r w2 => (demR z 0 2000 = 0 ∧ r = some (.int 0) ∧ w2 = wW cI cJ cZ cO a (cs_set_tr S z) M (vp_updL ov 0 (Int32.toInt64 (cs_tr S)))) ∨ (¬ demR z 0 2000 = 0 ∧ r = some (.int (pl1 (demR z 0 2000))) ∧ w2 = wW cI cJ cZ cO a S M ov)) := by
  refine ctw_of (by decide +kernel) (Nat.le_of_ble_eq_true rfl) ?_
  intro p e s m args below meth c C ht
  have C : Cxt p s m args meth c D (tysW cI cJ cZ cO) N0 cL_setTermRate 4 RL (some .int) "setTermRate" := C
  refine go_aload_n C 2 dL_setTermRate_0 rfl rfl ?_
  refine go_iconst C (v := 0) dL_setTermRate_1 (by decide) ?_
  refine go_aload_n C 0 dL_setTermRate_2 rfl rfl ?_
  refine go_iload_n C 1 dL_setTermRate_3 rfl rfl ?_
  refine k_RL_17 C hlf S M ov z  ⟨(Nat.le_of_ble_eq_true rfl), (Nat.le_of_ble_eq_true rfl)⟩ ⟨(Nat.le_of_ble_eq_true rfl), (Nat.le_of_ble_eq_true rfl)⟩ (Nat.le_of_ble_eq_true rfl) dL_setTermRate_4 (fun E hE => ?_) (fun h9 => ?_)
  · obtain ⟨hk, rfl⟩ := hE
    rcases demR_r _ _ _ with hc | hc
    · exact absurd hc hk
    · rw [hc]
      refine gox_catch C (E := nb_A) [] ⟨0, 9, 12, 15⟩ [] ht (fun z9 hz9 => (List.not_mem_nil hz9).elim) (by decide) (by decide) bcl_RL_15 mem_A (fun q9 => ?_)
      refine go_astore_n C (lo' := [(3, .ref q9), (0, .ref (a 0)), (1, .int z), (2, .ref (a 24))]) dL_setTermRate_12 rfl (by decide) rfl ?_
      refine go_iconst C (v := 1) dL_setTermRate_13 (by decide) ?_
      exact go_x (go_ireturn C rfl dL_setTermRate_14 (by decide) (by decide) (Or.inr ⟨by decide, rfl, rfl⟩))
  · refine go_i2l C dL_setTermRate_7 ?_
    refine s_out C vin_0_1 dL_setTermRate_8 ?_
    refine go_goto C (tgt := 15) dL_setTermRate_9 (by decide) ?_
    refine go_iconst C (v := 0) dL_setTermRate_15 (by decide) ?_
    exact go_x (go_ireturn C rfl dL_setTermRate_16 (by decide) (by decide) (Or.inl ⟨h9, rfl, rfl⟩))
theorem k_RL_101 {p : Program} {l : Launch} {e : Env} {R : Room} {s : State} {m : MethodId} {args : Array Value} {below : List Frame} {meth : Method} {c : Code} {D : va_G} {N0 mL : Nat} {cc : ByteArray} {nm : String} {ret : Option FieldType} {Q : State → Prop} {k n pc : Nat} {lo : List (Nat × Value)} {st : List Value} {cI cJ cZ cO : ClassId} {a : Nat → Nat} (C : Cxt p s m args meth c D (tysW cI cJ cZ cO) N0 cc mL RL ret nm) (hlf : l.stackTraces = false) (S : CS) (M : MS) (ov : Nat → Int64) (z : Int32)  (hR : 8 + 1 ≤ R.frames ∧ 8 + (4 + 11) + 126 ≤ R.locals) (hcs : k + 1 ≤ R.cells ∧ n + 6 ≤ R.slots) (hcat : (st.map fun v => v.category).sum ≤ 8) (dk : decode cc pc = .ok (.invokestatic 101, 3)) (g0 : (demR z 0 2000 = 0) → Go p l e R s m args below meth c D N0 mL Q (wW cI cJ cZ cO a (cs_set_tr S z) M (vp_updL ov 0 (Int32.toInt64 (cs_tr S)))) (k + 1) (n + 6) (pc + 3) lo (.int 0 :: st)) (g1 : (¬ demR z 0 2000 = 0) → Go p l e R s m args below meth c D N0 mL Q (wW cI cJ cZ cO a S M ov) (k + 1) (n + 6) (pc + 3) lo (.int (pl1 (demR z 0 2000)) :: st)) : Go p l e R s m args below meth c D N0 mL Q (wW cI cJ cZ cO a S M ov) k n pc lo (.ref (a 24) :: .int z :: .ref (a 0) :: st) :=
  go_callW C (As := [.ref (a 0), .int z, .ref (a 24)]) (rest := st) (c_L_setTermRate l hlf D cI cJ cZ cO N0 a S M ov z ) ⟨by decide +kernel, by decide +kernel⟩ bl_RL_101 bst_yL_setTermRate bz_NoticeBookLaw bc_yL_setTermRate (show Option.map (fun d => d.parameters.length) (parseMethodDescriptor yL_setTermRate.desc) = some 3 by decide +kernel) hR hcs hcat dk (fun r w2 h => by
    rcases h with ⟨h9, rfl, rfl⟩ | ⟨h9, rfl, rfl⟩
    · exact g0 h9
    · exact g1 h9) rfl
set_option maxHeartbeats 4000000 in
set_option maxRecDepth 100000 in
theorem c_L_deposit (l : Launch) (hlf : l.stackTraces = false) (D : va_G) (cI cJ cZ cO : ClassId) (N0 : Nat) (a : Nat → Nat) (S : CS) (M : MS) (ov : Nat → Int64) (cu z : Int32) (hok : okX S) : CtW l D (tysW cI cJ cZ cO) N0 yL_deposit cL_deposit 5 (some .int) [(0, 10, 13, 13), (0, 10, 17, 15), (0, 10, 21, 24)] { frames := 8, cells := 4, slots := 28, locals := 126 } [.ref (a 0), .int cu, .int z, .ref (a 24)] (wW cI cJ cZ cO a S M ov) (fun r w2 => (∃ q : Nat, dpC S cu z = 0 ∧ r = some (.int 0) ∧ w2 = wW cI cJ cZ cO a (dpS S q cu z) M (vp_updL ov 0 (Int32.toInt64 (nI (cs_n S))))) ∨ (¬ dpC S cu z = 0 ∧ r = some (.int (pl3 (dpC S cu z))) ∧ w2 = wW cI cJ cZ cO a S M ov)) := by
  refine ctw_of (by decide +kernel) (Nat.le_of_ble_eq_true rfl) ?_
  intro p e s m args below meth c C ht
  have C : Cxt p s m args meth c D (tysW cI cJ cZ cO) N0 cL_deposit 5 RL (some .int) "deposit" := C
  refine go_aload_n C 3 dL_deposit_0 rfl rfl ?_
  refine go_iconst C (v := 0) dL_deposit_1 (by decide) ?_
  refine go_aload_n C 0 dL_deposit_2 rfl rfl ?_
  refine go_iload_n C 1 dL_deposit_3 rfl rfl ?_
  refine go_iload_n C 2 dL_deposit_4 rfl rfl ?_
  refine k_RL_21 C hlf S M ov cu z hok ⟨(Nat.le_of_ble_eq_true rfl), (Nat.le_of_ble_eq_true rfl)⟩ ⟨(Nat.le_of_ble_eq_true rfl), (Nat.le_of_ble_eq_true rfl)⟩ (Nat.le_of_ble_eq_true rfl) dL_deposit_5 (fun E hE => ?_) (fun q h9 => ?_)
  · obtain ⟨hk, rfl⟩ := hE
    rcases dpC_r _ _ _ with hc | hc | hc | hc
    · exact absurd hc hk
    · rw [hc]
      refine gox_catch C (E := nb_I) [] ⟨0, 10, 13, 13⟩ [⟨0, 10, 17, 15⟩, ⟨0, 10, 21, 24⟩] ht (fun z9 hz9 => (List.not_mem_nil hz9).elim) (by decide) (by decide) bcl_RL_13 mem_I (fun q9 => ?_)
      refine go_astore C (lo' := [(4, .ref q9), (0, .ref (a 0)), (1, .int cu), (2, .int z), (3, .ref (a 24))]) dL_deposit_13 (by decide) rfl ?_
      refine go_iconst C (v := 1) dL_deposit_15 (by decide) ?_
      exact go_x (go_ireturn C rfl dL_deposit_16 (by decide) (by decide) (Or.inr ⟨by decide, rfl, rfl⟩))
    · rw [hc]
      refine gox_catch C (E := nb_A) [⟨0, 10, 13, 13⟩] ⟨0, 10, 17, 15⟩ [⟨0, 10, 21, 24⟩] ht (pl_all1 (Or.inr ⟨by decide, nb_I, bcl_RL_13, List.mem_of_getElem? (i := 0) rfl⟩)) (by decide) (by decide) bcl_RL_15 mem_A (fun q9 => ?_)
      refine go_astore C (lo' := [(4, .ref q9), (0, .ref (a 0)), (1, .int cu), (2, .int z), (3, .ref (a 24))]) dL_deposit_17 (by decide) rfl ?_
      refine go_iconst C (v := 2) dL_deposit_19 (by decide) ?_
      exact go_x (go_ireturn C rfl dL_deposit_20 (by decide) (by decide) (Or.inr ⟨by decide, rfl, rfl⟩))
    · rw [hc]
      refine gox_catch C (E := nb_S) [⟨0, 10, 13, 13⟩, ⟨0, 10, 17, 15⟩] ⟨0, 10, 21, 24⟩ [] ht (pl_all2 (Or.inr ⟨by decide, nb_I, bcl_RL_13, List.mem_of_getElem? (i := 1) rfl⟩) (Or.inr ⟨by decide, nb_A, bcl_RL_15, List.mem_of_getElem? (i := 3) rfl⟩)) (by decide) (by decide) bcl_RL_24 mem_S (fun q9 => ?_)
      refine go_astore C (lo' := [(4, .ref q9), (0, .ref (a 0)), (1, .int cu), (2, .int z), (3, .ref (a 24))]) dL_deposit_21 (by decide) rfl ?_
      refine go_iconst C (v := 3) dL_deposit_23 (by decide) ?_
      exact go_x (go_ireturn C rfl dL_deposit_24 (by decide) (by decide) (Or.inr ⟨by decide, rfl, rfl⟩))
  · refine go_i2l C dL_deposit_8 ?_
    refine s_out C vin_0_1 dL_deposit_9 ?_
    refine go_goto C (tgt := 25) dL_deposit_10 (by decide) ?_
    refine go_iconst C (v := 0) dL_deposit_25 (by decide) ?_
    exact go_x (go_ireturn C rfl dL_deposit_26 (by decide) (by decide) (Or.inl ⟨q, h9, rfl, rfl⟩))
theorem k_RL_105 {p : Program} {l : Launch} {e : Env} {R : Room} {s : State} {m : MethodId} {args : Array Value} {below : List Frame} {meth : Method} {c : Code} {D : va_G} {N0 mL : Nat} {cc : ByteArray} {nm : String} {ret : Option FieldType} {Q : State → Prop} {k n pc : Nat} {lo : List (Nat × Value)} {st : List Value} {cI cJ cZ cO : ClassId} {a : Nat → Nat} (C : Cxt p s m args meth c D (tysW cI cJ cZ cO) N0 cc mL RL ret nm) (hlf : l.stackTraces = false) (S : CS) (M : MS) (ov : Nat → Int64) (cu z : Int32) (hok : okX S) (hR : 8 + 1 ≤ R.frames ∧ 8 + (5 + 11) + 126 ≤ R.locals) (hcs : k + 4 ≤ R.cells ∧ n + 28 ≤ R.slots) (hcat : (st.map fun v => v.category).sum ≤ 8) (dk : decode cc pc = .ok (.invokestatic 105, 3)) (g0 : ∀ q : Nat, (dpC S cu z = 0) → Go p l e R s m args below meth c D N0 mL Q (wW cI cJ cZ cO a (dpS S q cu z) M (vp_updL ov 0 (Int32.toInt64 (nI (cs_n S))))) (k + 4) (n + 28) (pc + 3) lo (.int 0 :: st)) (g1 : (¬ dpC S cu z = 0) → Go p l e R s m args below meth c D N0 mL Q (wW cI cJ cZ cO a S M ov) (k + 4) (n + 28) (pc + 3) lo (.int (pl3 (dpC S cu z)) :: st)) : Go p l e R s m args below meth c D N0 mL Q (wW cI cJ cZ cO a S M ov) k n pc lo (.ref (a 24) :: .int z :: .int cu :: .ref (a 0) :: st) :=
  go_callW C (As := [.ref (a 0), .int cu, .int z, .ref (a 24)]) (rest := st) (c_L_deposit l hlf D cI cJ cZ cO N0 a S M ov cu z hok) ⟨by decide +kernel, by decide +kernel⟩ bl_RL_105 bst_yL_deposit bz_NoticeBookLaw bc_yL_deposit (show Option.map (fun d => d.parameters.length) (parseMethodDescriptor yL_deposit.desc) = some 4 by decide +kernel) hR hcs hcat dk (fun r w2 h => by
    rcases h with ⟨q, h9, rfl, rfl⟩ | ⟨h9, rfl, rfl⟩
    · exact g0 q h9
    · exact g1 h9) rfl
set_option maxHeartbeats 4000000 in
set_option maxRecDepth 100000 in
theorem c_L_depositTerm (l : Launch) (hlf : l.stackTraces = false) (D : va_G) (cI cJ cZ cO : ClassId) (N0 : Nat) (a : Nat → Nat) (S : CS) (M : MS) (ov : Nat → Int64) (cu z d v : Int32) (hok : okX S) : CtW l D (tysW cI cJ cZ cO) N0 yL_depositTerm cL_depositTerm 7 (some .int) [(0, 14, 17, 13), (0, 14, 21, 15), (0, 14, 25, 24)] { frames := 8, cells := 6, slots := 40, locals := 129 } [.ref (a 0), .int cu, .int z, .int d, .int v, .ref (a 24)] (wW cI cJ cZ cO a S M ov) (fun r w2 => (∃ q : Nat, dtC S cu z d v = 0 ∧ r = some (.int 0) ∧ w2 = wW cI cJ cZ cO a (dtS S q cu z d v) M (vp_updL ov 0 (Int32.toInt64 (nI (cs_n S))))) ∨ (¬ dtC S cu z d v = 0 ∧ r = some (.int (pl3 (dtC S cu z d v))) ∧ w2 = wW cI cJ cZ cO a S M ov)) := by
  refine ctw_of (by decide +kernel) (Nat.le_of_ble_eq_true rfl) ?_
  intro p e s m args below meth c C ht
  have C : Cxt p s m args meth c D (tysW cI cJ cZ cO) N0 cL_depositTerm 7 RL (some .int) "depositTerm" := C
  refine go_aload C 5 dL_depositTerm_0 rfl ?_
  refine go_iconst C (v := 0) dL_depositTerm_2 (by decide) ?_
  refine go_aload_n C 0 dL_depositTerm_3 rfl rfl ?_
  refine go_iload_n C 1 dL_depositTerm_4 rfl rfl ?_
  refine go_iload_n C 2 dL_depositTerm_5 rfl rfl ?_
  refine go_iload_n C 3 dL_depositTerm_6 rfl rfl ?_
  refine go_iload C 4 dL_depositTerm_7 rfl ?_
  refine k_RL_26 C hlf S M ov cu z d v hok ⟨(Nat.le_of_ble_eq_true rfl), (Nat.le_of_ble_eq_true rfl)⟩ ⟨(Nat.le_of_ble_eq_true rfl), (Nat.le_of_ble_eq_true rfl)⟩ (Nat.le_of_ble_eq_true rfl) dL_depositTerm_9 (fun E hE => ?_) (fun q h9 => ?_)
  · obtain ⟨hk, rfl⟩ := hE
    rcases dtC_r _ _ _ _ _ with hc | hc | hc | hc
    · exact absurd hc hk
    · rw [hc]
      refine gox_catch C (E := nb_I) [] ⟨0, 14, 17, 13⟩ [⟨0, 14, 21, 15⟩, ⟨0, 14, 25, 24⟩] ht (fun z9 hz9 => (List.not_mem_nil hz9).elim) (by decide) (by decide) bcl_RL_13 mem_I (fun q9 => ?_)
      refine go_astore C (lo' := [(6, .ref q9), (0, .ref (a 0)), (1, .int cu), (2, .int z), (3, .int d), (4, .int v), (5, .ref (a 24))]) dL_depositTerm_17 (by decide) rfl ?_
      refine go_iconst C (v := 1) dL_depositTerm_19 (by decide) ?_
      exact go_x (go_ireturn C rfl dL_depositTerm_20 (by decide) (by decide) (Or.inr ⟨by decide, rfl, rfl⟩))
    · rw [hc]
      refine gox_catch C (E := nb_A) [⟨0, 14, 17, 13⟩] ⟨0, 14, 21, 15⟩ [⟨0, 14, 25, 24⟩] ht (pl_all1 (Or.inr ⟨by decide, nb_I, bcl_RL_13, List.mem_of_getElem? (i := 0) rfl⟩)) (by decide) (by decide) bcl_RL_15 mem_A (fun q9 => ?_)
      refine go_astore C (lo' := [(6, .ref q9), (0, .ref (a 0)), (1, .int cu), (2, .int z), (3, .int d), (4, .int v), (5, .ref (a 24))]) dL_depositTerm_21 (by decide) rfl ?_
      refine go_iconst C (v := 2) dL_depositTerm_23 (by decide) ?_
      exact go_x (go_ireturn C rfl dL_depositTerm_24 (by decide) (by decide) (Or.inr ⟨by decide, rfl, rfl⟩))
    · rw [hc]
      refine gox_catch C (E := nb_S) [⟨0, 14, 17, 13⟩, ⟨0, 14, 21, 15⟩] ⟨0, 14, 25, 24⟩ [] ht (pl_all2 (Or.inr ⟨by decide, nb_I, bcl_RL_13, List.mem_of_getElem? (i := 1) rfl⟩) (Or.inr ⟨by decide, nb_A, bcl_RL_15, List.mem_of_getElem? (i := 3) rfl⟩)) (by decide) (by decide) bcl_RL_24 mem_S (fun q9 => ?_)
      refine go_astore C (lo' := [(6, .ref q9), (0, .ref (a 0)), (1, .int cu), (2, .int z), (3, .int d), (4, .int v), (5, .ref (a 24))]) dL_depositTerm_25 (by decide) rfl ?_
      refine go_iconst C (v := 3) dL_depositTerm_27 (by decide) ?_
      exact go_x (go_ireturn C rfl dL_depositTerm_28 (by decide) (by decide) (Or.inr ⟨by decide, rfl, rfl⟩))
  · refine go_i2l C dL_depositTerm_12 ?_
    refine s_out C vin_0_1 dL_depositTerm_13 ?_
    refine go_goto C (tgt := 29) dL_depositTerm_14 (by decide) ?_
    refine go_iconst C (v := 0) dL_depositTerm_29 (by decide) ?_
    exact go_x (go_ireturn C rfl dL_depositTerm_30 (by decide) (by decide) (Or.inl ⟨q, h9, rfl, rfl⟩))
theorem k_RL_108 {p : Program} {l : Launch} {e : Env} {R : Room} {s : State} {m : MethodId} {args : Array Value} {below : List Frame} {meth : Method} {c : Code} {D : va_G} {N0 mL : Nat} {cc : ByteArray} {nm : String} {ret : Option FieldType} {Q : State → Prop} {k n pc : Nat} {lo : List (Nat × Value)} {st : List Value} {cI cJ cZ cO : ClassId} {a : Nat → Nat} (C : Cxt p s m args meth c D (tysW cI cJ cZ cO) N0 cc mL RL ret nm) (hlf : l.stackTraces = false) (S : CS) (M : MS) (ov : Nat → Int64) (cu z d v : Int32) (hok : okX S) (hR : 8 + 1 ≤ R.frames ∧ 8 + (7 + 11) + 129 ≤ R.locals) (hcs : k + 6 ≤ R.cells ∧ n + 40 ≤ R.slots) (hcat : (st.map fun v => v.category).sum ≤ 8) (dk : decode cc pc = .ok (.invokestatic 108, 3)) (g0 : ∀ q : Nat, (dtC S cu z d v = 0) → Go p l e R s m args below meth c D N0 mL Q (wW cI cJ cZ cO a (dtS S q cu z d v) M (vp_updL ov 0 (Int32.toInt64 (nI (cs_n S))))) (k + 6) (n + 40) (pc + 3) lo (.int 0 :: st)) (g1 : (¬ dtC S cu z d v = 0) → Go p l e R s m args below meth c D N0 mL Q (wW cI cJ cZ cO a S M ov) (k + 6) (n + 40) (pc + 3) lo (.int (pl3 (dtC S cu z d v)) :: st)) : Go p l e R s m args below meth c D N0 mL Q (wW cI cJ cZ cO a S M ov) k n pc lo (.ref (a 24) :: .int v :: .int d :: .int z :: .int cu :: .ref (a 0) :: st) :=
  go_callW C (As := [.ref (a 0), .int cu, .int z, .int d, .int v, .ref (a 24)]) (rest := st) (c_L_depositTerm l hlf D cI cJ cZ cO N0 a S M ov cu z d v hok) ⟨by decide +kernel, by decide +kernel⟩ bl_RL_108 bst_yL_depositTerm bz_NoticeBookLaw bc_yL_depositTerm (show Option.map (fun d => d.parameters.length) (parseMethodDescriptor yL_depositTerm.desc) = some 6 by decide +kernel) hR hcs hcat dk (fun r w2 h => by
    rcases h with ⟨q, h9, rfl, rfl⟩ | ⟨h9, rfl, rfl⟩
    · exact g0 q h9
    · exact g1 h9) rfl
set_option maxHeartbeats 4000000 in
set_option maxRecDepth 100000 in
theorem c_L_give (l : Launch) (hlf : l.stackTraces = false) (D : va_G) (cI cJ cZ cO : ClassId) (N0 : Nat) (a : Nat → Nat) (S : CS) (M : MS) (ov : Nat → Int64) (z c9 : Int32) (hok : okX S) : CtW l D (tysW cI cJ cZ cO) N0 yL_give cL_give 5 (some .int) [(0, 10, 13, 13), (0, 10, 17, 15), (0, 10, 21, 24)] { frames := 8, cells := 3, slots := 18, locals := 127 } [.ref (a 0), .int z, .int c9, .ref (a 24)] (wW cI cJ cZ cO a S M ov) (fun r w2 => (gvC S z c9 = 0 ∧ r = some (.int 0) ∧ w2 = wW cI cJ cZ cO a (gvS S z c9) M (vp_updL ov 0 (Int32.toInt64 (cs_day S + 32)))) ∨ (¬ gvC S z c9 = 0 ∧ r = some (.int (pl3 (gvC S z c9))) ∧ w2 = wW cI cJ cZ cO a S M ov)) := by
  refine ctw_of (by decide +kernel) (Nat.le_of_ble_eq_true rfl) ?_
  intro p e s m args below meth c C ht
  have C : Cxt p s m args meth c D (tysW cI cJ cZ cO) N0 cL_give 5 RL (some .int) "give" := C
  refine go_aload_n C 3 dL_give_0 rfl rfl ?_
  refine go_iconst C (v := 0) dL_give_1 (by decide) ?_
  refine go_aload_n C 0 dL_give_2 rfl rfl ?_
  refine go_iload_n C 1 dL_give_3 rfl rfl ?_
  refine go_iload_n C 2 dL_give_4 rfl rfl ?_
  refine k_RL_30 C hlf S M ov z c9 hok ⟨(Nat.le_of_ble_eq_true rfl), (Nat.le_of_ble_eq_true rfl)⟩ ⟨(Nat.le_of_ble_eq_true rfl), (Nat.le_of_ble_eq_true rfl)⟩ (Nat.le_of_ble_eq_true rfl) dL_give_5 (fun E hE => ?_) (fun h9 => ?_)
  · obtain ⟨hk, rfl⟩ := hE
    rcases gvC_r _ _ _ with hc | hc | hc | hc
    · exact absurd hc hk
    · rw [hc]
      refine gox_catch C (E := nb_I) [] ⟨0, 10, 13, 13⟩ [⟨0, 10, 17, 15⟩, ⟨0, 10, 21, 24⟩] ht (fun z9 hz9 => (List.not_mem_nil hz9).elim) (by decide) (by decide) bcl_RL_13 mem_I (fun q9 => ?_)
      refine go_astore C (lo' := [(4, .ref q9), (0, .ref (a 0)), (1, .int z), (2, .int c9), (3, .ref (a 24))]) dL_give_13 (by decide) rfl ?_
      refine go_iconst C (v := 1) dL_give_15 (by decide) ?_
      exact go_x (go_ireturn C rfl dL_give_16 (by decide) (by decide) (Or.inr ⟨by decide, rfl, rfl⟩))
    · rw [hc]
      refine gox_catch C (E := nb_A) [⟨0, 10, 13, 13⟩] ⟨0, 10, 17, 15⟩ [⟨0, 10, 21, 24⟩] ht (pl_all1 (Or.inr ⟨by decide, nb_I, bcl_RL_13, List.mem_of_getElem? (i := 0) rfl⟩)) (by decide) (by decide) bcl_RL_15 mem_A (fun q9 => ?_)
      refine go_astore C (lo' := [(4, .ref q9), (0, .ref (a 0)), (1, .int z), (2, .int c9), (3, .ref (a 24))]) dL_give_17 (by decide) rfl ?_
      refine go_iconst C (v := 2) dL_give_19 (by decide) ?_
      exact go_x (go_ireturn C rfl dL_give_20 (by decide) (by decide) (Or.inr ⟨by decide, rfl, rfl⟩))
    · rw [hc]
      refine gox_catch C (E := nb_S) [⟨0, 10, 13, 13⟩, ⟨0, 10, 17, 15⟩] ⟨0, 10, 21, 24⟩ [] ht (pl_all2 (Or.inr ⟨by decide, nb_I, bcl_RL_13, List.mem_of_getElem? (i := 1) rfl⟩) (Or.inr ⟨by decide, nb_A, bcl_RL_15, List.mem_of_getElem? (i := 3) rfl⟩)) (by decide) (by decide) bcl_RL_24 mem_S (fun q9 => ?_)
      refine go_astore C (lo' := [(4, .ref q9), (0, .ref (a 0)), (1, .int z), (2, .int c9), (3, .ref (a 24))]) dL_give_21 (by decide) rfl ?_
      refine go_iconst C (v := 3) dL_give_23 (by decide) ?_
      exact go_x (go_ireturn C rfl dL_give_24 (by decide) (by decide) (Or.inr ⟨by decide, rfl, rfl⟩))
  · refine go_i2l C dL_give_8 ?_
    refine s_out C vin_0_1 dL_give_9 ?_
    refine go_goto C (tgt := 25) dL_give_10 (by decide) ?_
    refine go_iconst C (v := 0) dL_give_25 (by decide) ?_
    exact go_x (go_ireturn C rfl dL_give_26 (by decide) (by decide) (Or.inl ⟨h9, rfl, rfl⟩))
theorem k_RL_112 {p : Program} {l : Launch} {e : Env} {R : Room} {s : State} {m : MethodId} {args : Array Value} {below : List Frame} {meth : Method} {c : Code} {D : va_G} {N0 mL : Nat} {cc : ByteArray} {nm : String} {ret : Option FieldType} {Q : State → Prop} {k n pc : Nat} {lo : List (Nat × Value)} {st : List Value} {cI cJ cZ cO : ClassId} {a : Nat → Nat} (C : Cxt p s m args meth c D (tysW cI cJ cZ cO) N0 cc mL RL ret nm) (hlf : l.stackTraces = false) (S : CS) (M : MS) (ov : Nat → Int64) (z c9 : Int32) (hok : okX S) (hR : 8 + 1 ≤ R.frames ∧ 8 + (5 + 11) + 127 ≤ R.locals) (hcs : k + 3 ≤ R.cells ∧ n + 18 ≤ R.slots) (hcat : (st.map fun v => v.category).sum ≤ 8) (dk : decode cc pc = .ok (.invokestatic 112, 3)) (g0 : (gvC S z c9 = 0) → Go p l e R s m args below meth c D N0 mL Q (wW cI cJ cZ cO a (gvS S z c9) M (vp_updL ov 0 (Int32.toInt64 (cs_day S + 32)))) (k + 3) (n + 18) (pc + 3) lo (.int 0 :: st)) (g1 : (¬ gvC S z c9 = 0) → Go p l e R s m args below meth c D N0 mL Q (wW cI cJ cZ cO a S M ov) (k + 3) (n + 18) (pc + 3) lo (.int (pl3 (gvC S z c9)) :: st)) : Go p l e R s m args below meth c D N0 mL Q (wW cI cJ cZ cO a S M ov) k n pc lo (.ref (a 24) :: .int c9 :: .int z :: .ref (a 0) :: st) :=
  go_callW C (As := [.ref (a 0), .int z, .int c9, .ref (a 24)]) (rest := st) (c_L_give l hlf D cI cJ cZ cO N0 a S M ov z c9 hok) ⟨by decide +kernel, by decide +kernel⟩ bl_RL_112 bst_yL_give bz_NoticeBookLaw bc_yL_give (show Option.map (fun d => d.parameters.length) (parseMethodDescriptor yL_give.desc) = some 4 by decide +kernel) hR hcs hcat dk (fun r w2 h => by
    rcases h with ⟨h9, rfl, rfl⟩ | ⟨h9, rfl, rfl⟩
    · exact g0 h9
    · exact g1 h9) rfl
set_option maxHeartbeats 4000000 in
set_option maxRecDepth 100000 in
theorem c_L_withdraw (l : Launch) (hlf : l.stackTraces = false) (D : va_G) (cI cJ cZ cO : ClassId) (N0 : Nat) (a : Nat → Nat) (S : CS) (M : MS) (ov : Nat → Int64) (z : Int32) (hok : okX S) : CtW l D (tysW cI cJ cZ cO) N0 yL_withdraw cL_withdraw 4 (some .int) [(0, 9, 12, 13), (0, 9, 15, 24)] { frames := 9, cells := 2, slots := 12, locals := 149 } [.ref (a 0), .int z, .ref (a 24)] (wW cI cJ cZ cO a S M ov) (fun r w2 => (wdC S z = 0 ∧ r = some (.int 0) ∧ w2 = wW cI cJ cZ cO a (wdS S z) M (vp_updL ov 0 (Int32.toInt64 (lr_fz (cs_lt S (Int32.toNatClampNeg z)))))) ∨ (¬ wdC S z = 0 ∧ r = some (.int (plIS (wdC S z))) ∧ w2 = wW cI cJ cZ cO a S M ov)) := by
  refine ctw_of (by decide +kernel) (Nat.le_of_ble_eq_true rfl) ?_
  intro p e s m args below meth c C ht
  have C : Cxt p s m args meth c D (tysW cI cJ cZ cO) N0 cL_withdraw 4 RL (some .int) "withdraw" := C
  refine go_aload_n C 2 dL_withdraw_0 rfl rfl ?_
  refine go_iconst C (v := 0) dL_withdraw_1 (by decide) ?_
  refine go_aload_n C 0 dL_withdraw_2 rfl rfl ?_
  refine go_iload_n C 1 dL_withdraw_3 rfl rfl ?_
  refine k_RL_33 C hlf S M ov z hok ⟨(Nat.le_of_ble_eq_true rfl), (Nat.le_of_ble_eq_true rfl)⟩ ⟨(Nat.le_of_ble_eq_true rfl), (Nat.le_of_ble_eq_true rfl)⟩ (Nat.le_of_ble_eq_true rfl) dL_withdraw_4 (fun E hE => ?_) (fun h9 => ?_)
  · obtain ⟨hk, rfl⟩ := hE
    rcases wdC_r _ _ with hc | hc | hc
    · exact absurd hc hk
    · rw [hc]
      refine gox_catch C (E := nb_I) [] ⟨0, 9, 12, 13⟩ [⟨0, 9, 15, 24⟩] ht (fun z9 hz9 => (List.not_mem_nil hz9).elim) (by decide) (by decide) bcl_RL_13 mem_I (fun q9 => ?_)
      refine go_astore_n C (lo' := [(3, .ref q9), (0, .ref (a 0)), (1, .int z), (2, .ref (a 24))]) dL_withdraw_12 rfl (by decide) rfl ?_
      refine go_iconst C (v := 1) dL_withdraw_13 (by decide) ?_
      exact go_x (go_ireturn C rfl dL_withdraw_14 (by decide) (by decide) (Or.inr ⟨by decide, rfl, rfl⟩))
    · rw [hc]
      refine gox_catch C (E := nb_S) [⟨0, 9, 12, 13⟩] ⟨0, 9, 15, 24⟩ [] ht (pl_all1 (Or.inr ⟨by decide, nb_I, bcl_RL_13, List.mem_of_getElem? (i := 1) rfl⟩)) (by decide) (by decide) bcl_RL_24 mem_S (fun q9 => ?_)
      refine go_astore_n C (lo' := [(3, .ref q9), (0, .ref (a 0)), (1, .int z), (2, .ref (a 24))]) dL_withdraw_15 rfl (by decide) rfl ?_
      refine go_iconst C (v := 2) dL_withdraw_16 (by decide) ?_
      exact go_x (go_ireturn C rfl dL_withdraw_17 (by decide) (by decide) (Or.inr ⟨by decide, rfl, rfl⟩))
  · refine go_i2l C dL_withdraw_7 ?_
    refine s_out C vin_0_1 dL_withdraw_8 ?_
    refine go_goto C (tgt := 18) dL_withdraw_9 (by decide) ?_
    refine go_iconst C (v := 0) dL_withdraw_18 (by decide) ?_
    exact go_x (go_ireturn C rfl dL_withdraw_19 (by decide) (by decide) (Or.inl ⟨h9, rfl, rfl⟩))
theorem k_RL_115 {p : Program} {l : Launch} {e : Env} {R : Room} {s : State} {m : MethodId} {args : Array Value} {below : List Frame} {meth : Method} {c : Code} {D : va_G} {N0 mL : Nat} {cc : ByteArray} {nm : String} {ret : Option FieldType} {Q : State → Prop} {k n pc : Nat} {lo : List (Nat × Value)} {st : List Value} {cI cJ cZ cO : ClassId} {a : Nat → Nat} (C : Cxt p s m args meth c D (tysW cI cJ cZ cO) N0 cc mL RL ret nm) (hlf : l.stackTraces = false) (S : CS) (M : MS) (ov : Nat → Int64) (z : Int32) (hok : okX S) (hR : 9 + 1 ≤ R.frames ∧ 8 + (4 + 11) + 149 ≤ R.locals) (hcs : k + 2 ≤ R.cells ∧ n + 12 ≤ R.slots) (hcat : (st.map fun v => v.category).sum ≤ 8) (dk : decode cc pc = .ok (.invokestatic 115, 3)) (g0 : (wdC S z = 0) → Go p l e R s m args below meth c D N0 mL Q (wW cI cJ cZ cO a (wdS S z) M (vp_updL ov 0 (Int32.toInt64 (lr_fz (cs_lt S (Int32.toNatClampNeg z)))))) (k + 2) (n + 12) (pc + 3) lo (.int 0 :: st)) (g1 : (¬ wdC S z = 0) → Go p l e R s m args below meth c D N0 mL Q (wW cI cJ cZ cO a S M ov) (k + 2) (n + 12) (pc + 3) lo (.int (plIS (wdC S z)) :: st)) : Go p l e R s m args below meth c D N0 mL Q (wW cI cJ cZ cO a S M ov) k n pc lo (.ref (a 24) :: .int z :: .ref (a 0) :: st) :=
  go_callW C (As := [.ref (a 0), .int z, .ref (a 24)]) (rest := st) (c_L_withdraw l hlf D cI cJ cZ cO N0 a S M ov z hok) ⟨by decide +kernel, by decide +kernel⟩ bl_RL_115 bst_yL_withdraw bz_NoticeBookLaw bc_yL_withdraw (show Option.map (fun d => d.parameters.length) (parseMethodDescriptor yL_withdraw.desc) = some 3 by decide +kernel) hR hcs hcat dk (fun r w2 h => by
    rcases h with ⟨h9, rfl, rfl⟩ | ⟨h9, rfl, rfl⟩
    · exact g0 h9
    · exact g1 h9) rfl
set_option maxHeartbeats 4000000 in
set_option maxRecDepth 100000 in
theorem c_L_take (l : Launch) (hlf : l.stackTraces = false) (D : va_G) (cI cJ cZ cO : ClassId) (N0 : Nat) (a : Nat → Nat) (S : CS) (M : MS) (ov : Nat → Int64) (z : Int32) (hok : okX S) : CtW l D (tysW cI cJ cZ cO) N0 yL_take cL_take 4 (some .int) [(0, 9, 12, 13), (0, 9, 15, 24)] { frames := 9, cells := 3, slots := 18, locals := 149 } [.ref (a 0), .int z, .ref (a 24)] (wW cI cJ cZ cO a S M ov) (fun r w2 => (tkC S z = 0 ∧ r = some (.int 0) ∧ w2 = wW cI cJ cZ cO a (poS (wdS S z) (Int32.toNatClampNeg z) (lr_fz (cs_lt S (Int32.toNatClampNeg z)))) M (vp_updL ov 0 (Int32.toInt64 (poC (wdS S z) (Int32.toNatClampNeg z) (lr_fz (cs_lt S (Int32.toNatClampNeg z))))))) ∨ (¬ tkC S z = 0 ∧ r = some (.int (plIS (tkC S z))) ∧ w2 = wW cI cJ cZ cO a S M ov)) := by
  refine ctw_of (by decide +kernel) (Nat.le_of_ble_eq_true rfl) ?_
  intro p e s m args below meth c C ht
  have C : Cxt p s m args meth c D (tysW cI cJ cZ cO) N0 cL_take 4 RL (some .int) "take" := C
  refine go_aload_n C 2 dL_take_0 rfl rfl ?_
  refine go_iconst C (v := 0) dL_take_1 (by decide) ?_
  refine go_aload_n C 0 dL_take_2 rfl rfl ?_
  refine go_iload_n C 1 dL_take_3 rfl rfl ?_
  refine k_RL_36 C hlf S M ov z hok ⟨(Nat.le_of_ble_eq_true rfl), (Nat.le_of_ble_eq_true rfl)⟩ ⟨(Nat.le_of_ble_eq_true rfl), (Nat.le_of_ble_eq_true rfl)⟩ (Nat.le_of_ble_eq_true rfl) dL_take_4 (fun E hE => ?_) (fun h9 => ?_)
  · obtain ⟨hk, rfl⟩ := hE
    rcases tkC_r _ _ with hc | hc | hc
    · exact absurd hc hk
    · rw [hc]
      refine gox_catch C (E := nb_I) [] ⟨0, 9, 12, 13⟩ [⟨0, 9, 15, 24⟩] ht (fun z9 hz9 => (List.not_mem_nil hz9).elim) (by decide) (by decide) bcl_RL_13 mem_I (fun q9 => ?_)
      refine go_astore_n C (lo' := [(3, .ref q9), (0, .ref (a 0)), (1, .int z), (2, .ref (a 24))]) dL_take_12 rfl (by decide) rfl ?_
      refine go_iconst C (v := 1) dL_take_13 (by decide) ?_
      exact go_x (go_ireturn C rfl dL_take_14 (by decide) (by decide) (Or.inr ⟨by decide, rfl, rfl⟩))
    · rw [hc]
      refine gox_catch C (E := nb_S) [⟨0, 9, 12, 13⟩] ⟨0, 9, 15, 24⟩ [] ht (pl_all1 (Or.inr ⟨by decide, nb_I, bcl_RL_13, List.mem_of_getElem? (i := 1) rfl⟩)) (by decide) (by decide) bcl_RL_24 mem_S (fun q9 => ?_)
      refine go_astore_n C (lo' := [(3, .ref q9), (0, .ref (a 0)), (1, .int z), (2, .ref (a 24))]) dL_take_15 rfl (by decide) rfl ?_
      refine go_iconst C (v := 2) dL_take_16 (by decide) ?_
      exact go_x (go_ireturn C rfl dL_take_17 (by decide) (by decide) (Or.inr ⟨by decide, rfl, rfl⟩))
  · refine go_i2l C dL_take_7 ?_
    refine s_out C vin_0_1 dL_take_8 ?_
    refine go_goto C (tgt := 18) dL_take_9 (by decide) ?_
    refine go_iconst C (v := 0) dL_take_18 (by decide) ?_
    exact go_x (go_ireturn C rfl dL_take_19 (by decide) (by decide) (Or.inl ⟨h9, rfl, rfl⟩))
theorem k_RL_118 {p : Program} {l : Launch} {e : Env} {R : Room} {s : State} {m : MethodId} {args : Array Value} {below : List Frame} {meth : Method} {c : Code} {D : va_G} {N0 mL : Nat} {cc : ByteArray} {nm : String} {ret : Option FieldType} {Q : State → Prop} {k n pc : Nat} {lo : List (Nat × Value)} {st : List Value} {cI cJ cZ cO : ClassId} {a : Nat → Nat} (C : Cxt p s m args meth c D (tysW cI cJ cZ cO) N0 cc mL RL ret nm) (hlf : l.stackTraces = false) (S : CS) (M : MS) (ov : Nat → Int64) (z : Int32) (hok : okX S) (hR : 9 + 1 ≤ R.frames ∧ 8 + (4 + 11) + 149 ≤ R.locals) (hcs : k + 3 ≤ R.cells ∧ n + 18 ≤ R.slots) (hcat : (st.map fun v => v.category).sum ≤ 8) (dk : decode cc pc = .ok (.invokestatic 118, 3)) (g0 : (tkC S z = 0) → Go p l e R s m args below meth c D N0 mL Q (wW cI cJ cZ cO a (poS (wdS S z) (Int32.toNatClampNeg z) (lr_fz (cs_lt S (Int32.toNatClampNeg z)))) M (vp_updL ov 0 (Int32.toInt64 (poC (wdS S z) (Int32.toNatClampNeg z) (lr_fz (cs_lt S (Int32.toNatClampNeg z))))))) (k + 3) (n + 18) (pc + 3) lo (.int 0 :: st)) (g1 : (¬ tkC S z = 0) → Go p l e R s m args below meth c D N0 mL Q (wW cI cJ cZ cO a S M ov) (k + 3) (n + 18) (pc + 3) lo (.int (plIS (tkC S z)) :: st)) : Go p l e R s m args below meth c D N0 mL Q (wW cI cJ cZ cO a S M ov) k n pc lo (.ref (a 24) :: .int z :: .ref (a 0) :: st) :=
  go_callW C (As := [.ref (a 0), .int z, .ref (a 24)]) (rest := st) (c_L_take l hlf D cI cJ cZ cO N0 a S M ov z hok) ⟨by decide +kernel, by decide +kernel⟩ bl_RL_118 bst_yL_take bz_NoticeBookLaw bc_yL_take (show Option.map (fun d => d.parameters.length) (parseMethodDescriptor yL_take.desc) = some 3 by decide +kernel) hR hcs hcat dk (fun r w2 h => by
    rcases h with ⟨h9, rfl, rfl⟩ | ⟨h9, rfl, rfl⟩
    · exact g0 h9
    · exact g1 h9) rfl
set_option maxHeartbeats 4000000 in
set_option maxRecDepth 100000 in
theorem c_L_early (l : Launch) (hlf : l.stackTraces = false) (D : va_G) (cI cJ cZ cO : ClassId) (N0 : Nat) (a : Nat → Nat) (S : CS) (M : MS) (ov : Nat → Int64) (cu c9 : Int32) (hok : okX S) : CtW l D (tysW cI cJ cZ cO) N0 yL_early cL_early 5 (some .int) [(0, 10, 13, 13), (0, 10, 17, 15), (0, 10, 21, 24)] { frames := 8, cells := 3, slots := 18, locals := 131 } [.ref (a 0), .int cu, .int c9, .ref (a 24)] (wW cI cJ cZ cO a S M ov) (fun r w2 => (eaC S cu c9 = 0 ∧ r = some (.int 0) ∧ w2 = wW cI cJ cZ cO a (erTo (noteX S cu) cu c9 (cs_n S)).2.2 M (vp_updL ov 0 (Int32.toInt64 ((erTo (noteX S cu) cu c9 (cs_n S)).2.1)))) ∨ (¬ eaC S cu c9 = 0 ∧ r = some (.int (pl3 (eaC S cu c9))) ∧ w2 = wW cI cJ cZ cO a S M ov)) := by
  refine ctw_of (by decide +kernel) (Nat.le_of_ble_eq_true rfl) ?_
  intro p e s m args below meth c C ht
  have C : Cxt p s m args meth c D (tysW cI cJ cZ cO) N0 cL_early 5 RL (some .int) "early" := C
  refine go_aload_n C 3 dL_early_0 rfl rfl ?_
  refine go_iconst C (v := 0) dL_early_1 (by decide) ?_
  refine go_aload_n C 0 dL_early_2 rfl rfl ?_
  refine go_iload_n C 1 dL_early_3 rfl rfl ?_
  refine go_iload_n C 2 dL_early_4 rfl rfl ?_
  refine k_RL_39 C hlf S M ov cu c9 hok ⟨(Nat.le_of_ble_eq_true rfl), (Nat.le_of_ble_eq_true rfl)⟩ ⟨(Nat.le_of_ble_eq_true rfl), (Nat.le_of_ble_eq_true rfl)⟩ (Nat.le_of_ble_eq_true rfl) dL_early_5 (fun E hE => ?_) (fun h9 => ?_)
  · obtain ⟨hk, rfl⟩ := hE
    rcases eaC_r _ _ _ with hc | hc | hc | hc
    · exact absurd hc hk
    · rw [hc]
      refine gox_catch C (E := nb_I) [] ⟨0, 10, 13, 13⟩ [⟨0, 10, 17, 15⟩, ⟨0, 10, 21, 24⟩] ht (fun z9 hz9 => (List.not_mem_nil hz9).elim) (by decide) (by decide) bcl_RL_13 mem_I (fun q9 => ?_)
      refine go_astore C (lo' := [(4, .ref q9), (0, .ref (a 0)), (1, .int cu), (2, .int c9), (3, .ref (a 24))]) dL_early_13 (by decide) rfl ?_
      refine go_iconst C (v := 1) dL_early_15 (by decide) ?_
      exact go_x (go_ireturn C rfl dL_early_16 (by decide) (by decide) (Or.inr ⟨by decide, rfl, rfl⟩))
    · rw [hc]
      refine gox_catch C (E := nb_A) [⟨0, 10, 13, 13⟩] ⟨0, 10, 17, 15⟩ [⟨0, 10, 21, 24⟩] ht (pl_all1 (Or.inr ⟨by decide, nb_I, bcl_RL_13, List.mem_of_getElem? (i := 0) rfl⟩)) (by decide) (by decide) bcl_RL_15 mem_A (fun q9 => ?_)
      refine go_astore C (lo' := [(4, .ref q9), (0, .ref (a 0)), (1, .int cu), (2, .int c9), (3, .ref (a 24))]) dL_early_17 (by decide) rfl ?_
      refine go_iconst C (v := 2) dL_early_19 (by decide) ?_
      exact go_x (go_ireturn C rfl dL_early_20 (by decide) (by decide) (Or.inr ⟨by decide, rfl, rfl⟩))
    · rw [hc]
      refine gox_catch C (E := nb_S) [⟨0, 10, 13, 13⟩, ⟨0, 10, 17, 15⟩] ⟨0, 10, 21, 24⟩ [] ht (pl_all2 (Or.inr ⟨by decide, nb_I, bcl_RL_13, List.mem_of_getElem? (i := 1) rfl⟩) (Or.inr ⟨by decide, nb_A, bcl_RL_15, List.mem_of_getElem? (i := 3) rfl⟩)) (by decide) (by decide) bcl_RL_24 mem_S (fun q9 => ?_)
      refine go_astore C (lo' := [(4, .ref q9), (0, .ref (a 0)), (1, .int cu), (2, .int c9), (3, .ref (a 24))]) dL_early_21 (by decide) rfl ?_
      refine go_iconst C (v := 3) dL_early_23 (by decide) ?_
      exact go_x (go_ireturn C rfl dL_early_24 (by decide) (by decide) (Or.inr ⟨by decide, rfl, rfl⟩))
  · refine go_i2l C dL_early_8 ?_
    refine s_out C vin_0_1 dL_early_9 ?_
    refine go_goto C (tgt := 25) dL_early_10 (by decide) ?_
    refine go_iconst C (v := 0) dL_early_25 (by decide) ?_
    exact go_x (go_ireturn C rfl dL_early_26 (by decide) (by decide) (Or.inl ⟨h9, rfl, rfl⟩))
theorem k_RL_121 {p : Program} {l : Launch} {e : Env} {R : Room} {s : State} {m : MethodId} {args : Array Value} {below : List Frame} {meth : Method} {c : Code} {D : va_G} {N0 mL : Nat} {cc : ByteArray} {nm : String} {ret : Option FieldType} {Q : State → Prop} {k n pc : Nat} {lo : List (Nat × Value)} {st : List Value} {cI cJ cZ cO : ClassId} {a : Nat → Nat} (C : Cxt p s m args meth c D (tysW cI cJ cZ cO) N0 cc mL RL ret nm) (hlf : l.stackTraces = false) (S : CS) (M : MS) (ov : Nat → Int64) (cu c9 : Int32) (hok : okX S) (hR : 8 + 1 ≤ R.frames ∧ 8 + (5 + 11) + 131 ≤ R.locals) (hcs : k + 3 ≤ R.cells ∧ n + 18 ≤ R.slots) (hcat : (st.map fun v => v.category).sum ≤ 8) (dk : decode cc pc = .ok (.invokestatic 121, 3)) (g0 : (eaC S cu c9 = 0) → Go p l e R s m args below meth c D N0 mL Q (wW cI cJ cZ cO a (erTo (noteX S cu) cu c9 (cs_n S)).2.2 M (vp_updL ov 0 (Int32.toInt64 ((erTo (noteX S cu) cu c9 (cs_n S)).2.1)))) (k + 3) (n + 18) (pc + 3) lo (.int 0 :: st)) (g1 : (¬ eaC S cu c9 = 0) → Go p l e R s m args below meth c D N0 mL Q (wW cI cJ cZ cO a S M ov) (k + 3) (n + 18) (pc + 3) lo (.int (pl3 (eaC S cu c9)) :: st)) : Go p l e R s m args below meth c D N0 mL Q (wW cI cJ cZ cO a S M ov) k n pc lo (.ref (a 24) :: .int c9 :: .int cu :: .ref (a 0) :: st) :=
  go_callW C (As := [.ref (a 0), .int cu, .int c9, .ref (a 24)]) (rest := st) (c_L_early l hlf D cI cJ cZ cO N0 a S M ov cu c9 hok) ⟨by decide +kernel, by decide +kernel⟩ bl_RL_121 bst_yL_early bz_NoticeBookLaw bc_yL_early (show Option.map (fun d => d.parameters.length) (parseMethodDescriptor yL_early.desc) = some 4 by decide +kernel) hR hcs hcat dk (fun r w2 h => by
    rcases h with ⟨h9, rfl, rfl⟩ | ⟨h9, rfl, rfl⟩
    · exact g0 h9
    · exact g1 h9) rfl
set_option maxHeartbeats 4000000 in
set_option maxRecDepth 100000 in
theorem c_L_instruct (l : Launch) (hlf : l.stackTraces = false) (D : va_G) (cI cJ cZ cO : ClassId) (N0 : Nat) (a : Nat → Nat) (S : CS) (M : MS) (ov : Nat → Int64) (z v : Int32) (hok : okX S) : CtW l D (tysW cI cJ cZ cO) N0 yL_instruct cL_instruct 5 (some .int) [(0, 10, 13, 13), (0, 10, 17, 15), (0, 10, 21, 24)] { frames := 8, cells := 3, slots := 18, locals := 128 } [.ref (a 0), .int z, .int v, .ref (a 24)] (wW cI cJ cZ cO a S M ov) (fun r w2 => (inC S z v = 0 ∧ r = some (.int 0) ∧ w2 = wW cI cJ cZ cO a (inS S z v) M (vp_updL ov 0 (Int32.toInt64 (lr_ins (cs_lt S (Int32.toNatClampNeg z)))))) ∨ (¬ inC S z v = 0 ∧ r = some (.int (pl3 (inC S z v))) ∧ w2 = wW cI cJ cZ cO a S M ov)) := by
  refine ctw_of (by decide +kernel) (Nat.le_of_ble_eq_true rfl) ?_
  intro p e s m args below meth c C ht
  have C : Cxt p s m args meth c D (tysW cI cJ cZ cO) N0 cL_instruct 5 RL (some .int) "instruct" := C
  refine go_aload_n C 3 dL_instruct_0 rfl rfl ?_
  refine go_iconst C (v := 0) dL_instruct_1 (by decide) ?_
  refine go_aload_n C 0 dL_instruct_2 rfl rfl ?_
  refine go_iload_n C 1 dL_instruct_3 rfl rfl ?_
  refine go_iload_n C 2 dL_instruct_4 rfl rfl ?_
  refine k_RL_42 C hlf S M ov z v hok ⟨(Nat.le_of_ble_eq_true rfl), (Nat.le_of_ble_eq_true rfl)⟩ ⟨(Nat.le_of_ble_eq_true rfl), (Nat.le_of_ble_eq_true rfl)⟩ (Nat.le_of_ble_eq_true rfl) dL_instruct_5 (fun E hE => ?_) (fun h9 => ?_)
  · obtain ⟨hk, rfl⟩ := hE
    rcases inC_r _ _ _ with hc | hc | hc | hc
    · exact absurd hc hk
    · rw [hc]
      refine gox_catch C (E := nb_I) [] ⟨0, 10, 13, 13⟩ [⟨0, 10, 17, 15⟩, ⟨0, 10, 21, 24⟩] ht (fun z9 hz9 => (List.not_mem_nil hz9).elim) (by decide) (by decide) bcl_RL_13 mem_I (fun q9 => ?_)
      refine go_astore C (lo' := [(4, .ref q9), (0, .ref (a 0)), (1, .int z), (2, .int v), (3, .ref (a 24))]) dL_instruct_13 (by decide) rfl ?_
      refine go_iconst C (v := 1) dL_instruct_15 (by decide) ?_
      exact go_x (go_ireturn C rfl dL_instruct_16 (by decide) (by decide) (Or.inr ⟨by decide, rfl, rfl⟩))
    · rw [hc]
      refine gox_catch C (E := nb_A) [⟨0, 10, 13, 13⟩] ⟨0, 10, 17, 15⟩ [⟨0, 10, 21, 24⟩] ht (pl_all1 (Or.inr ⟨by decide, nb_I, bcl_RL_13, List.mem_of_getElem? (i := 0) rfl⟩)) (by decide) (by decide) bcl_RL_15 mem_A (fun q9 => ?_)
      refine go_astore C (lo' := [(4, .ref q9), (0, .ref (a 0)), (1, .int z), (2, .int v), (3, .ref (a 24))]) dL_instruct_17 (by decide) rfl ?_
      refine go_iconst C (v := 2) dL_instruct_19 (by decide) ?_
      exact go_x (go_ireturn C rfl dL_instruct_20 (by decide) (by decide) (Or.inr ⟨by decide, rfl, rfl⟩))
    · rw [hc]
      refine gox_catch C (E := nb_S) [⟨0, 10, 13, 13⟩, ⟨0, 10, 17, 15⟩] ⟨0, 10, 21, 24⟩ [] ht (pl_all2 (Or.inr ⟨by decide, nb_I, bcl_RL_13, List.mem_of_getElem? (i := 1) rfl⟩) (Or.inr ⟨by decide, nb_A, bcl_RL_15, List.mem_of_getElem? (i := 3) rfl⟩)) (by decide) (by decide) bcl_RL_24 mem_S (fun q9 => ?_)
      refine go_astore C (lo' := [(4, .ref q9), (0, .ref (a 0)), (1, .int z), (2, .int v), (3, .ref (a 24))]) dL_instruct_21 (by decide) rfl ?_
      refine go_iconst C (v := 3) dL_instruct_23 (by decide) ?_
      exact go_x (go_ireturn C rfl dL_instruct_24 (by decide) (by decide) (Or.inr ⟨by decide, rfl, rfl⟩))
  · refine go_i2l C dL_instruct_8 ?_
    refine s_out C vin_0_1 dL_instruct_9 ?_
    refine go_goto C (tgt := 25) dL_instruct_10 (by decide) ?_
    refine go_iconst C (v := 0) dL_instruct_25 (by decide) ?_
    exact go_x (go_ireturn C rfl dL_instruct_26 (by decide) (by decide) (Or.inl ⟨h9, rfl, rfl⟩))
theorem k_RL_124 {p : Program} {l : Launch} {e : Env} {R : Room} {s : State} {m : MethodId} {args : Array Value} {below : List Frame} {meth : Method} {c : Code} {D : va_G} {N0 mL : Nat} {cc : ByteArray} {nm : String} {ret : Option FieldType} {Q : State → Prop} {k n pc : Nat} {lo : List (Nat × Value)} {st : List Value} {cI cJ cZ cO : ClassId} {a : Nat → Nat} (C : Cxt p s m args meth c D (tysW cI cJ cZ cO) N0 cc mL RL ret nm) (hlf : l.stackTraces = false) (S : CS) (M : MS) (ov : Nat → Int64) (z v : Int32) (hok : okX S) (hR : 8 + 1 ≤ R.frames ∧ 8 + (5 + 11) + 128 ≤ R.locals) (hcs : k + 3 ≤ R.cells ∧ n + 18 ≤ R.slots) (hcat : (st.map fun v => v.category).sum ≤ 8) (dk : decode cc pc = .ok (.invokestatic 124, 3)) (g0 : (inC S z v = 0) → Go p l e R s m args below meth c D N0 mL Q (wW cI cJ cZ cO a (inS S z v) M (vp_updL ov 0 (Int32.toInt64 (lr_ins (cs_lt S (Int32.toNatClampNeg z)))))) (k + 3) (n + 18) (pc + 3) lo (.int 0 :: st)) (g1 : (¬ inC S z v = 0) → Go p l e R s m args below meth c D N0 mL Q (wW cI cJ cZ cO a S M ov) (k + 3) (n + 18) (pc + 3) lo (.int (pl3 (inC S z v)) :: st)) : Go p l e R s m args below meth c D N0 mL Q (wW cI cJ cZ cO a S M ov) k n pc lo (.ref (a 24) :: .int v :: .int z :: .ref (a 0) :: st) :=
  go_callW C (As := [.ref (a 0), .int z, .int v, .ref (a 24)]) (rest := st) (c_L_instruct l hlf D cI cJ cZ cO N0 a S M ov z v hok) ⟨by decide +kernel, by decide +kernel⟩ bl_RL_124 bst_yL_instruct bz_NoticeBookLaw bc_yL_instruct (show Option.map (fun d => d.parameters.length) (parseMethodDescriptor yL_instruct.desc) = some 4 by decide +kernel) hR hcs hcat dk (fun r w2 h => by
    rcases h with ⟨h9, rfl, rfl⟩ | ⟨h9, rfl, rfl⟩
    · exact g0 h9
    · exact g1 h9) rfl
set_option maxHeartbeats 4000000 in
set_option maxRecDepth 100000 in
theorem c_L_letGo (l : Launch) (hlf : l.stackTraces = false) (D : va_G) (cI cJ cZ cO : ClassId) (N0 : Nat) (a : Nat → Nat) (S : CS) (M : MS) (ov : Nat → Int64) (z : Int32) (hok : okX S) : CtW l D (tysW cI cJ cZ cO) N0 yL_letGo cL_letGo 4 (some .int) [(0, 9, 12, 13), (0, 9, 15, 24)] { frames := 8, cells := 2, slots := 12, locals := 126 } [.ref (a 0), .int z, .ref (a 24)] (wW cI cJ cZ cO a S M ov) (fun r w2 => (lgC S z = 0 ∧ r = some (.int 0) ∧ w2 = wW cI cJ cZ cO a (lgS S z) M (vp_updL ov 0 (Int32.toInt64 (lgV S z)))) ∨ (¬ lgC S z = 0 ∧ r = some (.int (plIS (lgC S z))) ∧ w2 = wW cI cJ cZ cO a S M ov)) := by
  refine ctw_of (by decide +kernel) (Nat.le_of_ble_eq_true rfl) ?_
  intro p e s m args below meth c C ht
  have C : Cxt p s m args meth c D (tysW cI cJ cZ cO) N0 cL_letGo 4 RL (some .int) "letGo" := C
  refine go_aload_n C 2 dL_letGo_0 rfl rfl ?_
  refine go_iconst C (v := 0) dL_letGo_1 (by decide) ?_
  refine go_aload_n C 0 dL_letGo_2 rfl rfl ?_
  refine go_iload_n C 1 dL_letGo_3 rfl rfl ?_
  refine k_RL_45 C hlf S M ov z hok ⟨(Nat.le_of_ble_eq_true rfl), (Nat.le_of_ble_eq_true rfl)⟩ ⟨(Nat.le_of_ble_eq_true rfl), (Nat.le_of_ble_eq_true rfl)⟩ (Nat.le_of_ble_eq_true rfl) dL_letGo_4 (fun E hE => ?_) (fun h9 => ?_)
  · obtain ⟨hk, rfl⟩ := hE
    rcases lgC_r _ _ with hc | hc | hc
    · exact absurd hc hk
    · rw [hc]
      refine gox_catch C (E := nb_I) [] ⟨0, 9, 12, 13⟩ [⟨0, 9, 15, 24⟩] ht (fun z9 hz9 => (List.not_mem_nil hz9).elim) (by decide) (by decide) bcl_RL_13 mem_I (fun q9 => ?_)
      refine go_astore_n C (lo' := [(3, .ref q9), (0, .ref (a 0)), (1, .int z), (2, .ref (a 24))]) dL_letGo_12 rfl (by decide) rfl ?_
      refine go_iconst C (v := 1) dL_letGo_13 (by decide) ?_
      exact go_x (go_ireturn C rfl dL_letGo_14 (by decide) (by decide) (Or.inr ⟨by decide, rfl, rfl⟩))
    · rw [hc]
      refine gox_catch C (E := nb_S) [⟨0, 9, 12, 13⟩] ⟨0, 9, 15, 24⟩ [] ht (pl_all1 (Or.inr ⟨by decide, nb_I, bcl_RL_13, List.mem_of_getElem? (i := 1) rfl⟩)) (by decide) (by decide) bcl_RL_24 mem_S (fun q9 => ?_)
      refine go_astore_n C (lo' := [(3, .ref q9), (0, .ref (a 0)), (1, .int z), (2, .ref (a 24))]) dL_letGo_15 rfl (by decide) rfl ?_
      refine go_iconst C (v := 2) dL_letGo_16 (by decide) ?_
      exact go_x (go_ireturn C rfl dL_letGo_17 (by decide) (by decide) (Or.inr ⟨by decide, rfl, rfl⟩))
  · refine go_i2l C dL_letGo_7 ?_
    refine s_out C vin_0_1 dL_letGo_8 ?_
    refine go_goto C (tgt := 18) dL_letGo_9 (by decide) ?_
    refine go_iconst C (v := 0) dL_letGo_18 (by decide) ?_
    exact go_x (go_ireturn C rfl dL_letGo_19 (by decide) (by decide) (Or.inl ⟨h9, rfl, rfl⟩))
theorem k_RL_127 {p : Program} {l : Launch} {e : Env} {R : Room} {s : State} {m : MethodId} {args : Array Value} {below : List Frame} {meth : Method} {c : Code} {D : va_G} {N0 mL : Nat} {cc : ByteArray} {nm : String} {ret : Option FieldType} {Q : State → Prop} {k n pc : Nat} {lo : List (Nat × Value)} {st : List Value} {cI cJ cZ cO : ClassId} {a : Nat → Nat} (C : Cxt p s m args meth c D (tysW cI cJ cZ cO) N0 cc mL RL ret nm) (hlf : l.stackTraces = false) (S : CS) (M : MS) (ov : Nat → Int64) (z : Int32) (hok : okX S) (hR : 8 + 1 ≤ R.frames ∧ 8 + (4 + 11) + 126 ≤ R.locals) (hcs : k + 2 ≤ R.cells ∧ n + 12 ≤ R.slots) (hcat : (st.map fun v => v.category).sum ≤ 8) (dk : decode cc pc = .ok (.invokestatic 127, 3)) (g0 : (lgC S z = 0) → Go p l e R s m args below meth c D N0 mL Q (wW cI cJ cZ cO a (lgS S z) M (vp_updL ov 0 (Int32.toInt64 (lgV S z)))) (k + 2) (n + 12) (pc + 3) lo (.int 0 :: st)) (g1 : (¬ lgC S z = 0) → Go p l e R s m args below meth c D N0 mL Q (wW cI cJ cZ cO a S M ov) (k + 2) (n + 12) (pc + 3) lo (.int (plIS (lgC S z)) :: st)) : Go p l e R s m args below meth c D N0 mL Q (wW cI cJ cZ cO a S M ov) k n pc lo (.ref (a 24) :: .int z :: .ref (a 0) :: st) :=
  go_callW C (As := [.ref (a 0), .int z, .ref (a 24)]) (rest := st) (c_L_letGo l hlf D cI cJ cZ cO N0 a S M ov z hok) ⟨by decide +kernel, by decide +kernel⟩ bl_RL_127 bst_yL_letGo bz_NoticeBookLaw bc_yL_letGo (show Option.map (fun d => d.parameters.length) (parseMethodDescriptor yL_letGo.desc) = some 3 by decide +kernel) hR hcs hcat dk (fun r w2 h => by
    rcases h with ⟨h9, rfl, rfl⟩ | ⟨h9, rfl, rfl⟩
    · exact g0 h9
    · exact g1 h9) rfl
set_option maxHeartbeats 4000000 in
set_option maxRecDepth 100000 in
theorem c_L_join (l : Launch) (hlf : l.stackTraces = false) (D : va_G) (cI cJ cZ cO : ClassId) (N0 : Nat) (a : Nat → Nat) (S : CS) (M : MS) (ov : Nat → Int64) (z y : Int32) (hok : okX S) : CtW l D (tysW cI cJ cZ cO) N0 yL_join cL_join 5 (some .int) [(0, 10, 13, 13), (0, 10, 17, 15), (0, 10, 21, 24)] { frames := 8, cells := 3, slots := 18, locals := 128 } [.ref (a 0), .int z, .int y, .ref (a 24)] (wW cI cJ cZ cO a S M ov) (fun r w2 => (joC S z y = 0 ∧ r = some (.int 0) ∧ w2 = wW cI cJ cZ cO a (joS S (Int32.toNatClampNeg z) (Int32.toNatClampNeg y)) M (vp_updL ov 0 (Int32.toInt64 (lr_pr (cs_lt (joS S (Int32.toNatClampNeg z) (Int32.toNatClampNeg y)) (Int32.toNatClampNeg z)))))) ∨ (¬ joC S z y = 0 ∧ r = some (.int (pl3 (joC S z y))) ∧ w2 = wW cI cJ cZ cO a S M ov)) := by
  refine ctw_of (by decide +kernel) (Nat.le_of_ble_eq_true rfl) ?_
  intro p e s m args below meth c C ht
  have C : Cxt p s m args meth c D (tysW cI cJ cZ cO) N0 cL_join 5 RL (some .int) "join" := C
  refine go_aload_n C 3 dL_join_0 rfl rfl ?_
  refine go_iconst C (v := 0) dL_join_1 (by decide) ?_
  refine go_aload_n C 0 dL_join_2 rfl rfl ?_
  refine go_iload_n C 1 dL_join_3 rfl rfl ?_
  refine go_iload_n C 2 dL_join_4 rfl rfl ?_
  refine k_RL_48 C hlf S M ov z y hok ⟨(Nat.le_of_ble_eq_true rfl), (Nat.le_of_ble_eq_true rfl)⟩ ⟨(Nat.le_of_ble_eq_true rfl), (Nat.le_of_ble_eq_true rfl)⟩ (Nat.le_of_ble_eq_true rfl) dL_join_5 (fun E hE => ?_) (fun h9 => ?_)
  · obtain ⟨hk, rfl⟩ := hE
    rcases joC_r _ _ _ with hc | hc | hc | hc
    · exact absurd hc hk
    · rw [hc]
      refine gox_catch C (E := nb_I) [] ⟨0, 10, 13, 13⟩ [⟨0, 10, 17, 15⟩, ⟨0, 10, 21, 24⟩] ht (fun z9 hz9 => (List.not_mem_nil hz9).elim) (by decide) (by decide) bcl_RL_13 mem_I (fun q9 => ?_)
      refine go_astore C (lo' := [(4, .ref q9), (0, .ref (a 0)), (1, .int z), (2, .int y), (3, .ref (a 24))]) dL_join_13 (by decide) rfl ?_
      refine go_iconst C (v := 1) dL_join_15 (by decide) ?_
      exact go_x (go_ireturn C rfl dL_join_16 (by decide) (by decide) (Or.inr ⟨by decide, rfl, rfl⟩))
    · rw [hc]
      refine gox_catch C (E := nb_A) [⟨0, 10, 13, 13⟩] ⟨0, 10, 17, 15⟩ [⟨0, 10, 21, 24⟩] ht (pl_all1 (Or.inr ⟨by decide, nb_I, bcl_RL_13, List.mem_of_getElem? (i := 0) rfl⟩)) (by decide) (by decide) bcl_RL_15 mem_A (fun q9 => ?_)
      refine go_astore C (lo' := [(4, .ref q9), (0, .ref (a 0)), (1, .int z), (2, .int y), (3, .ref (a 24))]) dL_join_17 (by decide) rfl ?_
      refine go_iconst C (v := 2) dL_join_19 (by decide) ?_
      exact go_x (go_ireturn C rfl dL_join_20 (by decide) (by decide) (Or.inr ⟨by decide, rfl, rfl⟩))
    · rw [hc]
      refine gox_catch C (E := nb_S) [⟨0, 10, 13, 13⟩, ⟨0, 10, 17, 15⟩] ⟨0, 10, 21, 24⟩ [] ht (pl_all2 (Or.inr ⟨by decide, nb_I, bcl_RL_13, List.mem_of_getElem? (i := 1) rfl⟩) (Or.inr ⟨by decide, nb_A, bcl_RL_15, List.mem_of_getElem? (i := 3) rfl⟩)) (by decide) (by decide) bcl_RL_24 mem_S (fun q9 => ?_)
      refine go_astore C (lo' := [(4, .ref q9), (0, .ref (a 0)), (1, .int z), (2, .int y), (3, .ref (a 24))]) dL_join_21 (by decide) rfl ?_
      refine go_iconst C (v := 3) dL_join_23 (by decide) ?_
      exact go_x (go_ireturn C rfl dL_join_24 (by decide) (by decide) (Or.inr ⟨by decide, rfl, rfl⟩))
  · refine go_i2l C dL_join_8 ?_
    refine s_out C vin_0_1 dL_join_9 ?_
    refine go_goto C (tgt := 25) dL_join_10 (by decide) ?_
    refine go_iconst C (v := 0) dL_join_25 (by decide) ?_
    exact go_x (go_ireturn C rfl dL_join_26 (by decide) (by decide) (Or.inl ⟨h9, rfl, rfl⟩))
theorem k_RL_130 {p : Program} {l : Launch} {e : Env} {R : Room} {s : State} {m : MethodId} {args : Array Value} {below : List Frame} {meth : Method} {c : Code} {D : va_G} {N0 mL : Nat} {cc : ByteArray} {nm : String} {ret : Option FieldType} {Q : State → Prop} {k n pc : Nat} {lo : List (Nat × Value)} {st : List Value} {cI cJ cZ cO : ClassId} {a : Nat → Nat} (C : Cxt p s m args meth c D (tysW cI cJ cZ cO) N0 cc mL RL ret nm) (hlf : l.stackTraces = false) (S : CS) (M : MS) (ov : Nat → Int64) (z y : Int32) (hok : okX S) (hR : 8 + 1 ≤ R.frames ∧ 8 + (5 + 11) + 128 ≤ R.locals) (hcs : k + 3 ≤ R.cells ∧ n + 18 ≤ R.slots) (hcat : (st.map fun v => v.category).sum ≤ 8) (dk : decode cc pc = .ok (.invokestatic 130, 3)) (g0 : (joC S z y = 0) → Go p l e R s m args below meth c D N0 mL Q (wW cI cJ cZ cO a (joS S (Int32.toNatClampNeg z) (Int32.toNatClampNeg y)) M (vp_updL ov 0 (Int32.toInt64 (lr_pr (cs_lt (joS S (Int32.toNatClampNeg z) (Int32.toNatClampNeg y)) (Int32.toNatClampNeg z)))))) (k + 3) (n + 18) (pc + 3) lo (.int 0 :: st)) (g1 : (¬ joC S z y = 0) → Go p l e R s m args below meth c D N0 mL Q (wW cI cJ cZ cO a S M ov) (k + 3) (n + 18) (pc + 3) lo (.int (pl3 (joC S z y)) :: st)) : Go p l e R s m args below meth c D N0 mL Q (wW cI cJ cZ cO a S M ov) k n pc lo (.ref (a 24) :: .int y :: .int z :: .ref (a 0) :: st) :=
  go_callW C (As := [.ref (a 0), .int z, .int y, .ref (a 24)]) (rest := st) (c_L_join l hlf D cI cJ cZ cO N0 a S M ov z y hok) ⟨by decide +kernel, by decide +kernel⟩ bl_RL_130 bst_yL_join bz_NoticeBookLaw bc_yL_join (show Option.map (fun d => d.parameters.length) (parseMethodDescriptor yL_join.desc) = some 4 by decide +kernel) hR hcs hcat dk (fun r w2 h => by
    rcases h with ⟨h9, rfl, rfl⟩ | ⟨h9, rfl, rfl⟩
    · exact g0 h9
    · exact g1 h9) rfl
set_option maxHeartbeats 4000000 in
set_option maxRecDepth 100000 in
theorem c_L_pass (l : Launch) (hlf : l.stackTraces = false) (D : va_G) (cI cJ cZ cO : ClassId) (N0 : Nat) (a : Nat → Nat) (S : CS) (M : MS) (ov : Nat → Int64) (d : Int32) (hok : okX S) : CtW l D (tysW cI cJ cZ cO) N0 yL_pass cL_pass 4 (some .int) [(0, 9, 12, 15), (0, 9, 15, 24)] { frames := 8, cells := 2, slots := 12, locals := 134 } [.ref (a 0), .int d, .ref (a 24)] (wW cI cJ cZ cO a S M ov) (fun r w2 => (psC S d = 0 ∧ r = some (.int 0) ∧ w2 = wW cI cJ cZ cO a (psTo (ntTo S 4) (Int32.toNatClampNeg d)).2 M (vp_updL ov 0 (Int32.toInt64 ((psTo (ntTo S 4) (Int32.toNatClampNeg d)).1)))) ∨ (¬ psC S d = 0 ∧ r = some (.int (plAS (psC S d))) ∧ w2 = wW cI cJ cZ cO a S M ov)) := by
  refine ctw_of (by decide +kernel) (Nat.le_of_ble_eq_true rfl) ?_
  intro p e s m args below meth c C ht
  have C : Cxt p s m args meth c D (tysW cI cJ cZ cO) N0 cL_pass 4 RL (some .int) "pass" := C
  refine go_aload_n C 2 dL_pass_0 rfl rfl ?_
  refine go_iconst C (v := 0) dL_pass_1 (by decide) ?_
  refine go_aload_n C 0 dL_pass_2 rfl rfl ?_
  refine go_iload_n C 1 dL_pass_3 rfl rfl ?_
  refine k_RL_51 C hlf S M ov d hok ⟨(Nat.le_of_ble_eq_true rfl), (Nat.le_of_ble_eq_true rfl)⟩ ⟨(Nat.le_of_ble_eq_true rfl), (Nat.le_of_ble_eq_true rfl)⟩ (Nat.le_of_ble_eq_true rfl) dL_pass_4 (fun E hE => ?_) (fun h9 => ?_)
  · obtain ⟨hk, rfl⟩ := hE
    rcases psC_r _ _ with hc | hc | hc
    · exact absurd hc hk
    · rw [hc]
      refine gox_catch C (E := nb_A) [] ⟨0, 9, 12, 15⟩ [⟨0, 9, 15, 24⟩] ht (fun z9 hz9 => (List.not_mem_nil hz9).elim) (by decide) (by decide) bcl_RL_15 mem_A (fun q9 => ?_)
      refine go_astore_n C (lo' := [(3, .ref q9), (0, .ref (a 0)), (1, .int d), (2, .ref (a 24))]) dL_pass_12 rfl (by decide) rfl ?_
      refine go_iconst C (v := 1) dL_pass_13 (by decide) ?_
      exact go_x (go_ireturn C rfl dL_pass_14 (by decide) (by decide) (Or.inr ⟨by decide, rfl, rfl⟩))
    · rw [hc]
      refine gox_catch C (E := nb_S) [⟨0, 9, 12, 15⟩] ⟨0, 9, 15, 24⟩ [] ht (pl_all1 (Or.inr ⟨by decide, nb_A, bcl_RL_15, List.mem_of_getElem? (i := 3) rfl⟩)) (by decide) (by decide) bcl_RL_24 mem_S (fun q9 => ?_)
      refine go_astore_n C (lo' := [(3, .ref q9), (0, .ref (a 0)), (1, .int d), (2, .ref (a 24))]) dL_pass_15 rfl (by decide) rfl ?_
      refine go_iconst C (v := 2) dL_pass_16 (by decide) ?_
      exact go_x (go_ireturn C rfl dL_pass_17 (by decide) (by decide) (Or.inr ⟨by decide, rfl, rfl⟩))
  · refine go_i2l C dL_pass_7 ?_
    refine s_out C vin_0_1 dL_pass_8 ?_
    refine go_goto C (tgt := 18) dL_pass_9 (by decide) ?_
    refine go_iconst C (v := 0) dL_pass_18 (by decide) ?_
    exact go_x (go_ireturn C rfl dL_pass_19 (by decide) (by decide) (Or.inl ⟨h9, rfl, rfl⟩))
theorem k_RL_133 {p : Program} {l : Launch} {e : Env} {R : Room} {s : State} {m : MethodId} {args : Array Value} {below : List Frame} {meth : Method} {c : Code} {D : va_G} {N0 mL : Nat} {cc : ByteArray} {nm : String} {ret : Option FieldType} {Q : State → Prop} {k n pc : Nat} {lo : List (Nat × Value)} {st : List Value} {cI cJ cZ cO : ClassId} {a : Nat → Nat} (C : Cxt p s m args meth c D (tysW cI cJ cZ cO) N0 cc mL RL ret nm) (hlf : l.stackTraces = false) (S : CS) (M : MS) (ov : Nat → Int64) (d : Int32) (hok : okX S) (hR : 8 + 1 ≤ R.frames ∧ 8 + (4 + 11) + 134 ≤ R.locals) (hcs : k + 2 ≤ R.cells ∧ n + 12 ≤ R.slots) (hcat : (st.map fun v => v.category).sum ≤ 8) (dk : decode cc pc = .ok (.invokestatic 133, 3)) (g0 : (psC S d = 0) → Go p l e R s m args below meth c D N0 mL Q (wW cI cJ cZ cO a (psTo (ntTo S 4) (Int32.toNatClampNeg d)).2 M (vp_updL ov 0 (Int32.toInt64 ((psTo (ntTo S 4) (Int32.toNatClampNeg d)).1)))) (k + 2) (n + 12) (pc + 3) lo (.int 0 :: st)) (g1 : (¬ psC S d = 0) → Go p l e R s m args below meth c D N0 mL Q (wW cI cJ cZ cO a S M ov) (k + 2) (n + 12) (pc + 3) lo (.int (plAS (psC S d)) :: st)) : Go p l e R s m args below meth c D N0 mL Q (wW cI cJ cZ cO a S M ov) k n pc lo (.ref (a 24) :: .int d :: .ref (a 0) :: st) :=
  go_callW C (As := [.ref (a 0), .int d, .ref (a 24)]) (rest := st) (c_L_pass l hlf D cI cJ cZ cO N0 a S M ov d hok) ⟨by decide +kernel, by decide +kernel⟩ bl_RL_133 bst_yL_pass bz_NoticeBookLaw bc_yL_pass (show Option.map (fun d => d.parameters.length) (parseMethodDescriptor yL_pass.desc) = some 3 by decide +kernel) hR hcs hcat dk (fun r w2 h => by
    rcases h with ⟨h9, rfl, rfl⟩ | ⟨h9, rfl, rfl⟩
    · exact g0 h9
    · exact g1 h9) rfl
set_option maxHeartbeats 4000000 in
set_option maxRecDepth 100000 in
theorem c_L_principal (l : Launch) (hlf : l.stackTraces = false) (D : va_G) (cI cJ cZ cO : ClassId) (N0 : Nat) (a : Nat → Nat) (S : CS) (M : MS) (ov : Nat → Int64) (z : Int32) (hok : okX S) : CtW l D (tysW cI cJ cZ cO) N0 yL_principal cL_principal 4 (some .int) [(0, 9, 12, 13)] { frames := 8, cells := 1, slots := 6, locals := 125 } [.ref (a 0), .int z, .ref (a 24)] (wW cI cJ cZ cO a S M ov) (fun r w2 => (lotC S z = 0 ∧ r = some (.int 0) ∧ w2 = wW cI cJ cZ cO a S M (vp_updL ov 0 (Int32.toInt64 (lr_pr (cs_lt S (Int32.toNatClampNeg z)))))) ∨ (¬ lotC S z = 0 ∧ r = some (.int (pl3 (lotC S z))) ∧ w2 = wW cI cJ cZ cO a S M ov)) := by
  refine ctw_of (by decide +kernel) (Nat.le_of_ble_eq_true rfl) ?_
  intro p e s m args below meth c C ht
  have C : Cxt p s m args meth c D (tysW cI cJ cZ cO) N0 cL_principal 4 RL (some .int) "principal" := C
  refine go_aload_n C 2 dL_principal_0 rfl rfl ?_
  refine go_iconst C (v := 0) dL_principal_1 (by decide) ?_
  refine go_aload_n C 0 dL_principal_2 rfl rfl ?_
  refine go_iload_n C 1 dL_principal_3 rfl rfl ?_
  refine k_RL_54 C hlf S M ov z hok ⟨(Nat.le_of_ble_eq_true rfl), (Nat.le_of_ble_eq_true rfl)⟩ ⟨(Nat.le_of_ble_eq_true rfl), (Nat.le_of_ble_eq_true rfl)⟩ (Nat.le_of_ble_eq_true rfl) dL_principal_4 (fun E hE => ?_) (fun h9 => ?_)
  · obtain ⟨hk, rfl⟩ := hE
    rcases lotC_r _ _ with hc | hc
    · exact absurd hc hk
    · rw [hc]
      refine gox_catch C (E := nb_I) [] ⟨0, 9, 12, 13⟩ [] ht (fun z9 hz9 => (List.not_mem_nil hz9).elim) (by decide) (by decide) bcl_RL_13 mem_I (fun q9 => ?_)
      refine go_astore_n C (lo' := [(3, .ref q9), (0, .ref (a 0)), (1, .int z), (2, .ref (a 24))]) dL_principal_12 rfl (by decide) rfl ?_
      refine go_iconst C (v := 1) dL_principal_13 (by decide) ?_
      exact go_x (go_ireturn C rfl dL_principal_14 (by decide) (by decide) (Or.inr ⟨by decide, rfl, rfl⟩))
  · refine go_i2l C dL_principal_7 ?_
    refine s_out C vin_0_1 dL_principal_8 ?_
    refine go_goto C (tgt := 15) dL_principal_9 (by decide) ?_
    refine go_iconst C (v := 0) dL_principal_15 (by decide) ?_
    exact go_x (go_ireturn C rfl dL_principal_16 (by decide) (by decide) (Or.inl ⟨h9, rfl, rfl⟩))
theorem k_RL_144 {p : Program} {l : Launch} {e : Env} {R : Room} {s : State} {m : MethodId} {args : Array Value} {below : List Frame} {meth : Method} {c : Code} {D : va_G} {N0 mL : Nat} {cc : ByteArray} {nm : String} {ret : Option FieldType} {Q : State → Prop} {k n pc : Nat} {lo : List (Nat × Value)} {st : List Value} {cI cJ cZ cO : ClassId} {a : Nat → Nat} (C : Cxt p s m args meth c D (tysW cI cJ cZ cO) N0 cc mL RL ret nm) (hlf : l.stackTraces = false) (S : CS) (M : MS) (ov : Nat → Int64) (z : Int32) (hok : okX S) (hR : 8 + 1 ≤ R.frames ∧ 8 + (4 + 11) + 125 ≤ R.locals) (hcs : k + 1 ≤ R.cells ∧ n + 6 ≤ R.slots) (hcat : (st.map fun v => v.category).sum ≤ 8) (dk : decode cc pc = .ok (.invokestatic 144, 3)) (g0 : (lotC S z = 0) → Go p l e R s m args below meth c D N0 mL Q (wW cI cJ cZ cO a S M (vp_updL ov 0 (Int32.toInt64 (lr_pr (cs_lt S (Int32.toNatClampNeg z)))))) (k + 1) (n + 6) (pc + 3) lo (.int 0 :: st)) (g1 : (¬ lotC S z = 0) → Go p l e R s m args below meth c D N0 mL Q (wW cI cJ cZ cO a S M ov) (k + 1) (n + 6) (pc + 3) lo (.int (pl3 (lotC S z)) :: st)) : Go p l e R s m args below meth c D N0 mL Q (wW cI cJ cZ cO a S M ov) k n pc lo (.ref (a 24) :: .int z :: .ref (a 0) :: st) :=
  go_callW C (As := [.ref (a 0), .int z, .ref (a 24)]) (rest := st) (c_L_principal l hlf D cI cJ cZ cO N0 a S M ov z hok) ⟨by decide +kernel, by decide +kernel⟩ bl_RL_144 bst_yL_principal bz_NoticeBookLaw bc_yL_principal (show Option.map (fun d => d.parameters.length) (parseMethodDescriptor yL_principal.desc) = some 3 by decide +kernel) hR hcs hcat dk (fun r w2 h => by
    rcases h with ⟨h9, rfl, rfl⟩ | ⟨h9, rfl, rfl⟩
    · exact g0 h9
    · exact g1 h9) rfl
set_option maxHeartbeats 4000000 in
set_option maxRecDepth 100000 in
theorem c_L_earned (l : Launch) (hlf : l.stackTraces = false) (D : va_G) (cI cJ cZ cO : ClassId) (N0 : Nat) (a : Nat → Nat) (S : CS) (M : MS) (ov : Nat → Int64) (z : Int32) (hok : okX S) : CtW l D (tysW cI cJ cZ cO) N0 yL_earned cL_earned 4 (some .int) [(0, 8, 11, 13)] { frames := 8, cells := 1, slots := 6, locals := 125 } [.ref (a 0), .int z, .ref (a 24)] (wW cI cJ cZ cO a S M ov) (fun r w2 => (lotC S z = 0 ∧ r = some (.int 0) ∧ w2 = wW cI cJ cZ cO a S M (vp_updL ov 0 (lr_ea (cs_lt S (Int32.toNatClampNeg z))))) ∨ (¬ lotC S z = 0 ∧ r = some (.int (pl3 (lotC S z))) ∧ w2 = wW cI cJ cZ cO a S M ov)) := by
  refine ctw_of (by decide +kernel) (Nat.le_of_ble_eq_true rfl) ?_
  intro p e s m args below meth c C ht
  have C : Cxt p s m args meth c D (tysW cI cJ cZ cO) N0 cL_earned 4 RL (some .int) "earned" := C
  refine go_aload_n C 2 dL_earned_0 rfl rfl ?_
  refine go_iconst C (v := 0) dL_earned_1 (by decide) ?_
  refine go_aload_n C 0 dL_earned_2 rfl rfl ?_
  refine go_iload_n C 1 dL_earned_3 rfl rfl ?_
  refine k_RL_57 C hlf S M ov z hok ⟨(Nat.le_of_ble_eq_true rfl), (Nat.le_of_ble_eq_true rfl)⟩ ⟨(Nat.le_of_ble_eq_true rfl), (Nat.le_of_ble_eq_true rfl)⟩ (Nat.le_of_ble_eq_true rfl) dL_earned_4 (fun E hE => ?_) (fun h9 => ?_)
  · obtain ⟨hk, rfl⟩ := hE
    rcases lotC_r _ _ with hc | hc
    · exact absurd hc hk
    · rw [hc]
      refine gox_catch C (E := nb_I) [] ⟨0, 8, 11, 13⟩ [] ht (fun z9 hz9 => (List.not_mem_nil hz9).elim) (by decide) (by decide) bcl_RL_13 mem_I (fun q9 => ?_)
      refine go_astore_n C (lo' := [(3, .ref q9), (0, .ref (a 0)), (1, .int z), (2, .ref (a 24))]) dL_earned_11 rfl (by decide) rfl ?_
      refine go_iconst C (v := 1) dL_earned_12 (by decide) ?_
      exact go_x (go_ireturn C rfl dL_earned_13 (by decide) (by decide) (Or.inr ⟨by decide, rfl, rfl⟩))
  · refine s_out C vin_0_1 dL_earned_7 ?_
    refine go_goto C (tgt := 14) dL_earned_8 (by decide) ?_
    refine go_iconst C (v := 0) dL_earned_14 (by decide) ?_
    exact go_x (go_ireturn C rfl dL_earned_15 (by decide) (by decide) (Or.inl ⟨h9, rfl, rfl⟩))
theorem k_RL_147 {p : Program} {l : Launch} {e : Env} {R : Room} {s : State} {m : MethodId} {args : Array Value} {below : List Frame} {meth : Method} {c : Code} {D : va_G} {N0 mL : Nat} {cc : ByteArray} {nm : String} {ret : Option FieldType} {Q : State → Prop} {k n pc : Nat} {lo : List (Nat × Value)} {st : List Value} {cI cJ cZ cO : ClassId} {a : Nat → Nat} (C : Cxt p s m args meth c D (tysW cI cJ cZ cO) N0 cc mL RL ret nm) (hlf : l.stackTraces = false) (S : CS) (M : MS) (ov : Nat → Int64) (z : Int32) (hok : okX S) (hR : 8 + 1 ≤ R.frames ∧ 8 + (4 + 11) + 125 ≤ R.locals) (hcs : k + 1 ≤ R.cells ∧ n + 6 ≤ R.slots) (hcat : (st.map fun v => v.category).sum ≤ 8) (dk : decode cc pc = .ok (.invokestatic 147, 3)) (g0 : (lotC S z = 0) → Go p l e R s m args below meth c D N0 mL Q (wW cI cJ cZ cO a S M (vp_updL ov 0 (lr_ea (cs_lt S (Int32.toNatClampNeg z))))) (k + 1) (n + 6) (pc + 3) lo (.int 0 :: st)) (g1 : (¬ lotC S z = 0) → Go p l e R s m args below meth c D N0 mL Q (wW cI cJ cZ cO a S M ov) (k + 1) (n + 6) (pc + 3) lo (.int (pl3 (lotC S z)) :: st)) : Go p l e R s m args below meth c D N0 mL Q (wW cI cJ cZ cO a S M ov) k n pc lo (.ref (a 24) :: .int z :: .ref (a 0) :: st) :=
  go_callW C (As := [.ref (a 0), .int z, .ref (a 24)]) (rest := st) (c_L_earned l hlf D cI cJ cZ cO N0 a S M ov z hok) ⟨by decide +kernel, by decide +kernel⟩ bl_RL_147 bst_yL_earned bz_NoticeBookLaw bc_yL_earned (show Option.map (fun d => d.parameters.length) (parseMethodDescriptor yL_earned.desc) = some 3 by decide +kernel) hR hcs hcat dk (fun r w2 h => by
    rcases h with ⟨h9, rfl, rfl⟩ | ⟨h9, rfl, rfl⟩
    · exact g0 h9
    · exact g1 h9) rfl
set_option maxHeartbeats 4000000 in
set_option maxRecDepth 100000 in
theorem c_L_partsOfDay (l : Launch) (hlf : l.stackTraces = false) (D : va_G) (cI cJ cZ cO : ClassId) (N0 : Nat) (a : Nat → Nat) (S : CS) (M : MS) (ov : Nat → Int64) (z : Int32) (hok : okX S) : CtW l D (tysW cI cJ cZ cO) N0 yL_partsOfDay cL_partsOfDay 4 (some .int) [(0, 8, 11, 13)] { frames := 8, cells := 1, slots := 6, locals := 126 } [.ref (a 0), .int z, .ref (a 24)] (wW cI cJ cZ cO a S M ov) (fun r w2 => (lotC S z = 0 ∧ r = some (.int 0) ∧ w2 = wW cI cJ cZ cO a (pdS S z) M (vp_updL ov 0 (lr_pa (cs_lt (pdS S z) (Int32.toNatClampNeg z))))) ∨ (¬ lotC S z = 0 ∧ r = some (.int (pl3 (lotC S z))) ∧ w2 = wW cI cJ cZ cO a S M ov)) := by
  refine ctw_of (by decide +kernel) (Nat.le_of_ble_eq_true rfl) ?_
  intro p e s m args below meth c C ht
  have C : Cxt p s m args meth c D (tysW cI cJ cZ cO) N0 cL_partsOfDay 4 RL (some .int) "partsOfDay" := C
  refine go_aload_n C 2 dL_partsOfDay_0 rfl rfl ?_
  refine go_iconst C (v := 0) dL_partsOfDay_1 (by decide) ?_
  refine go_aload_n C 0 dL_partsOfDay_2 rfl rfl ?_
  refine go_iload_n C 1 dL_partsOfDay_3 rfl rfl ?_
  refine k_RL_61 C hlf S M ov z hok ⟨(Nat.le_of_ble_eq_true rfl), (Nat.le_of_ble_eq_true rfl)⟩ ⟨(Nat.le_of_ble_eq_true rfl), (Nat.le_of_ble_eq_true rfl)⟩ (Nat.le_of_ble_eq_true rfl) dL_partsOfDay_4 (fun E hE => ?_) (fun h9 => ?_)
  · obtain ⟨hk, rfl⟩ := hE
    rcases lotC_r _ _ with hc | hc
    · exact absurd hc hk
    · rw [hc]
      refine gox_catch C (E := nb_I) [] ⟨0, 8, 11, 13⟩ [] ht (fun z9 hz9 => (List.not_mem_nil hz9).elim) (by decide) (by decide) bcl_RL_13 mem_I (fun q9 => ?_)
      refine go_astore_n C (lo' := [(3, .ref q9), (0, .ref (a 0)), (1, .int z), (2, .ref (a 24))]) dL_partsOfDay_11 rfl (by decide) rfl ?_
      refine go_iconst C (v := 1) dL_partsOfDay_12 (by decide) ?_
      exact go_x (go_ireturn C rfl dL_partsOfDay_13 (by decide) (by decide) (Or.inr ⟨by decide, rfl, rfl⟩))
  · refine s_out C vin_0_1 dL_partsOfDay_7 ?_
    refine go_goto C (tgt := 14) dL_partsOfDay_8 (by decide) ?_
    refine go_iconst C (v := 0) dL_partsOfDay_14 (by decide) ?_
    exact go_x (go_ireturn C rfl dL_partsOfDay_15 (by decide) (by decide) (Or.inl ⟨h9, rfl, rfl⟩))
theorem k_RL_150 {p : Program} {l : Launch} {e : Env} {R : Room} {s : State} {m : MethodId} {args : Array Value} {below : List Frame} {meth : Method} {c : Code} {D : va_G} {N0 mL : Nat} {cc : ByteArray} {nm : String} {ret : Option FieldType} {Q : State → Prop} {k n pc : Nat} {lo : List (Nat × Value)} {st : List Value} {cI cJ cZ cO : ClassId} {a : Nat → Nat} (C : Cxt p s m args meth c D (tysW cI cJ cZ cO) N0 cc mL RL ret nm) (hlf : l.stackTraces = false) (S : CS) (M : MS) (ov : Nat → Int64) (z : Int32) (hok : okX S) (hR : 8 + 1 ≤ R.frames ∧ 8 + (4 + 11) + 126 ≤ R.locals) (hcs : k + 1 ≤ R.cells ∧ n + 6 ≤ R.slots) (hcat : (st.map fun v => v.category).sum ≤ 8) (dk : decode cc pc = .ok (.invokestatic 150, 3)) (g0 : (lotC S z = 0) → Go p l e R s m args below meth c D N0 mL Q (wW cI cJ cZ cO a (pdS S z) M (vp_updL ov 0 (lr_pa (cs_lt (pdS S z) (Int32.toNatClampNeg z))))) (k + 1) (n + 6) (pc + 3) lo (.int 0 :: st)) (g1 : (¬ lotC S z = 0) → Go p l e R s m args below meth c D N0 mL Q (wW cI cJ cZ cO a S M ov) (k + 1) (n + 6) (pc + 3) lo (.int (pl3 (lotC S z)) :: st)) : Go p l e R s m args below meth c D N0 mL Q (wW cI cJ cZ cO a S M ov) k n pc lo (.ref (a 24) :: .int z :: .ref (a 0) :: st) :=
  go_callW C (As := [.ref (a 0), .int z, .ref (a 24)]) (rest := st) (c_L_partsOfDay l hlf D cI cJ cZ cO N0 a S M ov z hok) ⟨by decide +kernel, by decide +kernel⟩ bl_RL_150 bst_yL_partsOfDay bz_NoticeBookLaw bc_yL_partsOfDay (show Option.map (fun d => d.parameters.length) (parseMethodDescriptor yL_partsOfDay.desc) = some 3 by decide +kernel) hR hcs hcat dk (fun r w2 h => by
    rcases h with ⟨h9, rfl, rfl⟩ | ⟨h9, rfl, rfl⟩
    · exact g0 h9
    · exact g1 h9) rfl
set_option maxHeartbeats 4000000 in
set_option maxRecDepth 100000 in
theorem c_L_frozen (l : Launch) (hlf : l.stackTraces = false) (D : va_G) (cI cJ cZ cO : ClassId) (N0 : Nat) (a : Nat → Nat) (S : CS) (M : MS) (ov : Nat → Int64) (z : Int32) (hok : okX S) : CtW l D (tysW cI cJ cZ cO) N0 yL_frozen cL_frozen 4 (some .int) [(0, 9, 12, 13)] { frames := 8, cells := 1, slots := 6, locals := 125 } [.ref (a 0), .int z, .ref (a 24)] (wW cI cJ cZ cO a S M ov) (fun r w2 => (lotC S z = 0 ∧ r = some (.int 0) ∧ w2 = wW cI cJ cZ cO a S M (vp_updL ov 0 (Int32.toInt64 (lr_fz (cs_lt S (Int32.toNatClampNeg z)))))) ∨ (¬ lotC S z = 0 ∧ r = some (.int (pl3 (lotC S z))) ∧ w2 = wW cI cJ cZ cO a S M ov)) := by
  refine ctw_of (by decide +kernel) (Nat.le_of_ble_eq_true rfl) ?_
  intro p e s m args below meth c C ht
  have C : Cxt p s m args meth c D (tysW cI cJ cZ cO) N0 cL_frozen 4 RL (some .int) "frozen" := C
  refine go_aload_n C 2 dL_frozen_0 rfl rfl ?_
  refine go_iconst C (v := 0) dL_frozen_1 (by decide) ?_
  refine go_aload_n C 0 dL_frozen_2 rfl rfl ?_
  refine go_iload_n C 1 dL_frozen_3 rfl rfl ?_
  refine k_RL_64 C hlf S M ov z hok ⟨(Nat.le_of_ble_eq_true rfl), (Nat.le_of_ble_eq_true rfl)⟩ ⟨(Nat.le_of_ble_eq_true rfl), (Nat.le_of_ble_eq_true rfl)⟩ (Nat.le_of_ble_eq_true rfl) dL_frozen_4 (fun E hE => ?_) (fun h9 => ?_)
  · obtain ⟨hk, rfl⟩ := hE
    rcases lotC_r _ _ with hc | hc
    · exact absurd hc hk
    · rw [hc]
      refine gox_catch C (E := nb_I) [] ⟨0, 9, 12, 13⟩ [] ht (fun z9 hz9 => (List.not_mem_nil hz9).elim) (by decide) (by decide) bcl_RL_13 mem_I (fun q9 => ?_)
      refine go_astore_n C (lo' := [(3, .ref q9), (0, .ref (a 0)), (1, .int z), (2, .ref (a 24))]) dL_frozen_12 rfl (by decide) rfl ?_
      refine go_iconst C (v := 1) dL_frozen_13 (by decide) ?_
      exact go_x (go_ireturn C rfl dL_frozen_14 (by decide) (by decide) (Or.inr ⟨by decide, rfl, rfl⟩))
  · refine go_i2l C dL_frozen_7 ?_
    refine s_out C vin_0_1 dL_frozen_8 ?_
    refine go_goto C (tgt := 15) dL_frozen_9 (by decide) ?_
    refine go_iconst C (v := 0) dL_frozen_15 (by decide) ?_
    exact go_x (go_ireturn C rfl dL_frozen_16 (by decide) (by decide) (Or.inl ⟨h9, rfl, rfl⟩))
theorem k_RL_153 {p : Program} {l : Launch} {e : Env} {R : Room} {s : State} {m : MethodId} {args : Array Value} {below : List Frame} {meth : Method} {c : Code} {D : va_G} {N0 mL : Nat} {cc : ByteArray} {nm : String} {ret : Option FieldType} {Q : State → Prop} {k n pc : Nat} {lo : List (Nat × Value)} {st : List Value} {cI cJ cZ cO : ClassId} {a : Nat → Nat} (C : Cxt p s m args meth c D (tysW cI cJ cZ cO) N0 cc mL RL ret nm) (hlf : l.stackTraces = false) (S : CS) (M : MS) (ov : Nat → Int64) (z : Int32) (hok : okX S) (hR : 8 + 1 ≤ R.frames ∧ 8 + (4 + 11) + 125 ≤ R.locals) (hcs : k + 1 ≤ R.cells ∧ n + 6 ≤ R.slots) (hcat : (st.map fun v => v.category).sum ≤ 8) (dk : decode cc pc = .ok (.invokestatic 153, 3)) (g0 : (lotC S z = 0) → Go p l e R s m args below meth c D N0 mL Q (wW cI cJ cZ cO a S M (vp_updL ov 0 (Int32.toInt64 (lr_fz (cs_lt S (Int32.toNatClampNeg z)))))) (k + 1) (n + 6) (pc + 3) lo (.int 0 :: st)) (g1 : (¬ lotC S z = 0) → Go p l e R s m args below meth c D N0 mL Q (wW cI cJ cZ cO a S M ov) (k + 1) (n + 6) (pc + 3) lo (.int (pl3 (lotC S z)) :: st)) : Go p l e R s m args below meth c D N0 mL Q (wW cI cJ cZ cO a S M ov) k n pc lo (.ref (a 24) :: .int z :: .ref (a 0) :: st) :=
  go_callW C (As := [.ref (a 0), .int z, .ref (a 24)]) (rest := st) (c_L_frozen l hlf D cI cJ cZ cO N0 a S M ov z hok) ⟨by decide +kernel, by decide +kernel⟩ bl_RL_153 bst_yL_frozen bz_NoticeBookLaw bc_yL_frozen (show Option.map (fun d => d.parameters.length) (parseMethodDescriptor yL_frozen.desc) = some 3 by decide +kernel) hR hcs hcat dk (fun r w2 h => by
    rcases h with ⟨h9, rfl, rfl⟩ | ⟨h9, rfl, rfl⟩
    · exact g0 h9
    · exact g1 h9) rfl
set_option maxHeartbeats 4000000 in
set_option maxRecDepth 100000 in
theorem c_L_endOf (l : Launch) (hlf : l.stackTraces = false) (D : va_G) (cI cJ cZ cO : ClassId) (N0 : Nat) (a : Nat → Nat) (S : CS) (M : MS) (ov : Nat → Int64) (z : Int32) (hok : okX S) : CtW l D (tysW cI cJ cZ cO) N0 yL_endOf cL_endOf 4 (some .int) [(0, 9, 12, 13)] { frames := 8, cells := 1, slots := 6, locals := 125 } [.ref (a 0), .int z, .ref (a 24)] (wW cI cJ cZ cO a S M ov) (fun r w2 => (lotC S z = 0 ∧ r = some (.int 0) ∧ w2 = wW cI cJ cZ cO a S M (vp_updL ov 0 (Int32.toInt64 (lr_en (cs_lt S (Int32.toNatClampNeg z)))))) ∨ (¬ lotC S z = 0 ∧ r = some (.int (pl3 (lotC S z))) ∧ w2 = wW cI cJ cZ cO a S M ov)) := by
  refine ctw_of (by decide +kernel) (Nat.le_of_ble_eq_true rfl) ?_
  intro p e s m args below meth c C ht
  have C : Cxt p s m args meth c D (tysW cI cJ cZ cO) N0 cL_endOf 4 RL (some .int) "endOf" := C
  refine go_aload_n C 2 dL_endOf_0 rfl rfl ?_
  refine go_iconst C (v := 0) dL_endOf_1 (by decide) ?_
  refine go_aload_n C 0 dL_endOf_2 rfl rfl ?_
  refine go_iload_n C 1 dL_endOf_3 rfl rfl ?_
  refine k_RL_67 C hlf S M ov z hok ⟨(Nat.le_of_ble_eq_true rfl), (Nat.le_of_ble_eq_true rfl)⟩ ⟨(Nat.le_of_ble_eq_true rfl), (Nat.le_of_ble_eq_true rfl)⟩ (Nat.le_of_ble_eq_true rfl) dL_endOf_4 (fun E hE => ?_) (fun h9 => ?_)
  · obtain ⟨hk, rfl⟩ := hE
    rcases lotC_r _ _ with hc | hc
    · exact absurd hc hk
    · rw [hc]
      refine gox_catch C (E := nb_I) [] ⟨0, 9, 12, 13⟩ [] ht (fun z9 hz9 => (List.not_mem_nil hz9).elim) (by decide) (by decide) bcl_RL_13 mem_I (fun q9 => ?_)
      refine go_astore_n C (lo' := [(3, .ref q9), (0, .ref (a 0)), (1, .int z), (2, .ref (a 24))]) dL_endOf_12 rfl (by decide) rfl ?_
      refine go_iconst C (v := 1) dL_endOf_13 (by decide) ?_
      exact go_x (go_ireturn C rfl dL_endOf_14 (by decide) (by decide) (Or.inr ⟨by decide, rfl, rfl⟩))
  · refine go_i2l C dL_endOf_7 ?_
    refine s_out C vin_0_1 dL_endOf_8 ?_
    refine go_goto C (tgt := 15) dL_endOf_9 (by decide) ?_
    refine go_iconst C (v := 0) dL_endOf_15 (by decide) ?_
    exact go_x (go_ireturn C rfl dL_endOf_16 (by decide) (by decide) (Or.inl ⟨h9, rfl, rfl⟩))
theorem k_RL_156 {p : Program} {l : Launch} {e : Env} {R : Room} {s : State} {m : MethodId} {args : Array Value} {below : List Frame} {meth : Method} {c : Code} {D : va_G} {N0 mL : Nat} {cc : ByteArray} {nm : String} {ret : Option FieldType} {Q : State → Prop} {k n pc : Nat} {lo : List (Nat × Value)} {st : List Value} {cI cJ cZ cO : ClassId} {a : Nat → Nat} (C : Cxt p s m args meth c D (tysW cI cJ cZ cO) N0 cc mL RL ret nm) (hlf : l.stackTraces = false) (S : CS) (M : MS) (ov : Nat → Int64) (z : Int32) (hok : okX S) (hR : 8 + 1 ≤ R.frames ∧ 8 + (4 + 11) + 125 ≤ R.locals) (hcs : k + 1 ≤ R.cells ∧ n + 6 ≤ R.slots) (hcat : (st.map fun v => v.category).sum ≤ 8) (dk : decode cc pc = .ok (.invokestatic 156, 3)) (g0 : (lotC S z = 0) → Go p l e R s m args below meth c D N0 mL Q (wW cI cJ cZ cO a S M (vp_updL ov 0 (Int32.toInt64 (lr_en (cs_lt S (Int32.toNatClampNeg z)))))) (k + 1) (n + 6) (pc + 3) lo (.int 0 :: st)) (g1 : (¬ lotC S z = 0) → Go p l e R s m args below meth c D N0 mL Q (wW cI cJ cZ cO a S M ov) (k + 1) (n + 6) (pc + 3) lo (.int (pl3 (lotC S z)) :: st)) : Go p l e R s m args below meth c D N0 mL Q (wW cI cJ cZ cO a S M ov) k n pc lo (.ref (a 24) :: .int z :: .ref (a 0) :: st) :=
  go_callW C (As := [.ref (a 0), .int z, .ref (a 24)]) (rest := st) (c_L_endOf l hlf D cI cJ cZ cO N0 a S M ov z hok) ⟨by decide +kernel, by decide +kernel⟩ bl_RL_156 bst_yL_endOf bz_NoticeBookLaw bc_yL_endOf (show Option.map (fun d => d.parameters.length) (parseMethodDescriptor yL_endOf.desc) = some 3 by decide +kernel) hR hcs hcat dk (fun r w2 h => by
    rcases h with ⟨h9, rfl, rfl⟩ | ⟨h9, rfl, rfl⟩
    · exact g0 h9
    · exact g1 h9) rfl
set_option maxHeartbeats 4000000 in
set_option maxRecDepth 100000 in
theorem c_L_total (l : Launch) (hlf : l.stackTraces = false) (D : va_G) (cI cJ cZ cO : ClassId) (N0 : Nat) (a : Nat → Nat) (S : CS) (M : MS) (ov : Nat → Int64) (z : Int32) (hok : okX S) : CtW l D (tysW cI cJ cZ cO) N0 yL_total cL_total 4 (some .int) [(0, 9, 12, 13)] { frames := 8, cells := 1, slots := 6, locals := 123 } [.ref (a 0), .int z, .ref (a 24)] (wW cI cJ cZ cO a S M ov) (fun r w2 => (demC z = 0 ∧ r = some (.int 0) ∧ w2 = wW cI cJ cZ cO a S M (vp_updL ov 0 (Int32.toInt64 (totTo S z (cs_n S))))) ∨ (¬ demC z = 0 ∧ r = some (.int (pl3 (demC z))) ∧ w2 = wW cI cJ cZ cO a S M ov)) := by
  refine ctw_of (by decide +kernel) (Nat.le_of_ble_eq_true rfl) ?_
  intro p e s m args below meth c C ht
  have C : Cxt p s m args meth c D (tysW cI cJ cZ cO) N0 cL_total 4 RL (some .int) "total" := C
  refine go_aload_n C 2 dL_total_0 rfl rfl ?_
  refine go_iconst C (v := 0) dL_total_1 (by decide) ?_
  refine go_aload_n C 0 dL_total_2 rfl rfl ?_
  refine go_iload_n C 1 dL_total_3 rfl rfl ?_
  refine k_RL_70 C hlf S M ov z hok ⟨(Nat.le_of_ble_eq_true rfl), (Nat.le_of_ble_eq_true rfl)⟩ ⟨(Nat.le_of_ble_eq_true rfl), (Nat.le_of_ble_eq_true rfl)⟩ (Nat.le_of_ble_eq_true rfl) dL_total_4 (fun E hE => ?_) (fun h9 => ?_)
  · obtain ⟨hk, rfl⟩ := hE
    rcases demC_r _ with hc | hc
    · exact absurd hc hk
    · rw [hc]
      refine gox_catch C (E := nb_I) [] ⟨0, 9, 12, 13⟩ [] ht (fun z9 hz9 => (List.not_mem_nil hz9).elim) (by decide) (by decide) bcl_RL_13 mem_I (fun q9 => ?_)
      refine go_astore_n C (lo' := [(3, .ref q9), (0, .ref (a 0)), (1, .int z), (2, .ref (a 24))]) dL_total_12 rfl (by decide) rfl ?_
      refine go_iconst C (v := 1) dL_total_13 (by decide) ?_
      exact go_x (go_ireturn C rfl dL_total_14 (by decide) (by decide) (Or.inr ⟨by decide, rfl, rfl⟩))
  · refine go_i2l C dL_total_7 ?_
    refine s_out C vin_0_1 dL_total_8 ?_
    refine go_goto C (tgt := 15) dL_total_9 (by decide) ?_
    refine go_iconst C (v := 0) dL_total_15 (by decide) ?_
    exact go_x (go_ireturn C rfl dL_total_16 (by decide) (by decide) (Or.inl ⟨h9, rfl, rfl⟩))
theorem k_RL_159 {p : Program} {l : Launch} {e : Env} {R : Room} {s : State} {m : MethodId} {args : Array Value} {below : List Frame} {meth : Method} {c : Code} {D : va_G} {N0 mL : Nat} {cc : ByteArray} {nm : String} {ret : Option FieldType} {Q : State → Prop} {k n pc : Nat} {lo : List (Nat × Value)} {st : List Value} {cI cJ cZ cO : ClassId} {a : Nat → Nat} (C : Cxt p s m args meth c D (tysW cI cJ cZ cO) N0 cc mL RL ret nm) (hlf : l.stackTraces = false) (S : CS) (M : MS) (ov : Nat → Int64) (z : Int32) (hok : okX S) (hR : 8 + 1 ≤ R.frames ∧ 8 + (4 + 11) + 123 ≤ R.locals) (hcs : k + 1 ≤ R.cells ∧ n + 6 ≤ R.slots) (hcat : (st.map fun v => v.category).sum ≤ 8) (dk : decode cc pc = .ok (.invokestatic 159, 3)) (g0 : (demC z = 0) → Go p l e R s m args below meth c D N0 mL Q (wW cI cJ cZ cO a S M (vp_updL ov 0 (Int32.toInt64 (totTo S z (cs_n S))))) (k + 1) (n + 6) (pc + 3) lo (.int 0 :: st)) (g1 : (¬ demC z = 0) → Go p l e R s m args below meth c D N0 mL Q (wW cI cJ cZ cO a S M ov) (k + 1) (n + 6) (pc + 3) lo (.int (pl3 (demC z)) :: st)) : Go p l e R s m args below meth c D N0 mL Q (wW cI cJ cZ cO a S M ov) k n pc lo (.ref (a 24) :: .int z :: .ref (a 0) :: st) :=
  go_callW C (As := [.ref (a 0), .int z, .ref (a 24)]) (rest := st) (c_L_total l hlf D cI cJ cZ cO N0 a S M ov z hok) ⟨by decide +kernel, by decide +kernel⟩ bl_RL_159 bst_yL_total bz_NoticeBookLaw bc_yL_total (show Option.map (fun d => d.parameters.length) (parseMethodDescriptor yL_total.desc) = some 3 by decide +kernel) hR hcs hcat dk (fun r w2 h => by
    rcases h with ⟨h9, rfl, rfl⟩ | ⟨h9, rfl, rfl⟩
    · exact g0 h9
    · exact g1 h9) rfl
set_option maxHeartbeats 4000000 in
set_option maxRecDepth 100000 in
theorem c_L_partsByTotal (l : Launch) (hlf : l.stackTraces = false) (D : va_G) (cI cJ cZ cO : ClassId) (N0 : Nat) (a : Nat → Nat) (S : CS) (M : MS) (ov : Nat → Int64) (z : Int32) (hok : okX S) : CtW l D (tysW cI cJ cZ cO) N0 yL_partsByTotal cL_partsByTotal 4 (some .int) [(0, 8, 11, 13)] { frames := 8, cells := 1, slots := 6, locals := 124 } [.ref (a 0), .int z, .ref (a 24)] (wW cI cJ cZ cO a S M ov) (fun r w2 => (demC z = 0 ∧ r = some (.int 0) ∧ w2 = wW cI cJ cZ cO a S M (vp_updL ov 0 (poc S 0 (totTo S z (cs_n S)) (totTo S z (cs_n S))))) ∨ (¬ demC z = 0 ∧ r = some (.int (pl3 (demC z))) ∧ w2 = wW cI cJ cZ cO a S M ov)) := by
  refine ctw_of (by decide +kernel) (Nat.le_of_ble_eq_true rfl) ?_
  intro p e s m args below meth c C ht
  have C : Cxt p s m args meth c D (tysW cI cJ cZ cO) N0 cL_partsByTotal 4 RL (some .int) "partsByTotal" := C
  refine go_aload_n C 2 dL_partsByTotal_0 rfl rfl ?_
  refine go_iconst C (v := 0) dL_partsByTotal_1 (by decide) ?_
  refine go_aload_n C 0 dL_partsByTotal_2 rfl rfl ?_
  refine go_iload_n C 1 dL_partsByTotal_3 rfl rfl ?_
  refine k_RL_73 C hlf S M ov z hok ⟨(Nat.le_of_ble_eq_true rfl), (Nat.le_of_ble_eq_true rfl)⟩ ⟨(Nat.le_of_ble_eq_true rfl), (Nat.le_of_ble_eq_true rfl)⟩ (Nat.le_of_ble_eq_true rfl) dL_partsByTotal_4 (fun E hE => ?_) (fun h9 => ?_)
  · obtain ⟨hk, rfl⟩ := hE
    rcases demC_r _ with hc | hc
    · exact absurd hc hk
    · rw [hc]
      refine gox_catch C (E := nb_I) [] ⟨0, 8, 11, 13⟩ [] ht (fun z9 hz9 => (List.not_mem_nil hz9).elim) (by decide) (by decide) bcl_RL_13 mem_I (fun q9 => ?_)
      refine go_astore_n C (lo' := [(3, .ref q9), (0, .ref (a 0)), (1, .int z), (2, .ref (a 24))]) dL_partsByTotal_11 rfl (by decide) rfl ?_
      refine go_iconst C (v := 1) dL_partsByTotal_12 (by decide) ?_
      exact go_x (go_ireturn C rfl dL_partsByTotal_13 (by decide) (by decide) (Or.inr ⟨by decide, rfl, rfl⟩))
  · refine s_out C vin_0_1 dL_partsByTotal_7 ?_
    refine go_goto C (tgt := 14) dL_partsByTotal_8 (by decide) ?_
    refine go_iconst C (v := 0) dL_partsByTotal_14 (by decide) ?_
    exact go_x (go_ireturn C rfl dL_partsByTotal_15 (by decide) (by decide) (Or.inl ⟨h9, rfl, rfl⟩))
theorem k_RL_162 {p : Program} {l : Launch} {e : Env} {R : Room} {s : State} {m : MethodId} {args : Array Value} {below : List Frame} {meth : Method} {c : Code} {D : va_G} {N0 mL : Nat} {cc : ByteArray} {nm : String} {ret : Option FieldType} {Q : State → Prop} {k n pc : Nat} {lo : List (Nat × Value)} {st : List Value} {cI cJ cZ cO : ClassId} {a : Nat → Nat} (C : Cxt p s m args meth c D (tysW cI cJ cZ cO) N0 cc mL RL ret nm) (hlf : l.stackTraces = false) (S : CS) (M : MS) (ov : Nat → Int64) (z : Int32) (hok : okX S) (hR : 8 + 1 ≤ R.frames ∧ 8 + (4 + 11) + 124 ≤ R.locals) (hcs : k + 1 ≤ R.cells ∧ n + 6 ≤ R.slots) (hcat : (st.map fun v => v.category).sum ≤ 8) (dk : decode cc pc = .ok (.invokestatic 162, 3)) (g0 : (demC z = 0) → Go p l e R s m args below meth c D N0 mL Q (wW cI cJ cZ cO a S M (vp_updL ov 0 (poc S 0 (totTo S z (cs_n S)) (totTo S z (cs_n S))))) (k + 1) (n + 6) (pc + 3) lo (.int 0 :: st)) (g1 : (¬ demC z = 0) → Go p l e R s m args below meth c D N0 mL Q (wW cI cJ cZ cO a S M ov) (k + 1) (n + 6) (pc + 3) lo (.int (pl3 (demC z)) :: st)) : Go p l e R s m args below meth c D N0 mL Q (wW cI cJ cZ cO a S M ov) k n pc lo (.ref (a 24) :: .int z :: .ref (a 0) :: st) :=
  go_callW C (As := [.ref (a 0), .int z, .ref (a 24)]) (rest := st) (c_L_partsByTotal l hlf D cI cJ cZ cO N0 a S M ov z hok) ⟨by decide +kernel, by decide +kernel⟩ bl_RL_162 bst_yL_partsByTotal bz_NoticeBookLaw bc_yL_partsByTotal (show Option.map (fun d => d.parameters.length) (parseMethodDescriptor yL_partsByTotal.desc) = some 3 by decide +kernel) hR hcs hcat dk (fun r w2 h => by
    rcases h with ⟨h9, rfl, rfl⟩ | ⟨h9, rfl, rfl⟩
    · exact g0 h9
    · exact g1 h9) rfl
set_option maxHeartbeats 4000000 in
set_option maxRecDepth 100000 in
theorem c_L_paid (l : Launch) (hlf : l.stackTraces = false) (D : va_G) (cI cJ cZ cO : ClassId) (N0 : Nat) (a : Nat → Nat) (S : CS) (M : MS) (ov : Nat → Int64) (z : Int32)  : CtW l D (tysW cI cJ cZ cO) N0 yL_paid cL_paid 4 (some .int) [(0, 8, 11, 13)] { frames := 8, cells := 1, slots := 6, locals := 123 } [.ref (a 0), .int z, .ref (a 24)] (wW cI cJ cZ cO a S M ov) (fun r w2 => (demC z = 0 ∧ r = some (.int 0) ∧ w2 = wW cI cJ cZ cO a S M (vp_updL ov 0 (cs_paid S (Int32.toNatClampNeg z)))) ∨ (¬ demC z = 0 ∧ r = some (.int (pl3 (demC z))) ∧ w2 = wW cI cJ cZ cO a S M ov)) := by
  refine ctw_of (by decide +kernel) (Nat.le_of_ble_eq_true rfl) ?_
  intro p e s m args below meth c C ht
  have C : Cxt p s m args meth c D (tysW cI cJ cZ cO) N0 cL_paid 4 RL (some .int) "paid" := C
  refine go_aload_n C 2 dL_paid_0 rfl rfl ?_
  refine go_iconst C (v := 0) dL_paid_1 (by decide) ?_
  refine go_aload_n C 0 dL_paid_2 rfl rfl ?_
  refine go_iload_n C 1 dL_paid_3 rfl rfl ?_
  refine k_RL_76 C hlf S M ov z  ⟨(Nat.le_of_ble_eq_true rfl), (Nat.le_of_ble_eq_true rfl)⟩ ⟨(Nat.le_of_ble_eq_true rfl), (Nat.le_of_ble_eq_true rfl)⟩ (Nat.le_of_ble_eq_true rfl) dL_paid_4 (fun E hE => ?_) (fun h9 => ?_)
  · obtain ⟨hk, rfl⟩ := hE
    rcases demC_r _ with hc | hc
    · exact absurd hc hk
    · rw [hc]
      refine gox_catch C (E := nb_I) [] ⟨0, 8, 11, 13⟩ [] ht (fun z9 hz9 => (List.not_mem_nil hz9).elim) (by decide) (by decide) bcl_RL_13 mem_I (fun q9 => ?_)
      refine go_astore_n C (lo' := [(3, .ref q9), (0, .ref (a 0)), (1, .int z), (2, .ref (a 24))]) dL_paid_11 rfl (by decide) rfl ?_
      refine go_iconst C (v := 1) dL_paid_12 (by decide) ?_
      exact go_x (go_ireturn C rfl dL_paid_13 (by decide) (by decide) (Or.inr ⟨by decide, rfl, rfl⟩))
  · refine s_out C vin_0_1 dL_paid_7 ?_
    refine go_goto C (tgt := 14) dL_paid_8 (by decide) ?_
    refine go_iconst C (v := 0) dL_paid_14 (by decide) ?_
    exact go_x (go_ireturn C rfl dL_paid_15 (by decide) (by decide) (Or.inl ⟨h9, rfl, rfl⟩))
theorem k_RL_165 {p : Program} {l : Launch} {e : Env} {R : Room} {s : State} {m : MethodId} {args : Array Value} {below : List Frame} {meth : Method} {c : Code} {D : va_G} {N0 mL : Nat} {cc : ByteArray} {nm : String} {ret : Option FieldType} {Q : State → Prop} {k n pc : Nat} {lo : List (Nat × Value)} {st : List Value} {cI cJ cZ cO : ClassId} {a : Nat → Nat} (C : Cxt p s m args meth c D (tysW cI cJ cZ cO) N0 cc mL RL ret nm) (hlf : l.stackTraces = false) (S : CS) (M : MS) (ov : Nat → Int64) (z : Int32)  (hR : 8 + 1 ≤ R.frames ∧ 8 + (4 + 11) + 123 ≤ R.locals) (hcs : k + 1 ≤ R.cells ∧ n + 6 ≤ R.slots) (hcat : (st.map fun v => v.category).sum ≤ 8) (dk : decode cc pc = .ok (.invokestatic 165, 3)) (g0 : (demC z = 0) → Go p l e R s m args below meth c D N0 mL Q (wW cI cJ cZ cO a S M (vp_updL ov 0 (cs_paid S (Int32.toNatClampNeg z)))) (k + 1) (n + 6) (pc + 3) lo (.int 0 :: st)) (g1 : (¬ demC z = 0) → Go p l e R s m args below meth c D N0 mL Q (wW cI cJ cZ cO a S M ov) (k + 1) (n + 6) (pc + 3) lo (.int (pl3 (demC z)) :: st)) : Go p l e R s m args below meth c D N0 mL Q (wW cI cJ cZ cO a S M ov) k n pc lo (.ref (a 24) :: .int z :: .ref (a 0) :: st) :=
  go_callW C (As := [.ref (a 0), .int z, .ref (a 24)]) (rest := st) (c_L_paid l hlf D cI cJ cZ cO N0 a S M ov z ) ⟨by decide +kernel, by decide +kernel⟩ bl_RL_165 bst_yL_paid bz_NoticeBookLaw bc_yL_paid (show Option.map (fun d => d.parameters.length) (parseMethodDescriptor yL_paid.desc) = some 3 by decide +kernel) hR hcs hcat dk (fun r w2 h => by
    rcases h with ⟨h9, rfl, rfl⟩ | ⟨h9, rfl, rfl⟩
    · exact g0 h9
    · exact g1 h9) rfl
set_option maxHeartbeats 4000000 in
set_option maxRecDepth 100000 in
theorem c_L_lost (l : Launch) (hlf : l.stackTraces = false) (D : va_G) (cI cJ cZ cO : ClassId) (N0 : Nat) (a : Nat → Nat) (S : CS) (M : MS) (ov : Nat → Int64) (z : Int32)  : CtW l D (tysW cI cJ cZ cO) N0 yL_lost cL_lost 4 (some .int) [(0, 8, 11, 13)] { frames := 8, cells := 1, slots := 6, locals := 123 } [.ref (a 0), .int z, .ref (a 24)] (wW cI cJ cZ cO a S M ov) (fun r w2 => (demC z = 0 ∧ r = some (.int 0) ∧ w2 = wW cI cJ cZ cO a S M (vp_updL ov 0 (cs_lost S (Int32.toNatClampNeg z)))) ∨ (¬ demC z = 0 ∧ r = some (.int (pl3 (demC z))) ∧ w2 = wW cI cJ cZ cO a S M ov)) := by
  refine ctw_of (by decide +kernel) (Nat.le_of_ble_eq_true rfl) ?_
  intro p e s m args below meth c C ht
  have C : Cxt p s m args meth c D (tysW cI cJ cZ cO) N0 cL_lost 4 RL (some .int) "lost" := C
  refine go_aload_n C 2 dL_lost_0 rfl rfl ?_
  refine go_iconst C (v := 0) dL_lost_1 (by decide) ?_
  refine go_aload_n C 0 dL_lost_2 rfl rfl ?_
  refine go_iload_n C 1 dL_lost_3 rfl rfl ?_
  refine k_RL_79 C hlf S M ov z  ⟨(Nat.le_of_ble_eq_true rfl), (Nat.le_of_ble_eq_true rfl)⟩ ⟨(Nat.le_of_ble_eq_true rfl), (Nat.le_of_ble_eq_true rfl)⟩ (Nat.le_of_ble_eq_true rfl) dL_lost_4 (fun E hE => ?_) (fun h9 => ?_)
  · obtain ⟨hk, rfl⟩ := hE
    rcases demC_r _ with hc | hc
    · exact absurd hc hk
    · rw [hc]
      refine gox_catch C (E := nb_I) [] ⟨0, 8, 11, 13⟩ [] ht (fun z9 hz9 => (List.not_mem_nil hz9).elim) (by decide) (by decide) bcl_RL_13 mem_I (fun q9 => ?_)
      refine go_astore_n C (lo' := [(3, .ref q9), (0, .ref (a 0)), (1, .int z), (2, .ref (a 24))]) dL_lost_11 rfl (by decide) rfl ?_
      refine go_iconst C (v := 1) dL_lost_12 (by decide) ?_
      exact go_x (go_ireturn C rfl dL_lost_13 (by decide) (by decide) (Or.inr ⟨by decide, rfl, rfl⟩))
  · refine s_out C vin_0_1 dL_lost_7 ?_
    refine go_goto C (tgt := 14) dL_lost_8 (by decide) ?_
    refine go_iconst C (v := 0) dL_lost_14 (by decide) ?_
    exact go_x (go_ireturn C rfl dL_lost_15 (by decide) (by decide) (Or.inl ⟨h9, rfl, rfl⟩))
theorem k_RL_168 {p : Program} {l : Launch} {e : Env} {R : Room} {s : State} {m : MethodId} {args : Array Value} {below : List Frame} {meth : Method} {c : Code} {D : va_G} {N0 mL : Nat} {cc : ByteArray} {nm : String} {ret : Option FieldType} {Q : State → Prop} {k n pc : Nat} {lo : List (Nat × Value)} {st : List Value} {cI cJ cZ cO : ClassId} {a : Nat → Nat} (C : Cxt p s m args meth c D (tysW cI cJ cZ cO) N0 cc mL RL ret nm) (hlf : l.stackTraces = false) (S : CS) (M : MS) (ov : Nat → Int64) (z : Int32)  (hR : 8 + 1 ≤ R.frames ∧ 8 + (4 + 11) + 123 ≤ R.locals) (hcs : k + 1 ≤ R.cells ∧ n + 6 ≤ R.slots) (hcat : (st.map fun v => v.category).sum ≤ 8) (dk : decode cc pc = .ok (.invokestatic 168, 3)) (g0 : (demC z = 0) → Go p l e R s m args below meth c D N0 mL Q (wW cI cJ cZ cO a S M (vp_updL ov 0 (cs_lost S (Int32.toNatClampNeg z)))) (k + 1) (n + 6) (pc + 3) lo (.int 0 :: st)) (g1 : (¬ demC z = 0) → Go p l e R s m args below meth c D N0 mL Q (wW cI cJ cZ cO a S M ov) (k + 1) (n + 6) (pc + 3) lo (.int (pl3 (demC z)) :: st)) : Go p l e R s m args below meth c D N0 mL Q (wW cI cJ cZ cO a S M ov) k n pc lo (.ref (a 24) :: .int z :: .ref (a 0) :: st) :=
  go_callW C (As := [.ref (a 0), .int z, .ref (a 24)]) (rest := st) (c_L_lost l hlf D cI cJ cZ cO N0 a S M ov z ) ⟨by decide +kernel, by decide +kernel⟩ bl_RL_168 bst_yL_lost bz_NoticeBookLaw bc_yL_lost (show Option.map (fun d => d.parameters.length) (parseMethodDescriptor yL_lost.desc) = some 3 by decide +kernel) hR hcs hcat dk (fun r w2 h => by
    rcases h with ⟨h9, rfl, rfl⟩ | ⟨h9, rfl, rfl⟩
    · exact g0 h9
    · exact g1 h9) rfl
