/-! does: what the law's one caller of the class answers, kind by kind -/
def exV (k : Nat) : Int32 := if k = 1 then -11 else if k = 2 then -12 else -13
set_option maxHeartbeats 4000000 in
set_option maxRecDepth 100000 in
theorem c_L_does_0 (l : Launch) (hlf : l.stackTraces = false) (D : va_G) (cI cJ cO : ClassId) (N0 : Nat) (a : Nat → Nat) (S : CS) (M : LWS) (ov : va_W) (cu z : Int32) (hok : okX S) (hov : ov = []) : CtW l D (tysW cI cJ cO) N0 yL_does cL_does 5 (some .int) [(0, 129, 130, 71), (0, 129, 135, 73), (0, 129, 140, 75)] { frames := 8, cells := 4, slots := 28, locals := 126 } [.ref (a 0), .int 0, .int cu, .int z] (wW cI cJ cO a S M ov) (fun r w2 => (∃ q : Nat, dpC S cu z = 0 ∧ r = some (.int (nI (cs_n S))) ∧ w2 = wW cI cJ cO a (dpS S q cu z) M ov) ∨ (¬ dpC S cu z = 0 ∧ r = some (.int (exV (dpC S cu z))) ∧ w2 = wW cI cJ cO a S M ov)) := by
  refine ctw_of (by decide +kernel) (Nat.le_of_ble_eq_true rfl) ?_
  intro p e s m args below meth c C ht
  have C : Cxt p s m args meth c D (tysW cI cJ cO) N0 cL_does 5 RL (some .int) "does" := C
  refine go_iload_n C 1 dL_does_0 rfl rfl ?_
  refine go_if_ne C (tgt := 13) dL_does_1 (by decide) (fun c_1 => absurd c_1 (by decide)) (fun c_1 => ?_)
  refine go_aload_n C 0 dL_does_4 rfl rfl ?_
  refine go_iload_n C 2 dL_does_5 rfl rfl ?_
  refine go_iload_n C 3 dL_does_6 rfl rfl ?_
  refine k_RL_37 C hlf S M ov cu z hok hov ⟨(Nat.le_of_ble_eq_true rfl), (Nat.le_of_ble_eq_true rfl)⟩ ⟨(Nat.le_of_ble_eq_true rfl), (Nat.le_of_ble_eq_true rfl)⟩ (Nat.le_of_ble_eq_true rfl) dL_does_7 (fun E hE => ?_) (fun q h9 => ?_)
  · obtain ⟨hk, rfl⟩ := hE
    rcases dpC_r _ _ _ with hc | hc | hc | hc
    · exact absurd hc hk
    · rw [hc]
      refine gox_catch C (E := nb_I) [] ⟨0, 129, 130, 71⟩ [⟨0, 129, 135, 73⟩, ⟨0, 129, 140, 75⟩] ht (fun z9 hz9 => (List.not_mem_nil hz9).elim) (by decide) (by decide) bcl_RL_71 mem_I (fun q9 => ?_)
      refine go_astore C (lo' := [(4, .ref q9), (0, .ref (a 0)), (1, .int 0), (2, .int cu), (3, .int z)]) dL_does_130 (by decide) rfl ?_
      refine go_bipush C (v := (-11)) dL_does_132 (by decide) ?_
      exact go_x (go_ireturn C rfl dL_does_134 (by decide) (by decide) (Or.inr ⟨by decide, rfl, rfl⟩))
    · rw [hc]
      refine gox_catch C (E := nb_A) [⟨0, 129, 130, 71⟩] ⟨0, 129, 135, 73⟩ [⟨0, 129, 140, 75⟩] ht (pl_all1 (Or.inr ⟨by decide, nb_I, bcl_RL_71, List.mem_of_getElem? (i := 0) rfl⟩)) (by decide) (by decide) bcl_RL_73 mem_A (fun q9 => ?_)
      refine go_astore C (lo' := [(4, .ref q9), (0, .ref (a 0)), (1, .int 0), (2, .int cu), (3, .int z)]) dL_does_135 (by decide) rfl ?_
      refine go_bipush C (v := (-12)) dL_does_137 (by decide) ?_
      exact go_x (go_ireturn C rfl dL_does_139 (by decide) (by decide) (Or.inr ⟨by decide, rfl, rfl⟩))
    · rw [hc]
      refine gox_catch C (E := nb_S) [⟨0, 129, 130, 71⟩, ⟨0, 129, 135, 73⟩] ⟨0, 129, 140, 75⟩ [] ht (pl_all2 (Or.inr ⟨by decide, nb_I, bcl_RL_71, List.mem_of_getElem? (i := 1) rfl⟩) (Or.inr ⟨by decide, nb_A, bcl_RL_73, List.mem_of_getElem? (i := 3) rfl⟩)) (by decide) (by decide) bcl_RL_75 mem_S (fun q9 => ?_)
      refine go_astore C (lo' := [(4, .ref q9), (0, .ref (a 0)), (1, .int 0), (2, .int cu), (3, .int z)]) dL_does_140 (by decide) rfl ?_
      refine go_bipush C (v := (-13)) dL_does_142 (by decide) ?_
      exact go_x (go_ireturn C rfl dL_does_144 (by decide) (by decide) (Or.inr ⟨by decide, rfl, rfl⟩))
  · refine go_goto C (tgt := 129) dL_does_10 (by decide) ?_
    exact go_x (go_ireturn C rfl dL_does_129 (by decide) (by decide) (Or.inl ⟨q, h9, rfl, rfl⟩))
theorem k_RL_81_0 {p : Program} {l : Launch} {e : Env} {R : Room} {s : State} {m : MethodId} {args : Array Value} {below : List Frame} {meth : Method} {c : Code} {D : va_G} {N0 mL : Nat} {cc : ByteArray} {nm : String} {ret : Option FieldType} {Q : State → Prop} {k n pc : Nat} {lo : List (Nat × Value)} {st : List Value} {cI cJ cO : ClassId} {a : Nat → Nat} (C : Cxt p s m args meth c D (tysW cI cJ cO) N0 cc mL RL ret nm) (hlf : l.stackTraces = false) (S : CS) (M : LWS) (ov : va_W) (cu z : Int32) (hok : okX S) (hov : ov = []) (hR : 8 + 1 ≤ R.frames ∧ 8 + (5 + 11) + 126 ≤ R.locals) (hcs : k + 4 ≤ R.cells ∧ n + 28 ≤ R.slots) (hcat : (st.map fun v => v.category).sum ≤ 8) (dk : decode cc pc = .ok (.invokestatic 81, 3)) (g0 : ∀ q : Nat, (dpC S cu z = 0) → Go p l e R s m args below meth c D N0 mL Q (wW cI cJ cO a (dpS S q cu z) M ov) (k + 4) (n + 28) (pc + 3) lo (.int (nI (cs_n S)) :: st)) (g1 : (¬ dpC S cu z = 0) → Go p l e R s m args below meth c D N0 mL Q (wW cI cJ cO a S M ov) (k + 4) (n + 28) (pc + 3) lo (.int (exV (dpC S cu z)) :: st)) : Go p l e R s m args below meth c D N0 mL Q (wW cI cJ cO a S M ov) k n pc lo (.int z :: .int cu :: .int 0 :: .ref (a 0) :: st) :=
  go_callW C (As := [.ref (a 0), .int 0, .int cu, .int z]) (rest := st) (c_L_does_0 l hlf D cI cJ cO N0 a S M ov cu z hok hov) ⟨by decide +kernel, by decide +kernel⟩ bl_RL_81 bst_yL_does bz_NoticeBookLaw bc_yL_does (show Option.map (fun d => d.parameters.length) (parseMethodDescriptor yL_does.desc) = some 4 by decide +kernel) hR hcs hcat dk (fun r w2 h => by
    rcases h with ⟨q, h9, rfl, rfl⟩ | ⟨h9, rfl, rfl⟩
    · exact g0 q h9
    · exact g1 h9) rfl
set_option maxHeartbeats 4000000 in
set_option maxRecDepth 100000 in
theorem c_L_does_1 (l : Launch) (hlf : l.stackTraces = false) (D : va_G) (cI cJ cO : ClassId) (N0 : Nat) (a : Nat → Nat) (S : CS) (M : LWS) (ov : va_W) (z c9 : Int32) (hok : okX S) : CtW l D (tysW cI cJ cO) N0 yL_does cL_does 5 (some .int) [(0, 129, 130, 71), (0, 129, 135, 73), (0, 129, 140, 75)] { frames := 8, cells := 3, slots := 18, locals := 127 } [.ref (a 0), .int 1, .int z, .int c9] (wW cI cJ cO a S M ov) (fun r w2 => (gvC S z c9 = 0 ∧ r = some (.int (cs_day S + 32)) ∧ w2 = wW cI cJ cO a (gvS S z c9) M ov) ∨ (¬ gvC S z c9 = 0 ∧ r = some (.int (exV (gvC S z c9))) ∧ w2 = wW cI cJ cO a S M ov)) := by
  refine ctw_of (by decide +kernel) (Nat.le_of_ble_eq_true rfl) ?_
  intro p e s m args below meth c C ht
  have C : Cxt p s m args meth c D (tysW cI cJ cO) N0 cL_does 5 RL (some .int) "does" := C
  refine go_iload_n C 1 dL_does_0 rfl rfl ?_
  refine go_if_ne C (tgt := 13) dL_does_1 (by decide) (fun c_1 => ?_) (fun c_1 => absurd c_1 (by decide))
  refine go_iload_n C 1 dL_does_13 rfl rfl ?_
  refine go_iconst C (v := 1) dL_does_14 (by decide) ?_
  refine go_icmp_ne C (tgt := 27) dL_does_15 (by decide) (fun c_2 => absurd c_2 (by decide)) (fun c_2 => ?_)
  refine go_aload_n C 0 dL_does_18 rfl rfl ?_
  refine go_iload_n C 2 dL_does_19 rfl rfl ?_
  refine go_iload_n C 3 dL_does_20 rfl rfl ?_
  refine k_RL_43 C hlf S M ov z c9 hok ⟨(Nat.le_of_ble_eq_true rfl), (Nat.le_of_ble_eq_true rfl)⟩ ⟨(Nat.le_of_ble_eq_true rfl), (Nat.le_of_ble_eq_true rfl)⟩ (Nat.le_of_ble_eq_true rfl) dL_does_21 (fun E hE => ?_) (fun h9 => ?_)
  · obtain ⟨hk, rfl⟩ := hE
    rcases gvC_r _ _ _ with hc | hc | hc | hc
    · exact absurd hc hk
    · rw [hc]
      refine gox_catch C (E := nb_I) [] ⟨0, 129, 130, 71⟩ [⟨0, 129, 135, 73⟩, ⟨0, 129, 140, 75⟩] ht (fun z9 hz9 => (List.not_mem_nil hz9).elim) (by decide) (by decide) bcl_RL_71 mem_I (fun q9 => ?_)
      refine go_astore C (lo' := [(4, .ref q9), (0, .ref (a 0)), (1, .int 1), (2, .int z), (3, .int c9)]) dL_does_130 (by decide) rfl ?_
      refine go_bipush C (v := (-11)) dL_does_132 (by decide) ?_
      exact go_x (go_ireturn C rfl dL_does_134 (by decide) (by decide) (Or.inr ⟨by decide, rfl, rfl⟩))
    · rw [hc]
      refine gox_catch C (E := nb_A) [⟨0, 129, 130, 71⟩] ⟨0, 129, 135, 73⟩ [⟨0, 129, 140, 75⟩] ht (pl_all1 (Or.inr ⟨by decide, nb_I, bcl_RL_71, List.mem_of_getElem? (i := 0) rfl⟩)) (by decide) (by decide) bcl_RL_73 mem_A (fun q9 => ?_)
      refine go_astore C (lo' := [(4, .ref q9), (0, .ref (a 0)), (1, .int 1), (2, .int z), (3, .int c9)]) dL_does_135 (by decide) rfl ?_
      refine go_bipush C (v := (-12)) dL_does_137 (by decide) ?_
      exact go_x (go_ireturn C rfl dL_does_139 (by decide) (by decide) (Or.inr ⟨by decide, rfl, rfl⟩))
    · rw [hc]
      refine gox_catch C (E := nb_S) [⟨0, 129, 130, 71⟩, ⟨0, 129, 135, 73⟩] ⟨0, 129, 140, 75⟩ [] ht (pl_all2 (Or.inr ⟨by decide, nb_I, bcl_RL_71, List.mem_of_getElem? (i := 1) rfl⟩) (Or.inr ⟨by decide, nb_A, bcl_RL_73, List.mem_of_getElem? (i := 3) rfl⟩)) (by decide) (by decide) bcl_RL_75 mem_S (fun q9 => ?_)
      refine go_astore C (lo' := [(4, .ref q9), (0, .ref (a 0)), (1, .int 1), (2, .int z), (3, .int c9)]) dL_does_140 (by decide) rfl ?_
      refine go_bipush C (v := (-13)) dL_does_142 (by decide) ?_
      exact go_x (go_ireturn C rfl dL_does_144 (by decide) (by decide) (Or.inr ⟨by decide, rfl, rfl⟩))
  · refine go_goto C (tgt := 129) dL_does_24 (by decide) ?_
    exact go_x (go_ireturn C rfl dL_does_129 (by decide) (by decide) (Or.inl ⟨h9, rfl, rfl⟩))
theorem k_RL_81_1 {p : Program} {l : Launch} {e : Env} {R : Room} {s : State} {m : MethodId} {args : Array Value} {below : List Frame} {meth : Method} {c : Code} {D : va_G} {N0 mL : Nat} {cc : ByteArray} {nm : String} {ret : Option FieldType} {Q : State → Prop} {k n pc : Nat} {lo : List (Nat × Value)} {st : List Value} {cI cJ cO : ClassId} {a : Nat → Nat} (C : Cxt p s m args meth c D (tysW cI cJ cO) N0 cc mL RL ret nm) (hlf : l.stackTraces = false) (S : CS) (M : LWS) (ov : va_W) (z c9 : Int32) (hok : okX S) (hR : 8 + 1 ≤ R.frames ∧ 8 + (5 + 11) + 127 ≤ R.locals) (hcs : k + 3 ≤ R.cells ∧ n + 18 ≤ R.slots) (hcat : (st.map fun v => v.category).sum ≤ 8) (dk : decode cc pc = .ok (.invokestatic 81, 3)) (g0 : (gvC S z c9 = 0) → Go p l e R s m args below meth c D N0 mL Q (wW cI cJ cO a (gvS S z c9) M ov) (k + 3) (n + 18) (pc + 3) lo (.int (cs_day S + 32) :: st)) (g1 : (¬ gvC S z c9 = 0) → Go p l e R s m args below meth c D N0 mL Q (wW cI cJ cO a S M ov) (k + 3) (n + 18) (pc + 3) lo (.int (exV (gvC S z c9)) :: st)) : Go p l e R s m args below meth c D N0 mL Q (wW cI cJ cO a S M ov) k n pc lo (.int c9 :: .int z :: .int 1 :: .ref (a 0) :: st) :=
  go_callW C (As := [.ref (a 0), .int 1, .int z, .int c9]) (rest := st) (c_L_does_1 l hlf D cI cJ cO N0 a S M ov z c9 hok) ⟨by decide +kernel, by decide +kernel⟩ bl_RL_81 bst_yL_does bz_NoticeBookLaw bc_yL_does (show Option.map (fun d => d.parameters.length) (parseMethodDescriptor yL_does.desc) = some 4 by decide +kernel) hR hcs hcat dk (fun r w2 h => by
    rcases h with ⟨h9, rfl, rfl⟩ | ⟨h9, rfl, rfl⟩
    · exact g0 h9
    · exact g1 h9) rfl
set_option maxHeartbeats 4000000 in
set_option maxRecDepth 100000 in
theorem c_L_does_2 (l : Launch) (hlf : l.stackTraces = false) (D : va_G) (cI cJ cO : ClassId) (N0 : Nat) (a : Nat → Nat) (S : CS) (M : LWS) (ov : va_W) (z : Int32) (z9 : Int32) (hok : okX S) : CtW l D (tysW cI cJ cO) N0 yL_does cL_does 5 (some .int) [(0, 129, 130, 71), (0, 129, 135, 73), (0, 129, 140, 75)] { frames := 9, cells := 2, slots := 12, locals := 149 } [.ref (a 0), .int 2, .int z, .int z9] (wW cI cJ cO a S M ov) (fun r w2 => (wdC S z = 0 ∧ r = some (.int (lr_fz (cs_lt S (Int32.toNatClampNeg z)))) ∧ w2 = wW cI cJ cO a (wdS S z) M ov) ∨ (¬ wdC S z = 0 ∧ r = some (.int (exV (wdC S z))) ∧ w2 = wW cI cJ cO a S M ov)) := by
  refine ctw_of (by decide +kernel) (Nat.le_of_ble_eq_true rfl) ?_
  intro p e s m args below meth c C ht
  have C : Cxt p s m args meth c D (tysW cI cJ cO) N0 cL_does 5 RL (some .int) "does" := C
  refine go_iload_n C 1 dL_does_0 rfl rfl ?_
  refine go_if_ne C (tgt := 13) dL_does_1 (by decide) (fun c_1 => ?_) (fun c_1 => absurd c_1 (by decide))
  refine go_iload_n C 1 dL_does_13 rfl rfl ?_
  refine go_iconst C (v := 1) dL_does_14 (by decide) ?_
  refine go_icmp_ne C (tgt := 27) dL_does_15 (by decide) (fun c_2 => ?_) (fun c_2 => absurd c_2 (by decide))
  refine go_iload_n C 1 dL_does_27 rfl rfl ?_
  refine go_iconst C (v := 2) dL_does_28 (by decide) ?_
  refine go_icmp_ne C (tgt := 40) dL_does_29 (by decide) (fun c_3 => absurd c_3 (by decide)) (fun c_3 => ?_)
  refine go_aload_n C 0 dL_does_32 rfl rfl ?_
  refine go_iload_n C 2 dL_does_33 rfl rfl ?_
  refine k_RL_46 C hlf S M ov z hok ⟨(Nat.le_of_ble_eq_true rfl), (Nat.le_of_ble_eq_true rfl)⟩ ⟨(Nat.le_of_ble_eq_true rfl), (Nat.le_of_ble_eq_true rfl)⟩ (Nat.le_of_ble_eq_true rfl) dL_does_34 (fun E hE => ?_) (fun h9 => ?_)
  · obtain ⟨hk, rfl⟩ := hE
    rcases wdC_r _ _ with hc | hc | hc
    · exact absurd hc hk
    · rw [hc]
      refine gox_catch C (E := nb_I) [] ⟨0, 129, 130, 71⟩ [⟨0, 129, 135, 73⟩, ⟨0, 129, 140, 75⟩] ht (fun z9 hz9 => (List.not_mem_nil hz9).elim) (by decide) (by decide) bcl_RL_71 mem_I (fun q9 => ?_)
      refine go_astore C (lo' := [(4, .ref q9), (0, .ref (a 0)), (1, .int 2), (2, .int z), (3, .int z9)]) dL_does_130 (by decide) rfl ?_
      refine go_bipush C (v := (-11)) dL_does_132 (by decide) ?_
      exact go_x (go_ireturn C rfl dL_does_134 (by decide) (by decide) (Or.inr ⟨by decide, rfl, rfl⟩))
    · rw [hc]
      refine gox_catch C (E := nb_S) [⟨0, 129, 130, 71⟩, ⟨0, 129, 135, 73⟩] ⟨0, 129, 140, 75⟩ [] ht (pl_all2 (Or.inr ⟨by decide, nb_I, bcl_RL_71, List.mem_of_getElem? (i := 1) rfl⟩) (Or.inr ⟨by decide, nb_A, bcl_RL_73, List.mem_of_getElem? (i := 3) rfl⟩)) (by decide) (by decide) bcl_RL_75 mem_S (fun q9 => ?_)
      refine go_astore C (lo' := [(4, .ref q9), (0, .ref (a 0)), (1, .int 2), (2, .int z), (3, .int z9)]) dL_does_140 (by decide) rfl ?_
      refine go_bipush C (v := (-13)) dL_does_142 (by decide) ?_
      exact go_x (go_ireturn C rfl dL_does_144 (by decide) (by decide) (Or.inr ⟨by decide, rfl, rfl⟩))
  · refine go_goto C (tgt := 129) dL_does_37 (by decide) ?_
    exact go_x (go_ireturn C rfl dL_does_129 (by decide) (by decide) (Or.inl ⟨h9, rfl, rfl⟩))
theorem k_RL_81_2 {p : Program} {l : Launch} {e : Env} {R : Room} {s : State} {m : MethodId} {args : Array Value} {below : List Frame} {meth : Method} {c : Code} {D : va_G} {N0 mL : Nat} {cc : ByteArray} {nm : String} {ret : Option FieldType} {Q : State → Prop} {k n pc : Nat} {lo : List (Nat × Value)} {st : List Value} {cI cJ cO : ClassId} {a : Nat → Nat} (C : Cxt p s m args meth c D (tysW cI cJ cO) N0 cc mL RL ret nm) (hlf : l.stackTraces = false) (S : CS) (M : LWS) (ov : va_W) (z : Int32) (z9 : Int32) (hok : okX S) (hR : 9 + 1 ≤ R.frames ∧ 8 + (5 + 11) + 149 ≤ R.locals) (hcs : k + 2 ≤ R.cells ∧ n + 12 ≤ R.slots) (hcat : (st.map fun v => v.category).sum ≤ 8) (dk : decode cc pc = .ok (.invokestatic 81, 3)) (g0 : (wdC S z = 0) → Go p l e R s m args below meth c D N0 mL Q (wW cI cJ cO a (wdS S z) M ov) (k + 2) (n + 12) (pc + 3) lo (.int (lr_fz (cs_lt S (Int32.toNatClampNeg z))) :: st)) (g1 : (¬ wdC S z = 0) → Go p l e R s m args below meth c D N0 mL Q (wW cI cJ cO a S M ov) (k + 2) (n + 12) (pc + 3) lo (.int (exV (wdC S z)) :: st)) : Go p l e R s m args below meth c D N0 mL Q (wW cI cJ cO a S M ov) k n pc lo (.int z9 :: .int z :: .int 2 :: .ref (a 0) :: st) :=
  go_callW C (As := [.ref (a 0), .int 2, .int z, .int z9]) (rest := st) (c_L_does_2 l hlf D cI cJ cO N0 a S M ov z z9 hok) ⟨by decide +kernel, by decide +kernel⟩ bl_RL_81 bst_yL_does bz_NoticeBookLaw bc_yL_does (show Option.map (fun d => d.parameters.length) (parseMethodDescriptor yL_does.desc) = some 4 by decide +kernel) hR hcs hcat dk (fun r w2 h => by
    rcases h with ⟨h9, rfl, rfl⟩ | ⟨h9, rfl, rfl⟩
    · exact g0 h9
    · exact g1 h9) rfl
set_option maxHeartbeats 4000000 in
set_option maxRecDepth 100000 in
theorem c_L_does_3 (l : Launch) (hlf : l.stackTraces = false) (D : va_G) (cI cJ cO : ClassId) (N0 : Nat) (a : Nat → Nat) (S : CS) (M : LWS) (ov : va_W) (z : Int32) (z9 : Int32) (hok : okX S) : CtW l D (tysW cI cJ cO) N0 yL_does cL_does 5 (some .int) [(0, 129, 130, 71), (0, 129, 135, 73), (0, 129, 140, 75)] { frames := 9, cells := 3, slots := 18, locals := 149 } [.ref (a 0), .int 3, .int z, .int z9] (wW cI cJ cO a S M ov) (fun r w2 => (tkC S z = 0 ∧ r = some (.int (poC (wdS S z) (Int32.toNatClampNeg z) (lr_fz (cs_lt S (Int32.toNatClampNeg z))))) ∧ w2 = wW cI cJ cO a (poS (wdS S z) (Int32.toNatClampNeg z) (lr_fz (cs_lt S (Int32.toNatClampNeg z)))) M ov) ∨ (¬ tkC S z = 0 ∧ r = some (.int (exV (tkC S z))) ∧ w2 = wW cI cJ cO a S M ov)) := by
  refine ctw_of (by decide +kernel) (Nat.le_of_ble_eq_true rfl) ?_
  intro p e s m args below meth c C ht
  have C : Cxt p s m args meth c D (tysW cI cJ cO) N0 cL_does 5 RL (some .int) "does" := C
  refine go_iload_n C 1 dL_does_0 rfl rfl ?_
  refine go_if_ne C (tgt := 13) dL_does_1 (by decide) (fun c_1 => ?_) (fun c_1 => absurd c_1 (by decide))
  refine go_iload_n C 1 dL_does_13 rfl rfl ?_
  refine go_iconst C (v := 1) dL_does_14 (by decide) ?_
  refine go_icmp_ne C (tgt := 27) dL_does_15 (by decide) (fun c_2 => ?_) (fun c_2 => absurd c_2 (by decide))
  refine go_iload_n C 1 dL_does_27 rfl rfl ?_
  refine go_iconst C (v := 2) dL_does_28 (by decide) ?_
  refine go_icmp_ne C (tgt := 40) dL_does_29 (by decide) (fun c_3 => ?_) (fun c_3 => absurd c_3 (by decide))
  refine go_iload_n C 1 dL_does_40 rfl rfl ?_
  refine go_iconst C (v := 3) dL_does_41 (by decide) ?_
  refine go_icmp_ne C (tgt := 53) dL_does_42 (by decide) (fun c_4 => absurd c_4 (by decide)) (fun c_4 => ?_)
  refine go_aload_n C 0 dL_does_45 rfl rfl ?_
  refine go_iload_n C 2 dL_does_46 rfl rfl ?_
  refine k_RL_50 C hlf S M ov z hok ⟨(Nat.le_of_ble_eq_true rfl), (Nat.le_of_ble_eq_true rfl)⟩ ⟨(Nat.le_of_ble_eq_true rfl), (Nat.le_of_ble_eq_true rfl)⟩ (Nat.le_of_ble_eq_true rfl) dL_does_47 (fun E hE => ?_) (fun h9 => ?_)
  · obtain ⟨hk, rfl⟩ := hE
    rcases tkC_r _ _ with hc | hc | hc
    · exact absurd hc hk
    · rw [hc]
      refine gox_catch C (E := nb_I) [] ⟨0, 129, 130, 71⟩ [⟨0, 129, 135, 73⟩, ⟨0, 129, 140, 75⟩] ht (fun z9 hz9 => (List.not_mem_nil hz9).elim) (by decide) (by decide) bcl_RL_71 mem_I (fun q9 => ?_)
      refine go_astore C (lo' := [(4, .ref q9), (0, .ref (a 0)), (1, .int 3), (2, .int z), (3, .int z9)]) dL_does_130 (by decide) rfl ?_
      refine go_bipush C (v := (-11)) dL_does_132 (by decide) ?_
      exact go_x (go_ireturn C rfl dL_does_134 (by decide) (by decide) (Or.inr ⟨by decide, rfl, rfl⟩))
    · rw [hc]
      refine gox_catch C (E := nb_S) [⟨0, 129, 130, 71⟩, ⟨0, 129, 135, 73⟩] ⟨0, 129, 140, 75⟩ [] ht (pl_all2 (Or.inr ⟨by decide, nb_I, bcl_RL_71, List.mem_of_getElem? (i := 1) rfl⟩) (Or.inr ⟨by decide, nb_A, bcl_RL_73, List.mem_of_getElem? (i := 3) rfl⟩)) (by decide) (by decide) bcl_RL_75 mem_S (fun q9 => ?_)
      refine go_astore C (lo' := [(4, .ref q9), (0, .ref (a 0)), (1, .int 3), (2, .int z), (3, .int z9)]) dL_does_140 (by decide) rfl ?_
      refine go_bipush C (v := (-13)) dL_does_142 (by decide) ?_
      exact go_x (go_ireturn C rfl dL_does_144 (by decide) (by decide) (Or.inr ⟨by decide, rfl, rfl⟩))
  · refine go_goto C (tgt := 129) dL_does_50 (by decide) ?_
    exact go_x (go_ireturn C rfl dL_does_129 (by decide) (by decide) (Or.inl ⟨h9, rfl, rfl⟩))
theorem k_RL_81_3 {p : Program} {l : Launch} {e : Env} {R : Room} {s : State} {m : MethodId} {args : Array Value} {below : List Frame} {meth : Method} {c : Code} {D : va_G} {N0 mL : Nat} {cc : ByteArray} {nm : String} {ret : Option FieldType} {Q : State → Prop} {k n pc : Nat} {lo : List (Nat × Value)} {st : List Value} {cI cJ cO : ClassId} {a : Nat → Nat} (C : Cxt p s m args meth c D (tysW cI cJ cO) N0 cc mL RL ret nm) (hlf : l.stackTraces = false) (S : CS) (M : LWS) (ov : va_W) (z : Int32) (z9 : Int32) (hok : okX S) (hR : 9 + 1 ≤ R.frames ∧ 8 + (5 + 11) + 149 ≤ R.locals) (hcs : k + 3 ≤ R.cells ∧ n + 18 ≤ R.slots) (hcat : (st.map fun v => v.category).sum ≤ 8) (dk : decode cc pc = .ok (.invokestatic 81, 3)) (g0 : (tkC S z = 0) → Go p l e R s m args below meth c D N0 mL Q (wW cI cJ cO a (poS (wdS S z) (Int32.toNatClampNeg z) (lr_fz (cs_lt S (Int32.toNatClampNeg z)))) M ov) (k + 3) (n + 18) (pc + 3) lo (.int (poC (wdS S z) (Int32.toNatClampNeg z) (lr_fz (cs_lt S (Int32.toNatClampNeg z)))) :: st)) (g1 : (¬ tkC S z = 0) → Go p l e R s m args below meth c D N0 mL Q (wW cI cJ cO a S M ov) (k + 3) (n + 18) (pc + 3) lo (.int (exV (tkC S z)) :: st)) : Go p l e R s m args below meth c D N0 mL Q (wW cI cJ cO a S M ov) k n pc lo (.int z9 :: .int z :: .int 3 :: .ref (a 0) :: st) :=
  go_callW C (As := [.ref (a 0), .int 3, .int z, .int z9]) (rest := st) (c_L_does_3 l hlf D cI cJ cO N0 a S M ov z z9 hok) ⟨by decide +kernel, by decide +kernel⟩ bl_RL_81 bst_yL_does bz_NoticeBookLaw bc_yL_does (show Option.map (fun d => d.parameters.length) (parseMethodDescriptor yL_does.desc) = some 4 by decide +kernel) hR hcs hcat dk (fun r w2 h => by
    rcases h with ⟨h9, rfl, rfl⟩ | ⟨h9, rfl, rfl⟩
    · exact g0 h9
    · exact g1 h9) rfl
set_option maxHeartbeats 4000000 in
set_option maxRecDepth 100000 in
theorem c_L_does_4 (l : Launch) (hlf : l.stackTraces = false) (D : va_G) (cI cJ cO : ClassId) (N0 : Nat) (a : Nat → Nat) (S : CS) (M : LWS) (ov : va_W) (cu c9 : Int32) (hok : okX S) : CtW l D (tysW cI cJ cO) N0 yL_does cL_does 5 (some .int) [(0, 129, 130, 71), (0, 129, 135, 73), (0, 129, 140, 75)] { frames := 8, cells := 3, slots := 18, locals := 131 } [.ref (a 0), .int 4, .int cu, .int c9] (wW cI cJ cO a S M ov) (fun r w2 => (eaC S cu c9 = 0 ∧ r = some (.int (erTo (noteX S cu) cu c9 (cs_n S)).2.1) ∧ w2 = wW cI cJ cO a (erTo (noteX S cu) cu c9 (cs_n S)).2.2 M ov) ∨ (¬ eaC S cu c9 = 0 ∧ r = some (.int (exV (eaC S cu c9))) ∧ w2 = wW cI cJ cO a S M ov)) := by
  refine ctw_of (by decide +kernel) (Nat.le_of_ble_eq_true rfl) ?_
  intro p e s m args below meth c C ht
  have C : Cxt p s m args meth c D (tysW cI cJ cO) N0 cL_does 5 RL (some .int) "does" := C
  refine go_iload_n C 1 dL_does_0 rfl rfl ?_
  refine go_if_ne C (tgt := 13) dL_does_1 (by decide) (fun c_1 => ?_) (fun c_1 => absurd c_1 (by decide))
  refine go_iload_n C 1 dL_does_13 rfl rfl ?_
  refine go_iconst C (v := 1) dL_does_14 (by decide) ?_
  refine go_icmp_ne C (tgt := 27) dL_does_15 (by decide) (fun c_2 => ?_) (fun c_2 => absurd c_2 (by decide))
  refine go_iload_n C 1 dL_does_27 rfl rfl ?_
  refine go_iconst C (v := 2) dL_does_28 (by decide) ?_
  refine go_icmp_ne C (tgt := 40) dL_does_29 (by decide) (fun c_3 => ?_) (fun c_3 => absurd c_3 (by decide))
  refine go_iload_n C 1 dL_does_40 rfl rfl ?_
  refine go_iconst C (v := 3) dL_does_41 (by decide) ?_
  refine go_icmp_ne C (tgt := 53) dL_does_42 (by decide) (fun c_4 => ?_) (fun c_4 => absurd c_4 (by decide))
  refine go_iload_n C 1 dL_does_53 rfl rfl ?_
  refine go_iconst C (v := 4) dL_does_54 (by decide) ?_
  refine go_icmp_ne C (tgt := 67) dL_does_55 (by decide) (fun c_5 => absurd c_5 (by decide)) (fun c_5 => ?_)
  refine go_aload_n C 0 dL_does_58 rfl rfl ?_
  refine go_iload_n C 2 dL_does_59 rfl rfl ?_
  refine go_iload_n C 3 dL_does_60 rfl rfl ?_
  refine k_RL_53 C hlf S M ov cu c9 hok ⟨(Nat.le_of_ble_eq_true rfl), (Nat.le_of_ble_eq_true rfl)⟩ ⟨(Nat.le_of_ble_eq_true rfl), (Nat.le_of_ble_eq_true rfl)⟩ (Nat.le_of_ble_eq_true rfl) dL_does_61 (fun E hE => ?_) (fun h9 => ?_)
  · obtain ⟨hk, rfl⟩ := hE
    rcases eaC_r _ _ _ with hc | hc | hc | hc
    · exact absurd hc hk
    · rw [hc]
      refine gox_catch C (E := nb_I) [] ⟨0, 129, 130, 71⟩ [⟨0, 129, 135, 73⟩, ⟨0, 129, 140, 75⟩] ht (fun z9 hz9 => (List.not_mem_nil hz9).elim) (by decide) (by decide) bcl_RL_71 mem_I (fun q9 => ?_)
      refine go_astore C (lo' := [(4, .ref q9), (0, .ref (a 0)), (1, .int 4), (2, .int cu), (3, .int c9)]) dL_does_130 (by decide) rfl ?_
      refine go_bipush C (v := (-11)) dL_does_132 (by decide) ?_
      exact go_x (go_ireturn C rfl dL_does_134 (by decide) (by decide) (Or.inr ⟨by decide, rfl, rfl⟩))
    · rw [hc]
      refine gox_catch C (E := nb_A) [⟨0, 129, 130, 71⟩] ⟨0, 129, 135, 73⟩ [⟨0, 129, 140, 75⟩] ht (pl_all1 (Or.inr ⟨by decide, nb_I, bcl_RL_71, List.mem_of_getElem? (i := 0) rfl⟩)) (by decide) (by decide) bcl_RL_73 mem_A (fun q9 => ?_)
      refine go_astore C (lo' := [(4, .ref q9), (0, .ref (a 0)), (1, .int 4), (2, .int cu), (3, .int c9)]) dL_does_135 (by decide) rfl ?_
      refine go_bipush C (v := (-12)) dL_does_137 (by decide) ?_
      exact go_x (go_ireturn C rfl dL_does_139 (by decide) (by decide) (Or.inr ⟨by decide, rfl, rfl⟩))
    · rw [hc]
      refine gox_catch C (E := nb_S) [⟨0, 129, 130, 71⟩, ⟨0, 129, 135, 73⟩] ⟨0, 129, 140, 75⟩ [] ht (pl_all2 (Or.inr ⟨by decide, nb_I, bcl_RL_71, List.mem_of_getElem? (i := 1) rfl⟩) (Or.inr ⟨by decide, nb_A, bcl_RL_73, List.mem_of_getElem? (i := 3) rfl⟩)) (by decide) (by decide) bcl_RL_75 mem_S (fun q9 => ?_)
      refine go_astore C (lo' := [(4, .ref q9), (0, .ref (a 0)), (1, .int 4), (2, .int cu), (3, .int c9)]) dL_does_140 (by decide) rfl ?_
      refine go_bipush C (v := (-13)) dL_does_142 (by decide) ?_
      exact go_x (go_ireturn C rfl dL_does_144 (by decide) (by decide) (Or.inr ⟨by decide, rfl, rfl⟩))
  · refine go_goto C (tgt := 129) dL_does_64 (by decide) ?_
    exact go_x (go_ireturn C rfl dL_does_129 (by decide) (by decide) (Or.inl ⟨h9, rfl, rfl⟩))
theorem k_RL_81_4 {p : Program} {l : Launch} {e : Env} {R : Room} {s : State} {m : MethodId} {args : Array Value} {below : List Frame} {meth : Method} {c : Code} {D : va_G} {N0 mL : Nat} {cc : ByteArray} {nm : String} {ret : Option FieldType} {Q : State → Prop} {k n pc : Nat} {lo : List (Nat × Value)} {st : List Value} {cI cJ cO : ClassId} {a : Nat → Nat} (C : Cxt p s m args meth c D (tysW cI cJ cO) N0 cc mL RL ret nm) (hlf : l.stackTraces = false) (S : CS) (M : LWS) (ov : va_W) (cu c9 : Int32) (hok : okX S) (hR : 8 + 1 ≤ R.frames ∧ 8 + (5 + 11) + 131 ≤ R.locals) (hcs : k + 3 ≤ R.cells ∧ n + 18 ≤ R.slots) (hcat : (st.map fun v => v.category).sum ≤ 8) (dk : decode cc pc = .ok (.invokestatic 81, 3)) (g0 : (eaC S cu c9 = 0) → Go p l e R s m args below meth c D N0 mL Q (wW cI cJ cO a (erTo (noteX S cu) cu c9 (cs_n S)).2.2 M ov) (k + 3) (n + 18) (pc + 3) lo (.int (erTo (noteX S cu) cu c9 (cs_n S)).2.1 :: st)) (g1 : (¬ eaC S cu c9 = 0) → Go p l e R s m args below meth c D N0 mL Q (wW cI cJ cO a S M ov) (k + 3) (n + 18) (pc + 3) lo (.int (exV (eaC S cu c9)) :: st)) : Go p l e R s m args below meth c D N0 mL Q (wW cI cJ cO a S M ov) k n pc lo (.int c9 :: .int cu :: .int 4 :: .ref (a 0) :: st) :=
  go_callW C (As := [.ref (a 0), .int 4, .int cu, .int c9]) (rest := st) (c_L_does_4 l hlf D cI cJ cO N0 a S M ov cu c9 hok) ⟨by decide +kernel, by decide +kernel⟩ bl_RL_81 bst_yL_does bz_NoticeBookLaw bc_yL_does (show Option.map (fun d => d.parameters.length) (parseMethodDescriptor yL_does.desc) = some 4 by decide +kernel) hR hcs hcat dk (fun r w2 h => by
    rcases h with ⟨h9, rfl, rfl⟩ | ⟨h9, rfl, rfl⟩
    · exact g0 h9
    · exact g1 h9) rfl
set_option maxHeartbeats 4000000 in
set_option maxRecDepth 100000 in
theorem c_L_does_5 (l : Launch) (hlf : l.stackTraces = false) (D : va_G) (cI cJ cO : ClassId) (N0 : Nat) (a : Nat → Nat) (S : CS) (M : LWS) (ov : va_W) (z v : Int32) (hok : okX S) : CtW l D (tysW cI cJ cO) N0 yL_does cL_does 5 (some .int) [(0, 129, 130, 71), (0, 129, 135, 73), (0, 129, 140, 75)] { frames := 8, cells := 3, slots := 18, locals := 128 } [.ref (a 0), .int 5, .int z, .int v] (wW cI cJ cO a S M ov) (fun r w2 => (inC S z v = 0 ∧ r = some (.int (lr_ins (cs_lt S (Int32.toNatClampNeg z)))) ∧ w2 = wW cI cJ cO a (inS S z v) M ov) ∨ (¬ inC S z v = 0 ∧ r = some (.int (exV (inC S z v))) ∧ w2 = wW cI cJ cO a S M ov)) := by
  refine ctw_of (by decide +kernel) (Nat.le_of_ble_eq_true rfl) ?_
  intro p e s m args below meth c C ht
  have C : Cxt p s m args meth c D (tysW cI cJ cO) N0 cL_does 5 RL (some .int) "does" := C
  refine go_iload_n C 1 dL_does_0 rfl rfl ?_
  refine go_if_ne C (tgt := 13) dL_does_1 (by decide) (fun c_1 => ?_) (fun c_1 => absurd c_1 (by decide))
  refine go_iload_n C 1 dL_does_13 rfl rfl ?_
  refine go_iconst C (v := 1) dL_does_14 (by decide) ?_
  refine go_icmp_ne C (tgt := 27) dL_does_15 (by decide) (fun c_2 => ?_) (fun c_2 => absurd c_2 (by decide))
  refine go_iload_n C 1 dL_does_27 rfl rfl ?_
  refine go_iconst C (v := 2) dL_does_28 (by decide) ?_
  refine go_icmp_ne C (tgt := 40) dL_does_29 (by decide) (fun c_3 => ?_) (fun c_3 => absurd c_3 (by decide))
  refine go_iload_n C 1 dL_does_40 rfl rfl ?_
  refine go_iconst C (v := 3) dL_does_41 (by decide) ?_
  refine go_icmp_ne C (tgt := 53) dL_does_42 (by decide) (fun c_4 => ?_) (fun c_4 => absurd c_4 (by decide))
  refine go_iload_n C 1 dL_does_53 rfl rfl ?_
  refine go_iconst C (v := 4) dL_does_54 (by decide) ?_
  refine go_icmp_ne C (tgt := 67) dL_does_55 (by decide) (fun c_5 => ?_) (fun c_5 => absurd c_5 (by decide))
  refine go_iload_n C 1 dL_does_67 rfl rfl ?_
  refine go_iconst C (v := 5) dL_does_68 (by decide) ?_
  refine go_icmp_ne C (tgt := 81) dL_does_69 (by decide) (fun c_6 => absurd c_6 (by decide)) (fun c_6 => ?_)
  refine go_aload_n C 0 dL_does_72 rfl rfl ?_
  refine go_iload_n C 2 dL_does_73 rfl rfl ?_
  refine go_iload_n C 3 dL_does_74 rfl rfl ?_
  refine k_RL_56 C hlf S M ov z v hok ⟨(Nat.le_of_ble_eq_true rfl), (Nat.le_of_ble_eq_true rfl)⟩ ⟨(Nat.le_of_ble_eq_true rfl), (Nat.le_of_ble_eq_true rfl)⟩ (Nat.le_of_ble_eq_true rfl) dL_does_75 (fun E hE => ?_) (fun h9 => ?_)
  · obtain ⟨hk, rfl⟩ := hE
    rcases inC_r _ _ _ with hc | hc | hc | hc
    · exact absurd hc hk
    · rw [hc]
      refine gox_catch C (E := nb_I) [] ⟨0, 129, 130, 71⟩ [⟨0, 129, 135, 73⟩, ⟨0, 129, 140, 75⟩] ht (fun z9 hz9 => (List.not_mem_nil hz9).elim) (by decide) (by decide) bcl_RL_71 mem_I (fun q9 => ?_)
      refine go_astore C (lo' := [(4, .ref q9), (0, .ref (a 0)), (1, .int 5), (2, .int z), (3, .int v)]) dL_does_130 (by decide) rfl ?_
      refine go_bipush C (v := (-11)) dL_does_132 (by decide) ?_
      exact go_x (go_ireturn C rfl dL_does_134 (by decide) (by decide) (Or.inr ⟨by decide, rfl, rfl⟩))
    · rw [hc]
      refine gox_catch C (E := nb_A) [⟨0, 129, 130, 71⟩] ⟨0, 129, 135, 73⟩ [⟨0, 129, 140, 75⟩] ht (pl_all1 (Or.inr ⟨by decide, nb_I, bcl_RL_71, List.mem_of_getElem? (i := 0) rfl⟩)) (by decide) (by decide) bcl_RL_73 mem_A (fun q9 => ?_)
      refine go_astore C (lo' := [(4, .ref q9), (0, .ref (a 0)), (1, .int 5), (2, .int z), (3, .int v)]) dL_does_135 (by decide) rfl ?_
      refine go_bipush C (v := (-12)) dL_does_137 (by decide) ?_
      exact go_x (go_ireturn C rfl dL_does_139 (by decide) (by decide) (Or.inr ⟨by decide, rfl, rfl⟩))
    · rw [hc]
      refine gox_catch C (E := nb_S) [⟨0, 129, 130, 71⟩, ⟨0, 129, 135, 73⟩] ⟨0, 129, 140, 75⟩ [] ht (pl_all2 (Or.inr ⟨by decide, nb_I, bcl_RL_71, List.mem_of_getElem? (i := 1) rfl⟩) (Or.inr ⟨by decide, nb_A, bcl_RL_73, List.mem_of_getElem? (i := 3) rfl⟩)) (by decide) (by decide) bcl_RL_75 mem_S (fun q9 => ?_)
      refine go_astore C (lo' := [(4, .ref q9), (0, .ref (a 0)), (1, .int 5), (2, .int z), (3, .int v)]) dL_does_140 (by decide) rfl ?_
      refine go_bipush C (v := (-13)) dL_does_142 (by decide) ?_
      exact go_x (go_ireturn C rfl dL_does_144 (by decide) (by decide) (Or.inr ⟨by decide, rfl, rfl⟩))
  · refine go_goto C (tgt := 129) dL_does_78 (by decide) ?_
    exact go_x (go_ireturn C rfl dL_does_129 (by decide) (by decide) (Or.inl ⟨h9, rfl, rfl⟩))
theorem k_RL_81_5 {p : Program} {l : Launch} {e : Env} {R : Room} {s : State} {m : MethodId} {args : Array Value} {below : List Frame} {meth : Method} {c : Code} {D : va_G} {N0 mL : Nat} {cc : ByteArray} {nm : String} {ret : Option FieldType} {Q : State → Prop} {k n pc : Nat} {lo : List (Nat × Value)} {st : List Value} {cI cJ cO : ClassId} {a : Nat → Nat} (C : Cxt p s m args meth c D (tysW cI cJ cO) N0 cc mL RL ret nm) (hlf : l.stackTraces = false) (S : CS) (M : LWS) (ov : va_W) (z v : Int32) (hok : okX S) (hR : 8 + 1 ≤ R.frames ∧ 8 + (5 + 11) + 128 ≤ R.locals) (hcs : k + 3 ≤ R.cells ∧ n + 18 ≤ R.slots) (hcat : (st.map fun v => v.category).sum ≤ 8) (dk : decode cc pc = .ok (.invokestatic 81, 3)) (g0 : (inC S z v = 0) → Go p l e R s m args below meth c D N0 mL Q (wW cI cJ cO a (inS S z v) M ov) (k + 3) (n + 18) (pc + 3) lo (.int (lr_ins (cs_lt S (Int32.toNatClampNeg z))) :: st)) (g1 : (¬ inC S z v = 0) → Go p l e R s m args below meth c D N0 mL Q (wW cI cJ cO a S M ov) (k + 3) (n + 18) (pc + 3) lo (.int (exV (inC S z v)) :: st)) : Go p l e R s m args below meth c D N0 mL Q (wW cI cJ cO a S M ov) k n pc lo (.int v :: .int z :: .int 5 :: .ref (a 0) :: st) :=
  go_callW C (As := [.ref (a 0), .int 5, .int z, .int v]) (rest := st) (c_L_does_5 l hlf D cI cJ cO N0 a S M ov z v hok) ⟨by decide +kernel, by decide +kernel⟩ bl_RL_81 bst_yL_does bz_NoticeBookLaw bc_yL_does (show Option.map (fun d => d.parameters.length) (parseMethodDescriptor yL_does.desc) = some 4 by decide +kernel) hR hcs hcat dk (fun r w2 h => by
    rcases h with ⟨h9, rfl, rfl⟩ | ⟨h9, rfl, rfl⟩
    · exact g0 h9
    · exact g1 h9) rfl
set_option maxHeartbeats 4000000 in
set_option maxRecDepth 100000 in
theorem c_L_does_6 (l : Launch) (hlf : l.stackTraces = false) (D : va_G) (cI cJ cO : ClassId) (N0 : Nat) (a : Nat → Nat) (S : CS) (M : LWS) (ov : va_W) (z : Int32) (z9 : Int32) (hok : okX S) : CtW l D (tysW cI cJ cO) N0 yL_does cL_does 5 (some .int) [(0, 129, 130, 71), (0, 129, 135, 73), (0, 129, 140, 75)] { frames := 8, cells := 2, slots := 12, locals := 126 } [.ref (a 0), .int 6, .int z, .int z9] (wW cI cJ cO a S M ov) (fun r w2 => (lgC S z = 0 ∧ r = some (.int (lgV S z)) ∧ w2 = wW cI cJ cO a (lgS S z) M ov) ∨ (¬ lgC S z = 0 ∧ r = some (.int (exV (lgC S z))) ∧ w2 = wW cI cJ cO a S M ov)) := by
  refine ctw_of (by decide +kernel) (Nat.le_of_ble_eq_true rfl) ?_
  intro p e s m args below meth c C ht
  have C : Cxt p s m args meth c D (tysW cI cJ cO) N0 cL_does 5 RL (some .int) "does" := C
  refine go_iload_n C 1 dL_does_0 rfl rfl ?_
  refine go_if_ne C (tgt := 13) dL_does_1 (by decide) (fun c_1 => ?_) (fun c_1 => absurd c_1 (by decide))
  refine go_iload_n C 1 dL_does_13 rfl rfl ?_
  refine go_iconst C (v := 1) dL_does_14 (by decide) ?_
  refine go_icmp_ne C (tgt := 27) dL_does_15 (by decide) (fun c_2 => ?_) (fun c_2 => absurd c_2 (by decide))
  refine go_iload_n C 1 dL_does_27 rfl rfl ?_
  refine go_iconst C (v := 2) dL_does_28 (by decide) ?_
  refine go_icmp_ne C (tgt := 40) dL_does_29 (by decide) (fun c_3 => ?_) (fun c_3 => absurd c_3 (by decide))
  refine go_iload_n C 1 dL_does_40 rfl rfl ?_
  refine go_iconst C (v := 3) dL_does_41 (by decide) ?_
  refine go_icmp_ne C (tgt := 53) dL_does_42 (by decide) (fun c_4 => ?_) (fun c_4 => absurd c_4 (by decide))
  refine go_iload_n C 1 dL_does_53 rfl rfl ?_
  refine go_iconst C (v := 4) dL_does_54 (by decide) ?_
  refine go_icmp_ne C (tgt := 67) dL_does_55 (by decide) (fun c_5 => ?_) (fun c_5 => absurd c_5 (by decide))
  refine go_iload_n C 1 dL_does_67 rfl rfl ?_
  refine go_iconst C (v := 5) dL_does_68 (by decide) ?_
  refine go_icmp_ne C (tgt := 81) dL_does_69 (by decide) (fun c_6 => ?_) (fun c_6 => absurd c_6 (by decide))
  refine go_iload_n C 1 dL_does_81 rfl rfl ?_
  refine go_bipush C (v := 6) dL_does_82 (by decide) ?_
  refine go_icmp_ne C (tgt := 95) dL_does_84 (by decide) (fun c_7 => absurd c_7 (by decide)) (fun c_7 => ?_)
  refine go_aload_n C 0 dL_does_87 rfl rfl ?_
  refine go_iload_n C 2 dL_does_88 rfl rfl ?_
  refine k_RL_59 C hlf S M ov z hok ⟨(Nat.le_of_ble_eq_true rfl), (Nat.le_of_ble_eq_true rfl)⟩ ⟨(Nat.le_of_ble_eq_true rfl), (Nat.le_of_ble_eq_true rfl)⟩ (Nat.le_of_ble_eq_true rfl) dL_does_89 (fun E hE => ?_) (fun h9 => ?_)
  · obtain ⟨hk, rfl⟩ := hE
    rcases lgC_r _ _ with hc | hc | hc
    · exact absurd hc hk
    · rw [hc]
      refine gox_catch C (E := nb_I) [] ⟨0, 129, 130, 71⟩ [⟨0, 129, 135, 73⟩, ⟨0, 129, 140, 75⟩] ht (fun z9 hz9 => (List.not_mem_nil hz9).elim) (by decide) (by decide) bcl_RL_71 mem_I (fun q9 => ?_)
      refine go_astore C (lo' := [(4, .ref q9), (0, .ref (a 0)), (1, .int 6), (2, .int z), (3, .int z9)]) dL_does_130 (by decide) rfl ?_
      refine go_bipush C (v := (-11)) dL_does_132 (by decide) ?_
      exact go_x (go_ireturn C rfl dL_does_134 (by decide) (by decide) (Or.inr ⟨by decide, rfl, rfl⟩))
    · rw [hc]
      refine gox_catch C (E := nb_S) [⟨0, 129, 130, 71⟩, ⟨0, 129, 135, 73⟩] ⟨0, 129, 140, 75⟩ [] ht (pl_all2 (Or.inr ⟨by decide, nb_I, bcl_RL_71, List.mem_of_getElem? (i := 1) rfl⟩) (Or.inr ⟨by decide, nb_A, bcl_RL_73, List.mem_of_getElem? (i := 3) rfl⟩)) (by decide) (by decide) bcl_RL_75 mem_S (fun q9 => ?_)
      refine go_astore C (lo' := [(4, .ref q9), (0, .ref (a 0)), (1, .int 6), (2, .int z), (3, .int z9)]) dL_does_140 (by decide) rfl ?_
      refine go_bipush C (v := (-13)) dL_does_142 (by decide) ?_
      exact go_x (go_ireturn C rfl dL_does_144 (by decide) (by decide) (Or.inr ⟨by decide, rfl, rfl⟩))
  · refine go_goto C (tgt := 129) dL_does_92 (by decide) ?_
    exact go_x (go_ireturn C rfl dL_does_129 (by decide) (by decide) (Or.inl ⟨h9, rfl, rfl⟩))
theorem k_RL_81_6 {p : Program} {l : Launch} {e : Env} {R : Room} {s : State} {m : MethodId} {args : Array Value} {below : List Frame} {meth : Method} {c : Code} {D : va_G} {N0 mL : Nat} {cc : ByteArray} {nm : String} {ret : Option FieldType} {Q : State → Prop} {k n pc : Nat} {lo : List (Nat × Value)} {st : List Value} {cI cJ cO : ClassId} {a : Nat → Nat} (C : Cxt p s m args meth c D (tysW cI cJ cO) N0 cc mL RL ret nm) (hlf : l.stackTraces = false) (S : CS) (M : LWS) (ov : va_W) (z : Int32) (z9 : Int32) (hok : okX S) (hR : 8 + 1 ≤ R.frames ∧ 8 + (5 + 11) + 126 ≤ R.locals) (hcs : k + 2 ≤ R.cells ∧ n + 12 ≤ R.slots) (hcat : (st.map fun v => v.category).sum ≤ 8) (dk : decode cc pc = .ok (.invokestatic 81, 3)) (g0 : (lgC S z = 0) → Go p l e R s m args below meth c D N0 mL Q (wW cI cJ cO a (lgS S z) M ov) (k + 2) (n + 12) (pc + 3) lo (.int (lgV S z) :: st)) (g1 : (¬ lgC S z = 0) → Go p l e R s m args below meth c D N0 mL Q (wW cI cJ cO a S M ov) (k + 2) (n + 12) (pc + 3) lo (.int (exV (lgC S z)) :: st)) : Go p l e R s m args below meth c D N0 mL Q (wW cI cJ cO a S M ov) k n pc lo (.int z9 :: .int z :: .int 6 :: .ref (a 0) :: st) :=
  go_callW C (As := [.ref (a 0), .int 6, .int z, .int z9]) (rest := st) (c_L_does_6 l hlf D cI cJ cO N0 a S M ov z z9 hok) ⟨by decide +kernel, by decide +kernel⟩ bl_RL_81 bst_yL_does bz_NoticeBookLaw bc_yL_does (show Option.map (fun d => d.parameters.length) (parseMethodDescriptor yL_does.desc) = some 4 by decide +kernel) hR hcs hcat dk (fun r w2 h => by
    rcases h with ⟨h9, rfl, rfl⟩ | ⟨h9, rfl, rfl⟩
    · exact g0 h9
    · exact g1 h9) rfl
set_option maxHeartbeats 4000000 in
set_option maxRecDepth 100000 in
theorem c_L_does_7 (l : Launch) (hlf : l.stackTraces = false) (D : va_G) (cI cJ cO : ClassId) (N0 : Nat) (a : Nat → Nat) (S : CS) (M : LWS) (ov : va_W) (z y : Int32) (hok : okX S) : CtW l D (tysW cI cJ cO) N0 yL_does cL_does 5 (some .int) [(0, 129, 130, 71), (0, 129, 135, 73), (0, 129, 140, 75)] { frames := 8, cells := 3, slots := 18, locals := 128 } [.ref (a 0), .int 7, .int z, .int y] (wW cI cJ cO a S M ov) (fun r w2 => (joC S z y = 0 ∧ r = some (.int (lr_pr (cs_lt (joS S (Int32.toNatClampNeg z) (Int32.toNatClampNeg y)) (Int32.toNatClampNeg z)))) ∧ w2 = wW cI cJ cO a (joS S (Int32.toNatClampNeg z) (Int32.toNatClampNeg y)) M ov) ∨ (¬ joC S z y = 0 ∧ r = some (.int (exV (joC S z y))) ∧ w2 = wW cI cJ cO a S M ov)) := by
  refine ctw_of (by decide +kernel) (Nat.le_of_ble_eq_true rfl) ?_
  intro p e s m args below meth c C ht
  have C : Cxt p s m args meth c D (tysW cI cJ cO) N0 cL_does 5 RL (some .int) "does" := C
  refine go_iload_n C 1 dL_does_0 rfl rfl ?_
  refine go_if_ne C (tgt := 13) dL_does_1 (by decide) (fun c_1 => ?_) (fun c_1 => absurd c_1 (by decide))
  refine go_iload_n C 1 dL_does_13 rfl rfl ?_
  refine go_iconst C (v := 1) dL_does_14 (by decide) ?_
  refine go_icmp_ne C (tgt := 27) dL_does_15 (by decide) (fun c_2 => ?_) (fun c_2 => absurd c_2 (by decide))
  refine go_iload_n C 1 dL_does_27 rfl rfl ?_
  refine go_iconst C (v := 2) dL_does_28 (by decide) ?_
  refine go_icmp_ne C (tgt := 40) dL_does_29 (by decide) (fun c_3 => ?_) (fun c_3 => absurd c_3 (by decide))
  refine go_iload_n C 1 dL_does_40 rfl rfl ?_
  refine go_iconst C (v := 3) dL_does_41 (by decide) ?_
  refine go_icmp_ne C (tgt := 53) dL_does_42 (by decide) (fun c_4 => ?_) (fun c_4 => absurd c_4 (by decide))
  refine go_iload_n C 1 dL_does_53 rfl rfl ?_
  refine go_iconst C (v := 4) dL_does_54 (by decide) ?_
  refine go_icmp_ne C (tgt := 67) dL_does_55 (by decide) (fun c_5 => ?_) (fun c_5 => absurd c_5 (by decide))
  refine go_iload_n C 1 dL_does_67 rfl rfl ?_
  refine go_iconst C (v := 5) dL_does_68 (by decide) ?_
  refine go_icmp_ne C (tgt := 81) dL_does_69 (by decide) (fun c_6 => ?_) (fun c_6 => absurd c_6 (by decide))
  refine go_iload_n C 1 dL_does_81 rfl rfl ?_
  refine go_bipush C (v := 6) dL_does_82 (by decide) ?_
  refine go_icmp_ne C (tgt := 95) dL_does_84 (by decide) (fun c_7 => ?_) (fun c_7 => absurd c_7 (by decide))
  refine go_iload_n C 1 dL_does_95 rfl rfl ?_
  refine go_bipush C (v := 7) dL_does_96 (by decide) ?_
  refine go_icmp_ne C (tgt := 110) dL_does_98 (by decide) (fun c_8 => absurd c_8 (by decide)) (fun c_8 => ?_)
  refine go_aload_n C 0 dL_does_101 rfl rfl ?_
  refine go_iload_n C 2 dL_does_102 rfl rfl ?_
  refine go_iload_n C 3 dL_does_103 rfl rfl ?_
  refine k_RL_62 C hlf S M ov z y hok ⟨(Nat.le_of_ble_eq_true rfl), (Nat.le_of_ble_eq_true rfl)⟩ ⟨(Nat.le_of_ble_eq_true rfl), (Nat.le_of_ble_eq_true rfl)⟩ (Nat.le_of_ble_eq_true rfl) dL_does_104 (fun E hE => ?_) (fun h9 => ?_)
  · obtain ⟨hk, rfl⟩ := hE
    rcases joC_r _ _ _ with hc | hc | hc | hc
    · exact absurd hc hk
    · rw [hc]
      refine gox_catch C (E := nb_I) [] ⟨0, 129, 130, 71⟩ [⟨0, 129, 135, 73⟩, ⟨0, 129, 140, 75⟩] ht (fun z9 hz9 => (List.not_mem_nil hz9).elim) (by decide) (by decide) bcl_RL_71 mem_I (fun q9 => ?_)
      refine go_astore C (lo' := [(4, .ref q9), (0, .ref (a 0)), (1, .int 7), (2, .int z), (3, .int y)]) dL_does_130 (by decide) rfl ?_
      refine go_bipush C (v := (-11)) dL_does_132 (by decide) ?_
      exact go_x (go_ireturn C rfl dL_does_134 (by decide) (by decide) (Or.inr ⟨by decide, rfl, rfl⟩))
    · rw [hc]
      refine gox_catch C (E := nb_A) [⟨0, 129, 130, 71⟩] ⟨0, 129, 135, 73⟩ [⟨0, 129, 140, 75⟩] ht (pl_all1 (Or.inr ⟨by decide, nb_I, bcl_RL_71, List.mem_of_getElem? (i := 0) rfl⟩)) (by decide) (by decide) bcl_RL_73 mem_A (fun q9 => ?_)
      refine go_astore C (lo' := [(4, .ref q9), (0, .ref (a 0)), (1, .int 7), (2, .int z), (3, .int y)]) dL_does_135 (by decide) rfl ?_
      refine go_bipush C (v := (-12)) dL_does_137 (by decide) ?_
      exact go_x (go_ireturn C rfl dL_does_139 (by decide) (by decide) (Or.inr ⟨by decide, rfl, rfl⟩))
    · rw [hc]
      refine gox_catch C (E := nb_S) [⟨0, 129, 130, 71⟩, ⟨0, 129, 135, 73⟩] ⟨0, 129, 140, 75⟩ [] ht (pl_all2 (Or.inr ⟨by decide, nb_I, bcl_RL_71, List.mem_of_getElem? (i := 1) rfl⟩) (Or.inr ⟨by decide, nb_A, bcl_RL_73, List.mem_of_getElem? (i := 3) rfl⟩)) (by decide) (by decide) bcl_RL_75 mem_S (fun q9 => ?_)
      refine go_astore C (lo' := [(4, .ref q9), (0, .ref (a 0)), (1, .int 7), (2, .int z), (3, .int y)]) dL_does_140 (by decide) rfl ?_
      refine go_bipush C (v := (-13)) dL_does_142 (by decide) ?_
      exact go_x (go_ireturn C rfl dL_does_144 (by decide) (by decide) (Or.inr ⟨by decide, rfl, rfl⟩))
  · refine go_goto C (tgt := 129) dL_does_107 (by decide) ?_
    exact go_x (go_ireturn C rfl dL_does_129 (by decide) (by decide) (Or.inl ⟨h9, rfl, rfl⟩))
theorem k_RL_81_7 {p : Program} {l : Launch} {e : Env} {R : Room} {s : State} {m : MethodId} {args : Array Value} {below : List Frame} {meth : Method} {c : Code} {D : va_G} {N0 mL : Nat} {cc : ByteArray} {nm : String} {ret : Option FieldType} {Q : State → Prop} {k n pc : Nat} {lo : List (Nat × Value)} {st : List Value} {cI cJ cO : ClassId} {a : Nat → Nat} (C : Cxt p s m args meth c D (tysW cI cJ cO) N0 cc mL RL ret nm) (hlf : l.stackTraces = false) (S : CS) (M : LWS) (ov : va_W) (z y : Int32) (hok : okX S) (hR : 8 + 1 ≤ R.frames ∧ 8 + (5 + 11) + 128 ≤ R.locals) (hcs : k + 3 ≤ R.cells ∧ n + 18 ≤ R.slots) (hcat : (st.map fun v => v.category).sum ≤ 8) (dk : decode cc pc = .ok (.invokestatic 81, 3)) (g0 : (joC S z y = 0) → Go p l e R s m args below meth c D N0 mL Q (wW cI cJ cO a (joS S (Int32.toNatClampNeg z) (Int32.toNatClampNeg y)) M ov) (k + 3) (n + 18) (pc + 3) lo (.int (lr_pr (cs_lt (joS S (Int32.toNatClampNeg z) (Int32.toNatClampNeg y)) (Int32.toNatClampNeg z))) :: st)) (g1 : (¬ joC S z y = 0) → Go p l e R s m args below meth c D N0 mL Q (wW cI cJ cO a S M ov) (k + 3) (n + 18) (pc + 3) lo (.int (exV (joC S z y)) :: st)) : Go p l e R s m args below meth c D N0 mL Q (wW cI cJ cO a S M ov) k n pc lo (.int y :: .int z :: .int 7 :: .ref (a 0) :: st) :=
  go_callW C (As := [.ref (a 0), .int 7, .int z, .int y]) (rest := st) (c_L_does_7 l hlf D cI cJ cO N0 a S M ov z y hok) ⟨by decide +kernel, by decide +kernel⟩ bl_RL_81 bst_yL_does bz_NoticeBookLaw bc_yL_does (show Option.map (fun d => d.parameters.length) (parseMethodDescriptor yL_does.desc) = some 4 by decide +kernel) hR hcs hcat dk (fun r w2 h => by
    rcases h with ⟨h9, rfl, rfl⟩ | ⟨h9, rfl, rfl⟩
    · exact g0 h9
    · exact g1 h9) rfl
set_option maxHeartbeats 4000000 in
set_option maxRecDepth 100000 in
theorem c_L_does_8 (l : Launch) (hlf : l.stackTraces = false) (D : va_G) (cI cJ cO : ClassId) (N0 : Nat) (a : Nat → Nat) (S : CS) (M : LWS) (ov : va_W) (z : Int32) (z9 : Int32) (hok : okX S) : CtW l D (tysW cI cJ cO) N0 yL_does cL_does 5 (some .int) [(0, 129, 130, 71), (0, 129, 135, 73), (0, 129, 140, 75)] { frames := 8, cells := 1, slots := 6, locals := 125 } [.ref (a 0), .int 8, .int z, .int z9] (wW cI cJ cO a S M ov) (fun r w2 => (lotC S z = 0 ∧ r = some (.int (lr_pr (cs_lt S (Int32.toNatClampNeg z)))) ∧ w2 = wW cI cJ cO a S M ov) ∨ (¬ lotC S z = 0 ∧ r = some (.int (exV (lotC S z))) ∧ w2 = wW cI cJ cO a S M ov)) := by
  refine ctw_of (by decide +kernel) (Nat.le_of_ble_eq_true rfl) ?_
  intro p e s m args below meth c C ht
  have C : Cxt p s m args meth c D (tysW cI cJ cO) N0 cL_does 5 RL (some .int) "does" := C
  refine go_iload_n C 1 dL_does_0 rfl rfl ?_
  refine go_if_ne C (tgt := 13) dL_does_1 (by decide) (fun c_1 => ?_) (fun c_1 => absurd c_1 (by decide))
  refine go_iload_n C 1 dL_does_13 rfl rfl ?_
  refine go_iconst C (v := 1) dL_does_14 (by decide) ?_
  refine go_icmp_ne C (tgt := 27) dL_does_15 (by decide) (fun c_2 => ?_) (fun c_2 => absurd c_2 (by decide))
  refine go_iload_n C 1 dL_does_27 rfl rfl ?_
  refine go_iconst C (v := 2) dL_does_28 (by decide) ?_
  refine go_icmp_ne C (tgt := 40) dL_does_29 (by decide) (fun c_3 => ?_) (fun c_3 => absurd c_3 (by decide))
  refine go_iload_n C 1 dL_does_40 rfl rfl ?_
  refine go_iconst C (v := 3) dL_does_41 (by decide) ?_
  refine go_icmp_ne C (tgt := 53) dL_does_42 (by decide) (fun c_4 => ?_) (fun c_4 => absurd c_4 (by decide))
  refine go_iload_n C 1 dL_does_53 rfl rfl ?_
  refine go_iconst C (v := 4) dL_does_54 (by decide) ?_
  refine go_icmp_ne C (tgt := 67) dL_does_55 (by decide) (fun c_5 => ?_) (fun c_5 => absurd c_5 (by decide))
  refine go_iload_n C 1 dL_does_67 rfl rfl ?_
  refine go_iconst C (v := 5) dL_does_68 (by decide) ?_
  refine go_icmp_ne C (tgt := 81) dL_does_69 (by decide) (fun c_6 => ?_) (fun c_6 => absurd c_6 (by decide))
  refine go_iload_n C 1 dL_does_81 rfl rfl ?_
  refine go_bipush C (v := 6) dL_does_82 (by decide) ?_
  refine go_icmp_ne C (tgt := 95) dL_does_84 (by decide) (fun c_7 => ?_) (fun c_7 => absurd c_7 (by decide))
  refine go_iload_n C 1 dL_does_95 rfl rfl ?_
  refine go_bipush C (v := 7) dL_does_96 (by decide) ?_
  refine go_icmp_ne C (tgt := 110) dL_does_98 (by decide) (fun c_8 => ?_) (fun c_8 => absurd c_8 (by decide))
  refine go_iload_n C 1 dL_does_110 rfl rfl ?_
  refine go_bipush C (v := 8) dL_does_111 (by decide) ?_
  refine go_icmp_ne C (tgt := 124) dL_does_113 (by decide) (fun c_9 => absurd c_9 (by decide)) (fun c_9 => ?_)
  refine go_aload_n C 0 dL_does_116 rfl rfl ?_
  refine go_iload_n C 2 dL_does_117 rfl rfl ?_
  refine k_RL_65 C hlf S M ov z hok ⟨(Nat.le_of_ble_eq_true rfl), (Nat.le_of_ble_eq_true rfl)⟩ ⟨(Nat.le_of_ble_eq_true rfl), (Nat.le_of_ble_eq_true rfl)⟩ (Nat.le_of_ble_eq_true rfl) dL_does_118 (fun E hE => ?_) (fun h9 => ?_)
  · obtain ⟨hk, rfl⟩ := hE
    rcases lotC_r _ _ with hc | hc
    · exact absurd hc hk
    · rw [hc]
      refine gox_catch C (E := nb_I) [] ⟨0, 129, 130, 71⟩ [⟨0, 129, 135, 73⟩, ⟨0, 129, 140, 75⟩] ht (fun z9 hz9 => (List.not_mem_nil hz9).elim) (by decide) (by decide) bcl_RL_71 mem_I (fun q9 => ?_)
      refine go_astore C (lo' := [(4, .ref q9), (0, .ref (a 0)), (1, .int 8), (2, .int z), (3, .int z9)]) dL_does_130 (by decide) rfl ?_
      refine go_bipush C (v := (-11)) dL_does_132 (by decide) ?_
      exact go_x (go_ireturn C rfl dL_does_134 (by decide) (by decide) (Or.inr ⟨by decide, rfl, rfl⟩))
  · refine go_goto C (tgt := 129) dL_does_121 (by decide) ?_
    exact go_x (go_ireturn C rfl dL_does_129 (by decide) (by decide) (Or.inl ⟨h9, rfl, rfl⟩))
theorem k_RL_81_8 {p : Program} {l : Launch} {e : Env} {R : Room} {s : State} {m : MethodId} {args : Array Value} {below : List Frame} {meth : Method} {c : Code} {D : va_G} {N0 mL : Nat} {cc : ByteArray} {nm : String} {ret : Option FieldType} {Q : State → Prop} {k n pc : Nat} {lo : List (Nat × Value)} {st : List Value} {cI cJ cO : ClassId} {a : Nat → Nat} (C : Cxt p s m args meth c D (tysW cI cJ cO) N0 cc mL RL ret nm) (hlf : l.stackTraces = false) (S : CS) (M : LWS) (ov : va_W) (z : Int32) (z9 : Int32) (hok : okX S) (hR : 8 + 1 ≤ R.frames ∧ 8 + (5 + 11) + 125 ≤ R.locals) (hcs : k + 1 ≤ R.cells ∧ n + 6 ≤ R.slots) (hcat : (st.map fun v => v.category).sum ≤ 8) (dk : decode cc pc = .ok (.invokestatic 81, 3)) (g0 : (lotC S z = 0) → Go p l e R s m args below meth c D N0 mL Q (wW cI cJ cO a S M ov) (k + 1) (n + 6) (pc + 3) lo (.int (lr_pr (cs_lt S (Int32.toNatClampNeg z))) :: st)) (g1 : (¬ lotC S z = 0) → Go p l e R s m args below meth c D N0 mL Q (wW cI cJ cO a S M ov) (k + 1) (n + 6) (pc + 3) lo (.int (exV (lotC S z)) :: st)) : Go p l e R s m args below meth c D N0 mL Q (wW cI cJ cO a S M ov) k n pc lo (.int z9 :: .int z :: .int 8 :: .ref (a 0) :: st) :=
  go_callW C (As := [.ref (a 0), .int 8, .int z, .int z9]) (rest := st) (c_L_does_8 l hlf D cI cJ cO N0 a S M ov z z9 hok) ⟨by decide +kernel, by decide +kernel⟩ bl_RL_81 bst_yL_does bz_NoticeBookLaw bc_yL_does (show Option.map (fun d => d.parameters.length) (parseMethodDescriptor yL_does.desc) = some 4 by decide +kernel) hR hcs hcat dk (fun r w2 h => by
    rcases h with ⟨h9, rfl, rfl⟩ | ⟨h9, rfl, rfl⟩
    · exact g0 h9
    · exact g1 h9) rfl
set_option maxHeartbeats 4000000 in
set_option maxRecDepth 100000 in
theorem c_L_does_9 (l : Launch) (hlf : l.stackTraces = false) (D : va_G) (cI cJ cO : ClassId) (N0 : Nat) (a : Nat → Nat) (S : CS) (M : LWS) (ov : va_W) (z : Int32) (z9 : Int32) (hok : okX S) : CtW l D (tysW cI cJ cO) N0 yL_does cL_does 5 (some .int) [(0, 129, 130, 71), (0, 129, 135, 73), (0, 129, 140, 75)] { frames := 8, cells := 1, slots := 6, locals := 125 } [.ref (a 0), .int 9, .int z, .int z9] (wW cI cJ cO a S M ov) (fun r w2 => (lotC S z = 0 ∧ r = some (.int (lr_en (cs_lt S (Int32.toNatClampNeg z)))) ∧ w2 = wW cI cJ cO a S M ov) ∨ (¬ lotC S z = 0 ∧ r = some (.int (exV (lotC S z))) ∧ w2 = wW cI cJ cO a S M ov)) := by
  refine ctw_of (by decide +kernel) (Nat.le_of_ble_eq_true rfl) ?_
  intro p e s m args below meth c C ht
  have C : Cxt p s m args meth c D (tysW cI cJ cO) N0 cL_does 5 RL (some .int) "does" := C
  refine go_iload_n C 1 dL_does_0 rfl rfl ?_
  refine go_if_ne C (tgt := 13) dL_does_1 (by decide) (fun c_1 => ?_) (fun c_1 => absurd c_1 (by decide))
  refine go_iload_n C 1 dL_does_13 rfl rfl ?_
  refine go_iconst C (v := 1) dL_does_14 (by decide) ?_
  refine go_icmp_ne C (tgt := 27) dL_does_15 (by decide) (fun c_2 => ?_) (fun c_2 => absurd c_2 (by decide))
  refine go_iload_n C 1 dL_does_27 rfl rfl ?_
  refine go_iconst C (v := 2) dL_does_28 (by decide) ?_
  refine go_icmp_ne C (tgt := 40) dL_does_29 (by decide) (fun c_3 => ?_) (fun c_3 => absurd c_3 (by decide))
  refine go_iload_n C 1 dL_does_40 rfl rfl ?_
  refine go_iconst C (v := 3) dL_does_41 (by decide) ?_
  refine go_icmp_ne C (tgt := 53) dL_does_42 (by decide) (fun c_4 => ?_) (fun c_4 => absurd c_4 (by decide))
  refine go_iload_n C 1 dL_does_53 rfl rfl ?_
  refine go_iconst C (v := 4) dL_does_54 (by decide) ?_
  refine go_icmp_ne C (tgt := 67) dL_does_55 (by decide) (fun c_5 => ?_) (fun c_5 => absurd c_5 (by decide))
  refine go_iload_n C 1 dL_does_67 rfl rfl ?_
  refine go_iconst C (v := 5) dL_does_68 (by decide) ?_
  refine go_icmp_ne C (tgt := 81) dL_does_69 (by decide) (fun c_6 => ?_) (fun c_6 => absurd c_6 (by decide))
  refine go_iload_n C 1 dL_does_81 rfl rfl ?_
  refine go_bipush C (v := 6) dL_does_82 (by decide) ?_
  refine go_icmp_ne C (tgt := 95) dL_does_84 (by decide) (fun c_7 => ?_) (fun c_7 => absurd c_7 (by decide))
  refine go_iload_n C 1 dL_does_95 rfl rfl ?_
  refine go_bipush C (v := 7) dL_does_96 (by decide) ?_
  refine go_icmp_ne C (tgt := 110) dL_does_98 (by decide) (fun c_8 => ?_) (fun c_8 => absurd c_8 (by decide))
  refine go_iload_n C 1 dL_does_110 rfl rfl ?_
  refine go_bipush C (v := 8) dL_does_111 (by decide) ?_
  refine go_icmp_ne C (tgt := 124) dL_does_113 (by decide) (fun c_9 => ?_) (fun c_9 => absurd c_9 (by decide))
  refine go_aload_n C 0 dL_does_124 rfl rfl ?_
  refine go_iload_n C 2 dL_does_125 rfl rfl ?_
  refine k_RL_68 C hlf S M ov z hok ⟨(Nat.le_of_ble_eq_true rfl), (Nat.le_of_ble_eq_true rfl)⟩ ⟨(Nat.le_of_ble_eq_true rfl), (Nat.le_of_ble_eq_true rfl)⟩ (Nat.le_of_ble_eq_true rfl) dL_does_126 (fun E hE => ?_) (fun h9 => ?_)
  · obtain ⟨hk, rfl⟩ := hE
    rcases lotC_r _ _ with hc | hc
    · exact absurd hc hk
    · rw [hc]
      refine gox_catch C (E := nb_I) [] ⟨0, 129, 130, 71⟩ [⟨0, 129, 135, 73⟩, ⟨0, 129, 140, 75⟩] ht (fun z9 hz9 => (List.not_mem_nil hz9).elim) (by decide) (by decide) bcl_RL_71 mem_I (fun q9 => ?_)
      refine go_astore C (lo' := [(4, .ref q9), (0, .ref (a 0)), (1, .int 9), (2, .int z), (3, .int z9)]) dL_does_130 (by decide) rfl ?_
      refine go_bipush C (v := (-11)) dL_does_132 (by decide) ?_
      exact go_x (go_ireturn C rfl dL_does_134 (by decide) (by decide) (Or.inr ⟨by decide, rfl, rfl⟩))
  · exact go_x (go_ireturn C rfl dL_does_129 (by decide) (by decide) (Or.inl ⟨h9, rfl, rfl⟩))
theorem k_RL_81_9 {p : Program} {l : Launch} {e : Env} {R : Room} {s : State} {m : MethodId} {args : Array Value} {below : List Frame} {meth : Method} {c : Code} {D : va_G} {N0 mL : Nat} {cc : ByteArray} {nm : String} {ret : Option FieldType} {Q : State → Prop} {k n pc : Nat} {lo : List (Nat × Value)} {st : List Value} {cI cJ cO : ClassId} {a : Nat → Nat} (C : Cxt p s m args meth c D (tysW cI cJ cO) N0 cc mL RL ret nm) (hlf : l.stackTraces = false) (S : CS) (M : LWS) (ov : va_W) (z : Int32) (z9 : Int32) (hok : okX S) (hR : 8 + 1 ≤ R.frames ∧ 8 + (5 + 11) + 125 ≤ R.locals) (hcs : k + 1 ≤ R.cells ∧ n + 6 ≤ R.slots) (hcat : (st.map fun v => v.category).sum ≤ 8) (dk : decode cc pc = .ok (.invokestatic 81, 3)) (g0 : (lotC S z = 0) → Go p l e R s m args below meth c D N0 mL Q (wW cI cJ cO a S M ov) (k + 1) (n + 6) (pc + 3) lo (.int (lr_en (cs_lt S (Int32.toNatClampNeg z))) :: st)) (g1 : (¬ lotC S z = 0) → Go p l e R s m args below meth c D N0 mL Q (wW cI cJ cO a S M ov) (k + 1) (n + 6) (pc + 3) lo (.int (exV (lotC S z)) :: st)) : Go p l e R s m args below meth c D N0 mL Q (wW cI cJ cO a S M ov) k n pc lo (.int z9 :: .int z :: .int 9 :: .ref (a 0) :: st) :=
  go_callW C (As := [.ref (a 0), .int 9, .int z, .int z9]) (rest := st) (c_L_does_9 l hlf D cI cJ cO N0 a S M ov z z9 hok) ⟨by decide +kernel, by decide +kernel⟩ bl_RL_81 bst_yL_does bz_NoticeBookLaw bc_yL_does (show Option.map (fun d => d.parameters.length) (parseMethodDescriptor yL_does.desc) = some 4 by decide +kernel) hR hcs hcat dk (fun r w2 h => by
    rcases h with ⟨h9, rfl, rfl⟩ | ⟨h9, rfl, rfl⟩
    · exact g0 h9
    · exact g1 h9) rfl
