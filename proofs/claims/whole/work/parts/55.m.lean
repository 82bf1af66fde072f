set_option maxHeartbeats 4000000 in
set_option maxRecDepth 100000 in
theorem c_X2_principal (l : Launch) (D : va_G) (cI cJ cZ cO : ClassId) (N0 : Nat) (a : Nat → Nat) (S : CS) (M : MS) (ov : Nat → Int64) (z : Int32) (hok : okM M) : Ct l D (tysW cI cJ cZ cO) N0 yX2_principal cX2_principal 2 (some .int) { frames := 3, cells := 0, slots := 0, locals := 64 } [.ref (a 5), .int z] (wW cI cJ cZ cO a S M ov) (fun r w2 => (kAs M z = 0 ∧ r = some (.int (ms_pr M (Int32.toNatClampNeg z))) ∧ w2 = wW cI cJ cZ cO a S (mT0 M) ov) ∨ (¬ kAs M z = 0 ∧ r = some (.int 0) ∧ w2 = wW cI cJ cZ cO a S (ms_set_thr M (kAs M z)) ov)) := by
  refine ct_of (by decide +kernel) (Nat.le_of_ble_eq_true rfl) ?_
  intro p e s m args below meth c C
  have C : Cxt p s m args meth c D (tysW cI cJ cZ cO) N0 cX2_principal 2 RX2 (some .int) "principal" := C
  refine go_aload_n C 0 dX2_principal_0 rfl rfl ?_
  refine go_iload_n C 1 dX2_principal_1 rfl rfl ?_
  refine k_RX2_149 C S M ov z hok ⟨(Nat.le_of_ble_eq_true rfl), (Nat.le_of_ble_eq_true rfl)⟩ ⟨(Nat.le_of_ble_eq_true rfl), (Nat.le_of_ble_eq_true rfl)⟩ (Nat.le_of_ble_eq_true rfl) dX2_principal_2 (fun h_1 => ?_) (fun h_1 => ?_)
  · refine go_if_eq C (tgt := 17) dX2_principal_5 (by decide) (fun c_2 => absurd c_2 (by decide)) (fun c_2 => ?_)
    refine go_aload_n C 0 dX2_principal_8 rfl rfl ?_
    refine gm_principals C dX2_principal_9 ?_
    refine go_iload_n C 1 dX2_principal_12 rfl rfl ?_
    refine lm_principals C (mLo_in hok (kAs_in h_1)).2.1 dX2_principal_13 ?_
    refine go_goto C (tgt := 18) dX2_principal_14 (by decide) ?_
    exact go_ireturn C rfl dX2_principal_18 (by decide) (by decide) (Or.inl ⟨h_1, rfl, rfl⟩)
  · refine go_if_eq C (tgt := 17) dX2_principal_5 (by decide) (fun c_3 => ?_) (fun c_3 => absurd c_3 (by decide))
    refine go_iconst C (v := 0) dX2_principal_17 (by decide) ?_
    exact go_ireturn C rfl dX2_principal_18 (by decide) (by decide) (Or.inr ⟨h_1, rfl, rfl⟩)
theorem k_RL_146 {p : Program} {l : Launch} {e : Env} {R : Room} {s : State} {m : MethodId} {args : Array Value} {below : List Frame} {meth : Method} {c : Code} {D : va_G} {N0 mL : Nat} {cc : ByteArray} {nm : String} {ret : Option FieldType} {Q : State → Prop} {k n pc : Nat} {lo : List (Nat × Value)} {st : List Value} {cI cJ cZ cO : ClassId} {a : Nat → Nat} (C : Cxt p s m args meth c D (tysW cI cJ cZ cO) N0 cc mL RL ret nm) (S : CS) (M : MS) (ov : Nat → Int64) (z : Int32) (hok : okM M) (hR : 3 + 1 ≤ R.frames ∧ 8 + (2 + 11) + 64 ≤ R.locals) (hcs : k + 0 ≤ R.cells ∧ n + 0 ≤ R.slots) (hcat : (st.map fun v => v.category).sum ≤ 8) (dk : decode cc pc = .ok (.invokevirtual 146, 3)) (g0 : (kAs M z = 0) → Go p l e R s m args below meth c D N0 mL Q (wW cI cJ cZ cO a S (mT0 M) ov) (k) (n) (pc + 3) lo (.int (ms_pr M (Int32.toNatClampNeg z)) :: st)) (g1 : (¬ kAs M z = 0) → Go p l e R s m args below meth c D N0 mL Q (wW cI cJ cZ cO a S (ms_set_thr M (kAs M z)) ov) (k) (n) (pc + 3) lo (.int 0 :: st)) : Go p l e R s m args below meth c D N0 mL Q (wW cI cJ cZ cO a S M ov) k n pc lo (.int z :: .ref (a 5) :: st) :=
  go_callV C (ci := 2) (r9 := (RX2, TX2, 23)) (qi := 5) (As := [.int z]) (rest := st) rfl rfl (c_X2_principal l D cI cJ cZ cO N0 a S M ov z hok) ⟨rfl, by decide +kernel, by decide +kernel⟩ bl_RL_146 bi_yX2_principal bs_yX2_principal bz_NoticeBookModel bc_yX2_principal (show Option.map (fun d => d.parameters.length) (parseMethodDescriptor yX2_principal.desc) = some 1 by decide +kernel) hR hcs hcat dk (fun r w2 h => by
    rcases h with ⟨h9, rfl, rfl⟩ | ⟨h9, rfl, rfl⟩
    · exact g0 h9
    · exact g1 h9) rfl
set_option maxHeartbeats 4000000 in
set_option maxRecDepth 100000 in
theorem c_X2_earned (l : Launch) (D : va_G) (cI cJ cZ cO : ClassId) (N0 : Nat) (a : Nat → Nat) (S : CS) (M : MS) (ov : Nat → Int64) (z : Int32) (hok : okM M) : Ct l D (tysW cI cJ cZ cO) N0 yX2_earned cX2_earned 2 (some .long) { frames := 3, cells := 0, slots := 0, locals := 64 } [.ref (a 5), .int z] (wW cI cJ cZ cO a S M ov) (fun r w2 => (kAs M z = 0 ∧ r = some (.long (ms_ea M (Int32.toNatClampNeg z))) ∧ w2 = wW cI cJ cZ cO a S (mT0 M) ov) ∨ (¬ kAs M z = 0 ∧ r = some (.long 0) ∧ w2 = wW cI cJ cZ cO a S (ms_set_thr M (kAs M z)) ov)) := by
  refine ct_of (by decide +kernel) (Nat.le_of_ble_eq_true rfl) ?_
  intro p e s m args below meth c C
  have C : Cxt p s m args meth c D (tysW cI cJ cZ cO) N0 cX2_earned 2 RX2 (some .long) "earned" := C
  refine go_aload_n C 0 dX2_earned_0 rfl rfl ?_
  refine go_iload_n C 1 dX2_earned_1 rfl rfl ?_
  refine k_RX2_149 C S M ov z hok ⟨(Nat.le_of_ble_eq_true rfl), (Nat.le_of_ble_eq_true rfl)⟩ ⟨(Nat.le_of_ble_eq_true rfl), (Nat.le_of_ble_eq_true rfl)⟩ (Nat.le_of_ble_eq_true rfl) dX2_earned_2 (fun h_1 => ?_) (fun h_1 => ?_)
  · refine go_if_eq C (tgt := 17) dX2_earned_5 (by decide) (fun c_2 => absurd c_2 (by decide)) (fun c_2 => ?_)
    refine go_aload_n C 0 dX2_earned_8 rfl rfl ?_
    refine gm_earnings C dX2_earned_9 ?_
    refine go_iload_n C 1 dX2_earned_12 rfl rfl ?_
    refine lm_earnings C (mLo_in hok (kAs_in h_1)).2.1 dX2_earned_13 ?_
    refine go_goto C (tgt := 18) dX2_earned_14 (by decide) ?_
    exact go_lreturn C rfl dX2_earned_18 (by decide) (by decide) (Or.inl ⟨h_1, rfl, rfl⟩)
  · refine go_if_eq C (tgt := 17) dX2_earned_5 (by decide) (fun c_3 => ?_) (fun c_3 => absurd c_3 (by decide))
    refine go_lconst C (v := 0) dX2_earned_17 (by decide) ?_
    exact go_lreturn C rfl dX2_earned_18 (by decide) (by decide) (Or.inr ⟨h_1, rfl, rfl⟩)
theorem k_RL_149 {p : Program} {l : Launch} {e : Env} {R : Room} {s : State} {m : MethodId} {args : Array Value} {below : List Frame} {meth : Method} {c : Code} {D : va_G} {N0 mL : Nat} {cc : ByteArray} {nm : String} {ret : Option FieldType} {Q : State → Prop} {k n pc : Nat} {lo : List (Nat × Value)} {st : List Value} {cI cJ cZ cO : ClassId} {a : Nat → Nat} (C : Cxt p s m args meth c D (tysW cI cJ cZ cO) N0 cc mL RL ret nm) (S : CS) (M : MS) (ov : Nat → Int64) (z : Int32) (hok : okM M) (hR : 3 + 1 ≤ R.frames ∧ 8 + (2 + 11) + 64 ≤ R.locals) (hcs : k + 0 ≤ R.cells ∧ n + 0 ≤ R.slots) (hcat : (st.map fun v => v.category).sum ≤ 8) (dk : decode cc pc = .ok (.invokevirtual 149, 3)) (g0 : (kAs M z = 0) → Go p l e R s m args below meth c D N0 mL Q (wW cI cJ cZ cO a S (mT0 M) ov) (k) (n) (pc + 3) lo (.long (ms_ea M (Int32.toNatClampNeg z)) :: st)) (g1 : (¬ kAs M z = 0) → Go p l e R s m args below meth c D N0 mL Q (wW cI cJ cZ cO a S (ms_set_thr M (kAs M z)) ov) (k) (n) (pc + 3) lo (.long 0 :: st)) : Go p l e R s m args below meth c D N0 mL Q (wW cI cJ cZ cO a S M ov) k n pc lo (.int z :: .ref (a 5) :: st) :=
  go_callV C (ci := 2) (r9 := (RX2, TX2, 23)) (qi := 5) (As := [.int z]) (rest := st) rfl rfl (c_X2_earned l D cI cJ cZ cO N0 a S M ov z hok) ⟨rfl, by decide +kernel, by decide +kernel⟩ bl_RL_149 bi_yX2_earned bs_yX2_earned bz_NoticeBookModel bc_yX2_earned (show Option.map (fun d => d.parameters.length) (parseMethodDescriptor yX2_earned.desc) = some 1 by decide +kernel) hR hcs hcat dk (fun r w2 h => by
    rcases h with ⟨h9, rfl, rfl⟩ | ⟨h9, rfl, rfl⟩
    · exact g0 h9
    · exact g1 h9) rfl
set_option maxHeartbeats 4000000 in
set_option maxRecDepth 100000 in
theorem c_X2_partsOfDay (l : Launch) (D : va_G) (cI cJ cZ cO : ClassId) (N0 : Nat) (a : Nat → Nat) (S : CS) (M : MS) (ov : Nat → Int64) (z : Int32) (hok : okM M) : Ct l D (tysW cI cJ cZ cO) N0 yX2_partsOfDay cX2_partsOfDay 2 (some .long) { frames := 3, cells := 0, slots := 0, locals := 68 } [.ref (a 5), .int z] (wW cI cJ cZ cO a S M ov) (fun r w2 => (kAs M z = 0 ∧ r = some (.long (mPn M (Int32.toNatClampNeg z))) ∧ w2 = wW cI cJ cZ cO a S (mT0 M) ov) ∨ (¬ kAs M z = 0 ∧ r = some (.long 0) ∧ w2 = wW cI cJ cZ cO a S (ms_set_thr M (kAs M z)) ov)) := by
  refine ct_of (by decide +kernel) (Nat.le_of_ble_eq_true rfl) ?_
  intro p e s m args below meth c C
  have C : Cxt p s m args meth c D (tysW cI cJ cZ cO) N0 cX2_partsOfDay 2 RX2 (some .long) "partsOfDay" := C
  refine go_aload_n C 0 dX2_partsOfDay_0 rfl rfl ?_
  refine go_iload_n C 1 dX2_partsOfDay_1 rfl rfl ?_
  refine k_RX2_149 C S M ov z hok ⟨(Nat.le_of_ble_eq_true rfl), (Nat.le_of_ble_eq_true rfl)⟩ ⟨(Nat.le_of_ble_eq_true rfl), (Nat.le_of_ble_eq_true rfl)⟩ (Nat.le_of_ble_eq_true rfl) dX2_partsOfDay_2 (fun h_1 => ?_) (fun h_1 => ?_)
  · refine go_if_eq C (tgt := 16) dX2_partsOfDay_5 (by decide) (fun c_2 => absurd c_2 (by decide)) (fun c_2 => ?_)
    refine go_aload_n C 0 dX2_partsOfDay_8 rfl rfl ?_
    refine go_iload_n C 1 dX2_partsOfDay_9 rfl rfl ?_
    refine k_RX2_136 C S (mT0 M) ov z (mLo_in hok (kAs_in h_1)).2.1 hok ⟨(Nat.le_of_ble_eq_true rfl), (Nat.le_of_ble_eq_true rfl)⟩ ⟨(Nat.le_of_ble_eq_true rfl), (Nat.le_of_ble_eq_true rfl)⟩ (Nat.le_of_ble_eq_true rfl) dX2_partsOfDay_10 ?_
    refine go_goto C (tgt := 17) dX2_partsOfDay_13 (by decide) ?_
    exact go_lreturn C rfl dX2_partsOfDay_17 (by decide) (by decide) (Or.inl ⟨h_1, rfl, rfl⟩)
  · refine go_if_eq C (tgt := 16) dX2_partsOfDay_5 (by decide) (fun c_3 => ?_) (fun c_3 => absurd c_3 (by decide))
    refine go_lconst C (v := 0) dX2_partsOfDay_16 (by decide) ?_
    exact go_lreturn C rfl dX2_partsOfDay_17 (by decide) (by decide) (Or.inr ⟨h_1, rfl, rfl⟩)
theorem k_RL_152 {p : Program} {l : Launch} {e : Env} {R : Room} {s : State} {m : MethodId} {args : Array Value} {below : List Frame} {meth : Method} {c : Code} {D : va_G} {N0 mL : Nat} {cc : ByteArray} {nm : String} {ret : Option FieldType} {Q : State → Prop} {k n pc : Nat} {lo : List (Nat × Value)} {st : List Value} {cI cJ cZ cO : ClassId} {a : Nat → Nat} (C : Cxt p s m args meth c D (tysW cI cJ cZ cO) N0 cc mL RL ret nm) (S : CS) (M : MS) (ov : Nat → Int64) (z : Int32) (hok : okM M) (hR : 3 + 1 ≤ R.frames ∧ 8 + (2 + 11) + 68 ≤ R.locals) (hcs : k + 0 ≤ R.cells ∧ n + 0 ≤ R.slots) (hcat : (st.map fun v => v.category).sum ≤ 8) (dk : decode cc pc = .ok (.invokevirtual 152, 3)) (g0 : (kAs M z = 0) → Go p l e R s m args below meth c D N0 mL Q (wW cI cJ cZ cO a S (mT0 M) ov) (k) (n) (pc + 3) lo (.long (mPn M (Int32.toNatClampNeg z)) :: st)) (g1 : (¬ kAs M z = 0) → Go p l e R s m args below meth c D N0 mL Q (wW cI cJ cZ cO a S (ms_set_thr M (kAs M z)) ov) (k) (n) (pc + 3) lo (.long 0 :: st)) : Go p l e R s m args below meth c D N0 mL Q (wW cI cJ cZ cO a S M ov) k n pc lo (.int z :: .ref (a 5) :: st) :=
  go_callV C (ci := 2) (r9 := (RX2, TX2, 23)) (qi := 5) (As := [.int z]) (rest := st) rfl rfl (c_X2_partsOfDay l D cI cJ cZ cO N0 a S M ov z hok) ⟨rfl, by decide +kernel, by decide +kernel⟩ bl_RL_152 bi_yX2_partsOfDay bs_yX2_partsOfDay bz_NoticeBookModel bc_yX2_partsOfDay (show Option.map (fun d => d.parameters.length) (parseMethodDescriptor yX2_partsOfDay.desc) = some 1 by decide +kernel) hR hcs hcat dk (fun r w2 h => by
    rcases h with ⟨h9, rfl, rfl⟩ | ⟨h9, rfl, rfl⟩
    · exact g0 h9
    · exact g1 h9) rfl
set_option maxHeartbeats 4000000 in
set_option maxRecDepth 100000 in
theorem c_X2_frozen (l : Launch) (D : va_G) (cI cJ cZ cO : ClassId) (N0 : Nat) (a : Nat → Nat) (S : CS) (M : MS) (ov : Nat → Int64) (z : Int32) (hok : okM M) : Ct l D (tysW cI cJ cZ cO) N0 yX2_frozen cX2_frozen 2 (some .int) { frames := 3, cells := 0, slots := 0, locals := 64 } [.ref (a 5), .int z] (wW cI cJ cZ cO a S M ov) (fun r w2 => (kAs M z = 0 ∧ r = some (.int (if ms_te M (Int32.toNatClampNeg z) = 0 then ms_fz M (Int32.toNatClampNeg z) else 0)) ∧ w2 = wW cI cJ cZ cO a S (mT0 M) ov) ∨ (¬ kAs M z = 0 ∧ r = some (.int 0) ∧ w2 = wW cI cJ cZ cO a S (ms_set_thr M (kAs M z)) ov)) := by
  refine ct_of (by decide +kernel) (Nat.le_of_ble_eq_true rfl) ?_
  intro p e s m args below meth c C
  have C : Cxt p s m args meth c D (tysW cI cJ cZ cO) N0 cX2_frozen 2 RX2 (some .int) "frozen" := C
  refine go_aload_n C 0 dX2_frozen_0 rfl rfl ?_
  refine go_iload_n C 1 dX2_frozen_1 rfl rfl ?_
  refine k_RX2_149 C S M ov z hok ⟨(Nat.le_of_ble_eq_true rfl), (Nat.le_of_ble_eq_true rfl)⟩ ⟨(Nat.le_of_ble_eq_true rfl), (Nat.le_of_ble_eq_true rfl)⟩ (Nat.le_of_ble_eq_true rfl) dX2_frozen_2 (fun h_1 => ?_) (fun h_1 => ?_)
  · refine go_if_eq C (tgt := 26) dX2_frozen_5 (by decide) (fun c_2 => absurd c_2 (by decide)) (fun c_2 => ?_)
    refine go_aload_n C 0 dX2_frozen_8 rfl rfl ?_
    refine gm_isTerm C dX2_frozen_9 ?_
    refine go_iload_n C 1 dX2_frozen_12 rfl rfl ?_
    refine lm_isTerm C (mLo_in hok (kAs_in h_1)).2.1 dX2_frozen_13 ?_
    refine go_if_ne C (tgt := 26) dX2_frozen_14 (by decide) (fun c_3 => ?_) (fun c_3 => ?_)
    · refine go_iconst C (v := 0) dX2_frozen_26 (by decide) ?_
      exact go_ireturn C rfl dX2_frozen_27 (by decide) (by decide) (Or.inl ⟨h_1, by simp only [if_neg c_3], rfl⟩)
    · refine go_aload_n C 0 dX2_frozen_17 rfl rfl ?_
      refine gm_frozenOf C dX2_frozen_18 ?_
      refine go_iload_n C 1 dX2_frozen_21 rfl rfl ?_
      refine lm_frozenOf C (mLo_in hok (kAs_in h_1)).2.1 dX2_frozen_22 ?_
      refine go_goto C (tgt := 27) dX2_frozen_23 (by decide) ?_
      exact go_ireturn C rfl dX2_frozen_27 (by decide) (by decide) (Or.inl ⟨h_1, by simp only [if_pos c_3], rfl⟩)
  · refine go_if_eq C (tgt := 26) dX2_frozen_5 (by decide) (fun c_4 => ?_) (fun c_4 => absurd c_4 (by decide))
    refine go_iconst C (v := 0) dX2_frozen_26 (by decide) ?_
    exact go_ireturn C rfl dX2_frozen_27 (by decide) (by decide) (Or.inr ⟨h_1, rfl, rfl⟩)
theorem k_RL_155 {p : Program} {l : Launch} {e : Env} {R : Room} {s : State} {m : MethodId} {args : Array Value} {below : List Frame} {meth : Method} {c : Code} {D : va_G} {N0 mL : Nat} {cc : ByteArray} {nm : String} {ret : Option FieldType} {Q : State → Prop} {k n pc : Nat} {lo : List (Nat × Value)} {st : List Value} {cI cJ cZ cO : ClassId} {a : Nat → Nat} (C : Cxt p s m args meth c D (tysW cI cJ cZ cO) N0 cc mL RL ret nm) (S : CS) (M : MS) (ov : Nat → Int64) (z : Int32) (hok : okM M) (hR : 3 + 1 ≤ R.frames ∧ 8 + (2 + 11) + 64 ≤ R.locals) (hcs : k + 0 ≤ R.cells ∧ n + 0 ≤ R.slots) (hcat : (st.map fun v => v.category).sum ≤ 8) (dk : decode cc pc = .ok (.invokevirtual 155, 3)) (g0 : (kAs M z = 0) → Go p l e R s m args below meth c D N0 mL Q (wW cI cJ cZ cO a S (mT0 M) ov) (k) (n) (pc + 3) lo (.int (if ms_te M (Int32.toNatClampNeg z) = 0 then ms_fz M (Int32.toNatClampNeg z) else 0) :: st)) (g1 : (¬ kAs M z = 0) → Go p l e R s m args below meth c D N0 mL Q (wW cI cJ cZ cO a S (ms_set_thr M (kAs M z)) ov) (k) (n) (pc + 3) lo (.int 0 :: st)) : Go p l e R s m args below meth c D N0 mL Q (wW cI cJ cZ cO a S M ov) k n pc lo (.int z :: .ref (a 5) :: st) :=
  go_callV C (ci := 2) (r9 := (RX2, TX2, 23)) (qi := 5) (As := [.int z]) (rest := st) rfl rfl (c_X2_frozen l D cI cJ cZ cO N0 a S M ov z hok) ⟨rfl, by decide +kernel, by decide +kernel⟩ bl_RL_155 bi_yX2_frozen bs_yX2_frozen bz_NoticeBookModel bc_yX2_frozen (show Option.map (fun d => d.parameters.length) (parseMethodDescriptor yX2_frozen.desc) = some 1 by decide +kernel) hR hcs hcat dk (fun r w2 h => by
    rcases h with ⟨h9, rfl, rfl⟩ | ⟨h9, rfl, rfl⟩
    · exact g0 h9
    · exact g1 h9) rfl
set_option maxHeartbeats 4000000 in
set_option maxRecDepth 100000 in
theorem c_X2_endOf (l : Launch) (D : va_G) (cI cJ cZ cO : ClassId) (N0 : Nat) (a : Nat → Nat) (S : CS) (M : MS) (ov : Nat → Int64) (z : Int32) (hok : okM M) : Ct l D (tysW cI cJ cZ cO) N0 yX2_endOf cX2_endOf 2 (some .int) { frames := 3, cells := 0, slots := 0, locals := 64 } [.ref (a 5), .int z] (wW cI cJ cZ cO a S M ov) (fun r w2 => (kAs M z = 0 ∧ r = some (.int (if ms_te M (Int32.toNatClampNeg z) = 0 then -1 else ms_en M (Int32.toNatClampNeg z))) ∧ w2 = wW cI cJ cZ cO a S (mT0 M) ov) ∨ (¬ kAs M z = 0 ∧ r = some (.int 0) ∧ w2 = wW cI cJ cZ cO a S (ms_set_thr M (kAs M z)) ov)) := by
  refine ct_of (by decide +kernel) (Nat.le_of_ble_eq_true rfl) ?_
  intro p e s m args below meth c C
  have C : Cxt p s m args meth c D (tysW cI cJ cZ cO) N0 cX2_endOf 2 RX2 (some .int) "endOf" := C
  refine go_aload_n C 0 dX2_endOf_0 rfl rfl ?_
  refine go_iload_n C 1 dX2_endOf_1 rfl rfl ?_
  refine k_RX2_149 C S M ov z hok ⟨(Nat.le_of_ble_eq_true rfl), (Nat.le_of_ble_eq_true rfl)⟩ ⟨(Nat.le_of_ble_eq_true rfl), (Nat.le_of_ble_eq_true rfl)⟩ (Nat.le_of_ble_eq_true rfl) dX2_endOf_2 (fun h_1 => ?_) (fun h_1 => ?_)
  · refine go_if_ne C (tgt := 12) dX2_endOf_5 (by decide) (fun c_2 => ?_) (fun c_2 => absurd c_2 (by decide))
    refine go_aload_n C 0 dX2_endOf_12 rfl rfl ?_
    refine gm_isTerm C dX2_endOf_13 ?_
    refine go_iload_n C 1 dX2_endOf_16 rfl rfl ?_
    refine lm_isTerm C (mLo_in hok (kAs_in h_1)).2.1 dX2_endOf_17 ?_
    refine go_if_eq C (tgt := 30) dX2_endOf_18 (by decide) (fun c_3 => ?_) (fun c_3 => ?_)
    · refine go_iconst C (v := (-1)) dX2_endOf_30 (by decide) ?_
      exact go_ireturn C rfl dX2_endOf_31 (by decide) (by decide) (Or.inl ⟨h_1, by simp only [if_pos c_3], rfl⟩)
    · refine go_aload_n C 0 dX2_endOf_21 rfl rfl ?_
      refine gm_ends C dX2_endOf_22 ?_
      refine go_iload_n C 1 dX2_endOf_25 rfl rfl ?_
      refine lm_ends C (mLo_in hok (kAs_in h_1)).2.1 dX2_endOf_26 ?_
      refine go_goto C (tgt := 31) dX2_endOf_27 (by decide) ?_
      exact go_ireturn C rfl dX2_endOf_31 (by decide) (by decide) (Or.inl ⟨h_1, by simp only [if_neg c_3], rfl⟩)
  · refine go_if_ne C (tgt := 12) dX2_endOf_5 (by decide) (fun c_4 => absurd c_4 (by decide)) (fun c_4 => ?_)
    refine go_iconst C (v := 0) dX2_endOf_8 (by decide) ?_
    refine go_goto C (tgt := 31) dX2_endOf_9 (by decide) ?_
    exact go_ireturn C rfl dX2_endOf_31 (by decide) (by decide) (Or.inr ⟨h_1, rfl, rfl⟩)
theorem k_RL_158 {p : Program} {l : Launch} {e : Env} {R : Room} {s : State} {m : MethodId} {args : Array Value} {below : List Frame} {meth : Method} {c : Code} {D : va_G} {N0 mL : Nat} {cc : ByteArray} {nm : String} {ret : Option FieldType} {Q : State → Prop} {k n pc : Nat} {lo : List (Nat × Value)} {st : List Value} {cI cJ cZ cO : ClassId} {a : Nat → Nat} (C : Cxt p s m args meth c D (tysW cI cJ cZ cO) N0 cc mL RL ret nm) (S : CS) (M : MS) (ov : Nat → Int64) (z : Int32) (hok : okM M) (hR : 3 + 1 ≤ R.frames ∧ 8 + (2 + 11) + 64 ≤ R.locals) (hcs : k + 0 ≤ R.cells ∧ n + 0 ≤ R.slots) (hcat : (st.map fun v => v.category).sum ≤ 8) (dk : decode cc pc = .ok (.invokevirtual 158, 3)) (g0 : (kAs M z = 0) → Go p l e R s m args below meth c D N0 mL Q (wW cI cJ cZ cO a S (mT0 M) ov) (k) (n) (pc + 3) lo (.int (if ms_te M (Int32.toNatClampNeg z) = 0 then -1 else ms_en M (Int32.toNatClampNeg z)) :: st)) (g1 : (¬ kAs M z = 0) → Go p l e R s m args below meth c D N0 mL Q (wW cI cJ cZ cO a S (ms_set_thr M (kAs M z)) ov) (k) (n) (pc + 3) lo (.int 0 :: st)) : Go p l e R s m args below meth c D N0 mL Q (wW cI cJ cZ cO a S M ov) k n pc lo (.int z :: .ref (a 5) :: st) :=
  go_callV C (ci := 2) (r9 := (RX2, TX2, 23)) (qi := 5) (As := [.int z]) (rest := st) rfl rfl (c_X2_endOf l D cI cJ cZ cO N0 a S M ov z hok) ⟨rfl, by decide +kernel, by decide +kernel⟩ bl_RL_158 bi_yX2_endOf bs_yX2_endOf bz_NoticeBookModel bc_yX2_endOf (show Option.map (fun d => d.parameters.length) (parseMethodDescriptor yX2_endOf.desc) = some 1 by decide +kernel) hR hcs hcat dk (fun r w2 h => by
    rcases h with ⟨h9, rfl, rfl⟩ | ⟨h9, rfl, rfl⟩
    · exact g0 h9
    · exact g1 h9) rfl
set_option maxHeartbeats 4000000 in
set_option maxRecDepth 100000 in
theorem c_X2_today (l : Launch) (D : va_G) (cI cJ cZ cO : ClassId) (N0 : Nat) (a : Nat → Nat) (S : CS) (M : MS) (ov : Nat → Int64)  : Ct l D (tysW cI cJ cZ cO) N0 yX2_today cX2_today 1 (some .int) { frames := 0, cells := 0, slots := 0, locals := 0 } [.ref (a 5)] (wW cI cJ cZ cO a S M ov) (fun r w2 => r = some (.int (ms_now M)) ∧ w2 = wW cI cJ cZ cO a S (mT0 M) ov) := by
  refine ct_of (by decide +kernel) (Nat.le_of_ble_eq_true rfl) ?_
  intro p e s m args below meth c C
  have C : Cxt p s m args meth c D (tysW cI cJ cZ cO) N0 cX2_today 1 RX2 (some .int) "today" := C
  refine go_aload_n C 0 dX2_today_0 rfl rfl ?_
  refine go_iconst C (v := 0) dX2_today_1 (by decide) ?_
  refine pm_thrown C dX2_today_2 ?_
  refine go_aload_n C 0 dX2_today_5 rfl rfl ?_
  refine gm_now C dX2_today_6 ?_
  exact go_ireturn C rfl dX2_today_9 (by decide) (by decide) ⟨rfl, rfl⟩
theorem k_RL_139 {p : Program} {l : Launch} {e : Env} {R : Room} {s : State} {m : MethodId} {args : Array Value} {below : List Frame} {meth : Method} {c : Code} {D : va_G} {N0 mL : Nat} {cc : ByteArray} {nm : String} {ret : Option FieldType} {Q : State → Prop} {k n pc : Nat} {lo : List (Nat × Value)} {st : List Value} {cI cJ cZ cO : ClassId} {a : Nat → Nat} (C : Cxt p s m args meth c D (tysW cI cJ cZ cO) N0 cc mL RL ret nm) (S : CS) (M : MS) (ov : Nat → Int64)  (hR : 0 + 1 ≤ R.frames ∧ 8 + (1 + 11) + 0 ≤ R.locals) (hcs : k + 0 ≤ R.cells ∧ n + 0 ≤ R.slots) (hcat : (st.map fun v => v.category).sum ≤ 8) (dk : decode cc pc = .ok (.invokevirtual 139, 3)) (g : Go p l e R s m args below meth c D N0 mL Q (wW cI cJ cZ cO a S (mT0 M) ov) (k) (n) (pc + 3) lo (.int (ms_now M) :: st)) : Go p l e R s m args below meth c D N0 mL Q (wW cI cJ cZ cO a S M ov) k n pc lo (.ref (a 5) :: st) :=
  go_callV C (ci := 2) (r9 := (RX2, TX2, 23)) (qi := 5) (As := []) (rest := st) rfl rfl (c_X2_today l D cI cJ cZ cO N0 a S M ov ) ⟨rfl, by decide +kernel, by decide +kernel⟩ bl_RL_139 bi_yX2_today bs_yX2_today bz_NoticeBookModel bc_yX2_today (show Option.map (fun d => d.parameters.length) (parseMethodDescriptor yX2_today.desc) = some 0 by decide +kernel) hR hcs hcat dk (fun r w2 h => by obtain ⟨rfl, rfl⟩ := h; exact g) rfl
set_option maxHeartbeats 4000000 in
set_option maxRecDepth 100000 in
theorem c_X2_setByBands (l : Launch) (D : va_G) (cI cJ cZ cO : ClassId) (N0 : Nat) (a : Nat → Nat) (S : CS) (M : MS) (ov : Nat → Int64) (z : Int32) (hz : z = 0 ∨ z = 1) (hb : ms_bb M = 0 ∨ ms_bb M = 1) : Ct l D (tysW cI cJ cZ cO) N0 yX2_setByBands cX2_setByBands 3 (some .boolean) { frames := 0, cells := 0, slots := 0, locals := 0 } [.ref (a 5), .int z] (wW cI cJ cZ cO a S M ov) (fun r w2 => r = some (.int (ms_bb M)) ∧ w2 = wW cI cJ cZ cO a S (ms_set_bb (mT0 M) z) ov) := by
  refine ct_of (by decide +kernel) (Nat.le_of_ble_eq_true rfl) ?_
  intro p e s m args below meth c C
  have C : Cxt p s m args meth c D (tysW cI cJ cZ cO) N0 cX2_setByBands 3 RX2 (some .boolean) "setByBands" := C
  refine go_aload_n C 0 dX2_setByBands_0 rfl rfl ?_
  refine go_iconst C (v := 0) dX2_setByBands_1 (by decide) ?_
  refine pm_thrown C dX2_setByBands_2 ?_
  refine go_aload_n C 0 dX2_setByBands_5 rfl rfl ?_
  refine gm_isByBands C dX2_setByBands_6 ?_
  refine go_istore_n C (lo' := [(2, .int (ms_bb (ms_set_thr M 0))), (0, .ref (a 5)), (1, .int z)]) dX2_setByBands_9 rfl (by decide) rfl ?_
  refine go_aload_n C 1 dX2_setByBands_10 rfl rfl ?_
  refine go_iload_n C 2 dX2_setByBands_11 rfl rfl ?_
  refine pm_isByBands C (nar_b hz) (fit_b hz) dX2_setByBands_12 ?_
  refine go_iload_n C 0 dX2_setByBands_15 rfl rfl ?_
  exact go_zreturn C rfl (nar_b hb) dX2_setByBands_16 (by decide) (by decide) ⟨rfl, rfl⟩
theorem k_RL_100 {p : Program} {l : Launch} {e : Env} {R : Room} {s : State} {m : MethodId} {args : Array Value} {below : List Frame} {meth : Method} {c : Code} {D : va_G} {N0 mL : Nat} {cc : ByteArray} {nm : String} {ret : Option FieldType} {Q : State → Prop} {k n pc : Nat} {lo : List (Nat × Value)} {st : List Value} {cI cJ cZ cO : ClassId} {a : Nat → Nat} (C : Cxt p s m args meth c D (tysW cI cJ cZ cO) N0 cc mL RL ret nm) (S : CS) (M : MS) (ov : Nat → Int64) (z : Int32) (hz : z = 0 ∨ z = 1) (hb : ms_bb M = 0 ∨ ms_bb M = 1) (hR : 0 + 1 ≤ R.frames ∧ 8 + (3 + 11) + 0 ≤ R.locals) (hcs : k + 0 ≤ R.cells ∧ n + 0 ≤ R.slots) (hcat : (st.map fun v => v.category).sum ≤ 8) (dk : decode cc pc = .ok (.invokevirtual 100, 3)) (g : Go p l e R s m args below meth c D N0 mL Q (wW cI cJ cZ cO a S (ms_set_bb (mT0 M) z) ov) (k) (n) (pc + 3) lo (.int (ms_bb M) :: st)) : Go p l e R s m args below meth c D N0 mL Q (wW cI cJ cZ cO a S M ov) k n pc lo (.int z :: .ref (a 5) :: st) :=
  go_callV C (ci := 2) (r9 := (RX2, TX2, 23)) (qi := 5) (As := [.int z]) (rest := st) rfl rfl (c_X2_setByBands l D cI cJ cZ cO N0 a S M ov z hz hb) ⟨rfl, by decide +kernel, by decide +kernel⟩ bl_RL_100 bi_yX2_setByBands bs_yX2_setByBands bz_NoticeBookModel bc_yX2_setByBands (show Option.map (fun d => d.parameters.length) (parseMethodDescriptor yX2_setByBands.desc) = some 1 by decide +kernel) hR hcs hcat dk (fun r w2 h => by obtain ⟨rfl, rfl⟩ := h; exact g) rfl
set_option maxHeartbeats 4000000 in
set_option maxRecDepth 100000 in
theorem c_X2_lots (l : Launch) (D : va_G) (cI cJ cZ cO : ClassId) (N0 : Nat) (a : Nat → Nat) (S : CS) (M : MS) (ov : Nat → Int64) (hb : ms_n M ≤ 40) : Ct l D (tysW cI cJ cZ cO) N0 yX2_lots cX2_lots 3 (some .int) { frames := 0, cells := 0, slots := 0, locals := 0 } [.ref (a 5)] (wW cI cJ cZ cO a S M ov) (fun r w2 => r = some (.int (mLn (ms_th M) (ms_n M))) ∧ w2 = wW cI cJ cZ cO a S (mT0 M) ov) := by
  refine ct_of (by decide +kernel) (Nat.le_of_ble_eq_true rfl) ?_
  intro p e s m args below meth c C
  have C : Cxt p s m args meth c D (tysW cI cJ cZ cO) N0 cX2_lots 3 RX2 (some .int) "lots" := C
  refine go_aload_n C 0 dX2_lots_0 rfl rfl ?_
  refine go_iconst C (v := 0) dX2_lots_1 (by decide) ?_
  refine pm_thrown C dX2_lots_2 ?_
  refine go_iconst C (v := 0) dX2_lots_5 (by decide) ?_
  refine go_istore_n C (lo' := [(1, .int 0), (0, .ref (a 5))]) dX2_lots_6 rfl (by decide) rfl ?_
  refine go_iconst C (v := 0) dX2_lots_7 (by decide) ?_
  refine go_istore_n C (lo' := [(2, .int 0), (1, .int 0), (0, .ref (a 5))]) dX2_lots_8 rfl (by decide) rfl ?_
  refine go_for (ms_n M) (fun i => True) (fun i => wW cI cJ cZ cO a S (ms_set_thr M 0) ov) (fun i => [(2, .int (nI i)), (1, .int (mLn (ms_th M) i)), (0, .ref (a 5))]) ⟨rfl, rfl⟩ trivial (fun i hi_i hI_i ih_i => ?_) (fun hI_i => ?_)
  · refine go_iload_n C 0 dX2_lots_9 rfl rfl ?_
    refine go_aload_n C 2 dX2_lots_10 rfl rfl ?_
    refine gm_lotMany C dX2_lots_11 ?_
    refine go_icmp_ge C (tgt := 40) dX2_lots_14 (by decide) (fun c_1 => absurd c_1 (nI_nge hi_i hb)) (fun c_1 => ?_)
    refine go_iload_n C 1 dX2_lots_17 rfl rfl ?_
    refine go_aload_n C 2 dX2_lots_18 rfl rfl ?_
    refine gm_isThere C dX2_lots_19 ?_
    refine go_iload_n C 0 dX2_lots_22 rfl rfl ?_
    refine lm_isThere C (nI_vin (Nat.lt_of_lt_of_le hi_i hb)) dX2_lots_23 ?_
    rw [cl_nI (i := i) (by have := hi_i; have := hb; omega)]
    refine go_if_eq C (tgt := 31) dX2_lots_24 (by decide) (fun c_2 => ?_) (fun c_2 => ?_)
    · refine go_iconst C (v := 0) dX2_lots_31 (by decide) ?_
      refine go_iadd C dX2_lots_32 ?_
      refine go_istore_n C (lo' := [(1, .int ((mLn (ms_th M) i) + 0)), (2, .int (nI i)), (0, .ref (a 5))]) dX2_lots_33 rfl (by decide) rfl ?_
      refine go_iinc C (v := nI (i + 1)) (lo' := [(2, .int (nI (i + 1))), (1, .int ((mLn (ms_th M) i) + 0)), (0, .ref (a 5))]) 1 dX2_lots_34 rfl (nI_1 _) (by decide) rfl ?_
      refine go_goto C (tgt := 9) dX2_lots_37 (by decide) ?_
      refine go_lo (lo' := [(2, .int (nI (i + 1))), (1, .int (mLn (ms_th M) (i + 1))), (0, .ref (a 5))]) [0, 1, 2] (by rw [← mLn_0 c_2]; rfl) ?_
      exact ih_i trivial
    · refine go_iconst C (v := 1) dX2_lots_27 (by decide) ?_
      refine go_goto C (tgt := 32) dX2_lots_28 (by decide) ?_
      refine go_iadd C dX2_lots_32 ?_
      refine go_istore_n C (lo' := [(1, .int ((mLn (ms_th M) i) + 1)), (2, .int (nI i)), (0, .ref (a 5))]) dX2_lots_33 rfl (by decide) rfl ?_
      refine go_iinc C (v := nI (i + 1)) (lo' := [(2, .int (nI (i + 1))), (1, .int ((mLn (ms_th M) i) + 1)), (0, .ref (a 5))]) 1 dX2_lots_34 rfl (nI_1 _) (by decide) rfl ?_
      refine go_goto C (tgt := 9) dX2_lots_37 (by decide) ?_
      refine go_lo (lo' := [(2, .int (nI (i + 1))), (1, .int (mLn (ms_th M) (i + 1))), (0, .ref (a 5))]) [0, 1, 2] (by rw [← mLn_1 c_2]; rfl) ?_
      exact ih_i trivial
  · refine go_iload_n C 0 dX2_lots_9 rfl rfl ?_
    refine go_aload_n C 2 dX2_lots_10 rfl rfl ?_
    refine gm_lotMany C dX2_lots_11 ?_
    refine go_icmp_ge C (tgt := 40) dX2_lots_14 (by decide) (fun c_3 => ?_) (fun c_3 => absurd (nI_ger hb) c_3)
    refine go_iload_n C 1 dX2_lots_40 rfl rfl ?_
    exact go_ireturn C rfl dX2_lots_41 (by decide) (by decide) ⟨rfl, rfl⟩
theorem k_RL_143 {p : Program} {l : Launch} {e : Env} {R : Room} {s : State} {m : MethodId} {args : Array Value} {below : List Frame} {meth : Method} {c : Code} {D : va_G} {N0 mL : Nat} {cc : ByteArray} {nm : String} {ret : Option FieldType} {Q : State → Prop} {k n pc : Nat} {lo : List (Nat × Value)} {st : List Value} {cI cJ cZ cO : ClassId} {a : Nat → Nat} (C : Cxt p s m args meth c D (tysW cI cJ cZ cO) N0 cc mL RL ret nm) (S : CS) (M : MS) (ov : Nat → Int64) (hb : ms_n M ≤ 40) (hR : 0 + 1 ≤ R.frames ∧ 8 + (3 + 11) + 0 ≤ R.locals) (hcs : k + 0 ≤ R.cells ∧ n + 0 ≤ R.slots) (hcat : (st.map fun v => v.category).sum ≤ 8) (dk : decode cc pc = .ok (.invokevirtual 143, 3)) (g : Go p l e R s m args below meth c D N0 mL Q (wW cI cJ cZ cO a S (mT0 M) ov) (k) (n) (pc + 3) lo (.int (mLn (ms_th M) (ms_n M)) :: st)) : Go p l e R s m args below meth c D N0 mL Q (wW cI cJ cZ cO a S M ov) k n pc lo (.ref (a 5) :: st) :=
  go_callV C (ci := 2) (r9 := (RX2, TX2, 23)) (qi := 5) (As := []) (rest := st) rfl rfl (c_X2_lots l D cI cJ cZ cO N0 a S M ov hb) ⟨rfl, by decide +kernel, by decide +kernel⟩ bl_RL_143 bi_yX2_lots bs_yX2_lots bz_NoticeBookModel bc_yX2_lots (show Option.map (fun d => d.parameters.length) (parseMethodDescriptor yX2_lots.desc) = some 0 by decide +kernel) hR hcs hcat dk (fun r w2 h => by obtain ⟨rfl, rfl⟩ := h; exact g) rfl
set_option maxHeartbeats 4000000 in
set_option maxRecDepth 100000 in
theorem c_X2_setTermRate (l : Launch) (D : va_G) (cI cJ cZ cO : ClassId) (N0 : Nat) (a : Nat → Nat) (S : CS) (M : MS) (ov : Nat → Int64) (z : Int32)  : Ct l D (tysW cI cJ cZ cO) N0 yX2_setTermRate cX2_setTermRate 3 (some .int) { frames := 1, cells := 0, slots := 0, locals := 22 } [.ref (a 5), .int z] (wW cI cJ cZ cO a S M ov) (fun r w2 => (kTr z = 0 ∧ r = some (.int (ms_tr M)) ∧ w2 = wW cI cJ cZ cO a S (ms_set_tr (mT0 M) z) ov) ∨ (¬ kTr z = 0 ∧ r = some (.int 0) ∧ w2 = wW cI cJ cZ cO a S (ms_set_thr M (kTr z)) ov)) := by
  refine ct_of (by decide +kernel) (Nat.le_of_ble_eq_true rfl) ?_
  intro p e s m args below meth c C
  have C : Cxt p s m args meth c D (tysW cI cJ cZ cO) N0 cX2_setTermRate 3 RX2 (some .int) "setTermRate" := C
  refine go_aload_n C 0 dX2_setTermRate_0 rfl rfl ?_
  refine go_iload_n C 1 dX2_setTermRate_1 rfl rfl ?_
  refine go_iconst C (v := 0) dX2_setTermRate_2 (by decide) ?_
  refine go_sipush C (v := 2000) dX2_setTermRate_3 (by decide) ?_
  refine k_RX2_73 C S M ov z 0 2000 ⟨(Nat.le_of_ble_eq_true rfl), (Nat.le_of_ble_eq_true rfl)⟩ ⟨(Nat.le_of_ble_eq_true rfl), (Nat.le_of_ble_eq_true rfl)⟩ (Nat.le_of_ble_eq_true rfl) dX2_setTermRate_6 ?_
  refine go_if_eq C (tgt := 16) dX2_setTermRate_9 (by decide) (fun c_1 => ?_) (fun c_1 => ?_)
  · refine go_iconst C (v := 1) dX2_setTermRate_16 (by decide) ?_
    refine pm_thrown C dX2_setTermRate_17 ?_
    refine go_aload_n C 0 dX2_setTermRate_20 rfl rfl ?_
    refine gm_thrown C dX2_setTermRate_21 ?_
    refine go_st (st2 := [.int 1]) rfl ?_
    refine go_if_le C (tgt := 29) dX2_setTermRate_24 (by decide) (fun c_2 => absurd c_2 (by decide)) (fun c_2 => ?_)
    refine go_iconst C (v := 0) dX2_setTermRate_27 (by decide) ?_
    exact go_ireturn C rfl dX2_setTermRate_28 (by decide) (by decide) (Or.inr (by rw [show kTr z = 1 from by simp only [kTr, if_pos c_1]]; exact ⟨by decide, rfl, rfl⟩))
  · refine go_iconst C (v := 0) dX2_setTermRate_12 (by decide) ?_
    refine go_goto C (tgt := 17) dX2_setTermRate_13 (by decide) ?_
    refine pm_thrown C dX2_setTermRate_17 ?_
    refine go_aload_n C 0 dX2_setTermRate_20 rfl rfl ?_
    refine gm_thrown C dX2_setTermRate_21 ?_
    refine go_st (st2 := [.int 0]) rfl ?_
    refine go_if_le C (tgt := 29) dX2_setTermRate_24 (by decide) (fun c_3 => ?_) (fun c_3 => absurd c_3 (by decide))
    refine go_aload_n C 0 dX2_setTermRate_29 rfl rfl ?_
    refine gm_termRate C dX2_setTermRate_30 ?_
    refine go_istore_n C (lo' := [(2, .int (ms_tr (ms_set_thr M 0))), (0, .ref (a 5)), (1, .int z)]) dX2_setTermRate_33 rfl (by decide) rfl ?_
    refine go_aload_n C 1 dX2_setTermRate_34 rfl rfl ?_
    refine go_iload_n C 2 dX2_setTermRate_35 rfl rfl ?_
    refine pm_termRate C dX2_setTermRate_36 ?_
    refine go_iload_n C 0 dX2_setTermRate_39 rfl rfl ?_
    exact go_ireturn C rfl dX2_setTermRate_40 (by decide) (by decide) (Or.inl ⟨by simp only [kTr, if_neg c_1], rfl, rfl⟩)
theorem k_RL_104 {p : Program} {l : Launch} {e : Env} {R : Room} {s : State} {m : MethodId} {args : Array Value} {below : List Frame} {meth : Method} {c : Code} {D : va_G} {N0 mL : Nat} {cc : ByteArray} {nm : String} {ret : Option FieldType} {Q : State → Prop} {k n pc : Nat} {lo : List (Nat × Value)} {st : List Value} {cI cJ cZ cO : ClassId} {a : Nat → Nat} (C : Cxt p s m args meth c D (tysW cI cJ cZ cO) N0 cc mL RL ret nm) (S : CS) (M : MS) (ov : Nat → Int64) (z : Int32)  (hR : 1 + 1 ≤ R.frames ∧ 8 + (3 + 11) + 22 ≤ R.locals) (hcs : k + 0 ≤ R.cells ∧ n + 0 ≤ R.slots) (hcat : (st.map fun v => v.category).sum ≤ 8) (dk : decode cc pc = .ok (.invokevirtual 104, 3)) (g0 : (kTr z = 0) → Go p l e R s m args below meth c D N0 mL Q (wW cI cJ cZ cO a S (ms_set_tr (mT0 M) z) ov) (k) (n) (pc + 3) lo (.int (ms_tr M) :: st)) (g1 : (¬ kTr z = 0) → Go p l e R s m args below meth c D N0 mL Q (wW cI cJ cZ cO a S (ms_set_thr M (kTr z)) ov) (k) (n) (pc + 3) lo (.int 0 :: st)) : Go p l e R s m args below meth c D N0 mL Q (wW cI cJ cZ cO a S M ov) k n pc lo (.int z :: .ref (a 5) :: st) :=
  go_callV C (ci := 2) (r9 := (RX2, TX2, 23)) (qi := 5) (As := [.int z]) (rest := st) rfl rfl (c_X2_setTermRate l D cI cJ cZ cO N0 a S M ov z ) ⟨rfl, by decide +kernel, by decide +kernel⟩ bl_RL_104 bi_yX2_setTermRate bs_yX2_setTermRate bz_NoticeBookModel bc_yX2_setTermRate (show Option.map (fun d => d.parameters.length) (parseMethodDescriptor yX2_setTermRate.desc) = some 1 by decide +kernel) hR hcs hcat dk (fun r w2 h => by
    rcases h with ⟨h9, rfl, rfl⟩ | ⟨h9, rfl, rfl⟩
    · exact g0 h9
    · exact g1 h9) rfl
set_option maxHeartbeats 4000000 in
set_option maxRecDepth 100000 in
theorem c_X2_setRate (l : Launch) (D : va_G) (cI cJ cZ cO : ClassId) (N0 : Nat) (a : Nat → Nat) (S : CS) (M : MS) (ov : Nat → Int64) (b z : Int32)  : Ct l D (tysW cI cJ cZ cO) N0 yX2_setRate cX2_setRate 4 (some .int) { frames := 1, cells := 0, slots := 0, locals := 22 } [.ref (a 5), .int b, .int z] (wW cI cJ cZ cO a S M ov) (fun r w2 => (kSt b z = 0 ∧ r = some (.int (ms_rates M (Int32.toNatClampNeg b))) ∧ w2 = wW cI cJ cZ cO a S (ms_set_rates (mT0 M) (upd (ms_rates M) (Int32.toNatClampNeg b) z)) ov) ∨ (¬ kSt b z = 0 ∧ r = some (.int 0) ∧ w2 = wW cI cJ cZ cO a S (ms_set_thr M (kSt b z)) ov)) := by
  refine ct_of (by decide +kernel) (Nat.le_of_ble_eq_true rfl) ?_
  intro p e s m args below meth c C
  have C : Cxt p s m args meth c D (tysW cI cJ cZ cO) N0 cX2_setRate 4 RX2 (some .int) "setRate" := C
  refine go_aload_n C 0 dX2_setRate_0 rfl rfl ?_
  refine go_iload_n C 1 dX2_setRate_1 rfl rfl ?_
  refine go_iconst C (v := 0) dX2_setRate_2 (by decide) ?_
  refine go_iconst C (v := 2) dX2_setRate_3 (by decide) ?_
  refine k_RX2_73 C S M ov b 0 2 ⟨(Nat.le_of_ble_eq_true rfl), (Nat.le_of_ble_eq_true rfl)⟩ ⟨(Nat.le_of_ble_eq_true rfl), (Nat.le_of_ble_eq_true rfl)⟩ (Nat.le_of_ble_eq_true rfl) dX2_setRate_4 ?_
  refine go_if_ne C (tgt := 14) dX2_setRate_7 (by decide) (fun c_1 => ?_) (fun c_1 => ?_)
  · refine go_iload_n C 2 dX2_setRate_14 rfl rfl ?_
    refine go_iconst C (v := 0) dX2_setRate_15 (by decide) ?_
    refine go_sipush C (v := 2000) dX2_setRate_16 (by decide) ?_
    refine k_RX2_73 C S M ov z 0 2000 ⟨(Nat.le_of_ble_eq_true rfl), (Nat.le_of_ble_eq_true rfl)⟩ ⟨(Nat.le_of_ble_eq_true rfl), (Nat.le_of_ble_eq_true rfl)⟩ (Nat.le_of_ble_eq_true rfl) dX2_setRate_19 ?_
    refine go_if_ne C (tgt := 29) dX2_setRate_22 (by decide) (fun c_2 => ?_) (fun c_2 => ?_)
    · refine go_iconst C (v := 0) dX2_setRate_29 (by decide) ?_
      refine pm_thrown C dX2_setRate_30 ?_
      refine go_aload_n C 0 dX2_setRate_33 rfl rfl ?_
      refine gm_thrown C dX2_setRate_34 ?_
      refine go_st (st2 := [.int 0]) rfl ?_
      refine go_if_le C (tgt := 42) dX2_setRate_37 (by decide) (fun c_3 => ?_) (fun c_3 => absurd c_3 (by decide))
      refine go_aload_n C 0 dX2_setRate_42 rfl rfl ?_
      refine gm_rates C dX2_setRate_43 ?_
      refine go_iload_n C 1 dX2_setRate_46 rfl rfl ?_
      refine lm_rates C (mIn3 c_1) dX2_setRate_47 ?_
      refine go_istore_n C (lo' := [(3, .int (ms_rates (ms_set_thr M 0) (Int32.toNatClampNeg b))), (0, .ref (a 5)), (1, .int b), (2, .int z)]) dX2_setRate_48 rfl (by decide) rfl ?_
      refine go_aload_n C 1 dX2_setRate_49 rfl rfl ?_
      refine gm_rates C dX2_setRate_50 ?_
      refine go_iload_n C 2 dX2_setRate_53 rfl rfl ?_
      refine go_iload_n C 3 dX2_setRate_54 rfl rfl ?_
      refine sm_rates C (mIn3 c_1) dX2_setRate_55 ?_
      refine go_iload_n C 0 dX2_setRate_56 rfl rfl ?_
      exact go_ireturn C rfl dX2_setRate_57 (by decide) (by decide) (Or.inl ⟨by simp only [kSt, if_neg c_1, if_neg c_2], rfl, rfl⟩)
    · refine go_iconst C (v := 2) dX2_setRate_25 (by decide) ?_
      refine go_goto C (tgt := 30) dX2_setRate_26 (by decide) ?_
      refine pm_thrown C dX2_setRate_30 ?_
      refine go_aload_n C 0 dX2_setRate_33 rfl rfl ?_
      refine gm_thrown C dX2_setRate_34 ?_
      refine go_st (st2 := [.int 2]) rfl ?_
      refine go_if_le C (tgt := 42) dX2_setRate_37 (by decide) (fun c_4 => absurd c_4 (by decide)) (fun c_4 => ?_)
      refine go_iconst C (v := 0) dX2_setRate_40 (by decide) ?_
      exact go_ireturn C rfl dX2_setRate_41 (by decide) (by decide) (Or.inr (by rw [show kSt b z = 2 from by simp only [kSt, if_neg c_1, if_pos c_2]]; exact ⟨by decide, rfl, rfl⟩))
  · refine go_iconst C (v := 1) dX2_setRate_10 (by decide) ?_
    refine go_goto C (tgt := 30) dX2_setRate_11 (by decide) ?_
    refine pm_thrown C dX2_setRate_30 ?_
    refine go_aload_n C 0 dX2_setRate_33 rfl rfl ?_
    refine gm_thrown C dX2_setRate_34 ?_
    refine go_st (st2 := [.int 1]) rfl ?_
    refine go_if_le C (tgt := 42) dX2_setRate_37 (by decide) (fun c_5 => absurd c_5 (by decide)) (fun c_5 => ?_)
    refine go_iconst C (v := 0) dX2_setRate_40 (by decide) ?_
    exact go_ireturn C rfl dX2_setRate_41 (by decide) (by decide) (Or.inr (by rw [show kSt b z = 1 from by simp only [kSt, if_pos c_1]]; exact ⟨by decide, rfl, rfl⟩))
theorem k_RL_91 {p : Program} {l : Launch} {e : Env} {R : Room} {s : State} {m : MethodId} {args : Array Value} {below : List Frame} {meth : Method} {c : Code} {D : va_G} {N0 mL : Nat} {cc : ByteArray} {nm : String} {ret : Option FieldType} {Q : State → Prop} {k n pc : Nat} {lo : List (Nat × Value)} {st : List Value} {cI cJ cZ cO : ClassId} {a : Nat → Nat} (C : Cxt p s m args meth c D (tysW cI cJ cZ cO) N0 cc mL RL ret nm) (S : CS) (M : MS) (ov : Nat → Int64) (b z : Int32)  (hR : 1 + 1 ≤ R.frames ∧ 8 + (4 + 11) + 22 ≤ R.locals) (hcs : k + 0 ≤ R.cells ∧ n + 0 ≤ R.slots) (hcat : (st.map fun v => v.category).sum ≤ 8) (dk : decode cc pc = .ok (.invokevirtual 91, 3)) (g0 : (kSt b z = 0) → Go p l e R s m args below meth c D N0 mL Q (wW cI cJ cZ cO a S (ms_set_rates (mT0 M) (upd (ms_rates M) (Int32.toNatClampNeg b) z)) ov) (k) (n) (pc + 3) lo (.int (ms_rates M (Int32.toNatClampNeg b)) :: st)) (g1 : (¬ kSt b z = 0) → Go p l e R s m args below meth c D N0 mL Q (wW cI cJ cZ cO a S (ms_set_thr M (kSt b z)) ov) (k) (n) (pc + 3) lo (.int 0 :: st)) : Go p l e R s m args below meth c D N0 mL Q (wW cI cJ cZ cO a S M ov) k n pc lo (.int z :: .int b :: .ref (a 5) :: st) :=
  go_callV C (ci := 2) (r9 := (RX2, TX2, 23)) (qi := 5) (As := [.int b, .int z]) (rest := st) rfl rfl (c_X2_setRate l D cI cJ cZ cO N0 a S M ov b z ) ⟨rfl, by decide +kernel, by decide +kernel⟩ bl_RL_91 bi_yX2_setRate bs_yX2_setRate bz_NoticeBookModel bc_yX2_setRate (show Option.map (fun d => d.parameters.length) (parseMethodDescriptor yX2_setRate.desc) = some 2 by decide +kernel) hR hcs hcat dk (fun r w2 h => by
    rcases h with ⟨h9, rfl, rfl⟩ | ⟨h9, rfl, rfl⟩
    · exact g0 h9
    · exact g1 h9) rfl
set_option maxHeartbeats 4000000 in
set_option maxRecDepth 100000 in
theorem c_X2_total (l : Launch) (D : va_G) (cI cJ cZ cO : ClassId) (N0 : Nat) (a : Nat → Nat) (S : CS) (M : MS) (ov : Nat → Int64) (z : Int32) (hok : okM M) : Ct l D (tysW cI cJ cZ cO) N0 yX2_total cX2_total 2 (some .int) { frames := 2, cells := 0, slots := 0, locals := 46 } [.ref (a 5), .int z] (wW cI cJ cZ cO a S M ov) (fun r w2 => (kCu z = 0 ∧ r = some (.int (mSuM M z (ms_n M))) ∧ w2 = wW cI cJ cZ cO a S (mT0 M) ov) ∨ (¬ kCu z = 0 ∧ r = some (.int 0) ∧ w2 = wW cI cJ cZ cO a S (ms_set_thr M (kCu z)) ov)) := by
  refine ct_of (by decide +kernel) (Nat.le_of_ble_eq_true rfl) ?_
  intro p e s m args below meth c C
  have C : Cxt p s m args meth c D (tysW cI cJ cZ cO) N0 cX2_total 2 RX2 (some .int) "total" := C
  refine go_aload_n C 0 dX2_total_0 rfl rfl ?_
  refine go_iload_n C 1 dX2_total_1 rfl rfl ?_
  refine k_RX2_111 C S M ov z ⟨(Nat.le_of_ble_eq_true rfl), (Nat.le_of_ble_eq_true rfl)⟩ ⟨(Nat.le_of_ble_eq_true rfl), (Nat.le_of_ble_eq_true rfl)⟩ (Nat.le_of_ble_eq_true rfl) dX2_total_2 ?_
  refine go_if_eq C (tgt := 12) dX2_total_5 (by decide) (fun c_1 => ?_) (fun c_1 => ?_)
  · refine go_iconst C (v := 1) dX2_total_12 (by decide) ?_
    refine pm_thrown C dX2_total_13 ?_
    refine go_aload_n C 0 dX2_total_16 rfl rfl ?_
    refine gm_thrown C dX2_total_17 ?_
    refine go_st (st2 := [.int 1]) rfl ?_
    refine go_if_ne C (tgt := 35) dX2_total_20 (by decide) (fun c_2 => ?_) (fun c_2 => absurd c_2 (by decide))
    refine go_iconst C (v := 0) dX2_total_35 (by decide) ?_
    exact go_ireturn C rfl dX2_total_36 (by decide) (by decide) (Or.inr (by rw [show kCu z = 1 from by simp only [kCu, if_pos c_1]]; exact ⟨by decide, rfl, rfl⟩))
  · refine go_iconst C (v := 0) dX2_total_8 (by decide) ?_
    refine go_goto C (tgt := 13) dX2_total_9 (by decide) ?_
    refine pm_thrown C dX2_total_13 ?_
    refine go_aload_n C 0 dX2_total_16 rfl rfl ?_
    refine gm_thrown C dX2_total_17 ?_
    refine go_st (st2 := [.int 0]) rfl ?_
    refine go_if_ne C (tgt := 35) dX2_total_20 (by decide) (fun c_3 => absurd c_3 (by decide)) (fun c_3 => ?_)
    refine go_aload_n C 0 dX2_total_23 rfl rfl ?_
    refine go_iload_n C 1 dX2_total_24 rfl rfl ?_
    refine go_aload_n C 0 dX2_total_25 rfl rfl ?_
    refine gm_lotMany C dX2_total_26 ?_
    refine k_RX2_94 C S (ms_set_thr M 0) ov z (nI (ms_n (ms_set_thr M 0))) (ms_n (ms_set_thr M 0)) rfl hok.1 ⟨(Nat.le_of_ble_eq_true rfl), (Nat.le_of_ble_eq_true rfl)⟩ ⟨(Nat.le_of_ble_eq_true rfl), (Nat.le_of_ble_eq_true rfl)⟩ (Nat.le_of_ble_eq_true rfl) dX2_total_29 ?_
    refine go_goto C (tgt := 36) dX2_total_32 (by decide) ?_
    exact go_ireturn C rfl dX2_total_36 (by decide) (by decide) (Or.inl ⟨by simp only [kCu, if_neg c_1], rfl, rfl⟩)
theorem k_RL_161 {p : Program} {l : Launch} {e : Env} {R : Room} {s : State} {m : MethodId} {args : Array Value} {below : List Frame} {meth : Method} {c : Code} {D : va_G} {N0 mL : Nat} {cc : ByteArray} {nm : String} {ret : Option FieldType} {Q : State → Prop} {k n pc : Nat} {lo : List (Nat × Value)} {st : List Value} {cI cJ cZ cO : ClassId} {a : Nat → Nat} (C : Cxt p s m args meth c D (tysW cI cJ cZ cO) N0 cc mL RL ret nm) (S : CS) (M : MS) (ov : Nat → Int64) (z : Int32) (hok : okM M) (hR : 2 + 1 ≤ R.frames ∧ 8 + (2 + 11) + 46 ≤ R.locals) (hcs : k + 0 ≤ R.cells ∧ n + 0 ≤ R.slots) (hcat : (st.map fun v => v.category).sum ≤ 8) (dk : decode cc pc = .ok (.invokevirtual 161, 3)) (g0 : (kCu z = 0) → Go p l e R s m args below meth c D N0 mL Q (wW cI cJ cZ cO a S (mT0 M) ov) (k) (n) (pc + 3) lo (.int (mSuM M z (ms_n M)) :: st)) (g1 : (¬ kCu z = 0) → Go p l e R s m args below meth c D N0 mL Q (wW cI cJ cZ cO a S (ms_set_thr M (kCu z)) ov) (k) (n) (pc + 3) lo (.int 0 :: st)) : Go p l e R s m args below meth c D N0 mL Q (wW cI cJ cZ cO a S M ov) k n pc lo (.int z :: .ref (a 5) :: st) :=
  go_callV C (ci := 2) (r9 := (RX2, TX2, 23)) (qi := 5) (As := [.int z]) (rest := st) rfl rfl (c_X2_total l D cI cJ cZ cO N0 a S M ov z hok) ⟨rfl, by decide +kernel, by decide +kernel⟩ bl_RL_161 bi_yX2_total bs_yX2_total bz_NoticeBookModel bc_yX2_total (show Option.map (fun d => d.parameters.length) (parseMethodDescriptor yX2_total.desc) = some 1 by decide +kernel) hR hcs hcat dk (fun r w2 h => by
    rcases h with ⟨h9, rfl, rfl⟩ | ⟨h9, rfl, rfl⟩
    · exact g0 h9
    · exact g1 h9) rfl
set_option maxHeartbeats 4000000 in
set_option maxRecDepth 100000 in
theorem c_X2_partsByTotal (l : Launch) (D : va_G) (cI cJ cZ cO : ClassId) (N0 : Nat) (a : Nat → Nat) (S : CS) (M : MS) (ov : Nat → Int64) (z : Int32) (hok : okM M) : Ct l D (tysW cI cJ cZ cO) N0 yX2_partsByTotal cX2_partsByTotal 3 (some .long) { frames := 2, cells := 0, slots := 0, locals := 46 } [.ref (a 5), .int z] (wW cI cJ cZ cO a S M ov) (fun r w2 => (kCu z = 0 ∧ r = some (.long (if ms_bb M = 0 then Int32.toInt64 (mSuM M z (ms_n M)) * Int32.toInt64 (mRf (ms_rates M) (mSuM M z (ms_n M))) else mPo (ms_rates M) (mSuM M z (ms_n M)))) ∧ w2 = wW cI cJ cZ cO a S (mT0 M) ov) ∨ (∃ v9 : Int64, ¬ kCu z = 0 ∧ r = some (.long v9) ∧ w2 = wW cI cJ cZ cO a S (ms_set_thr M (kCu z)) ov)) := by
  refine ct_of (by decide +kernel) (Nat.le_of_ble_eq_true rfl) ?_
  intro p e s m args below meth c C
  have C : Cxt p s m args meth c D (tysW cI cJ cZ cO) N0 cX2_partsByTotal 3 RX2 (some .long) "partsByTotal" := C
  refine go_aload_n C 0 dX2_partsByTotal_0 rfl rfl ?_
  refine go_iload_n C 1 dX2_partsByTotal_1 rfl rfl ?_
  refine k_RX2_111 C S M ov z ⟨(Nat.le_of_ble_eq_true rfl), (Nat.le_of_ble_eq_true rfl)⟩ ⟨(Nat.le_of_ble_eq_true rfl), (Nat.le_of_ble_eq_true rfl)⟩ (Nat.le_of_ble_eq_true rfl) dX2_partsByTotal_2 ?_
  refine go_if_eq C (tgt := 12) dX2_partsByTotal_5 (by decide) (fun c_1 => ?_) (fun c_1 => ?_)
  · refine go_iconst C (v := 1) dX2_partsByTotal_12 (by decide) ?_
    refine pm_thrown C dX2_partsByTotal_13 ?_
    refine go_aload_n C 0 dX2_partsByTotal_16 rfl rfl ?_
    refine gm_thrown C dX2_partsByTotal_17 ?_
    refine go_st (st2 := [.int 1]) rfl ?_
    refine go_if_ne C (tgt := 35) dX2_partsByTotal_20 (by decide) (fun c_2 => ?_) (fun c_2 => absurd c_2 (by decide))
    refine go_iconst C (v := 0) dX2_partsByTotal_35 (by decide) ?_
    refine go_istore_n C (lo' := [(2, .int 0), (0, .ref (a 5)), (1, .int z)]) dX2_partsByTotal_36 rfl (by decide) rfl ?_
    refine go_aload_n C 1 dX2_partsByTotal_37 rfl rfl ?_
    refine gm_isByBands C dX2_partsByTotal_38 ?_
    refine go_if_eq C (tgt := 52) dX2_partsByTotal_41 (by decide) (fun c_3 => ?_) (fun c_3 => ?_)
    · refine go_iload_n C 0 dX2_partsByTotal_52 rfl rfl ?_
      refine go_i2l C dX2_partsByTotal_53 ?_
      refine go_aload_n C 1 dX2_partsByTotal_54 rfl rfl ?_
      refine go_iload_n C 0 dX2_partsByTotal_55 rfl rfl ?_
      refine k_RX2_98 C S (ms_set_thr M 1) ov 0 ⟨(Nat.le_of_ble_eq_true rfl), (Nat.le_of_ble_eq_true rfl)⟩ ⟨(Nat.le_of_ble_eq_true rfl), (Nat.le_of_ble_eq_true rfl)⟩ (Nat.le_of_ble_eq_true rfl) dX2_partsByTotal_56 ?_
      refine go_i2l C dX2_partsByTotal_59 ?_
      refine go_lmul C dX2_partsByTotal_60 ?_
      exact go_lreturn C rfl dX2_partsByTotal_61 (by decide) (by decide) (Or.inr (by rw [show kCu z = 1 from by simp only [kCu, if_pos c_1, if_pos c_3]]; exact ⟨_, by decide, rfl, rfl⟩))
    · refine go_aload_n C 1 dX2_partsByTotal_44 rfl rfl ?_
      refine go_iload_n C 0 dX2_partsByTotal_45 rfl rfl ?_
      refine k_RX2_102 C S (ms_set_thr M 1) ov 0 ⟨(Nat.le_of_ble_eq_true rfl), (Nat.le_of_ble_eq_true rfl)⟩ ⟨(Nat.le_of_ble_eq_true rfl), (Nat.le_of_ble_eq_true rfl)⟩ (Nat.le_of_ble_eq_true rfl) dX2_partsByTotal_46 ?_
      refine go_goto C (tgt := 61) dX2_partsByTotal_49 (by decide) ?_
      exact go_lreturn C rfl dX2_partsByTotal_61 (by decide) (by decide) (Or.inr (by rw [show kCu z = 1 from by simp only [kCu, if_pos c_1, if_neg c_3]]; exact ⟨_, by decide, rfl, rfl⟩))
  · refine go_iconst C (v := 0) dX2_partsByTotal_8 (by decide) ?_
    refine go_goto C (tgt := 13) dX2_partsByTotal_9 (by decide) ?_
    refine pm_thrown C dX2_partsByTotal_13 ?_
    refine go_aload_n C 0 dX2_partsByTotal_16 rfl rfl ?_
    refine gm_thrown C dX2_partsByTotal_17 ?_
    refine go_st (st2 := [.int 0]) rfl ?_
    refine go_if_ne C (tgt := 35) dX2_partsByTotal_20 (by decide) (fun c_4 => absurd c_4 (by decide)) (fun c_4 => ?_)
    refine go_aload_n C 0 dX2_partsByTotal_23 rfl rfl ?_
    refine go_iload_n C 1 dX2_partsByTotal_24 rfl rfl ?_
    refine go_aload_n C 0 dX2_partsByTotal_25 rfl rfl ?_
    refine gm_lotMany C dX2_partsByTotal_26 ?_
    refine k_RX2_94 C S (ms_set_thr M 0) ov z (nI (ms_n (ms_set_thr M 0))) (ms_n (ms_set_thr M 0)) rfl hok.1 ⟨(Nat.le_of_ble_eq_true rfl), (Nat.le_of_ble_eq_true rfl)⟩ ⟨(Nat.le_of_ble_eq_true rfl), (Nat.le_of_ble_eq_true rfl)⟩ (Nat.le_of_ble_eq_true rfl) dX2_partsByTotal_29 ?_
    refine go_goto C (tgt := 36) dX2_partsByTotal_32 (by decide) ?_
    refine go_istore_n C (lo' := [(2, .int (mSuM (ms_set_thr M 0) z (ms_n (ms_set_thr M 0)))), (0, .ref (a 5)), (1, .int z)]) dX2_partsByTotal_36 rfl (by decide) rfl ?_
    refine go_aload_n C 1 dX2_partsByTotal_37 rfl rfl ?_
    refine gm_isByBands C dX2_partsByTotal_38 ?_
    refine go_if_eq C (tgt := 52) dX2_partsByTotal_41 (by decide) (fun c_5 => ?_) (fun c_5 => ?_)
    · refine go_iload_n C 0 dX2_partsByTotal_52 rfl rfl ?_
      refine go_i2l C dX2_partsByTotal_53 ?_
      refine go_aload_n C 1 dX2_partsByTotal_54 rfl rfl ?_
      refine go_iload_n C 0 dX2_partsByTotal_55 rfl rfl ?_
      refine k_RX2_98 C S (ms_set_thr M 0) ov (mSuM (ms_set_thr M 0) z (ms_n (ms_set_thr M 0))) ⟨(Nat.le_of_ble_eq_true rfl), (Nat.le_of_ble_eq_true rfl)⟩ ⟨(Nat.le_of_ble_eq_true rfl), (Nat.le_of_ble_eq_true rfl)⟩ (Nat.le_of_ble_eq_true rfl) dX2_partsByTotal_56 ?_
      refine go_i2l C dX2_partsByTotal_59 ?_
      refine go_lmul C dX2_partsByTotal_60 ?_
      exact go_lreturn C rfl dX2_partsByTotal_61 (by decide) (by decide) (Or.inl ⟨by simp only [kCu, if_neg c_1, if_pos c_5], by simp only [if_neg c_1, if_pos c_5] <;> rfl, rfl⟩)
    · refine go_aload_n C 1 dX2_partsByTotal_44 rfl rfl ?_
      refine go_iload_n C 0 dX2_partsByTotal_45 rfl rfl ?_
      refine k_RX2_102 C S (ms_set_thr M 0) ov (mSuM (ms_set_thr M 0) z (ms_n (ms_set_thr M 0))) ⟨(Nat.le_of_ble_eq_true rfl), (Nat.le_of_ble_eq_true rfl)⟩ ⟨(Nat.le_of_ble_eq_true rfl), (Nat.le_of_ble_eq_true rfl)⟩ (Nat.le_of_ble_eq_true rfl) dX2_partsByTotal_46 ?_
      refine go_goto C (tgt := 61) dX2_partsByTotal_49 (by decide) ?_
      exact go_lreturn C rfl dX2_partsByTotal_61 (by decide) (by decide) (Or.inl ⟨by simp only [kCu, if_neg c_1, if_neg c_5], by simp only [if_neg c_1, if_neg c_5] <;> rfl, rfl⟩)
theorem k_RL_164 {p : Program} {l : Launch} {e : Env} {R : Room} {s : State} {m : MethodId} {args : Array Value} {below : List Frame} {meth : Method} {c : Code} {D : va_G} {N0 mL : Nat} {cc : ByteArray} {nm : String} {ret : Option FieldType} {Q : State → Prop} {k n pc : Nat} {lo : List (Nat × Value)} {st : List Value} {cI cJ cZ cO : ClassId} {a : Nat → Nat} (C : Cxt p s m args meth c D (tysW cI cJ cZ cO) N0 cc mL RL ret nm) (S : CS) (M : MS) (ov : Nat → Int64) (z : Int32) (hok : okM M) (hR : 2 + 1 ≤ R.frames ∧ 8 + (3 + 11) + 46 ≤ R.locals) (hcs : k + 0 ≤ R.cells ∧ n + 0 ≤ R.slots) (hcat : (st.map fun v => v.category).sum ≤ 8) (dk : decode cc pc = .ok (.invokevirtual 164, 3)) (g0 : (kCu z = 0) → Go p l e R s m args below meth c D N0 mL Q (wW cI cJ cZ cO a S (mT0 M) ov) (k) (n) (pc + 3) lo (.long (if ms_bb M = 0 then Int32.toInt64 (mSuM M z (ms_n M)) * Int32.toInt64 (mRf (ms_rates M) (mSuM M z (ms_n M))) else mPo (ms_rates M) (mSuM M z (ms_n M))) :: st)) (g1 : ∀ v9 : Int64, (¬ kCu z = 0) → Go p l e R s m args below meth c D N0 mL Q (wW cI cJ cZ cO a S (ms_set_thr M (kCu z)) ov) (k) (n) (pc + 3) lo (.long v9 :: st)) : Go p l e R s m args below meth c D N0 mL Q (wW cI cJ cZ cO a S M ov) k n pc lo (.int z :: .ref (a 5) :: st) :=
  go_callV C (ci := 2) (r9 := (RX2, TX2, 23)) (qi := 5) (As := [.int z]) (rest := st) rfl rfl (c_X2_partsByTotal l D cI cJ cZ cO N0 a S M ov z hok) ⟨rfl, by decide +kernel, by decide +kernel⟩ bl_RL_164 bi_yX2_partsByTotal bs_yX2_partsByTotal bz_NoticeBookModel bc_yX2_partsByTotal (show Option.map (fun d => d.parameters.length) (parseMethodDescriptor yX2_partsByTotal.desc) = some 1 by decide +kernel) hR hcs hcat dk (fun r w2 h => by
    rcases h with ⟨h9, rfl, rfl⟩ | ⟨v9, h9, rfl, rfl⟩
    · exact g0 h9
    · exact g1 v9 h9) rfl
set_option maxHeartbeats 4000000 in
set_option maxRecDepth 100000 in
theorem c_X2_paid (l : Launch) (D : va_G) (cI cJ cZ cO : ClassId) (N0 : Nat) (a : Nat → Nat) (S : CS) (M : MS) (ov : Nat → Int64) (z : Int32)  : Ct l D (tysW cI cJ cZ cO) N0 yX2_paid cX2_paid 2 (some .long) { frames := 2, cells := 0, slots := 0, locals := 42 } [.ref (a 5), .int z] (wW cI cJ cZ cO a S M ov) (fun r w2 => (kCu z = 0 ∧ r = some (.long (ms_paid M (Int32.toNatClampNeg z))) ∧ w2 = wW cI cJ cZ cO a S (mT0 M) ov) ∨ (¬ kCu z = 0 ∧ r = some (.long 0) ∧ w2 = wW cI cJ cZ cO a S (ms_set_thr M (kCu z)) ov)) := by
  refine ct_of (by decide +kernel) (Nat.le_of_ble_eq_true rfl) ?_
  intro p e s m args below meth c C
  have C : Cxt p s m args meth c D (tysW cI cJ cZ cO) N0 cX2_paid 2 RX2 (some .long) "paid" := C
  refine go_aload_n C 0 dX2_paid_0 rfl rfl ?_
  refine go_iload_n C 1 dX2_paid_1 rfl rfl ?_
  refine k_RX2_111 C S M ov z ⟨(Nat.le_of_ble_eq_true rfl), (Nat.le_of_ble_eq_true rfl)⟩ ⟨(Nat.le_of_ble_eq_true rfl), (Nat.le_of_ble_eq_true rfl)⟩ (Nat.le_of_ble_eq_true rfl) dX2_paid_2 ?_
  refine go_if_eq C (tgt := 12) dX2_paid_5 (by decide) (fun c_1 => ?_) (fun c_1 => ?_)
  · refine go_iconst C (v := 1) dX2_paid_12 (by decide) ?_
    refine pm_thrown C dX2_paid_13 ?_
    refine go_aload_n C 0 dX2_paid_16 rfl rfl ?_
    refine gm_thrown C dX2_paid_17 ?_
    refine go_st (st2 := [.int 1]) rfl ?_
    refine go_if_ne C (tgt := 32) dX2_paid_20 (by decide) (fun c_2 => ?_) (fun c_2 => absurd c_2 (by decide))
    refine go_lconst C (v := 0) dX2_paid_32 (by decide) ?_
    exact go_lreturn C rfl dX2_paid_33 (by decide) (by decide) (Or.inr (by rw [show kCu z = 1 from by simp only [kCu, if_pos c_1]]; exact ⟨by decide, rfl, rfl⟩))
  · refine go_iconst C (v := 0) dX2_paid_8 (by decide) ?_
    refine go_goto C (tgt := 13) dX2_paid_9 (by decide) ?_
    refine pm_thrown C dX2_paid_13 ?_
    refine go_aload_n C 0 dX2_paid_16 rfl rfl ?_
    refine gm_thrown C dX2_paid_17 ?_
    refine go_st (st2 := [.int 0]) rfl ?_
    refine go_if_ne C (tgt := 32) dX2_paid_20 (by decide) (fun c_3 => absurd c_3 (by decide)) (fun c_3 => ?_)
    refine go_aload_n C 0 dX2_paid_23 rfl rfl ?_
    refine gm_paidTo C dX2_paid_24 ?_
    refine go_iload_n C 1 dX2_paid_27 rfl rfl ?_
    refine lm_paidTo C (mCu_in c_1) dX2_paid_28 ?_
    refine go_goto C (tgt := 33) dX2_paid_29 (by decide) ?_
    exact go_lreturn C rfl dX2_paid_33 (by decide) (by decide) (Or.inl ⟨by simp only [kCu, if_neg c_1], rfl, rfl⟩)
theorem k_RL_167 {p : Program} {l : Launch} {e : Env} {R : Room} {s : State} {m : MethodId} {args : Array Value} {below : List Frame} {meth : Method} {c : Code} {D : va_G} {N0 mL : Nat} {cc : ByteArray} {nm : String} {ret : Option FieldType} {Q : State → Prop} {k n pc : Nat} {lo : List (Nat × Value)} {st : List Value} {cI cJ cZ cO : ClassId} {a : Nat → Nat} (C : Cxt p s m args meth c D (tysW cI cJ cZ cO) N0 cc mL RL ret nm) (S : CS) (M : MS) (ov : Nat → Int64) (z : Int32)  (hR : 2 + 1 ≤ R.frames ∧ 8 + (2 + 11) + 42 ≤ R.locals) (hcs : k + 0 ≤ R.cells ∧ n + 0 ≤ R.slots) (hcat : (st.map fun v => v.category).sum ≤ 8) (dk : decode cc pc = .ok (.invokevirtual 167, 3)) (g0 : (kCu z = 0) → Go p l e R s m args below meth c D N0 mL Q (wW cI cJ cZ cO a S (mT0 M) ov) (k) (n) (pc + 3) lo (.long (ms_paid M (Int32.toNatClampNeg z)) :: st)) (g1 : (¬ kCu z = 0) → Go p l e R s m args below meth c D N0 mL Q (wW cI cJ cZ cO a S (ms_set_thr M (kCu z)) ov) (k) (n) (pc + 3) lo (.long 0 :: st)) : Go p l e R s m args below meth c D N0 mL Q (wW cI cJ cZ cO a S M ov) k n pc lo (.int z :: .ref (a 5) :: st) :=
  go_callV C (ci := 2) (r9 := (RX2, TX2, 23)) (qi := 5) (As := [.int z]) (rest := st) rfl rfl (c_X2_paid l D cI cJ cZ cO N0 a S M ov z ) ⟨rfl, by decide +kernel, by decide +kernel⟩ bl_RL_167 bi_yX2_paid bs_yX2_paid bz_NoticeBookModel bc_yX2_paid (show Option.map (fun d => d.parameters.length) (parseMethodDescriptor yX2_paid.desc) = some 1 by decide +kernel) hR hcs hcat dk (fun r w2 h => by
    rcases h with ⟨h9, rfl, rfl⟩ | ⟨h9, rfl, rfl⟩
    · exact g0 h9
    · exact g1 h9) rfl
set_option maxHeartbeats 4000000 in
set_option maxRecDepth 100000 in
theorem c_X2_lost (l : Launch) (D : va_G) (cI cJ cZ cO : ClassId) (N0 : Nat) (a : Nat → Nat) (S : CS) (M : MS) (ov : Nat → Int64) (z : Int32)  : Ct l D (tysW cI cJ cZ cO) N0 yX2_lost cX2_lost 2 (some .long) { frames := 2, cells := 0, slots := 0, locals := 42 } [.ref (a 5), .int z] (wW cI cJ cZ cO a S M ov) (fun r w2 => (kCu z = 0 ∧ r = some (.long (ms_lost M (Int32.toNatClampNeg z))) ∧ w2 = wW cI cJ cZ cO a S (mT0 M) ov) ∨ (¬ kCu z = 0 ∧ r = some (.long 0) ∧ w2 = wW cI cJ cZ cO a S (ms_set_thr M (kCu z)) ov)) := by
  refine ct_of (by decide +kernel) (Nat.le_of_ble_eq_true rfl) ?_
  intro p e s m args below meth c C
  have C : Cxt p s m args meth c D (tysW cI cJ cZ cO) N0 cX2_lost 2 RX2 (some .long) "lost" := C
  refine go_aload_n C 0 dX2_lost_0 rfl rfl ?_
  refine go_iload_n C 1 dX2_lost_1 rfl rfl ?_
  refine k_RX2_111 C S M ov z ⟨(Nat.le_of_ble_eq_true rfl), (Nat.le_of_ble_eq_true rfl)⟩ ⟨(Nat.le_of_ble_eq_true rfl), (Nat.le_of_ble_eq_true rfl)⟩ (Nat.le_of_ble_eq_true rfl) dX2_lost_2 ?_
  refine go_if_eq C (tgt := 12) dX2_lost_5 (by decide) (fun c_1 => ?_) (fun c_1 => ?_)
  · refine go_iconst C (v := 1) dX2_lost_12 (by decide) ?_
    refine pm_thrown C dX2_lost_13 ?_
    refine go_aload_n C 0 dX2_lost_16 rfl rfl ?_
    refine gm_thrown C dX2_lost_17 ?_
    refine go_st (st2 := [.int 1]) rfl ?_
    refine go_if_ne C (tgt := 32) dX2_lost_20 (by decide) (fun c_2 => ?_) (fun c_2 => absurd c_2 (by decide))
    refine go_lconst C (v := 0) dX2_lost_32 (by decide) ?_
    exact go_lreturn C rfl dX2_lost_33 (by decide) (by decide) (Or.inr (by rw [show kCu z = 1 from by simp only [kCu, if_pos c_1]]; exact ⟨by decide, rfl, rfl⟩))
  · refine go_iconst C (v := 0) dX2_lost_8 (by decide) ?_
    refine go_goto C (tgt := 13) dX2_lost_9 (by decide) ?_
    refine pm_thrown C dX2_lost_13 ?_
    refine go_aload_n C 0 dX2_lost_16 rfl rfl ?_
    refine gm_thrown C dX2_lost_17 ?_
    refine go_st (st2 := [.int 0]) rfl ?_
    refine go_if_ne C (tgt := 32) dX2_lost_20 (by decide) (fun c_3 => absurd c_3 (by decide)) (fun c_3 => ?_)
    refine go_aload_n C 0 dX2_lost_23 rfl rfl ?_
    refine gm_lostBy C dX2_lost_24 ?_
    refine go_iload_n C 1 dX2_lost_27 rfl rfl ?_
    refine lm_lostBy C (mCu_in c_1) dX2_lost_28 ?_
    refine go_goto C (tgt := 33) dX2_lost_29 (by decide) ?_
    exact go_lreturn C rfl dX2_lost_33 (by decide) (by decide) (Or.inl ⟨by simp only [kCu, if_neg c_1], rfl, rfl⟩)
theorem k_RL_170 {p : Program} {l : Launch} {e : Env} {R : Room} {s : State} {m : MethodId} {args : Array Value} {below : List Frame} {meth : Method} {c : Code} {D : va_G} {N0 mL : Nat} {cc : ByteArray} {nm : String} {ret : Option FieldType} {Q : State → Prop} {k n pc : Nat} {lo : List (Nat × Value)} {st : List Value} {cI cJ cZ cO : ClassId} {a : Nat → Nat} (C : Cxt p s m args meth c D (tysW cI cJ cZ cO) N0 cc mL RL ret nm) (S : CS) (M : MS) (ov : Nat → Int64) (z : Int32)  (hR : 2 + 1 ≤ R.frames ∧ 8 + (2 + 11) + 42 ≤ R.locals) (hcs : k + 0 ≤ R.cells ∧ n + 0 ≤ R.slots) (hcat : (st.map fun v => v.category).sum ≤ 8) (dk : decode cc pc = .ok (.invokevirtual 170, 3)) (g0 : (kCu z = 0) → Go p l e R s m args below meth c D N0 mL Q (wW cI cJ cZ cO a S (mT0 M) ov) (k) (n) (pc + 3) lo (.long (ms_lost M (Int32.toNatClampNeg z)) :: st)) (g1 : (¬ kCu z = 0) → Go p l e R s m args below meth c D N0 mL Q (wW cI cJ cZ cO a S (ms_set_thr M (kCu z)) ov) (k) (n) (pc + 3) lo (.long 0 :: st)) : Go p l e R s m args below meth c D N0 mL Q (wW cI cJ cZ cO a S M ov) k n pc lo (.int z :: .ref (a 5) :: st) :=
  go_callV C (ci := 2) (r9 := (RX2, TX2, 23)) (qi := 5) (As := [.int z]) (rest := st) rfl rfl (c_X2_lost l D cI cJ cZ cO N0 a S M ov z ) ⟨rfl, by decide +kernel, by decide +kernel⟩ bl_RL_170 bi_yX2_lost bs_yX2_lost bz_NoticeBookModel bc_yX2_lost (show Option.map (fun d => d.parameters.length) (parseMethodDescriptor yX2_lost.desc) = some 1 by decide +kernel) hR hcs hcat dk (fun r w2 h => by
    rcases h with ⟨h9, rfl, rfl⟩ | ⟨h9, rfl, rfl⟩
    · exact g0 h9
    · exact g1 h9) rfl
