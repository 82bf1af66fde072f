set_option maxHeartbeats 4000000 in
set_option maxRecDepth 100000 in
theorem c_X2_asksFor (l : Launch) (D : va_G) (cI cJ cZ cO : ClassId) (N0 : Nat) (a : Nat → Nat) (S : CS) (M : MS) (ov : Nat → Int64) (z : Int32) (hok : okM M) : Ct l D (tysW cI cJ cZ cO) N0 yX2_asksFor cX2_asksFor 2 (some .boolean) { frames := 2, cells := 0, slots := 0, locals := 43 } [.ref (a 5), .int z] (wW cI cJ cZ cO a S M ov) (fun r w2 => (kAs M z = 0 ∧ r = some (.int 1) ∧ w2 = wW cI cJ cZ cO a S (mT0 M) ov) ∨ (¬ kAs M z = 0 ∧ r = some (.int 0) ∧ w2 = wW cI cJ cZ cO a S (ms_set_thr M (kAs M z)) ov)) := by
  refine ct_of (by decide +kernel) (Nat.le_of_ble_eq_true rfl) ?_
  intro p e s m args below meth c C
  have C : Cxt p s m args meth c D (tysW cI cJ cZ cO) N0 cX2_asksFor 2 RX2 (some .boolean) "asksFor" := C
  refine go_aload_n C 0 dX2_asksFor_0 rfl rfl ?_
  refine go_aload_n C 0 dX2_asksFor_1 rfl rfl ?_
  refine go_iload_n C 1 dX2_asksFor_2 rfl rfl ?_
  refine k_RX2_126 C S M ov z hok ⟨(Nat.le_of_ble_eq_true rfl), (Nat.le_of_ble_eq_true rfl)⟩ ⟨(Nat.le_of_ble_eq_true rfl), (Nat.le_of_ble_eq_true rfl)⟩ (Nat.le_of_ble_eq_true rfl) dX2_asksFor_3 ?_
  refine go_if_eq C (tgt := 13) dX2_asksFor_6 (by decide) (fun c_1 => ?_) (fun c_1 => ?_)
  · refine go_iconst C (v := 1) dX2_asksFor_13 (by decide) ?_
    refine pm_thrown C dX2_asksFor_14 ?_
    refine go_aload_n C 0 dX2_asksFor_17 rfl rfl ?_
    refine gm_thrown C dX2_asksFor_18 ?_
    refine go_st (st2 := [.int 1]) rfl ?_
    refine go_if_ne C (tgt := 28) dX2_asksFor_21 (by decide) (fun c_2 => ?_) (fun c_2 => absurd c_2 (by decide))
    refine go_iconst C (v := 0) dX2_asksFor_28 (by decide) ?_
    exact go_zreturn C rfl rfl dX2_asksFor_29 (by decide) (by decide) (Or.inr (by rw [show kAs M z = 1 from by simp only [kAs, if_pos c_1]]; exact ⟨by decide, rfl, rfl⟩))
  · refine go_iconst C (v := 0) dX2_asksFor_9 (by decide) ?_
    refine go_goto C (tgt := 14) dX2_asksFor_10 (by decide) ?_
    refine pm_thrown C dX2_asksFor_14 ?_
    refine go_aload_n C 0 dX2_asksFor_17 rfl rfl ?_
    refine gm_thrown C dX2_asksFor_18 ?_
    refine go_st (st2 := [.int 0]) rfl ?_
    refine go_if_ne C (tgt := 28) dX2_asksFor_21 (by decide) (fun c_3 => absurd c_3 (by decide)) (fun c_3 => ?_)
    refine go_iconst C (v := 1) dX2_asksFor_24 (by decide) ?_
    refine go_goto C (tgt := 29) dX2_asksFor_25 (by decide) ?_
    exact go_zreturn C rfl rfl dX2_asksFor_29 (by decide) (by decide) (Or.inl ⟨by simp only [kAs, if_neg c_1], rfl, rfl⟩)
theorem k_RX2_149 {p : Program} {l : Launch} {e : Env} {R : Room} {s : State} {m : MethodId} {args : Array Value} {below : List Frame} {meth : Method} {c : Code} {D : va_G} {N0 mL : Nat} {cc : ByteArray} {nm : String} {ret : Option FieldType} {Q : State → Prop} {k n pc : Nat} {lo : List (Nat × Value)} {st : List Value} {cI cJ cZ cO : ClassId} {a : Nat → Nat} (C : Cxt p s m args meth c D (tysW cI cJ cZ cO) N0 cc mL RX2 ret nm) (S : CS) (M : MS) (ov : Nat → Int64) (z : Int32) (hok : okM M) (hR : 2 + 1 ≤ R.frames ∧ 8 + (2 + 11) + 43 ≤ R.locals) (hcs : k + 0 ≤ R.cells ∧ n + 0 ≤ R.slots) (hcat : (st.map fun v => v.category).sum ≤ 8) (dk : decode cc pc = .ok (.invokevirtual 149, 3)) (g0 : (kAs M z = 0) → Go p l e R s m args below meth c D N0 mL Q (wW cI cJ cZ cO a S (mT0 M) ov) (k) (n) (pc + 3) lo (.int 1 :: st)) (g1 : (¬ kAs M z = 0) → Go p l e R s m args below meth c D N0 mL Q (wW cI cJ cZ cO a S (ms_set_thr M (kAs M z)) ov) (k) (n) (pc + 3) lo (.int 0 :: st)) : Go p l e R s m args below meth c D N0 mL Q (wW cI cJ cZ cO a S M ov) k n pc lo (.int z :: .ref (a 5) :: st) :=
  go_callV C (ci := 2) (r9 := (RX2, TX2, 23)) (qi := 5) (As := [.int z]) (rest := st) rfl rfl (c_X2_asksFor l D cI cJ cZ cO N0 a S M ov z hok) ⟨rfl, by decide +kernel, by decide +kernel⟩ bl_RX2_149 bi_yX2_asksFor bs_yX2_asksFor bz_NoticeBookModel bc_yX2_asksFor (show Option.map (fun d => d.parameters.length) (parseMethodDescriptor yX2_asksFor.desc) = some 1 by decide +kernel) hR hcs hcat dk (fun r w2 h => by
    rcases h with ⟨h9, rfl, rfl⟩ | ⟨h9, rfl, rfl⟩
    · exact g0 h9
    · exact g1 h9) rfl
