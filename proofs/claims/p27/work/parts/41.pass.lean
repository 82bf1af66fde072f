set_option maxHeartbeats 4000000 in
set_option maxRecDepth 100000 in
theorem c_X1_pass (l : Launch) (hlf : l.stackTraces = false) (D : va_G) (cI cJ cO : ClassId) (N0 : Nat) (a : Nat → Nat) (S : CS) (M : LWS) (ov : va_W) (d : Int32) (hok : okX S) : CtX l D (tysW cI cJ cO) N0 yX1_pass cX1_pass 4 (some .int) { frames := 7, cells := 2, slots := 12, locals := 111 } [.ref (a 0), .int d] (wW cI cJ cO a S M ov) (fun r w2 => psC S d = 0 ∧ r = some (.int (psTo (ntTo S 4) (Int32.toNatClampNeg d)).1) ∧ w2 = wW cI cJ cO a (psTo (ntTo S 4) (Int32.toNatClampNeg d)).2 M ov) (fun E w2 => (psC S d ≠ 0 ∧ E = exN (psC S d)) ∧ w2 = wW cI cJ cO a S M ov) := by
  refine ctx_of (by decide +kernel) (Nat.le_of_ble_eq_true rfl) ?_
  intro p e s m args below meth c C ht
  have C : Cxt p s m args meth c D (tysW cI cJ cO) N0 cX1_pass 4 RX1 (some .int) "pass" := C
  refine go_iload_n C 1 dX1_pass_0 rfl rfl ?_
  refine go_iconst C (v := 1) dX1_pass_1 (by decide) ?_
  refine go_bipush C (v := 100) dX1_pass_2 (by decide) ?_
  refine k_RX1_47 C hlf S M ov d 1 100 ⟨(Nat.le_of_ble_eq_true rfl), (Nat.le_of_ble_eq_true rfl)⟩ ⟨(Nat.le_of_ble_eq_true rfl), (Nat.le_of_ble_eq_true rfl)⟩ (Nat.le_of_ble_eq_true rfl) dX1_pass_4 (fun E hE_1 => gox_out C ht (⟨xc_A (by simp only [psC, if_neg (ne0_2 hE_1.2)]) hE_1.1, rfl⟩) (by decide) (by decide)) (fun h_2 => ?_)
  refine go_aload_n C 0 dX1_pass_7 rfl rfl ?_
  refine gx_day C dX1_pass_8 ?_
  refine go_iload_n C 1 dX1_pass_11 rfl rfl ?_
  refine go_iadd C dX1_pass_12 ?_
  refine go_sipush C (v := 3000) dX1_pass_13 (by decide) ?_
  refine go_icmp_le C (tgt := 29) dX1_pass_16 (by decide) (fun c_3 => ?_) (fun c_3 => ?_)
  · refine go_iconst C (v := 0) dX1_pass_29 (by decide) ?_
    refine go_istore_n C (lo' := [(2, .int 0), (0, .ref (a 0)), (1, .int d)]) dX1_pass_30 rfl (by decide) rfl ?_
    refine go_for (4) (fun i => True) (fun i => wW cI cJ cO a (ntTo S i) M ov) (fun i => [(2, .int (nI i)), (0, .ref (a 0)), (1, .int d)]) ⟨rfl, rfl⟩ trivial (fun i hi_i hI_i ih_i => ?_) (fun hI_i => ?_)
    · refine go_iload_n C 0 dX1_pass_31 rfl rfl ?_
      refine go_iconst C (v := 4) dX1_pass_32 (by decide) ?_
      refine go_icmp_ge C (tgt := 47) dX1_pass_33 (by decide) (fun c_4 => absurd c_4 (nI_ge (b := 4) hi_i (by decide))) (fun c_4 => ?_)
      refine go_aload_n C 1 dX1_pass_36 rfl rfl ?_
      refine go_iload_n C 0 dX1_pass_37 rfl rfl ?_
      refine k_RX1_107 C (ntTo S i) M ov (nI i) ((fx_nt S i).ok hok) ⟨(Nat.le_of_ble_eq_true rfl), (Nat.le_of_ble_eq_true rfl)⟩ ⟨(Nat.le_of_ble_eq_true rfl), (Nat.le_of_ble_eq_true rfl)⟩ (Nat.le_of_ble_eq_true rfl) dX1_pass_38 ?_
      refine go_iinc C (v := nI (i + 1)) (lo' := [(2, .int (nI (i + 1))), (0, .ref (a 0)), (1, .int d)]) 0 dX1_pass_41 rfl (nI_1 _) (by decide) rfl ?_
      refine go_goto C (tgt := 31) dX1_pass_44 (by decide) ?_
      refine go_lo (lo' := [(2, .int (nI (i + 1))), (0, .ref (a 0)), (1, .int d)]) [0, 1, 2] (by rfl) ?_
      exact ih_i trivial
    · refine go_iload_n C 0 dX1_pass_31 rfl rfl ?_
      refine go_iconst C (v := 4) dX1_pass_32 (by decide) ?_
      refine go_icmp_ge C (tgt := 47) dX1_pass_33 (by decide) (fun c_5 => ?_) (fun c_5 => absurd (nI_le (a := 4) (b := 4) (Nat.le_refl 4) (by decide)) c_5)
      refine go_iconst C (v := 0) dX1_pass_47 (by decide) ?_
      refine go_istore_n C (lo' := [(2, .int 0), (0, .ref (a 0)), (1, .int d)]) dX1_pass_48 rfl (by decide) rfl ?_
      refine go_iconst C (v := 0) dX1_pass_49 (by decide) ?_
      refine go_istore_n C (lo' := [(3, .int 0), (2, .int 0), (0, .ref (a 0)), (1, .int d)]) dX1_pass_50 rfl (by decide) rfl ?_
      have hd := demR_nI h_2
      refine go_for ((Int32.toNatClampNeg d)) (fun t => True) (fun t => wW cI cJ cO a (psTo (ntTo S 4) t).2 M ov) (fun t => [(3, .int (nI t)), (2, .int (psTo (ntTo S 4) t).1), (0, .ref (a 0)), (1, .int d)]) ⟨rfl, rfl⟩ trivial (fun t hi_t hI_t ih_t => ?_) (fun hI_t => ?_)
      · have hoki : okX (psTo (ntTo S 4) t).2 := (fx_ps _ t).ok ((fx_nt S 4).ok hok)
        refine go_iload_n C 0 dX1_pass_51 rfl rfl ?_
        refine go_iload_n C 3 dX1_pass_52 rfl rfl ?_
        refine go_icmp_ge C (tgt := 83) dX1_pass_53 (by decide) (fun c_6 => absurd c_6 (by rw [hd.1]; exact nI_ge hi_t (by omega))) (fun c_6 => ?_)
        refine go_aload_n C 2 dX1_pass_56 rfl rfl ?_
        refine k_RX1_158 C (psTo (ntTo S 4) t).2 M ov hoki ⟨(Nat.le_of_ble_eq_true rfl), (Nat.le_of_ble_eq_true rfl)⟩ ⟨(Nat.le_of_ble_eq_true rfl), (Nat.le_of_ble_eq_true rfl)⟩ (Nat.le_of_ble_eq_true rfl) dX1_pass_57 ?_
        refine go_aload_n C 2 dX1_pass_60 rfl rfl ?_
        refine go_dup C dX1_pass_61 rfl ?_
        refine gx_day C dX1_pass_62 ?_
        refine go_iconst C (v := 1) dX1_pass_65 (by decide) ?_
        refine go_iadd C dX1_pass_66 ?_
        refine px_day C dX1_pass_67 ?_
        refine go_w (w2 := wW cI cJ cO a (ps1 (psTo (ntTo S 4) t).2) M ov) rfl ?_
        refine go_iload_n C 1 dX1_pass_70 rfl rfl ?_
        refine go_aload_n C 2 dX1_pass_71 rfl rfl ?_
        refine k_RX1_161 C (ps1 (psTo (ntTo S 4) t).2) M ov hoki ⟨(Nat.le_of_ble_eq_true rfl), (Nat.le_of_ble_eq_true rfl)⟩ ⟨(Nat.le_of_ble_eq_true rfl), (Nat.le_of_ble_eq_true rfl)⟩ (Nat.le_of_ble_eq_true rfl) dX1_pass_72 ?_
        refine go_iadd C dX1_pass_75 ?_
        refine go_istore_n C (lo' := [(2, .int ((psTo (ntTo S 4) t).1 + (bdTo (ps1 (psTo (ntTo S 4) t).2) (cs_n (ps1 (psTo (ntTo S 4) t).2))).1)), (3, .int (nI t)), (0, .ref (a 0)), (1, .int d)]) dX1_pass_76 rfl (by decide) rfl ?_
        refine go_iinc C (v := nI (t + 1)) (lo' := [(3, .int (nI (t + 1))), (2, .int ((psTo (ntTo S 4) t).1 + (bdTo (ps1 (psTo (ntTo S 4) t).2) (cs_n (ps1 (psTo (ntTo S 4) t).2))).1)), (0, .ref (a 0)), (1, .int d)]) 1 dX1_pass_77 rfl (nI_1 _) (by decide) rfl ?_
        refine go_goto C (tgt := 51) dX1_pass_80 (by decide) ?_
        refine go_lo (lo' := [(3, .int (nI (t + 1))), (2, .int (psTo (ntTo S 4) (t + 1)).1), (0, .ref (a 0)), (1, .int d)]) [0, 1, 2, 3] (by rfl) ?_
        exact ih_t trivial
      · refine go_iload_n C 0 dX1_pass_51 rfl rfl ?_
        refine go_iload_n C 3 dX1_pass_52 rfl rfl ?_
        refine go_icmp_ge C (tgt := 83) dX1_pass_53 (by decide) (fun c_7 => ?_) (fun c_7 => absurd (by rw [← hd.1]; exact Int32.le_refl _) c_7)
        refine go_iload_n C 1 dX1_pass_83 rfl rfl ?_
        exact go_x (go_ireturn C rfl dX1_pass_84 (by decide) (by decide) ⟨by simp only [psC, if_pos c_3, if_pos h_2], rfl, rfl⟩)
  · exact go_throw C hlf ht (names := nb_names) (text := "beyond the last day") rfl mem_S fit_nb_S nb_names_fit bcl_RX1_83 bz_IllegalStateException (List.mem_of_getElem? (i := 4) rfl) hat_nb_S_87 hat2_nb_S_87 hgood_nb_S_83_87 dX1_pass_19 dX1_pass_22 dX1_pass_23 dX1_pass_25 dX1_pass_28 (by decide) (by decide) (by decide) (by decide) ⟨xc_S (by simp only [psC, if_neg c_3, if_pos h_2]) rfl, rfl⟩ (by decide) (by decide)
theorem k_RL_137 {p : Program} {l : Launch} {e : Env} {R : Room} {s : State} {m : MethodId} {args : Array Value} {below : List Frame} {meth : Method} {c : Code} {D : va_G} {N0 mL : Nat} {cc : ByteArray} {nm : String} {ret : Option FieldType} {Q : State → Prop} {k n pc : Nat} {lo : List (Nat × Value)} {st : List Value} {cI cJ cO : ClassId} {a : Nat → Nat} (C : Cxt p s m args meth c D (tysW cI cJ cO) N0 cc mL RL ret nm) (hlf : l.stackTraces = false) (S : CS) (M : LWS) (ov : va_W) (d : Int32) (hok : okX S) (hR : 7 + 1 ≤ R.frames ∧ 8 + (4 + 11) + 111 ≤ R.locals) (hcs : k + 2 ≤ R.cells ∧ n + 12 ≤ R.slots) (hcat : (st.map fun v => v.category).sum ≤ 8) (dk : decode cc pc = .ok (.invokevirtual 137, 3)) (gx : ∀ E : String, (psC S d ≠ 0 ∧ E = exN (psC S d)) → GoX p l e R s m args below meth c D N0 mL Q (wW cI cJ cO a S M ov) (k + 2) (n + 12) pc lo E) (g : (psC S d = 0) → Go p l e R s m args below meth c D N0 mL Q (wW cI cJ cO a (psTo (ntTo S 4) (Int32.toNatClampNeg d)).2 M ov) (k + 2) (n + 12) (pc + 3) lo (.int (psTo (ntTo S 4) (Int32.toNatClampNeg d)).1 :: st)) : Go p l e R s m args below meth c D N0 mL Q (wW cI cJ cO a S M ov) k n pc lo (.int d :: .ref (a 0) :: st) :=
  go_callVX C (ci := 1) (r9 := (RX1, TX1, 8)) (qi := 0) (As := [.int d]) (rest := st) rfl rfl (c_X1_pass l hlf D cI cJ cO N0 a S M ov d hok) ⟨rfl, by decide +kernel, by decide +kernel⟩ bl_RL_137 bi_yX1_pass bs_yX1_pass bz_NoticeBook bc_yX1_pass (show Option.map (fun d => d.parameters.length) (parseMethodDescriptor yX1_pass.desc) = some 1 by decide +kernel) hR hcs hcat dk (fun E w2 h => by obtain ⟨h9, rfl⟩ := h; exact gx E h9) (fun r w2 h => by obtain ⟨h9, rfl, rfl⟩ := h; exact g h9) rfl
