set_option maxHeartbeats 4000000 in
set_option maxRecDepth 100000 in
theorem c_X1_early (l : Launch) (hlf : l.stackTraces = false) (D : va_G) (cI cJ cO : ClassId) (N0 : Nat) (a : Nat → Nat) (S : CS) (M : LWS) (ov : va_W) (cu c9 : Int32) (hok : okX S) : CtX l D (tysW cI cJ cO) N0 yX1_early cX1_early 8 (some .int) { frames := 7, cells := 3, slots := 18, locals := 104 } [.ref (a 0), .int cu, .int c9] (wW cI cJ cO a S M ov) (fun r w2 => eaC S cu c9 = 0 ∧ r = some (.int (erTo (noteX S cu) cu c9 (cs_n S)).2.1) ∧ w2 = wW cI cJ cO a (erTo (noteX S cu) cu c9 (cs_n S)).2.2 M ov) (fun E w2 => (eaC S cu c9 ≠ 0 ∧ E = exN (eaC S cu c9)) ∧ w2 = wW cI cJ cO a S M ov) := by
  refine ctx_of (by decide +kernel) (Nat.le_of_ble_eq_true rfl) ?_
  intro p e s m args below meth c C ht
  have C : Cxt p s m args meth c D (tysW cI cJ cO) N0 cX1_early 8 RX1 (some .int) "early" := C
  refine go_iload_n C 1 dX1_early_0 rfl rfl ?_
  refine k_RX1_51 C hlf S M ov cu ⟨(Nat.le_of_ble_eq_true rfl), (Nat.le_of_ble_eq_true rfl)⟩ ⟨(Nat.le_of_ble_eq_true rfl), (Nat.le_of_ble_eq_true rfl)⟩ (Nat.le_of_ble_eq_true rfl) dX1_early_1 (fun E hE_1 => gox_out C ht (⟨xc_I (by simp only [eaC, if_neg (ne0_1 hE_1.2)]) hE_1.1, rfl⟩) (by decide) (by decide)) (fun h_2 => ?_)
  refine go_iload_n C 2 dX1_early_4 rfl rfl ?_
  refine go_iconst C (v := 1) dX1_early_5 (by decide) ?_
  refine go_ldc C bk_RX1_100 dX1_early_6 ?_
  refine k_RX1_47 C hlf S M ov c9 1 100000000 ⟨(Nat.le_of_ble_eq_true rfl), (Nat.le_of_ble_eq_true rfl)⟩ ⟨(Nat.le_of_ble_eq_true rfl), (Nat.le_of_ble_eq_true rfl)⟩ (Nat.le_of_ble_eq_true rfl) dX1_early_8 (fun E hE_3 => gox_out C ht (⟨xc_A (by simp only [eaC, if_pos h_2, if_neg (ne0_2 hE_3.2)]) hE_3.1, rfl⟩) (by decide) (by decide)) (fun h_4 => ?_)
  refine go_aload_n C 0 dX1_early_11 rfl rfl ?_
  refine go_iload_n C 1 dX1_early_12 rfl rfl ?_
  refine k_RX1_101 C S M ov cu hok ⟨(Nat.le_of_ble_eq_true rfl), (Nat.le_of_ble_eq_true rfl)⟩ ⟨(Nat.le_of_ble_eq_true rfl), (Nat.le_of_ble_eq_true rfl)⟩ (Nat.le_of_ble_eq_true rfl) dX1_early_13 ?_
  refine go_iload_n C 2 dX1_early_16 rfl rfl ?_
  refine go_icmp_ge C (tgt := 30) dX1_early_17 (by decide) (fun c_5 => ?_) (fun c_5 => ?_)
  · refine go_aload_n C 0 dX1_early_30 rfl rfl ?_
    refine go_iload_n C 1 dX1_early_31 rfl rfl ?_
    refine k_RX1_107 C S M ov cu hok ⟨(Nat.le_of_ble_eq_true rfl), (Nat.le_of_ble_eq_true rfl)⟩ ⟨(Nat.le_of_ble_eq_true rfl), (Nat.le_of_ble_eq_true rfl)⟩ (Nat.le_of_ble_eq_true rfl) dX1_early_32 ?_
    refine go_iload_n C 2 dX1_early_35 rfl rfl ?_
    refine go_istore_n C (lo' := [(3, .int c9), (0, .ref (a 0)), (1, .int cu), (2, .int c9)]) dX1_early_36 rfl (by decide) rfl ?_
    refine go_iconst C (v := 0) dX1_early_37 (by decide) ?_
    refine go_istore C (lo' := [(4, .int 0), (3, .int c9), (0, .ref (a 0)), (1, .int cu), (2, .int c9)]) dX1_early_38 (by decide) rfl ?_
    refine go_iconst C (v := 0) dX1_early_40 (by decide) ?_
    refine go_istore C (lo' := [(5, .int 0), (4, .int 0), (3, .int c9), (0, .ref (a 0)), (1, .int cu), (2, .int c9)]) dX1_early_41 (by decide) rfl ?_
    refine go_for (cs_n S) (fun i => True) (fun i => wW cI cJ cO a (erTo (noteX S cu) cu c9 i).2.2 M ov) (fun i => [(5, .int (nI i)), (4, .int (erTo (noteX S cu) cu c9 i).2.1), (3, .int (erTo (noteX S cu) cu c9 i).1), (0, .ref (a 0)), (1, .int cu), (2, .int c9)]) ⟨rfl, rfl⟩ trivial (fun i hi_i hI_i ih_i => ?_) (fun hI_i => ?_)
    · have hoki : okX (erTo (noteX S cu) cu c9 i).2.2 := (fx_er _ _ _ i).ok hok
      refine go_iload C 0 dX1_early_43 rfl ?_
      refine go_aload_n C 3 dX1_early_45 rfl rfl ?_
      refine gx_lotsMade C dX1_early_46 ?_
      refine go_icmp_ge C (tgt := 119) dX1_early_49 (by decide) (fun c_6 => absurd c_6 (by rw [(fx_er (noteX S cu) cu c9 i).1]; exact nI_nge hi_i hok.1)) (fun c_6 => ?_)
      refine go_iload_n C 2 dX1_early_52 rfl rfl ?_
      refine go_if_le C (tgt := 119) dX1_early_53 (by decide) (fun c_7 => ?_) (fun c_7 => ?_)
      · refine go_iload C 1 dX1_early_119 rfl ?_
        exact go_x (go_ireturn C rfl dX1_early_121 (by decide) (by decide) ⟨by simp only [eaC, if_pos h_2, if_pos h_4, if_pos c_5], by rw [er_end (er_0 c_7) hi_i], by rw [er_end (er_0 c_7) hi_i]⟩)
      · refine go_aload_n C 3 dX1_early_56 rfl rfl ?_
        refine go_iload_n C 4 dX1_early_57 rfl rfl ?_
        refine k_RX1_110 C (erTo (noteX S cu) cu c9 i).2.2 M ov cu hoki ⟨(Nat.le_of_ble_eq_true rfl), (Nat.le_of_ble_eq_true rfl)⟩ ⟨(Nat.le_of_ble_eq_true rfl), (Nat.le_of_ble_eq_true rfl)⟩ (Nat.le_of_ble_eq_true rfl) dX1_early_58 ?_
        rcases opt_c (lhTo (erTo (noteX S cu) cu c9 i).2.2 cu (cs_n (noteX S cu))) with hx_8 | ⟨j_9, hx_8⟩
        · refine go_st (st2 := [.null]) (by rw [(fx_er (noteX S cu) cu c9 i).1, hx_8]; rfl) ?_
          refine go_astoreq C (x := none) (lo' := [(6, .null), (5, .int (nI i)), (4, .int (erTo (noteX S cu) cu c9 i).2.1), (3, .int (erTo (noteX S cu) cu c9 i).1), (0, .ref (a 0)), (1, .int cu), (2, .int c9)]) dX1_early_61 (by decide) rfl ?_
          refine go_aloadq C (x := none) 0 dX1_early_63 rfl ?_
          refine go_ifnonnullN C dX1_early_65 ?_
          refine go_goto C (tgt := 119) dX1_early_68 (by decide) ?_
          refine go_iload C 2 dX1_early_119 rfl ?_
          exact go_x (go_ireturn C rfl dX1_early_121 (by decide) (by decide) ⟨by simp only [eaC, if_pos h_2, if_pos h_4, if_pos c_5], by rw [er_end (er_n c_7 hx_8) hi_i], by rw [er_end (er_n c_7 hx_8) hi_i]⟩)
        · refine go_st (st2 := [.ref (cs_la (erTo (noteX S cu) cu c9 i).2.2 j_9)]) (by rw [(fx_er (noteX S cu) cu c9 i).1, hx_8]; rfl) ?_
          refine go_astore C (lo' := [(6, .ref (cs_la (erTo (noteX S cu) cu c9 i).2.2 j_9)), (5, .int (nI i)), (4, .int (erTo (noteX S cu) cu c9 i).2.1), (3, .int (erTo (noteX S cu) cu c9 i).1), (0, .ref (a 0)), (1, .int cu), (2, .int c9)]) dX1_early_61 (by decide) rfl ?_
          refine go_aload C 0 dX1_early_63 rfl ?_
          refine go_ifnonnull C (tgt := 71) dX1_early_65 (by decide) ?_
          refine go_iload_n C 3 dX1_early_71 rfl rfl ?_
          refine go_aload C 0 dX1_early_72 rfl ?_
          refine k_RX1_113 C (erTo (noteX S cu) cu c9 i).2.2 M ov j_9 (lhTo_nc hoki hx_8) ⟨(Nat.le_of_ble_eq_true rfl), (Nat.le_of_ble_eq_true rfl)⟩ ⟨(Nat.le_of_ble_eq_true rfl), (Nat.le_of_ble_eq_true rfl)⟩ (Nat.le_of_ble_eq_true rfl) dX1_early_74 ?_
          refine go_min C (x := (erTo (noteX S cu) cu c9 i).1) (y := unf (cs_lt (erTo (noteX S cu) cu c9 i).2.2 j_9)) bl_RX1_117 bst_yJ9_min_7cf53 bz_Math bc_yJ9_min_7cf53 (by decide) (by decide) (by decide) (by decide) dX1_early_77 ?_
          refine go_st (st2 := [.int (erPart (erTo (noteX S cu) cu c9 i).1 (cs_lt (erTo (noteX S cu) cu c9 i).2.2 j_9))]) rfl ?_
          refine go_istore C (lo' := [(7, .int (erPart (erTo (noteX S cu) cu c9 i).1 (cs_lt (erTo (noteX S cu) cu c9 i).2.2 j_9))), (6, .ref (cs_la (erTo (noteX S cu) cu c9 i).2.2 j_9)), (5, .int (nI i)), (4, .int (erTo (noteX S cu) cu c9 i).2.1), (3, .int (erTo (noteX S cu) cu c9 i).1), (0, .ref (a 0)), (1, .int cu), (2, .int c9)]) dX1_early_80 (by decide) rfl ?_
          refine go_aload_n C 5 dX1_early_82 rfl rfl ?_
          refine go_aload C 1 dX1_early_83 rfl ?_
          refine go_aload C 1 dX1_early_85 rfl ?_
          refine go_iload C 0 dX1_early_87 rfl ?_
          refine k_RX1_123 C (erTo (noteX S cu) cu c9 i).2.2 M ov j_9 (erPart (erTo (noteX S cu) cu c9 i).1 (cs_lt (erTo (noteX S cu) cu c9 i).2.2 j_9)) (lhTo_nc hoki hx_8) ⟨(Nat.le_of_ble_eq_true rfl), (Nat.le_of_ble_eq_true rfl)⟩ ⟨(Nat.le_of_ble_eq_true rfl), (Nat.le_of_ble_eq_true rfl)⟩ (Nat.le_of_ble_eq_true rfl) dX1_early_89 ?_
          refine k_RX1_127 C (erTo (noteX S cu) cu c9 i).2.2 M ov j_9 (lbe (cs_lt (erTo (noteX S cu) cu c9 i).2.2 j_9) (erPart (erTo (noteX S cu) cu c9 i).1 (cs_lt (erTo (noteX S cu) cu c9 i).2.2 j_9))) (lhTo_nc hoki hx_8) ⟨(Nat.le_of_ble_eq_true rfl), (Nat.le_of_ble_eq_true rfl)⟩ ⟨(Nat.le_of_ble_eq_true rfl), (Nat.le_of_ble_eq_true rfl)⟩ (Nat.le_of_ble_eq_true rfl) dX1_early_92 ?_
          refine go_w (w2 := wW cI cJ cO a (er1 (erTo (noteX S cu) cu c9 i).2.2 j_9 (erPart (erTo (noteX S cu) cu c9 i).1 (cs_lt (erTo (noteX S cu) cu c9 i).2.2 j_9))) M ov) rfl ?_
          refine go_iload C 3 dX1_early_95 rfl ?_
          refine go_aload_n C 5 dX1_early_97 rfl rfl ?_
          refine go_aload C 1 dX1_early_98 rfl ?_
          refine go_iload C 0 dX1_early_100 rfl ?_
          refine k_RX1_96 C (er1 (erTo (noteX S cu) cu c9 i).2.2 j_9 (erPart (erTo (noteX S cu) cu c9 i).1 (cs_lt (erTo (noteX S cu) cu c9 i).2.2 j_9))) M ov j_9 (erPart (erTo (noteX S cu) cu c9 i).1 (cs_lt (erTo (noteX S cu) cu c9 i).2.2 j_9)) (lhTo_nc hoki hx_8) ⟨(Nat.le_of_ble_eq_true rfl), (Nat.le_of_ble_eq_true rfl)⟩ ⟨(Nat.le_of_ble_eq_true rfl), (Nat.le_of_ble_eq_true rfl)⟩ (Nat.le_of_ble_eq_true rfl) dX1_early_102 ?_
          refine go_iadd C dX1_early_105 ?_
          refine go_istore C (lo' := [(4, .int ((erTo (noteX S cu) cu c9 i).2.1 + (poC (er1 (erTo (noteX S cu) cu c9 i).2.2 j_9 (erPart (erTo (noteX S cu) cu c9 i).1 (cs_lt (erTo (noteX S cu) cu c9 i).2.2 j_9))) j_9 (erPart (erTo (noteX S cu) cu c9 i).1 (cs_lt (erTo (noteX S cu) cu c9 i).2.2 j_9))))), (7, .int (erPart (erTo (noteX S cu) cu c9 i).1 (cs_lt (erTo (noteX S cu) cu c9 i).2.2 j_9))), (6, .ref (cs_la (erTo (noteX S cu) cu c9 i).2.2 j_9)), (5, .int (nI i)), (3, .int (erTo (noteX S cu) cu c9 i).1), (0, .ref (a 0)), (1, .int cu), (2, .int c9)]) dX1_early_106 (by decide) rfl ?_
          refine go_iload_n C 4 dX1_early_108 rfl rfl ?_
          refine go_iload C 1 dX1_early_109 rfl ?_
          refine go_isub C dX1_early_111 ?_
          refine go_istore_n C (lo' := [(3, .int ((erTo (noteX S cu) cu c9 i).1 - (erPart (erTo (noteX S cu) cu c9 i).1 (cs_lt (erTo (noteX S cu) cu c9 i).2.2 j_9)))), (4, .int ((erTo (noteX S cu) cu c9 i).2.1 + (poC (er1 (erTo (noteX S cu) cu c9 i).2.2 j_9 (erPart (erTo (noteX S cu) cu c9 i).1 (cs_lt (erTo (noteX S cu) cu c9 i).2.2 j_9))) j_9 (erPart (erTo (noteX S cu) cu c9 i).1 (cs_lt (erTo (noteX S cu) cu c9 i).2.2 j_9))))), (7, .int (erPart (erTo (noteX S cu) cu c9 i).1 (cs_lt (erTo (noteX S cu) cu c9 i).2.2 j_9))), (6, .ref (cs_la (erTo (noteX S cu) cu c9 i).2.2 j_9)), (5, .int (nI i)), (0, .ref (a 0)), (1, .int cu), (2, .int c9)]) dX1_early_112 rfl (by decide) rfl ?_
          refine go_iinc C (v := nI (i + 1)) (lo' := [(5, .int (nI (i + 1))), (3, .int ((erTo (noteX S cu) cu c9 i).1 - (erPart (erTo (noteX S cu) cu c9 i).1 (cs_lt (erTo (noteX S cu) cu c9 i).2.2 j_9)))), (4, .int ((erTo (noteX S cu) cu c9 i).2.1 + (poC (er1 (erTo (noteX S cu) cu c9 i).2.2 j_9 (erPart (erTo (noteX S cu) cu c9 i).1 (cs_lt (erTo (noteX S cu) cu c9 i).2.2 j_9))) j_9 (erPart (erTo (noteX S cu) cu c9 i).1 (cs_lt (erTo (noteX S cu) cu c9 i).2.2 j_9))))), (7, .int (erPart (erTo (noteX S cu) cu c9 i).1 (cs_lt (erTo (noteX S cu) cu c9 i).2.2 j_9))), (6, .ref (cs_la (erTo (noteX S cu) cu c9 i).2.2 j_9)), (0, .ref (a 0)), (1, .int cu), (2, .int c9)]) 4 dX1_early_113 rfl (nI_1 _) (by decide) rfl ?_
          refine go_goto C (tgt := 43) dX1_early_116 (by decide) ?_
          refine go_lo (lo' := [(5, .int (nI (i + 1))), (4, .int (erTo (noteX S cu) cu c9 (i + 1)).2.1), (3, .int (erTo (noteX S cu) cu c9 (i + 1)).1), (0, .ref (a 0)), (1, .int cu), (2, .int c9)]) [0, 2, 1, 5, 6, 7] (by rw [er_s c_7 hx_8]; rfl) ?_
          refine go_w (w2 := wW cI cJ cO a (erTo (noteX S cu) cu c9 (i + 1)).2.2 M ov) (by rw [er_s c_7 hx_8]) ?_
          exact ih_i trivial
    · refine go_iload C 0 dX1_early_43 rfl ?_
      refine go_aload_n C 3 dX1_early_45 rfl rfl ?_
      refine gx_lotsMade C dX1_early_46 ?_
      refine go_icmp_ge C (tgt := 119) dX1_early_49 (by decide) (fun c_10 => ?_) (fun c_10 => absurd (by rw [(fx_er (noteX S cu) cu c9 (cs_n S)).1]; exact nI_ger hok.1) c_10)
      refine go_iload C 1 dX1_early_119 rfl ?_
      exact go_x (go_ireturn C rfl dX1_early_121 (by decide) (by decide) ⟨by simp only [eaC, if_pos h_2, if_pos h_4, if_pos c_5], rfl, rfl⟩)
  · exact go_throw C hlf ht (names := nb_names) (text := "less than that is not frozen") rfl mem_S fit_nb_S nb_names_fit bcl_RX1_83 bz_IllegalStateException (List.mem_of_getElem? (i := 9) rfl) hat_nb_S_87 hat2_nb_S_87 hgood_nb_S_83_87 dX1_early_20 dX1_early_23 dX1_early_24 dX1_early_26 dX1_early_29 (by decide) (by decide) (by decide) (by decide) ⟨xc_S (by simp only [eaC, if_neg c_5, if_pos h_2, if_pos h_4]) rfl, rfl⟩ (by decide) (by decide)
theorem k_RL_53 {p : Program} {l : Launch} {e : Env} {R : Room} {s : State} {m : MethodId} {args : Array Value} {below : List Frame} {meth : Method} {c : Code} {D : va_G} {N0 mL : Nat} {cc : ByteArray} {nm : String} {ret : Option FieldType} {Q : State → Prop} {k n pc : Nat} {lo : List (Nat × Value)} {st : List Value} {cI cJ cO : ClassId} {a : Nat → Nat} (C : Cxt p s m args meth c D (tysW cI cJ cO) N0 cc mL RL ret nm) (hlf : l.stackTraces = false) (S : CS) (M : LWS) (ov : va_W) (cu c9 : Int32) (hok : okX S) (hR : 7 + 1 ≤ R.frames ∧ 8 + (8 + 11) + 104 ≤ R.locals) (hcs : k + 3 ≤ R.cells ∧ n + 18 ≤ R.slots) (hcat : (st.map fun v => v.category).sum ≤ 8) (dk : decode cc pc = .ok (.invokevirtual 53, 3)) (gx : ∀ E : String, (eaC S cu c9 ≠ 0 ∧ E = exN (eaC S cu c9)) → GoX p l e R s m args below meth c D N0 mL Q (wW cI cJ cO a S M ov) (k + 3) (n + 18) pc lo E) (g : (eaC S cu c9 = 0) → Go p l e R s m args below meth c D N0 mL Q (wW cI cJ cO a (erTo (noteX S cu) cu c9 (cs_n S)).2.2 M ov) (k + 3) (n + 18) (pc + 3) lo (.int (erTo (noteX S cu) cu c9 (cs_n S)).2.1 :: st)) : Go p l e R s m args below meth c D N0 mL Q (wW cI cJ cO a S M ov) k n pc lo (.int c9 :: .int cu :: .ref (a 0) :: st) :=
  go_callVX C (ci := 1) (r9 := (RX1, TX1, 8)) (qi := 0) (As := [.int cu, .int c9]) (rest := st) rfl rfl (c_X1_early l hlf D cI cJ cO N0 a S M ov cu c9 hok) ⟨rfl, by decide +kernel, by decide +kernel⟩ bl_RL_53 bi_yX1_early bs_yX1_early bz_NoticeBook bc_yX1_early (show Option.map (fun d => d.parameters.length) (parseMethodDescriptor yX1_early.desc) = some 2 by decide +kernel) hR hcs hcat dk (fun E w2 h => by obtain ⟨h9, rfl⟩ := h; exact gx E h9) (fun r w2 h => by obtain ⟨h9, rfl, rfl⟩ := h; exact g h9) rfl
