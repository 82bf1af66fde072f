set_option maxHeartbeats 4000000 in
set_option maxRecDepth 100000 in
theorem c_X2_deposit (l : Launch) (D : va_G) (cI cJ cZ cO : ClassId) (N0 : Nat) (a : Nat → Nat) (S : CS) (M : MS) (ov : Nat → Int64) (cu x9 : Int32) (hok : okM M) : Ct l D (tysW cI cJ cZ cO) N0 yX2_deposit cX2_deposit 3 (some .int) { frames := 2, cells := 0, slots := 0, locals := 42 } [.ref (a 5), .int cu, .int x9] (wW cI cJ cZ cO a S M ov) (fun r w2 => (kDp M cu x9 = 0 ∧ r = some (.int (nI (ms_n M))) ∧ w2 = wW cI cJ cZ cO a S (mOp (mT0 M) cu x9) ov) ∨ (¬ kDp M cu x9 = 0 ∧ r = some (.int 0) ∧ w2 = wW cI cJ cZ cO a S (ms_set_thr M (kDp M cu x9)) ov)) := by
  refine ct_of (by decide +kernel) (Nat.le_of_ble_eq_true rfl) ?_
  intro p e s m args below meth c C
  have C : Cxt p s m args meth c D (tysW cI cJ cZ cO) N0 cX2_deposit 3 RX2 (some .int) "deposit" := C
  refine go_aload_n C 0 dX2_deposit_0 rfl rfl ?_
  refine go_iload_n C 1 dX2_deposit_1 rfl rfl ?_
  refine k_RX2_111 C S M ov cu ⟨(Nat.le_of_ble_eq_true rfl), (Nat.le_of_ble_eq_true rfl)⟩ ⟨(Nat.le_of_ble_eq_true rfl), (Nat.le_of_ble_eq_true rfl)⟩ (Nat.le_of_ble_eq_true rfl) dX2_deposit_2 ?_
  refine go_if_ne C (tgt := 12) dX2_deposit_5 (by decide) (fun c_1 => ?_) (fun c_1 => ?_)
  · refine go_iload_n C 2 dX2_deposit_12 rfl rfl ?_
    refine go_iconst C (v := 1) dX2_deposit_13 (by decide) ?_
    refine go_ldc C bk_RX2_115 dX2_deposit_14 ?_
    refine k_RX2_73 C S M ov x9 1 10000000 ⟨(Nat.le_of_ble_eq_true rfl), (Nat.le_of_ble_eq_true rfl)⟩ ⟨(Nat.le_of_ble_eq_true rfl), (Nat.le_of_ble_eq_true rfl)⟩ (Nat.le_of_ble_eq_true rfl) dX2_deposit_16 ?_
    refine go_if_ne C (tgt := 26) dX2_deposit_19 (by decide) (fun c_2 => ?_) (fun c_2 => ?_)
    · refine go_aload_n C 0 dX2_deposit_26 rfl rfl ?_
      refine gm_lotMany C dX2_deposit_27 ?_
      refine go_bipush C (v := 40) dX2_deposit_30 (by decide) ?_
      refine go_icmp_ne C (tgt := 39) dX2_deposit_32 (by decide) (fun c_3 => ?_) (fun c_3 => ?_)
      · refine go_iconst C (v := 0) dX2_deposit_39 (by decide) ?_
        refine pm_thrown C dX2_deposit_40 ?_
        refine go_aload_n C 0 dX2_deposit_43 rfl rfl ?_
        refine gm_thrown C dX2_deposit_44 ?_
        refine go_st (st2 := [.int 0]) rfl ?_
        refine go_if_ne C (tgt := 59) dX2_deposit_47 (by decide) (fun c_4 => absurd c_4 (by decide)) (fun c_4 => ?_)
        refine go_aload_n C 0 dX2_deposit_50 rfl rfl ?_
        refine go_iload_n C 1 dX2_deposit_51 rfl rfl ?_
        refine go_iload_n C 2 dX2_deposit_52 rfl rfl ?_
        refine k_RX2_116 C S (ms_set_thr M 0) ov cu x9 (n40 hok.1 c_3) ⟨(Nat.le_of_ble_eq_true rfl), (Nat.le_of_ble_eq_true rfl)⟩ ⟨(Nat.le_of_ble_eq_true rfl), (Nat.le_of_ble_eq_true rfl)⟩ (Nat.le_of_ble_eq_true rfl) dX2_deposit_53 ?_
        refine go_goto C (tgt := 60) dX2_deposit_56 (by decide) ?_
        exact go_ireturn C rfl dX2_deposit_60 (by decide) (by decide) (Or.inl ⟨by simp only [kDp, if_neg c_1, if_neg c_2, if_neg c_3], rfl, rfl⟩)
      · refine go_iconst C (v := 3) dX2_deposit_35 (by decide) ?_
        refine go_goto C (tgt := 40) dX2_deposit_36 (by decide) ?_
        refine pm_thrown C dX2_deposit_40 ?_
        refine go_aload_n C 0 dX2_deposit_43 rfl rfl ?_
        refine gm_thrown C dX2_deposit_44 ?_
        refine go_st (st2 := [.int 3]) rfl ?_
        refine go_if_ne C (tgt := 59) dX2_deposit_47 (by decide) (fun c_5 => ?_) (fun c_5 => absurd c_5 (by decide))
        refine go_iconst C (v := 0) dX2_deposit_59 (by decide) ?_
        exact go_ireturn C rfl dX2_deposit_60 (by decide) (by decide) (Or.inr (by rw [show kDp M cu x9 = 3 from by simp only [kDp, if_neg c_1, if_neg c_2, if_pos c_3]]; exact ⟨by decide, rfl, rfl⟩))
    · refine go_iconst C (v := 2) dX2_deposit_22 (by decide) ?_
      refine go_goto C (tgt := 40) dX2_deposit_23 (by decide) ?_
      refine pm_thrown C dX2_deposit_40 ?_
      refine go_aload_n C 0 dX2_deposit_43 rfl rfl ?_
      refine gm_thrown C dX2_deposit_44 ?_
      refine go_st (st2 := [.int 2]) rfl ?_
      refine go_if_ne C (tgt := 59) dX2_deposit_47 (by decide) (fun c_6 => ?_) (fun c_6 => absurd c_6 (by decide))
      refine go_iconst C (v := 0) dX2_deposit_59 (by decide) ?_
      exact go_ireturn C rfl dX2_deposit_60 (by decide) (by decide) (Or.inr (by rw [show kDp M cu x9 = 2 from by simp only [kDp, if_neg c_1, if_pos c_2]]; exact ⟨by decide, rfl, rfl⟩))
  · refine go_iconst C (v := 1) dX2_deposit_8 (by decide) ?_
    refine go_goto C (tgt := 40) dX2_deposit_9 (by decide) ?_
    refine pm_thrown C dX2_deposit_40 ?_
    refine go_aload_n C 0 dX2_deposit_43 rfl rfl ?_
    refine gm_thrown C dX2_deposit_44 ?_
    refine go_st (st2 := [.int 1]) rfl ?_
    refine go_if_ne C (tgt := 59) dX2_deposit_47 (by decide) (fun c_7 => ?_) (fun c_7 => absurd c_7 (by decide))
    refine go_iconst C (v := 0) dX2_deposit_59 (by decide) ?_
    exact go_ireturn C rfl dX2_deposit_60 (by decide) (by decide) (Or.inr (by rw [show kDp M cu x9 = 1 from by simp only [kDp, if_pos c_1]]; exact ⟨by decide, rfl, rfl⟩))
theorem k_RL_107 {p : Program} {l : Launch} {e : Env} {R : Room} {s : State} {m : MethodId} {args : Array Value} {below : List Frame} {meth : Method} {c : Code} {D : va_G} {N0 mL : Nat} {cc : ByteArray} {nm : String} {ret : Option FieldType} {Q : State → Prop} {k n pc : Nat} {lo : List (Nat × Value)} {st : List Value} {cI cJ cZ cO : ClassId} {a : Nat → Nat} (C : Cxt p s m args meth c D (tysW cI cJ cZ cO) N0 cc mL RL ret nm) (S : CS) (M : MS) (ov : Nat → Int64) (cu x9 : Int32) (hok : okM M) (hR : 2 + 1 ≤ R.frames ∧ 8 + (3 + 11) + 42 ≤ R.locals) (hcs : k + 0 ≤ R.cells ∧ n + 0 ≤ R.slots) (hcat : (st.map fun v => v.category).sum ≤ 8) (dk : decode cc pc = .ok (.invokevirtual 107, 3)) (g0 : (kDp M cu x9 = 0) → Go p l e R s m args below meth c D N0 mL Q (wW cI cJ cZ cO a S (mOp (mT0 M) cu x9) ov) (k) (n) (pc + 3) lo (.int (nI (ms_n M)) :: st)) (g1 : (¬ kDp M cu x9 = 0) → Go p l e R s m args below meth c D N0 mL Q (wW cI cJ cZ cO a S (ms_set_thr M (kDp M cu x9)) ov) (k) (n) (pc + 3) lo (.int 0 :: st)) : Go p l e R s m args below meth c D N0 mL Q (wW cI cJ cZ cO a S M ov) k n pc lo (.int x9 :: .int cu :: .ref (a 5) :: st) :=
  go_callV C (ci := 2) (r9 := (RX2, TX2, 23)) (qi := 5) (As := [.int cu, .int x9]) (rest := st) rfl rfl (c_X2_deposit l D cI cJ cZ cO N0 a S M ov cu x9 hok) ⟨rfl, by decide +kernel, by decide +kernel⟩ bl_RL_107 bi_yX2_deposit bs_yX2_deposit bz_NoticeBookModel bc_yX2_deposit (show Option.map (fun d => d.parameters.length) (parseMethodDescriptor yX2_deposit.desc) = some 2 by decide +kernel) hR hcs hcat dk (fun r w2 h => by
    rcases h with ⟨h9, rfl, rfl⟩ | ⟨h9, rfl, rfl⟩
    · exact g0 h9
    · exact g1 h9) rfl
set_option maxHeartbeats 4000000 in
set_option maxRecDepth 100000 in
theorem c_X2_depositTerm (l : Launch) (D : va_G) (cI cJ cZ cO : ClassId) (N0 : Nat) (a : Nat → Nat) (S : CS) (M : MS) (ov : Nat → Int64) (cu x9 d v : Int32) (hok : okM M) : Ct l D (tysW cI cJ cZ cO) N0 yX2_depositTerm cX2_depositTerm 6 (some .int) { frames := 2, cells := 0, slots := 0, locals := 42 } [.ref (a 5), .int cu, .int x9, .int d, .int v] (wW cI cJ cZ cO a S M ov) (fun r w2 => (kDt M cu x9 d v = 0 ∧ r = some (.int (nI (ms_n M))) ∧ w2 = wW cI cJ cZ cO a S (mDt (mT0 M) cu x9 d v) ov) ∨ (¬ kDt M cu x9 d v = 0 ∧ r = some (.int 0) ∧ w2 = wW cI cJ cZ cO a S (ms_set_thr M (kDt M cu x9 d v)) ov)) := by
  refine ct_of (by decide +kernel) (Nat.le_of_ble_eq_true rfl) ?_
  intro p e s m args below meth c C
  have C : Cxt p s m args meth c D (tysW cI cJ cZ cO) N0 cX2_depositTerm 6 RX2 (some .int) "depositTerm" := C
  refine go_aload_n C 0 dX2_depositTerm_0 rfl rfl ?_
  refine go_iload_n C 1 dX2_depositTerm_1 rfl rfl ?_
  refine k_RX2_111 C S M ov cu ⟨(Nat.le_of_ble_eq_true rfl), (Nat.le_of_ble_eq_true rfl)⟩ ⟨(Nat.le_of_ble_eq_true rfl), (Nat.le_of_ble_eq_true rfl)⟩ (Nat.le_of_ble_eq_true rfl) dX2_depositTerm_2 ?_
  refine go_if_ne C (tgt := 12) dX2_depositTerm_5 (by decide) (fun c_1 => ?_) (fun c_1 => ?_)
  · refine go_iload_n C 2 dX2_depositTerm_12 rfl rfl ?_
    refine go_iconst C (v := 1) dX2_depositTerm_13 (by decide) ?_
    refine go_ldc C bk_RX2_115 dX2_depositTerm_14 ?_
    refine k_RX2_73 C S M ov x9 1 10000000 ⟨(Nat.le_of_ble_eq_true rfl), (Nat.le_of_ble_eq_true rfl)⟩ ⟨(Nat.le_of_ble_eq_true rfl), (Nat.le_of_ble_eq_true rfl)⟩ (Nat.le_of_ble_eq_true rfl) dX2_depositTerm_16 ?_
    refine go_if_eq C (tgt := 43) dX2_depositTerm_19 (by decide) (fun c_2 => ?_) (fun c_2 => ?_)
    · refine go_iconst C (v := 2) dX2_depositTerm_43 (by decide) ?_
      refine go_goto C (tgt := 61) dX2_depositTerm_44 (by decide) ?_
      refine pm_thrown C dX2_depositTerm_61 ?_
      refine go_aload_n C 0 dX2_depositTerm_64 rfl rfl ?_
      refine gm_thrown C dX2_depositTerm_65 ?_
      refine go_st (st2 := [.int 2]) rfl ?_
      refine go_if_le C (tgt := 73) dX2_depositTerm_68 (by decide) (fun c_3 => absurd c_3 (by decide)) (fun c_3 => ?_)
      refine go_iconst C (v := 0) dX2_depositTerm_71 (by decide) ?_
      exact go_ireturn C rfl dX2_depositTerm_72 (by decide) (by decide) (Or.inr (by rw [show kDt M cu x9 d v = 2 from by simp only [kDt, if_neg c_1, if_pos c_2]]; exact ⟨by decide, rfl, rfl⟩))
    · refine go_iload_n C 3 dX2_depositTerm_22 rfl rfl ?_
      refine go_iconst C (v := 1) dX2_depositTerm_23 (by decide) ?_
      refine go_sipush C (v := 400) dX2_depositTerm_24 (by decide) ?_
      refine k_RX2_73 C S M ov d 1 400 ⟨(Nat.le_of_ble_eq_true rfl), (Nat.le_of_ble_eq_true rfl)⟩ ⟨(Nat.le_of_ble_eq_true rfl), (Nat.le_of_ble_eq_true rfl)⟩ (Nat.le_of_ble_eq_true rfl) dX2_depositTerm_27 ?_
      refine go_if_eq C (tgt := 43) dX2_depositTerm_30 (by decide) (fun c_4 => ?_) (fun c_4 => ?_)
      · refine go_iconst C (v := 2) dX2_depositTerm_43 (by decide) ?_
        refine go_goto C (tgt := 61) dX2_depositTerm_44 (by decide) ?_
        refine pm_thrown C dX2_depositTerm_61 ?_
        refine go_aload_n C 0 dX2_depositTerm_64 rfl rfl ?_
        refine gm_thrown C dX2_depositTerm_65 ?_
        refine go_st (st2 := [.int 2]) rfl ?_
        refine go_if_le C (tgt := 73) dX2_depositTerm_68 (by decide) (fun c_5 => absurd c_5 (by decide)) (fun c_5 => ?_)
        refine go_iconst C (v := 0) dX2_depositTerm_71 (by decide) ?_
        exact go_ireturn C rfl dX2_depositTerm_72 (by decide) (by decide) (Or.inr (by rw [show kDt M cu x9 d v = 2 from by simp only [kDt, if_neg c_1, if_neg c_2, if_pos c_4]]; exact ⟨by decide, rfl, rfl⟩))
      · refine go_iload C 4 dX2_depositTerm_33 rfl ?_
        refine go_iconst C (v := 0) dX2_depositTerm_35 (by decide) ?_
        refine go_iconst C (v := 2) dX2_depositTerm_36 (by decide) ?_
        refine k_RX2_73 C S M ov v 0 2 ⟨(Nat.le_of_ble_eq_true rfl), (Nat.le_of_ble_eq_true rfl)⟩ ⟨(Nat.le_of_ble_eq_true rfl), (Nat.le_of_ble_eq_true rfl)⟩ (Nat.le_of_ble_eq_true rfl) dX2_depositTerm_37 ?_
        refine go_if_ne C (tgt := 47) dX2_depositTerm_40 (by decide) (fun c_6 => ?_) (fun c_6 => ?_)
        · refine go_aload_n C 0 dX2_depositTerm_47 rfl rfl ?_
          refine gm_lotMany C dX2_depositTerm_48 ?_
          refine go_bipush C (v := 40) dX2_depositTerm_51 (by decide) ?_
          refine go_icmp_ne C (tgt := 60) dX2_depositTerm_53 (by decide) (fun c_7 => ?_) (fun c_7 => ?_)
          · refine go_iconst C (v := 0) dX2_depositTerm_60 (by decide) ?_
            refine pm_thrown C dX2_depositTerm_61 ?_
            refine go_aload_n C 0 dX2_depositTerm_64 rfl rfl ?_
            refine gm_thrown C dX2_depositTerm_65 ?_
            refine go_st (st2 := [.int 0]) rfl ?_
            refine go_if_le C (tgt := 73) dX2_depositTerm_68 (by decide) (fun c_8 => ?_) (fun c_8 => absurd c_8 (by decide))
            refine go_aload_n C 0 dX2_depositTerm_73 rfl rfl ?_
            refine go_iload_n C 1 dX2_depositTerm_74 rfl rfl ?_
            refine go_iload_n C 2 dX2_depositTerm_75 rfl rfl ?_
            refine k_RX2_116 C S (ms_set_thr M 0) ov cu x9 (n40 hok.1 c_7) ⟨(Nat.le_of_ble_eq_true rfl), (Nat.le_of_ble_eq_true rfl)⟩ ⟨(Nat.le_of_ble_eq_true rfl), (Nat.le_of_ble_eq_true rfl)⟩ (Nat.le_of_ble_eq_true rfl) dX2_depositTerm_76 ?_
            refine go_w (w2 := wW cI cJ cZ cO a S (mOp (mT0 M) cu x9) ov) rfl ?_
            refine go_istore C (lo' := [(5, .int (nI (ms_n M))), (0, .ref (a 5)), (1, .int cu), (2, .int x9), (3, .int d), (4, .int v)]) dX2_depositTerm_79 (by decide) rfl ?_
            refine go_aload_n C 1 dX2_depositTerm_81 rfl rfl ?_
            refine gm_isTerm C dX2_depositTerm_82 ?_
            refine go_iload C 0 dX2_depositTerm_85 rfl ?_
            refine go_iconst C (v := 1) dX2_depositTerm_87 (by decide) ?_
            refine sm_isTerm C (nI_vin (n40 hok.1 c_7)) dX2_depositTerm_88 ?_
            rw [cl_nI (i := ms_n M) (by have := hok.1; omega)]
            refine go_w (w2 := wW cI cJ cZ cO a S (mDa (mT0 M) cu x9) ov) rfl ?_
            refine go_aload_n C 1 dX2_depositTerm_89 rfl rfl ?_
            refine gm_lengths C dX2_depositTerm_90 ?_
            refine go_iload C 0 dX2_depositTerm_93 rfl ?_
            refine go_iload_n C 4 dX2_depositTerm_95 rfl rfl ?_
            refine sm_lengths C (nI_vin (n40 hok.1 c_7)) dX2_depositTerm_96 ?_
            rw [cl_nI (i := ms_n M) (by have := hok.1; omega)]
            refine go_w (w2 := wW cI cJ cZ cO a S (mDb (mT0 M) cu x9 d) ov) rfl ?_
            refine go_aload_n C 1 dX2_depositTerm_97 rfl rfl ?_
            refine gm_instructions C dX2_depositTerm_98 ?_
            refine go_iload C 0 dX2_depositTerm_101 rfl ?_
            refine go_iload C 5 dX2_depositTerm_103 rfl ?_
            refine sm_instructions C (nI_vin (n40 hok.1 c_7)) dX2_depositTerm_105 ?_
            rw [cl_nI (i := ms_n M) (by have := hok.1; omega)]
            refine go_w (w2 := wW cI cJ cZ cO a S (mDt1 (mT0 M) cu x9 d v) ov) rfl ?_
            refine go_aload_n C 1 dX2_depositTerm_106 rfl rfl ?_
            refine go_iload C 0 dX2_depositTerm_107 rfl ?_
            refine k_RX2_122 C S (mDt1 (mT0 M) cu x9 d v) ov (nI (ms_n M)) (nI_vin (n40 hok.1 c_7)) ⟨(Nat.le_of_ble_eq_true rfl), (Nat.le_of_ble_eq_true rfl)⟩ ⟨(Nat.le_of_ble_eq_true rfl), (Nat.le_of_ble_eq_true rfl)⟩ (Nat.le_of_ble_eq_true rfl) dX2_depositTerm_109 ?_
            rw [cl_nI (i := ms_n M) (by have := hok.1; omega)]
            refine go_iload C 0 dX2_depositTerm_112 rfl ?_
            exact go_ireturn C rfl dX2_depositTerm_114 (by decide) (by decide) (Or.inl ⟨by simp only [kDt, if_neg c_1, if_neg c_2, if_neg c_4, if_neg c_6, if_neg c_7], rfl, rfl⟩)
          · refine go_iconst C (v := 3) dX2_depositTerm_56 (by decide) ?_
            refine go_goto C (tgt := 61) dX2_depositTerm_57 (by decide) ?_
            refine pm_thrown C dX2_depositTerm_61 ?_
            refine go_aload_n C 0 dX2_depositTerm_64 rfl rfl ?_
            refine gm_thrown C dX2_depositTerm_65 ?_
            refine go_st (st2 := [.int 3]) rfl ?_
            refine go_if_le C (tgt := 73) dX2_depositTerm_68 (by decide) (fun c_9 => absurd c_9 (by decide)) (fun c_9 => ?_)
            refine go_iconst C (v := 0) dX2_depositTerm_71 (by decide) ?_
            exact go_ireturn C rfl dX2_depositTerm_72 (by decide) (by decide) (Or.inr (by rw [show kDt M cu x9 d v = 3 from by simp only [kDt, if_neg c_1, if_neg c_2, if_neg c_4, if_neg c_6, if_pos c_7]]; exact ⟨by decide, rfl, rfl⟩))
        · refine go_iconst C (v := 2) dX2_depositTerm_43 (by decide) ?_
          refine go_goto C (tgt := 61) dX2_depositTerm_44 (by decide) ?_
          refine pm_thrown C dX2_depositTerm_61 ?_
          refine go_aload_n C 0 dX2_depositTerm_64 rfl rfl ?_
          refine gm_thrown C dX2_depositTerm_65 ?_
          refine go_st (st2 := [.int 2]) rfl ?_
          refine go_if_le C (tgt := 73) dX2_depositTerm_68 (by decide) (fun c_10 => absurd c_10 (by decide)) (fun c_10 => ?_)
          refine go_iconst C (v := 0) dX2_depositTerm_71 (by decide) ?_
          exact go_ireturn C rfl dX2_depositTerm_72 (by decide) (by decide) (Or.inr (by rw [show kDt M cu x9 d v = 2 from by simp only [kDt, if_neg c_1, if_neg c_2, if_neg c_4, if_pos c_6]]; exact ⟨by decide, rfl, rfl⟩))
  · refine go_iconst C (v := 1) dX2_depositTerm_8 (by decide) ?_
    refine go_goto C (tgt := 61) dX2_depositTerm_9 (by decide) ?_
    refine pm_thrown C dX2_depositTerm_61 ?_
    refine go_aload_n C 0 dX2_depositTerm_64 rfl rfl ?_
    refine gm_thrown C dX2_depositTerm_65 ?_
    refine go_st (st2 := [.int 1]) rfl ?_
    refine go_if_le C (tgt := 73) dX2_depositTerm_68 (by decide) (fun c_11 => absurd c_11 (by decide)) (fun c_11 => ?_)
    refine go_iconst C (v := 0) dX2_depositTerm_71 (by decide) ?_
    exact go_ireturn C rfl dX2_depositTerm_72 (by decide) (by decide) (Or.inr (by rw [show kDt M cu x9 d v = 1 from by simp only [kDt, if_pos c_1]]; exact ⟨by decide, rfl, rfl⟩))
theorem k_RL_111 {p : Program} {l : Launch} {e : Env} {R : Room} {s : State} {m : MethodId} {args : Array Value} {below : List Frame} {meth : Method} {c : Code} {D : va_G} {N0 mL : Nat} {cc : ByteArray} {nm : String} {ret : Option FieldType} {Q : State → Prop} {k n pc : Nat} {lo : List (Nat × Value)} {st : List Value} {cI cJ cZ cO : ClassId} {a : Nat → Nat} (C : Cxt p s m args meth c D (tysW cI cJ cZ cO) N0 cc mL RL ret nm) (S : CS) (M : MS) (ov : Nat → Int64) (cu x9 d v : Int32) (hok : okM M) (hR : 2 + 1 ≤ R.frames ∧ 8 + (6 + 11) + 42 ≤ R.locals) (hcs : k + 0 ≤ R.cells ∧ n + 0 ≤ R.slots) (hcat : (st.map fun v => v.category).sum ≤ 8) (dk : decode cc pc = .ok (.invokevirtual 111, 3)) (g0 : (kDt M cu x9 d v = 0) → Go p l e R s m args below meth c D N0 mL Q (wW cI cJ cZ cO a S (mDt (mT0 M) cu x9 d v) ov) (k) (n) (pc + 3) lo (.int (nI (ms_n M)) :: st)) (g1 : (¬ kDt M cu x9 d v = 0) → Go p l e R s m args below meth c D N0 mL Q (wW cI cJ cZ cO a S (ms_set_thr M (kDt M cu x9 d v)) ov) (k) (n) (pc + 3) lo (.int 0 :: st)) : Go p l e R s m args below meth c D N0 mL Q (wW cI cJ cZ cO a S M ov) k n pc lo (.int v :: .int d :: .int x9 :: .int cu :: .ref (a 5) :: st) :=
  go_callV C (ci := 2) (r9 := (RX2, TX2, 23)) (qi := 5) (As := [.int cu, .int x9, .int d, .int v]) (rest := st) rfl rfl (c_X2_depositTerm l D cI cJ cZ cO N0 a S M ov cu x9 d v hok) ⟨rfl, by decide +kernel, by decide +kernel⟩ bl_RL_111 bi_yX2_depositTerm bs_yX2_depositTerm bz_NoticeBookModel bc_yX2_depositTerm (show Option.map (fun d => d.parameters.length) (parseMethodDescriptor yX2_depositTerm.desc) = some 4 by decide +kernel) hR hcs hcat dk (fun r w2 h => by
    rcases h with ⟨h9, rfl, rfl⟩ | ⟨h9, rfl, rfl⟩
    · exact g0 h9
    · exact g1 h9) rfl
set_option maxHeartbeats 4000000 in
set_option maxRecDepth 100000 in
theorem c_X2_give (l : Launch) (D : va_G) (cI cJ cZ cO : ClassId) (N0 : Nat) (a : Nat → Nat) (S : CS) (M : MS) (ov : Nat → Int64) (z c9 : Int32) (hok : okM M) : Ct l D (tysW cI cJ cZ cO) N0 yX2_give cX2_give 3 (some .int) { frames := 2, cells := 0, slots := 0, locals := 43 } [.ref (a 5), .int z, .int c9] (wW cI cJ cZ cO a S M ov) (fun r w2 => (kGv M z c9 = 0 ∧ r = some (.int (ms_now M + 32)) ∧ w2 = wW cI cJ cZ cO a S (mGv (mT0 M) z c9) ov) ∨ (¬ kGv M z c9 = 0 ∧ r = some (.int 0) ∧ w2 = wW cI cJ cZ cO a S (ms_set_thr M (kGv M z c9)) ov)) := by
  refine ct_of (by decide +kernel) (Nat.le_of_ble_eq_true rfl) ?_
  intro p e s m args below meth c C
  have C : Cxt p s m args meth c D (tysW cI cJ cZ cO) N0 cX2_give 3 RX2 (some .int) "give" := C
  refine go_aload_n C 0 dX2_give_0 rfl rfl ?_
  refine go_aload_n C 0 dX2_give_1 rfl rfl ?_
  refine go_iload_n C 1 dX2_give_2 rfl rfl ?_
  refine k_RX2_126 C S M ov z hok ⟨(Nat.le_of_ble_eq_true rfl), (Nat.le_of_ble_eq_true rfl)⟩ ⟨(Nat.le_of_ble_eq_true rfl), (Nat.le_of_ble_eq_true rfl)⟩ (Nat.le_of_ble_eq_true rfl) dX2_give_3 ?_
  refine go_if_ne C (tgt := 13) dX2_give_6 (by decide) (fun c_1 => ?_) (fun c_1 => ?_)
  · refine go_iload_n C 2 dX2_give_13 rfl rfl ?_
    refine go_iconst C (v := 1) dX2_give_14 (by decide) ?_
    refine go_aload_n C 0 dX2_give_15 rfl rfl ?_
    refine gm_principals C dX2_give_16 ?_
    refine go_iload_n C 1 dX2_give_19 rfl rfl ?_
    refine lm_principals C (mLo_in hok c_1).2.1 dX2_give_20 ?_
    refine k_RX2_73 C S M ov c9 1 (ms_pr M (Int32.toNatClampNeg z)) ⟨(Nat.le_of_ble_eq_true rfl), (Nat.le_of_ble_eq_true rfl)⟩ ⟨(Nat.le_of_ble_eq_true rfl), (Nat.le_of_ble_eq_true rfl)⟩ (Nat.le_of_ble_eq_true rfl) dX2_give_21 ?_
    refine go_if_ne C (tgt := 31) dX2_give_24 (by decide) (fun c_2 => ?_) (fun c_2 => ?_)
    · refine go_aload_n C 0 dX2_give_31 rfl rfl ?_
      refine gm_isTerm C dX2_give_32 ?_
      refine go_iload_n C 1 dX2_give_35 rfl rfl ?_
      refine lm_isTerm C (mLo_in hok c_1).2.1 dX2_give_36 ?_
      refine go_if_ne C (tgt := 49) dX2_give_37 (by decide) (fun c_3 => ?_) (fun c_3 => ?_)
      · refine go_iconst C (v := 3) dX2_give_49 (by decide) ?_
        refine go_goto C (tgt := 54) dX2_give_50 (by decide) ?_
        refine pm_thrown C dX2_give_54 ?_
        refine go_aload_n C 0 dX2_give_57 rfl rfl ?_
        refine gm_thrown C dX2_give_58 ?_
        refine go_st (st2 := [.int 3]) rfl ?_
        refine go_if_le C (tgt := 66) dX2_give_61 (by decide) (fun c_4 => absurd c_4 (by decide)) (fun c_4 => ?_)
        refine go_iconst C (v := 0) dX2_give_64 (by decide) ?_
        exact go_ireturn C rfl dX2_give_65 (by decide) (by decide) (Or.inr (by rw [show kGv M z c9 = 3 from by simp only [kGv, if_neg c_1, if_neg c_2, if_neg c_3]]; exact ⟨by decide, rfl, rfl⟩))
      · refine go_aload_n C 0 dX2_give_40 rfl rfl ?_
        refine gm_frozenOf C dX2_give_41 ?_
        refine go_iload_n C 1 dX2_give_44 rfl rfl ?_
        refine lm_frozenOf C (mLo_in hok c_1).2.1 dX2_give_45 ?_
        refine go_if_le C (tgt := 53) dX2_give_46 (by decide) (fun c_5 => ?_) (fun c_5 => ?_)
        · refine go_iconst C (v := 0) dX2_give_53 (by decide) ?_
          refine pm_thrown C dX2_give_54 ?_
          refine go_aload_n C 0 dX2_give_57 rfl rfl ?_
          refine gm_thrown C dX2_give_58 ?_
          refine go_st (st2 := [.int 0]) rfl ?_
          refine go_if_le C (tgt := 66) dX2_give_61 (by decide) (fun c_6 => ?_) (fun c_6 => absurd c_6 (by decide))
          refine go_aload_n C 0 dX2_give_66 rfl rfl ?_
          refine gm_frozenOf C dX2_give_67 ?_
          refine go_iload_n C 1 dX2_give_70 rfl rfl ?_
          refine go_iload_n C 2 dX2_give_71 rfl rfl ?_
          refine sm_frozenOf C (mLo_in hok c_1).2.1 dX2_give_72 ?_
          refine go_aload_n C 0 dX2_give_73 rfl rfl ?_
          refine gm_noticeDays C dX2_give_74 ?_
          refine go_iload_n C 1 dX2_give_77 rfl rfl ?_
          refine go_aload_n C 0 dX2_give_78 rfl rfl ?_
          refine gm_now C dX2_give_79 ?_
          refine sm_noticeDays C (mLo_in hok c_1).2.1 dX2_give_82 ?_
          refine go_aload_n C 0 dX2_give_83 rfl rfl ?_
          refine gm_now C dX2_give_84 ?_
          refine go_bipush C (v := 32) dX2_give_87 (by decide) ?_
          refine go_iadd C dX2_give_89 ?_
          exact go_ireturn C rfl dX2_give_90 (by decide) (by decide) (Or.inl ⟨by simp only [kGv, if_neg c_1, if_neg c_2, if_pos c_3, if_pos c_5], rfl, rfl⟩)
        · refine go_iconst C (v := 3) dX2_give_49 (by decide) ?_
          refine go_goto C (tgt := 54) dX2_give_50 (by decide) ?_
          refine pm_thrown C dX2_give_54 ?_
          refine go_aload_n C 0 dX2_give_57 rfl rfl ?_
          refine gm_thrown C dX2_give_58 ?_
          refine go_st (st2 := [.int 3]) rfl ?_
          refine go_if_le C (tgt := 66) dX2_give_61 (by decide) (fun c_7 => absurd c_7 (by decide)) (fun c_7 => ?_)
          refine go_iconst C (v := 0) dX2_give_64 (by decide) ?_
          exact go_ireturn C rfl dX2_give_65 (by decide) (by decide) (Or.inr (by rw [show kGv M z c9 = 3 from by simp only [kGv, if_neg c_1, if_neg c_2, if_pos c_3, if_neg c_5]]; exact ⟨by decide, rfl, rfl⟩))
    · refine go_iconst C (v := 2) dX2_give_27 (by decide) ?_
      refine go_goto C (tgt := 54) dX2_give_28 (by decide) ?_
      refine pm_thrown C dX2_give_54 ?_
      refine go_aload_n C 0 dX2_give_57 rfl rfl ?_
      refine gm_thrown C dX2_give_58 ?_
      refine go_st (st2 := [.int 2]) rfl ?_
      refine go_if_le C (tgt := 66) dX2_give_61 (by decide) (fun c_8 => absurd c_8 (by decide)) (fun c_8 => ?_)
      refine go_iconst C (v := 0) dX2_give_64 (by decide) ?_
      exact go_ireturn C rfl dX2_give_65 (by decide) (by decide) (Or.inr (by rw [show kGv M z c9 = 2 from by simp only [kGv, if_neg c_1, if_pos c_2]]; exact ⟨by decide, rfl, rfl⟩))
  · refine go_iconst C (v := 1) dX2_give_9 (by decide) ?_
    refine go_goto C (tgt := 54) dX2_give_10 (by decide) ?_
    refine pm_thrown C dX2_give_54 ?_
    refine go_aload_n C 0 dX2_give_57 rfl rfl ?_
    refine gm_thrown C dX2_give_58 ?_
    refine go_st (st2 := [.int 1]) rfl ?_
    refine go_if_le C (tgt := 66) dX2_give_61 (by decide) (fun c_9 => absurd c_9 (by decide)) (fun c_9 => ?_)
    refine go_iconst C (v := 0) dX2_give_64 (by decide) ?_
    exact go_ireturn C rfl dX2_give_65 (by decide) (by decide) (Or.inr (by rw [show kGv M z c9 = 1 from by simp only [kGv, if_pos c_1]]; exact ⟨by decide, rfl, rfl⟩))
theorem k_RL_114 {p : Program} {l : Launch} {e : Env} {R : Room} {s : State} {m : MethodId} {args : Array Value} {below : List Frame} {meth : Method} {c : Code} {D : va_G} {N0 mL : Nat} {cc : ByteArray} {nm : String} {ret : Option FieldType} {Q : State → Prop} {k n pc : Nat} {lo : List (Nat × Value)} {st : List Value} {cI cJ cZ cO : ClassId} {a : Nat → Nat} (C : Cxt p s m args meth c D (tysW cI cJ cZ cO) N0 cc mL RL ret nm) (S : CS) (M : MS) (ov : Nat → Int64) (z c9 : Int32) (hok : okM M) (hR : 2 + 1 ≤ R.frames ∧ 8 + (3 + 11) + 43 ≤ R.locals) (hcs : k + 0 ≤ R.cells ∧ n + 0 ≤ R.slots) (hcat : (st.map fun v => v.category).sum ≤ 8) (dk : decode cc pc = .ok (.invokevirtual 114, 3)) (g0 : (kGv M z c9 = 0) → Go p l e R s m args below meth c D N0 mL Q (wW cI cJ cZ cO a S (mGv (mT0 M) z c9) ov) (k) (n) (pc + 3) lo (.int (ms_now M + 32) :: st)) (g1 : (¬ kGv M z c9 = 0) → Go p l e R s m args below meth c D N0 mL Q (wW cI cJ cZ cO a S (ms_set_thr M (kGv M z c9)) ov) (k) (n) (pc + 3) lo (.int 0 :: st)) : Go p l e R s m args below meth c D N0 mL Q (wW cI cJ cZ cO a S M ov) k n pc lo (.int c9 :: .int z :: .ref (a 5) :: st) :=
  go_callV C (ci := 2) (r9 := (RX2, TX2, 23)) (qi := 5) (As := [.int z, .int c9]) (rest := st) rfl rfl (c_X2_give l D cI cJ cZ cO N0 a S M ov z c9 hok) ⟨rfl, by decide +kernel, by decide +kernel⟩ bl_RL_114 bi_yX2_give bs_yX2_give bz_NoticeBookModel bc_yX2_give (show Option.map (fun d => d.parameters.length) (parseMethodDescriptor yX2_give.desc) = some 2 by decide +kernel) hR hcs hcat dk (fun r w2 h => by
    rcases h with ⟨h9, rfl, rfl⟩ | ⟨h9, rfl, rfl⟩
    · exact g0 h9
    · exact g1 h9) rfl
set_option maxHeartbeats 4000000 in
set_option maxRecDepth 100000 in
theorem c_X2_withdraw (l : Launch) (D : va_G) (cI cJ cZ cO : ClassId) (N0 : Nat) (a : Nat → Nat) (S : CS) (M : MS) (ov : Nat → Int64) (z : Int32) (hok : okM M) : Ct l D (tysW cI cJ cZ cO) N0 yX2_withdraw cX2_withdraw 3 (some .int) { frames := 2, cells := 0, slots := 0, locals := 43 } [.ref (a 5), .int z] (wW cI cJ cZ cO a S M ov) (fun r w2 => (kWd M z = 0 ∧ r = some (.int (ms_fz M (Int32.toNatClampNeg z))) ∧ w2 = wW cI cJ cZ cO a S (mWd (mT0 M) z) ov) ∨ (¬ kWd M z = 0 ∧ r = some (.int 0) ∧ w2 = wW cI cJ cZ cO a S (ms_set_thr M (kWd M z)) ov)) := by
  refine ct_of (by decide +kernel) (Nat.le_of_ble_eq_true rfl) ?_
  intro p e s m args below meth c C
  have C : Cxt p s m args meth c D (tysW cI cJ cZ cO) N0 cX2_withdraw 3 RX2 (some .int) "withdraw" := C
  refine go_aload_n C 0 dX2_withdraw_0 rfl rfl ?_
  refine go_aload_n C 0 dX2_withdraw_1 rfl rfl ?_
  refine go_iload_n C 1 dX2_withdraw_2 rfl rfl ?_
  refine k_RX2_126 C S M ov z hok ⟨(Nat.le_of_ble_eq_true rfl), (Nat.le_of_ble_eq_true rfl)⟩ ⟨(Nat.le_of_ble_eq_true rfl), (Nat.le_of_ble_eq_true rfl)⟩ (Nat.le_of_ble_eq_true rfl) dX2_withdraw_3 ?_
  refine go_if_ne C (tgt := 13) dX2_withdraw_6 (by decide) (fun c_1 => ?_) (fun c_1 => ?_)
  · refine go_aload_n C 0 dX2_withdraw_13 rfl rfl ?_
    refine gm_isTerm C dX2_withdraw_14 ?_
    refine go_iload_n C 1 dX2_withdraw_17 rfl rfl ?_
    refine lm_isTerm C (mLo_in hok c_1).2.1 dX2_withdraw_18 ?_
    refine go_if_ne C (tgt := 31) dX2_withdraw_19 (by decide) (fun c_2 => ?_) (fun c_2 => ?_)
    · refine go_iconst C (v := 2) dX2_withdraw_31 (by decide) ?_
      refine go_goto C (tgt := 36) dX2_withdraw_32 (by decide) ?_
      refine pm_thrown C dX2_withdraw_36 ?_
      refine go_aload_n C 0 dX2_withdraw_39 rfl rfl ?_
      refine gm_thrown C dX2_withdraw_40 ?_
      refine go_st (st2 := [.int 2]) rfl ?_
      refine go_if_le C (tgt := 48) dX2_withdraw_43 (by decide) (fun c_3 => absurd c_3 (by decide)) (fun c_3 => ?_)
      refine go_iconst C (v := 0) dX2_withdraw_46 (by decide) ?_
      exact go_ireturn C rfl dX2_withdraw_47 (by decide) (by decide) (Or.inr (by rw [show kWd M z = 2 from by simp only [kWd, if_neg c_1, if_neg c_2]]; exact ⟨by decide, rfl, rfl⟩))
    · refine go_aload_n C 0 dX2_withdraw_22 rfl rfl ?_
      refine gm_frozenOf C dX2_withdraw_23 ?_
      refine go_iload_n C 1 dX2_withdraw_26 rfl rfl ?_
      refine lm_frozenOf C (mLo_in hok c_1).2.1 dX2_withdraw_27 ?_
      refine go_if_ne C (tgt := 35) dX2_withdraw_28 (by decide) (fun c_4 => ?_) (fun c_4 => ?_)
      · refine go_iconst C (v := 0) dX2_withdraw_35 (by decide) ?_
        refine pm_thrown C dX2_withdraw_36 ?_
        refine go_aload_n C 0 dX2_withdraw_39 rfl rfl ?_
        refine gm_thrown C dX2_withdraw_40 ?_
        refine go_st (st2 := [.int 0]) rfl ?_
        refine go_if_le C (tgt := 48) dX2_withdraw_43 (by decide) (fun c_5 => ?_) (fun c_5 => absurd c_5 (by decide))
        refine go_aload_n C 0 dX2_withdraw_48 rfl rfl ?_
        refine gm_frozenOf C dX2_withdraw_49 ?_
        refine go_iload_n C 1 dX2_withdraw_52 rfl rfl ?_
        refine lm_frozenOf C (mLo_in hok c_1).2.1 dX2_withdraw_53 ?_
        refine go_istore_n C (lo' := [(2, .int (ms_fz (ms_set_thr M 0) (Int32.toNatClampNeg z))), (0, .ref (a 5)), (1, .int z)]) dX2_withdraw_54 rfl (by decide) rfl ?_
        refine go_aload_n C 1 dX2_withdraw_55 rfl rfl ?_
        refine gm_frozenOf C dX2_withdraw_56 ?_
        refine go_iload_n C 2 dX2_withdraw_59 rfl rfl ?_
        refine go_iconst C (v := 0) dX2_withdraw_60 (by decide) ?_
        refine sm_frozenOf C (mLo_in hok c_1).2.1 dX2_withdraw_61 ?_
        refine go_iload_n C 0 dX2_withdraw_62 rfl rfl ?_
        exact go_ireturn C rfl dX2_withdraw_63 (by decide) (by decide) (Or.inl ⟨by simp only [kWd, if_neg c_1, if_pos c_2, if_neg c_4], rfl, rfl⟩)
      · refine go_iconst C (v := 2) dX2_withdraw_31 (by decide) ?_
        refine go_goto C (tgt := 36) dX2_withdraw_32 (by decide) ?_
        refine pm_thrown C dX2_withdraw_36 ?_
        refine go_aload_n C 0 dX2_withdraw_39 rfl rfl ?_
        refine gm_thrown C dX2_withdraw_40 ?_
        refine go_st (st2 := [.int 2]) rfl ?_
        refine go_if_le C (tgt := 48) dX2_withdraw_43 (by decide) (fun c_6 => absurd c_6 (by decide)) (fun c_6 => ?_)
        refine go_iconst C (v := 0) dX2_withdraw_46 (by decide) ?_
        exact go_ireturn C rfl dX2_withdraw_47 (by decide) (by decide) (Or.inr (by rw [show kWd M z = 2 from by simp only [kWd, if_neg c_1, if_pos c_2, if_pos c_4]]; exact ⟨by decide, rfl, rfl⟩))
  · refine go_iconst C (v := 1) dX2_withdraw_9 (by decide) ?_
    refine go_goto C (tgt := 36) dX2_withdraw_10 (by decide) ?_
    refine pm_thrown C dX2_withdraw_36 ?_
    refine go_aload_n C 0 dX2_withdraw_39 rfl rfl ?_
    refine gm_thrown C dX2_withdraw_40 ?_
    refine go_st (st2 := [.int 1]) rfl ?_
    refine go_if_le C (tgt := 48) dX2_withdraw_43 (by decide) (fun c_7 => absurd c_7 (by decide)) (fun c_7 => ?_)
    refine go_iconst C (v := 0) dX2_withdraw_46 (by decide) ?_
    exact go_ireturn C rfl dX2_withdraw_47 (by decide) (by decide) (Or.inr (by rw [show kWd M z = 1 from by simp only [kWd, if_pos c_1]]; exact ⟨by decide, rfl, rfl⟩))
theorem k_RL_117 {p : Program} {l : Launch} {e : Env} {R : Room} {s : State} {m : MethodId} {args : Array Value} {below : List Frame} {meth : Method} {c : Code} {D : va_G} {N0 mL : Nat} {cc : ByteArray} {nm : String} {ret : Option FieldType} {Q : State → Prop} {k n pc : Nat} {lo : List (Nat × Value)} {st : List Value} {cI cJ cZ cO : ClassId} {a : Nat → Nat} (C : Cxt p s m args meth c D (tysW cI cJ cZ cO) N0 cc mL RL ret nm) (S : CS) (M : MS) (ov : Nat → Int64) (z : Int32) (hok : okM M) (hR : 2 + 1 ≤ R.frames ∧ 8 + (3 + 11) + 43 ≤ R.locals) (hcs : k + 0 ≤ R.cells ∧ n + 0 ≤ R.slots) (hcat : (st.map fun v => v.category).sum ≤ 8) (dk : decode cc pc = .ok (.invokevirtual 117, 3)) (g0 : (kWd M z = 0) → Go p l e R s m args below meth c D N0 mL Q (wW cI cJ cZ cO a S (mWd (mT0 M) z) ov) (k) (n) (pc + 3) lo (.int (ms_fz M (Int32.toNatClampNeg z)) :: st)) (g1 : (¬ kWd M z = 0) → Go p l e R s m args below meth c D N0 mL Q (wW cI cJ cZ cO a S (ms_set_thr M (kWd M z)) ov) (k) (n) (pc + 3) lo (.int 0 :: st)) : Go p l e R s m args below meth c D N0 mL Q (wW cI cJ cZ cO a S M ov) k n pc lo (.int z :: .ref (a 5) :: st) :=
  go_callV C (ci := 2) (r9 := (RX2, TX2, 23)) (qi := 5) (As := [.int z]) (rest := st) rfl rfl (c_X2_withdraw l D cI cJ cZ cO N0 a S M ov z hok) ⟨rfl, by decide +kernel, by decide +kernel⟩ bl_RL_117 bi_yX2_withdraw bs_yX2_withdraw bz_NoticeBookModel bc_yX2_withdraw (show Option.map (fun d => d.parameters.length) (parseMethodDescriptor yX2_withdraw.desc) = some 1 by decide +kernel) hR hcs hcat dk (fun r w2 h => by
    rcases h with ⟨h9, rfl, rfl⟩ | ⟨h9, rfl, rfl⟩
    · exact g0 h9
    · exact g1 h9) rfl
set_option maxHeartbeats 4000000 in
set_option maxRecDepth 100000 in
theorem c_X2_take (l : Launch) (D : va_G) (cI cJ cZ cO : ClassId) (N0 : Nat) (a : Nat → Nat) (S : CS) (M : MS) (ov : Nat → Int64) (z : Int32) (hok : okM M) : Ct l D (tysW cI cJ cZ cO) N0 yX2_take cX2_take 3 (some .int) { frames := 2, cells := 0, slots := 0, locals := 44 } [.ref (a 5), .int z] (wW cI cJ cZ cO a S M ov) (fun r w2 => (kTk M z = 0 ∧ r = some (.int (mTkV (mT0 M) (Int32.toNatClampNeg z))) ∧ w2 = wW cI cJ cZ cO a S (mTk (mT0 M) (Int32.toNatClampNeg z)) ov) ∨ (¬ kTk M z = 0 ∧ r = some (.int 0) ∧ w2 = wW cI cJ cZ cO a S (ms_set_thr M (kTk M z)) ov)) := by
  refine ct_of (by decide +kernel) (Nat.le_of_ble_eq_true rfl) ?_
  intro p e s m args below meth c C
  have C : Cxt p s m args meth c D (tysW cI cJ cZ cO) N0 cX2_take 3 RX2 (some .int) "take" := C
  refine go_aload_n C 0 dX2_take_0 rfl rfl ?_
  refine go_aload_n C 0 dX2_take_1 rfl rfl ?_
  refine go_iload_n C 1 dX2_take_2 rfl rfl ?_
  refine k_RX2_126 C S M ov z hok ⟨(Nat.le_of_ble_eq_true rfl), (Nat.le_of_ble_eq_true rfl)⟩ ⟨(Nat.le_of_ble_eq_true rfl), (Nat.le_of_ble_eq_true rfl)⟩ (Nat.le_of_ble_eq_true rfl) dX2_take_3 ?_
  refine go_if_ne C (tgt := 13) dX2_take_6 (by decide) (fun c_1 => ?_) (fun c_1 => ?_)
  · refine go_aload_n C 0 dX2_take_13 rfl rfl ?_
    refine gm_isTerm C dX2_take_14 ?_
    refine go_iload_n C 1 dX2_take_17 rfl rfl ?_
    refine lm_isTerm C (mLo_in hok c_1).2.1 dX2_take_18 ?_
    refine go_if_ne C (tgt := 47) dX2_take_19 (by decide) (fun c_2 => ?_) (fun c_2 => ?_)
    · refine go_iconst C (v := 2) dX2_take_47 (by decide) ?_
      refine go_goto C (tgt := 52) dX2_take_48 (by decide) ?_
      refine pm_thrown C dX2_take_52 ?_
      refine go_aload_n C 0 dX2_take_55 rfl rfl ?_
      refine gm_thrown C dX2_take_56 ?_
      refine go_st (st2 := [.int 2]) rfl ?_
      refine go_if_le C (tgt := 64) dX2_take_59 (by decide) (fun c_3 => absurd c_3 (by decide)) (fun c_3 => ?_)
      refine go_iconst C (v := 0) dX2_take_62 (by decide) ?_
      exact go_ireturn C rfl dX2_take_63 (by decide) (by decide) (Or.inr (by rw [show kTk M z = 2 from by simp only [kTk, if_neg c_1, if_neg c_2]]; exact ⟨by decide, rfl, rfl⟩))
    · refine go_aload_n C 0 dX2_take_22 rfl rfl ?_
      refine gm_frozenOf C dX2_take_23 ?_
      refine go_iload_n C 1 dX2_take_26 rfl rfl ?_
      refine lm_frozenOf C (mLo_in hok c_1).2.1 dX2_take_27 ?_
      refine go_if_eq C (tgt := 47) dX2_take_28 (by decide) (fun c_4 => ?_) (fun c_4 => ?_)
      · refine go_iconst C (v := 2) dX2_take_47 (by decide) ?_
        refine go_goto C (tgt := 52) dX2_take_48 (by decide) ?_
        refine pm_thrown C dX2_take_52 ?_
        refine go_aload_n C 0 dX2_take_55 rfl rfl ?_
        refine gm_thrown C dX2_take_56 ?_
        refine go_st (st2 := [.int 2]) rfl ?_
        refine go_if_le C (tgt := 64) dX2_take_59 (by decide) (fun c_5 => absurd c_5 (by decide)) (fun c_5 => ?_)
        refine go_iconst C (v := 0) dX2_take_62 (by decide) ?_
        exact go_ireturn C rfl dX2_take_63 (by decide) (by decide) (Or.inr (by rw [show kTk M z = 2 from by simp only [kTk, if_neg c_1, if_pos c_2, if_pos c_4]]; exact ⟨by decide, rfl, rfl⟩))
      · refine go_aload_n C 0 dX2_take_31 rfl rfl ?_
        refine gm_now C dX2_take_32 ?_
        refine go_aload_n C 0 dX2_take_35 rfl rfl ?_
        refine gm_noticeDays C dX2_take_36 ?_
        refine go_iload_n C 1 dX2_take_39 rfl rfl ?_
        refine lm_noticeDays C (mLo_in hok c_1).2.1 dX2_take_40 ?_
        refine go_bipush C (v := 32) dX2_take_41 (by decide) ?_
        refine go_iadd C dX2_take_43 ?_
        refine go_icmp_ge C (tgt := 51) dX2_take_44 (by decide) (fun c_6 => ?_) (fun c_6 => ?_)
        · refine go_iconst C (v := 0) dX2_take_51 (by decide) ?_
          refine pm_thrown C dX2_take_52 ?_
          refine go_aload_n C 0 dX2_take_55 rfl rfl ?_
          refine gm_thrown C dX2_take_56 ?_
          refine go_st (st2 := [.int 0]) rfl ?_
          refine go_if_le C (tgt := 64) dX2_take_59 (by decide) (fun c_7 => ?_) (fun c_7 => absurd c_7 (by decide))
          refine go_aload_n C 0 dX2_take_64 rfl rfl ?_
          refine gm_frozenOf C dX2_take_65 ?_
          refine go_iload_n C 1 dX2_take_68 rfl rfl ?_
          refine lm_frozenOf C (mLo_in hok c_1).2.1 dX2_take_69 ?_
          refine go_istore_n C (lo' := [(2, .int (ms_fz (ms_set_thr M 0) (Int32.toNatClampNeg z))), (0, .ref (a 5)), (1, .int z)]) dX2_take_70 rfl (by decide) rfl ?_
          refine go_aload_n C 1 dX2_take_71 rfl rfl ?_
          refine gm_principals C dX2_take_72 ?_
          refine go_iload_n C 2 dX2_take_75 rfl rfl ?_
          refine go_dup2 C dX2_take_76 rfl rfl ?_
          refine lm_principals C (mLo_in hok c_1).2.1 dX2_take_77 ?_
          refine go_iload_n C 0 dX2_take_78 rfl rfl ?_
          refine go_isub C dX2_take_79 ?_
          refine sm_principals C (mLo_in hok c_1).2.1 dX2_take_80 ?_
          refine go_aload_n C 1 dX2_take_81 rfl rfl ?_
          refine gm_frozenOf C dX2_take_82 ?_
          refine go_iload_n C 2 dX2_take_85 rfl rfl ?_
          refine go_iconst C (v := 0) dX2_take_86 (by decide) ?_
          refine sm_frozenOf C (mLo_in hok c_1).2.1 dX2_take_87 ?_
          refine go_w (w2 := wW cI cJ cZ cO a S (mTk1 (mT0 M) (Int32.toNatClampNeg z)) ov) rfl ?_
          refine go_aload_n C 1 dX2_take_88 rfl rfl ?_
          refine gm_principals C dX2_take_89 ?_
          refine go_iload_n C 2 dX2_take_92 rfl rfl ?_
          refine lm_principals C (mLo_in hok c_1).2.1 dX2_take_93 ?_
          refine go_if_ne C (tgt := 105) dX2_take_94 (by decide) (fun c_8 => ?_) (fun c_8 => ?_)
          · refine go_w (w2 := wW cI cJ cZ cO a S (mTk2 (mT0 M) (Int32.toNatClampNeg z)) ov) (by rw [mTk2, if_neg c_8]) ?_
            refine go_lo (lo' := [(2, .int (mTkV (mT0 M) (Int32.toNatClampNeg z))), (0, .ref (a 5)), (1, .int z)]) [0, 1, 2] (by rw [mTkV, if_neg c_8]; rfl) ?_
            refine go_aload_n C 1 dX2_take_105 rfl rfl ?_
            refine go_aload_n C 1 dX2_take_106 rfl rfl ?_
            refine gm_owners C dX2_take_107 ?_
            refine go_iload_n C 2 dX2_take_110 rfl rfl ?_
            refine lm_owners C (mLo_in hok c_1).2.1 dX2_take_111 ?_
            refine go_iload_n C 0 dX2_take_112 rfl rfl ?_
            refine k_RX2_132 C S (mTk2 (mT0 M) (Int32.toNatClampNeg z)) ov (ms_ow (mTk2 (mT0 M) (Int32.toNatClampNeg z)) (Int32.toNatClampNeg z)) (mTkV (mT0 M) (Int32.toNatClampNeg z)) (by rw [mTk2_ow]; exact hok.2 _ (vin_eq (mLo_in hok c_1).2.1 (by decide)).2) ⟨(Nat.le_of_ble_eq_true rfl), (Nat.le_of_ble_eq_true rfl)⟩ ⟨(Nat.le_of_ble_eq_true rfl), (Nat.le_of_ble_eq_true rfl)⟩ (Nat.le_of_ble_eq_true rfl) dX2_take_113 ?_
            exact go_ireturn C rfl dX2_take_116 (by decide) (by decide) (Or.inl ⟨by simp only [kTk, if_neg c_1, if_pos c_2, if_neg c_4, if_pos c_6, if_neg c_8], rfl, rfl⟩)
          · refine go_iload_n C 0 dX2_take_97 rfl rfl ?_
            refine go_aload_n C 1 dX2_take_98 rfl rfl ?_
            refine go_iload_n C 2 dX2_take_99 rfl rfl ?_
            refine k_RX2_129 C S (mTk1 (mT0 M) (Int32.toNatClampNeg z)) ov z (mLo_in hok c_1).2.1 (hok.2 _ (vin_eq (mLo_in hok c_1).2.1 (by decide)).2) ⟨(Nat.le_of_ble_eq_true rfl), (Nat.le_of_ble_eq_true rfl)⟩ ⟨(Nat.le_of_ble_eq_true rfl), (Nat.le_of_ble_eq_true rfl)⟩ (Nat.le_of_ble_eq_true rfl) dX2_take_100 ?_
            refine go_iadd C dX2_take_103 ?_
            refine go_istore_n C (lo' := [(2, .int ((ms_fz (ms_set_thr M 0) (Int32.toNatClampNeg z)) + (mTiC (mTk1 (mT0 M) (Int32.toNatClampNeg z)) (Int32.toNatClampNeg z)))), (0, .ref (a 5)), (1, .int z)]) dX2_take_104 rfl (by decide) rfl ?_
            refine go_w (w2 := wW cI cJ cZ cO a S (mTk2 (mT0 M) (Int32.toNatClampNeg z)) ov) (by rw [mTk2, if_pos c_8]) ?_
            refine go_lo (lo' := [(2, .int (mTkV (mT0 M) (Int32.toNatClampNeg z))), (0, .ref (a 5)), (1, .int z)]) [0, 1, 2] (by rw [mTkV, if_pos c_8]; rfl) ?_
            refine go_aload_n C 1 dX2_take_105 rfl rfl ?_
            refine go_aload_n C 1 dX2_take_106 rfl rfl ?_
            refine gm_owners C dX2_take_107 ?_
            refine go_iload_n C 2 dX2_take_110 rfl rfl ?_
            refine lm_owners C (mLo_in hok c_1).2.1 dX2_take_111 ?_
            refine go_iload_n C 0 dX2_take_112 rfl rfl ?_
            refine k_RX2_132 C S (mTk2 (mT0 M) (Int32.toNatClampNeg z)) ov (ms_ow (mTk2 (mT0 M) (Int32.toNatClampNeg z)) (Int32.toNatClampNeg z)) (mTkV (mT0 M) (Int32.toNatClampNeg z)) (by rw [mTk2_ow]; exact hok.2 _ (vin_eq (mLo_in hok c_1).2.1 (by decide)).2) ⟨(Nat.le_of_ble_eq_true rfl), (Nat.le_of_ble_eq_true rfl)⟩ ⟨(Nat.le_of_ble_eq_true rfl), (Nat.le_of_ble_eq_true rfl)⟩ (Nat.le_of_ble_eq_true rfl) dX2_take_113 ?_
            exact go_ireturn C rfl dX2_take_116 (by decide) (by decide) (Or.inl ⟨by simp only [kTk, if_neg c_1, if_pos c_2, if_neg c_4, if_pos c_6, if_pos c_8], rfl, rfl⟩)
        · refine go_iconst C (v := 2) dX2_take_47 (by decide) ?_
          refine go_goto C (tgt := 52) dX2_take_48 (by decide) ?_
          refine pm_thrown C dX2_take_52 ?_
          refine go_aload_n C 0 dX2_take_55 rfl rfl ?_
          refine gm_thrown C dX2_take_56 ?_
          refine go_st (st2 := [.int 2]) rfl ?_
          refine go_if_le C (tgt := 64) dX2_take_59 (by decide) (fun c_9 => absurd c_9 (by decide)) (fun c_9 => ?_)
          refine go_iconst C (v := 0) dX2_take_62 (by decide) ?_
          exact go_ireturn C rfl dX2_take_63 (by decide) (by decide) (Or.inr (by rw [show kTk M z = 2 from by simp only [kTk, if_neg c_1, if_pos c_2, if_neg c_4, if_neg c_6]]; exact ⟨by decide, rfl, rfl⟩))
  · refine go_iconst C (v := 1) dX2_take_9 (by decide) ?_
    refine go_goto C (tgt := 52) dX2_take_10 (by decide) ?_
    refine pm_thrown C dX2_take_52 ?_
    refine go_aload_n C 0 dX2_take_55 rfl rfl ?_
    refine gm_thrown C dX2_take_56 ?_
    refine go_st (st2 := [.int 1]) rfl ?_
    refine go_if_le C (tgt := 64) dX2_take_59 (by decide) (fun c_10 => absurd c_10 (by decide)) (fun c_10 => ?_)
    refine go_iconst C (v := 0) dX2_take_62 (by decide) ?_
    exact go_ireturn C rfl dX2_take_63 (by decide) (by decide) (Or.inr (by rw [show kTk M z = 1 from by simp only [kTk, if_pos c_1]]; exact ⟨by decide, rfl, rfl⟩))
theorem k_RL_120 {p : Program} {l : Launch} {e : Env} {R : Room} {s : State} {m : MethodId} {args : Array Value} {below : List Frame} {meth : Method} {c : Code} {D : va_G} {N0 mL : Nat} {cc : ByteArray} {nm : String} {ret : Option FieldType} {Q : State → Prop} {k n pc : Nat} {lo : List (Nat × Value)} {st : List Value} {cI cJ cZ cO : ClassId} {a : Nat → Nat} (C : Cxt p s m args meth c D (tysW cI cJ cZ cO) N0 cc mL RL ret nm) (S : CS) (M : MS) (ov : Nat → Int64) (z : Int32) (hok : okM M) (hR : 2 + 1 ≤ R.frames ∧ 8 + (3 + 11) + 44 ≤ R.locals) (hcs : k + 0 ≤ R.cells ∧ n + 0 ≤ R.slots) (hcat : (st.map fun v => v.category).sum ≤ 8) (dk : decode cc pc = .ok (.invokevirtual 120, 3)) (g0 : (kTk M z = 0) → Go p l e R s m args below meth c D N0 mL Q (wW cI cJ cZ cO a S (mTk (mT0 M) (Int32.toNatClampNeg z)) ov) (k) (n) (pc + 3) lo (.int (mTkV (mT0 M) (Int32.toNatClampNeg z)) :: st)) (g1 : (¬ kTk M z = 0) → Go p l e R s m args below meth c D N0 mL Q (wW cI cJ cZ cO a S (ms_set_thr M (kTk M z)) ov) (k) (n) (pc + 3) lo (.int 0 :: st)) : Go p l e R s m args below meth c D N0 mL Q (wW cI cJ cZ cO a S M ov) k n pc lo (.int z :: .ref (a 5) :: st) :=
  go_callV C (ci := 2) (r9 := (RX2, TX2, 23)) (qi := 5) (As := [.int z]) (rest := st) rfl rfl (c_X2_take l D cI cJ cZ cO N0 a S M ov z hok) ⟨rfl, by decide +kernel, by decide +kernel⟩ bl_RL_120 bi_yX2_take bs_yX2_take bz_NoticeBookModel bc_yX2_take (show Option.map (fun d => d.parameters.length) (parseMethodDescriptor yX2_take.desc) = some 1 by decide +kernel) hR hcs hcat dk (fun r w2 h => by
    rcases h with ⟨h9, rfl, rfl⟩ | ⟨h9, rfl, rfl⟩
    · exact g0 h9
    · exact g1 h9) rfl
