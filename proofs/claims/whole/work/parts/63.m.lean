set_option maxHeartbeats 20000000 in
set_option maxRecDepth 100000 in
theorem c_X2_early (l : Launch) (D : va_G) (cI cJ cZ cO : ClassId) (N0 : Nat) (a : Nat → Nat) (S : CS) (M : MS) (ov : Nat → Int64) (cu c9 : Int32) (hok : okM M) (hE : kEa M cu c9 = 0 → erOk (mEaM M) cu c9) : Ct l D (tysW cI cJ cZ cO) N0 yX2_early cX2_early 11 (some .int) { frames := 3, cells := 0, slots := 0, locals := 68 } [.ref (a 5), .int cu, .int c9] (wW cI cJ cZ cO a S M ov) (fun r w2 => (kEa M cu c9 = 0 ∧ r = some (.int (mErTo (mEaM M) cu c9 (ms_n (mEaM M))).2.1) ∧ w2 = wW cI cJ cZ cO a S (mPa (mErTo (mEaM M) cu c9 (ms_n (mEaM M))).2.2 cu (mErTo (mEaM M) cu c9 (ms_n (mEaM M))).2.1) ov) ∨ (¬ kEa M cu c9 = 0 ∧ r = some (.int 0) ∧ w2 = wW cI cJ cZ cO a S (ms_set_thr M (kEa M cu c9)) ov)) := by
  refine ct_of (by decide +kernel) (Nat.le_of_ble_eq_true rfl) ?_
  intro p e s m args below meth c C
  have C : Cxt p s m args meth c D (tysW cI cJ cZ cO) N0 cX2_early 11 RX2 (some .int) "early" := C
  refine go_aload_n C 0 dX2_early_0 rfl rfl ?_
  refine go_iload_n C 1 dX2_early_1 rfl rfl ?_
  refine k_RX2_111 C S M ov cu ⟨(Nat.le_of_ble_eq_true rfl), (Nat.le_of_ble_eq_true rfl)⟩ ⟨(Nat.le_of_ble_eq_true rfl), (Nat.le_of_ble_eq_true rfl)⟩ (Nat.le_of_ble_eq_true rfl) dX2_early_2 ?_
  refine go_if_ne C (tgt := 12) dX2_early_5 (by decide) (fun c_1 => ?_) (fun c_1 => ?_)
  · refine go_iload_n C 2 dX2_early_12 rfl rfl ?_
    refine go_iconst C (v := 1) dX2_early_13 (by decide) ?_
    refine go_ldc C bk_RX2_135 dX2_early_14 ?_
    refine k_RX2_73 C S M ov c9 1 100000000 ⟨(Nat.le_of_ble_eq_true rfl), (Nat.le_of_ble_eq_true rfl)⟩ ⟨(Nat.le_of_ble_eq_true rfl), (Nat.le_of_ble_eq_true rfl)⟩ (Nat.le_of_ble_eq_true rfl) dX2_early_16 ?_
    refine go_if_ne C (tgt := 26) dX2_early_19 (by decide) (fun c_2 => ?_) (fun c_2 => ?_)
    · refine go_iconst C (v := 0) dX2_early_26 (by decide) ?_
      refine pm_thrown C dX2_early_27 ?_
      refine go_iconst C (v := 0) dX2_early_30 (by decide) ?_
      refine go_istore_n C (lo' := [(3, .int 0), (0, .ref (a 5)), (1, .int cu), (2, .int c9)]) dX2_early_31 rfl (by decide) rfl ?_
      refine go_iconst C (v := 0) dX2_early_32 (by decide) ?_
      refine go_istore C (lo' := [(4, .int 0), (3, .int 0), (0, .ref (a 5)), (1, .int cu), (2, .int c9)]) dX2_early_33 (by decide) rfl ?_
      refine go_for (ms_n M) (fun i => True) (fun i => wW cI cJ cZ cO a S (ms_set_thr M 0) ov) (fun i => [(4, .int (nI i)), (3, .int (mfTo M cu i)), (0, .ref (a 5)), (1, .int cu), (2, .int c9)]) ⟨rfl, rfl⟩ trivial (fun i hi_i hI_i ih_i => ?_) (fun hI_i => ?_)
      · refine go_iload C 0 dX2_early_35 rfl ?_
        refine go_aload_n C 2 dX2_early_37 rfl rfl ?_
        refine gm_lotMany C dX2_early_38 ?_
        refine go_icmp_ge C (tgt := 89) dX2_early_41 (by decide) (fun c_3 => absurd c_3 (nI_nge hi_i hok.1)) (fun c_3 => ?_)
        refine go_aload_n C 2 dX2_early_44 rfl rfl ?_
        refine gm_thrown C dX2_early_45 ?_
        refine go_st (st2 := [.int 0]) rfl ?_
        refine go_if_ne C (tgt := 89) dX2_early_48 (by decide) (fun c_4 => absurd c_4 (by decide)) (fun c_4 => ?_)
        refine go_iload_n C 1 dX2_early_51 rfl rfl ?_
        refine go_aload_n C 2 dX2_early_52 rfl rfl ?_
        refine go_iload C 0 dX2_early_53 rfl ?_
        refine go_iload_n C 3 dX2_early_55 rfl rfl ?_
        refine k_RX2_84 C S (ms_set_thr M 0) ov (nI i) cu (nI_vin (Nat.lt_of_lt_of_le hi_i hok.1)) ⟨(Nat.le_of_ble_eq_true rfl), (Nat.le_of_ble_eq_true rfl)⟩ ⟨(Nat.le_of_ble_eq_true rfl), (Nat.le_of_ble_eq_true rfl)⟩ (Nat.le_of_ble_eq_true rfl) dX2_early_56 ?_
        rw [cl_nI (i := i) (by have := hi_i; have := hok.1; omega)]
        refine go_if_eq C (tgt := 80) dX2_early_59 (by decide) (fun c_5 => ?_) (fun c_5 => ?_)
        · refine go_iconst C (v := 0) dX2_early_80 (by decide) ?_
          refine go_iadd C dX2_early_81 ?_
          refine go_istore_n C (lo' := [(3, .int ((mfTo M cu i) + 0)), (4, .int (nI i)), (0, .ref (a 5)), (1, .int cu), (2, .int c9)]) dX2_early_82 rfl (by decide) rfl ?_
          refine go_iinc C (v := nI (i + 1)) (lo' := [(4, .int (nI (i + 1))), (3, .int ((mfTo M cu i) + 0)), (0, .ref (a 5)), (1, .int cu), (2, .int c9)]) 1 dX2_early_83 rfl (nI_1 _) (by decide) rfl ?_
          refine go_goto C (tgt := 35) dX2_early_86 (by decide) ?_
          refine go_lo (lo' := [(4, .int (nI (i + 1))), (3, .int (mfTo M cu (i + 1))), (0, .ref (a 5)), (1, .int cu), (2, .int c9)]) [0, 1, 2, 3, 4] (by rw [mf_0 (M := M) c_5]; rfl) ?_
          exact ih_i trivial
        · refine go_aload_n C 2 dX2_early_62 rfl rfl ?_
          refine gm_principals C dX2_early_63 ?_
          refine go_iload C 0 dX2_early_66 rfl ?_
          refine lm_principals C (nI_vin (Nat.lt_of_lt_of_le hi_i hok.1)) dX2_early_68 ?_
          rw [cl_nI (i := i) (by have := hi_i; have := hok.1; omega)]
          refine go_aload_n C 2 dX2_early_69 rfl rfl ?_
          refine gm_frozenOf C dX2_early_70 ?_
          refine go_iload C 0 dX2_early_73 rfl ?_
          refine lm_frozenOf C (nI_vin (Nat.lt_of_lt_of_le hi_i hok.1)) dX2_early_75 ?_
          rw [cl_nI (i := i) (by have := hi_i; have := hok.1; omega)]
          refine go_isub C dX2_early_76 ?_
          refine go_goto C (tgt := 81) dX2_early_77 (by decide) ?_
          refine go_iadd C dX2_early_81 ?_
          refine go_istore_n C (lo' := [(3, .int ((mfTo M cu i) + ((ms_pr (ms_set_thr M 0) i) - (ms_fz (ms_set_thr M 0) i)))), (4, .int (nI i)), (0, .ref (a 5)), (1, .int cu), (2, .int c9)]) dX2_early_82 rfl (by decide) rfl ?_
          refine go_iinc C (v := nI (i + 1)) (lo' := [(4, .int (nI (i + 1))), (3, .int ((mfTo M cu i) + ((ms_pr (ms_set_thr M 0) i) - (ms_fz (ms_set_thr M 0) i)))), (0, .ref (a 5)), (1, .int cu), (2, .int c9)]) 1 dX2_early_83 rfl (nI_1 _) (by decide) rfl ?_
          refine go_goto C (tgt := 35) dX2_early_86 (by decide) ?_
          refine go_lo (lo' := [(4, .int (nI (i + 1))), (3, .int (mfTo M cu (i + 1))), (0, .ref (a 5)), (1, .int cu), (2, .int c9)]) [0, 1, 2, 3, 4] (by rw [mf_1 (M := M) c_5]; rfl) ?_
          exact ih_i trivial
      · refine go_iload C 0 dX2_early_35 rfl ?_
        refine go_aload_n C 2 dX2_early_37 rfl rfl ?_
        refine gm_lotMany C dX2_early_38 ?_
        refine go_icmp_ge C (tgt := 89) dX2_early_41 (by decide) (fun c_6 => ?_) (fun c_6 => absurd (nI_ger hok.1) c_6)
        refine go_aload_n C 2 dX2_early_89 rfl rfl ?_
        refine go_aload_n C 2 dX2_early_90 rfl rfl ?_
        refine gm_thrown C dX2_early_91 ?_
        refine go_st (st2 := [.int 0, .ref (a 5)]) rfl ?_
        refine go_if_ne C (tgt := 106) dX2_early_94 (by decide) (fun c_7 => absurd c_7 (by decide)) (fun c_7 => ?_)
        refine go_iload_n C 1 dX2_early_97 rfl rfl ?_
        refine go_iload_n C 4 dX2_early_98 rfl rfl ?_
        refine go_icmp_ge C (tgt := 106) dX2_early_99 (by decide) (fun c_8 => ?_) (fun c_8 => ?_)
        · refine go_aload_n C 2 dX2_early_106 rfl rfl ?_
          refine gm_thrown C dX2_early_107 ?_
          refine go_st (st2 := [.int 0, .ref (a 5)]) rfl ?_
          refine pm_thrown C dX2_early_110 ?_
          refine go_w (w2 := wW cI cJ cZ cO a S (ms_set_thr M 0) ov) rfl ?_
          refine go_aload_n C 2 dX2_early_113 rfl rfl ?_
          refine gm_thrown C dX2_early_114 ?_
          refine go_st (st2 := [.int 0]) rfl ?_
          refine go_if_le C (tgt := 122) dX2_early_117 (by decide) (fun c_9 => ?_) (fun c_9 => absurd c_9 (by decide))
          refine go_iconst C (v := 0) dX2_early_122 (by decide) ?_
          refine go_istore C (lo' := [(4, .int 0), (3, .int (mfTo M cu (ms_n M))), (0, .ref (a 5)), (1, .int cu), (2, .int c9)]) dX2_early_123 (by decide) rfl ?_
          refine go_for (ms_n M) (fun i => True) (fun i => wW cI cJ cZ cO a S (mqM (mT0 M) i) ov) (fun i => [(4, .int (nI i)), (3, .int (mfTo M cu (ms_n M))), (0, .ref (a 5)), (1, .int cu), (2, .int c9)]) ⟨rfl, rfl⟩ trivial (fun i hi_i hI_i ih_i => ?_) (fun hI_i => ?_)
          · refine go_iload C 0 dX2_early_125 rfl ?_
            refine go_aload_n C 2 dX2_early_127 rfl rfl ?_
            refine gm_lotMany C dX2_early_128 ?_
            refine go_icmp_ge C (tgt := 189) dX2_early_131 (by decide) (fun c_10 => absurd c_10 (nI_nge hi_i hok.1)) (fun c_10 => ?_)
            refine go_aload_n C 2 dX2_early_134 rfl rfl ?_
            refine gm_isDone C dX2_early_135 ?_
            refine go_iload C 0 dX2_early_138 rfl ?_
            refine go_iconst C (v := 0) dX2_early_140 (by decide) ?_
            refine sm_isDone C (nI_vin (Nat.lt_of_lt_of_le hi_i hok.1)) dX2_early_141 ?_
            rw [cl_nI (i := i) (by have := hi_i; have := hok.1; omega)]
            refine go_w (w2 := wW cI cJ cZ cO a S (mq1 (mT0 M) i) ov) (by rw [mq1_e]) ?_
            refine go_aload_n C 2 dX2_early_142 rfl rfl ?_
            refine gm_partsAhead C dX2_early_143 ?_
            refine go_iload C 0 dX2_early_146 rfl ?_
            refine go_aload_n C 2 dX2_early_148 rfl rfl ?_
            refine gm_isThere C dX2_early_149 ?_
            refine go_iload C 0 dX2_early_152 rfl ?_
            refine lm_isThere C (nI_vin (Nat.lt_of_lt_of_le hi_i hok.1)) dX2_early_154 ?_
            rw [cl_nI (i := i) (by have := hi_i; have := hok.1; omega)]
            refine go_if_eq C (tgt := 167) dX2_early_155 (by decide) (fun c_11 => ?_) (fun c_11 => ?_)
            · refine go_lconst C (v := 0) dX2_early_167 (by decide) ?_
              refine sm_partsAhead C (nI_vin (Nat.lt_of_lt_of_le hi_i hok.1)) dX2_early_168 ?_
              rw [cl_nI (i := i) (by have := hi_i; have := hok.1; omega)]
              refine go_w (w2 := wW cI cJ cZ cO a S (mq2 (mT0 M) i) ov) (by rw [mq2_0 c_11]) ?_
              refine go_aload_n C 2 dX2_early_169 rfl rfl ?_
              refine gm_principalsAhead C dX2_early_170 ?_
              refine go_iload C 0 dX2_early_173 rfl ?_
              refine go_aload_n C 2 dX2_early_175 rfl rfl ?_
              refine gm_principals C dX2_early_176 ?_
              refine go_iload C 0 dX2_early_179 rfl ?_
              refine lm_principals C (nI_vin (Nat.lt_of_lt_of_le hi_i hok.1)) dX2_early_181 ?_
              rw [cl_nI (i := i) (by have := hi_i; have := hok.1; omega)]
              refine sm_principalsAhead C (nI_vin (Nat.lt_of_lt_of_le hi_i hok.1)) dX2_early_182 ?_
              rw [cl_nI (i := i) (by have := hi_i; have := hok.1; omega)]
              refine go_iinc C (v := nI (i + 1)) (lo' := [(4, .int (nI (i + 1))), (3, .int (mfTo M cu (ms_n M))), (0, .ref (a 5)), (1, .int cu), (2, .int c9)]) 0 dX2_early_183 rfl (nI_1 _) (by decide) rfl ?_
              refine go_goto C (tgt := 125) dX2_early_186 (by decide) ?_
              refine go_lo (lo' := [(4, .int (nI (i + 1))), (3, .int (mfTo M cu (ms_n M))), (0, .ref (a 5)), (1, .int cu), (2, .int c9)]) [0, 1, 2, 3, 4] (by rfl) ?_
              refine go_w (w2 := wW cI cJ cZ cO a S (mqM (mT0 M) (i + 1)) ov) (by rw [mq3]) ?_
              exact ih_i trivial
            · refine go_aload_n C 2 dX2_early_158 rfl rfl ?_
              refine go_iload C 0 dX2_early_159 rfl ?_
              refine k_RX2_136 C S (mq1 (mT0 M) i) ov (nI i) (nI_vin (Nat.lt_of_lt_of_le hi_i hok.1)) (okM_q1 i hok) ⟨(Nat.le_of_ble_eq_true rfl), (Nat.le_of_ble_eq_true rfl)⟩ ⟨(Nat.le_of_ble_eq_true rfl), (Nat.le_of_ble_eq_true rfl)⟩ (Nat.le_of_ble_eq_true rfl) dX2_early_161 ?_
              rw [cl_nI (i := i) (by have := hi_i; have := hok.1; omega)]
              refine go_goto C (tgt := 168) dX2_early_164 (by decide) ?_
              refine sm_partsAhead C (nI_vin (Nat.lt_of_lt_of_le hi_i hok.1)) dX2_early_168 ?_
              rw [cl_nI (i := i) (by have := hi_i; have := hok.1; omega)]
              refine go_w (w2 := wW cI cJ cZ cO a S (mq2 (mT0 M) i) ov) (by rw [mq2_1 c_11]) ?_
              refine go_aload_n C 2 dX2_early_169 rfl rfl ?_
              refine gm_principalsAhead C dX2_early_170 ?_
              refine go_iload C 0 dX2_early_173 rfl ?_
              refine go_aload_n C 2 dX2_early_175 rfl rfl ?_
              refine gm_principals C dX2_early_176 ?_
              refine go_iload C 0 dX2_early_179 rfl ?_
              refine lm_principals C (nI_vin (Nat.lt_of_lt_of_le hi_i hok.1)) dX2_early_181 ?_
              rw [cl_nI (i := i) (by have := hi_i; have := hok.1; omega)]
              refine sm_principalsAhead C (nI_vin (Nat.lt_of_lt_of_le hi_i hok.1)) dX2_early_182 ?_
              rw [cl_nI (i := i) (by have := hi_i; have := hok.1; omega)]
              refine go_iinc C (v := nI (i + 1)) (lo' := [(4, .int (nI (i + 1))), (3, .int (mfTo M cu (ms_n M))), (0, .ref (a 5)), (1, .int cu), (2, .int c9)]) 0 dX2_early_183 rfl (nI_1 _) (by decide) rfl ?_
              refine go_goto C (tgt := 125) dX2_early_186 (by decide) ?_
              refine go_lo (lo' := [(4, .int (nI (i + 1))), (3, .int (mfTo M cu (ms_n M))), (0, .ref (a 5)), (1, .int cu), (2, .int c9)]) [0, 1, 2, 3, 4] (by rfl) ?_
              refine go_w (w2 := wW cI cJ cZ cO a S (mqM (mT0 M) (i + 1)) ov) (by rw [mq3]) ?_
              exact ih_i trivial
          · refine go_iload C 0 dX2_early_125 rfl ?_
            refine go_aload_n C 2 dX2_early_127 rfl rfl ?_
            refine gm_lotMany C dX2_early_128 ?_
            refine go_icmp_ge C (tgt := 189) dX2_early_131 (by decide) (fun c_12 => ?_) (fun c_12 => absurd (nI_ger hok.1) c_12)
            refine go_w (w2 := wW cI cJ cZ cO a S (mEaM M) ov) rfl ?_
            refine go_iload_n C 4 dX2_early_189 rfl rfl ?_
            refine go_istore C (lo' := [(4, .int c9), (3, .int (mfTo M cu (ms_n M))), (0, .ref (a 5)), (1, .int cu), (2, .int c9)]) dX2_early_190 (by decide) rfl ?_
            refine go_iload_n C 4 dX2_early_192 rfl rfl ?_
            refine go_istore C (lo' := [(5, .int c9), (4, .int c9), (3, .int (mfTo M cu (ms_n M))), (0, .ref (a 5)), (1, .int cu), (2, .int c9)]) dX2_early_193 (by decide) rfl ?_
            have hk9 : kEa M cu c9 = 0 := by simp only [kEa, if_neg c_1, if_neg c_2, if_pos c_8]
            refine go_for (ms_n (mEaM M)) (fun i => True) (fun i => wW cI cJ cZ cO a S (mErTo (mEaM M) cu c9 i).2.2 ov) (fun i => [(5, .int (mErTo (mEaM M) cu c9 i).2.1), (4, .int (mErTo (mEaM M) cu c9 i).1), (3, .int (mfTo M cu (ms_n M))), (0, .ref (a 5)), (1, .int cu), (2, .int c9)]) ⟨rfl, rfl⟩ trivial (fun i hi_i hI_i ih_i => ?_) (fun hI_i => ?_)
            · have hoke : okM (mErTo (mEaM M) cu c9 i).2.2 := (fx_mer _ _ _ i).ok hok
              refine go_iload C 1 dX2_early_195 rfl ?_
              refine go_if_le C (tgt := 367) dX2_early_197 (by decide) (fun c_13 => ?_) (fun c_13 => ?_)
              · have e8 := mer_end c_13 (Nat.le_of_lt hi_i)
                refine go_w (w2 := wW cI cJ cZ cO a S (mErTo (mEaM M) cu c9 (ms_n (mEaM M))).2.2 ov) (by rw [e8]) ?_
                refine go_lo (lo' := [(5, .int (mErTo (mEaM M) cu c9 (ms_n (mEaM M))).2.1), (4, .int (mErTo (mEaM M) cu c9 (ms_n (mEaM M))).1), (3, .int (mfTo M cu (ms_n M))), (0, .ref (a 5)), (1, .int cu), (2, .int c9)]) [0, 1, 2, 3, 4, 5] (by rw [e8]; rfl) ?_
                refine go_aload_n C 3 dX2_early_367 rfl rfl ?_
                refine go_iload_n C 4 dX2_early_368 rfl rfl ?_
                refine go_iload C 0 dX2_early_369 rfl ?_
                refine k_RX2_132 C S (mErTo (mEaM M) cu c9 (ms_n (mEaM M))).2.2 ov cu (mErTo (mEaM M) cu c9 (ms_n (mEaM M))).2.1 (mCu_in c_1) ⟨(Nat.le_of_ble_eq_true rfl), (Nat.le_of_ble_eq_true rfl)⟩ ⟨(Nat.le_of_ble_eq_true rfl), (Nat.le_of_ble_eq_true rfl)⟩ (Nat.le_of_ble_eq_true rfl) dX2_early_371 ?_
                exact go_ireturn C rfl dX2_early_374 (by decide) (by decide) (Or.inl ⟨hk9, rfl, rfl⟩)
              · refine go_aload_n C 3 dX2_early_200 rfl rfl ?_
                refine go_iload_n C 4 dX2_early_201 rfl rfl ?_
                refine k_RX2_139 C S (mErTo (mEaM M) cu c9 i).2.2 ov cu (by rw [(fx_mer (mEaM M) cu c9 i).1]; exact hok.1) ⟨(Nat.le_of_ble_eq_true rfl), (Nat.le_of_ble_eq_true rfl)⟩ ⟨(Nat.le_of_ble_eq_true rfl), (Nat.le_of_ble_eq_true rfl)⟩ (Nat.le_of_ble_eq_true rfl) dX2_early_202 ?_
                obtain ⟨b9, hx9, hp9⟩ := (hE hk9).1 i c_13
                have hlt9 : b9 < 40 := by have := mnTo_lt hx9; have := hok.1; have h8 : ms_n (mEaM M) = ms_n M := rfl; omega
                refine go_st (st2 := [.int (nI b9)]) (by rw [(fx_mer (mEaM M) cu c9 i).1, hx9]; rfl) ?_
                refine go_istore C (lo' := [(6, .int (nI b9)), (5, .int (mErTo (mEaM M) cu c9 i).2.1), (4, .int (mErTo (mEaM M) cu c9 i).1), (3, .int (mfTo M cu (ms_n M))), (0, .ref (a 5)), (1, .int cu), (2, .int c9)]) dX2_early_205 (by decide) rfl ?_
                refine go_aload_n C 4 dX2_early_207 rfl rfl ?_
                refine gm_principals C dX2_early_208 ?_
                refine go_iload C 0 dX2_early_211 rfl ?_
                refine lm_principals C (nI_vin hlt9) dX2_early_213 ?_
                rw [cl_nI (i := b9) (by omega)]
                refine go_aload_n C 4 dX2_early_214 rfl rfl ?_
                refine gm_frozenOf C dX2_early_215 ?_
                refine go_iload C 0 dX2_early_218 rfl ?_
                refine lm_frozenOf C (nI_vin hlt9) dX2_early_220 ?_
                rw [cl_nI (i := b9) (by omega)]
                refine go_isub C dX2_early_221 ?_
                refine go_istore C (lo' := [(7, .int ((ms_pr (mErTo (mEaM M) cu c9 i).2.2 b9) - (ms_fz (mErTo (mEaM M) cu c9 i).2.2 b9))), (6, .int (nI b9)), (5, .int (mErTo (mEaM M) cu c9 i).2.1), (4, .int (mErTo (mEaM M) cu c9 i).1), (3, .int (mfTo M cu (ms_n M))), (0, .ref (a 5)), (1, .int cu), (2, .int c9)]) dX2_early_222 (by decide) rfl ?_
                refine go_join (wW cI cJ cZ cO a S (mErTo (mEaM M) cu c9 i).2.2 ov) 240 [(8, .int (meTk (mErTo (mEaM M) cu c9 i).1 (mErTo (mEaM M) cu c9 i).2.2 b9)), (7, .int ((ms_pr (mErTo (mEaM M) cu c9 i).2.2 b9) - (ms_fz (mErTo (mEaM M) cu c9 i).2.2 b9))), (6, .int (nI b9)), (5, .int (mErTo (mEaM M) cu c9 i).2.1), (4, .int (mErTo (mEaM M) cu c9 i).1), (3, .int (mfTo M cu (ms_n M))), (0, .ref (a 5)), (1, .int cu), (2, .int c9)] [] ?_ (fun gj_14 => ?_)
                · refine go_ldc2 C bk_RX2_142 dX2_early_240 ?_
                  refine go_aload_n C 6 dX2_early_243 rfl rfl ?_
                  refine gm_partsAhead C dX2_early_244 ?_
                  refine go_iload C 2 dX2_early_247 rfl ?_
                  refine lm_partsAhead C (nI_vin hlt9) dX2_early_249 ?_
                  rw [cl_nI (i := b9) (by omega)]
                  refine go_lmul C dX2_early_250 ?_
                  refine go_iload C 0 dX2_early_251 rfl ?_
                  refine go_i2l C dX2_early_253 ?_
                  refine go_lmul C dX2_early_254 ?_
                  refine go_aload_n C 6 dX2_early_255 rfl rfl ?_
                  refine gm_principalsAhead C dX2_early_256 ?_
                  refine go_iload C 2 dX2_early_259 rfl ?_
                  refine lm_principalsAhead C (nI_vin hlt9) dX2_early_261 ?_
                  rw [cl_nI (i := b9) (by omega)]
                  refine go_i2l C dX2_early_262 ?_
                  refine go_ldiv C dX2_early_263 hp9 ?_
                  refine go_st (st2 := [.long (meL1 (mErTo (mEaM M) cu c9 i).2.2 b9 (meTk (mErTo (mEaM M) cu c9 i).1 (mErTo (mEaM M) cu c9 i).2.2 b9))]) (by rfl) ?_
                  refine go_lstore C (lo' := [(9, .long (meL1 (mErTo (mEaM M) cu c9 i).2.2 b9 (meTk (mErTo (mEaM M) cu c9 i).1 (mErTo (mEaM M) cu c9 i).2.2 b9))), (8, .int (meTk (mErTo (mEaM M) cu c9 i).1 (mErTo (mEaM M) cu c9 i).2.2 b9)), (7, .int ((ms_pr (mErTo (mEaM M) cu c9 i).2.2 b9) - (ms_fz (mErTo (mEaM M) cu c9 i).2.2 b9))), (6, .int (nI b9)), (5, .int (mErTo (mEaM M) cu c9 i).2.1), (4, .int (mErTo (mEaM M) cu c9 i).1), (3, .int (mfTo M cu (ms_n M))), (0, .ref (a 5)), (1, .int cu), (2, .int c9)]) dX2_early_264 (by decide) rfl ?_
                  refine go_join (wW cI cJ cZ cO a S (mErTo (mEaM M) cu c9 i).2.2 ov) 293 [(9, .long (meL (mErTo (mEaM M) cu c9 i).2.2 b9 (meTk (mErTo (mEaM M) cu c9 i).1 (mErTo (mEaM M) cu c9 i).2.2 b9))), (8, .int (meTk (mErTo (mEaM M) cu c9 i).1 (mErTo (mEaM M) cu c9 i).2.2 b9)), (7, .int ((ms_pr (mErTo (mEaM M) cu c9 i).2.2 b9) - (ms_fz (mErTo (mEaM M) cu c9 i).2.2 b9))), (6, .int (nI b9)), (5, .int (mErTo (mEaM M) cu c9 i).2.1), (4, .int (mErTo (mEaM M) cu c9 i).1), (3, .int (mfTo M cu (ms_n M))), (0, .ref (a 5)), (1, .int cu), (2, .int c9)] [] ?_ (fun gj_15 => ?_)
                  · refine go_aload_n C 7 dX2_early_293 rfl rfl ?_
                    refine gm_earnings C dX2_early_294 ?_
                    refine go_iload C 3 dX2_early_297 rfl ?_
                    refine go_dup2 C dX2_early_299 rfl rfl ?_
                    refine lm_earnings C (nI_vin hlt9) dX2_early_300 ?_
                    rw [cl_nI (i := b9) (by omega)]
                    refine go_lload C 0 dX2_early_301 rfl ?_
                    refine go_lsub C dX2_early_303 ?_
                    refine sm_earnings C (nI_vin hlt9) dX2_early_304 ?_
                    rw [cl_nI (i := b9) (by omega)]
                    refine go_w (w2 := wW cI cJ cZ cO a S (me1 (mErTo (mEaM M) cu c9 i).2.2 b9 (meL (mErTo (mEaM M) cu c9 i).2.2 b9 (meTk (mErTo (mEaM M) cu c9 i).1 (mErTo (mEaM M) cu c9 i).2.2 b9))) ov) rfl ?_
                    refine go_aload_n C 7 dX2_early_305 rfl rfl ?_
                    refine gm_lostBy C dX2_early_306 ?_
                    refine go_iload_n C 8 dX2_early_309 rfl rfl ?_
                    refine go_dup2 C dX2_early_310 rfl rfl ?_
                    refine lm_lostBy C (mCu_in c_1) dX2_early_311 ?_
                    refine go_lload C 0 dX2_early_312 rfl ?_
                    refine go_ladd C dX2_early_314 ?_
                    refine sm_lostBy C (mCu_in c_1) dX2_early_315 ?_
                    refine go_w (w2 := wW cI cJ cZ cO a S (me2 (me1 (mErTo (mEaM M) cu c9 i).2.2 b9 (meL (mErTo (mEaM M) cu c9 i).2.2 b9 (meTk (mErTo (mEaM M) cu c9 i).1 (mErTo (mEaM M) cu c9 i).2.2 b9))) cu (meL (mErTo (mEaM M) cu c9 i).2.2 b9 (meTk (mErTo (mEaM M) cu c9 i).1 (mErTo (mEaM M) cu c9 i).2.2 b9))) ov) rfl ?_
                    refine go_aload_n C 7 dX2_early_316 rfl rfl ?_
                    refine gm_principals C dX2_early_317 ?_
                    refine go_iload C 3 dX2_early_320 rfl ?_
                    refine go_dup2 C dX2_early_322 rfl rfl ?_
                    refine lm_principals C (nI_vin hlt9) dX2_early_323 ?_
                    rw [cl_nI (i := b9) (by omega)]
                    refine go_iload C 1 dX2_early_324 rfl ?_
                    refine go_isub C dX2_early_326 ?_
                    refine sm_principals C (nI_vin hlt9) dX2_early_327 ?_
                    rw [cl_nI (i := b9) (by omega)]
                    refine go_w (w2 := wW cI cJ cZ cO a S (me3 (me2 (me1 (mErTo (mEaM M) cu c9 i).2.2 b9 (meL (mErTo (mEaM M) cu c9 i).2.2 b9 (meTk (mErTo (mEaM M) cu c9 i).1 (mErTo (mEaM M) cu c9 i).2.2 b9))) cu (meL (mErTo (mEaM M) cu c9 i).2.2 b9 (meTk (mErTo (mEaM M) cu c9 i).1 (mErTo (mEaM M) cu c9 i).2.2 b9))) b9 (meTk (mErTo (mEaM M) cu c9 i).1 (mErTo (mEaM M) cu c9 i).2.2 b9)) ov) rfl ?_
                    refine go_iload C 5 dX2_early_328 rfl ?_
                    refine go_iload C 1 dX2_early_330 rfl ?_
                    refine go_isub C dX2_early_332 ?_
                    refine go_istore C (lo' := [(4, .int ((mErTo (mEaM M) cu c9 i).1 - (meTk (mErTo (mEaM M) cu c9 i).1 (mErTo (mEaM M) cu c9 i).2.2 b9))), (9, .long (meL (mErTo (mEaM M) cu c9 i).2.2 b9 (meTk (mErTo (mEaM M) cu c9 i).1 (mErTo (mEaM M) cu c9 i).2.2 b9))), (8, .int (meTk (mErTo (mEaM M) cu c9 i).1 (mErTo (mEaM M) cu c9 i).2.2 b9)), (7, .int ((ms_pr (mErTo (mEaM M) cu c9 i).2.2 b9) - (ms_fz (mErTo (mEaM M) cu c9 i).2.2 b9))), (6, .int (nI b9)), (5, .int (mErTo (mEaM M) cu c9 i).2.1), (3, .int (mfTo M cu (ms_n M))), (0, .ref (a 5)), (1, .int cu), (2, .int c9)]) dX2_early_333 (by decide) rfl ?_
                    refine go_aload_n C 7 dX2_early_335 rfl rfl ?_
                    refine gm_isDone C dX2_early_336 ?_
                    refine go_iload C 4 dX2_early_339 rfl ?_
                    refine go_iconst C (v := 1) dX2_early_341 (by decide) ?_
                    refine sm_isDone C (nI_vin hlt9) dX2_early_342 ?_
                    rw [cl_nI (i := b9) (by omega)]
                    refine go_w (w2 := wW cI cJ cZ cO a S (mE1 (mErTo (mEaM M) cu c9 i).2.2 cu b9 (meTk (mErTo (mEaM M) cu c9 i).1 (mErTo (mEaM M) cu c9 i).2.2 b9)) ov) rfl ?_
                    refine go_join (wW cI cJ cZ cO a S (mE2 (mE1 (mErTo (mEaM M) cu c9 i).2.2 cu b9 (meTk (mErTo (mEaM M) cu c9 i).1 (mErTo (mEaM M) cu c9 i).2.2 b9)) b9) ov) 364 [(4, .int ((mErTo (mEaM M) cu c9 i).1 - (meTk (mErTo (mEaM M) cu c9 i).1 (mErTo (mEaM M) cu c9 i).2.2 b9))), (9, .long (meL (mErTo (mEaM M) cu c9 i).2.2 b9 (meTk (mErTo (mEaM M) cu c9 i).1 (mErTo (mEaM M) cu c9 i).2.2 b9))), (8, .int (meTk (mErTo (mEaM M) cu c9 i).1 (mErTo (mEaM M) cu c9 i).2.2 b9)), (7, .int ((ms_pr (mErTo (mEaM M) cu c9 i).2.2 b9) - (ms_fz (mErTo (mEaM M) cu c9 i).2.2 b9))), (6, .int (nI b9)), (5, .int (mE2c (mErTo (mEaM M) cu c9 i).2.1 (mE1 (mErTo (mEaM M) cu c9 i).2.2 cu b9 (meTk (mErTo (mEaM M) cu c9 i).1 (mErTo (mEaM M) cu c9 i).2.2 b9)) b9)), (3, .int (mfTo M cu (ms_n M))), (0, .ref (a 5)), (1, .int cu), (2, .int c9)] [] ?_ (fun gj_16 => ?_)
                    · refine go_goto C (tgt := 195) dX2_early_364 (by decide) ?_
                      have e9 := mer_s c_13 hx9
                      refine go_lo (lo' := [(5, .int (mErTo (mEaM M) cu c9 (i + 1)).2.1), (4, .int (mErTo (mEaM M) cu c9 (i + 1)).1), (3, .int (mfTo M cu (ms_n M))), (0, .ref (a 5)), (1, .int cu), (2, .int c9)]) [5, 0, 6, 7, 8, 9] (by rw [e9]; rfl) ?_
                      refine go_w (w2 := wW cI cJ cZ cO a S (mErTo (mEaM M) cu c9 (i + 1)).2.2 ov) (by rw [e9]) ?_
                      exact ih_i trivial
                    · refine go_aload_n C 7 dX2_early_343 rfl rfl ?_
                      refine gm_principals C dX2_early_344 ?_
                      refine go_iload C 4 dX2_early_347 rfl ?_
                      refine lm_principals C (nI_vin hlt9) dX2_early_349 ?_
                      rw [cl_nI (i := b9) (by omega)]
                      refine go_if_ne C (tgt := 364) dX2_early_350 (by decide) (fun c_17 => ?_) (fun c_17 => ?_)
                      · have e9 : mE2c (mErTo (mEaM M) cu c9 i).2.1 (mE1 (mErTo (mEaM M) cu c9 i).2.2 cu b9 (meTk (mErTo (mEaM M) cu c9 i).1 (mErTo (mEaM M) cu c9 i).2.2 b9)) b9 = (mErTo (mEaM M) cu c9 i).2.1 := by rw [mE2c, if_neg c_17] <;> rfl
                        have e8 : mE2 (mE1 (mErTo (mEaM M) cu c9 i).2.2 cu b9 (meTk (mErTo (mEaM M) cu c9 i).1 (mErTo (mEaM M) cu c9 i).2.2 b9)) b9 = mE1 (mErTo (mEaM M) cu c9 i).2.2 cu b9 (meTk (mErTo (mEaM M) cu c9 i).1 (mErTo (mEaM M) cu c9 i).2.2 b9) := by rw [mE2, if_neg c_17] <;> rfl
                        refine go_lo (lo' := [(4, .int ((mErTo (mEaM M) cu c9 i).1 - (meTk (mErTo (mEaM M) cu c9 i).1 (mErTo (mEaM M) cu c9 i).2.2 b9))), (9, .long (meL (mErTo (mEaM M) cu c9 i).2.2 b9 (meTk (mErTo (mEaM M) cu c9 i).1 (mErTo (mEaM M) cu c9 i).2.2 b9))), (8, .int (meTk (mErTo (mEaM M) cu c9 i).1 (mErTo (mEaM M) cu c9 i).2.2 b9)), (7, .int ((ms_pr (mErTo (mEaM M) cu c9 i).2.2 b9) - (ms_fz (mErTo (mEaM M) cu c9 i).2.2 b9))), (6, .int (nI b9)), (5, .int (mE2c (mErTo (mEaM M) cu c9 i).2.1 (mE1 (mErTo (mEaM M) cu c9 i).2.2 cu b9 (meTk (mErTo (mEaM M) cu c9 i).1 (mErTo (mEaM M) cu c9 i).2.2 b9)) b9)), (3, .int (mfTo M cu (ms_n M))), (0, .ref (a 5)), (1, .int cu), (2, .int c9)]) [0, 1, 2, 3, 4, 5, 6, 7, 8, 9] (by rw [e9] <;> rfl) ?_
                        refine go_w (w2 := wW cI cJ cZ cO a S (mE2 (mE1 (mErTo (mEaM M) cu c9 i).2.2 cu b9 (meTk (mErTo (mEaM M) cu c9 i).1 (mErTo (mEaM M) cu c9 i).2.2 b9)) b9) ov) (by rw [e8] <;> rfl) ?_
                        exact gj_16
                      · refine go_iload C 5 dX2_early_353 rfl ?_
                        refine go_aload_n C 7 dX2_early_355 rfl rfl ?_
                        refine go_iload C 4 dX2_early_356 rfl ?_
                        refine k_RX2_129 C S (mE1 (mErTo (mEaM M) cu c9 i).2.2 cu b9 (meTk (mErTo (mEaM M) cu c9 i).1 (mErTo (mEaM M) cu c9 i).2.2 b9)) ov (nI b9) (nI_vin hlt9) (by rw [ow_e1]; exact hoke.2 _ (vin_eq (nI_vin hlt9) (by decide)).2) ⟨(Nat.le_of_ble_eq_true rfl), (Nat.le_of_ble_eq_true rfl)⟩ ⟨(Nat.le_of_ble_eq_true rfl), (Nat.le_of_ble_eq_true rfl)⟩ (Nat.le_of_ble_eq_true rfl) dX2_early_358 ?_
                        rw [cl_nI (i := b9) (by omega)]
                        refine go_iadd C dX2_early_361 ?_
                        refine go_istore C (lo' := [(5, .int ((mErTo (mEaM M) cu c9 i).2.1 + (mTiC (mE1 (mErTo (mEaM M) cu c9 i).2.2 cu b9 (meTk (mErTo (mEaM M) cu c9 i).1 (mErTo (mEaM M) cu c9 i).2.2 b9)) b9))), (4, .int ((mErTo (mEaM M) cu c9 i).1 - (meTk (mErTo (mEaM M) cu c9 i).1 (mErTo (mEaM M) cu c9 i).2.2 b9))), (9, .long (meL (mErTo (mEaM M) cu c9 i).2.2 b9 (meTk (mErTo (mEaM M) cu c9 i).1 (mErTo (mEaM M) cu c9 i).2.2 b9))), (8, .int (meTk (mErTo (mEaM M) cu c9 i).1 (mErTo (mEaM M) cu c9 i).2.2 b9)), (7, .int ((ms_pr (mErTo (mEaM M) cu c9 i).2.2 b9) - (ms_fz (mErTo (mEaM M) cu c9 i).2.2 b9))), (6, .int (nI b9)), (3, .int (mfTo M cu (ms_n M))), (0, .ref (a 5)), (1, .int cu), (2, .int c9)]) dX2_early_362 (by decide) rfl ?_
                        have e9 : mE2c (mErTo (mEaM M) cu c9 i).2.1 (mE1 (mErTo (mEaM M) cu c9 i).2.2 cu b9 (meTk (mErTo (mEaM M) cu c9 i).1 (mErTo (mEaM M) cu c9 i).2.2 b9)) b9 = (mErTo (mEaM M) cu c9 i).2.1 + (mTiC (mE1 (mErTo (mEaM M) cu c9 i).2.2 cu b9 (meTk (mErTo (mEaM M) cu c9 i).1 (mErTo (mEaM M) cu c9 i).2.2 b9)) b9) := by rw [mE2c, if_pos c_17] <;> rfl
                        have e8 : mE2 (mE1 (mErTo (mEaM M) cu c9 i).2.2 cu b9 (meTk (mErTo (mEaM M) cu c9 i).1 (mErTo (mEaM M) cu c9 i).2.2 b9)) b9 = mEn (mE1 (mErTo (mEaM M) cu c9 i).2.2 cu b9 (meTk (mErTo (mEaM M) cu c9 i).1 (mErTo (mEaM M) cu c9 i).2.2 b9)) b9 := by rw [mE2, if_pos c_17] <;> rfl
                        refine go_lo (lo' := [(4, .int ((mErTo (mEaM M) cu c9 i).1 - (meTk (mErTo (mEaM M) cu c9 i).1 (mErTo (mEaM M) cu c9 i).2.2 b9))), (9, .long (meL (mErTo (mEaM M) cu c9 i).2.2 b9 (meTk (mErTo (mEaM M) cu c9 i).1 (mErTo (mEaM M) cu c9 i).2.2 b9))), (8, .int (meTk (mErTo (mEaM M) cu c9 i).1 (mErTo (mEaM M) cu c9 i).2.2 b9)), (7, .int ((ms_pr (mErTo (mEaM M) cu c9 i).2.2 b9) - (ms_fz (mErTo (mEaM M) cu c9 i).2.2 b9))), (6, .int (nI b9)), (5, .int (mE2c (mErTo (mEaM M) cu c9 i).2.1 (mE1 (mErTo (mEaM M) cu c9 i).2.2 cu b9 (meTk (mErTo (mEaM M) cu c9 i).1 (mErTo (mEaM M) cu c9 i).2.2 b9)) b9)), (3, .int (mfTo M cu (ms_n M))), (0, .ref (a 5)), (1, .int cu), (2, .int c9)]) [1, 2, 3, 4, 5, 0, 6, 7, 8, 9] (by rw [e9] <;> rfl) ?_
                        refine go_w (w2 := wW cI cJ cZ cO a S (mE2 (mE1 (mErTo (mEaM M) cu c9 i).2.2 cu b9 (meTk (mErTo (mEaM M) cu c9 i).1 (mErTo (mEaM M) cu c9 i).2.2 b9)) b9) ov) (by rw [e8] <;> rfl) ?_
                        exact gj_16
                  · refine go_lload C 0 dX2_early_266 rfl ?_
                    refine go_aload_n C 7 dX2_early_268 rfl rfl ?_
                    refine gm_earnings C dX2_early_269 ?_
                    refine go_iload C 3 dX2_early_272 rfl ?_
                    refine lm_earnings C (nI_vin hlt9) dX2_early_274 ?_
                    rw [cl_nI (i := b9) (by omega)]
                    refine go_lcmp C dX2_early_275 ?_
                    refine go_if_le C (tgt := 289) dX2_early_276 (by decide) (fun c_18 => ?_) (fun c_18 => ?_)
                    · refine go_lload C 0 dX2_early_289 rfl ?_
                      refine go_lstore C (lo' := [(9, .long (meL1 (mErTo (mEaM M) cu c9 i).2.2 b9 (meTk (mErTo (mEaM M) cu c9 i).1 (mErTo (mEaM M) cu c9 i).2.2 b9))), (8, .int (meTk (mErTo (mEaM M) cu c9 i).1 (mErTo (mEaM M) cu c9 i).2.2 b9)), (7, .int ((ms_pr (mErTo (mEaM M) cu c9 i).2.2 b9) - (ms_fz (mErTo (mEaM M) cu c9 i).2.2 b9))), (6, .int (nI b9)), (5, .int (mErTo (mEaM M) cu c9 i).2.1), (4, .int (mErTo (mEaM M) cu c9 i).1), (3, .int (mfTo M cu (ms_n M))), (0, .ref (a 5)), (1, .int cu), (2, .int c9)]) dX2_early_291 (by decide) rfl ?_
                      have e9 : (meL (mErTo (mEaM M) cu c9 i).2.2 b9 (meTk (mErTo (mEaM M) cu c9 i).1 (mErTo (mEaM M) cu c9 i).2.2 b9)) = meL1 (mErTo (mEaM M) cu c9 i).2.2 b9 (meTk (mErTo (mEaM M) cu c9 i).1 (mErTo (mEaM M) cu c9 i).2.2 b9) := by rw [meL, if_pos c_18] <;> rfl
                      refine go_lo (lo' := [(9, .long (meL (mErTo (mEaM M) cu c9 i).2.2 b9 (meTk (mErTo (mEaM M) cu c9 i).1 (mErTo (mEaM M) cu c9 i).2.2 b9))), (8, .int (meTk (mErTo (mEaM M) cu c9 i).1 (mErTo (mEaM M) cu c9 i).2.2 b9)), (7, .int ((ms_pr (mErTo (mEaM M) cu c9 i).2.2 b9) - (ms_fz (mErTo (mEaM M) cu c9 i).2.2 b9))), (6, .int (nI b9)), (5, .int (mErTo (mEaM M) cu c9 i).2.1), (4, .int (mErTo (mEaM M) cu c9 i).1), (3, .int (mfTo M cu (ms_n M))), (0, .ref (a 5)), (1, .int cu), (2, .int c9)]) [0, 1, 2, 3, 4, 5, 6, 7, 8, 9] (by rw [e9] <;> rfl) ?_
                      exact gj_15
                    · refine go_aload_n C 7 dX2_early_279 rfl rfl ?_
                      refine gm_earnings C dX2_early_280 ?_
                      refine go_iload C 3 dX2_early_283 rfl ?_
                      refine lm_earnings C (nI_vin hlt9) dX2_early_285 ?_
                      rw [cl_nI (i := b9) (by omega)]
                      refine go_goto C (tgt := 291) dX2_early_286 (by decide) ?_
                      refine go_lstore C (lo' := [(9, .long (ms_ea (mErTo (mEaM M) cu c9 i).2.2 b9)), (8, .int (meTk (mErTo (mEaM M) cu c9 i).1 (mErTo (mEaM M) cu c9 i).2.2 b9)), (7, .int ((ms_pr (mErTo (mEaM M) cu c9 i).2.2 b9) - (ms_fz (mErTo (mEaM M) cu c9 i).2.2 b9))), (6, .int (nI b9)), (5, .int (mErTo (mEaM M) cu c9 i).2.1), (4, .int (mErTo (mEaM M) cu c9 i).1), (3, .int (mfTo M cu (ms_n M))), (0, .ref (a 5)), (1, .int cu), (2, .int c9)]) dX2_early_291 (by decide) rfl ?_
                      have e9 : (meL (mErTo (mEaM M) cu c9 i).2.2 b9 (meTk (mErTo (mEaM M) cu c9 i).1 (mErTo (mEaM M) cu c9 i).2.2 b9)) = ms_ea (mErTo (mEaM M) cu c9 i).2.2 b9 := by rw [meL, if_neg c_18] <;> rfl
                      refine go_lo (lo' := [(9, .long (meL (mErTo (mEaM M) cu c9 i).2.2 b9 (meTk (mErTo (mEaM M) cu c9 i).1 (mErTo (mEaM M) cu c9 i).2.2 b9))), (8, .int (meTk (mErTo (mEaM M) cu c9 i).1 (mErTo (mEaM M) cu c9 i).2.2 b9)), (7, .int ((ms_pr (mErTo (mEaM M) cu c9 i).2.2 b9) - (ms_fz (mErTo (mEaM M) cu c9 i).2.2 b9))), (6, .int (nI b9)), (5, .int (mErTo (mEaM M) cu c9 i).2.1), (4, .int (mErTo (mEaM M) cu c9 i).1), (3, .int (mfTo M cu (ms_n M))), (0, .ref (a 5)), (1, .int cu), (2, .int c9)]) [0, 1, 2, 3, 4, 5, 6, 7, 8, 9] (by rw [e9] <;> rfl) ?_
                      exact gj_15
                · refine go_iload C 0 dX2_early_224 rfl ?_
                  refine go_iload C 3 dX2_early_226 rfl ?_
                  refine go_icmp_ge C (tgt := 236) dX2_early_228 (by decide) (fun c_19 => ?_) (fun c_19 => ?_)
                  · refine go_iload C 3 dX2_early_236 rfl ?_
                    refine go_istore C (lo' := [(8, .int (mErTo (mEaM M) cu c9 i).1), (7, .int ((ms_pr (mErTo (mEaM M) cu c9 i).2.2 b9) - (ms_fz (mErTo (mEaM M) cu c9 i).2.2 b9))), (6, .int (nI b9)), (5, .int (mErTo (mEaM M) cu c9 i).2.1), (4, .int (mErTo (mEaM M) cu c9 i).1), (3, .int (mfTo M cu (ms_n M))), (0, .ref (a 5)), (1, .int cu), (2, .int c9)]) dX2_early_238 (by decide) rfl ?_
                    have e9 : meTk (mErTo (mEaM M) cu c9 i).1 (mErTo (mEaM M) cu c9 i).2.2 b9 = (mErTo (mEaM M) cu c9 i).1 := by rw [meTk, mCan, if_pos c_19] <;> rfl
                    refine go_lo (lo' := [(8, .int (meTk (mErTo (mEaM M) cu c9 i).1 (mErTo (mEaM M) cu c9 i).2.2 b9)), (7, .int ((ms_pr (mErTo (mEaM M) cu c9 i).2.2 b9) - (ms_fz (mErTo (mEaM M) cu c9 i).2.2 b9))), (6, .int (nI b9)), (5, .int (mErTo (mEaM M) cu c9 i).2.1), (4, .int (mErTo (mEaM M) cu c9 i).1), (3, .int (mfTo M cu (ms_n M))), (0, .ref (a 5)), (1, .int cu), (2, .int c9)]) [0, 1, 2, 3, 4, 5, 6, 7, 8] (by rw [e9] <;> rfl) ?_
                    exact gj_14
                  · refine go_iload C 0 dX2_early_231 rfl ?_
                    refine go_goto C (tgt := 238) dX2_early_233 (by decide) ?_
                    refine go_istore C (lo' := [(8, .int ((ms_pr (mErTo (mEaM M) cu c9 i).2.2 b9) - (ms_fz (mErTo (mEaM M) cu c9 i).2.2 b9))), (7, .int ((ms_pr (mErTo (mEaM M) cu c9 i).2.2 b9) - (ms_fz (mErTo (mEaM M) cu c9 i).2.2 b9))), (6, .int (nI b9)), (5, .int (mErTo (mEaM M) cu c9 i).2.1), (4, .int (mErTo (mEaM M) cu c9 i).1), (3, .int (mfTo M cu (ms_n M))), (0, .ref (a 5)), (1, .int cu), (2, .int c9)]) dX2_early_238 (by decide) rfl ?_
                    have e9 : meTk (mErTo (mEaM M) cu c9 i).1 (mErTo (mEaM M) cu c9 i).2.2 b9 = (ms_pr (mErTo (mEaM M) cu c9 i).2.2 b9) - (ms_fz (mErTo (mEaM M) cu c9 i).2.2 b9) := by rw [meTk, mCan, if_neg c_19] <;> rfl
                    refine go_lo (lo' := [(8, .int (meTk (mErTo (mEaM M) cu c9 i).1 (mErTo (mEaM M) cu c9 i).2.2 b9)), (7, .int ((ms_pr (mErTo (mEaM M) cu c9 i).2.2 b9) - (ms_fz (mErTo (mEaM M) cu c9 i).2.2 b9))), (6, .int (nI b9)), (5, .int (mErTo (mEaM M) cu c9 i).2.1), (4, .int (mErTo (mEaM M) cu c9 i).1), (3, .int (mfTo M cu (ms_n M))), (0, .ref (a 5)), (1, .int cu), (2, .int c9)]) [0, 1, 2, 3, 4, 5, 6, 7, 8] (by rw [e9] <;> rfl) ?_
                    exact gj_14
            · refine go_iload C 1 dX2_early_195 rfl ?_
              refine go_if_le C (tgt := 367) dX2_early_197 (by decide) (fun c_20 => ?_) (fun c_20 => absurd (hE hk9).2 c_20)
              refine go_aload_n C 3 dX2_early_367 rfl rfl ?_
              refine go_iload_n C 4 dX2_early_368 rfl rfl ?_
              refine go_iload C 0 dX2_early_369 rfl ?_
              refine k_RX2_132 C S (mErTo (mEaM M) cu c9 (ms_n (mEaM M))).2.2 ov cu (mErTo (mEaM M) cu c9 (ms_n (mEaM M))).2.1 (mCu_in c_1) ⟨(Nat.le_of_ble_eq_true rfl), (Nat.le_of_ble_eq_true rfl)⟩ ⟨(Nat.le_of_ble_eq_true rfl), (Nat.le_of_ble_eq_true rfl)⟩ (Nat.le_of_ble_eq_true rfl) dX2_early_371 ?_
              exact go_ireturn C rfl dX2_early_374 (by decide) (by decide) (Or.inl ⟨hk9, rfl, rfl⟩)
        · refine go_iconst C (v := 3) dX2_early_102 (by decide) ?_
          refine go_goto C (tgt := 110) dX2_early_103 (by decide) ?_
          refine pm_thrown C dX2_early_110 ?_
          refine go_w (w2 := wW cI cJ cZ cO a S (ms_set_thr M 3) ov) rfl ?_
          refine go_aload_n C 2 dX2_early_113 rfl rfl ?_
          refine gm_thrown C dX2_early_114 ?_
          refine go_st (st2 := [.int 3]) rfl ?_
          refine go_if_le C (tgt := 122) dX2_early_117 (by decide) (fun c_21 => absurd c_21 (by decide)) (fun c_21 => ?_)
          refine go_iconst C (v := 0) dX2_early_120 (by decide) ?_
          exact go_ireturn C rfl dX2_early_121 (by decide) (by decide) (Or.inr (by rw [show kEa M cu c9 = 3 from by simp only [kEa, if_neg c_1, if_neg c_2, if_neg c_8]]; exact ⟨by decide, rfl, rfl⟩))
    · refine go_iconst C (v := 2) dX2_early_22 (by decide) ?_
      refine go_goto C (tgt := 27) dX2_early_23 (by decide) ?_
      refine pm_thrown C dX2_early_27 ?_
      refine go_iconst C (v := 0) dX2_early_30 (by decide) ?_
      refine go_istore_n C (lo' := [(3, .int 0), (0, .ref (a 5)), (1, .int cu), (2, .int c9)]) dX2_early_31 rfl (by decide) rfl ?_
      refine go_iconst C (v := 0) dX2_early_32 (by decide) ?_
      refine go_istore C (lo' := [(4, .int 0), (3, .int 0), (0, .ref (a 5)), (1, .int cu), (2, .int c9)]) dX2_early_33 (by decide) rfl ?_
      refine go_iload C 0 dX2_early_35 rfl ?_
      refine go_aload_n C 2 dX2_early_37 rfl rfl ?_
      refine gm_lotMany C dX2_early_38 ?_
      refine go_icmp_ge C (tgt := 89) dX2_early_41 (by decide) (fun c_22 => ?_) (fun c_22 => ?_)
      · refine go_aload_n C 2 dX2_early_89 rfl rfl ?_
        refine go_aload_n C 2 dX2_early_90 rfl rfl ?_
        refine gm_thrown C dX2_early_91 ?_
        refine go_st (st2 := [.int 2, .ref (a 5)]) rfl ?_
        refine go_if_ne C (tgt := 106) dX2_early_94 (by decide) (fun c_23 => ?_) (fun c_23 => absurd c_23 (by decide))
        refine go_aload_n C 2 dX2_early_106 rfl rfl ?_
        refine gm_thrown C dX2_early_107 ?_
        refine go_st (st2 := [.int 2, .ref (a 5)]) rfl ?_
        refine pm_thrown C dX2_early_110 ?_
        refine go_w (w2 := wW cI cJ cZ cO a S (ms_set_thr M 2) ov) rfl ?_
        refine go_aload_n C 2 dX2_early_113 rfl rfl ?_
        refine gm_thrown C dX2_early_114 ?_
        refine go_st (st2 := [.int 2]) rfl ?_
        refine go_if_le C (tgt := 122) dX2_early_117 (by decide) (fun c_24 => absurd c_24 (by decide)) (fun c_24 => ?_)
        refine go_iconst C (v := 0) dX2_early_120 (by decide) ?_
        exact go_ireturn C rfl dX2_early_121 (by decide) (by decide) (Or.inr (by rw [show kEa M cu c9 = 2 from by simp only [kEa, if_neg c_1, if_pos c_2, if_pos (show (nI (ms_n (ms_set_thr M 2))) ≤ 0 from c_22)]]; exact ⟨by decide, rfl, rfl⟩))
      · refine go_aload_n C 2 dX2_early_44 rfl rfl ?_
        refine gm_thrown C dX2_early_45 ?_
        refine go_st (st2 := [.int 2]) rfl ?_
        refine go_if_ne C (tgt := 89) dX2_early_48 (by decide) (fun c_25 => ?_) (fun c_25 => absurd c_25 (by decide))
        refine go_aload_n C 2 dX2_early_89 rfl rfl ?_
        refine go_aload_n C 2 dX2_early_90 rfl rfl ?_
        refine gm_thrown C dX2_early_91 ?_
        refine go_st (st2 := [.int 2, .ref (a 5)]) rfl ?_
        refine go_if_ne C (tgt := 106) dX2_early_94 (by decide) (fun c_26 => ?_) (fun c_26 => absurd c_26 (by decide))
        refine go_aload_n C 2 dX2_early_106 rfl rfl ?_
        refine gm_thrown C dX2_early_107 ?_
        refine go_st (st2 := [.int 2, .ref (a 5)]) rfl ?_
        refine pm_thrown C dX2_early_110 ?_
        refine go_w (w2 := wW cI cJ cZ cO a S (ms_set_thr M 2) ov) rfl ?_
        refine go_aload_n C 2 dX2_early_113 rfl rfl ?_
        refine gm_thrown C dX2_early_114 ?_
        refine go_st (st2 := [.int 2]) rfl ?_
        refine go_if_le C (tgt := 122) dX2_early_117 (by decide) (fun c_27 => absurd c_27 (by decide)) (fun c_27 => ?_)
        refine go_iconst C (v := 0) dX2_early_120 (by decide) ?_
        exact go_ireturn C rfl dX2_early_121 (by decide) (by decide) (Or.inr (by rw [show kEa M cu c9 = 2 from by simp only [kEa, if_neg c_1, if_pos c_2, if_neg (show ¬ (nI (ms_n (ms_set_thr M 2))) ≤ 0 from c_22)]]; exact ⟨by decide, rfl, rfl⟩))
  · refine go_iconst C (v := 1) dX2_early_8 (by decide) ?_
    refine go_goto C (tgt := 27) dX2_early_9 (by decide) ?_
    refine pm_thrown C dX2_early_27 ?_
    refine go_iconst C (v := 0) dX2_early_30 (by decide) ?_
    refine go_istore_n C (lo' := [(3, .int 0), (0, .ref (a 5)), (1, .int cu), (2, .int c9)]) dX2_early_31 rfl (by decide) rfl ?_
    refine go_iconst C (v := 0) dX2_early_32 (by decide) ?_
    refine go_istore C (lo' := [(4, .int 0), (3, .int 0), (0, .ref (a 5)), (1, .int cu), (2, .int c9)]) dX2_early_33 (by decide) rfl ?_
    refine go_iload C 0 dX2_early_35 rfl ?_
    refine go_aload_n C 2 dX2_early_37 rfl rfl ?_
    refine gm_lotMany C dX2_early_38 ?_
    refine go_icmp_ge C (tgt := 89) dX2_early_41 (by decide) (fun c_28 => ?_) (fun c_28 => ?_)
    · refine go_aload_n C 2 dX2_early_89 rfl rfl ?_
      refine go_aload_n C 2 dX2_early_90 rfl rfl ?_
      refine gm_thrown C dX2_early_91 ?_
      refine go_st (st2 := [.int 1, .ref (a 5)]) rfl ?_
      refine go_if_ne C (tgt := 106) dX2_early_94 (by decide) (fun c_29 => ?_) (fun c_29 => absurd c_29 (by decide))
      refine go_aload_n C 2 dX2_early_106 rfl rfl ?_
      refine gm_thrown C dX2_early_107 ?_
      refine go_st (st2 := [.int 1, .ref (a 5)]) rfl ?_
      refine pm_thrown C dX2_early_110 ?_
      refine go_w (w2 := wW cI cJ cZ cO a S (ms_set_thr M 1) ov) rfl ?_
      refine go_aload_n C 2 dX2_early_113 rfl rfl ?_
      refine gm_thrown C dX2_early_114 ?_
      refine go_st (st2 := [.int 1]) rfl ?_
      refine go_if_le C (tgt := 122) dX2_early_117 (by decide) (fun c_30 => absurd c_30 (by decide)) (fun c_30 => ?_)
      refine go_iconst C (v := 0) dX2_early_120 (by decide) ?_
      exact go_ireturn C rfl dX2_early_121 (by decide) (by decide) (Or.inr (by rw [show kEa M cu c9 = 1 from by simp only [kEa, if_pos c_1, if_pos (show (nI (ms_n (ms_set_thr M 1))) ≤ 0 from c_28)]]; exact ⟨by decide, rfl, rfl⟩))
    · refine go_aload_n C 2 dX2_early_44 rfl rfl ?_
      refine gm_thrown C dX2_early_45 ?_
      refine go_st (st2 := [.int 1]) rfl ?_
      refine go_if_ne C (tgt := 89) dX2_early_48 (by decide) (fun c_31 => ?_) (fun c_31 => absurd c_31 (by decide))
      refine go_aload_n C 2 dX2_early_89 rfl rfl ?_
      refine go_aload_n C 2 dX2_early_90 rfl rfl ?_
      refine gm_thrown C dX2_early_91 ?_
      refine go_st (st2 := [.int 1, .ref (a 5)]) rfl ?_
      refine go_if_ne C (tgt := 106) dX2_early_94 (by decide) (fun c_32 => ?_) (fun c_32 => absurd c_32 (by decide))
      refine go_aload_n C 2 dX2_early_106 rfl rfl ?_
      refine gm_thrown C dX2_early_107 ?_
      refine go_st (st2 := [.int 1, .ref (a 5)]) rfl ?_
      refine pm_thrown C dX2_early_110 ?_
      refine go_w (w2 := wW cI cJ cZ cO a S (ms_set_thr M 1) ov) rfl ?_
      refine go_aload_n C 2 dX2_early_113 rfl rfl ?_
      refine gm_thrown C dX2_early_114 ?_
      refine go_st (st2 := [.int 1]) rfl ?_
      refine go_if_le C (tgt := 122) dX2_early_117 (by decide) (fun c_33 => absurd c_33 (by decide)) (fun c_33 => ?_)
      refine go_iconst C (v := 0) dX2_early_120 (by decide) ?_
      exact go_ireturn C rfl dX2_early_121 (by decide) (by decide) (Or.inr (by rw [show kEa M cu c9 = 1 from by simp only [kEa, if_pos c_1, if_neg (show ¬ (nI (ms_n (ms_set_thr M 1))) ≤ 0 from c_28)]]; exact ⟨by decide, rfl, rfl⟩))
theorem k_RL_123 {p : Program} {l : Launch} {e : Env} {R : Room} {s : State} {m : MethodId} {args : Array Value} {below : List Frame} {meth : Method} {c : Code} {D : va_G} {N0 mL : Nat} {cc : ByteArray} {nm : String} {ret : Option FieldType} {Q : State → Prop} {k n pc : Nat} {lo : List (Nat × Value)} {st : List Value} {cI cJ cZ cO : ClassId} {a : Nat → Nat} (C : Cxt p s m args meth c D (tysW cI cJ cZ cO) N0 cc mL RL ret nm) (S : CS) (M : MS) (ov : Nat → Int64) (cu c9 : Int32) (hok : okM M) (hE : kEa M cu c9 = 0 → erOk (mEaM M) cu c9) (hR : 3 + 1 ≤ R.frames ∧ 8 + (11 + 11) + 68 ≤ R.locals) (hcs : k + 0 ≤ R.cells ∧ n + 0 ≤ R.slots) (hcat : (st.map fun v => v.category).sum ≤ 8) (dk : decode cc pc = .ok (.invokevirtual 123, 3)) (g0 : (kEa M cu c9 = 0) → Go p l e R s m args below meth c D N0 mL Q (wW cI cJ cZ cO a S (mPa (mErTo (mEaM M) cu c9 (ms_n (mEaM M))).2.2 cu (mErTo (mEaM M) cu c9 (ms_n (mEaM M))).2.1) ov) (k) (n) (pc + 3) lo (.int (mErTo (mEaM M) cu c9 (ms_n (mEaM M))).2.1 :: st)) (g1 : (¬ kEa M cu c9 = 0) → Go p l e R s m args below meth c D N0 mL Q (wW cI cJ cZ cO a S (ms_set_thr M (kEa M cu c9)) ov) (k) (n) (pc + 3) lo (.int 0 :: st)) : Go p l e R s m args below meth c D N0 mL Q (wW cI cJ cZ cO a S M ov) k n pc lo (.int c9 :: .int cu :: .ref (a 5) :: st) :=
  go_callV C (ci := 2) (r9 := (RX2, TX2, 23)) (qi := 5) (As := [.int cu, .int c9]) (rest := st) rfl rfl (c_X2_early l D cI cJ cZ cO N0 a S M ov cu c9 hok hE) ⟨rfl, by decide +kernel, by decide +kernel⟩ bl_RL_123 bi_yX2_early bs_yX2_early bz_NoticeBookModel bc_yX2_early (show Option.map (fun d => d.parameters.length) (parseMethodDescriptor yX2_early.desc) = some 2 by decide +kernel) hR hcs hcat dk (fun r w2 h => by
    rcases h with ⟨h9, rfl, rfl⟩ | ⟨h9, rfl, rfl⟩
    · exact g0 h9
    · exact g1 h9) rfl
