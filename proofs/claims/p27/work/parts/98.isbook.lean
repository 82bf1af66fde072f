set_option maxHeartbeats 4000000 in
set_option maxRecDepth 100000 in
theorem c_L_isBook (l : Launch) (hlf : l.stackTraces = false) (D : va_G) (cI cJ cO : ClassId) (N0 : Nat) (a : Nat → Nat) (S : CS) (M : LWS) (ov : va_W) (w : Rl S M) : CtX l D (tysW cI cJ cO) N0 yL_isBook cL_isBook 16 (some .boolean) { frames := 12, cells := 300, slots := 2000, locals := 450 } [.ref (a 0), .ref (a 5), .ref (a 6), .ref (a 7), .ref (a 8), .ref (a 9), .ref (a 10), .ref (a 12), .ref (a 13), .ref (a 14)] (wW cI cJ cO a S M ov) (fun r w2 => ∃ S2 : CS, Rl S2 M ∧ r = some (.int 1) ∧ w2 = wW cI cJ cO a S2 M ov) (fun E w2 => False ∧ w2 = wW cI cJ cO a S M ov) := by
  refine ctx_of (by decide +kernel) (Nat.le_of_ble_eq_true rfl) ?_
  intro p e s m args below meth c C ht
  have C : Cxt p s m args meth c D (tysW cI cJ cO) N0 cL_isBook 16 RL (some .boolean) "isBook" := C
  obtain ⟨hn0, hn20⟩ := w.ok.2.1
  refine go_iconst C (v := 0) dL_isBook_0 (by decide) ?_
  refine go_istore C (lo' := [(10, .int 0), (0, .ref (a 0)), (1, .ref (a 5)), (2, .ref (a 6)), (3, .ref (a 7)), (4, .ref (a 8)), (5, .ref (a 9)), (6, .ref (a 10)), (7, .ref (a 12)), (8, .ref (a 13)), (9, .ref (a 14))]) dL_isBook_1 (by decide) rfl ?_
  refine go_aload_n C 1 dL_isBook_3 rfl rfl ?_
  refine k_RL_77 C S M ov ⟨(Nat.le_of_ble_eq_true rfl), (Nat.le_of_ble_eq_true rfl)⟩ ⟨(show _ ≤ 300 by omega), (show _ ≤ 2000 by omega)⟩ (Nat.le_of_ble_eq_true rfl) dL_isBook_4 ?_
  refine go_st (st2 := [.int (ls_n M 1)]) (by rw [w.day]) ?_
  refine go_aload_n C 2 dL_isBook_7 rfl rfl ?_
  refine go_iconst C (v := 1) dL_isBook_8 (by decide) ?_
  refine lm_n C vin_1_4 dL_isBook_9 ?_
  rw [ck_1]
  refine go_icmp_ne C (tgt := 17) dL_isBook_10 (by decide) (fun c_1 => absurd c_1 (fun q9 => q9 rfl)) (fun c_1 => ?_)
  refine go_iconst C (v := 1) dL_isBook_13 (by decide) ?_
  refine go_goto C (tgt := 18) dL_isBook_14 (by decide) ?_
  refine go_istore C (lo' := [(11, .int 1), (10, .int 0), (0, .ref (a 0)), (1, .ref (a 5)), (2, .ref (a 6)), (3, .ref (a 7)), (4, .ref (a 8)), (5, .ref (a 9)), (6, .ref (a 10)), (7, .ref (a 12)), (8, .ref (a 13)), (9, .ref (a 14))]) dL_isBook_18 (by decide) rfl ?_
  refine go_iconst C (v := 0) dL_isBook_20 (by decide) ?_
  refine go_istore C (lo' := [(12, .int 0), (11, .int 1), (10, .int 0), (0, .ref (a 0)), (1, .ref (a 5)), (2, .ref (a 6)), (3, .ref (a 7)), (4, .ref (a 8)), (5, .ref (a 9)), (6, .ref (a 10)), (7, .ref (a 12)), (8, .ref (a 13)), (9, .ref (a 14))]) dL_isBook_21 (by decide) rfl ?_
  refine go_forK (lK M) (fun i => True) (fun i => wW cI cJ cO a (ibS S M i) M ov) (fun i => [(12, .int (nI i)), (11, .int 1), (10, .int (lMa (ls_p M) i)), (0, .ref (a 0)), (1, .ref (a 5)), (2, .ref (a 6)), (3, .ref (a 7)), (4, .ref (a 8)), (5, .ref (a 9)), (6, .ref (a 10)), (7, .ref (a 12)), (8, .ref (a 13)), (9, .ref (a 14))]) (fun i => 0 + 0 + 6 * i) (fun i => 0 + 0 + 40 * i) ⟨rfl, rfl⟩ ⟨by omega, by omega⟩ trivial (fun i hi_i hI_i ih_i => ?_) (fun hI_i => ?_)
  · refine go_iload C 0 dL_isBook_23 rfl ?_
    refine go_aload_n C 4 dL_isBook_25 rfl rfl ?_
    refine go_iconst C (v := 0) dL_isBook_26 (by decide) ?_
    refine lm_n C vin_0_4 dL_isBook_27 ?_
    rw [ck_0]
    refine go_icmp_ge C (tgt := 202) dL_isBook_28 (by decide) (fun c_2 => absurd c_2 (by rw [hn0]; exact nI_ge hi_i (by omega))) (fun c_2 => ?_)
    refine go_iload C 1 dL_isBook_31 rfl ?_
    refine go_if_eq C (tgt := 202) dL_isBook_33 (by decide) (fun c_3 => absurd c_3 (by decide)) (fun c_3 => ?_)
    have wT := w.ib i
    have hoT := wT.ok.1
    have hi20 : i < 20 := by omega
    by_cases hp : ls_p M i = 0
    · obtain ⟨hd1, hd2⟩ := bk_dead wT hi20 hp
      have hp2 : ls_p M i ≤ 0 := by rw [hp]; decide
      refine go_iload C 2 dL_isBook_36 rfl ?_
      refine go_aload C 7 dL_isBook_38 rfl ?_
      refine go_iload C 0 dL_isBook_40 rfl ?_
      refine lm_p C (vp_in_nI (n := i) (by omega) (by decide)) dL_isBook_42 ?_
      rw [cl_nI (i := i) (by omega)]
      refine go_if_le C (tgt := 50) dL_isBook_43 (by decide) (fun c_4 => ?_) (fun c_4 => absurd hp2 c_4)
      refine go_iconst C (v := 0) dL_isBook_50 (by decide) ?_
      refine go_iadd C dL_isBook_51 ?_
      refine go_istore C (lo' := [(10, .int ((lMa (ls_p M) i) + 0)), (12, .int (nI i)), (11, .int 1), (0, .ref (a 0)), (1, .ref (a 5)), (2, .ref (a 6)), (3, .ref (a 7)), (4, .ref (a 8)), (5, .ref (a 9)), (6, .ref (a 10)), (7, .ref (a 12)), (8, .ref (a 13)), (9, .ref (a 14))]) dL_isBook_52 (by decide) rfl ?_
      refine go_aload C 7 dL_isBook_54 rfl ?_
      refine go_iload C 1 dL_isBook_56 rfl ?_
      refine lm_p C (vp_in_nI (n := i) (by omega) (by decide)) dL_isBook_58 ?_
      rw [cl_nI (i := i) (by omega)]
      refine go_if_ne C (tgt := 84) dL_isBook_59 (by decide) (fun c_5 => absurd c_5 (fun q9 => q9 hp)) (fun c_5 => ?_)
      refine go_aload_n C 3 dL_isBook_62 rfl rfl ?_
      refine go_bipush C (v := 8) dL_isBook_63 (by decide) ?_
      refine go_iload C 1 dL_isBook_65 rfl ?_
      refine go_iconst C (v := 0) dL_isBook_67 (by decide) ?_
      refine k_RL_81_8 C hlf (ibS S M i) M ov (nI i) 0 hoT ⟨(Nat.le_of_ble_eq_true rfl), (Nat.le_of_ble_eq_true rfl)⟩ ⟨(show _ ≤ 300 by omega), (show _ ≤ 2000 by omega)⟩ (Nat.le_of_ble_eq_true rfl) dL_isBook_68 (fun c9 => absurd c9 hd1) (fun _ => ?_)
      refine go_st (st2 := [.int (-11)]) (by rw [hd2]) ?_
      refine go_bipush C (v := (-11)) dL_isBook_71 (by decide) ?_
      refine go_icmp_ne C (tgt := 80) dL_isBook_73 (by decide) (fun c_6 => absurd c_6 (by decide)) (fun c_6 => ?_)
      refine go_iconst C (v := 1) dL_isBook_76 (by decide) ?_
      refine go_goto C (tgt := 194) dL_isBook_77 (by decide) ?_
      refine go_istore C (lo' := [(11, .int 1), (10, .int ((lMa (ls_p M) i) + 0)), (12, .int (nI i)), (0, .ref (a 0)), (1, .ref (a 5)), (2, .ref (a 6)), (3, .ref (a 7)), (4, .ref (a 8)), (5, .ref (a 9)), (6, .ref (a 10)), (7, .ref (a 12)), (8, .ref (a 13)), (9, .ref (a 14))]) dL_isBook_194 (by decide) rfl ?_
      refine go_iinc C (v := nI (i + 1)) (lo' := [(12, .int (nI (i + 1))), (11, .int 1), (10, .int ((lMa (ls_p M) i) + 0)), (0, .ref (a 0)), (1, .ref (a 5)), (2, .ref (a 6)), (3, .ref (a 7)), (4, .ref (a 8)), (5, .ref (a 9)), (6, .ref (a 10)), (7, .ref (a 12)), (8, .ref (a 13)), (9, .ref (a 14))]) 2 dL_isBook_196 rfl (nI_1 _) (by decide) rfl ?_
      refine go_goto C (tgt := 23) dL_isBook_199 (by decide) ?_
      refine go_lo (lo' := [(12, .int (nI (i + 1))), (11, .int 1), (10, .int (lMa (ls_p M) (i + 1))), (0, .ref (a 0)), (1, .ref (a 5)), (2, .ref (a 6)), (3, .ref (a 7)), (4, .ref (a 8)), (5, .ref (a 9)), (6, .ref (a 10)), (7, .ref (a 12)), (8, .ref (a 13)), (9, .ref (a 14))]) [0, 1, 2, 3, 4, 5, 6, 7, 8, 9, 10, 11, 12] (by rw [lMa_0 hp2]; rfl) ?_
      refine go_w (w2 := wW cI cJ cO a (ibS S M (i + 1)) M ov) (by rw [ibS_0 hp]) ?_
      refine go_widen (k2 := 0 + 0 + 6 * (i + 1)) (n2 := 0 + 0 + 40 * (i + 1)) (by omega) (by omega) ?_
      exact ih_i trivial
    · obtain ⟨b0, b1, b2, b3, b4, b5, b6⟩ := bk_al wT hi20 hp
      obtain ⟨e0, e1, e2, e3, e4, e5, e6⟩ := bk_al (wT.pd (nI i)) hi20 hp
      have hoP := (wT.pd (nI i)).ok.1
      refine go_iload C 2 dL_isBook_36 rfl ?_
      refine go_aload C 7 dL_isBook_38 rfl ?_
      refine go_iload C 0 dL_isBook_40 rfl ?_
      refine lm_p C (vp_in_nI (n := i) (by omega) (by decide)) dL_isBook_42 ?_
      rw [cl_nI (i := i) (by omega)]
      refine go_if_le C (tgt := 50) dL_isBook_43 (by decide) (fun c_7 => absurd c_7 b6) (fun c_7 => ?_)
      refine go_iconst C (v := 1) dL_isBook_46 (by decide) ?_
      refine go_goto C (tgt := 51) dL_isBook_47 (by decide) ?_
      refine go_iadd C dL_isBook_51 ?_
      refine go_istore C (lo' := [(10, .int ((lMa (ls_p M) i) + 1)), (12, .int (nI i)), (11, .int 1), (0, .ref (a 0)), (1, .ref (a 5)), (2, .ref (a 6)), (3, .ref (a 7)), (4, .ref (a 8)), (5, .ref (a 9)), (6, .ref (a 10)), (7, .ref (a 12)), (8, .ref (a 13)), (9, .ref (a 14))]) dL_isBook_52 (by decide) rfl ?_
      refine go_aload C 7 dL_isBook_54 rfl ?_
      refine go_iload C 1 dL_isBook_56 rfl ?_
      refine lm_p C (vp_in_nI (n := i) (by omega) (by decide)) dL_isBook_58 ?_
      rw [cl_nI (i := i) (by omega)]
      refine go_if_ne C (tgt := 84) dL_isBook_59 (by decide) (fun c_8 => ?_) (fun c_8 => absurd c_8 hp)
      refine go_aload_n C 3 dL_isBook_84 rfl rfl ?_
      refine go_iload C 1 dL_isBook_85 rfl ?_
      refine k_RL_65 C hlf (ibS S M i) M ov (nI i) hoT ⟨(Nat.le_of_ble_eq_true rfl), (Nat.le_of_ble_eq_true rfl)⟩ ⟨(show _ ≤ 300 by omega), (show _ ≤ 2000 by omega)⟩ (Nat.le_of_ble_eq_true rfl) dL_isBook_87 (fun E hE => absurd b0 hE.1) (fun _ => ?_)
      refine go_st (st2 := [.int (ls_p M i)]) (by rw [b1]) ?_
      refine go_aload C 7 dL_isBook_90 rfl ?_
      refine go_iload C 1 dL_isBook_92 rfl ?_
      refine lm_p C (vp_in_nI (n := i) (by omega) (by decide)) dL_isBook_94 ?_
      rw [cl_nI (i := i) (by omega)]
      refine go_icmp_ne C (tgt := 193) dL_isBook_95 (by decide) (fun c_9 => absurd c_9 (fun q9 => q9 rfl)) (fun c_9 => ?_)
      refine go_aload_n C 3 dL_isBook_98 rfl rfl ?_
      refine go_iload C 1 dL_isBook_99 rfl ?_
      refine k_RL_85 C hlf (ibS S M i) M ov (nI i) hoT ⟨(Nat.le_of_ble_eq_true rfl), (Nat.le_of_ble_eq_true rfl)⟩ ⟨(show _ ≤ 300 by omega), (show _ ≤ 2000 by omega)⟩ (Nat.le_of_ble_eq_true rfl) dL_isBook_101 (fun E hE => absurd b0 hE.1) (fun _ => ?_)
      refine go_st (st2 := [.long (ls_e M i)]) (by rw [b2]) ?_
      refine go_aload C 11 dL_isBook_104 rfl ?_
      refine go_iload C 1 dL_isBook_106 rfl ?_
      refine lm_e C (vp_in_nI (n := i) (by omega) (by decide)) dL_isBook_108 ?_
      rw [cl_nI (i := i) (by omega)]
      refine go_lcmp C dL_isBook_109 ?_
      refine go_if_ne C (tgt := 193) dL_isBook_110 (by decide) (fun c_10 => absurd c_10 (fun q9 => q9 ((lg_cmp_eq _ _).mpr rfl))) (fun c_10 => ?_)
      refine go_aload_n C 3 dL_isBook_113 rfl rfl ?_
      refine go_iload C 1 dL_isBook_114 rfl ?_
      refine k_RL_89 C hlf (ibS S M i) M ov (nI i) hoT ⟨(Nat.le_of_ble_eq_true rfl), (Nat.le_of_ble_eq_true rfl)⟩ ⟨(show _ ≤ 300 by omega), (show _ ≤ 2000 by omega)⟩ (Nat.le_of_ble_eq_true rfl) dL_isBook_116 (fun E hE => absurd b0 hE.1) (fun _ => ?_)
      refine go_st (st2 := [.long (lPa M i)]) (by rw [b3]) ?_
      refine go_aload_n C 4 dL_isBook_119 rfl rfl ?_
      refine go_aload_n C 5 dL_isBook_120 rfl rfl ?_
      refine go_aload_n C 6 dL_isBook_121 rfl rfl ?_
      refine go_aload C 7 dL_isBook_122 rfl ?_
      refine go_aload C 10 dL_isBook_124 rfl ?_
      refine go_iload C 1 dL_isBook_126 rfl ?_
      refine k_RL_27 C (pdS (ibS S M i) (nI i)) M ov i ⟨hn0, hn20⟩ (by omega) ⟨(Nat.le_of_ble_eq_true rfl), (Nat.le_of_ble_eq_true rfl)⟩ ⟨(show _ ≤ 300 by omega), (show _ ≤ 2000 by omega)⟩ (Nat.le_of_ble_eq_true rfl) dL_isBook_128 ?_
      refine go_lcmp C dL_isBook_131 ?_
      refine go_if_ne C (tgt := 193) dL_isBook_132 (by decide) (fun c_11 => absurd c_11 (fun q9 => q9 ((lg_cmp_eq _ _).mpr rfl))) (fun c_11 => ?_)
      refine go_aload_n C 3 dL_isBook_135 rfl rfl ?_
      refine go_iload C 1 dL_isBook_136 rfl ?_
      refine k_RL_92 C hlf (pdS (ibS S M i) (nI i)) M ov (nI i) hoP ⟨(Nat.le_of_ble_eq_true rfl), (Nat.le_of_ble_eq_true rfl)⟩ ⟨(show _ ≤ 300 by omega), (show _ ≤ 2000 by omega)⟩ (Nat.le_of_ble_eq_true rfl) dL_isBook_138 (fun E hE => absurd e0 hE.1) (fun _ => ?_)
      refine go_st (st2 := [.int (if 10 ≤ ls_c M i then 0 else ls_f M i)]) (by rw [e4]) ?_
      refine go_aload_n C 6 dL_isBook_141 rfl rfl ?_
      refine go_iload C 1 dL_isBook_142 rfl ?_
      refine lm_c C (vp_in_nI (n := i) (by omega) (by decide)) dL_isBook_144 ?_
      rw [cl_nI (i := i) (by omega)]
      refine go_bipush C (v := 10) dL_isBook_145 (by decide) ?_
      refine go_icmp_ge C (tgt := 158) dL_isBook_147 (by decide) (fun c_12 => ?_) (fun c_12 => ?_)
      · refine go_iconst C (v := 0) dL_isBook_158 (by decide) ?_
        refine go_icmp_ne C (tgt := 193) dL_isBook_159 (by decide) (fun c_13 => absurd c_13 (fun q9 => q9 (by rw [if_pos c_12]))) (fun c_13 => ?_)
        refine go_aload_n C 3 dL_isBook_162 rfl rfl ?_
        refine go_iload C 1 dL_isBook_163 rfl ?_
        refine k_RL_68 C hlf (pdS (ibS S M i) (nI i)) M ov (nI i) hoP ⟨(Nat.le_of_ble_eq_true rfl), (Nat.le_of_ble_eq_true rfl)⟩ ⟨(show _ ≤ 300 by omega), (show _ ≤ 2000 by omega)⟩ (Nat.le_of_ble_eq_true rfl) dL_isBook_165 (fun E hE => absurd e0 hE.1) (fun _ => ?_)
        refine go_st (st2 := [.int (if 10 ≤ ls_c M i then ls_t M i else -1)]) (by rw [e5]) ?_
        refine go_aload_n C 6 dL_isBook_168 rfl rfl ?_
        refine go_iload C 1 dL_isBook_169 rfl ?_
        refine lm_c C (vp_in_nI (n := i) (by omega) (by decide)) dL_isBook_171 ?_
        rw [cl_nI (i := i) (by omega)]
        refine go_bipush C (v := 10) dL_isBook_172 (by decide) ?_
        refine go_icmp_ge C (tgt := 181) dL_isBook_174 (by decide) (fun c_14 => ?_) (fun c_14 => absurd c_12 c_14)
        refine go_aload C 9 dL_isBook_181 rfl ?_
        refine go_iload C 1 dL_isBook_183 rfl ?_
        refine lm_t C (vp_in_nI (n := i) (by omega) (by decide)) dL_isBook_185 ?_
        rw [cl_nI (i := i) (by omega)]
        refine go_icmp_ne C (tgt := 193) dL_isBook_186 (by decide) (fun c_15 => absurd c_15 (fun q9 => q9 (by rw [if_pos c_12]))) (fun c_15 => ?_)
        refine go_iconst C (v := 1) dL_isBook_189 (by decide) ?_
        refine go_goto C (tgt := 194) dL_isBook_190 (by decide) ?_
        refine go_istore C (lo' := [(11, .int 1), (10, .int ((lMa (ls_p M) i) + 1)), (12, .int (nI i)), (0, .ref (a 0)), (1, .ref (a 5)), (2, .ref (a 6)), (3, .ref (a 7)), (4, .ref (a 8)), (5, .ref (a 9)), (6, .ref (a 10)), (7, .ref (a 12)), (8, .ref (a 13)), (9, .ref (a 14))]) dL_isBook_194 (by decide) rfl ?_
        refine go_iinc C (v := nI (i + 1)) (lo' := [(12, .int (nI (i + 1))), (11, .int 1), (10, .int ((lMa (ls_p M) i) + 1)), (0, .ref (a 0)), (1, .ref (a 5)), (2, .ref (a 6)), (3, .ref (a 7)), (4, .ref (a 8)), (5, .ref (a 9)), (6, .ref (a 10)), (7, .ref (a 12)), (8, .ref (a 13)), (9, .ref (a 14))]) 2 dL_isBook_196 rfl (nI_1 _) (by decide) rfl ?_
        refine go_goto C (tgt := 23) dL_isBook_199 (by decide) ?_
        refine go_lo (lo' := [(12, .int (nI (i + 1))), (11, .int 1), (10, .int (lMa (ls_p M) (i + 1))), (0, .ref (a 0)), (1, .ref (a 5)), (2, .ref (a 6)), (3, .ref (a 7)), (4, .ref (a 8)), (5, .ref (a 9)), (6, .ref (a 10)), (7, .ref (a 12)), (8, .ref (a 13)), (9, .ref (a 14))]) [0, 1, 2, 3, 4, 5, 6, 7, 8, 9, 10, 11, 12] (by rw [lMa_1 b6]; rfl) ?_
        refine go_w (w2 := wW cI cJ cO a (ibS S M (i + 1)) M ov) (by rw [ibS_1 hp]) ?_
        refine go_widen (k2 := 0 + 0 + 6 * (i + 1)) (n2 := 0 + 0 + 40 * (i + 1)) (by omega) (by omega) ?_
        exact ih_i trivial
      · refine go_aload C 8 dL_isBook_150 rfl ?_
        refine go_iload C 1 dL_isBook_152 rfl ?_
        refine lm_f C (vp_in_nI (n := i) (by omega) (by decide)) dL_isBook_154 ?_
        rw [cl_nI (i := i) (by omega)]
        refine go_goto C (tgt := 159) dL_isBook_155 (by decide) ?_
        refine go_icmp_ne C (tgt := 193) dL_isBook_159 (by decide) (fun c_16 => absurd c_16 (fun q9 => q9 (by rw [if_neg c_12]))) (fun c_16 => ?_)
        refine go_aload_n C 3 dL_isBook_162 rfl rfl ?_
        refine go_iload C 1 dL_isBook_163 rfl ?_
        refine k_RL_68 C hlf (pdS (ibS S M i) (nI i)) M ov (nI i) hoP ⟨(Nat.le_of_ble_eq_true rfl), (Nat.le_of_ble_eq_true rfl)⟩ ⟨(show _ ≤ 300 by omega), (show _ ≤ 2000 by omega)⟩ (Nat.le_of_ble_eq_true rfl) dL_isBook_165 (fun E hE => absurd e0 hE.1) (fun _ => ?_)
        refine go_st (st2 := [.int (if 10 ≤ ls_c M i then ls_t M i else -1)]) (by rw [e5]) ?_
        refine go_aload_n C 6 dL_isBook_168 rfl rfl ?_
        refine go_iload C 1 dL_isBook_169 rfl ?_
        refine lm_c C (vp_in_nI (n := i) (by omega) (by decide)) dL_isBook_171 ?_
        rw [cl_nI (i := i) (by omega)]
        refine go_bipush C (v := 10) dL_isBook_172 (by decide) ?_
        refine go_icmp_ge C (tgt := 181) dL_isBook_174 (by decide) (fun c_17 => absurd c_17 c_12) (fun c_17 => ?_)
        refine go_iconst C (v := (-1)) dL_isBook_177 (by decide) ?_
        refine go_goto C (tgt := 186) dL_isBook_178 (by decide) ?_
        refine go_icmp_ne C (tgt := 193) dL_isBook_186 (by decide) (fun c_18 => absurd c_18 (fun q9 => q9 (by rw [if_neg c_12]))) (fun c_18 => ?_)
        refine go_iconst C (v := 1) dL_isBook_189 (by decide) ?_
        refine go_goto C (tgt := 194) dL_isBook_190 (by decide) ?_
        refine go_istore C (lo' := [(11, .int 1), (10, .int ((lMa (ls_p M) i) + 1)), (12, .int (nI i)), (0, .ref (a 0)), (1, .ref (a 5)), (2, .ref (a 6)), (3, .ref (a 7)), (4, .ref (a 8)), (5, .ref (a 9)), (6, .ref (a 10)), (7, .ref (a 12)), (8, .ref (a 13)), (9, .ref (a 14))]) dL_isBook_194 (by decide) rfl ?_
        refine go_iinc C (v := nI (i + 1)) (lo' := [(12, .int (nI (i + 1))), (11, .int 1), (10, .int ((lMa (ls_p M) i) + 1)), (0, .ref (a 0)), (1, .ref (a 5)), (2, .ref (a 6)), (3, .ref (a 7)), (4, .ref (a 8)), (5, .ref (a 9)), (6, .ref (a 10)), (7, .ref (a 12)), (8, .ref (a 13)), (9, .ref (a 14))]) 2 dL_isBook_196 rfl (nI_1 _) (by decide) rfl ?_
        refine go_goto C (tgt := 23) dL_isBook_199 (by decide) ?_
        refine go_lo (lo' := [(12, .int (nI (i + 1))), (11, .int 1), (10, .int (lMa (ls_p M) (i + 1))), (0, .ref (a 0)), (1, .ref (a 5)), (2, .ref (a 6)), (3, .ref (a 7)), (4, .ref (a 8)), (5, .ref (a 9)), (6, .ref (a 10)), (7, .ref (a 12)), (8, .ref (a 13)), (9, .ref (a 14))]) [0, 1, 2, 3, 4, 5, 6, 7, 8, 9, 10, 11, 12] (by rw [lMa_1 b6]; rfl) ?_
        refine go_w (w2 := wW cI cJ cO a (ibS S M (i + 1)) M ov) (by rw [ibS_1 hp]) ?_
        refine go_widen (k2 := 0 + 0 + 6 * (i + 1)) (n2 := 0 + 0 + 40 * (i + 1)) (by omega) (by omega) ?_
        exact ih_i trivial
  · refine go_iload C 0 dL_isBook_23 rfl ?_
    refine go_aload_n C 4 dL_isBook_25 rfl rfl ?_
    refine go_iconst C (v := 0) dL_isBook_26 (by decide) ?_
    refine lm_n C vin_0_4 dL_isBook_27 ?_
    rw [ck_0]
    refine go_icmp_ge C (tgt := 202) dL_isBook_28 (by decide) (fun c_19 => ?_) (fun c_19 => absurd (by rw [hn0]; exact nI_le (Nat.le_refl _) (by omega)) c_19)
    have wE := w.ib (lK M)
    have hoE := wE.ok.1
    refine go_iconst C (v := 0) dL_isBook_202 (by decide) ?_
    refine go_istore C (lo' := [(12, .int 0), (11, .int 1), (10, .int (lMa (ls_p M) (lK M))), (0, .ref (a 0)), (1, .ref (a 5)), (2, .ref (a 6)), (3, .ref (a 7)), (4, .ref (a 8)), (5, .ref (a 9)), (6, .ref (a 10)), (7, .ref (a 12)), (8, .ref (a 13)), (9, .ref (a 14))]) dL_isBook_203 (by decide) rfl ?_
    refine go_forK (4) (fun kk => True) (fun kk => wW cI cJ cO a (ibS S M (lK M)) M ov) (fun kk => [(12, .int (nI kk)), (11, .int 1), (10, .int (lMa (ls_p M) (lK M))), (0, .ref (a 0)), (1, .ref (a 5)), (2, .ref (a 6)), (3, .ref (a 7)), (4, .ref (a 8)), (5, .ref (a 9)), (6, .ref (a 10)), (7, .ref (a 12)), (8, .ref (a 13)), (9, .ref (a 14))]) (fun kk => 0 + 0 + 6 * (lK M) + 0 + 4 * kk) (fun kk => 0 + 0 + 40 * (lK M) + 0 + 24 * kk) ⟨rfl, rfl⟩ ⟨by omega, by omega⟩ trivial (fun kk hi_kk hI_kk ih_kk => ?_) (fun hI_kk => ?_)
    · obtain ⟨b0, b1, b2, b3, b4⟩ := bk_cu wE hi_kk
      refine go_iload C 0 dL_isBook_205 rfl ?_
      refine go_iconst C (v := 4) dL_isBook_207 (by decide) ?_
      refine go_icmp_ge C (tgt := 349) dL_isBook_208 (by decide) (fun c_20 => absurd c_20 (nI_ge (b := 4) hi_kk (by decide))) (fun c_20 => ?_)
      refine go_iload C 1 dL_isBook_211 rfl ?_
      refine go_if_eq C (tgt := 349) dL_isBook_213 (by decide) (fun c_21 => absurd c_21 (by decide)) (fun c_21 => ?_)
      refine go_lconst C (v := 0) dL_isBook_216 (by decide) ?_
      refine go_lstore C (lo' := [(13, .long 0), (12, .int (nI kk)), (11, .int 1), (10, .int (lMa (ls_p M) (lK M))), (0, .ref (a 0)), (1, .ref (a 5)), (2, .ref (a 6)), (3, .ref (a 7)), (4, .ref (a 8)), (5, .ref (a 9)), (6, .ref (a 10)), (7, .ref (a 12)), (8, .ref (a 13)), (9, .ref (a 14))]) dL_isBook_217 (by decide) rfl ?_
      refine go_iconst C (v := 0) dL_isBook_219 (by decide) ?_
      refine go_istore C (lo' := [(15, .int 0), (13, .long 0), (12, .int (nI kk)), (11, .int 1), (10, .int (lMa (ls_p M) (lK M))), (0, .ref (a 0)), (1, .ref (a 5)), (2, .ref (a 6)), (3, .ref (a 7)), (4, .ref (a 8)), (5, .ref (a 9)), (6, .ref (a 10)), (7, .ref (a 12)), (8, .ref (a 13)), (9, .ref (a 14))]) dL_isBook_220 (by decide) rfl ?_
      refine go_for (lK M) (fun i => True) (fun i => wW cI cJ cO a (ibS S M (lK M)) M ov) (fun i => [(15, .int (nI i)), (13, .long (lSu M (nI kk) i)), (12, .int (nI kk)), (11, .int 1), (10, .int (lMa (ls_p M) (lK M))), (0, .ref (a 0)), (1, .ref (a 5)), (2, .ref (a 6)), (3, .ref (a 7)), (4, .ref (a 8)), (5, .ref (a 9)), (6, .ref (a 10)), (7, .ref (a 12)), (8, .ref (a 13)), (9, .ref (a 14))]) ⟨rfl, rfl⟩ trivial (fun i hi_i hI_i ih_i => ?_) (fun hI_i => ?_)
      · refine go_iload C 0 dL_isBook_222 rfl ?_
        refine go_aload_n C 6 dL_isBook_224 rfl rfl ?_
        refine go_iconst C (v := 0) dL_isBook_225 (by decide) ?_
        refine lm_n C vin_0_4 dL_isBook_226 ?_
        rw [ck_0]
        refine go_icmp_ge C (tgt := 274) dL_isBook_227 (by decide) (fun c_22 => absurd c_22 (by rw [hn0]; exact nI_ge hi_i (by omega))) (fun c_22 => ?_)
        refine go_lload C 1 dL_isBook_230 rfl ?_
        refine go_aload_n C 8 dL_isBook_232 rfl rfl ?_
        refine go_iload C 0 dL_isBook_233 rfl ?_
        refine lm_c C (vp_in_nI (n := i) (by omega) (by decide)) dL_isBook_235 ?_
        rw [cl_nI (i := i) (by omega)]
        refine go_iload C 2 dL_isBook_236 rfl ?_
        refine go_icmp_ne C (tgt := 264) dL_isBook_238 (by decide) (fun c_23 => ?_) (fun c_23 => ?_)
        · refine go_lconst C (v := 0) dL_isBook_264 (by decide) ?_
          refine go_ladd C dL_isBook_265 ?_
          refine go_lstore C (lo' := [(13, .long ((lSu M (nI kk) i) + 0)), (15, .int (nI i)), (12, .int (nI kk)), (11, .int 1), (10, .int (lMa (ls_p M) (lK M))), (0, .ref (a 0)), (1, .ref (a 5)), (2, .ref (a 6)), (3, .ref (a 7)), (4, .ref (a 8)), (5, .ref (a 9)), (6, .ref (a 10)), (7, .ref (a 12)), (8, .ref (a 13)), (9, .ref (a 14))]) dL_isBook_266 (by decide) rfl ?_
          refine go_iinc C (v := nI (i + 1)) (lo' := [(15, .int (nI (i + 1))), (13, .long ((lSu M (nI kk) i) + 0)), (12, .int (nI kk)), (11, .int 1), (10, .int (lMa (ls_p M) (lK M))), (0, .ref (a 0)), (1, .ref (a 5)), (2, .ref (a 6)), (3, .ref (a 7)), (4, .ref (a 8)), (5, .ref (a 9)), (6, .ref (a 10)), (7, .ref (a 12)), (8, .ref (a 13)), (9, .ref (a 14))]) 1 dL_isBook_268 rfl (nI_1 _) (by decide) rfl ?_
          refine go_goto C (tgt := 222) dL_isBook_271 (by decide) ?_
          refine go_lo (lo' := [(15, .int (nI (i + 1))), (13, .long (lSu M (nI kk) (i + 1))), (12, .int (nI kk)), (11, .int 1), (10, .int (lMa (ls_p M) (lK M))), (0, .ref (a 0)), (1, .ref (a 5)), (2, .ref (a 6)), (3, .ref (a 7)), (4, .ref (a 8)), (5, .ref (a 9)), (6, .ref (a 10)), (7, .ref (a 12)), (8, .ref (a 13)), (9, .ref (a 14))]) [0, 1, 2, 3, 4, 5, 6, 7, 8, 9, 10, 11, 12, 13, 14] (by rw [lSu_0 c_23]; rfl) ?_
          exact ih_i trivial
        · refine go_aload C 9 dL_isBook_241 rfl ?_
          refine go_iload C 0 dL_isBook_243 rfl ?_
          refine lm_p C (vp_in_nI (n := i) (by omega) (by decide)) dL_isBook_245 ?_
          rw [cl_nI (i := i) (by omega)]
          refine go_if_le C (tgt := 264) dL_isBook_246 (by decide) (fun c_24 => ?_) (fun c_24 => ?_)
          · refine go_lconst C (v := 0) dL_isBook_264 (by decide) ?_
            refine go_ladd C dL_isBook_265 ?_
            refine go_lstore C (lo' := [(13, .long ((lSu M (nI kk) i) + 0)), (15, .int (nI i)), (12, .int (nI kk)), (11, .int 1), (10, .int (lMa (ls_p M) (lK M))), (0, .ref (a 0)), (1, .ref (a 5)), (2, .ref (a 6)), (3, .ref (a 7)), (4, .ref (a 8)), (5, .ref (a 9)), (6, .ref (a 10)), (7, .ref (a 12)), (8, .ref (a 13)), (9, .ref (a 14))]) dL_isBook_266 (by decide) rfl ?_
            refine go_iinc C (v := nI (i + 1)) (lo' := [(15, .int (nI (i + 1))), (13, .long ((lSu M (nI kk) i) + 0)), (12, .int (nI kk)), (11, .int 1), (10, .int (lMa (ls_p M) (lK M))), (0, .ref (a 0)), (1, .ref (a 5)), (2, .ref (a 6)), (3, .ref (a 7)), (4, .ref (a 8)), (5, .ref (a 9)), (6, .ref (a 10)), (7, .ref (a 12)), (8, .ref (a 13)), (9, .ref (a 14))]) 1 dL_isBook_268 rfl (nI_1 _) (by decide) rfl ?_
            refine go_goto C (tgt := 222) dL_isBook_271 (by decide) ?_
            refine go_lo (lo' := [(15, .int (nI (i + 1))), (13, .long (lSu M (nI kk) (i + 1))), (12, .int (nI kk)), (11, .int 1), (10, .int (lMa (ls_p M) (lK M))), (0, .ref (a 0)), (1, .ref (a 5)), (2, .ref (a 6)), (3, .ref (a 7)), (4, .ref (a 8)), (5, .ref (a 9)), (6, .ref (a 10)), (7, .ref (a 12)), (8, .ref (a 13)), (9, .ref (a 14))]) [0, 1, 2, 3, 4, 5, 6, 7, 8, 9, 10, 11, 12, 13, 14] (by rw [lSu_1 c_23 c_24]; rfl) ?_
            exact ih_i trivial
          · refine go_aload_n C 6 dL_isBook_249 rfl rfl ?_
            refine go_aload_n C 7 dL_isBook_250 rfl rfl ?_
            refine go_aload_n C 8 dL_isBook_251 rfl rfl ?_
            refine go_aload C 9 dL_isBook_252 rfl ?_
            refine go_aload C 12 dL_isBook_254 rfl ?_
            refine go_iload C 0 dL_isBook_256 rfl ?_
            refine k_RL_27 C (ibS S M (lK M)) M ov i ⟨hn0, hn20⟩ (by omega) ⟨(Nat.le_of_ble_eq_true rfl), (Nat.le_of_ble_eq_true rfl)⟩ ⟨(show _ ≤ 300 by omega), (show _ ≤ 2000 by omega)⟩ (Nat.le_of_ble_eq_true rfl) dL_isBook_258 ?_
            refine go_goto C (tgt := 265) dL_isBook_261 (by decide) ?_
            refine go_ladd C dL_isBook_265 ?_
            refine go_lstore C (lo' := [(13, .long ((lSu M (nI kk) i) + (lPa M i))), (15, .int (nI i)), (12, .int (nI kk)), (11, .int 1), (10, .int (lMa (ls_p M) (lK M))), (0, .ref (a 0)), (1, .ref (a 5)), (2, .ref (a 6)), (3, .ref (a 7)), (4, .ref (a 8)), (5, .ref (a 9)), (6, .ref (a 10)), (7, .ref (a 12)), (8, .ref (a 13)), (9, .ref (a 14))]) dL_isBook_266 (by decide) rfl ?_
            refine go_iinc C (v := nI (i + 1)) (lo' := [(15, .int (nI (i + 1))), (13, .long ((lSu M (nI kk) i) + (lPa M i))), (12, .int (nI kk)), (11, .int 1), (10, .int (lMa (ls_p M) (lK M))), (0, .ref (a 0)), (1, .ref (a 5)), (2, .ref (a 6)), (3, .ref (a 7)), (4, .ref (a 8)), (5, .ref (a 9)), (6, .ref (a 10)), (7, .ref (a 12)), (8, .ref (a 13)), (9, .ref (a 14))]) 1 dL_isBook_268 rfl (nI_1 _) (by decide) rfl ?_
            refine go_goto C (tgt := 222) dL_isBook_271 (by decide) ?_
            refine go_lo (lo' := [(15, .int (nI (i + 1))), (13, .long (lSu M (nI kk) (i + 1))), (12, .int (nI kk)), (11, .int 1), (10, .int (lMa (ls_p M) (lK M))), (0, .ref (a 0)), (1, .ref (a 5)), (2, .ref (a 6)), (3, .ref (a 7)), (4, .ref (a 8)), (5, .ref (a 9)), (6, .ref (a 10)), (7, .ref (a 12)), (8, .ref (a 13)), (9, .ref (a 14))]) [0, 1, 2, 3, 4, 5, 6, 7, 8, 9, 10, 11, 12, 13, 14] (by rw [lSu_2 c_23 c_24]; rfl) ?_
            exact ih_i trivial
      · refine go_iload C 0 dL_isBook_222 rfl ?_
        refine go_aload_n C 6 dL_isBook_224 rfl rfl ?_
        refine go_iconst C (v := 0) dL_isBook_225 (by decide) ?_
        refine lm_n C vin_0_4 dL_isBook_226 ?_
        rw [ck_0]
        refine go_icmp_ge C (tgt := 274) dL_isBook_227 (by decide) (fun c_25 => ?_) (fun c_25 => absurd (by rw [hn0]; exact nI_le (Nat.le_refl _) (by omega)) c_25)
        refine go_aload_n C 5 dL_isBook_274 rfl rfl ?_
        refine go_iload C 2 dL_isBook_275 rfl ?_
        refine k_RL_95 C hlf (ibS S M (lK M)) M ov (nI kk) hoE ⟨(Nat.le_of_ble_eq_true rfl), (Nat.le_of_ble_eq_true rfl)⟩ ⟨(show _ ≤ 300 by omega), (show _ ≤ 2000 by omega)⟩ (Nat.le_of_ble_eq_true rfl) dL_isBook_277 (fun E hE => absurd b0 hE.1) (fun _ => ?_)
        refine go_st (st2 := [.int (lTot (ls_c M) (ls_p M) (nI kk) (lK M))]) (by rw [b1]) ?_
        refine go_aload_n C 6 dL_isBook_280 rfl rfl ?_
        refine go_aload_n C 8 dL_isBook_281 rfl rfl ?_
        refine go_aload C 9 dL_isBook_282 rfl ?_
        refine go_iload C 2 dL_isBook_284 rfl ?_
        refine k_RL_7 C (ibS S M (lK M)) M ov (nI kk) ⟨hn0, hn20⟩ ⟨(Nat.le_of_ble_eq_true rfl), (Nat.le_of_ble_eq_true rfl)⟩ ⟨(show _ ≤ 300 by omega), (show _ ≤ 2000 by omega)⟩ (Nat.le_of_ble_eq_true rfl) dL_isBook_286 ?_
        refine go_icmp_ne C (tgt := 340) dL_isBook_289 (by decide) (fun c_26 => absurd c_26 (fun q9 => q9 rfl)) (fun c_26 => ?_)
        refine go_aload_n C 5 dL_isBook_292 rfl rfl ?_
        refine go_iload C 2 dL_isBook_293 rfl ?_
        refine k_RL_97 C hlf (ibS S M (lK M)) M ov (nI kk) hoE ⟨(Nat.le_of_ble_eq_true rfl), (Nat.le_of_ble_eq_true rfl)⟩ ⟨(show _ ≤ 300 by omega), (show _ ≤ 2000 by omega)⟩ (Nat.le_of_ble_eq_true rfl) dL_isBook_295 (fun E hE => absurd b0 hE.1) (fun _ => ?_)
        refine go_st (st2 := [.long (lSu M (nI kk) (lK M))]) (by rw [b2]) ?_
        refine go_lload C 1 dL_isBook_298 rfl ?_
        refine go_lcmp C dL_isBook_300 ?_
        refine go_if_ne C (tgt := 340) dL_isBook_301 (by decide) (fun c_27 => absurd c_27 (fun q9 => q9 ((lg_cmp_eq _ _).mpr rfl))) (fun c_27 => ?_)
        refine go_aload_n C 5 dL_isBook_304 rfl rfl ?_
        refine go_iload C 2 dL_isBook_305 rfl ?_
        refine k_RL_100 C hlf (ibS S M (lK M)) M ov (nI kk) ⟨(Nat.le_of_ble_eq_true rfl), (Nat.le_of_ble_eq_true rfl)⟩ ⟨(show _ ≤ 300 by omega), (show _ ≤ 2000 by omega)⟩ (Nat.le_of_ble_eq_true rfl) dL_isBook_307 (fun E hE => absurd b0 hE.1) (fun _ => ?_)
        refine go_st (st2 := [.long (ls_g M kk)]) (by rw [b3]) ?_
        refine go_aload C 14 dL_isBook_310 rfl ?_
        refine go_iload C 2 dL_isBook_312 rfl ?_
        refine lm_g C (vp_in_nI (n := kk) (by omega) (by decide)) dL_isBook_314 ?_
        rw [cl_nI (i := kk) (by omega)]
        refine go_lcmp C dL_isBook_315 ?_
        refine go_if_ne C (tgt := 340) dL_isBook_316 (by decide) (fun c_28 => absurd c_28 (fun q9 => q9 ((lg_cmp_eq _ _).mpr rfl))) (fun c_28 => ?_)
        refine go_aload_n C 5 dL_isBook_319 rfl rfl ?_
        refine go_iload C 2 dL_isBook_320 rfl ?_
        refine k_RL_103 C hlf (ibS S M (lK M)) M ov (nI kk) ⟨(Nat.le_of_ble_eq_true rfl), (Nat.le_of_ble_eq_true rfl)⟩ ⟨(show _ ≤ 300 by omega), (show _ ≤ 2000 by omega)⟩ (Nat.le_of_ble_eq_true rfl) dL_isBook_322 (fun E hE => absurd b0 hE.1) (fun _ => ?_)
        refine go_st (st2 := [.long (ls_g M (4 + kk))]) (by rw [b4]) ?_
        refine go_aload C 14 dL_isBook_325 rfl ?_
        refine go_iconst C (v := 4) dL_isBook_327 (by decide) ?_
        refine go_iload C 2 dL_isBook_328 rfl ?_
        refine go_iadd C dL_isBook_330 ?_
        refine go_st (st2 := [.int (nI (4 + kk)), .ref (a 14), .long (ls_g M (4 + kk))]) (by rw [show (4 : Int32) = nI 4 from rfl, nI_add]) ?_
        refine lm_g C (vp_in_nI (n := 4 + kk) (by omega) (by decide)) dL_isBook_331 ?_
        rw [cl_nI (i := 4 + kk) (by omega)]
        refine go_lcmp C dL_isBook_332 ?_
        refine go_if_ne C (tgt := 340) dL_isBook_333 (by decide) (fun c_29 => absurd c_29 (fun q9 => q9 ((lg_cmp_eq _ _).mpr rfl))) (fun c_29 => ?_)
        refine go_iconst C (v := 1) dL_isBook_336 (by decide) ?_
        refine go_goto C (tgt := 341) dL_isBook_337 (by decide) ?_
        refine go_istore C (lo' := [(11, .int 1), (15, .int (nI (lK M))), (13, .long (lSu M (nI kk) (lK M))), (12, .int (nI kk)), (10, .int (lMa (ls_p M) (lK M))), (0, .ref (a 0)), (1, .ref (a 5)), (2, .ref (a 6)), (3, .ref (a 7)), (4, .ref (a 8)), (5, .ref (a 9)), (6, .ref (a 10)), (7, .ref (a 12)), (8, .ref (a 13)), (9, .ref (a 14))]) dL_isBook_341 (by decide) rfl ?_
        refine go_iinc C (v := nI (kk + 1)) (lo' := [(12, .int (nI (kk + 1))), (11, .int 1), (15, .int (nI (lK M))), (13, .long (lSu M (nI kk) (lK M))), (10, .int (lMa (ls_p M) (lK M))), (0, .ref (a 0)), (1, .ref (a 5)), (2, .ref (a 6)), (3, .ref (a 7)), (4, .ref (a 8)), (5, .ref (a 9)), (6, .ref (a 10)), (7, .ref (a 12)), (8, .ref (a 13)), (9, .ref (a 14))]) 3 dL_isBook_343 rfl (nI_1 _) (by decide) rfl ?_
        refine go_goto C (tgt := 205) dL_isBook_346 (by decide) ?_
        refine go_lo (lo' := [(12, .int (nI (kk + 1))), (11, .int 1), (10, .int (lMa (ls_p M) (lK M))), (0, .ref (a 0)), (1, .ref (a 5)), (2, .ref (a 6)), (3, .ref (a 7)), (4, .ref (a 8)), (5, .ref (a 9)), (6, .ref (a 10)), (7, .ref (a 12)), (8, .ref (a 13)), (9, .ref (a 14))]) [0, 1, 4, 5, 6, 7, 8, 9, 10, 11, 12, 13, 14] (by rfl) ?_
        refine go_widen (k2 := 0 + 0 + 6 * (lK M) + 0 + 4 * (kk + 1)) (n2 := 0 + 0 + 40 * (lK M) + 0 + 24 * (kk + 1)) (by omega) (by omega) ?_
        exact ih_kk trivial
    · refine go_iload C 0 dL_isBook_205 rfl ?_
      refine go_iconst C (v := 4) dL_isBook_207 (by decide) ?_
      refine go_icmp_ge C (tgt := 349) dL_isBook_208 (by decide) (fun c_30 => ?_) (fun c_30 => absurd (nI_le (a := 4) (b := 4) (Nat.le_refl 4) (by decide)) c_30)
      refine go_iload C 1 dL_isBook_349 rfl ?_
      refine go_if_eq C (tgt := 367) dL_isBook_351 (by decide) (fun c_31 => absurd c_31 (by decide)) (fun c_31 => ?_)
      refine go_aload_n C 3 dL_isBook_354 rfl rfl ?_
      refine k_RL_106 C (ibS S M (lK M)) M ov hoE ⟨(Nat.le_of_ble_eq_true rfl), (Nat.le_of_ble_eq_true rfl)⟩ ⟨(show _ ≤ 300 by omega), (show _ ≤ 2000 by omega)⟩ (Nat.le_of_ble_eq_true rfl) dL_isBook_355 ?_
      refine go_st (st2 := [.int (lMa (ls_p M) (lK M))]) (by rw [bk_many wE]) ?_
      refine go_iload C 2 dL_isBook_358 rfl ?_
      refine go_icmp_ne C (tgt := 367) dL_isBook_360 (by decide) (fun c_32 => absurd c_32 (fun q9 => q9 rfl)) (fun c_32 => ?_)
      refine go_iconst C (v := 1) dL_isBook_363 (by decide) ?_
      refine go_goto C (tgt := 368) dL_isBook_364 (by decide) ?_
      exact go_x (go_zreturn C rfl rfl dL_isBook_368 (show _ ≤ 300 by omega) (show _ ≤ 2000 by omega) ⟨_, wE, rfl, rfl⟩)
theorem k_RL_110 {p : Program} {l : Launch} {e : Env} {R : Room} {s : State} {m : MethodId} {args : Array Value} {below : List Frame} {meth : Method} {c : Code} {D : va_G} {N0 mL : Nat} {cc : ByteArray} {nm : String} {ret : Option FieldType} {Q : State → Prop} {k n pc : Nat} {lo : List (Nat × Value)} {st : List Value} {cI cJ cO : ClassId} {a : Nat → Nat} (C : Cxt p s m args meth c D (tysW cI cJ cO) N0 cc mL RL ret nm) (hlf : l.stackTraces = false) (S : CS) (M : LWS) (ov : va_W) (w : Rl S M) (hR : 12 + 1 ≤ R.frames ∧ 8 + (16 + 11) + 450 ≤ R.locals) (hcs : k + 300 ≤ R.cells ∧ n + 2000 ≤ R.slots) (hcat : (st.map fun v => v.category).sum ≤ 8) (dk : decode cc pc = .ok (.invokestatic 110, 3)) (gx : ∀ E : String, (False) → GoX p l e R s m args below meth c D N0 mL Q (wW cI cJ cO a S M ov) (k + 300) (n + 2000) pc lo E) (g0 : ∀ S2 : CS, (Rl S2 M) → Go p l e R s m args below meth c D N0 mL Q (wW cI cJ cO a S2 M ov) (k + 300) (n + 2000) (pc + 3) lo (.int 1 :: st)) : Go p l e R s m args below meth c D N0 mL Q (wW cI cJ cO a S M ov) k n pc lo (.ref (a 14) :: .ref (a 13) :: .ref (a 12) :: .ref (a 10) :: .ref (a 9) :: .ref (a 8) :: .ref (a 7) :: .ref (a 6) :: .ref (a 5) :: .ref (a 0) :: st) :=
  go_callSX C (As := [.ref (a 0), .ref (a 5), .ref (a 6), .ref (a 7), .ref (a 8), .ref (a 9), .ref (a 10), .ref (a 12), .ref (a 13), .ref (a 14)]) (rest := st) (c_L_isBook l hlf D cI cJ cO N0 a S M ov w) ⟨rfl, by decide +kernel, by decide +kernel⟩ bl_RL_110 bst_yL_isBook bz_NoticeBookLaw bc_yL_isBook (show Option.map (fun d => d.parameters.length) (parseMethodDescriptor yL_isBook.desc) = some 10 by decide +kernel) hR hcs hcat dk (fun E w2 h => by obtain ⟨h9, rfl⟩ := h; exact gx E h9) (fun r w2 h => by
    rcases h with ⟨S2, h9, rfl, rfl⟩
    · exact g0 S2 h9) rfl
