set_option maxHeartbeats 4000000 in
set_option maxRecDepth 100000 in
theorem c_L_passes (l : Launch) (D : va_G) (cI cJ cO : ClassId) (N0 : Nat) (a : Nat → Nat) (S : CS) (M : LWS) (ov : va_W) (D9 : Nat) (hok : okL M) (hoo : okO M) (hd : D9 ≤ 100) : Ct l D (tysW cI cJ cO) N0 yL_passes cL_passes 17 (some .int) { frames := 2, cells := 0, slots := 0, locals := 61 } [.ref (a 5), .ref (a 6), .ref (a 7), .ref (a 8), .ref (a 9), .ref (a 10), .ref (a 11), .ref (a 12), .ref (a 13), .ref (a 14), .int (nI D9)] (wW cI cJ cO a S M ov) (fun r w2 => r = some (.int (lPs M D9).1) ∧ w2 = wW cI cJ cO a S (lPs M D9).2 ov) := by
  refine ct_of (by decide +kernel) (Nat.le_of_ble_eq_true rfl) ?_
  intro p e s m args below meth c C
  have C : Cxt p s m args meth c D (tysW cI cJ cO) N0 cL_passes 17 RL (some .int) "passes" := C
  obtain ⟨hn0, hn20⟩ := hok
  refine go_iconst C (v := 0) dL_passes_0 (by decide) ?_
  refine go_istore C (lo' := [(11, .int 0), (0, .ref (a 5)), (1, .ref (a 6)), (2, .ref (a 7)), (3, .ref (a 8)), (4, .ref (a 9)), (5, .ref (a 10)), (6, .ref (a 11)), (7, .ref (a 12)), (8, .ref (a 13)), (9, .ref (a 14)), (10, .int (nI D9))]) dL_passes_1 (by decide) rfl ?_
  refine go_iconst C (v := 0) dL_passes_3 (by decide) ?_
  refine go_istore C (lo' := [(12, .int 0), (11, .int 0), (0, .ref (a 5)), (1, .ref (a 6)), (2, .ref (a 7)), (3, .ref (a 8)), (4, .ref (a 9)), (5, .ref (a 10)), (6, .ref (a 11)), (7, .ref (a 12)), (8, .ref (a 13)), (9, .ref (a 14)), (10, .int (nI D9))]) dL_passes_4 (by decide) rfl ?_
  refine go_for (D9) (fun t => True) (fun t => wW cI cJ cO a S (lPs M t).2 ov) (fun t => [(12, .int (nI t)), (11, .int (lPs M t).1), (0, .ref (a 5)), (1, .ref (a 6)), (2, .ref (a 7)), (3, .ref (a 8)), (4, .ref (a 9)), (5, .ref (a 10)), (6, .ref (a 11)), (7, .ref (a 12)), (8, .ref (a 13)), (9, .ref (a 14)), (10, .int (nI D9))]) ⟨rfl, rfl⟩ trivial (fun t hi_t hI_t ih_t => ?_) (fun hI_t => ?_)
  · have hn1 : ls_n (lPs M t).2 0 = nI (lK M) := (lPs_n0 M t).1.trans hn0
    have hoA : okL (lPs M t).2 := okL_of (lPs_n0 M t).1 ⟨hn0, hn20⟩
    have hKA : lK (lPs M t).2 = lK M := lK_of (lPs_n0 M t).1
    have hoo2 : okO (lPs M t).2 := okO_of (lPs_n0 M t).1 (lPs_n0 M t).2 hoo
    refine go_iload C 0 dL_passes_6 rfl ?_
    refine go_iload C 12 dL_passes_8 rfl ?_
    refine go_icmp_ge C (tgt := 329) dL_passes_10 (by decide) (fun c_1 => absurd c_1 (nI_ge hi_t (by omega))) (fun c_1 => ?_)
    refine go_iconst C (v := 0) dL_passes_13 (by decide) ?_
    refine go_istore C (lo' := [(13, .int 0), (12, .int (nI t)), (11, .int (lPs M t).1), (0, .ref (a 5)), (1, .ref (a 6)), (2, .ref (a 7)), (3, .ref (a 8)), (4, .ref (a 9)), (5, .ref (a 10)), (6, .ref (a 11)), (7, .ref (a 12)), (8, .ref (a 13)), (9, .ref (a 14)), (10, .int (nI D9))]) dL_passes_14 (by decide) rfl ?_
    refine go_for (lK M) (fun i => True) (fun i => wW cI cJ cO a S (ls_set_e (lPs M t).2 (lEa (lPs M t).2 i)) ov) (fun i => [(13, .int (nI i)), (12, .int (nI t)), (11, .int (lPs M t).1), (0, .ref (a 5)), (1, .ref (a 6)), (2, .ref (a 7)), (3, .ref (a 8)), (4, .ref (a 9)), (5, .ref (a 10)), (6, .ref (a 11)), (7, .ref (a 12)), (8, .ref (a 13)), (9, .ref (a 14)), (10, .int (nI D9))]) ⟨rfl, rfl⟩ trivial (fun i hi_i hI_i ih_i => ?_) (fun hI_i => ?_)
    · refine go_iload C 0 dL_passes_16 rfl ?_
      refine go_aload_n C 3 dL_passes_18 rfl rfl ?_
      refine go_iconst C (v := 0) dL_passes_19 (by decide) ?_
      refine lm_n C vin_0_4 dL_passes_20 ?_
      rw [ck_0]
      refine go_icmp_ge C (tgt := 60) dL_passes_21 (by decide) (fun c_2 => absurd c_2 (by rw [show ls_n (ls_set_e (lPs M t).2 (lEa (lPs M t).2 i)) 0 = nI (lK M) from hn1]; exact nI_ge hi_i (by omega))) (fun c_2 => ?_)
      refine go_aload C 11 dL_passes_24 rfl ?_
      refine go_iload C 0 dL_passes_26 rfl ?_
      refine go_dup2 C dL_passes_28 rfl rfl ?_
      refine lm_e C (vp_in_nI (n := i) (by omega) (by decide)) dL_passes_29 ?_
      rw [cl_nI (i := i) (by omega)]
      refine go_aload_n C 6 dL_passes_30 rfl rfl ?_
      refine go_iload C 0 dL_passes_31 rfl ?_
      refine lm_p C (vp_in_nI (n := i) (by omega) (by decide)) dL_passes_33 ?_
      rw [cl_nI (i := i) (by omega)]
      refine go_if_le C (tgt := 51) dL_passes_34 (by decide) (fun c_3 => ?_) (fun c_3 => ?_)
      · refine go_lconst C (v := 0) dL_passes_51 (by decide) ?_
        refine go_ladd C dL_passes_52 ?_
        refine sm_e C (vp_in_nI (n := i) (by omega) (by decide)) dL_passes_53 ?_
        rw [cl_nI (i := i) (by omega)]
        refine go_iinc C (v := nI (i + 1)) (lo' := [(13, .int (nI (i + 1))), (12, .int (nI t)), (11, .int (lPs M t).1), (0, .ref (a 5)), (1, .ref (a 6)), (2, .ref (a 7)), (3, .ref (a 8)), (4, .ref (a 9)), (5, .ref (a 10)), (6, .ref (a 11)), (7, .ref (a 12)), (8, .ref (a 13)), (9, .ref (a 14)), (10, .int (nI D9))]) 0 dL_passes_54 rfl (nI_1 _) (by decide) rfl ?_
        refine go_goto C (tgt := 16) dL_passes_57 (by decide) ?_
        refine go_lo (lo' := [(13, .int (nI (i + 1))), (12, .int (nI t)), (11, .int (lPs M t).1), (0, .ref (a 5)), (1, .ref (a 6)), (2, .ref (a 7)), (3, .ref (a 8)), (4, .ref (a 9)), (5, .ref (a 10)), (6, .ref (a 11)), (7, .ref (a 12)), (8, .ref (a 13)), (9, .ref (a 14)), (10, .int (nI D9))]) [0, 1, 2, 3, 4, 5, 6, 7, 8, 9, 10, 11, 12, 13] (by rfl) ?_
        refine go_w (w2 := wW cI cJ cO a S (ls_set_e (lPs M t).2 (lEa (lPs M t).2 (i + 1))) ov) (by exact congrArg (fun z => wW cI cJ cO a S z ov) (lEa_0 c_3)) ?_
        exact ih_i trivial
      · refine go_aload_n C 3 dL_passes_37 rfl rfl ?_
        refine go_aload_n C 4 dL_passes_38 rfl rfl ?_
        refine go_aload_n C 5 dL_passes_39 rfl rfl ?_
        refine go_aload_n C 6 dL_passes_40 rfl rfl ?_
        refine go_aload C 10 dL_passes_41 rfl ?_
        refine go_iload C 0 dL_passes_43 rfl ?_
        refine k_RL_27 C S (ls_set_e (lPs M t).2 (lEa (lPs M t).2 i)) ov i (show okL (ls_set_e (lPs M t).2 (lEa (lPs M t).2 i)) from hoA) (by omega) ⟨(Nat.le_of_ble_eq_true rfl), (Nat.le_of_ble_eq_true rfl)⟩ ⟨(Nat.le_of_ble_eq_true rfl), (Nat.le_of_ble_eq_true rfl)⟩ (Nat.le_of_ble_eq_true rfl) dL_passes_45 ?_
        refine go_goto C (tgt := 52) dL_passes_48 (by decide) ?_
        refine go_ladd C dL_passes_52 ?_
        refine sm_e C (vp_in_nI (n := i) (by omega) (by decide)) dL_passes_53 ?_
        rw [cl_nI (i := i) (by omega)]
        refine go_iinc C (v := nI (i + 1)) (lo' := [(13, .int (nI (i + 1))), (12, .int (nI t)), (11, .int (lPs M t).1), (0, .ref (a 5)), (1, .ref (a 6)), (2, .ref (a 7)), (3, .ref (a 8)), (4, .ref (a 9)), (5, .ref (a 10)), (6, .ref (a 11)), (7, .ref (a 12)), (8, .ref (a 13)), (9, .ref (a 14)), (10, .int (nI D9))]) 0 dL_passes_54 rfl (nI_1 _) (by decide) rfl ?_
        refine go_goto C (tgt := 16) dL_passes_57 (by decide) ?_
        refine go_lo (lo' := [(13, .int (nI (i + 1))), (12, .int (nI t)), (11, .int (lPs M t).1), (0, .ref (a 5)), (1, .ref (a 6)), (2, .ref (a 7)), (3, .ref (a 8)), (4, .ref (a 9)), (5, .ref (a 10)), (6, .ref (a 11)), (7, .ref (a 12)), (8, .ref (a 13)), (9, .ref (a 14)), (10, .int (nI D9))]) [0, 1, 2, 3, 4, 5, 6, 7, 8, 9, 10, 11, 12, 13] (by rfl) ?_
        refine go_w (w2 := wW cI cJ cO a S (ls_set_e (lPs M t).2 (lEa (lPs M t).2 (i + 1))) ov) (by exact congrArg (fun z => wW cI cJ cO a S z ov) (lEa_1 c_3)) ?_
        exact ih_i trivial
    · refine go_iload C 0 dL_passes_16 rfl ?_
      refine go_aload_n C 3 dL_passes_18 rfl rfl ?_
      refine go_iconst C (v := 0) dL_passes_19 (by decide) ?_
      refine lm_n C vin_0_4 dL_passes_20 ?_
      rw [ck_0]
      refine go_icmp_ge C (tgt := 60) dL_passes_21 (by decide) (fun c_4 => ?_) (fun c_4 => absurd (by rw [show ls_n (ls_set_e (lPs M t).2 (lEa (lPs M t).2 (lK M))) 0 = nI (lK M) from hn1]; exact nI_le (Nat.le_refl _) (by omega)) c_4)
      refine go_aload_n C 3 dL_passes_60 rfl rfl ?_
      refine go_iconst C (v := 1) dL_passes_61 (by decide) ?_
      refine go_dup2 C dL_passes_62 rfl rfl ?_
      refine lm_n C vin_1_4 dL_passes_63 ?_
      rw [ck_1]
      refine go_iconst C (v := 1) dL_passes_64 (by decide) ?_
      refine go_iadd C dL_passes_65 ?_
      refine sm_n C vin_1_4 dL_passes_66 ?_
      rw [ck_1]
      refine go_w (w2 := wW cI cJ cO a S (lDy (lPs M t).2) ov) (by rw [hKA.symm]; rfl) ?_
      refine go_iconst C (v := 0) dL_passes_67 (by decide) ?_
      refine go_istore C (lo' := [(13, .int 0), (12, .int (nI t)), (11, .int (lPs M t).1), (0, .ref (a 5)), (1, .ref (a 6)), (2, .ref (a 7)), (3, .ref (a 8)), (4, .ref (a 9)), (5, .ref (a 10)), (6, .ref (a 11)), (7, .ref (a 12)), (8, .ref (a 13)), (9, .ref (a 14)), (10, .int (nI D9))]) dL_passes_68 (by decide) rfl ?_
      refine go_for (lK M) (fun i => True) (fun i => wW cI cJ cO a S (lDa (lPs M t).1 (lDy (lPs M t).2) i).2 ov) (fun i => [(13, .int (nI i)), (12, .int (nI t)), (11, .int (lDa (lPs M t).1 (lDy (lPs M t).2) i).1), (0, .ref (a 5)), (1, .ref (a 6)), (2, .ref (a 7)), (3, .ref (a 8)), (4, .ref (a 9)), (5, .ref (a 10)), (6, .ref (a 11)), (7, .ref (a 12)), (8, .ref (a 13)), (9, .ref (a 14)), (10, .int (nI D9))]) ⟨rfl, rfl⟩ trivial (fun i hi_i hI_i ih_i => ?_) (fun hI_i => ?_)
      · have hn2 : ls_n (lDa (lPs M t).1 (lDy (lPs M t).2) i).2 0 = nI (lK M) := (congrFun (fx_lDa (lPs M t).1 (lDy (lPs M t).2) i).1 0).trans hn1
        have hw : vp_in (lOw (lLa (lDa (lPs M t).1 (lDy (lPs M t).2) i).2 i) i) 4 := ow_of (fx_lDa (lPs M t).1 (lDy (lPs M t).2) i).2.1 (hoo2 i (by rw [hKA]; exact hi_i))
        refine go_iload C 0 dL_passes_70 rfl ?_
        refine go_aload_n C 3 dL_passes_72 rfl rfl ?_
        refine go_iconst C (v := 0) dL_passes_73 (by decide) ?_
        refine lm_n C vin_0_4 dL_passes_74 ?_
        rw [ck_0]
        refine go_icmp_ge C (tgt := 323) dL_passes_75 (by decide) (fun c_5 => absurd c_5 (by rw [hn2]; exact nI_ge hi_i (by omega))) (fun c_5 => ?_)
        refine go_join (wW cI cJ cO a S (lLa (lDa (lPs M t).1 (lDy (lPs M t).2) i).2 i) ov) 123 [(13, .int (nI i)), (12, .int (nI t)), (11, .int (lDa (lPs M t).1 (lDy (lPs M t).2) i).1), (0, .ref (a 5)), (1, .ref (a 6)), (2, .ref (a 7)), (3, .ref (a 8)), (4, .ref (a 9)), (5, .ref (a 10)), (6, .ref (a 11)), (7, .ref (a 12)), (8, .ref (a 13)), (9, .ref (a 14)), (10, .int (nI D9))] [] ?_ (fun G_6 => ?_)
        · refine go_aload_n C 6 dL_passes_123 rfl rfl ?_
          refine go_iload C 0 dL_passes_124 rfl ?_
          refine lm_p C (vp_in_nI (n := i) (by omega) (by decide)) dL_passes_126 ?_
          rw [cl_nI (i := i) (by omega)]
          refine go_if_le C (tgt := 317) dL_passes_127 (by decide) (fun c_7 => ?_) (fun c_7 => ?_)
          · have e8 : lDc (lDa (lPs M t).1 (lDy (lPs M t).2) i).1 (lLa (lDa (lPs M t).1 (lDy (lPs M t).2) i).2 i) i = (lDa (lPs M t).1 (lDy (lPs M t).2) i).1 := by simp only [lDc, if_pos c_7]
            have e8b : (lLa (lDa (lPs M t).1 (lDy (lPs M t).2) i).2 i) = lDs (lLa (lDa (lPs M t).1 (lDy (lPs M t).2) i).2 i) i := by rw [lDs, if_pos c_7]
            refine go_w (w2 := wW cI cJ cO a S (lDs (lLa (lDa (lPs M t).1 (lDy (lPs M t).2) i).2 i) i) ov) (congrArg (fun z => wW cI cJ cO a S z ov) e8b) ?_
            refine go_iinc C (v := nI (i + 1)) (lo' := [(13, .int (nI (i + 1))), (12, .int (nI t)), (11, .int (lDa (lPs M t).1 (lDy (lPs M t).2) i).1), (0, .ref (a 5)), (1, .ref (a 6)), (2, .ref (a 7)), (3, .ref (a 8)), (4, .ref (a 9)), (5, .ref (a 10)), (6, .ref (a 11)), (7, .ref (a 12)), (8, .ref (a 13)), (9, .ref (a 14)), (10, .int (nI D9))]) 0 dL_passes_317 rfl (nI_1 _) (by decide) rfl ?_
            refine go_goto C (tgt := 70) dL_passes_320 (by decide) ?_
            refine go_lo (lo' := [(13, .int (nI (i + 1))), (12, .int (nI t)), (11, .int (lDa (lPs M t).1 (lDy (lPs M t).2) (i + 1)).1), (0, .ref (a 5)), (1, .ref (a 6)), (2, .ref (a 7)), (3, .ref (a 8)), (4, .ref (a 9)), (5, .ref (a 10)), (6, .ref (a 11)), (7, .ref (a 12)), (8, .ref (a 13)), (9, .ref (a 14)), (10, .int (nI D9))]) [0, 1, 2, 3, 4, 5, 6, 7, 8, 9, 10, 11, 12, 13] (by rw [← e8]; rfl) ?_
            refine go_w (w2 := wW cI cJ cO a S (lDa (lPs M t).1 (lDy (lPs M t).2) (i + 1)).2 ov) (by rfl) ?_
            exact ih_i trivial
          · refine go_aload_n C 5 dL_passes_130 rfl rfl ?_
            refine go_iload C 0 dL_passes_131 rfl ?_
            refine lm_c C (vp_in_nI (n := i) (by omega) (by decide)) dL_passes_133 ?_
            rw [cl_nI (i := i) (by omega)]
            refine go_bipush C (v := 10) dL_passes_134 (by decide) ?_
            refine go_icmp_lt C (tgt := 317) dL_passes_136 (by decide) (fun c_9 => ?_) (fun c_9 => ?_)
            · have e10 : lDc (lDa (lPs M t).1 (lDy (lPs M t).2) i).1 (lLa (lDa (lPs M t).1 (lDy (lPs M t).2) i).2 i) i = (lDa (lPs M t).1 (lDy (lPs M t).2) i).1 := by simp only [lDc, if_neg c_7, if_pos c_9]
              have e10b : (lLa (lDa (lPs M t).1 (lDy (lPs M t).2) i).2 i) = lDs (lLa (lDa (lPs M t).1 (lDy (lPs M t).2) i).2 i) i := by rw [lDs, if_neg c_7, if_pos c_9]
              refine go_w (w2 := wW cI cJ cO a S (lDs (lLa (lDa (lPs M t).1 (lDy (lPs M t).2) i).2 i) i) ov) (congrArg (fun z => wW cI cJ cO a S z ov) e10b) ?_
              refine go_iinc C (v := nI (i + 1)) (lo' := [(13, .int (nI (i + 1))), (12, .int (nI t)), (11, .int (lDa (lPs M t).1 (lDy (lPs M t).2) i).1), (0, .ref (a 5)), (1, .ref (a 6)), (2, .ref (a 7)), (3, .ref (a 8)), (4, .ref (a 9)), (5, .ref (a 10)), (6, .ref (a 11)), (7, .ref (a 12)), (8, .ref (a 13)), (9, .ref (a 14)), (10, .int (nI D9))]) 0 dL_passes_317 rfl (nI_1 _) (by decide) rfl ?_
              refine go_goto C (tgt := 70) dL_passes_320 (by decide) ?_
              refine go_lo (lo' := [(13, .int (nI (i + 1))), (12, .int (nI t)), (11, .int (lDa (lPs M t).1 (lDy (lPs M t).2) (i + 1)).1), (0, .ref (a 5)), (1, .ref (a 6)), (2, .ref (a 7)), (3, .ref (a 8)), (4, .ref (a 9)), (5, .ref (a 10)), (6, .ref (a 11)), (7, .ref (a 12)), (8, .ref (a 13)), (9, .ref (a 14)), (10, .int (nI D9))]) [0, 1, 2, 3, 4, 5, 6, 7, 8, 9, 10, 11, 12, 13] (by rw [← e10]; rfl) ?_
              refine go_w (w2 := wW cI cJ cO a S (lDa (lPs M t).1 (lDy (lPs M t).2) (i + 1)).2 ov) (by rfl) ?_
              exact ih_i trivial
            · refine go_aload C 8 dL_passes_139 rfl ?_
              refine go_iload C 0 dL_passes_141 rfl ?_
              refine lm_t C (vp_in_nI (n := i) (by omega) (by decide)) dL_passes_143 ?_
              rw [cl_nI (i := i) (by omega)]
              refine go_aload_n C 3 dL_passes_144 rfl rfl ?_
              refine go_iconst C (v := 1) dL_passes_145 (by decide) ?_
              refine lm_n C vin_1_4 dL_passes_146 ?_
              rw [ck_1]
              refine go_icmp_ne C (tgt := 317) dL_passes_147 (by decide) (fun c_11 => ?_) (fun c_11 => ?_)
              · have e12 : lDc (lDa (lPs M t).1 (lDy (lPs M t).2) i).1 (lLa (lDa (lPs M t).1 (lDy (lPs M t).2) i).2 i) i = (lDa (lPs M t).1 (lDy (lPs M t).2) i).1 := by simp only [lDc, if_neg c_7, if_neg c_9, if_neg c_11]
                have e12b : (lLa (lDa (lPs M t).1 (lDy (lPs M t).2) i).2 i) = lDs (lLa (lDa (lPs M t).1 (lDy (lPs M t).2) i).2 i) i := by rw [lDs, if_neg c_7, if_neg c_9, if_neg c_11]
                refine go_w (w2 := wW cI cJ cO a S (lDs (lLa (lDa (lPs M t).1 (lDy (lPs M t).2) i).2 i) i) ov) (congrArg (fun z => wW cI cJ cO a S z ov) e12b) ?_
                refine go_iinc C (v := nI (i + 1)) (lo' := [(13, .int (nI (i + 1))), (12, .int (nI t)), (11, .int (lDa (lPs M t).1 (lDy (lPs M t).2) i).1), (0, .ref (a 5)), (1, .ref (a 6)), (2, .ref (a 7)), (3, .ref (a 8)), (4, .ref (a 9)), (5, .ref (a 10)), (6, .ref (a 11)), (7, .ref (a 12)), (8, .ref (a 13)), (9, .ref (a 14)), (10, .int (nI D9))]) 0 dL_passes_317 rfl (nI_1 _) (by decide) rfl ?_
                refine go_goto C (tgt := 70) dL_passes_320 (by decide) ?_
                refine go_lo (lo' := [(13, .int (nI (i + 1))), (12, .int (nI t)), (11, .int (lDa (lPs M t).1 (lDy (lPs M t).2) (i + 1)).1), (0, .ref (a 5)), (1, .ref (a 6)), (2, .ref (a 7)), (3, .ref (a 8)), (4, .ref (a 9)), (5, .ref (a 10)), (6, .ref (a 11)), (7, .ref (a 12)), (8, .ref (a 13)), (9, .ref (a 14)), (10, .int (nI D9))]) [0, 1, 2, 3, 4, 5, 6, 7, 8, 9, 10, 11, 12, 13] (by rw [← e12]; rfl) ?_
                refine go_w (w2 := wW cI cJ cO a S (lDa (lPs M t).1 (lDy (lPs M t).2) (i + 1)).2 ov) (by rfl) ?_
                exact ih_i trivial
              · refine go_iinc C (v := (lDa (lPs M t).1 (lDy (lPs M t).2) i).1 + 1) (lo' := [(11, .int ((lDa (lPs M t).1 (lDy (lPs M t).2) i).1 + 1)), (13, .int (nI i)), (12, .int (nI t)), (0, .ref (a 5)), (1, .ref (a 6)), (2, .ref (a 7)), (3, .ref (a 8)), (4, .ref (a 9)), (5, .ref (a 10)), (6, .ref (a 11)), (7, .ref (a 12)), (8, .ref (a 13)), (9, .ref (a 14)), (10, .int (nI D9))]) 2 dL_passes_150 rfl rfl (by decide) rfl ?_
                refine go_aload_n C 5 dL_passes_153 rfl rfl ?_
                refine go_iload C 1 dL_passes_154 rfl ?_
                refine lm_c C (vp_in_nI (n := i) (by omega) (by decide)) dL_passes_156 ?_
                rw [cl_nI (i := i) (by omega)]
                refine go_bipush C (v := 10) dL_passes_157 (by decide) ?_
                refine go_irem C dL_passes_159 (by decide) ?_
                refine go_st (st2 := [.int (lOw (lLa (lDa (lPs M t).1 (lDy (lPs M t).2) i).2 i) i)]) rfl ?_
                refine go_istore C (lo' := [(14, .int (lOw (lLa (lDa (lPs M t).1 (lDy (lPs M t).2) i).2 i) i)), (11, .int ((lDa (lPs M t).1 (lDy (lPs M t).2) i).1 + 1)), (13, .int (nI i)), (12, .int (nI t)), (0, .ref (a 5)), (1, .ref (a 6)), (2, .ref (a 7)), (3, .ref (a 8)), (4, .ref (a 9)), (5, .ref (a 10)), (6, .ref (a 11)), (7, .ref (a 12)), (8, .ref (a 13)), (9, .ref (a 14)), (10, .int (nI D9))]) dL_passes_160 (by decide) rfl ?_
                refine go_aload C 10 dL_passes_162 rfl ?_
                refine go_iconst C (v := 3) dL_passes_164 (by decide) ?_
                refine go_iload C 2 dL_passes_165 rfl ?_
                refine go_imul C dL_passes_167 ?_
                refine go_st (st2 := [.int (nI (3 * i)), .ref (a 11)]) (by rw [i3m]) ?_
                refine go_iconst C (v := 1) dL_passes_168 (by decide) ?_
                refine go_iadd C dL_passes_169 ?_
                refine go_st (st2 := [.int (nI (3 * i + 1)), .ref (a 11)]) (by rw [show (1 : Int32) = nI 1 from rfl, nI_add]) ?_
                refine lm_d C (vp_in_nI (n := 3 * i + 1) (by omega) (by decide)) dL_passes_170 ?_
                rw [cl_nI (i := 3 * i + 1) (by omega)]
                refine go_istore C (lo' := [(15, .int (ls_d (lLa (lDa (lPs M t).1 (lDy (lPs M t).2) i).2 i) (3 * i + 1))), (14, .int (lOw (lLa (lDa (lPs M t).1 (lDy (lPs M t).2) i).2 i) i)), (11, .int ((lDa (lPs M t).1 (lDy (lPs M t).2) i).1 + 1)), (13, .int (nI i)), (12, .int (nI t)), (0, .ref (a 5)), (1, .ref (a 6)), (2, .ref (a 7)), (3, .ref (a 8)), (4, .ref (a 9)), (5, .ref (a 10)), (6, .ref (a 11)), (7, .ref (a 12)), (8, .ref (a 13)), (9, .ref (a 14)), (10, .int (nI D9))]) dL_passes_171 (by decide) rfl ?_
                refine go_iload C 0 dL_passes_173 rfl ?_
                refine go_if_ne C (tgt := 207) dL_passes_175 (by decide) (fun c_13 => ?_) (fun c_13 => ?_)
                · refine go_aload C 13 dL_passes_207 rfl ?_
                  refine go_iload C 3 dL_passes_209 rfl ?_
                  refine lm_e C (vp_in_nI (n := i) (by omega) (by decide)) dL_passes_211 ?_
                  rw [cl_nI (i := i) (by omega)]
                  refine go_ldc2 C bk_RL_25 dL_passes_212 ?_
                  refine go_ldiv C dL_passes_215 (by decide) ?_
                  refine go_l2i C dL_passes_216 ?_
                  refine go_st (st2 := [.int (lEnC (lLa (lDa (lPs M t).1 (lDy (lPs M t).2) i).2 i) i)]) rfl ?_
                  refine go_istore C (lo' := [(16, .int (lEnC (lLa (lDa (lPs M t).1 (lDy (lPs M t).2) i).2 i) i)), (15, .int (ls_d (lLa (lDa (lPs M t).1 (lDy (lPs M t).2) i).2 i) (3 * i + 1))), (14, .int (lOw (lLa (lDa (lPs M t).1 (lDy (lPs M t).2) i).2 i) i)), (11, .int ((lDa (lPs M t).1 (lDy (lPs M t).2) i).1 + 1)), (13, .int (nI i)), (12, .int (nI t)), (0, .ref (a 5)), (1, .ref (a 6)), (2, .ref (a 7)), (3, .ref (a 8)), (4, .ref (a 9)), (5, .ref (a 10)), (6, .ref (a 11)), (7, .ref (a 12)), (8, .ref (a 13)), (9, .ref (a 14)), (10, .int (nI D9))]) dL_passes_217 (by decide) rfl ?_
                  refine go_aload C 14 dL_passes_219 rfl ?_
                  refine go_iload C 4 dL_passes_221 rfl ?_
                  refine go_dup2 C dL_passes_223 rfl rfl ?_
                  refine lm_e C (vp_in_nI (n := i) (by omega) (by decide)) dL_passes_224 ?_
                  rw [cl_nI (i := i) (by omega)]
                  refine go_iload C 0 dL_passes_225 rfl ?_
                  refine go_i2l C dL_passes_227 ?_
                  refine go_ldc2 C bk_RL_25 dL_passes_228 ?_
                  refine go_lmul C dL_passes_231 ?_
                  refine go_lsub C dL_passes_232 ?_
                  refine sm_e C (vp_in_nI (n := i) (by omega) (by decide)) dL_passes_233 ?_
                  rw [cl_nI (i := i) (by omega)]
                  refine go_w (w2 := wW cI cJ cO a S (lEr1 (lLa (lDa (lPs M t).1 (lDy (lPs M t).2) i).2 i) i) ov) rfl ?_
                  refine go_aload C 15 dL_passes_234 rfl ?_
                  refine go_iload C 2 dL_passes_236 rfl ?_
                  refine go_dup2 C dL_passes_238 rfl rfl ?_
                  refine lm_g C (vin_8 hw) dL_passes_239 ?_
                  refine go_join (wW cI cJ cO a S (lEr1 (lLa (lDa (lPs M t).1 (lDy (lPs M t).2) i).2 i) i) ov) 253 [(16, .int (lEnC (lLa (lDa (lPs M t).1 (lDy (lPs M t).2) i).2 i) i)), (15, .int (ls_d (lLa (lDa (lPs M t).1 (lDy (lPs M t).2) i).2 i) (3 * i + 1))), (14, .int (lOw (lLa (lDa (lPs M t).1 (lDy (lPs M t).2) i).2 i) i)), (11, .int ((lDa (lPs M t).1 (lDy (lPs M t).2) i).1 + 1)), (13, .int (nI i)), (12, .int (nI t)), (0, .ref (a 5)), (1, .ref (a 6)), (2, .ref (a 7)), (3, .ref (a 8)), (4, .ref (a 9)), (5, .ref (a 10)), (6, .ref (a 11)), (7, .ref (a 12)), (8, .ref (a 13)), (9, .ref (a 14)), (10, .int (nI D9))] [.long (if ls_d (lLa (lDa (lPs M t).1 (lDy (lPs M t).2) i).2 i) (3 * i + 1) = 1 then Int32.toInt64 (lEnC (lLa (lDa (lPs M t).1 (lDy (lPs M t).2) i).2 i) i) else 0), .long (ls_g (lEr1 (lLa (lDa (lPs M t).1 (lDy (lPs M t).2) i).2 i) i) (Int32.toNatClampNeg (lOw (lLa (lDa (lPs M t).1 (lDy (lPs M t).2) i).2 i) i))), .int (lOw (lLa (lDa (lPs M t).1 (lDy (lPs M t).2) i).2 i) i), .ref (a 14)] ?_ (fun G_14 => ?_)
                  · refine go_ladd C dL_passes_253 ?_
                    refine sm_g C (vin_8 hw) dL_passes_254 ?_
                    refine go_w (w2 := wW cI cJ cO a S (lEr2 (lEr1 (lLa (lDa (lPs M t).1 (lDy (lPs M t).2) i).2 i) i) i (lEnC (lLa (lDa (lPs M t).1 (lDy (lPs M t).2) i).2 i) i)) ov) rfl ?_
                    refine go_aload_n C 9 dL_passes_255 rfl rfl ?_
                    refine go_iload C 4 dL_passes_256 rfl ?_
                    refine go_dup2 C dL_passes_258 rfl rfl ?_
                    refine lm_p C (vp_in_nI (n := i) (by omega) (by decide)) dL_passes_259 ?_
                    rw [cl_nI (i := i) (by omega)]
                    refine go_join (wW cI cJ cO a S (lEr2 (lEr1 (lLa (lDa (lPs M t).1 (lDy (lPs M t).2) i).2 i) i) i (lEnC (lLa (lDa (lPs M t).1 (lDy (lPs M t).2) i).2 i) i)) ov) 272 [(16, .int (lEnC (lLa (lDa (lPs M t).1 (lDy (lPs M t).2) i).2 i) i)), (15, .int (ls_d (lLa (lDa (lPs M t).1 (lDy (lPs M t).2) i).2 i) (3 * i + 1))), (14, .int (lOw (lLa (lDa (lPs M t).1 (lDy (lPs M t).2) i).2 i) i)), (11, .int ((lDa (lPs M t).1 (lDy (lPs M t).2) i).1 + 1)), (13, .int (nI i)), (12, .int (nI t)), (0, .ref (a 5)), (1, .ref (a 6)), (2, .ref (a 7)), (3, .ref (a 8)), (4, .ref (a 9)), (5, .ref (a 10)), (6, .ref (a 11)), (7, .ref (a 12)), (8, .ref (a 13)), (9, .ref (a 14)), (10, .int (nI D9))] [.int (if ls_d (lLa (lDa (lPs M t).1 (lDy (lPs M t).2) i).2 i) (3 * i + 1) = 2 then lEnC (lLa (lDa (lPs M t).1 (lDy (lPs M t).2) i).2 i) i else 0), .int (ls_p (lEr2 (lEr1 (lLa (lDa (lPs M t).1 (lDy (lPs M t).2) i).2 i) i) i (lEnC (lLa (lDa (lPs M t).1 (lDy (lPs M t).2) i).2 i) i)) i), .int (nI i), .ref (a 8)] ?_ (fun G_15 => ?_)
                    · refine go_iadd C dL_passes_272 ?_
                      refine sm_p C (vp_in_nI (n := i) (by omega) (by decide)) dL_passes_273 ?_
                      rw [cl_nI (i := i) (by omega)]
                      refine go_w (w2 := wW cI cJ cO a S (lEr3 (lEr2 (lEr1 (lLa (lDa (lPs M t).1 (lDy (lPs M t).2) i).2 i) i) i (lEnC (lLa (lDa (lPs M t).1 (lDy (lPs M t).2) i).2 i) i)) i (lEnC (lLa (lDa (lPs M t).1 (lDy (lPs M t).2) i).2 i) i)) ov) rfl ?_
                      refine go_aload C 11 dL_passes_274 rfl ?_
                      refine go_iload C 4 dL_passes_276 rfl ?_
                      refine go_aload_n C 6 dL_passes_278 rfl rfl ?_
                      refine go_iconst C (v := 1) dL_passes_279 (by decide) ?_
                      refine lm_n C vin_1_4 dL_passes_280 ?_
                      rw [ck_1]
                      refine go_aload C 12 dL_passes_281 rfl ?_
                      refine go_iconst C (v := 3) dL_passes_283 (by decide) ?_
                      refine go_iload C 4 dL_passes_284 rfl ?_
                      refine go_imul C dL_passes_286 ?_
                      refine go_st (st2 := [.int (nI (3 * i)), .ref (a 11), .int (ls_n (lEr3 (lEr2 (lEr1 (lLa (lDa (lPs M t).1 (lDy (lPs M t).2) i).2 i) i) i (lEnC (lLa (lDa (lPs M t).1 (lDy (lPs M t).2) i).2 i) i)) i (lEnC (lLa (lDa (lPs M t).1 (lDy (lPs M t).2) i).2 i) i)) 1), .int (nI i), .ref (a 10)]) (by rw [i3m]) ?_
                      refine lm_d C (vp_in_nI (n := 3 * i) (by omega) (by decide)) dL_passes_287 ?_
                      rw [cl_nI (i := 3 * i) (by omega)]
                      refine go_iadd C dL_passes_288 ?_
                      refine sm_t C (vp_in_nI (n := i) (by omega) (by decide)) dL_passes_289 ?_
                      rw [cl_nI (i := i) (by omega)]
                      refine go_w (w2 := wW cI cJ cO a S (lEr4 (lEr3 (lEr2 (lEr1 (lLa (lDa (lPs M t).1 (lDy (lPs M t).2) i).2 i) i) i (lEnC (lLa (lDa (lPs M t).1 (lDy (lPs M t).2) i).2 i) i)) i (lEnC (lLa (lDa (lPs M t).1 (lDy (lPs M t).2) i).2 i) i)) i) ov) rfl ?_
                      refine go_aload C 12 dL_passes_290 rfl ?_
                      refine go_iconst C (v := 3) dL_passes_292 (by decide) ?_
                      refine go_iload C 4 dL_passes_293 rfl ?_
                      refine go_imul C dL_passes_295 ?_
                      refine go_st (st2 := [.int (nI (3 * i)), .ref (a 11)]) (by rw [i3m]) ?_
                      refine go_iconst C (v := 2) dL_passes_296 (by decide) ?_
                      refine go_iadd C dL_passes_297 ?_
                      refine go_st (st2 := [.int (nI (3 * i + 2)), .ref (a 11)]) (by rw [show (2 : Int32) = nI 2 from rfl, nI_add]) ?_
                      refine go_aload_n C 6 dL_passes_298 rfl rfl ?_
                      refine go_iconst C (v := 1) dL_passes_299 (by decide) ?_
                      refine lm_n C vin_1_4 dL_passes_300 ?_
                      rw [ck_1]
                      refine sm_d C (vp_in_nI (n := 3 * i + 2) (by omega) (by decide)) dL_passes_301 ?_
                      rw [cl_nI (i := 3 * i + 2) (by omega)]
                      refine go_w (w2 := wW cI cJ cO a S (lEr5 (lEr4 (lEr3 (lEr2 (lEr1 (lLa (lDa (lPs M t).1 (lDy (lPs M t).2) i).2 i) i) i (lEnC (lLa (lDa (lPs M t).1 (lDy (lPs M t).2) i).2 i) i)) i (lEnC (lLa (lDa (lPs M t).1 (lDy (lPs M t).2) i).2 i) i)) i) i) ov) rfl ?_
                      refine go_aload C 13 dL_passes_302 rfl ?_
                      refine go_iload C 4 dL_passes_304 rfl ?_
                      refine go_aload_n C 9 dL_passes_306 rfl rfl ?_
                      refine go_iload C 4 dL_passes_307 rfl ?_
                      refine lm_p C (vp_in_nI (n := i) (by omega) (by decide)) dL_passes_309 ?_
                      rw [cl_nI (i := i) (by omega)]
                      refine go_i2l C dL_passes_310 ?_
                      refine go_aload_n C 6 dL_passes_311 rfl rfl ?_
                      refine go_iconst C (v := 3) dL_passes_312 (by decide) ?_
                      refine lm_n C vin_3_4 dL_passes_313 ?_
                      rw [ck_3]
                      refine go_i2l C dL_passes_314 ?_
                      refine go_lmul C dL_passes_315 ?_
                      refine sm_w C (vp_in_nI (n := i) (by omega) (by decide)) dL_passes_316 ?_
                      rw [cl_nI (i := i) (by omega)]
                      have e16 : lDc (lDa (lPs M t).1 (lDy (lPs M t).2) i).1 (lLa (lDa (lPs M t).1 (lDy (lPs M t).2) i).2 i) i = (lDa (lPs M t).1 (lDy (lPs M t).2) i).1 + 1 := by simp only [lDc, if_neg c_7, if_neg c_9, if_pos c_11]
                      refine go_w (w2 := wW cI cJ cO a S (lEr6 (lEr5 (lEr4 (lEr3 (lEr2 (lEr1 (lLa (lDa (lPs M t).1 (lDy (lPs M t).2) i).2 i) i) i (lEnC (lLa (lDa (lPs M t).1 (lDy (lPs M t).2) i).2 i) i)) i (lEnC (lLa (lDa (lPs M t).1 (lDy (lPs M t).2) i).2 i) i)) i) i) i) ov) rfl ?_
                      have e16b : lEr6 (lEr5 (lEr4 (lEr3 (lEr2 (lEr1 (lLa (lDa (lPs M t).1 (lDy (lPs M t).2) i).2 i) i) i (lEnC (lLa (lDa (lPs M t).1 (lDy (lPs M t).2) i).2 i) i)) i (lEnC (lLa (lDa (lPs M t).1 (lDy (lPs M t).2) i).2 i) i)) i) i) i = lDs (lLa (lDa (lPs M t).1 (lDy (lPs M t).2) i).2 i) i := ((lDs_e c_7 c_9 c_11).trans (lEt_1 c_13)).symm
                      refine go_w (w2 := wW cI cJ cO a S (lDs (lLa (lDa (lPs M t).1 (lDy (lPs M t).2) i).2 i) i) ov) (congrArg (fun z => wW cI cJ cO a S z ov) e16b) ?_
                      refine go_iinc C (v := nI (i + 1)) (lo' := [(13, .int (nI (i + 1))), (16, .int (lEnC (lLa (lDa (lPs M t).1 (lDy (lPs M t).2) i).2 i) i)), (15, .int (ls_d (lLa (lDa (lPs M t).1 (lDy (lPs M t).2) i).2 i) (3 * i + 1))), (14, .int (lOw (lLa (lDa (lPs M t).1 (lDy (lPs M t).2) i).2 i) i)), (11, .int ((lDa (lPs M t).1 (lDy (lPs M t).2) i).1 + 1)), (12, .int (nI t)), (0, .ref (a 5)), (1, .ref (a 6)), (2, .ref (a 7)), (3, .ref (a 8)), (4, .ref (a 9)), (5, .ref (a 10)), (6, .ref (a 11)), (7, .ref (a 12)), (8, .ref (a 13)), (9, .ref (a 14)), (10, .int (nI D9))]) 4 dL_passes_317 rfl (nI_1 _) (by decide) rfl ?_
                      refine go_goto C (tgt := 70) dL_passes_320 (by decide) ?_
                      refine go_lo (lo' := [(13, .int (nI (i + 1))), (12, .int (nI t)), (11, .int (lDa (lPs M t).1 (lDy (lPs M t).2) (i + 1)).1), (0, .ref (a 5)), (1, .ref (a 6)), (2, .ref (a 7)), (3, .ref (a 8)), (4, .ref (a 9)), (5, .ref (a 10)), (6, .ref (a 11)), (7, .ref (a 12)), (8, .ref (a 13)), (9, .ref (a 14)), (10, .int (nI D9))]) [0, 5, 4, 6, 7, 8, 9, 10, 11, 12, 13, 14, 15, 16] (by rw [← e16]; rfl) ?_
                      refine go_w (w2 := wW cI cJ cO a S (lDa (lPs M t).1 (lDy (lPs M t).2) (i + 1)).2 ov) (by rfl) ?_
                      exact ih_i trivial
                    · refine go_iload C 1 dL_passes_260 rfl ?_
                      refine go_iconst C (v := 2) dL_passes_262 (by decide) ?_
                      refine go_icmp_ne C (tgt := 271) dL_passes_263 (by decide) (fun c_17 => ?_) (fun c_17 => ?_)
                      · refine go_iconst C (v := 0) dL_passes_271 (by decide) ?_
                        refine go_st (st2 := [.int (if ls_d (lLa (lDa (lPs M t).1 (lDy (lPs M t).2) i).2 i) (3 * i + 1) = 2 then lEnC (lLa (lDa (lPs M t).1 (lDy (lPs M t).2) i).2 i) i else 0), .int (ls_p (lEr2 (lEr1 (lLa (lDa (lPs M t).1 (lDy (lPs M t).2) i).2 i) i) i (lEnC (lLa (lDa (lPs M t).1 (lDy (lPs M t).2) i).2 i) i)) i), .int (nI i), .ref (a 8)]) (by rw [if_neg c_17]) ?_
                        exact G_15
                      · refine go_iload C 0 dL_passes_266 rfl ?_
                        refine go_goto C (tgt := 272) dL_passes_268 (by decide) ?_
                        refine go_st (st2 := [.int (if ls_d (lLa (lDa (lPs M t).1 (lDy (lPs M t).2) i).2 i) (3 * i + 1) = 2 then lEnC (lLa (lDa (lPs M t).1 (lDy (lPs M t).2) i).2 i) i else 0), .int (ls_p (lEr2 (lEr1 (lLa (lDa (lPs M t).1 (lDy (lPs M t).2) i).2 i) i) i (lEnC (lLa (lDa (lPs M t).1 (lDy (lPs M t).2) i).2 i) i)) i), .int (nI i), .ref (a 8)]) (by rw [if_pos c_17]) ?_
                        exact G_15
                  · refine go_iload C 1 dL_passes_240 rfl ?_
                    refine go_iconst C (v := 1) dL_passes_242 (by decide) ?_
                    refine go_icmp_ne C (tgt := 252) dL_passes_243 (by decide) (fun c_18 => ?_) (fun c_18 => ?_)
                    · refine go_lconst C (v := 0) dL_passes_252 (by decide) ?_
                      refine go_st (st2 := [.long (if ls_d (lLa (lDa (lPs M t).1 (lDy (lPs M t).2) i).2 i) (3 * i + 1) = 1 then Int32.toInt64 (lEnC (lLa (lDa (lPs M t).1 (lDy (lPs M t).2) i).2 i) i) else 0), .long (ls_g (lEr1 (lLa (lDa (lPs M t).1 (lDy (lPs M t).2) i).2 i) i) (Int32.toNatClampNeg (lOw (lLa (lDa (lPs M t).1 (lDy (lPs M t).2) i).2 i) i))), .int (lOw (lLa (lDa (lPs M t).1 (lDy (lPs M t).2) i).2 i) i), .ref (a 14)]) (by rw [if_neg c_18]) ?_
                      exact G_14
                    · refine go_iload C 0 dL_passes_246 rfl ?_
                      refine go_i2l C dL_passes_248 ?_
                      refine go_goto C (tgt := 253) dL_passes_249 (by decide) ?_
                      refine go_st (st2 := [.long (if ls_d (lLa (lDa (lPs M t).1 (lDy (lPs M t).2) i).2 i) (3 * i + 1) = 1 then Int32.toInt64 (lEnC (lLa (lDa (lPs M t).1 (lDy (lPs M t).2) i).2 i) i) else 0), .long (ls_g (lEr1 (lLa (lDa (lPs M t).1 (lDy (lPs M t).2) i).2 i) i) (Int32.toNatClampNeg (lOw (lLa (lDa (lPs M t).1 (lDy (lPs M t).2) i).2 i) i))), .int (lOw (lLa (lDa (lPs M t).1 (lDy (lPs M t).2) i).2 i) i), .ref (a 14)]) (by rw [if_pos c_18]) ?_
                      exact G_14
                · refine go_aload C 14 dL_passes_178 rfl ?_
                  refine go_iload C 1 dL_passes_180 rfl ?_
                  refine go_dup2 C dL_passes_182 rfl rfl ?_
                  refine lm_g C (vin_8 hw) dL_passes_183 ?_
                  refine go_aload_n C 8 dL_passes_184 rfl rfl ?_
                  refine go_iload C 3 dL_passes_185 rfl ?_
                  refine lm_p C (vp_in_nI (n := i) (by omega) (by decide)) dL_passes_187 ?_
                  rw [cl_nI (i := i) (by omega)]
                  refine go_i2l C dL_passes_188 ?_
                  refine go_ladd C dL_passes_189 ?_
                  refine sm_g C (vin_8 hw) dL_passes_190 ?_
                  refine go_w (w2 := wW cI cJ cO a S (lEp (lLa (lDa (lPs M t).1 (lDy (lPs M t).2) i).2 i) i) ov) rfl ?_
                  refine go_aload_n C 7 dL_passes_191 rfl rfl ?_
                  refine go_aload_n C 8 dL_passes_192 rfl rfl ?_
                  refine go_aload C 13 dL_passes_193 rfl ?_
                  refine go_aload C 14 dL_passes_195 rfl ?_
                  refine go_iload C 3 dL_passes_197 rfl ?_
                  refine k_RL_33 C S (lEp (lLa (lDa (lPs M t).1 (lDy (lPs M t).2) i).2 i) i) ov i (by omega) hw ⟨(Nat.le_of_ble_eq_true rfl), (Nat.le_of_ble_eq_true rfl)⟩ ⟨(Nat.le_of_ble_eq_true rfl), (Nat.le_of_ble_eq_true rfl)⟩ (Nat.le_of_ble_eq_true rfl) dL_passes_199 ?_
                  refine go_istore C (lo' := [(16, .int (lEnC (lEp (lLa (lDa (lPs M t).1 (lDy (lPs M t).2) i).2 i) i) i)), (15, .int (ls_d (lLa (lDa (lPs M t).1 (lDy (lPs M t).2) i).2 i) (3 * i + 1))), (14, .int (lOw (lLa (lDa (lPs M t).1 (lDy (lPs M t).2) i).2 i) i)), (11, .int ((lDa (lPs M t).1 (lDy (lPs M t).2) i).1 + 1)), (13, .int (nI i)), (12, .int (nI t)), (0, .ref (a 5)), (1, .ref (a 6)), (2, .ref (a 7)), (3, .ref (a 8)), (4, .ref (a 9)), (5, .ref (a 10)), (6, .ref (a 11)), (7, .ref (a 12)), (8, .ref (a 13)), (9, .ref (a 14)), (10, .int (nI D9))]) dL_passes_202 (by decide) rfl ?_
                  refine go_goto C (tgt := 317) dL_passes_204 (by decide) ?_
                  have e19 : lDc (lDa (lPs M t).1 (lDy (lPs M t).2) i).1 (lLa (lDa (lPs M t).1 (lDy (lPs M t).2) i).2 i) i = (lDa (lPs M t).1 (lDy (lPs M t).2) i).1 + 1 := by simp only [lDc, if_neg c_7, if_neg c_9, if_pos c_11]
                  have e19b : lEn (lEp (lLa (lDa (lPs M t).1 (lDy (lPs M t).2) i).2 i) i) i = lDs (lLa (lDa (lPs M t).1 (lDy (lPs M t).2) i).2 i) i := ((lDs_e c_7 c_9 c_11).trans (lEt_0 c_13)).symm
                  refine go_w (w2 := wW cI cJ cO a S (lDs (lLa (lDa (lPs M t).1 (lDy (lPs M t).2) i).2 i) i) ov) (congrArg (fun z => wW cI cJ cO a S z ov) e19b) ?_
                  refine go_iinc C (v := nI (i + 1)) (lo' := [(13, .int (nI (i + 1))), (16, .int (lEnC (lEp (lLa (lDa (lPs M t).1 (lDy (lPs M t).2) i).2 i) i) i)), (15, .int (ls_d (lLa (lDa (lPs M t).1 (lDy (lPs M t).2) i).2 i) (3 * i + 1))), (14, .int (lOw (lLa (lDa (lPs M t).1 (lDy (lPs M t).2) i).2 i) i)), (11, .int ((lDa (lPs M t).1 (lDy (lPs M t).2) i).1 + 1)), (12, .int (nI t)), (0, .ref (a 5)), (1, .ref (a 6)), (2, .ref (a 7)), (3, .ref (a 8)), (4, .ref (a 9)), (5, .ref (a 10)), (6, .ref (a 11)), (7, .ref (a 12)), (8, .ref (a 13)), (9, .ref (a 14)), (10, .int (nI D9))]) 4 dL_passes_317 rfl (nI_1 _) (by decide) rfl ?_
                  refine go_goto C (tgt := 70) dL_passes_320 (by decide) ?_
                  refine go_lo (lo' := [(13, .int (nI (i + 1))), (12, .int (nI t)), (11, .int (lDa (lPs M t).1 (lDy (lPs M t).2) (i + 1)).1), (0, .ref (a 5)), (1, .ref (a 6)), (2, .ref (a 7)), (3, .ref (a 8)), (4, .ref (a 9)), (5, .ref (a 10)), (6, .ref (a 11)), (7, .ref (a 12)), (8, .ref (a 13)), (9, .ref (a 14)), (10, .int (nI D9))]) [0, 5, 4, 6, 7, 8, 9, 10, 11, 12, 13, 14, 15, 16] (by rw [← e19]; rfl) ?_
                  refine go_w (w2 := wW cI cJ cO a S (lDa (lPs M t).1 (lDy (lPs M t).2) (i + 1)).2 ov) (by rfl) ?_
                  exact ih_i trivial
        · refine go_aload C 7 dL_passes_78 rfl ?_
          refine go_iload C 0 dL_passes_80 rfl ?_
          refine go_aload_n C 5 dL_passes_82 rfl rfl ?_
          refine go_iload C 0 dL_passes_83 rfl ?_
          refine lm_c C (vp_in_nI (n := i) (by omega) (by decide)) dL_passes_85 ?_
          rw [cl_nI (i := i) (by omega)]
          refine go_bipush C (v := 10) dL_passes_86 (by decide) ?_
          refine go_icmp_ge C (tgt := 117) dL_passes_88 (by decide) (fun c_20 => ?_) (fun c_20 => ?_)
          · refine go_aload C 7 dL_passes_117 rfl ?_
            refine go_iload C 0 dL_passes_119 rfl ?_
            refine lm_f C (vp_in_nI (n := i) (by omega) (by decide)) dL_passes_121 ?_
            rw [cl_nI (i := i) (by omega)]
            refine sm_f C (vp_in_nI (n := i) (by omega) (by decide)) dL_passes_122 ?_
            rw [cl_nI (i := i) (by omega)]
            refine go_w (w2 := wW cI cJ cO a S (lLa (lDa (lPs M t).1 (lDy (lPs M t).2) i).2 i) ov) (by simp only [lLa, lFv, if_pos c_20]) ?_
            exact G_6
          · refine go_aload C 7 dL_passes_91 rfl ?_
            refine go_iload C 0 dL_passes_93 rfl ?_
            refine lm_f C (vp_in_nI (n := i) (by omega) (by decide)) dL_passes_95 ?_
            rw [cl_nI (i := i) (by omega)]
            refine go_if_le C (tgt := 117) dL_passes_96 (by decide) (fun c_21 => ?_) (fun c_21 => ?_)
            · refine go_aload C 7 dL_passes_117 rfl ?_
              refine go_iload C 0 dL_passes_119 rfl ?_
              refine lm_f C (vp_in_nI (n := i) (by omega) (by decide)) dL_passes_121 ?_
              rw [cl_nI (i := i) (by omega)]
              refine sm_f C (vp_in_nI (n := i) (by omega) (by decide)) dL_passes_122 ?_
              rw [cl_nI (i := i) (by omega)]
              refine go_w (w2 := wW cI cJ cO a S (lLa (lDa (lPs M t).1 (lDy (lPs M t).2) i).2 i) ov) (by simp only [lLa, lFv, if_neg c_20, if_pos c_21]) ?_
              exact G_6
            · refine go_aload C 8 dL_passes_99 rfl ?_
              refine go_iload C 0 dL_passes_101 rfl ?_
              refine lm_t C (vp_in_nI (n := i) (by omega) (by decide)) dL_passes_103 ?_
              rw [cl_nI (i := i) (by omega)]
              refine go_bipush C (v := 39) dL_passes_104 (by decide) ?_
              refine go_iadd C dL_passes_106 ?_
              refine go_aload_n C 3 dL_passes_107 rfl rfl ?_
              refine go_iconst C (v := 1) dL_passes_108 (by decide) ?_
              refine lm_n C vin_1_4 dL_passes_109 ?_
              rw [ck_1]
              refine go_icmp_ne C (tgt := 117) dL_passes_110 (by decide) (fun c_22 => ?_) (fun c_22 => ?_)
              · refine go_aload C 7 dL_passes_117 rfl ?_
                refine go_iload C 0 dL_passes_119 rfl ?_
                refine lm_f C (vp_in_nI (n := i) (by omega) (by decide)) dL_passes_121 ?_
                rw [cl_nI (i := i) (by omega)]
                refine sm_f C (vp_in_nI (n := i) (by omega) (by decide)) dL_passes_122 ?_
                rw [cl_nI (i := i) (by omega)]
                refine go_w (w2 := wW cI cJ cO a S (lLa (lDa (lPs M t).1 (lDy (lPs M t).2) i).2 i) ov) (by simp only [lLa, lFv, if_neg c_20, if_neg c_21, if_neg c_22]) ?_
                exact G_6
              · refine go_iconst C (v := 0) dL_passes_113 (by decide) ?_
                refine go_goto C (tgt := 122) dL_passes_114 (by decide) ?_
                refine sm_f C (vp_in_nI (n := i) (by omega) (by decide)) dL_passes_122 ?_
                rw [cl_nI (i := i) (by omega)]
                refine go_w (w2 := wW cI cJ cO a S (lLa (lDa (lPs M t).1 (lDy (lPs M t).2) i).2 i) ov) (by simp only [lLa, lFv, if_neg c_20, if_neg c_21, if_pos c_22]) ?_
                exact G_6
      · refine go_iload C 0 dL_passes_70 rfl ?_
        refine go_aload_n C 3 dL_passes_72 rfl rfl ?_
        refine go_iconst C (v := 0) dL_passes_73 (by decide) ?_
        refine lm_n C vin_0_4 dL_passes_74 ?_
        rw [ck_0]
        refine go_icmp_ge C (tgt := 323) dL_passes_75 (by decide) (fun c_23 => ?_) (fun c_23 => absurd (by rw [show ls_n (lDa (lPs M t).1 (lDy (lPs M t).2) (lK M)).2 0 = nI (lK M) from (congrFun (fx_lDa (lPs M t).1 (lDy (lPs M t).2) (lK M)).1 0).trans hn1]; exact nI_le (Nat.le_refl _) (by omega)) c_23)
        have hPt : lPs M (t + 1) = lDa (lPs M t).1 (lDy (lPs M t).2) (lK M) := by rw [← hKA]; rfl
        refine go_w (w2 := wW cI cJ cO a S (lPs M (t + 1)).2 ov) (by rw [hPt]) ?_
        refine go_iinc C (v := nI (t + 1)) (lo' := [(12, .int (nI (t + 1))), (13, .int (nI (lK M))), (11, .int (lDa (lPs M t).1 (lDy (lPs M t).2) (lK M)).1), (0, .ref (a 5)), (1, .ref (a 6)), (2, .ref (a 7)), (3, .ref (a 8)), (4, .ref (a 9)), (5, .ref (a 10)), (6, .ref (a 11)), (7, .ref (a 12)), (8, .ref (a 13)), (9, .ref (a 14)), (10, .int (nI D9))]) 1 dL_passes_323 rfl (nI_1 _) (by decide) rfl ?_
        refine go_goto C (tgt := 6) dL_passes_326 (by decide) ?_
        refine go_lo (lo' := [(12, .int (nI (t + 1))), (11, .int (lPs M (t + 1)).1), (0, .ref (a 5)), (1, .ref (a 6)), (2, .ref (a 7)), (3, .ref (a 8)), (4, .ref (a 9)), (5, .ref (a 10)), (6, .ref (a 11)), (7, .ref (a 12)), (8, .ref (a 13)), (9, .ref (a 14)), (10, .int (nI D9))]) [0, 2, 3, 4, 5, 6, 7, 8, 9, 10, 11, 12, 13] (by rw [hPt]; rfl) ?_
        exact ih_t trivial
  · refine go_iload C 0 dL_passes_6 rfl ?_
    refine go_iload C 12 dL_passes_8 rfl ?_
    refine go_icmp_ge C (tgt := 329) dL_passes_10 (by decide) (fun c_24 => ?_) (fun c_24 => absurd (nI_le (Nat.le_refl _) (by omega)) c_24)
    refine go_iload C 1 dL_passes_329 rfl ?_
    exact go_ireturn C rfl dL_passes_331 (by decide) (by decide) ⟨rfl, rfl⟩
theorem k_RL_140 {p : Program} {l : Launch} {e : Env} {R : Room} {s : State} {m : MethodId} {args : Array Value} {below : List Frame} {meth : Method} {c : Code} {D : va_G} {N0 mL : Nat} {cc : ByteArray} {nm : String} {ret : Option FieldType} {Q : State → Prop} {k n pc : Nat} {lo : List (Nat × Value)} {st : List Value} {cI cJ cO : ClassId} {a : Nat → Nat} (C : Cxt p s m args meth c D (tysW cI cJ cO) N0 cc mL RL ret nm) (S : CS) (M : LWS) (ov : va_W) (D9 : Nat) (hok : okL M) (hoo : okO M) (hd : D9 ≤ 100) (hR : 2 + 1 ≤ R.frames ∧ 8 + (17 + 11) + 61 ≤ R.locals) (hcs : k + 0 ≤ R.cells ∧ n + 0 ≤ R.slots) (hcat : (st.map fun v => v.category).sum ≤ 8) (dk : decode cc pc = .ok (.invokestatic 140, 3)) (g : Go p l e R s m args below meth c D N0 mL Q (wW cI cJ cO a S (lPs M D9).2 ov) (k) (n) (pc + 3) lo (.int (lPs M D9).1 :: st)) : Go p l e R s m args below meth c D N0 mL Q (wW cI cJ cO a S M ov) k n pc lo (.int (nI D9) :: .ref (a 14) :: .ref (a 13) :: .ref (a 12) :: .ref (a 11) :: .ref (a 10) :: .ref (a 9) :: .ref (a 8) :: .ref (a 7) :: .ref (a 6) :: .ref (a 5) :: st) :=
  go_callS C (As := [.ref (a 5), .ref (a 6), .ref (a 7), .ref (a 8), .ref (a 9), .ref (a 10), .ref (a 11), .ref (a 12), .ref (a 13), .ref (a 14), .int (nI D9)]) (rest := st) (c_L_passes l D cI cJ cO N0 a S M ov D9 hok hoo hd) ⟨rfl, by decide +kernel, by decide +kernel⟩ bl_RL_140 bst_yL_passes bz_NoticeBookLaw bc_yL_passes (show Option.map (fun d => d.parameters.length) (parseMethodDescriptor yL_passes.desc) = some 11 by decide +kernel) hR hcs hcat dk (fun r w2 h => by obtain ⟨rfl, rfl⟩ := h; exact g) rfl
