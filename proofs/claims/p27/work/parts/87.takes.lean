set_option maxHeartbeats 4000000 in
set_option maxRecDepth 100000 in
theorem c_L_takes (l : Launch) (D : va_G) (cI cJ cO : ClassId) (N0 : Nat) (a : Nat → Nat) (S : CS) (M : LWS) (cu ct : Int32) (hok : okL M) (hoo : okO M) (hcu : vp_in cu 4) (hs : srOk M cu) : Ct l D (tysW cI cJ cO) N0 yL_takes cL_takes 21 (some .int) { frames := 3, cells := 3, slots := 60, locals := 200 } [.ref (a 5), .ref (a 6), .ref (a 7), .ref (a 8), .ref (a 9), .ref (a 12), .ref (a 13), .ref (a 14), .int cu, .int ct] (wW cI cJ cO a S M ([])) (fun r w2 => r = some (.int (lTkV M cu ct)) ∧ w2 = wW cI cJ cO a S (lTk M cu ct) ([])) := by
  refine ct_of (by decide +kernel) (Nat.le_of_ble_eq_true rfl) ?_
  intro p e s m args below meth c C
  have C : Cxt p s m args meth c D (tysW cI cJ cO) N0 cL_takes 21 RL (some .int) "takes" := C
  obtain ⟨hn0, hn20⟩ := hok
  obtain ⟨hs1, hs2⟩ := hs
  refine go_bipush C (v := 20) dL_takes_0 (by decide) ?_
  refine go_newarray C (ty := .long) (N9 := 20) (t0 := 1) (cA := cJ) (a0 := (20, .inr (.inl (fun _ => 0)))) ba_long rfl rfl (fun _ => rfl) (by decide) (by decide) (by decide) (Nat.le_of_ble_eq_true rfl) (Nat.le_of_ble_eq_true rfl) dL_takes_2 (fun q1 => ?_)
  refine go_w (w2 := wW cI cJ cO a S M ([(q1, .inl (cJ, 20, .inr (.inl (fun _ => 0))))])) (by rw [w_more]; rfl) ?_
  refine go_astore C (lo' := [(10, .ref q1), (0, .ref (a 5)), (1, .ref (a 6)), (2, .ref (a 7)), (3, .ref (a 8)), (4, .ref (a 9)), (5, .ref (a 12)), (6, .ref (a 13)), (7, .ref (a 14)), (8, .int cu), (9, .int ct)]) dL_takes_4 (by decide) rfl ?_
  refine go_bipush C (v := 20) dL_takes_6 (by decide) ?_
  refine go_newarray C (ty := .int) (N9 := 20) (t0 := 0) (cA := cI) (a0 := (20, .inl (fun _ => 0))) ba_int rfl rfl (fun _ => rfl) (by decide) (by decide) (by decide) (Nat.le_of_ble_eq_true rfl) (Nat.le_of_ble_eq_true rfl) dL_takes_8 (fun q2 => ?_)
  refine go_w (w2 := wW cI cJ cO a S M ([(q1, .inl (cJ, 20, .inr (.inl (fun _ => 0)))), (q2, .inl (cI, 20, .inl (fun _ => 0)))])) (by rw [w_more]; rfl) ?_
  refine go_astore C (lo' := [(11, .ref q2), (10, .ref q1), (0, .ref (a 5)), (1, .ref (a 6)), (2, .ref (a 7)), (3, .ref (a 8)), (4, .ref (a 9)), (5, .ref (a 12)), (6, .ref (a 13)), (7, .ref (a 14)), (8, .int cu), (9, .int ct)]) dL_takes_10 (by decide) rfl ?_
  refine go_bipush C (v := 20) dL_takes_12 (by decide) ?_
  refine go_newarray C (ty := .int) (N9 := 20) (t0 := 0) (cA := cI) (a0 := (20, .inl (fun i => nI (sr0.2.2.2 i)))) ba_int rfl rfl (fun _ => rfl) (by decide) (by decide) (by decide) (Nat.le_of_ble_eq_true rfl) (Nat.le_of_ble_eq_true rfl) dL_takes_14 (fun q3 => ?_)
  refine go_w (w2 := wW cI cJ cO a S M ([(q1, .inl (cJ, 20, .inr (.inl (fun _ => 0)))), (q2, .inl (cI, 20, .inl (fun _ => 0))), (q3, .inl (cI, 20, .inl (fun i => nI (sr0.2.2.2 i))))])) (by rw [w_more]; rfl) ?_
  refine go_astore C (lo' := [(12, .ref q3), (11, .ref q2), (10, .ref q1), (0, .ref (a 5)), (1, .ref (a 6)), (2, .ref (a 7)), (3, .ref (a 8)), (4, .ref (a 9)), (5, .ref (a 12)), (6, .ref (a 13)), (7, .ref (a 14)), (8, .int cu), (9, .int ct)]) dL_takes_16 (by decide) rfl ?_
  refine go_iconst C (v := 0) dL_takes_18 (by decide) ?_
  refine go_istore C (lo' := [(13, .int 0), (12, .ref q3), (11, .ref q2), (10, .ref q1), (0, .ref (a 5)), (1, .ref (a 6)), (2, .ref (a 7)), (3, .ref (a 8)), (4, .ref (a 9)), (5, .ref (a 12)), (6, .ref (a 13)), (7, .ref (a 14)), (8, .int cu), (9, .int ct)]) dL_takes_19 (by decide) rfl ?_
  refine go_aload_n C 4 dL_takes_21 rfl rfl ?_
  refine go_iconst C (v := 0) dL_takes_22 (by decide) ?_
  refine lm_n C vin_0_4 dL_takes_23 ?_
  rw [ck_0]
  refine go_iconst C (v := 1) dL_takes_24 (by decide) ?_
  refine go_isub C dL_takes_25 ?_
  refine go_istore C (lo' := [(14, .int ((ls_n M 0) - 1)), (13, .int 0), (12, .ref q3), (11, .ref q2), (10, .ref q1), (0, .ref (a 5)), (1, .ref (a 6)), (2, .ref (a 7)), (3, .ref (a 8)), (4, .ref (a 9)), (5, .ref (a 12)), (6, .ref (a 13)), (7, .ref (a 14)), (8, .int cu), (9, .int ct)]) dL_takes_26 (by decide) rfl ?_
  refine go_lo (lo' := [(14, .int (nI (lK M) - 1)), (13, .int (nI sr0.1)), (12, .ref q3), (11, .ref q2), (10, .ref q1), (0, .ref (a 5)), (1, .ref (a 6)), (2, .ref (a 7)), (3, .ref (a 8)), (4, .ref (a 9)), (5, .ref (a 12)), (6, .ref (a 13)), (7, .ref (a 14)), (8, .int cu), (9, .int ct)]) [0, 1, 2, 3, 4, 5, 6, 7, 8, 9, 10, 11, 12, 13, 14] (by rw [hn0]; rfl) ?_
  refine tk_sort C (Nat.le_of_ble_eq_true rfl) (Nat.le_of_ble_eq_true rfl) (Nat.le_of_ble_eq_true rfl) (Nat.le_of_ble_eq_true rfl) ⟨hn0, hn20⟩ (lK M) sr0 (by show 0 + lK M ≤ lK M; omega) (fun _ => (show 0 < 20 by decide)) ?_
  refine go_w (w2 := wW cI cJ cO a S M ([(q1, .inl (cJ, 20, .inr (.inl (lSr M cu).2.1))), (q2, .inl (cI, 20, .inl (lSr M cu).2.2.1)), (q3, .inl (cI, 20, .inl (fun i => nI ((lSr M cu).2.2.2 i))))])) rfl ?_
  refine go_lo (lo' := [(14, .int (-1)), (13, .int (nI (lSr M cu).1)), (12, .ref q3), (11, .ref q2), (10, .ref q1), (0, .ref (a 5)), (1, .ref (a 6)), (2, .ref (a 7)), (3, .ref (a 8)), (4, .ref (a 9)), (5, .ref (a 12)), (6, .ref (a 13)), (7, .ref (a 14)), (8, .int cu), (9, .int ct)]) [0, 1, 2, 3, 4, 5, 6, 7, 8, 9, 10, 11, 12, 13, 14] rfl ?_
  refine go_iload C 14 dL_takes_155 rfl ?_
  refine go_istore C (lo' := [(14, .int ct), (13, .int (nI (lSr M cu).1)), (12, .ref q3), (11, .ref q2), (10, .ref q1), (0, .ref (a 5)), (1, .ref (a 6)), (2, .ref (a 7)), (3, .ref (a 8)), (4, .ref (a 9)), (5, .ref (a 12)), (6, .ref (a 13)), (7, .ref (a 14)), (8, .int cu), (9, .int ct)]) dL_takes_157 (by decide) rfl ?_
  refine go_iload C 14 dL_takes_159 rfl ?_
  refine go_istore C (lo' := [(15, .int ct), (14, .int ct), (13, .int (nI (lSr M cu).1)), (12, .ref q3), (11, .ref q2), (10, .ref q1), (0, .ref (a 5)), (1, .ref (a 6)), (2, .ref (a 7)), (3, .ref (a 8)), (4, .ref (a 9)), (5, .ref (a 12)), (6, .ref (a 13)), (7, .ref (a 14)), (8, .int cu), (9, .int ct)]) dL_takes_161 (by decide) rfl ?_
  refine go_iconst C (v := 0) dL_takes_163 (by decide) ?_
  refine go_istore C (lo' := [(16, .int 0), (15, .int ct), (14, .int ct), (13, .int (nI (lSr M cu).1)), (12, .ref q3), (11, .ref q2), (10, .ref q1), (0, .ref (a 5)), (1, .ref (a 6)), (2, .ref (a 7)), (3, .ref (a 8)), (4, .ref (a 9)), (5, .ref (a 12)), (6, .ref (a 13)), (7, .ref (a 14)), (8, .int cu), (9, .int ct)]) dL_takes_164 (by decide) rfl ?_
  refine go_for ((lSr M cu).1) (fun kk => True) (fun kk => wW cI cJ cO a S (tkTo (lSr M cu) M cu ct kk).2.2 ([(q1, .inl (cJ, 20, .inr (.inl (lSr M cu).2.1))), (q2, .inl (cI, 20, .inl (lSr M cu).2.2.1)), (q3, .inl (cI, 20, .inl (fun i => nI ((lSr M cu).2.2.2 i))))])) (fun kk => [(16, .int (nI kk)), (15, .int (tkTo (lSr M cu) M cu ct kk).2.1), (14, .int (tkTo (lSr M cu) M cu ct kk).1), (13, .int (nI (lSr M cu).1)), (12, .ref q3), (11, .ref q2), (10, .ref q1), (0, .ref (a 5)), (1, .ref (a 6)), (2, .ref (a 7)), (3, .ref (a 8)), (4, .ref (a 9)), (5, .ref (a 12)), (6, .ref (a 13)), (7, .ref (a 14)), (8, .int cu), (9, .int ct)]) ⟨rfl, rfl⟩ trivial (fun kk hi_kk hI_kk ih_kk => ?_) (fun hI_kk => ?_)
  · obtain ⟨hj1, hj2⟩ := hs2 kk hi_kk
    have hj3 : ((lSr M cu).2.2.2 kk) < 20 := by omega
    have hw : vp_in (lOw (tkM (lSr M cu) ((tkTo (lSr M cu) M cu ct kk).2.2) cu ((lSr M cu).2.2.2 kk) (tkT ((tkTo (lSr M cu) M cu ct kk).2.2) ((tkTo (lSr M cu) M cu ct kk).1) ((lSr M cu).2.2.2 kk))) ((lSr M cu).2.2.2 kk)) 4 := ow_of (show ls_c (tkM (lSr M cu) ((tkTo (lSr M cu) M cu ct kk).2.2) cu ((lSr M cu).2.2.2 kk) (tkT ((tkTo (lSr M cu) M cu ct kk).2.2) ((tkTo (lSr M cu) M cu ct kk).1) ((lSr M cu).2.2.2 kk))) = ls_c M from (fx_tkTo (lSr M cu) M cu ct kk).2.1) (hoo _ hj1)
    refine go_iload C 0 dL_takes_166 rfl ?_
    refine go_iload C 3 dL_takes_168 rfl ?_
    refine go_icmp_ge C (tgt := 329) dL_takes_170 (by decide) (fun c_1 => absurd c_1 (nI_ge hi_kk (by omega))) (fun c_1 => ?_)
    refine go_aload C 4 dL_takes_173 rfl ?_
    refine go_iload C 0 dL_takes_175 rfl ?_
    refine lz_i C (k9 := 2) rfl (vp_in_nI (n := kk) (by omega) (by decide)) dL_takes_177 ?_
    rw [cl_nI (i := kk) (by omega)]
    refine go_st (st2 := [.int (nI ((lSr M cu).2.2.2 kk))]) rfl ?_
    refine go_istore C (lo' := [(17, .int (nI ((lSr M cu).2.2.2 kk))), (16, .int (nI kk)), (15, .int (tkTo (lSr M cu) M cu ct kk).2.1), (14, .int (tkTo (lSr M cu) M cu ct kk).1), (13, .int (nI (lSr M cu).1)), (12, .ref q3), (11, .ref q2), (10, .ref q1), (0, .ref (a 5)), (1, .ref (a 6)), (2, .ref (a 7)), (3, .ref (a 8)), (4, .ref (a 9)), (5, .ref (a 12)), (6, .ref (a 13)), (7, .ref (a 14)), (8, .int cu), (9, .int ct)]) dL_takes_178 (by decide) rfl ?_
    refine go_join (wW cI cJ cO a S (tkTo (lSr M cu) M cu ct kk).2.2 ([(q1, .inl (cJ, 20, .inr (.inl (lSr M cu).2.1))), (q2, .inl (cI, 20, .inl (lSr M cu).2.2.1)), (q3, .inl (cI, 20, .inl (fun i => nI ((lSr M cu).2.2.2 i))))])) 210 [(17, .int (nI ((lSr M cu).2.2.2 kk))), (16, .int (nI kk)), (15, .int (tkTo (lSr M cu) M cu ct kk).2.1), (14, .int (tkTo (lSr M cu) M cu ct kk).1), (13, .int (nI (lSr M cu).1)), (12, .ref q3), (11, .ref q2), (10, .ref q1), (0, .ref (a 5)), (1, .ref (a 6)), (2, .ref (a 7)), (3, .ref (a 8)), (4, .ref (a 9)), (5, .ref (a 12)), (6, .ref (a 13)), (7, .ref (a 14)), (8, .int cu), (9, .int ct)] [.int (tkT ((tkTo (lSr M cu) M cu ct kk).2.2) ((tkTo (lSr M cu) M cu ct kk).1) ((lSr M cu).2.2.2 kk))] ?_ (fun G_2 => ?_)
    · refine go_istore C (lo' := [(18, .int (tkT ((tkTo (lSr M cu) M cu ct kk).2.2) ((tkTo (lSr M cu) M cu ct kk).1) ((lSr M cu).2.2.2 kk))), (17, .int (nI ((lSr M cu).2.2.2 kk))), (16, .int (nI kk)), (15, .int (tkTo (lSr M cu) M cu ct kk).2.1), (14, .int (tkTo (lSr M cu) M cu ct kk).1), (13, .int (nI (lSr M cu).1)), (12, .ref q3), (11, .ref q2), (10, .ref q1), (0, .ref (a 5)), (1, .ref (a 6)), (2, .ref (a 7)), (3, .ref (a 8)), (4, .ref (a 9)), (5, .ref (a 12)), (6, .ref (a 13)), (7, .ref (a 14)), (8, .int cu), (9, .int ct)]) dL_takes_210 (by decide) rfl ?_
      refine go_aload C 8 dL_takes_212 rfl ?_
      refine go_iload C 1 dL_takes_214 rfl ?_
      refine lz_l C (k9 := 0) rfl (vp_in_nI (n := ((lSr M cu).2.2.2 kk)) hj3 (by decide)) dL_takes_216 ?_
      rw [cl_nI (i := ((lSr M cu).2.2.2 kk)) (by omega)]
      refine go_ldc2 C bk_RL_31 dL_takes_217 ?_
      refine go_lmul C dL_takes_220 ?_
      refine go_iload C 0 dL_takes_221 rfl ?_
      refine go_i2l C dL_takes_223 ?_
      refine go_lmul C dL_takes_224 ?_
      refine go_aload C 7 dL_takes_225 rfl ?_
      refine go_iload C 1 dL_takes_227 rfl ?_
      refine lz_i C (k9 := 1) rfl (vp_in_nI (n := ((lSr M cu).2.2.2 kk)) hj3 (by decide)) dL_takes_229 ?_
      rw [cl_nI (i := ((lSr M cu).2.2.2 kk)) (by omega)]
      refine go_i2l C dL_takes_230 ?_
      refine go_ldiv C dL_takes_231 hj2 ?_
      refine go_st (st2 := [.long (tkL1 (lSr M cu) ((lSr M cu).2.2.2 kk) (tkT ((tkTo (lSr M cu) M cu ct kk).2.2) ((tkTo (lSr M cu) M cu ct kk).1) ((lSr M cu).2.2.2 kk)))]) rfl ?_
      refine go_lstore C (lo' := [(19, .long (tkL1 (lSr M cu) ((lSr M cu).2.2.2 kk) (tkT ((tkTo (lSr M cu) M cu ct kk).2.2) ((tkTo (lSr M cu) M cu ct kk).1) ((lSr M cu).2.2.2 kk)))), (18, .int (tkT ((tkTo (lSr M cu) M cu ct kk).2.2) ((tkTo (lSr M cu) M cu ct kk).1) ((lSr M cu).2.2.2 kk))), (17, .int (nI ((lSr M cu).2.2.2 kk))), (16, .int (nI kk)), (15, .int (tkTo (lSr M cu) M cu ct kk).2.1), (14, .int (tkTo (lSr M cu) M cu ct kk).1), (13, .int (nI (lSr M cu).1)), (12, .ref q3), (11, .ref q2), (10, .ref q1), (0, .ref (a 5)), (1, .ref (a 6)), (2, .ref (a 7)), (3, .ref (a 8)), (4, .ref (a 9)), (5, .ref (a 12)), (6, .ref (a 13)), (7, .ref (a 14)), (8, .int cu), (9, .int ct)]) dL_takes_232 (by decide) rfl ?_
      refine go_join (wW cI cJ cO a S (tkTo (lSr M cu) M cu ct kk).2.2 ([(q1, .inl (cJ, 20, .inr (.inl (lSr M cu).2.1))), (q2, .inl (cI, 20, .inl (lSr M cu).2.2.1)), (q3, .inl (cI, 20, .inl (fun i => nI ((lSr M cu).2.2.2 i))))])) 255 [(19, .long (tkL1 (lSr M cu) ((lSr M cu).2.2.2 kk) (tkT ((tkTo (lSr M cu) M cu ct kk).2.2) ((tkTo (lSr M cu) M cu ct kk).1) ((lSr M cu).2.2.2 kk)))), (18, .int (tkT ((tkTo (lSr M cu) M cu ct kk).2.2) ((tkTo (lSr M cu) M cu ct kk).1) ((lSr M cu).2.2.2 kk))), (17, .int (nI ((lSr M cu).2.2.2 kk))), (16, .int (nI kk)), (15, .int (tkTo (lSr M cu) M cu ct kk).2.1), (14, .int (tkTo (lSr M cu) M cu ct kk).1), (13, .int (nI (lSr M cu).1)), (12, .ref q3), (11, .ref q2), (10, .ref q1), (0, .ref (a 5)), (1, .ref (a 6)), (2, .ref (a 7)), (3, .ref (a 8)), (4, .ref (a 9)), (5, .ref (a 12)), (6, .ref (a 13)), (7, .ref (a 14)), (8, .int cu), (9, .int ct)] [.long (tkL (lSr M cu) ((tkTo (lSr M cu) M cu ct kk).2.2) ((lSr M cu).2.2.2 kk) (tkT ((tkTo (lSr M cu) M cu ct kk).2.2) ((tkTo (lSr M cu) M cu ct kk).1) ((lSr M cu).2.2.2 kk)))] ?_ (fun G_3 => ?_)
      · refine go_lstore C (lo' := [(19, .long (tkL (lSr M cu) ((tkTo (lSr M cu) M cu ct kk).2.2) ((lSr M cu).2.2.2 kk) (tkT ((tkTo (lSr M cu) M cu ct kk).2.2) ((tkTo (lSr M cu) M cu ct kk).1) ((lSr M cu).2.2.2 kk)))), (18, .int (tkT ((tkTo (lSr M cu) M cu ct kk).2.2) ((tkTo (lSr M cu) M cu ct kk).1) ((lSr M cu).2.2.2 kk))), (17, .int (nI ((lSr M cu).2.2.2 kk))), (16, .int (nI kk)), (15, .int (tkTo (lSr M cu) M cu ct kk).2.1), (14, .int (tkTo (lSr M cu) M cu ct kk).1), (13, .int (nI (lSr M cu).1)), (12, .ref q3), (11, .ref q2), (10, .ref q1), (0, .ref (a 5)), (1, .ref (a 6)), (2, .ref (a 7)), (3, .ref (a 8)), (4, .ref (a 9)), (5, .ref (a 12)), (6, .ref (a 13)), (7, .ref (a 14)), (8, .int cu), (9, .int ct)]) dL_takes_255 (by decide) rfl ?_
        refine go_aload C 16 dL_takes_257 rfl ?_
        refine go_iload C 2 dL_takes_259 rfl ?_
        refine go_dup2 C dL_takes_261 rfl rfl ?_
        refine lm_e C (vp_in_nI (n := ((lSr M cu).2.2.2 kk)) hj3 (by decide)) dL_takes_262 ?_
        rw [cl_nI (i := ((lSr M cu).2.2.2 kk)) (by omega)]
        refine go_lload C 0 dL_takes_263 rfl ?_
        refine go_lsub C dL_takes_265 ?_
        refine sm_e C (vp_in_nI (n := ((lSr M cu).2.2.2 kk)) hj3 (by decide)) dL_takes_266 ?_
        rw [cl_nI (i := ((lSr M cu).2.2.2 kk)) (by omega)]
        refine go_w (w2 := wW cI cJ cO a S (tk1 ((tkTo (lSr M cu) M cu ct kk).2.2) ((lSr M cu).2.2.2 kk) (tkL (lSr M cu) ((tkTo (lSr M cu) M cu ct kk).2.2) ((lSr M cu).2.2.2 kk) (tkT ((tkTo (lSr M cu) M cu ct kk).2.2) ((tkTo (lSr M cu) M cu ct kk).1) ((lSr M cu).2.2.2 kk)))) ([(q1, .inl (cJ, 20, .inr (.inl (lSr M cu).2.1))), (q2, .inl (cI, 20, .inl (lSr M cu).2.2.1)), (q3, .inl (cI, 20, .inl (fun i => nI ((lSr M cu).2.2.2 i))))])) rfl ?_
        refine go_aload C 17 dL_takes_267 rfl ?_
        refine go_iconst C (v := 4) dL_takes_269 (by decide) ?_
        refine go_iload C 18 dL_takes_270 rfl ?_
        refine go_iadd C dL_takes_272 ?_
        refine go_dup2 C dL_takes_273 rfl rfl ?_
        refine lm_g C (vin_48 hcu) dL_takes_274 ?_
        refine go_lload C 0 dL_takes_275 rfl ?_
        refine go_ladd C dL_takes_277 ?_
        refine sm_g C (vin_48 hcu) dL_takes_278 ?_
        refine go_w (w2 := wW cI cJ cO a S (tkM (lSr M cu) ((tkTo (lSr M cu) M cu ct kk).2.2) cu ((lSr M cu).2.2.2 kk) (tkT ((tkTo (lSr M cu) M cu ct kk).2.2) ((tkTo (lSr M cu) M cu ct kk).1) ((lSr M cu).2.2.2 kk))) ([(q1, .inl (cJ, 20, .inr (.inl (lSr M cu).2.1))), (q2, .inl (cI, 20, .inl (lSr M cu).2.2.1)), (q3, .inl (cI, 20, .inl (fun i => nI ((lSr M cu).2.2.2 i))))])) rfl ?_
        refine go_iload C 5 dL_takes_279 rfl ?_
        refine go_iload C 1 dL_takes_281 rfl ?_
        refine go_isub C dL_takes_283 ?_
        refine go_istore C (lo' := [(14, .int ((tkTo (lSr M cu) M cu ct kk).1 - (tkT ((tkTo (lSr M cu) M cu ct kk).2.2) ((tkTo (lSr M cu) M cu ct kk).1) ((lSr M cu).2.2.2 kk)))), (19, .long (tkL (lSr M cu) ((tkTo (lSr M cu) M cu ct kk).2.2) ((lSr M cu).2.2.2 kk) (tkT ((tkTo (lSr M cu) M cu ct kk).2.2) ((tkTo (lSr M cu) M cu ct kk).1) ((lSr M cu).2.2.2 kk)))), (18, .int (tkT ((tkTo (lSr M cu) M cu ct kk).2.2) ((tkTo (lSr M cu) M cu ct kk).1) ((lSr M cu).2.2.2 kk))), (17, .int (nI ((lSr M cu).2.2.2 kk))), (16, .int (nI kk)), (15, .int (tkTo (lSr M cu) M cu ct kk).2.1), (13, .int (nI (lSr M cu).1)), (12, .ref q3), (11, .ref q2), (10, .ref q1), (0, .ref (a 5)), (1, .ref (a 6)), (2, .ref (a 7)), (3, .ref (a 8)), (4, .ref (a 9)), (5, .ref (a 12)), (6, .ref (a 13)), (7, .ref (a 14)), (8, .int cu), (9, .int ct)]) dL_takes_284 (by decide) rfl ?_
        refine go_iload C 2 dL_takes_286 rfl ?_
        refine go_aload_n C 13 dL_takes_288 rfl rfl ?_
        refine go_iload C 3 dL_takes_289 rfl ?_
        refine lm_p C (vp_in_nI (n := ((lSr M cu).2.2.2 kk)) hj3 (by decide)) dL_takes_291 ?_
        rw [cl_nI (i := ((lSr M cu).2.2.2 kk)) (by omega)]
        refine go_icmp_ne C (tgt := 314) dL_takes_292 (by decide) (fun c_4 => ?_) (fun c_4 => ?_)
        · refine go_aload_n C 13 dL_takes_314 rfl rfl ?_
          refine go_iload C 3 dL_takes_315 rfl ?_
          refine go_dup2 C dL_takes_317 rfl rfl ?_
          refine lm_p C (vp_in_nI (n := ((lSr M cu).2.2.2 kk)) hj3 (by decide)) dL_takes_318 ?_
          rw [cl_nI (i := ((lSr M cu).2.2.2 kk)) (by omega)]
          refine go_iload C 2 dL_takes_319 rfl ?_
          refine go_isub C dL_takes_321 ?_
          refine sm_p C (vp_in_nI (n := ((lSr M cu).2.2.2 kk)) hj3 (by decide)) dL_takes_322 ?_
          rw [cl_nI (i := ((lSr M cu).2.2.2 kk)) (by omega)]
          refine go_w (w2 := wW cI cJ cO a S (tkS (lSr M cu) ((tkTo (lSr M cu) M cu ct kk).2.2) cu ((lSr M cu).2.2.2 kk) (tkT ((tkTo (lSr M cu) M cu ct kk).2.2) ((tkTo (lSr M cu) M cu ct kk).1) ((lSr M cu).2.2.2 kk))) ([(q1, .inl (cJ, 20, .inr (.inl (lSr M cu).2.1))), (q2, .inl (cI, 20, .inl (lSr M cu).2.2.1)), (q3, .inl (cI, 20, .inl (fun i => nI ((lSr M cu).2.2.2 i))))])) (by rw [tkS_0 c_4] <;> rfl) ?_
          refine go_lo (lo' := [(14, .int ((tkTo (lSr M cu) M cu ct kk).1 - (tkT ((tkTo (lSr M cu) M cu ct kk).2.2) ((tkTo (lSr M cu) M cu ct kk).1) ((lSr M cu).2.2.2 kk)))), (19, .long (tkL (lSr M cu) ((tkTo (lSr M cu) M cu ct kk).2.2) ((lSr M cu).2.2.2 kk) (tkT ((tkTo (lSr M cu) M cu ct kk).2.2) ((tkTo (lSr M cu) M cu ct kk).1) ((lSr M cu).2.2.2 kk)))), (18, .int (tkT ((tkTo (lSr M cu) M cu ct kk).2.2) ((tkTo (lSr M cu) M cu ct kk).1) ((lSr M cu).2.2.2 kk))), (17, .int (nI ((lSr M cu).2.2.2 kk))), (16, .int (nI kk)), (15, .int (tkV ((tkTo (lSr M cu) M cu ct kk).2.1) (lSr M cu) ((tkTo (lSr M cu) M cu ct kk).2.2) cu ((lSr M cu).2.2.2 kk) (tkT ((tkTo (lSr M cu) M cu ct kk).2.2) ((tkTo (lSr M cu) M cu ct kk).1) ((lSr M cu).2.2.2 kk)))), (13, .int (nI (lSr M cu).1)), (12, .ref q3), (11, .ref q2), (10, .ref q1), (0, .ref (a 5)), (1, .ref (a 6)), (2, .ref (a 7)), (3, .ref (a 8)), (4, .ref (a 9)), (5, .ref (a 12)), (6, .ref (a 13)), (7, .ref (a 14)), (8, .int cu), (9, .int ct)]) [0, 1, 2, 3, 4, 5, 6, 7, 8, 9, 10, 11, 12, 13, 14, 15, 16, 17, 18, 19] (by rw [tkV_0 c_4]; rfl) ?_
          refine go_iinc C (v := nI (kk + 1)) (lo' := [(16, .int (nI (kk + 1))), (14, .int ((tkTo (lSr M cu) M cu ct kk).1 - (tkT ((tkTo (lSr M cu) M cu ct kk).2.2) ((tkTo (lSr M cu) M cu ct kk).1) ((lSr M cu).2.2.2 kk)))), (19, .long (tkL (lSr M cu) ((tkTo (lSr M cu) M cu ct kk).2.2) ((lSr M cu).2.2.2 kk) (tkT ((tkTo (lSr M cu) M cu ct kk).2.2) ((tkTo (lSr M cu) M cu ct kk).1) ((lSr M cu).2.2.2 kk)))), (18, .int (tkT ((tkTo (lSr M cu) M cu ct kk).2.2) ((tkTo (lSr M cu) M cu ct kk).1) ((lSr M cu).2.2.2 kk))), (17, .int (nI ((lSr M cu).2.2.2 kk))), (15, .int (tkV ((tkTo (lSr M cu) M cu ct kk).2.1) (lSr M cu) ((tkTo (lSr M cu) M cu ct kk).2.2) cu ((lSr M cu).2.2.2 kk) (tkT ((tkTo (lSr M cu) M cu ct kk).2.2) ((tkTo (lSr M cu) M cu ct kk).1) ((lSr M cu).2.2.2 kk)))), (13, .int (nI (lSr M cu).1)), (12, .ref q3), (11, .ref q2), (10, .ref q1), (0, .ref (a 5)), (1, .ref (a 6)), (2, .ref (a 7)), (3, .ref (a 8)), (4, .ref (a 9)), (5, .ref (a 12)), (6, .ref (a 13)), (7, .ref (a 14)), (8, .int cu), (9, .int ct)]) 4 dL_takes_323 rfl (nI_1 _) (by decide) rfl ?_
          refine go_goto C (tgt := 166) dL_takes_326 (by decide) ?_
          refine go_lo (lo' := [(16, .int (nI (kk + 1))), (15, .int (tkTo (lSr M cu) M cu ct (kk + 1)).2.1), (14, .int (tkTo (lSr M cu) M cu ct (kk + 1)).1), (13, .int (nI (lSr M cu).1)), (12, .ref q3), (11, .ref q2), (10, .ref q1), (0, .ref (a 5)), (1, .ref (a 6)), (2, .ref (a 7)), (3, .ref (a 8)), (4, .ref (a 9)), (5, .ref (a 12)), (6, .ref (a 13)), (7, .ref (a 14)), (8, .int cu), (9, .int ct)]) [0, 5, 1, 6, 7, 8, 9, 10, 11, 12, 13, 14, 15, 16, 17, 18, 19] (by rfl) ?_
          refine go_w (w2 := wW cI cJ cO a S (tkTo (lSr M cu) M cu ct (kk + 1)).2.2 ([(q1, .inl (cJ, 20, .inr (.inl (lSr M cu).2.1))), (q2, .inl (cI, 20, .inl (lSr M cu).2.2.1)), (q3, .inl (cI, 20, .inl (fun i => nI ((lSr M cu).2.2.2 i))))])) (by rfl) ?_
          exact ih_kk trivial
        · refine go_iload C 5 dL_takes_295 rfl ?_
          refine go_aload_n C 12 dL_takes_297 rfl rfl ?_
          refine go_aload_n C 13 dL_takes_298 rfl rfl ?_
          refine go_aload C 16 dL_takes_299 rfl ?_
          refine go_aload C 17 dL_takes_301 rfl ?_
          refine go_iload C 3 dL_takes_303 rfl ?_
          refine k_RL_33 C S (tkM (lSr M cu) ((tkTo (lSr M cu) M cu ct kk).2.2) cu ((lSr M cu).2.2.2 kk) (tkT ((tkTo (lSr M cu) M cu ct kk).2.2) ((tkTo (lSr M cu) M cu ct kk).1) ((lSr M cu).2.2.2 kk))) ([(q1, .inl (cJ, 20, .inr (.inl (lSr M cu).2.1))), (q2, .inl (cI, 20, .inl (lSr M cu).2.2.1)), (q3, .inl (cI, 20, .inl (fun i => nI ((lSr M cu).2.2.2 i))))]) ((lSr M cu).2.2.2 kk) (by omega) hw ⟨(Nat.le_of_ble_eq_true rfl), (Nat.le_of_ble_eq_true rfl)⟩ ⟨(Nat.le_of_ble_eq_true rfl), (Nat.le_of_ble_eq_true rfl)⟩ (Nat.le_of_ble_eq_true rfl) dL_takes_305 ?_
          refine go_iadd C dL_takes_308 ?_
          refine go_istore C (lo' := [(15, .int ((tkTo (lSr M cu) M cu ct kk).2.1 + (lEnC (tkM (lSr M cu) ((tkTo (lSr M cu) M cu ct kk).2.2) cu ((lSr M cu).2.2.2 kk) (tkT ((tkTo (lSr M cu) M cu ct kk).2.2) ((tkTo (lSr M cu) M cu ct kk).1) ((lSr M cu).2.2.2 kk))) ((lSr M cu).2.2.2 kk)))), (14, .int ((tkTo (lSr M cu) M cu ct kk).1 - (tkT ((tkTo (lSr M cu) M cu ct kk).2.2) ((tkTo (lSr M cu) M cu ct kk).1) ((lSr M cu).2.2.2 kk)))), (19, .long (tkL (lSr M cu) ((tkTo (lSr M cu) M cu ct kk).2.2) ((lSr M cu).2.2.2 kk) (tkT ((tkTo (lSr M cu) M cu ct kk).2.2) ((tkTo (lSr M cu) M cu ct kk).1) ((lSr M cu).2.2.2 kk)))), (18, .int (tkT ((tkTo (lSr M cu) M cu ct kk).2.2) ((tkTo (lSr M cu) M cu ct kk).1) ((lSr M cu).2.2.2 kk))), (17, .int (nI ((lSr M cu).2.2.2 kk))), (16, .int (nI kk)), (13, .int (nI (lSr M cu).1)), (12, .ref q3), (11, .ref q2), (10, .ref q1), (0, .ref (a 5)), (1, .ref (a 6)), (2, .ref (a 7)), (3, .ref (a 8)), (4, .ref (a 9)), (5, .ref (a 12)), (6, .ref (a 13)), (7, .ref (a 14)), (8, .int cu), (9, .int ct)]) dL_takes_309 (by decide) rfl ?_
          refine go_goto C (tgt := 323) dL_takes_311 (by decide) ?_
          refine go_w (w2 := wW cI cJ cO a S (tkS (lSr M cu) ((tkTo (lSr M cu) M cu ct kk).2.2) cu ((lSr M cu).2.2.2 kk) (tkT ((tkTo (lSr M cu) M cu ct kk).2.2) ((tkTo (lSr M cu) M cu ct kk).1) ((lSr M cu).2.2.2 kk))) ([(q1, .inl (cJ, 20, .inr (.inl (lSr M cu).2.1))), (q2, .inl (cI, 20, .inl (lSr M cu).2.2.1)), (q3, .inl (cI, 20, .inl (fun i => nI ((lSr M cu).2.2.2 i))))])) (by rw [tkS_1 c_4] <;> rfl) ?_
          refine go_lo (lo' := [(15, .int (tkV ((tkTo (lSr M cu) M cu ct kk).2.1) (lSr M cu) ((tkTo (lSr M cu) M cu ct kk).2.2) cu ((lSr M cu).2.2.2 kk) (tkT ((tkTo (lSr M cu) M cu ct kk).2.2) ((tkTo (lSr M cu) M cu ct kk).1) ((lSr M cu).2.2.2 kk)))), (14, .int ((tkTo (lSr M cu) M cu ct kk).1 - (tkT ((tkTo (lSr M cu) M cu ct kk).2.2) ((tkTo (lSr M cu) M cu ct kk).1) ((lSr M cu).2.2.2 kk)))), (19, .long (tkL (lSr M cu) ((tkTo (lSr M cu) M cu ct kk).2.2) ((lSr M cu).2.2.2 kk) (tkT ((tkTo (lSr M cu) M cu ct kk).2.2) ((tkTo (lSr M cu) M cu ct kk).1) ((lSr M cu).2.2.2 kk)))), (18, .int (tkT ((tkTo (lSr M cu) M cu ct kk).2.2) ((tkTo (lSr M cu) M cu ct kk).1) ((lSr M cu).2.2.2 kk))), (17, .int (nI ((lSr M cu).2.2.2 kk))), (16, .int (nI kk)), (13, .int (nI (lSr M cu).1)), (12, .ref q3), (11, .ref q2), (10, .ref q1), (0, .ref (a 5)), (1, .ref (a 6)), (2, .ref (a 7)), (3, .ref (a 8)), (4, .ref (a 9)), (5, .ref (a 12)), (6, .ref (a 13)), (7, .ref (a 14)), (8, .int cu), (9, .int ct)]) [0, 1, 2, 3, 4, 5, 6, 7, 8, 9, 10, 11, 12, 13, 14, 15, 16, 17, 18, 19] (by rw [tkV_1 c_4]; rfl) ?_
          refine go_iinc C (v := nI (kk + 1)) (lo' := [(16, .int (nI (kk + 1))), (15, .int (tkV ((tkTo (lSr M cu) M cu ct kk).2.1) (lSr M cu) ((tkTo (lSr M cu) M cu ct kk).2.2) cu ((lSr M cu).2.2.2 kk) (tkT ((tkTo (lSr M cu) M cu ct kk).2.2) ((tkTo (lSr M cu) M cu ct kk).1) ((lSr M cu).2.2.2 kk)))), (14, .int ((tkTo (lSr M cu) M cu ct kk).1 - (tkT ((tkTo (lSr M cu) M cu ct kk).2.2) ((tkTo (lSr M cu) M cu ct kk).1) ((lSr M cu).2.2.2 kk)))), (19, .long (tkL (lSr M cu) ((tkTo (lSr M cu) M cu ct kk).2.2) ((lSr M cu).2.2.2 kk) (tkT ((tkTo (lSr M cu) M cu ct kk).2.2) ((tkTo (lSr M cu) M cu ct kk).1) ((lSr M cu).2.2.2 kk)))), (18, .int (tkT ((tkTo (lSr M cu) M cu ct kk).2.2) ((tkTo (lSr M cu) M cu ct kk).1) ((lSr M cu).2.2.2 kk))), (17, .int (nI ((lSr M cu).2.2.2 kk))), (13, .int (nI (lSr M cu).1)), (12, .ref q3), (11, .ref q2), (10, .ref q1), (0, .ref (a 5)), (1, .ref (a 6)), (2, .ref (a 7)), (3, .ref (a 8)), (4, .ref (a 9)), (5, .ref (a 12)), (6, .ref (a 13)), (7, .ref (a 14)), (8, .int cu), (9, .int ct)]) 5 dL_takes_323 rfl (nI_1 _) (by decide) rfl ?_
          refine go_goto C (tgt := 166) dL_takes_326 (by decide) ?_
          refine go_lo (lo' := [(16, .int (nI (kk + 1))), (15, .int (tkTo (lSr M cu) M cu ct (kk + 1)).2.1), (14, .int (tkTo (lSr M cu) M cu ct (kk + 1)).1), (13, .int (nI (lSr M cu).1)), (12, .ref q3), (11, .ref q2), (10, .ref q1), (0, .ref (a 5)), (1, .ref (a 6)), (2, .ref (a 7)), (3, .ref (a 8)), (4, .ref (a 9)), (5, .ref (a 12)), (6, .ref (a 13)), (7, .ref (a 14)), (8, .int cu), (9, .int ct)]) [0, 1, 2, 6, 7, 8, 9, 10, 11, 12, 13, 14, 15, 16, 17, 18, 19] (by rfl) ?_
          refine go_w (w2 := wW cI cJ cO a S (tkTo (lSr M cu) M cu ct (kk + 1)).2.2 ([(q1, .inl (cJ, 20, .inr (.inl (lSr M cu).2.1))), (q2, .inl (cI, 20, .inl (lSr M cu).2.2.1)), (q3, .inl (cI, 20, .inl (fun i => nI ((lSr M cu).2.2.2 i))))])) (by rfl) ?_
          exact ih_kk trivial
      · refine go_lload C 0 dL_takes_234 rfl ?_
        refine go_aload C 16 dL_takes_236 rfl ?_
        refine go_iload C 2 dL_takes_238 rfl ?_
        refine lm_e C (vp_in_nI (n := ((lSr M cu).2.2.2 kk)) hj3 (by decide)) dL_takes_240 ?_
        rw [cl_nI (i := ((lSr M cu).2.2.2 kk)) (by omega)]
        refine go_lcmp C dL_takes_241 ?_
        refine go_if_ge C (tgt := 250) dL_takes_242 (by decide) (fun c_5 => ?_) (fun c_5 => ?_)
        · refine go_aload C 16 dL_takes_250 rfl ?_
          refine go_iload C 2 dL_takes_252 rfl ?_
          refine lm_e C (vp_in_nI (n := ((lSr M cu).2.2.2 kk)) hj3 (by decide)) dL_takes_254 ?_
          rw [cl_nI (i := ((lSr M cu).2.2.2 kk)) (by omega)]
          refine go_st (st2 := [.long (tkL (lSr M cu) ((tkTo (lSr M cu) M cu ct kk).2.2) ((lSr M cu).2.2.2 kk) (tkT ((tkTo (lSr M cu) M cu ct kk).2.2) ((tkTo (lSr M cu) M cu ct kk).1) ((lSr M cu).2.2.2 kk)))]) (by rw [tkL, if_pos c_5]) ?_
          exact G_3
        · refine go_lload C 0 dL_takes_245 rfl ?_
          refine go_goto C (tgt := 255) dL_takes_247 (by decide) ?_
          refine go_st (st2 := [.long (tkL (lSr M cu) ((tkTo (lSr M cu) M cu ct kk).2.2) ((lSr M cu).2.2.2 kk) (tkT ((tkTo (lSr M cu) M cu ct kk).2.2) ((tkTo (lSr M cu) M cu ct kk).1) ((lSr M cu).2.2.2 kk)))]) (by rw [tkL, if_neg c_5]) ?_
          exact G_3
    · refine go_aload_n C 11 dL_takes_180 rfl rfl ?_
      refine go_iload C 0 dL_takes_181 rfl ?_
      refine lm_p C (vp_in_nI (n := ((lSr M cu).2.2.2 kk)) hj3 (by decide)) dL_takes_183 ?_
      rw [cl_nI (i := ((lSr M cu).2.2.2 kk)) (by omega)]
      refine go_aload C 12 dL_takes_184 rfl ?_
      refine go_iload C 0 dL_takes_186 rfl ?_
      refine lm_f C (vp_in_nI (n := ((lSr M cu).2.2.2 kk)) hj3 (by decide)) dL_takes_188 ?_
      rw [cl_nI (i := ((lSr M cu).2.2.2 kk)) (by omega)]
      refine go_isub C dL_takes_189 ?_
      refine go_iload C 3 dL_takes_190 rfl ?_
      refine go_icmp_ge C (tgt := 208) dL_takes_192 (by decide) (fun c_6 => ?_) (fun c_6 => ?_)
      · refine go_iload C 3 dL_takes_208 rfl ?_
        refine go_st (st2 := [.int (tkT ((tkTo (lSr M cu) M cu ct kk).2.2) ((tkTo (lSr M cu) M cu ct kk).1) ((lSr M cu).2.2.2 kk))]) (by rw [tkT, if_pos c_6]) ?_
        exact G_2
      · refine go_aload_n C 11 dL_takes_195 rfl rfl ?_
        refine go_iload C 0 dL_takes_196 rfl ?_
        refine lm_p C (vp_in_nI (n := ((lSr M cu).2.2.2 kk)) hj3 (by decide)) dL_takes_198 ?_
        rw [cl_nI (i := ((lSr M cu).2.2.2 kk)) (by omega)]
        refine go_aload C 12 dL_takes_199 rfl ?_
        refine go_iload C 0 dL_takes_201 rfl ?_
        refine lm_f C (vp_in_nI (n := ((lSr M cu).2.2.2 kk)) hj3 (by decide)) dL_takes_203 ?_
        rw [cl_nI (i := ((lSr M cu).2.2.2 kk)) (by omega)]
        refine go_isub C dL_takes_204 ?_
        refine go_goto C (tgt := 210) dL_takes_205 (by decide) ?_
        refine go_st (st2 := [.int (tkT ((tkTo (lSr M cu) M cu ct kk).2.2) ((tkTo (lSr M cu) M cu ct kk).1) ((lSr M cu).2.2.2 kk))]) (by rw [tkT, if_neg c_6]) ?_
        exact G_2
  · refine go_iload C 0 dL_takes_166 rfl ?_
    refine go_iload C 3 dL_takes_168 rfl ?_
    refine go_icmp_ge C (tgt := 329) dL_takes_170 (by decide) (fun c_7 => ?_) (fun c_7 => absurd (nI_le (Nat.le_refl _) (by omega)) c_7)
    refine go_aload C 14 dL_takes_329 rfl ?_
    refine go_iload C 15 dL_takes_331 rfl ?_
    refine go_dup2 C dL_takes_333 rfl rfl ?_
    refine lm_g C (vin_8 hcu) dL_takes_334 ?_
    refine go_iload C 16 dL_takes_335 rfl ?_
    refine go_i2l C dL_takes_337 ?_
    refine go_ladd C dL_takes_338 ?_
    refine sm_g C (vin_8 hcu) dL_takes_339 ?_
    refine go_iload C 1 dL_takes_340 rfl ?_
    refine go_w (w2 := wW cI cJ cO a S (lTk M cu ct) [] ++ [(q1, .inl (cJ, 20, .inr (.inl (lSr M cu).2.1))), (q2, .inl (cI, 20, .inl (lSr M cu).2.2.1)), (q3, .inl (cI, 20, .inl (fun i => nI ((lSr M cu).2.2.2 i))))]) (by rw [w_more]; rfl) ?_
    refine go_less ?_
    exact go_ireturn C rfl dL_takes_342 (by decide) (by decide) ⟨rfl, rfl⟩
theorem k_RL_133 {p : Program} {l : Launch} {e : Env} {R : Room} {s : State} {m : MethodId} {args : Array Value} {below : List Frame} {meth : Method} {c : Code} {D : va_G} {N0 mL : Nat} {cc : ByteArray} {nm : String} {ret : Option FieldType} {Q : State → Prop} {k n pc : Nat} {lo : List (Nat × Value)} {st : List Value} {cI cJ cO : ClassId} {a : Nat → Nat} (C : Cxt p s m args meth c D (tysW cI cJ cO) N0 cc mL RL ret nm) (S : CS) (M : LWS) (cu ct : Int32) (hok : okL M) (hoo : okO M) (hcu : vp_in cu 4) (hs : srOk M cu) (hR : 3 + 1 ≤ R.frames ∧ 8 + (21 + 11) + 200 ≤ R.locals) (hcs : k + 3 ≤ R.cells ∧ n + 60 ≤ R.slots) (hcat : (st.map fun v => v.category).sum ≤ 8) (dk : decode cc pc = .ok (.invokestatic 133, 3)) (g : Go p l e R s m args below meth c D N0 mL Q (wW cI cJ cO a S (lTk M cu ct) ([])) (k + 3) (n + 60) (pc + 3) lo (.int (lTkV M cu ct) :: st)) : Go p l e R s m args below meth c D N0 mL Q (wW cI cJ cO a S M ([])) k n pc lo (.int ct :: .int cu :: .ref (a 14) :: .ref (a 13) :: .ref (a 12) :: .ref (a 9) :: .ref (a 8) :: .ref (a 7) :: .ref (a 6) :: .ref (a 5) :: st) :=
  go_callS C (As := [.ref (a 5), .ref (a 6), .ref (a 7), .ref (a 8), .ref (a 9), .ref (a 12), .ref (a 13), .ref (a 14), .int cu, .int ct]) (rest := st) (c_L_takes l D cI cJ cO N0 a S M cu ct hok hoo hcu hs) ⟨rfl, by decide +kernel, by decide +kernel⟩ bl_RL_133 bst_yL_takes bz_NoticeBookLaw bc_yL_takes (show Option.map (fun d => d.parameters.length) (parseMethodDescriptor yL_takes.desc) = some 10 by decide +kernel) hR hcs hcat dk (fun r w2 h => by obtain ⟨rfl, rfl⟩ := h; exact g) rfl
