set_option maxHeartbeats 4000000 in
theorem law_new {p : Program} {l : Launch} {e : Env} {s : State} {m : MethodId} {args : Array Value} {below : List Frame} {meth : Method} {c : Code} {D : va_G} {N0 : Nat} {ret : Option FieldType} {nm : String} {Q : State → Prop} {k n : Nat} {cI cJ cO : ClassId} {a : Nat → Nat} {b i : Nat} {S : CS} {M : LWS} {y kd j cu ct : Nat} (C : Cxt p s m args meth c D (tysW cI cJ cO) N0 cL_law 23 RL ret nm) (hn : lK M < 20) (hn0 : ls_n M 0 = nI (lK M)) (g : Go p l e room_1 s m args below meth c D N0 23 Q (wW cI cJ cO a S (qNw M (nI ct)) ([])) (k) (n) 341 [(20, .int (nI (lK M))), (19, .int (nI ct)), (18, .int (nI cu)), (17, .int (nI j)), (16, .int (nI y)), (15, .int (nI kd)), (13, .int (nI i)), (12, .int 1), (11, .ref (a 14)), (10, .ref (a 13)), (9, .ref (a 12)), (8, .ref (a 11)), (7, .ref (a 10)), (6, .ref (a 9)), (5, .ref (a 8)), (4, .ref (a 7)), (3, .ref (a 6)), (2, .ref (a 5)), (1, .ref (a 0)), (0, .ref b)] []) : Go p l e room_1 s m args below meth c D N0 23 Q (wW cI cJ cO a S M ([])) (k) (n) 322 [(19, .int (nI ct)), (18, .int (nI cu)), (17, .int (nI j)), (16, .int (nI y)), (15, .int (nI kd)), (13, .int (nI i)), (12, .int 1), (11, .ref (a 14)), (10, .ref (a 13)), (9, .ref (a 12)), (8, .ref (a 11)), (7, .ref (a 10)), (6, .ref (a 9)), (5, .ref (a 8)), (4, .ref (a 7)), (3, .ref (a 6)), (2, .ref (a 5)), (1, .ref (a 0)), (0, .ref b)] [] := by
  refine go_aload_n C 16 dL_law_322 rfl rfl ?_
  refine go_iconst C (v := 0) dL_law_323 (by decide) ?_
  refine lm_n C vin_0_4 dL_law_324 ?_
  rw [ck_0]
  refine go_st (st2 := [.int (nI (lK M))]) (by rw [hn0]) ?_
  refine go_istore C (lo' := [(20, .int (nI (lK M))), (19, .int (nI ct)), (18, .int (nI cu)), (17, .int (nI j)), (16, .int (nI y)), (15, .int (nI kd)), (13, .int (nI i)), (12, .int 1), (11, .ref (a 14)), (10, .ref (a 13)), (9, .ref (a 12)), (8, .ref (a 11)), (7, .ref (a 10)), (6, .ref (a 9)), (5, .ref (a 8)), (4, .ref (a 7)), (3, .ref (a 6)), (2, .ref (a 5)), (1, .ref (a 0)), (0, .ref b)]) dL_law_325 (by decide) rfl ?_
  refine go_aload_n C 17 dL_law_327 rfl rfl ?_
  refine go_iconst C (v := 0) dL_law_328 (by decide) ?_
  refine go_dup2 C dL_law_329 rfl rfl ?_
  refine lm_n C vin_0_4 dL_law_330 ?_
  rw [ck_0]
  refine go_iconst C (v := 1) dL_law_331 (by decide) ?_
  refine go_iadd C dL_law_332 ?_
  refine sm_n C vin_0_4 dL_law_333 ?_
  rw [ck_0]
  refine go_aload C 14 dL_law_334 rfl ?_
  refine go_iload C 0 dL_law_336 rfl ?_
  refine go_iload C 1 dL_law_338 rfl ?_
  refine sm_p C (vp_in_nI (n := lK M) (by omega) (by decide)) dL_law_340 ?_
  rw [cl_nI (i := lK M) (by omega)]
  refine go_w (w2 := wW cI cJ cO a S (qNw M (nI ct)) ([])) rfl ?_
  exact g
set_option maxHeartbeats 4000000 in
theorem law_deposit {p : Program} {l : Launch} {e : Env} {s : State} {m : MethodId} {args : Array Value} {below : List Frame} {meth : Method} {c : Code} {D : va_G} {N0 : Nat} {ret : Option FieldType} {nm : String} {Q : State → Prop} {k n : Nat} {cI cJ cO : ClassId} {a : Nat → Nat} {b i : Nat} {S : CS} {M : LWS} {y kd j cu ct : Nat} (C : Cxt p s m args meth c D (tysW cI cJ cO) N0 cL_law 23 RL ret nm) (hlf : l.stackTraces = false) (hk : k + 60 ≤ 644676 ∧ n + 600 ≤ 7167596) (w : Rl S M) (hy : y < 2 ^ 27) (hj : j < 20) (hcu : cu < 4) (hct : 1 ≤ ct ∧ ct ≤ 10000000) (hn : lK M < 20) (g : ∀ (S2 : CS) (M2 : LWS), Rl S2 M2 → Go p l e room_1 s m args below meth c D N0 23 Q (wW cI cJ cO a S2 M2 []) (k + 60) (n + 600) 1990 [(13, .int (nI i)), (12, .int 1), (11, .ref (a 14)), (10, .ref (a 13)), (9, .ref (a 12)), (8, .ref (a 11)), (7, .ref (a 10)), (6, .ref (a 9)), (5, .ref (a 8)), (4, .ref (a 7)), (3, .ref (a 6)), (2, .ref (a 5)), (1, .ref (a 0)), (0, .ref b)] []) : Go p l e room_1 s m args below meth c D N0 23 Q (wW cI cJ cO a S (qNw M (nI ct)) ([])) (k) (n) 348 [(20, .int (nI (lK M))), (19, .int (nI ct)), (18, .int (nI cu)), (17, .int (nI j)), (16, .int (nI y)), (15, .int (nI kd)), (13, .int (nI i)), (12, .int 1), (11, .ref (a 14)), (10, .ref (a 13)), (9, .ref (a 12)), (8, .ref (a 11)), (7, .ref (a 10)), (6, .ref (a 9)), (5, .ref (a 8)), (4, .ref (a 7)), (3, .ref (a 6)), (2, .ref (a 5)), (1, .ref (a 0)), (0, .ref b)] [] := by
  obtain ⟨hk1, hk2⟩ := hk
  obtain ⟨hn0, hn20⟩ := w.n20
  have wk := w.ok.1
  have w0 := w
  obtain ⟨M9, h9, r9⟩ := w0
  have hnm : ms_n M9 < 20 := by rw [← r9.k]; exact hn
  have hnk : nI (cs_n S) = nI (lK M) := by rw [h9.n, r9.k]
  have hct1 : 1 ≤ (nI ct).toInt := by rw [nI_toInt (by omega)]; omega
  have hct2 : (nI ct).toInt ≤ 10000000 := by rw [nI_toInt (by omega)]; omega
  refine go_aload C 15 dL_law_348 rfl ?_
  refine go_iload C 0 dL_law_350 rfl ?_
  refine go_iload C 2 dL_law_352 rfl ?_
  refine sm_c C (vp_in_nI (n := lK M) (by omega) (by decide)) dL_law_354 ?_
  rw [cl_nI (i := lK M) (by omega)]
  refine go_w (w2 := wW cI cJ cO a S (qDpL M (nI cu) (nI ct)) ([])) rfl ?_
  refine go_aload_n C 18 dL_law_355 rfl rfl ?_
  refine go_iconst C (v := 0) dL_law_356 (by decide) ?_
  refine go_iload C 2 dL_law_357 rfl ?_
  refine go_iload C 1 dL_law_359 rfl ?_
  refine k_RL_81_0 C hlf S (qDpL M (nI cu) (nI ct)) ([]) (nI cu) (nI ct) wk rfl ⟨(Nat.le_of_ble_eq_true rfl), (Nat.le_of_ble_eq_true rfl)⟩ ⟨(show _ ≤ 644676 by omega), (show _ ≤ 7167596 by omega)⟩ (Nat.le_of_ble_eq_true rfl) dL_law_361 (fun q9 c9 => ?_) (fun c9 => absurd (op_deposit h9 r9 hnm (vp_in_nI (n := cu) hcu (by decide)) hct1 hct2 0).1 c9)
  refine go_st (st2 := [.int (nI (lK M))]) (by rw [hnk]) ?_
  refine go_iload C 0 dL_law_364 rfl ?_
  refine go_icmp_ne C (tgt := 373) dL_law_366 (by decide) (fun c_1 => absurd c_1 (fun q9 => q9 rfl)) (fun c_1 => ?_)
  refine go_iconst C (v := 1) dL_law_369 (by decide) ?_
  refine go_goto C (tgt := 374) dL_law_370 (by decide) ?_
  refine go_istore C (lo' := [(12, .int 1), (20, .int (nI (lK M))), (19, .int (nI ct)), (18, .int (nI cu)), (17, .int (nI j)), (16, .int (nI y)), (15, .int (nI kd)), (13, .int (nI i)), (11, .ref (a 14)), (10, .ref (a 13)), (9, .ref (a 12)), (8, .ref (a 11)), (7, .ref (a 10)), (6, .ref (a 9)), (5, .ref (a 8)), (4, .ref (a 7)), (3, .ref (a 6)), (2, .ref (a 5)), (1, .ref (a 0)), (0, .ref b)]) dL_law_374 (by decide) rfl ?_
  refine go_goto C (tgt := 517) dL_law_376 (by decide) ?_
  refine go_goto C (tgt := 1990) dL_law_517 (by decide) ?_
  refine go_lo (lo' := [(13, .int (nI i)), (12, .int 1), (11, .ref (a 14)), (10, .ref (a 13)), (9, .ref (a 12)), (8, .ref (a 11)), (7, .ref (a 10)), (6, .ref (a 9)), (5, .ref (a 8)), (4, .ref (a 7)), (3, .ref (a 6)), (2, .ref (a 5)), (1, .ref (a 0)), (0, .ref b)]) [7, 0, 8, 9, 10, 11, 12, 13, 14, 15, 16, 17, 18, 19] rfl ?_
  refine go_widen (k2 := k + 60) (n2 := n + 600) (by omega) (by omega) ?_
  exact g _ _ (op_deposit h9 r9 hnm (vp_in_nI (n := cu) hcu (by decide)) hct1 hct2 q9).2
set_option maxHeartbeats 4000000 in
theorem law_depositTerm {p : Program} {l : Launch} {e : Env} {s : State} {m : MethodId} {args : Array Value} {below : List Frame} {meth : Method} {c : Code} {D : va_G} {N0 : Nat} {ret : Option FieldType} {nm : String} {Q : State → Prop} {k n : Nat} {cI cJ cO : ClassId} {a : Nat → Nat} {b i : Nat} {S : CS} {M : LWS} {y kd j cu ct : Nat} (C : Cxt p s m args meth c D (tysW cI cJ cO) N0 cL_law 23 RL ret nm) (hlf : l.stackTraces = false) (hk : k + 60 ≤ 644676 ∧ n + 600 ≤ 7167596) (w : Rl S M) (hy : y < 2 ^ 27) (hj : j < 20) (hcu : cu < 4) (hct : 1 ≤ ct ∧ ct ≤ 10000000) (hn : lK M < 20) (g : ∀ (S2 : CS) (M2 : LWS), Rl S2 M2 → Go p l e room_1 s m args below meth c D N0 23 Q (wW cI cJ cO a S2 M2 []) (k + 60) (n + 600) 1990 [(13, .int (nI i)), (12, .int 1), (11, .ref (a 14)), (10, .ref (a 13)), (9, .ref (a 12)), (8, .ref (a 11)), (7, .ref (a 10)), (6, .ref (a 9)), (5, .ref (a 8)), (4, .ref (a 7)), (3, .ref (a 6)), (2, .ref (a 5)), (1, .ref (a 0)), (0, .ref b)] []) : Go p l e room_1 s m args below meth c D N0 23 Q (wW cI cJ cO a S (qNw M (nI ct)) ([])) (k) (n) 379 [(20, .int (nI (lK M))), (19, .int (nI ct)), (18, .int (nI cu)), (17, .int (nI j)), (16, .int (nI y)), (15, .int (nI kd)), (13, .int (nI i)), (12, .int 1), (11, .ref (a 14)), (10, .ref (a 13)), (9, .ref (a 12)), (8, .ref (a 11)), (7, .ref (a 10)), (6, .ref (a 9)), (5, .ref (a 8)), (4, .ref (a 7)), (3, .ref (a 6)), (2, .ref (a 5)), (1, .ref (a 0)), (0, .ref b)] [] := by
  obtain ⟨hk1, hk2⟩ := hk
  obtain ⟨hn0, hn20⟩ := w.n20
  have wk := w.ok.1
  have w0 := w
  obtain ⟨M9, h9, r9⟩ := w0
  have hnm : ms_n M9 < 20 := by rw [← r9.k]; exact hn
  have hnk : nI (cs_n S) = nI (lK M) := by rw [h9.n, r9.k]
  have hct1 : 1 ≤ (nI ct).toInt := by rw [nI_toInt (by omega)]; omega
  have hct2 : (nI ct).toInt ≤ 10000000 := by rw [nI_toInt (by omega)]; omega
  have G_1 : ∀ (dd : Nat), (1 ≤ dd ∧ dd ≤ 400) → Go p l e room_1 s m args below meth c D N0 23 Q (wW cI cJ cO a S (qNw M (nI ct)) ([])) (k) (n) 408 [(20, .int (nI (lK M))), (19, .int (nI ct)), (18, .int (nI cu)), (17, .int (nI j)), (16, .int (nI y)), (15, .int (nI kd)), (13, .int (nI i)), (12, .int 1), (11, .ref (a 14)), (10, .ref (a 13)), (9, .ref (a 12)), (8, .ref (a 11)), (7, .ref (a 10)), (6, .ref (a 9)), (5, .ref (a 8)), (4, .ref (a 7)), (3, .ref (a 6)), (2, .ref (a 5)), (1, .ref (a 0)), (0, .ref b)] [.int (nI dd)] := by
    intro dd hG_1
    refine go_istore C (lo' := [(21, .int (nI dd)), (20, .int (nI (lK M))), (19, .int (nI ct)), (18, .int (nI cu)), (17, .int (nI j)), (16, .int (nI y)), (15, .int (nI kd)), (13, .int (nI i)), (12, .int 1), (11, .ref (a 14)), (10, .ref (a 13)), (9, .ref (a 12)), (8, .ref (a 11)), (7, .ref (a 10)), (6, .ref (a 9)), (5, .ref (a 8)), (4, .ref (a 7)), (3, .ref (a 6)), (2, .ref (a 5)), (1, .ref (a 0)), (0, .ref b)]) dL_law_408 (by decide) rfl ?_
    have G_2 : ∀ (vv : Int32), (vv = 0 ∨ vv = 1 ∨ vv = 2) → Go p l e room_1 s m args below meth c D N0 23 Q (wW cI cJ cO a S (qNw M (nI ct)) ([])) (k) (n) 427 [(21, .int (nI dd)), (20, .int (nI (lK M))), (19, .int (nI ct)), (18, .int (nI cu)), (17, .int (nI j)), (16, .int (nI y)), (15, .int (nI kd)), (13, .int (nI i)), (12, .int 1), (11, .ref (a 14)), (10, .ref (a 13)), (9, .ref (a 12)), (8, .ref (a 11)), (7, .ref (a 10)), (6, .ref (a 9)), (5, .ref (a 8)), (4, .ref (a 7)), (3, .ref (a 6)), (2, .ref (a 5)), (1, .ref (a 0)), (0, .ref b)] [.int vv] := by
      intro vv hG_2
      refine go_istore C (lo' := [(22, .int vv), (21, .int (nI dd)), (20, .int (nI (lK M))), (19, .int (nI ct)), (18, .int (nI cu)), (17, .int (nI j)), (16, .int (nI y)), (15, .int (nI kd)), (13, .int (nI i)), (12, .int 1), (11, .ref (a 14)), (10, .ref (a 13)), (9, .ref (a 12)), (8, .ref (a 11)), (7, .ref (a 10)), (6, .ref (a 9)), (5, .ref (a 8)), (4, .ref (a 7)), (3, .ref (a 6)), (2, .ref (a 5)), (1, .ref (a 0)), (0, .ref b)]) dL_law_427 (by decide) rfl ?_
      have hop := fun q9 => op_depositTerm h9 r9 hnm (vp_in_nI (n := cu) hcu (by decide)) hct1 hct2 (d := nI dd) (by rw [nI_toInt (by omega)]; omega) (by rw [nI_toInt (by omega)]; omega) hG_2 q9
      refine go_aload C 17 dL_law_429 rfl ?_
      refine go_iload C 2 dL_law_431 rfl ?_
      refine go_bipush C (v := 10) dL_law_433 (by decide) ?_
      refine go_iload C 4 dL_law_435 rfl ?_
      refine go_iadd C dL_law_437 ?_
      refine go_st (st2 := [.int (nI (10 + cu)), .int (nI (lK M)), .ref (a 7)]) (by rw [show (10 : Int32) = nI 10 from rfl, nI_add]) ?_
      refine sm_c C (vp_in_nI (n := lK M) (by omega) (by decide)) dL_law_438 ?_
      rw [cl_nI (i := lK M) (by omega)]
      refine go_w (w2 := wW cI cJ cO a S (qDt1 M (nI cu) (nI ct)) ([])) (by rw [qDt1, show (10 : Int32) = nI 10 from rfl, nI_add] <;> rfl) ?_
      refine go_aload C 14 dL_law_439 rfl ?_
      refine go_iload C 2 dL_law_441 rfl ?_
      refine go_aload_n C 19 dL_law_443 rfl rfl ?_
      refine go_iconst C (v := 1) dL_law_444 (by decide) ?_
      refine lm_n C vin_1_4 dL_law_445 ?_
      rw [ck_1]
      refine go_iload C 1 dL_law_446 rfl ?_
      refine go_iadd C dL_law_448 ?_
      refine sm_t C (vp_in_nI (n := lK M) (by omega) (by decide)) dL_law_449 ?_
      rw [cl_nI (i := lK M) (by omega)]
      refine go_w (w2 := wW cI cJ cO a S (qDt2 M (nI cu) (nI ct) (nI dd)) ([])) rfl ?_
      refine go_aload C 12 dL_law_450 rfl ?_
      refine go_iload C 2 dL_law_452 rfl ?_
      refine go_iload C 3 dL_law_454 rfl ?_
      refine go_i2l C dL_law_456 ?_
      refine go_aload_n C 19 dL_law_457 rfl rfl ?_
      refine go_iconst C (v := 3) dL_law_458 (by decide) ?_
      refine lm_n C vin_3_4 dL_law_459 ?_
      rw [ck_3]
      refine go_i2l C dL_law_460 ?_
      refine go_lmul C dL_law_461 ?_
      refine sm_w C (vp_in_nI (n := lK M) (by omega) (by decide)) dL_law_462 ?_
      rw [cl_nI (i := lK M) (by omega)]
      refine go_w (w2 := wW cI cJ cO a S (qDt3 M (nI cu) (nI ct) (nI dd)) ([])) rfl ?_
      refine go_aload C 13 dL_law_463 rfl ?_
      refine go_iconst C (v := 3) dL_law_465 (by decide) ?_
      refine go_iload C 2 dL_law_466 rfl ?_
      refine go_imul C dL_law_468 ?_
      refine go_st (st2 := [.int (nI (3 * (lK M))), .ref (a 11)]) (by rw [i3m]) ?_
      refine go_iload C 1 dL_law_469 rfl ?_
      refine sm_d C (vp_in_nI (n := 3 * (lK M)) (by omega) (by decide)) dL_law_471 ?_
      rw [cl_nI (i := 3 * (lK M)) (by omega)]
      refine go_aload C 13 dL_law_472 rfl ?_
      refine go_iconst C (v := 3) dL_law_474 (by decide) ?_
      refine go_iload C 2 dL_law_475 rfl ?_
      refine go_imul C dL_law_477 ?_
      refine go_st (st2 := [.int (nI (3 * (lK M))), .ref (a 11)]) (by rw [i3m]) ?_
      refine go_iconst C (v := 1) dL_law_478 (by decide) ?_
      refine go_iadd C dL_law_479 ?_
      refine go_st (st2 := [.int (nI ((3 * (lK M)) + 1)), .ref (a 11)]) (by rw [show (1 : Int32) = nI 1 from rfl, nI_add]) ?_
      refine go_iload C 0 dL_law_480 rfl ?_
      refine sm_d C (vp_in_nI (n := (3 * (lK M)) + 1) (by omega) (by decide)) dL_law_482 ?_
      rw [cl_nI (i := (3 * (lK M)) + 1) (by omega)]
      refine go_aload C 13 dL_law_483 rfl ?_
      refine go_iconst C (v := 3) dL_law_485 (by decide) ?_
      refine go_iload C 2 dL_law_486 rfl ?_
      refine go_imul C dL_law_488 ?_
      refine go_st (st2 := [.int (nI (3 * (lK M))), .ref (a 11)]) (by rw [i3m]) ?_
      refine go_iconst C (v := 2) dL_law_489 (by decide) ?_
      refine go_iadd C dL_law_490 ?_
      refine go_st (st2 := [.int (nI ((3 * (lK M)) + 2)), .ref (a 11)]) (by rw [show (2 : Int32) = nI 2 from rfl, nI_add]) ?_
      refine go_iconst C (v := (-1)) dL_law_491 (by decide) ?_
      refine sm_d C (vp_in_nI (n := (3 * (lK M)) + 2) (by omega) (by decide)) dL_law_492 ?_
      rw [cl_nI (i := (3 * (lK M)) + 2) (by omega)]
      refine go_w (w2 := wW cI cJ cO a S (qDt4 M (nI cu) (nI ct) (nI dd) vv) ([])) rfl ?_
      refine go_aload_n C 20 dL_law_493 rfl rfl ?_
      refine go_iload C 4 dL_law_494 rfl ?_
      refine go_iload C 3 dL_law_496 rfl ?_
      refine go_iload C 1 dL_law_498 rfl ?_
      refine go_iload C 0 dL_law_500 rfl ?_
      refine k_RL_118 C hlf S (qDt4 M (nI cu) (nI ct) (nI dd) vv) ([]) (nI cu) (nI ct) (nI dd) vv wk rfl ⟨(Nat.le_of_ble_eq_true rfl), (Nat.le_of_ble_eq_true rfl)⟩ ⟨(show _ ≤ 644676 by omega), (show _ ≤ 7167596 by omega)⟩ (Nat.le_of_ble_eq_true rfl) dL_law_502 (fun E hE => absurd (hop 0).1 hE.1) (fun q9 c9 => ?_)
      refine go_st (st2 := [.int (nI (lK M))]) (by rw [hnk]) ?_
      refine go_iload C 2 dL_law_505 rfl ?_
      refine go_icmp_ne C (tgt := 514) dL_law_507 (by decide) (fun c_3 => absurd c_3 (fun q9 => q9 rfl)) (fun c_3 => ?_)
      refine go_iconst C (v := 1) dL_law_510 (by decide) ?_
      refine go_goto C (tgt := 515) dL_law_511 (by decide) ?_
      refine go_istore C (lo' := [(12, .int 1), (22, .int vv), (21, .int (nI dd)), (20, .int (nI (lK M))), (19, .int (nI ct)), (18, .int (nI cu)), (17, .int (nI j)), (16, .int (nI y)), (15, .int (nI kd)), (13, .int (nI i)), (11, .ref (a 14)), (10, .ref (a 13)), (9, .ref (a 12)), (8, .ref (a 11)), (7, .ref (a 10)), (6, .ref (a 9)), (5, .ref (a 8)), (4, .ref (a 7)), (3, .ref (a 6)), (2, .ref (a 5)), (1, .ref (a 0)), (0, .ref b)]) dL_law_515 (by decide) rfl ?_
      refine go_goto C (tgt := 1990) dL_law_517 (by decide) ?_
      refine go_lo (lo' := [(13, .int (nI i)), (12, .int 1), (11, .ref (a 14)), (10, .ref (a 13)), (9, .ref (a 12)), (8, .ref (a 11)), (7, .ref (a 10)), (6, .ref (a 9)), (5, .ref (a 8)), (4, .ref (a 7)), (3, .ref (a 6)), (2, .ref (a 5)), (1, .ref (a 0)), (0, .ref b)]) [9, 0, 10, 11, 12, 13, 14, 15, 16, 17, 18, 19, 20, 21] rfl ?_
      refine go_widen (k2 := k + 60) (n2 := n + 600) (by omega) (by omega) ?_
      exact g _ _ (hop q9).2
    refine go_iload C 5 dL_law_410 rfl ?_
    refine go_iconst C (v := 5) dL_law_412 (by decide) ?_
    refine go_irem C dL_law_413 (by decide) ?_
    refine go_st (st2 := [.int (nI (y % 5))]) (by rw [q_rem (D := 5) 5 (by omega) (by omega) (by omega) rfl]) ?_
    refine go_if_ne C (tgt := 421) dL_law_414 (by decide) (fun c_4 => ?_) (fun c_4 => ?_)
    · refine go_iconst C (v := 1) dL_law_421 (by decide) ?_
      refine go_iload C 5 dL_law_422 rfl ?_
      refine go_iconst C (v := 2) dL_law_424 (by decide) ?_
      refine go_irem C dL_law_425 (by decide) ?_
      refine go_st (st2 := [.int (nI (y % 2)), .int 1]) (by rw [q_rem (D := 2) 2 (by omega) (by omega) (by omega) rfl]) ?_
      refine go_iadd C dL_law_426 ?_
      refine go_st (st2 := [.int (nI (1 + (y % 2)))]) (by rw [show (1 : Int32) = nI 1 from rfl, nI_add]) ?_
      exact G_2 _ (three_or (by omega))
    · refine go_iconst C (v := 0) dL_law_417 (by decide) ?_
      refine go_goto C (tgt := 427) dL_law_418 (by decide) ?_
      exact G_2 _ (Or.inl rfl)
  refine go_iload C 4 dL_law_379 rfl ?_
  refine go_iconst C (v := 3) dL_law_381 (by decide) ?_
  refine go_irem C dL_law_382 (by decide) ?_
  refine go_st (st2 := [.int (nI (y % 3))]) (by rw [q_rem (D := 3) 3 (by omega) (by omega) (by omega) rfl]) ?_
  refine go_if_ne C (tgt := 399) dL_law_383 (by decide) (fun c_5 => ?_) (fun c_5 => ?_)
  · refine go_iconst C (v := 1) dL_law_399 (by decide) ?_
    refine go_iload C 4 dL_law_400 rfl ?_
    refine go_iconst C (v := 5) dL_law_402 (by decide) ?_
    refine go_idiv C dL_law_403 (by decide) ?_
    refine go_st (st2 := [.int (nI (y / 5)), .int 1]) (by rw [q_div (D := 5) 5 (by omega) (by omega) (by omega) rfl]) ?_
    refine go_bipush C (v := 20) dL_law_404 (by decide) ?_
    refine go_irem C dL_law_406 (by decide) ?_
    refine go_st (st2 := [.int (nI ((y / 5) % 20)), .int 1]) (by rw [q_rem (D := 20) 20 (by omega) (by omega) (by omega) rfl]) ?_
    refine go_iadd C dL_law_407 ?_
    refine go_st (st2 := [.int (nI (1 + ((y / 5) % 20)))]) (by rw [show (1 : Int32) = nI 1 from rfl, nI_add]) ?_
    exact G_1 (1 + ((y / 5) % 20)) ⟨by omega, by omega⟩
  · refine go_iconst C (v := 1) dL_law_386 (by decide) ?_
    refine go_iload C 4 dL_law_387 rfl ?_
    refine go_iconst C (v := 5) dL_law_389 (by decide) ?_
    refine go_idiv C dL_law_390 (by decide) ?_
    refine go_st (st2 := [.int (nI (y / 5)), .int 1]) (by rw [q_div (D := 5) 5 (by omega) (by omega) (by omega) rfl]) ?_
    refine go_sipush C (v := 400) dL_law_391 (by decide) ?_
    refine go_irem C dL_law_394 (by decide) ?_
    refine go_st (st2 := [.int (nI ((y / 5) % 400)), .int 1]) (by rw [q_rem (D := 400) 400 (by omega) (by omega) (by omega) rfl]) ?_
    refine go_iadd C dL_law_395 ?_
    refine go_st (st2 := [.int (nI (1 + ((y / 5) % 400)))]) (by rw [show (1 : Int32) = nI 1 from rfl, nI_add]) ?_
    refine go_goto C (tgt := 408) dL_law_396 (by decide) ?_
    exact G_1 (1 + ((y / 5) % 400)) ⟨by omega, by omega⟩
set_option maxHeartbeats 4000000 in
theorem law_case {p : Program} {l : Launch} {e : Env} {s : State} {m : MethodId} {args : Array Value} {below : List Frame} {meth : Method} {c : Code} {D : va_G} {N0 : Nat} {ret : Option FieldType} {nm : String} {Q : State → Prop} {k n : Nat} {cI cJ cO : ClassId} {a : Nat → Nat} {b i : Nat} {S : CS} {M : LWS} {y kd j cu ct : Nat} (C : Cxt p s m args meth c D (tysW cI cJ cO) N0 cL_law 23 RL ret nm) (hlf : l.stackTraces = false) (hk : k + 60 ≤ 644676 ∧ n + 600 ≤ 7167596) (w : Rl S M) (hy : y < 2 ^ 27) (hj : j < 20) (hcu : cu < 4) (hct : 1 ≤ ct ∧ ct ≤ 10000000) (hkd : kd < 20) (g : ∀ (S2 : CS) (M2 : LWS), Rl S2 M2 → Go p l e room_1 s m args below meth c D N0 23 Q (wW cI cJ cO a S2 M2 []) (k + 60) (n + 600) 1990 [(13, .int (nI i)), (12, .int 1), (11, .ref (a 14)), (10, .ref (a 13)), (9, .ref (a 12)), (8, .ref (a 11)), (7, .ref (a 10)), (6, .ref (a 9)), (5, .ref (a 8)), (4, .ref (a 7)), (3, .ref (a 6)), (2, .ref (a 5)), (1, .ref (a 0)), (0, .ref b)] []) : Go p l e room_1 s m args below meth c D N0 23 Q (wW cI cJ cO a S M ([])) (k) (n) 308 [(19, .int (nI ct)), (18, .int (nI cu)), (17, .int (nI j)), (16, .int (nI y)), (15, .int (nI kd)), (13, .int (nI i)), (12, .int 1), (11, .ref (a 14)), (10, .ref (a 13)), (9, .ref (a 12)), (8, .ref (a 11)), (7, .ref (a 10)), (6, .ref (a 9)), (5, .ref (a 8)), (4, .ref (a 7)), (3, .ref (a 6)), (2, .ref (a 5)), (1, .ref (a 0)), (0, .ref b)] [] := by
  obtain ⟨hk1, hk2⟩ := hk
  obtain ⟨hn0, hn20⟩ := w.n20
  refine go_iload C 4 dL_law_308 rfl ?_
  refine go_iconst C (v := 4) dL_law_310 (by decide) ?_
  refine go_icmp_ge C (tgt := 520) dL_law_311 (by decide) (fun c_1 => ?_) (fun c_1 => ?_)
  · refine go_iload C 4 dL_law_520 rfl ?_
    refine go_iconst C (v := 4) dL_law_522 (by decide) ?_
    refine go_icmp_ne C (tgt := 573) dL_law_523 (by decide) (fun c_2 => ?_) (fun c_2 => ?_)
    · refine go_iload C 4 dL_law_573 rfl ?_
      refine go_iconst C (v := 5) dL_law_575 (by decide) ?_
      refine go_icmp_ne C (tgt := 674) dL_law_576 (by decide) (fun c_3 => ?_) (fun c_3 => ?_)
      · refine go_iload C 4 dL_law_674 rfl ?_
        refine go_bipush C (v := 8) dL_law_676 (by decide) ?_
        refine go_icmp_ge C (tgt := 864) dL_law_678 (by decide) (fun c_4 => ?_) (fun c_4 => ?_)
        · refine go_iload C 4 dL_law_864 rfl ?_
          refine go_bipush C (v := 8) dL_law_866 (by decide) ?_
          refine go_icmp_ne C (tgt := 956) dL_law_868 (by decide) (fun c_5 => ?_) (fun c_5 => ?_)
          · refine go_iload C 4 dL_law_956 rfl ?_
            refine go_bipush C (v := 9) dL_law_958 (by decide) ?_
            refine go_icmp_ne C (tgt := 1151) dL_law_960 (by decide) (fun c_6 => ?_) (fun c_6 => ?_)
            · refine go_iload C 4 dL_law_1151 rfl ?_
              refine go_bipush C (v := 13) dL_law_1153 (by decide) ?_
              refine go_icmp_ge C (tgt := 1334) dL_law_1155 (by decide) (fun c_7 => ?_) (fun c_7 => ?_)
              · refine go_iload C 4 dL_law_1334 rfl ?_
                refine go_bipush C (v := 13) dL_law_1336 (by decide) ?_
                refine go_icmp_ne C (tgt := 1442) dL_law_1338 (by decide) (fun c_8 => ?_) (fun c_8 => ?_)
                · refine go_iload C 4 dL_law_1442 rfl ?_
                  refine go_bipush C (v := 14) dL_law_1444 (by decide) ?_
                  refine go_icmp_ne C (tgt := 1616) dL_law_1446 (by decide) (fun c_9 => ?_) (fun c_9 => ?_)
                  · refine go_iload C 4 dL_law_1616 rfl ?_
                    refine go_bipush C (v := 15) dL_law_1618 (by decide) ?_
                    refine go_icmp_ne C (tgt := 1921) dL_law_1620 (by decide) (fun c_10 => ?_) (fun c_10 => ?_)
                    · exact law_pass C hlf ⟨hk1, hk2⟩ w hy hj hcu hct g
                    · refine go_aload_n C 16 dL_law_1623 rfl rfl ?_
                      refine go_iconst C (v := 0) dL_law_1624 (by decide) ?_
                      refine lm_n C vin_0_4 dL_law_1625 ?_
                      rw [ck_0]
                      refine go_if_le C (tgt := 1921) dL_law_1626 (by decide) (fun c_11 => ?_) (fun c_11 => ?_)
                      · exact law_pass C hlf ⟨hk1, hk2⟩ w hy hj hcu hct g
                      · have hn : 0 < lK M := by have h8 := c_11; rw [hn0, i_le, nI_toInt (by omega), i_0] at h8; omega
                        refine law_other0 C hy w hn (fun v0 hv0 => ?_)
                        refine go_iconst C (v := 0) dL_law_1640 (by decide) ?_
                        refine go_istore C (lo' := [(21, .int (nI 0)), (20, .int (nI v0)), (19, .int (nI ct)), (18, .int (nI cu)), (17, .int (nI j)), (16, .int (nI y)), (15, .int (nI kd)), (13, .int (nI i)), (12, .int 1), (11, .ref (a 14)), (10, .ref (a 13)), (9, .ref (a 12)), (8, .ref (a 11)), (7, .ref (a 10)), (6, .ref (a 9)), (5, .ref (a 8)), (4, .ref (a 7)), (3, .ref (a 6)), (2, .ref (a 5)), (1, .ref (a 0)), (0, .ref b)]) dL_law_1641 (by decide) rfl ?_
                        exact law_other C hy w hj (fun v hv => law_join C hlf ⟨hk1, hk2⟩ w hy hj hcu hct hv g) 20 0 v0 (by omega) hv0
                  · exact law_letGo C hlf ⟨hk1, hk2⟩ w hy hj hcu hct g
                · exact law_instruct C hlf ⟨hk1, hk2⟩ w hy hj hcu hct g
              · exact law_early C hlf ⟨hk1, hk2⟩ w hy hj hcu hct g
            · exact law_take C hlf ⟨hk1, hk2⟩ w hy hj hcu hct g
          · exact law_withdraw C hlf ⟨hk1, hk2⟩ w hy hj hcu hct g
        · exact law_give C hlf ⟨hk1, hk2⟩ w hy hj hcu hct g
      · exact law_bands C hlf ⟨hk1, hk2⟩ w hy hj hcu hct g
    · exact law_rate C hlf ⟨hk1, hk2⟩ w hy hj hcu hct g
  · refine go_aload_n C 16 dL_law_314 rfl rfl ?_
    refine go_iconst C (v := 0) dL_law_315 (by decide) ?_
    refine lm_n C vin_0_4 dL_law_316 ?_
    rw [ck_0]
    refine go_bipush C (v := 20) dL_law_317 (by decide) ?_
    refine go_icmp_ge C (tgt := 520) dL_law_319 (by decide) (fun c_12 => ?_) (fun c_12 => ?_)
    · refine go_iload C 4 dL_law_520 rfl ?_
      refine go_iconst C (v := 4) dL_law_522 (by decide) ?_
      refine go_icmp_ne C (tgt := 573) dL_law_523 (by decide) (fun c_13 => ?_) (fun c_13 => ?_)
      · refine go_iload C 4 dL_law_573 rfl ?_
        refine go_iconst C (v := 5) dL_law_575 (by decide) ?_
        refine go_icmp_ne C (tgt := 674) dL_law_576 (by decide) (fun c_14 => ?_) (fun c_14 => ?_)
        · refine go_iload C 4 dL_law_674 rfl ?_
          refine go_bipush C (v := 8) dL_law_676 (by decide) ?_
          refine go_icmp_ge C (tgt := 864) dL_law_678 (by decide) (fun c_15 => ?_) (fun c_15 => ?_)
          · refine go_iload C 4 dL_law_864 rfl ?_
            refine go_bipush C (v := 8) dL_law_866 (by decide) ?_
            refine go_icmp_ne C (tgt := 956) dL_law_868 (by decide) (fun c_16 => ?_) (fun c_16 => ?_)
            · refine go_iload C 4 dL_law_956 rfl ?_
              refine go_bipush C (v := 9) dL_law_958 (by decide) ?_
              refine go_icmp_ne C (tgt := 1151) dL_law_960 (by decide) (fun c_17 => ?_) (fun c_17 => ?_)
              · refine go_iload C 4 dL_law_1151 rfl ?_
                refine go_bipush C (v := 13) dL_law_1153 (by decide) ?_
                refine go_icmp_ge C (tgt := 1334) dL_law_1155 (by decide) (fun c_18 => ?_) (fun c_18 => ?_)
                · refine go_iload C 4 dL_law_1334 rfl ?_
                  refine go_bipush C (v := 13) dL_law_1336 (by decide) ?_
                  refine go_icmp_ne C (tgt := 1442) dL_law_1338 (by decide) (fun c_19 => ?_) (fun c_19 => ?_)
                  · refine go_iload C 4 dL_law_1442 rfl ?_
                    refine go_bipush C (v := 14) dL_law_1444 (by decide) ?_
                    refine go_icmp_ne C (tgt := 1616) dL_law_1446 (by decide) (fun c_20 => ?_) (fun c_20 => ?_)
                    · refine go_iload C 4 dL_law_1616 rfl ?_
                      refine go_bipush C (v := 15) dL_law_1618 (by decide) ?_
                      refine go_icmp_ne C (tgt := 1921) dL_law_1620 (by decide) (fun c_21 => ?_) (fun c_21 => ?_)
                      · exact law_pass C hlf ⟨hk1, hk2⟩ w hy hj hcu hct g
                      · refine go_aload_n C 16 dL_law_1623 rfl rfl ?_
                        refine go_iconst C (v := 0) dL_law_1624 (by decide) ?_
                        refine lm_n C vin_0_4 dL_law_1625 ?_
                        rw [ck_0]
                        refine go_if_le C (tgt := 1921) dL_law_1626 (by decide) (fun c_22 => ?_) (fun c_22 => ?_)
                        · exact law_pass C hlf ⟨hk1, hk2⟩ w hy hj hcu hct g
                        · have hn : 0 < lK M := by have h8 := c_22; rw [hn0, i_le, nI_toInt (by omega), i_0] at h8; omega
                          refine law_other0 C hy w hn (fun v0 hv0 => ?_)
                          refine go_iconst C (v := 0) dL_law_1640 (by decide) ?_
                          refine go_istore C (lo' := [(21, .int (nI 0)), (20, .int (nI v0)), (19, .int (nI ct)), (18, .int (nI cu)), (17, .int (nI j)), (16, .int (nI y)), (15, .int (nI kd)), (13, .int (nI i)), (12, .int 1), (11, .ref (a 14)), (10, .ref (a 13)), (9, .ref (a 12)), (8, .ref (a 11)), (7, .ref (a 10)), (6, .ref (a 9)), (5, .ref (a 8)), (4, .ref (a 7)), (3, .ref (a 6)), (2, .ref (a 5)), (1, .ref (a 0)), (0, .ref b)]) dL_law_1641 (by decide) rfl ?_
                          exact law_other C hy w hj (fun v hv => law_join C hlf ⟨hk1, hk2⟩ w hy hj hcu hct hv g) 20 0 v0 (by omega) hv0
                    · exact law_letGo C hlf ⟨hk1, hk2⟩ w hy hj hcu hct g
                  · exact law_instruct C hlf ⟨hk1, hk2⟩ w hy hj hcu hct g
                · exact law_early C hlf ⟨hk1, hk2⟩ w hy hj hcu hct g
              · exact law_take C hlf ⟨hk1, hk2⟩ w hy hj hcu hct g
            · exact law_withdraw C hlf ⟨hk1, hk2⟩ w hy hj hcu hct g
          · exact law_give C hlf ⟨hk1, hk2⟩ w hy hj hcu hct g
        · exact law_bands C hlf ⟨hk1, hk2⟩ w hy hj hcu hct g
      · exact law_rate C hlf ⟨hk1, hk2⟩ w hy hj hcu hct g
    · have hn : lK M < 20 := by have h8 := c_12; rw [hn0, i_le, nI_toInt (by omega), show (20 : Int32).toInt = 20 from rfl] at h8; omega
      refine law_new C hn hn0 ?_
      refine go_iload C 5 dL_law_341 rfl ?_
      refine go_iconst C (v := 2) dL_law_343 (by decide) ?_
      refine go_irem C dL_law_344 (by decide) ?_
      refine go_st (st2 := [.int (nI (kd % 2))]) (by rw [q_rem (D := 2) 2 (by omega) (by omega) (by omega) rfl]) ?_
      refine go_if_ne C (tgt := 379) dL_law_345 (by decide) (fun c_23 => ?_) (fun c_23 => ?_)
      · exact law_depositTerm C hlf ⟨hk1, hk2⟩ w hy hj hcu hct hn g
      · exact law_deposit C hlf ⟨hk1, hk2⟩ w hy hj hcu hct hn g
