set_option maxHeartbeats 4000000 in
theorem law_other0 {p : Program} {l : Launch} {e : Env} {s : State} {m : MethodId} {args : Array Value} {below : List Frame} {meth : Method} {c : Code} {D : va_G} {N0 : Nat} {ret : Option FieldType} {nm : String} {Q : State → Prop} {k n : Nat} {cI cJ cO : ClassId} {a : Nat → Nat} {b i : Nat} {S : CS} {M : LWS} {y kd j cu ct : Nat} (C : Cxt p s m args meth c D (tysW cI cJ cO) N0 cL_law 23 RL ret nm) (hy : y < 2 ^ 27) (w : Rl S M) (hn : 0 < lK M) (g : ∀ v : Nat, v < lK M → Go p l e room_1 s m args below meth c D N0 23 Q (wW cI cJ cO a S M ([])) (k) (n) 1640 [(20, .int (nI v)), (19, .int (nI ct)), (18, .int (nI cu)), (17, .int (nI j)), (16, .int (nI y)), (15, .int (nI kd)), (13, .int (nI i)), (12, .int 1), (11, .ref (a 14)), (10, .ref (a 13)), (9, .ref (a 12)), (8, .ref (a 11)), (7, .ref (a 10)), (6, .ref (a 9)), (5, .ref (a 8)), (4, .ref (a 7)), (3, .ref (a 6)), (2, .ref (a 5)), (1, .ref (a 0)), (0, .ref b)] []) : Go p l e room_1 s m args below meth c D N0 23 Q (wW cI cJ cO a S M ([])) (k) (n) 1629 [(19, .int (nI ct)), (18, .int (nI cu)), (17, .int (nI j)), (16, .int (nI y)), (15, .int (nI kd)), (13, .int (nI i)), (12, .int 1), (11, .ref (a 14)), (10, .ref (a 13)), (9, .ref (a 12)), (8, .ref (a 11)), (7, .ref (a 10)), (6, .ref (a 9)), (5, .ref (a 8)), (4, .ref (a 7)), (3, .ref (a 6)), (2, .ref (a 5)), (1, .ref (a 0)), (0, .ref b)] [] := by
  obtain ⟨hn0, hn20⟩ := w.n20
  have hz9 : ¬ nI (lK M) = 0 := nI_ne0 hn (by omega)
  refine go_iload C 3 dL_law_1629 rfl ?_
  refine go_bipush C (v := 20) dL_law_1631 (by decide) ?_
  refine go_idiv C dL_law_1633 (by decide) ?_
  refine go_st (st2 := [.int (nI (y / 20))]) (by rw [q_div (D := 20) 20 (by omega) (by omega) (by omega) rfl]) ?_
  refine go_aload_n C 16 dL_law_1634 rfl rfl ?_
  refine go_iconst C (v := 0) dL_law_1635 (by decide) ?_
  refine lm_n C vin_0_4 dL_law_1636 ?_
  rw [ck_0]
  refine go_st (st2 := [.int (nI (lK M)), .int (nI (y / 20))]) (by rw [hn0]) ?_
  refine go_irem C dL_law_1637 hz9 ?_
  refine go_st (st2 := [.int (nI ((y / 20) % (lK M)))]) (by rw [q_rem (D := nI (lK M)) (lK M) (by omega) (by omega) (by omega) rfl]) ?_
  refine go_istore C (lo' := [(20, .int (nI ((y / 20) % (lK M)))), (19, .int (nI ct)), (18, .int (nI cu)), (17, .int (nI j)), (16, .int (nI y)), (15, .int (nI kd)), (13, .int (nI i)), (12, .int 1), (11, .ref (a 14)), (10, .ref (a 13)), (9, .ref (a 12)), (8, .ref (a 11)), (7, .ref (a 10)), (6, .ref (a 9)), (5, .ref (a 8)), (4, .ref (a 7)), (3, .ref (a 6)), (2, .ref (a 5)), (1, .ref (a 0)), (0, .ref b)]) dL_law_1638 (by decide) rfl ?_
  exact g (y / 20 % lK M) (Nat.mod_lt _ hn)
set_option maxHeartbeats 4000000 in
theorem law_other {p : Program} {l : Launch} {e : Env} {s : State} {m : MethodId} {args : Array Value} {below : List Frame} {meth : Method} {c : Code} {D : va_G} {N0 : Nat} {ret : Option FieldType} {nm : String} {Q : State → Prop} {k n : Nat} {cI cJ cO : ClassId} {a : Nat → Nat} {b i : Nat} {S : CS} {M : LWS} {y kd j cu ct : Nat} (C : Cxt p s m args meth c D (tysW cI cJ cO) N0 cL_law 23 RL ret nm) (hy : y < 2 ^ 27) (w : Rl S M) (hj : j < 20) (g : ∀ v : Nat, v < 20 → Go p l e room_1 s m args below meth c D N0 23 Q (wW cI cJ cO a S M ([])) (k) (n) 1715 [(20, .int (nI v)), (19, .int (nI ct)), (18, .int (nI cu)), (17, .int (nI j)), (16, .int (nI y)), (15, .int (nI kd)), (13, .int (nI i)), (12, .int 1), (11, .ref (a 14)), (10, .ref (a 13)), (9, .ref (a 12)), (8, .ref (a 11)), (7, .ref (a 10)), (6, .ref (a 9)), (5, .ref (a 8)), (4, .ref (a 7)), (3, .ref (a 6)), (2, .ref (a 5)), (1, .ref (a 0)), (0, .ref b)] []) : ∀ (r q v : Nat), q + r = 20 → v < lK M → Go p l e room_1 s m args below meth c D N0 23 Q (wW cI cJ cO a S M ([])) (k) (n) 1643 [(21, .int (nI q)), (20, .int (nI v)), (19, .int (nI ct)), (18, .int (nI cu)), (17, .int (nI j)), (16, .int (nI y)), (15, .int (nI kd)), (13, .int (nI i)), (12, .int 1), (11, .ref (a 14)), (10, .ref (a 13)), (9, .ref (a 12)), (8, .ref (a 11)), (7, .ref (a 10)), (6, .ref (a 9)), (5, .ref (a 8)), (4, .ref (a 7)), (3, .ref (a 6)), (2, .ref (a 5)), (1, .ref (a 0)), (0, .ref b)] [] := by
  obtain ⟨hn0, hn20⟩ := w.n20
  intro r
  induction r with
  | zero =>
    intro q v hqr hv
    refine go_iload C 0 dL_law_1643 rfl ?_
    refine go_aload_n C 18 dL_law_1645 rfl rfl ?_
    refine go_iconst C (v := 0) dL_law_1646 (by decide) ?_
    refine lm_n C vin_0_4 dL_law_1647 ?_
    rw [ck_0]
    refine go_icmp_ge C (tgt := 1715) dL_law_1648 (by decide) (fun c_1 => ?_) (fun c_1 => absurd (by rw [hn0]; exact nI_le (by omega) (by omega)) c_1)
    refine go_lo (lo' := [(20, .int (nI v)), (19, .int (nI ct)), (18, .int (nI cu)), (17, .int (nI j)), (16, .int (nI y)), (15, .int (nI kd)), (13, .int (nI i)), (12, .int 1), (11, .ref (a 14)), (10, .ref (a 13)), (9, .ref (a 12)), (8, .ref (a 11)), (7, .ref (a 10)), (6, .ref (a 9)), (5, .ref (a 8)), (4, .ref (a 7)), (3, .ref (a 6)), (2, .ref (a 5)), (1, .ref (a 0)), (0, .ref b)]) [1, 2, 3, 4, 5, 6, 7, 8, 9, 10, 11, 12, 13, 14, 15, 16, 17, 18, 19, 20] rfl ?_
    exact g v (by omega)
  | succ r ih =>
    intro q v hqr hv
    have hp9 : 0 < lK M := by omega
    have hz9 : ¬ nI (lK M) = 0 := nI_ne0 hp9 (by omega)
    refine go_iload C 0 dL_law_1643 rfl ?_
    refine go_aload_n C 18 dL_law_1645 rfl rfl ?_
    refine go_iconst C (v := 0) dL_law_1646 (by decide) ?_
    refine lm_n C vin_0_4 dL_law_1647 ?_
    rw [ck_0]
    refine go_icmp_ge C (tgt := 1715) dL_law_1648 (by decide) (fun c_1 => ?_) (fun c_1 => ?_)
    · refine go_lo (lo' := [(20, .int (nI v)), (19, .int (nI ct)), (18, .int (nI cu)), (17, .int (nI j)), (16, .int (nI y)), (15, .int (nI kd)), (13, .int (nI i)), (12, .int 1), (11, .ref (a 14)), (10, .ref (a 13)), (9, .ref (a 12)), (8, .ref (a 11)), (7, .ref (a 10)), (6, .ref (a 9)), (5, .ref (a 8)), (4, .ref (a 7)), (3, .ref (a 6)), (2, .ref (a 5)), (1, .ref (a 0)), (0, .ref b)]) [1, 2, 3, 4, 5, 6, 7, 8, 9, 10, 11, 12, 13, 14, 15, 16, 17, 18, 19, 20] rfl ?_
      exact g v (by omega)
    · refine go_iload C 5 dL_law_1651 rfl ?_
      refine go_iconst C (v := 4) dL_law_1653 (by decide) ?_
      refine go_irem C dL_law_1654 (by decide) ?_
      refine go_st (st2 := [.int (nI (y % 4))]) (by rw [q_rem (D := 4) 4 (by omega) (by omega) (by omega) rfl]) ?_
      refine go_if_le C (tgt := 1715) dL_law_1655 (by decide) (fun c_2 => ?_) (fun c_2 => ?_)
      · refine go_lo (lo' := [(20, .int (nI v)), (19, .int (nI ct)), (18, .int (nI cu)), (17, .int (nI j)), (16, .int (nI y)), (15, .int (nI kd)), (13, .int (nI i)), (12, .int 1), (11, .ref (a 14)), (10, .ref (a 13)), (9, .ref (a 12)), (8, .ref (a 11)), (7, .ref (a 10)), (6, .ref (a 9)), (5, .ref (a 8)), (4, .ref (a 7)), (3, .ref (a 6)), (2, .ref (a 5)), (1, .ref (a 0)), (0, .ref b)]) [1, 2, 3, 4, 5, 6, 7, 8, 9, 10, 11, 12, 13, 14, 15, 16, 17, 18, 19, 20] rfl ?_
        exact g v (by omega)
      · refine go_iload C 1 dL_law_1658 rfl ?_
        refine go_iload C 4 dL_law_1660 rfl ?_
        refine go_icmp_eq C (tgt := 1699) dL_law_1662 (by decide) (fun c_3 => ?_) (fun c_3 => ?_)
        · refine go_iload C 1 dL_law_1699 rfl ?_
          refine go_iconst C (v := 1) dL_law_1701 (by decide) ?_
          refine go_iadd C dL_law_1702 ?_
          refine go_st (st2 := [.int (nI (v + 1))]) (by rw [show (1 : Int32) = nI 1 from rfl, nI_add]) ?_
          refine go_aload_n C 18 dL_law_1703 rfl rfl ?_
          refine go_iconst C (v := 0) dL_law_1704 (by decide) ?_
          refine lm_n C vin_0_4 dL_law_1705 ?_
          rw [ck_0]
          refine go_st (st2 := [.int (nI (lK M)), .int (nI (v + 1))]) (by rw [hn0]) ?_
          refine go_irem C dL_law_1706 hz9 ?_
          refine go_st (st2 := [.int (nI ((v + 1) % (lK M)))]) (by rw [q_rem (D := nI (lK M)) (lK M) (by omega) (by omega) (by omega) rfl]) ?_
          refine go_istore C (lo' := [(20, .int (nI ((v + 1) % (lK M)))), (21, .int (nI q)), (19, .int (nI ct)), (18, .int (nI cu)), (17, .int (nI j)), (16, .int (nI y)), (15, .int (nI kd)), (13, .int (nI i)), (12, .int 1), (11, .ref (a 14)), (10, .ref (a 13)), (9, .ref (a 12)), (8, .ref (a 11)), (7, .ref (a 10)), (6, .ref (a 9)), (5, .ref (a 8)), (4, .ref (a 7)), (3, .ref (a 6)), (2, .ref (a 5)), (1, .ref (a 0)), (0, .ref b)]) dL_law_1707 (by decide) rfl ?_
          refine go_iinc C (v := nI (q + 1)) (lo' := [(21, .int (nI (q + 1))), (20, .int (nI ((v + 1) % (lK M)))), (19, .int (nI ct)), (18, .int (nI cu)), (17, .int (nI j)), (16, .int (nI y)), (15, .int (nI kd)), (13, .int (nI i)), (12, .int 1), (11, .ref (a 14)), (10, .ref (a 13)), (9, .ref (a 12)), (8, .ref (a 11)), (7, .ref (a 10)), (6, .ref (a 9)), (5, .ref (a 8)), (4, .ref (a 7)), (3, .ref (a 6)), (2, .ref (a 5)), (1, .ref (a 0)), (0, .ref b)]) 1 dL_law_1709 rfl (nI_1 _) (by decide) rfl ?_
          refine go_goto C (tgt := 1643) dL_law_1712 (by decide) ?_
          refine go_lo (lo' := [(21, .int (nI (q + 1))), (20, .int (nI ((v + 1) % lK M))), (19, .int (nI ct)), (18, .int (nI cu)), (17, .int (nI j)), (16, .int (nI y)), (15, .int (nI kd)), (13, .int (nI i)), (12, .int 1), (11, .ref (a 14)), (10, .ref (a 13)), (9, .ref (a 12)), (8, .ref (a 11)), (7, .ref (a 10)), (6, .ref (a 9)), (5, .ref (a 8)), (4, .ref (a 7)), (3, .ref (a 6)), (2, .ref (a 5)), (1, .ref (a 0)), (0, .ref b)]) [0, 1, 2, 3, 4, 5, 6, 7, 8, 9, 10, 11, 12, 13, 14, 15, 16, 17, 18, 19, 20] rfl ?_
          exact ih (q + 1) ((v + 1) % lK M) (by omega) (Nat.mod_lt _ hp9)
        · refine go_aload C 15 dL_law_1665 rfl ?_
          refine go_iload C 1 dL_law_1667 rfl ?_
          refine lm_p C (vp_in_nI (n := v) (by omega) (by decide)) dL_law_1669 ?_
          rw [cl_nI (i := v) (by omega)]
          refine go_if_eq C (tgt := 1699) dL_law_1670 (by decide) (fun c_4 => ?_) (fun c_4 => ?_)
          · refine go_iload C 1 dL_law_1699 rfl ?_
            refine go_iconst C (v := 1) dL_law_1701 (by decide) ?_
            refine go_iadd C dL_law_1702 ?_
            refine go_st (st2 := [.int (nI (v + 1))]) (by rw [show (1 : Int32) = nI 1 from rfl, nI_add]) ?_
            refine go_aload_n C 18 dL_law_1703 rfl rfl ?_
            refine go_iconst C (v := 0) dL_law_1704 (by decide) ?_
            refine lm_n C vin_0_4 dL_law_1705 ?_
            rw [ck_0]
            refine go_st (st2 := [.int (nI (lK M)), .int (nI (v + 1))]) (by rw [hn0]) ?_
            refine go_irem C dL_law_1706 hz9 ?_
            refine go_st (st2 := [.int (nI ((v + 1) % (lK M)))]) (by rw [q_rem (D := nI (lK M)) (lK M) (by omega) (by omega) (by omega) rfl]) ?_
            refine go_istore C (lo' := [(20, .int (nI ((v + 1) % (lK M)))), (21, .int (nI q)), (19, .int (nI ct)), (18, .int (nI cu)), (17, .int (nI j)), (16, .int (nI y)), (15, .int (nI kd)), (13, .int (nI i)), (12, .int 1), (11, .ref (a 14)), (10, .ref (a 13)), (9, .ref (a 12)), (8, .ref (a 11)), (7, .ref (a 10)), (6, .ref (a 9)), (5, .ref (a 8)), (4, .ref (a 7)), (3, .ref (a 6)), (2, .ref (a 5)), (1, .ref (a 0)), (0, .ref b)]) dL_law_1707 (by decide) rfl ?_
            refine go_iinc C (v := nI (q + 1)) (lo' := [(21, .int (nI (q + 1))), (20, .int (nI ((v + 1) % (lK M)))), (19, .int (nI ct)), (18, .int (nI cu)), (17, .int (nI j)), (16, .int (nI y)), (15, .int (nI kd)), (13, .int (nI i)), (12, .int 1), (11, .ref (a 14)), (10, .ref (a 13)), (9, .ref (a 12)), (8, .ref (a 11)), (7, .ref (a 10)), (6, .ref (a 9)), (5, .ref (a 8)), (4, .ref (a 7)), (3, .ref (a 6)), (2, .ref (a 5)), (1, .ref (a 0)), (0, .ref b)]) 1 dL_law_1709 rfl (nI_1 _) (by decide) rfl ?_
            refine go_goto C (tgt := 1643) dL_law_1712 (by decide) ?_
            refine go_lo (lo' := [(21, .int (nI (q + 1))), (20, .int (nI ((v + 1) % lK M))), (19, .int (nI ct)), (18, .int (nI cu)), (17, .int (nI j)), (16, .int (nI y)), (15, .int (nI kd)), (13, .int (nI i)), (12, .int 1), (11, .ref (a 14)), (10, .ref (a 13)), (9, .ref (a 12)), (8, .ref (a 11)), (7, .ref (a 10)), (6, .ref (a 9)), (5, .ref (a 8)), (4, .ref (a 7)), (3, .ref (a 6)), (2, .ref (a 5)), (1, .ref (a 0)), (0, .ref b)]) [0, 1, 2, 3, 4, 5, 6, 7, 8, 9, 10, 11, 12, 13, 14, 15, 16, 17, 18, 19, 20] rfl ?_
            exact ih (q + 1) ((v + 1) % lK M) (by omega) (Nat.mod_lt _ hp9)
          · refine go_aload C 16 dL_law_1673 rfl ?_
            refine go_iload C 1 dL_law_1675 rfl ?_
            refine lm_c C (vp_in_nI (n := v) (by omega) (by decide)) dL_law_1677 ?_
            rw [cl_nI (i := v) (by omega)]
            refine go_aload C 16 dL_law_1678 rfl ?_
            refine go_iload C 4 dL_law_1680 rfl ?_
            refine lm_c C (vp_in_nI (n := j) (by omega) (by decide)) dL_law_1682 ?_
            rw [cl_nI (i := j) (by omega)]
            refine go_icmp_ne C (tgt := 1699) dL_law_1683 (by decide) (fun c_5 => ?_) (fun c_5 => ?_)
            · refine go_iload C 1 dL_law_1699 rfl ?_
              refine go_iconst C (v := 1) dL_law_1701 (by decide) ?_
              refine go_iadd C dL_law_1702 ?_
              refine go_st (st2 := [.int (nI (v + 1))]) (by rw [show (1 : Int32) = nI 1 from rfl, nI_add]) ?_
              refine go_aload_n C 18 dL_law_1703 rfl rfl ?_
              refine go_iconst C (v := 0) dL_law_1704 (by decide) ?_
              refine lm_n C vin_0_4 dL_law_1705 ?_
              rw [ck_0]
              refine go_st (st2 := [.int (nI (lK M)), .int (nI (v + 1))]) (by rw [hn0]) ?_
              refine go_irem C dL_law_1706 hz9 ?_
              refine go_st (st2 := [.int (nI ((v + 1) % (lK M)))]) (by rw [q_rem (D := nI (lK M)) (lK M) (by omega) (by omega) (by omega) rfl]) ?_
              refine go_istore C (lo' := [(20, .int (nI ((v + 1) % (lK M)))), (21, .int (nI q)), (19, .int (nI ct)), (18, .int (nI cu)), (17, .int (nI j)), (16, .int (nI y)), (15, .int (nI kd)), (13, .int (nI i)), (12, .int 1), (11, .ref (a 14)), (10, .ref (a 13)), (9, .ref (a 12)), (8, .ref (a 11)), (7, .ref (a 10)), (6, .ref (a 9)), (5, .ref (a 8)), (4, .ref (a 7)), (3, .ref (a 6)), (2, .ref (a 5)), (1, .ref (a 0)), (0, .ref b)]) dL_law_1707 (by decide) rfl ?_
              refine go_iinc C (v := nI (q + 1)) (lo' := [(21, .int (nI (q + 1))), (20, .int (nI ((v + 1) % (lK M)))), (19, .int (nI ct)), (18, .int (nI cu)), (17, .int (nI j)), (16, .int (nI y)), (15, .int (nI kd)), (13, .int (nI i)), (12, .int 1), (11, .ref (a 14)), (10, .ref (a 13)), (9, .ref (a 12)), (8, .ref (a 11)), (7, .ref (a 10)), (6, .ref (a 9)), (5, .ref (a 8)), (4, .ref (a 7)), (3, .ref (a 6)), (2, .ref (a 5)), (1, .ref (a 0)), (0, .ref b)]) 1 dL_law_1709 rfl (nI_1 _) (by decide) rfl ?_
              refine go_goto C (tgt := 1643) dL_law_1712 (by decide) ?_
              refine go_lo (lo' := [(21, .int (nI (q + 1))), (20, .int (nI ((v + 1) % lK M))), (19, .int (nI ct)), (18, .int (nI cu)), (17, .int (nI j)), (16, .int (nI y)), (15, .int (nI kd)), (13, .int (nI i)), (12, .int 1), (11, .ref (a 14)), (10, .ref (a 13)), (9, .ref (a 12)), (8, .ref (a 11)), (7, .ref (a 10)), (6, .ref (a 9)), (5, .ref (a 8)), (4, .ref (a 7)), (3, .ref (a 6)), (2, .ref (a 5)), (1, .ref (a 0)), (0, .ref b)]) [0, 1, 2, 3, 4, 5, 6, 7, 8, 9, 10, 11, 12, 13, 14, 15, 16, 17, 18, 19, 20] rfl ?_
              exact ih (q + 1) ((v + 1) % lK M) (by omega) (Nat.mod_lt _ hp9)
            · refine go_aload C 13 dL_law_1686 rfl ?_
              refine go_iload C 1 dL_law_1688 rfl ?_
              refine lm_t C (vp_in_nI (n := v) (by omega) (by decide)) dL_law_1690 ?_
              rw [cl_nI (i := v) (by omega)]
              refine go_aload C 13 dL_law_1691 rfl ?_
              refine go_iload C 4 dL_law_1693 rfl ?_
              refine lm_t C (vp_in_nI (n := j) (by omega) (by decide)) dL_law_1695 ?_
              rw [cl_nI (i := j) (by omega)]
              refine go_icmp_eq C (tgt := 1715) dL_law_1696 (by decide) (fun c_6 => ?_) (fun c_6 => ?_)
              · refine go_lo (lo' := [(20, .int (nI v)), (19, .int (nI ct)), (18, .int (nI cu)), (17, .int (nI j)), (16, .int (nI y)), (15, .int (nI kd)), (13, .int (nI i)), (12, .int 1), (11, .ref (a 14)), (10, .ref (a 13)), (9, .ref (a 12)), (8, .ref (a 11)), (7, .ref (a 10)), (6, .ref (a 9)), (5, .ref (a 8)), (4, .ref (a 7)), (3, .ref (a 6)), (2, .ref (a 5)), (1, .ref (a 0)), (0, .ref b)]) [1, 2, 3, 4, 5, 6, 7, 8, 9, 10, 11, 12, 13, 14, 15, 16, 17, 18, 19, 20] rfl ?_
                exact g v (by omega)
              · refine go_iload C 1 dL_law_1699 rfl ?_
                refine go_iconst C (v := 1) dL_law_1701 (by decide) ?_
                refine go_iadd C dL_law_1702 ?_
                refine go_st (st2 := [.int (nI (v + 1))]) (by rw [show (1 : Int32) = nI 1 from rfl, nI_add]) ?_
                refine go_aload_n C 18 dL_law_1703 rfl rfl ?_
                refine go_iconst C (v := 0) dL_law_1704 (by decide) ?_
                refine lm_n C vin_0_4 dL_law_1705 ?_
                rw [ck_0]
                refine go_st (st2 := [.int (nI (lK M)), .int (nI (v + 1))]) (by rw [hn0]) ?_
                refine go_irem C dL_law_1706 hz9 ?_
                refine go_st (st2 := [.int (nI ((v + 1) % (lK M)))]) (by rw [q_rem (D := nI (lK M)) (lK M) (by omega) (by omega) (by omega) rfl]) ?_
                refine go_istore C (lo' := [(20, .int (nI ((v + 1) % (lK M)))), (21, .int (nI q)), (19, .int (nI ct)), (18, .int (nI cu)), (17, .int (nI j)), (16, .int (nI y)), (15, .int (nI kd)), (13, .int (nI i)), (12, .int 1), (11, .ref (a 14)), (10, .ref (a 13)), (9, .ref (a 12)), (8, .ref (a 11)), (7, .ref (a 10)), (6, .ref (a 9)), (5, .ref (a 8)), (4, .ref (a 7)), (3, .ref (a 6)), (2, .ref (a 5)), (1, .ref (a 0)), (0, .ref b)]) dL_law_1707 (by decide) rfl ?_
                refine go_iinc C (v := nI (q + 1)) (lo' := [(21, .int (nI (q + 1))), (20, .int (nI ((v + 1) % (lK M)))), (19, .int (nI ct)), (18, .int (nI cu)), (17, .int (nI j)), (16, .int (nI y)), (15, .int (nI kd)), (13, .int (nI i)), (12, .int 1), (11, .ref (a 14)), (10, .ref (a 13)), (9, .ref (a 12)), (8, .ref (a 11)), (7, .ref (a 10)), (6, .ref (a 9)), (5, .ref (a 8)), (4, .ref (a 7)), (3, .ref (a 6)), (2, .ref (a 5)), (1, .ref (a 0)), (0, .ref b)]) 1 dL_law_1709 rfl (nI_1 _) (by decide) rfl ?_
                refine go_goto C (tgt := 1643) dL_law_1712 (by decide) ?_
                refine go_lo (lo' := [(21, .int (nI (q + 1))), (20, .int (nI ((v + 1) % lK M))), (19, .int (nI ct)), (18, .int (nI cu)), (17, .int (nI j)), (16, .int (nI y)), (15, .int (nI kd)), (13, .int (nI i)), (12, .int 1), (11, .ref (a 14)), (10, .ref (a 13)), (9, .ref (a 12)), (8, .ref (a 11)), (7, .ref (a 10)), (6, .ref (a 9)), (5, .ref (a 8)), (4, .ref (a 7)), (3, .ref (a 6)), (2, .ref (a 5)), (1, .ref (a 0)), (0, .ref b)]) [0, 1, 2, 3, 4, 5, 6, 7, 8, 9, 10, 11, 12, 13, 14, 15, 16, 17, 18, 19, 20] rfl ?_
                exact ih (q + 1) ((v + 1) % lK M) (by omega) (Nat.mod_lt _ hp9)
set_option maxHeartbeats 4000000 in
theorem law_join {p : Program} {l : Launch} {e : Env} {s : State} {m : MethodId} {args : Array Value} {below : List Frame} {meth : Method} {c : Code} {D : va_G} {N0 : Nat} {ret : Option FieldType} {nm : String} {Q : State → Prop} {k n : Nat} {cI cJ cO : ClassId} {a : Nat → Nat} {b i : Nat} {S : CS} {M : LWS} {y kd j cu ct v : Nat} (C : Cxt p s m args meth c D (tysW cI cJ cO) N0 cL_law 23 RL ret nm) (hlf : l.stackTraces = false) (hk : k + 60 ≤ 644676 ∧ n + 600 ≤ 7167596) (w : Rl S M) (hy : y < 2 ^ 27) (hj : j < 20) (hcu : cu < 4) (hct : 1 ≤ ct ∧ ct ≤ 10000000) (hv : v < 20) (g : ∀ (S2 : CS) (M2 : LWS), Rl S2 M2 → Go p l e room_1 s m args below meth c D N0 23 Q (wW cI cJ cO a S2 M2 []) (k + 60) (n + 600) 1990 [(13, .int (nI i)), (12, .int 1), (11, .ref (a 14)), (10, .ref (a 13)), (9, .ref (a 12)), (8, .ref (a 11)), (7, .ref (a 10)), (6, .ref (a 9)), (5, .ref (a 8)), (4, .ref (a 7)), (3, .ref (a 6)), (2, .ref (a 5)), (1, .ref (a 0)), (0, .ref b)] []) : Go p l e room_1 s m args below meth c D N0 23 Q (wW cI cJ cO a S M ([])) (k) (n) 1715 [(20, .int (nI v)), (19, .int (nI ct)), (18, .int (nI cu)), (17, .int (nI j)), (16, .int (nI y)), (15, .int (nI kd)), (13, .int (nI i)), (12, .int 1), (11, .ref (a 14)), (10, .ref (a 13)), (9, .ref (a 12)), (8, .ref (a 11)), (7, .ref (a 10)), (6, .ref (a 9)), (5, .ref (a 8)), (4, .ref (a 7)), (3, .ref (a 6)), (2, .ref (a 5)), (1, .ref (a 0)), (0, .ref b)] [] := by
  obtain ⟨hk1, hk2⟩ := hk
  obtain ⟨hn0, hn20⟩ := w.n20
  have wk := w.ok.1
  have w0 := w
  obtain ⟨M9, h9, r9⟩ := w0
  have hop := op_join h9 r9 hj hv
  refine go_join (wW cI cJ cO a S M ([])) 1772 [(20, .int (nI v)), (19, .int (nI ct)), (18, .int (nI cu)), (17, .int (nI j)), (16, .int (nI y)), (15, .int (nI kd)), (13, .int (nI i)), (12, .int 1), (11, .ref (a 14)), (10, .ref (a 13)), (9, .ref (a 12)), (8, .ref (a 11)), (7, .ref (a 10)), (6, .ref (a 9)), (5, .ref (a 8)), (4, .ref (a 7)), (3, .ref (a 6)), (2, .ref (a 5)), (1, .ref (a 0)), (0, .ref b)] [.int (qJoC M j v)] ?_ (fun G_1 => ?_)
  · refine go_istore C (lo' := [(21, .int (qJoC M j v)), (20, .int (nI v)), (19, .int (nI ct)), (18, .int (nI cu)), (17, .int (nI j)), (16, .int (nI y)), (15, .int (nI kd)), (13, .int (nI i)), (12, .int 1), (11, .ref (a 14)), (10, .ref (a 13)), (9, .ref (a 12)), (8, .ref (a 11)), (7, .ref (a 10)), (6, .ref (a 9)), (5, .ref (a 8)), (4, .ref (a 7)), (3, .ref (a 6)), (2, .ref (a 5)), (1, .ref (a 0)), (0, .ref b)]) dL_law_1772 (by decide) rfl ?_
    refine go_join (wW cI cJ cO a S M ([])) 1828 [(21, .int (qJoC M j v)), (20, .int (nI v)), (19, .int (nI ct)), (18, .int (nI cu)), (17, .int (nI j)), (16, .int (nI y)), (15, .int (nI kd)), (13, .int (nI i)), (12, .int 1), (11, .ref (a 14)), (10, .ref (a 13)), (9, .ref (a 12)), (8, .ref (a 11)), (7, .ref (a 10)), (6, .ref (a 9)), (5, .ref (a 8)), (4, .ref (a 7)), (3, .ref (a 6)), (2, .ref (a 5)), (1, .ref (a 0)), (0, .ref b)] [.int (qJoD M j v)] ?_ (fun G_2 => ?_)
    · refine go_istore C (lo' := [(22, .int (qJoD M j v)), (21, .int (qJoC M j v)), (20, .int (nI v)), (19, .int (nI ct)), (18, .int (nI cu)), (17, .int (nI j)), (16, .int (nI y)), (15, .int (nI kd)), (13, .int (nI i)), (12, .int 1), (11, .ref (a 14)), (10, .ref (a 13)), (9, .ref (a 12)), (8, .ref (a 11)), (7, .ref (a 10)), (6, .ref (a 9)), (5, .ref (a 8)), (4, .ref (a 7)), (3, .ref (a 6)), (2, .ref (a 5)), (1, .ref (a 0)), (0, .ref b)]) dL_law_1828 (by decide) rfl ?_
      refine go_join (wW cI cJ cO a S (qJoL M j v) ([])) 1896 [(22, .int (qJoD M j v)), (21, .int (qJoC M j v)), (20, .int (nI v)), (19, .int (nI ct)), (18, .int (nI cu)), (17, .int (nI j)), (16, .int (nI y)), (15, .int (nI kd)), (13, .int (nI i)), (12, .int 1), (11, .ref (a 14)), (10, .ref (a 13)), (9, .ref (a 12)), (8, .ref (a 11)), (7, .ref (a 10)), (6, .ref (a 9)), (5, .ref (a 8)), (4, .ref (a 7)), (3, .ref (a 6)), (2, .ref (a 5)), (1, .ref (a 0)), (0, .ref b)] [] ?_ (fun G_3 => ?_)
      · refine go_aload_n C 20 dL_law_1896 rfl rfl ?_
        refine go_bipush C (v := 7) dL_law_1897 (by decide) ?_
        refine go_iload C 5 dL_law_1899 rfl ?_
        refine go_iload C 2 dL_law_1901 rfl ?_
        refine k_RL_81_7 C hlf S (qJoL M j v) ([]) (nI j) (nI v) wk ⟨(Nat.le_of_ble_eq_true rfl), (Nat.le_of_ble_eq_true rfl)⟩ ⟨(show _ ≤ 644676 by omega), (show _ ≤ 7167596 by omega)⟩ (Nat.le_of_ble_eq_true rfl) dL_law_1903 (fun c9 => ?_) (fun c9 => ?_)
        · rcases hop with ⟨o1, o2, o3⟩ | ⟨o1, o2, o3⟩
          · refine go_st (st2 := [.int (qJoD M j v)]) (by rw [o2]) ?_
            refine go_iload C 0 dL_law_1906 rfl ?_
            refine go_icmp_ne C (tgt := 1915) dL_law_1908 (by decide) (fun c_4 => absurd c_4 (fun q9 => q9 rfl)) (fun c_4 => ?_)
            refine go_iconst C (v := 1) dL_law_1911 (by decide) ?_
            refine go_goto C (tgt := 1916) dL_law_1912 (by decide) ?_
            refine go_istore C (lo' := [(12, .int 1), (22, .int (qJoD M j v)), (21, .int (qJoC M j v)), (20, .int (nI v)), (19, .int (nI ct)), (18, .int (nI cu)), (17, .int (nI j)), (16, .int (nI y)), (15, .int (nI kd)), (13, .int (nI i)), (11, .ref (a 14)), (10, .ref (a 13)), (9, .ref (a 12)), (8, .ref (a 11)), (7, .ref (a 10)), (6, .ref (a 9)), (5, .ref (a 8)), (4, .ref (a 7)), (3, .ref (a 6)), (2, .ref (a 5)), (1, .ref (a 0)), (0, .ref b)]) dL_law_1916 (by decide) rfl ?_
            refine go_goto C (tgt := 1990) dL_law_1918 (by decide) ?_
            refine go_lo (lo' := [(13, .int (nI i)), (12, .int 1), (11, .ref (a 14)), (10, .ref (a 13)), (9, .ref (a 12)), (8, .ref (a 11)), (7, .ref (a 10)), (6, .ref (a 9)), (5, .ref (a 8)), (4, .ref (a 7)), (3, .ref (a 6)), (2, .ref (a 5)), (1, .ref (a 0)), (0, .ref b)]) [9, 0, 10, 11, 12, 13, 14, 15, 16, 17, 18, 19, 20, 21] rfl ?_
            refine go_widen (k2 := k + 60) (n2 := n + 600) (by omega) (by omega) ?_
            exact g _ _ o3
          · exact absurd c9 o1
        · rcases hop with ⟨o1, o2, o3⟩ | ⟨o1, o2, o3⟩
          · exact absurd o1 c9
          · refine go_st (st2 := [.int (qJoD M j v)]) (by rw [o2]) ?_
            refine go_iload C 0 dL_law_1906 rfl ?_
            refine go_icmp_ne C (tgt := 1915) dL_law_1908 (by decide) (fun c_5 => absurd c_5 (fun q9 => q9 rfl)) (fun c_5 => ?_)
            refine go_iconst C (v := 1) dL_law_1911 (by decide) ?_
            refine go_goto C (tgt := 1916) dL_law_1912 (by decide) ?_
            refine go_istore C (lo' := [(12, .int 1), (22, .int (qJoD M j v)), (21, .int (qJoC M j v)), (20, .int (nI v)), (19, .int (nI ct)), (18, .int (nI cu)), (17, .int (nI j)), (16, .int (nI y)), (15, .int (nI kd)), (13, .int (nI i)), (11, .ref (a 14)), (10, .ref (a 13)), (9, .ref (a 12)), (8, .ref (a 11)), (7, .ref (a 10)), (6, .ref (a 9)), (5, .ref (a 8)), (4, .ref (a 7)), (3, .ref (a 6)), (2, .ref (a 5)), (1, .ref (a 0)), (0, .ref b)]) dL_law_1916 (by decide) rfl ?_
            refine go_goto C (tgt := 1990) dL_law_1918 (by decide) ?_
            refine go_lo (lo' := [(13, .int (nI i)), (12, .int 1), (11, .ref (a 14)), (10, .ref (a 13)), (9, .ref (a 12)), (8, .ref (a 11)), (7, .ref (a 10)), (6, .ref (a 9)), (5, .ref (a 8)), (4, .ref (a 7)), (3, .ref (a 6)), (2, .ref (a 5)), (1, .ref (a 0)), (0, .ref b)]) [9, 0, 10, 11, 12, 13, 14, 15, 16, 17, 18, 19, 20, 21] rfl ?_
            refine go_widen (k2 := k + 60) (n2 := n + 600) (by omega) (by omega) ?_
            exact g _ _ o3
      · refine go_iload C 0 dL_law_1830 rfl ?_
        refine go_if_lt C (tgt := 1896) dL_law_1832 (by decide) (fun c_6 => ?_) (fun c_6 => ?_)
        · refine go_w (w2 := wW cI cJ cO a S (qJoL M j v) ([])) (by rw [qJoL, if_pos c_6] <;> rfl) ?_
          exact G_3
        · refine go_aload C 16 dL_law_1835 rfl ?_
          refine go_iload C 5 dL_law_1837 rfl ?_
          refine go_dup2 C dL_law_1839 rfl rfl ?_
          refine lm_p C (vp_in_nI (n := j) (by omega) (by decide)) dL_law_1840 ?_
          rw [cl_nI (i := j) (by omega)]
          refine go_aload C 16 dL_law_1841 rfl ?_
          refine go_iload C 2 dL_law_1843 rfl ?_
          refine lm_p C (vp_in_nI (n := v) (by omega) (by decide)) dL_law_1845 ?_
          rw [cl_nI (i := v) (by omega)]
          refine go_iadd C dL_law_1846 ?_
          refine sm_p C (vp_in_nI (n := j) (by omega) (by decide)) dL_law_1847 ?_
          rw [cl_nI (i := j) (by omega)]
          refine go_w (w2 := wW cI cJ cO a S (qJo1 M j v) ([])) rfl ?_
          refine go_aload C 11 dL_law_1848 rfl ?_
          refine go_iload C 5 dL_law_1850 rfl ?_
          refine go_dup2 C dL_law_1852 rfl rfl ?_
          refine lm_e C (vp_in_nI (n := j) (by omega) (by decide)) dL_law_1853 ?_
          rw [cl_nI (i := j) (by omega)]
          refine go_aload C 11 dL_law_1854 rfl ?_
          refine go_iload C 2 dL_law_1856 rfl ?_
          refine lm_e C (vp_in_nI (n := v) (by omega) (by decide)) dL_law_1858 ?_
          rw [cl_nI (i := v) (by omega)]
          refine go_ladd C dL_law_1859 ?_
          refine sm_e C (vp_in_nI (n := j) (by omega) (by decide)) dL_law_1860 ?_
          rw [cl_nI (i := j) (by omega)]
          refine go_w (w2 := wW cI cJ cO a S (qJo2 (qJo1 M j v) j v) ([])) rfl ?_
          refine go_aload C 12 dL_law_1861 rfl ?_
          refine go_iload C 5 dL_law_1863 rfl ?_
          refine go_dup2 C dL_law_1865 rfl rfl ?_
          refine lm_w C (vp_in_nI (n := j) (by omega) (by decide)) dL_law_1866 ?_
          rw [cl_nI (i := j) (by omega)]
          refine go_aload C 12 dL_law_1867 rfl ?_
          refine go_iload C 2 dL_law_1869 rfl ?_
          refine lm_w C (vp_in_nI (n := v) (by omega) (by decide)) dL_law_1871 ?_
          rw [cl_nI (i := v) (by omega)]
          refine go_ladd C dL_law_1872 ?_
          refine sm_w C (vp_in_nI (n := j) (by omega) (by decide)) dL_law_1873 ?_
          rw [cl_nI (i := j) (by omega)]
          refine go_w (w2 := wW cI cJ cO a S (qJo3 (qJo2 (qJo1 M j v) j v) j v) ([])) rfl ?_
          refine go_aload C 13 dL_law_1874 rfl ?_
          refine go_iconst C (v := 3) dL_law_1876 (by decide) ?_
          refine go_iload C 5 dL_law_1877 rfl ?_
          refine go_imul C dL_law_1879 ?_
          refine go_st (st2 := [.int (nI (3 * j)), .ref (a 11)]) (by rw [i3m]) ?_
          refine go_iconst C (v := 2) dL_law_1880 (by decide) ?_
          refine go_iadd C dL_law_1881 ?_
          refine go_st (st2 := [.int (nI ((3 * j) + 2)), .ref (a 11)]) (by rw [show (2 : Int32) = nI 2 from rfl, nI_add]) ?_
          refine go_iconst C (v := (-1)) dL_law_1882 (by decide) ?_
          refine sm_d C (vp_in_nI (n := (3 * j) + 2) (by omega) (by decide)) dL_law_1883 ?_
          rw [cl_nI (i := (3 * j) + 2) (by omega)]
          refine go_w (w2 := wW cI cJ cO a S (qJo4 (qJo3 (qJo2 (qJo1 M j v) j v) j v) j) ([])) rfl ?_
          refine go_aload C 16 dL_law_1884 rfl ?_
          refine go_iload C 2 dL_law_1886 rfl ?_
          refine go_iconst C (v := 0) dL_law_1888 (by decide) ?_
          refine sm_p C (vp_in_nI (n := v) (by omega) (by decide)) dL_law_1889 ?_
          rw [cl_nI (i := v) (by omega)]
          refine go_w (w2 := wW cI cJ cO a S (lEn3 (qJo4 (qJo3 (qJo2 (qJo1 M j v) j v) j v) j) v) ([])) rfl ?_
          refine go_aload C 11 dL_law_1890 rfl ?_
          refine go_iload C 2 dL_law_1892 rfl ?_
          refine go_lconst C (v := 0) dL_law_1894 (by decide) ?_
          refine sm_e C (vp_in_nI (n := v) (by omega) (by decide)) dL_law_1895 ?_
          rw [cl_nI (i := v) (by omega)]
          refine go_w (w2 := wW cI cJ cO a S (qJoL M j v) ([])) (by rw [qJoL, if_neg c_6] <;> rfl) ?_
          exact G_3
    · refine go_aload C 15 dL_law_1774 rfl ?_
      refine go_iload C 4 dL_law_1776 rfl ?_
      refine lm_p C (vp_in_nI (n := j) (by omega) (by decide)) dL_law_1778 ?_
      rw [cl_nI (i := j) (by omega)]
      refine go_if_eq C (tgt := 1790) dL_law_1779 (by decide) (fun c_7 => ?_) (fun c_7 => ?_)
      · refine go_bipush C (v := (-11)) dL_law_1790 (by decide) ?_
        refine go_goto C (tgt := 1828) dL_law_1792 (by decide) ?_
        refine go_st (st2 := [.int (qJoD M j v)]) (by simp only [qJoD, if_pos c_7]) ?_
        exact G_2
      · refine go_aload C 15 dL_law_1782 rfl ?_
        refine go_iload C 1 dL_law_1784 rfl ?_
        refine lm_p C (vp_in_nI (n := v) (by omega) (by decide)) dL_law_1786 ?_
        rw [cl_nI (i := v) (by omega)]
        refine go_if_ne C (tgt := 1795) dL_law_1787 (by decide) (fun c_8 => ?_) (fun c_8 => ?_)
        · refine go_iload C 4 dL_law_1795 rfl ?_
          refine go_iload C 1 dL_law_1797 rfl ?_
          refine go_icmp_ne C (tgt := 1807) dL_law_1799 (by decide) (fun c_9 => ?_) (fun c_9 => ?_)
          · refine go_iload C 0 dL_law_1807 rfl ?_
            refine go_if_eq C (tgt := 1826) dL_law_1809 (by decide) (fun c_10 => ?_) (fun c_10 => ?_)
            · refine go_bipush C (v := (-13)) dL_law_1826 (by decide) ?_
              refine go_st (st2 := [.int (qJoD M j v)]) (by simp only [qJoD, if_neg c_7, if_neg c_8, if_neg c_9, if_pos c_10]) ?_
              exact G_2
            · refine go_aload C 15 dL_law_1812 rfl ?_
              refine go_iload C 4 dL_law_1814 rfl ?_
              refine lm_p C (vp_in_nI (n := j) (by omega) (by decide)) dL_law_1816 ?_
              rw [cl_nI (i := j) (by omega)]
              refine go_aload C 15 dL_law_1817 rfl ?_
              refine go_iload C 1 dL_law_1819 rfl ?_
              refine lm_p C (vp_in_nI (n := v) (by omega) (by decide)) dL_law_1821 ?_
              rw [cl_nI (i := v) (by omega)]
              refine go_iadd C dL_law_1822 ?_
              refine go_goto C (tgt := 1828) dL_law_1823 (by decide) ?_
              refine go_st (st2 := [.int (qJoD M j v)]) (by simp only [qJoD, if_neg c_7, if_neg c_8, if_neg c_9, if_neg c_10]) ?_
              exact G_2
          · refine go_bipush C (v := (-12)) dL_law_1802 (by decide) ?_
            refine go_goto C (tgt := 1828) dL_law_1804 (by decide) ?_
            refine go_st (st2 := [.int (qJoD M j v)]) (by simp only [qJoD, if_neg c_7, if_neg c_8, if_pos c_9]) ?_
            exact G_2
        · refine go_bipush C (v := (-11)) dL_law_1790 (by decide) ?_
          refine go_goto C (tgt := 1828) dL_law_1792 (by decide) ?_
          refine go_st (st2 := [.int (qJoD M j v)]) (by simp only [qJoD, if_neg c_7, if_pos c_8]) ?_
          exact G_2
  · refine go_aload C 15 dL_law_1715 rfl ?_
    refine go_iload C 3 dL_law_1717 rfl ?_
    refine lm_c C (vp_in_nI (n := j) (by omega) (by decide)) dL_law_1719 ?_
    rw [cl_nI (i := j) (by omega)]
    refine go_bipush C (v := 10) dL_law_1720 (by decide) ?_
    refine go_icmp_lt C (tgt := 1771) dL_law_1722 (by decide) (fun c_11 => ?_) (fun c_11 => ?_)
    · refine go_iconst C (v := 0) dL_law_1771 (by decide) ?_
      refine go_st (st2 := [.int (qJoC M j v)]) (by simp only [qJoC, if_pos c_11]) ?_
      exact G_1
    · refine go_aload C 15 dL_law_1725 rfl ?_
      refine go_iload C 0 dL_law_1727 rfl ?_
      refine lm_c C (vp_in_nI (n := v) (by omega) (by decide)) dL_law_1729 ?_
      rw [cl_nI (i := v) (by omega)]
      refine go_aload C 15 dL_law_1730 rfl ?_
      refine go_iload C 3 dL_law_1732 rfl ?_
      refine lm_c C (vp_in_nI (n := j) (by omega) (by decide)) dL_law_1734 ?_
      rw [cl_nI (i := j) (by omega)]
      refine go_icmp_ne C (tgt := 1771) dL_law_1735 (by decide) (fun c_12 => ?_) (fun c_12 => ?_)
      · refine go_iconst C (v := 0) dL_law_1771 (by decide) ?_
        refine go_st (st2 := [.int (qJoC M j v)]) (by simp only [qJoC, if_neg c_11, if_neg c_12]) ?_
        exact G_1
      · refine go_aload C 12 dL_law_1738 rfl ?_
        refine go_iload C 0 dL_law_1740 rfl ?_
        refine lm_t C (vp_in_nI (n := v) (by omega) (by decide)) dL_law_1742 ?_
        rw [cl_nI (i := v) (by omega)]
        refine go_aload C 12 dL_law_1743 rfl ?_
        refine go_iload C 3 dL_law_1745 rfl ?_
        refine lm_t C (vp_in_nI (n := j) (by omega) (by decide)) dL_law_1747 ?_
        rw [cl_nI (i := j) (by omega)]
        refine go_icmp_ne C (tgt := 1771) dL_law_1748 (by decide) (fun c_13 => ?_) (fun c_13 => ?_)
        · refine go_iconst C (v := 0) dL_law_1771 (by decide) ?_
          refine go_st (st2 := [.int (qJoC M j v)]) (by simp only [qJoC, if_neg c_11, if_pos c_12, if_neg c_13]) ?_
          exact G_1
        · refine go_aload C 14 dL_law_1751 rfl ?_
          refine go_iload C 3 dL_law_1753 rfl ?_
          refine lm_p C (vp_in_nI (n := j) (by omega) (by decide)) dL_law_1755 ?_
          rw [cl_nI (i := j) (by omega)]
          refine go_aload C 14 dL_law_1756 rfl ?_
          refine go_iload C 0 dL_law_1758 rfl ?_
          refine lm_p C (vp_in_nI (n := v) (by omega) (by decide)) dL_law_1760 ?_
          rw [cl_nI (i := v) (by omega)]
          refine go_iadd C dL_law_1761 ?_
          refine go_ldc C bk_RL_132 dL_law_1762 ?_
          refine go_icmp_gt C (tgt := 1771) dL_law_1764 (by decide) (fun c_14 => ?_) (fun c_14 => ?_)
          · refine go_iconst C (v := 0) dL_law_1771 (by decide) ?_
            refine go_st (st2 := [.int (qJoC M j v)]) (by simp only [qJoC, if_neg c_11, if_pos c_12, if_pos c_13, if_pos c_14]) ?_
            exact G_1
          · refine go_iconst C (v := 1) dL_law_1767 (by decide) ?_
            refine go_goto C (tgt := 1772) dL_law_1768 (by decide) ?_
            refine go_st (st2 := [.int (qJoC M j v)]) (by simp only [qJoC, if_neg c_11, if_pos c_12, if_pos c_13, if_neg c_14]) ?_
            exact G_1
set_option maxHeartbeats 4000000 in
theorem law_early {p : Program} {l : Launch} {e : Env} {s : State} {m : MethodId} {args : Array Value} {below : List Frame} {meth : Method} {c : Code} {D : va_G} {N0 : Nat} {ret : Option FieldType} {nm : String} {Q : State → Prop} {k n : Nat} {cI cJ cO : ClassId} {a : Nat → Nat} {b i : Nat} {S : CS} {M : LWS} {y kd j cu ct : Nat} (C : Cxt p s m args meth c D (tysW cI cJ cO) N0 cL_law 23 RL ret nm) (hlf : l.stackTraces = false) (hk : k + 60 ≤ 644676 ∧ n + 600 ≤ 7167596) (w : Rl S M) (hy : y < 2 ^ 27) (hj : j < 20) (hcu : cu < 4) (hct : 1 ≤ ct ∧ ct ≤ 10000000) (g : ∀ (S2 : CS) (M2 : LWS), Rl S2 M2 → Go p l e room_1 s m args below meth c D N0 23 Q (wW cI cJ cO a S2 M2 []) (k + 60) (n + 600) 1990 [(13, .int (nI i)), (12, .int 1), (11, .ref (a 14)), (10, .ref (a 13)), (9, .ref (a 12)), (8, .ref (a 11)), (7, .ref (a 10)), (6, .ref (a 9)), (5, .ref (a 8)), (4, .ref (a 7)), (3, .ref (a 6)), (2, .ref (a 5)), (1, .ref (a 0)), (0, .ref b)] []) : Go p l e room_1 s m args below meth c D N0 23 Q (wW cI cJ cO a S M ([])) (k) (n) 1158 [(19, .int (nI ct)), (18, .int (nI cu)), (17, .int (nI j)), (16, .int (nI y)), (15, .int (nI kd)), (13, .int (nI i)), (12, .int 1), (11, .ref (a 14)), (10, .ref (a 13)), (9, .ref (a 12)), (8, .ref (a 11)), (7, .ref (a 10)), (6, .ref (a 9)), (5, .ref (a 8)), (4, .ref (a 7)), (3, .ref (a 6)), (2, .ref (a 5)), (1, .ref (a 0)), (0, .ref b)] [] := by
  obtain ⟨hk1, hk2⟩ := hk
  obtain ⟨hn0, hn20⟩ := w.n20
  have wk := w.ok.1
  have w0 := w
  obtain ⟨M9, h9, r9⟩ := w0
  refine go_iconst C (v := 0) dL_law_1158 (by decide) ?_
  refine go_istore C (lo' := [(20, .int 0), (19, .int (nI ct)), (18, .int (nI cu)), (17, .int (nI j)), (16, .int (nI y)), (15, .int (nI kd)), (13, .int (nI i)), (12, .int 1), (11, .ref (a 14)), (10, .ref (a 13)), (9, .ref (a 12)), (8, .ref (a 11)), (7, .ref (a 10)), (6, .ref (a 9)), (5, .ref (a 8)), (4, .ref (a 7)), (3, .ref (a 6)), (2, .ref (a 5)), (1, .ref (a 0)), (0, .ref b)]) dL_law_1159 (by decide) rfl ?_
  refine go_iconst C (v := 0) dL_law_1161 (by decide) ?_
  refine go_istore C (lo' := [(21, .int 0), (20, .int 0), (19, .int (nI ct)), (18, .int (nI cu)), (17, .int (nI j)), (16, .int (nI y)), (15, .int (nI kd)), (13, .int (nI i)), (12, .int 1), (11, .ref (a 14)), (10, .ref (a 13)), (9, .ref (a 12)), (8, .ref (a 11)), (7, .ref (a 10)), (6, .ref (a 9)), (5, .ref (a 8)), (4, .ref (a 7)), (3, .ref (a 6)), (2, .ref (a 5)), (1, .ref (a 0)), (0, .ref b)]) dL_law_1162 (by decide) rfl ?_
  refine go_for (lK M) (fun i9 => True) (fun i9 => wW cI cJ cO a S M ([])) (fun i9 => [(21, .int (nI i9)), (20, .int (lFr (ls_c M) (ls_p M) (ls_f M) (nI cu) i9)), (19, .int (nI ct)), (18, .int (nI cu)), (17, .int (nI j)), (16, .int (nI y)), (15, .int (nI kd)), (13, .int (nI i)), (12, .int 1), (11, .ref (a 14)), (10, .ref (a 13)), (9, .ref (a 12)), (8, .ref (a 11)), (7, .ref (a 10)), (6, .ref (a 9)), (5, .ref (a 8)), (4, .ref (a 7)), (3, .ref (a 6)), (2, .ref (a 5)), (1, .ref (a 0)), (0, .ref b)]) ⟨rfl, rfl⟩ trivial (fun i9 hi_i9 hI_i9 ih_i9 => ?_) (fun hI_i9 => ?_)
  · refine go_iload C 0 dL_law_1164 rfl ?_
    refine go_aload_n C 18 dL_law_1166 rfl rfl ?_
    refine go_iconst C (v := 0) dL_law_1167 (by decide) ?_
    refine lm_n C vin_0_4 dL_law_1168 ?_
    rw [ck_0]
    refine go_icmp_ge C (tgt := 1216) dL_law_1169 (by decide) (fun c_1 => absurd c_1 (by rw [hn0]; exact nI_ge hi_i9 (by omega))) (fun c_1 => ?_)
    refine go_iload C 1 dL_law_1172 rfl ?_
    refine go_aload C 16 dL_law_1174 rfl ?_
    refine go_iload C 0 dL_law_1176 rfl ?_
    refine lm_c C (vp_in_nI (n := i9) (by omega) (by decide)) dL_law_1178 ?_
    rw [cl_nI (i := i9) (by omega)]
    refine go_iload C 3 dL_law_1179 rfl ?_
    refine go_icmp_ne C (tgt := 1206) dL_law_1181 (by decide) (fun c_2 => ?_) (fun c_2 => ?_)
    · refine go_iconst C (v := 0) dL_law_1206 (by decide) ?_
      refine go_iadd C dL_law_1207 ?_
      refine go_istore C (lo' := [(20, .int ((lFr (ls_c M) (ls_p M) (ls_f M) (nI cu) i9) + 0)), (21, .int (nI i9)), (19, .int (nI ct)), (18, .int (nI cu)), (17, .int (nI j)), (16, .int (nI y)), (15, .int (nI kd)), (13, .int (nI i)), (12, .int 1), (11, .ref (a 14)), (10, .ref (a 13)), (9, .ref (a 12)), (8, .ref (a 11)), (7, .ref (a 10)), (6, .ref (a 9)), (5, .ref (a 8)), (4, .ref (a 7)), (3, .ref (a 6)), (2, .ref (a 5)), (1, .ref (a 0)), (0, .ref b)]) dL_law_1208 (by decide) rfl ?_
      refine go_iinc C (v := nI (i9 + 1)) (lo' := [(21, .int (nI (i9 + 1))), (20, .int ((lFr (ls_c M) (ls_p M) (ls_f M) (nI cu) i9) + 0)), (19, .int (nI ct)), (18, .int (nI cu)), (17, .int (nI j)), (16, .int (nI y)), (15, .int (nI kd)), (13, .int (nI i)), (12, .int 1), (11, .ref (a 14)), (10, .ref (a 13)), (9, .ref (a 12)), (8, .ref (a 11)), (7, .ref (a 10)), (6, .ref (a 9)), (5, .ref (a 8)), (4, .ref (a 7)), (3, .ref (a 6)), (2, .ref (a 5)), (1, .ref (a 0)), (0, .ref b)]) 1 dL_law_1210 rfl (nI_1 _) (by decide) rfl ?_
      refine go_goto C (tgt := 1164) dL_law_1213 (by decide) ?_
      refine go_lo (lo' := [(21, .int (nI (i9 + 1))), (20, .int (lFr (ls_c M) (ls_p M) (ls_f M) (nI cu) (i9 + 1))), (19, .int (nI ct)), (18, .int (nI cu)), (17, .int (nI j)), (16, .int (nI y)), (15, .int (nI kd)), (13, .int (nI i)), (12, .int 1), (11, .ref (a 14)), (10, .ref (a 13)), (9, .ref (a 12)), (8, .ref (a 11)), (7, .ref (a 10)), (6, .ref (a 9)), (5, .ref (a 8)), (4, .ref (a 7)), (3, .ref (a 6)), (2, .ref (a 5)), (1, .ref (a 0)), (0, .ref b)]) [0, 1, 2, 3, 4, 5, 6, 7, 8, 9, 10, 11, 12, 13, 14, 15, 16, 17, 18, 19, 20] (by rw [lFr_0 c_2]; rfl) ?_
      exact ih_i9 trivial
    · refine go_aload C 15 dL_law_1184 rfl ?_
      refine go_iload C 0 dL_law_1186 rfl ?_
      refine lm_p C (vp_in_nI (n := i9) (by omega) (by decide)) dL_law_1188 ?_
      rw [cl_nI (i := i9) (by omega)]
      refine go_if_le C (tgt := 1206) dL_law_1189 (by decide) (fun c_3 => ?_) (fun c_3 => ?_)
      · refine go_iconst C (v := 0) dL_law_1206 (by decide) ?_
        refine go_iadd C dL_law_1207 ?_
        refine go_istore C (lo' := [(20, .int ((lFr (ls_c M) (ls_p M) (ls_f M) (nI cu) i9) + 0)), (21, .int (nI i9)), (19, .int (nI ct)), (18, .int (nI cu)), (17, .int (nI j)), (16, .int (nI y)), (15, .int (nI kd)), (13, .int (nI i)), (12, .int 1), (11, .ref (a 14)), (10, .ref (a 13)), (9, .ref (a 12)), (8, .ref (a 11)), (7, .ref (a 10)), (6, .ref (a 9)), (5, .ref (a 8)), (4, .ref (a 7)), (3, .ref (a 6)), (2, .ref (a 5)), (1, .ref (a 0)), (0, .ref b)]) dL_law_1208 (by decide) rfl ?_
        refine go_iinc C (v := nI (i9 + 1)) (lo' := [(21, .int (nI (i9 + 1))), (20, .int ((lFr (ls_c M) (ls_p M) (ls_f M) (nI cu) i9) + 0)), (19, .int (nI ct)), (18, .int (nI cu)), (17, .int (nI j)), (16, .int (nI y)), (15, .int (nI kd)), (13, .int (nI i)), (12, .int 1), (11, .ref (a 14)), (10, .ref (a 13)), (9, .ref (a 12)), (8, .ref (a 11)), (7, .ref (a 10)), (6, .ref (a 9)), (5, .ref (a 8)), (4, .ref (a 7)), (3, .ref (a 6)), (2, .ref (a 5)), (1, .ref (a 0)), (0, .ref b)]) 1 dL_law_1210 rfl (nI_1 _) (by decide) rfl ?_
        refine go_goto C (tgt := 1164) dL_law_1213 (by decide) ?_
        refine go_lo (lo' := [(21, .int (nI (i9 + 1))), (20, .int (lFr (ls_c M) (ls_p M) (ls_f M) (nI cu) (i9 + 1))), (19, .int (nI ct)), (18, .int (nI cu)), (17, .int (nI j)), (16, .int (nI y)), (15, .int (nI kd)), (13, .int (nI i)), (12, .int 1), (11, .ref (a 14)), (10, .ref (a 13)), (9, .ref (a 12)), (8, .ref (a 11)), (7, .ref (a 10)), (6, .ref (a 9)), (5, .ref (a 8)), (4, .ref (a 7)), (3, .ref (a 6)), (2, .ref (a 5)), (1, .ref (a 0)), (0, .ref b)]) [0, 1, 2, 3, 4, 5, 6, 7, 8, 9, 10, 11, 12, 13, 14, 15, 16, 17, 18, 19, 20] (by rw [lFr_1 c_2 c_3]; rfl) ?_
        exact ih_i9 trivial
      · refine go_aload C 15 dL_law_1192 rfl ?_
        refine go_iload C 0 dL_law_1194 rfl ?_
        refine lm_p C (vp_in_nI (n := i9) (by omega) (by decide)) dL_law_1196 ?_
        rw [cl_nI (i := i9) (by omega)]
        refine go_aload C 14 dL_law_1197 rfl ?_
        refine go_iload C 0 dL_law_1199 rfl ?_
        refine lm_f C (vp_in_nI (n := i9) (by omega) (by decide)) dL_law_1201 ?_
        rw [cl_nI (i := i9) (by omega)]
        refine go_isub C dL_law_1202 ?_
        refine go_goto C (tgt := 1207) dL_law_1203 (by decide) ?_
        refine go_iadd C dL_law_1207 ?_
        refine go_istore C (lo' := [(20, .int ((lFr (ls_c M) (ls_p M) (ls_f M) (nI cu) i9) + ((ls_p M i9) - (ls_f M i9)))), (21, .int (nI i9)), (19, .int (nI ct)), (18, .int (nI cu)), (17, .int (nI j)), (16, .int (nI y)), (15, .int (nI kd)), (13, .int (nI i)), (12, .int 1), (11, .ref (a 14)), (10, .ref (a 13)), (9, .ref (a 12)), (8, .ref (a 11)), (7, .ref (a 10)), (6, .ref (a 9)), (5, .ref (a 8)), (4, .ref (a 7)), (3, .ref (a 6)), (2, .ref (a 5)), (1, .ref (a 0)), (0, .ref b)]) dL_law_1208 (by decide) rfl ?_
        refine go_iinc C (v := nI (i9 + 1)) (lo' := [(21, .int (nI (i9 + 1))), (20, .int ((lFr (ls_c M) (ls_p M) (ls_f M) (nI cu) i9) + ((ls_p M i9) - (ls_f M i9)))), (19, .int (nI ct)), (18, .int (nI cu)), (17, .int (nI j)), (16, .int (nI y)), (15, .int (nI kd)), (13, .int (nI i)), (12, .int 1), (11, .ref (a 14)), (10, .ref (a 13)), (9, .ref (a 12)), (8, .ref (a 11)), (7, .ref (a 10)), (6, .ref (a 9)), (5, .ref (a 8)), (4, .ref (a 7)), (3, .ref (a 6)), (2, .ref (a 5)), (1, .ref (a 0)), (0, .ref b)]) 1 dL_law_1210 rfl (nI_1 _) (by decide) rfl ?_
        refine go_goto C (tgt := 1164) dL_law_1213 (by decide) ?_
        refine go_lo (lo' := [(21, .int (nI (i9 + 1))), (20, .int (lFr (ls_c M) (ls_p M) (ls_f M) (nI cu) (i9 + 1))), (19, .int (nI ct)), (18, .int (nI cu)), (17, .int (nI j)), (16, .int (nI y)), (15, .int (nI kd)), (13, .int (nI i)), (12, .int 1), (11, .ref (a 14)), (10, .ref (a 13)), (9, .ref (a 12)), (8, .ref (a 11)), (7, .ref (a 10)), (6, .ref (a 9)), (5, .ref (a 8)), (4, .ref (a 7)), (3, .ref (a 6)), (2, .ref (a 5)), (1, .ref (a 0)), (0, .ref b)]) [0, 1, 2, 3, 4, 5, 6, 7, 8, 9, 10, 11, 12, 13, 14, 15, 16, 17, 18, 19, 20] (by rw [lFr_2 c_2 c_3]; rfl) ?_
        exact ih_i9 trivial
  · refine go_iload C 0 dL_law_1164 rfl ?_
    refine go_aload_n C 18 dL_law_1166 rfl rfl ?_
    refine go_iconst C (v := 0) dL_law_1167 (by decide) ?_
    refine lm_n C vin_0_4 dL_law_1168 ?_
    rw [ck_0]
    refine go_icmp_ge C (tgt := 1216) dL_law_1169 (by decide) (fun c_4 => ?_) (fun c_4 => absurd (by rw [hn0]; exact nI_le (Nat.le_refl _) (by omega)) c_4)
    refine go_lo (lo' := [(20, .int (lFr (ls_c M) (ls_p M) (ls_f M) (nI cu) (lK M))), (19, .int (nI ct)), (18, .int (nI cu)), (17, .int (nI j)), (16, .int (nI y)), (15, .int (nI kd)), (13, .int (nI i)), (12, .int 1), (11, .ref (a 14)), (10, .ref (a 13)), (9, .ref (a 12)), (8, .ref (a 11)), (7, .ref (a 10)), (6, .ref (a 9)), (5, .ref (a 8)), (4, .ref (a 7)), (3, .ref (a 6)), (2, .ref (a 5)), (1, .ref (a 0)), (0, .ref b)]) [1, 2, 3, 4, 5, 6, 7, 8, 9, 10, 11, 12, 13, 14, 15, 16, 17, 18, 19, 20] rfl ?_
    have G_5 : ∀ (mo : Int32), (1 ≤ mo.toInt) → Go p l e room_1 s m args below meth c D N0 23 Q (wW cI cJ cO a S M ([])) (k) (n) 1261 [(20, .int (lFr (ls_c M) (ls_p M) (ls_f M) (nI cu) (lK M))), (19, .int (nI ct)), (18, .int (nI cu)), (17, .int (nI j)), (16, .int (nI y)), (15, .int (nI kd)), (13, .int (nI i)), (12, .int 1), (11, .ref (a 14)), (10, .ref (a 13)), (9, .ref (a 12)), (8, .ref (a 11)), (7, .ref (a 10)), (6, .ref (a 9)), (5, .ref (a 8)), (4, .ref (a 7)), (3, .ref (a 6)), (2, .ref (a 5)), (1, .ref (a 0)), (0, .ref b)] [.int mo] := by
      intro mo hG_5
      refine go_istore C (lo' := [(21, .int mo), (20, .int (lFr (ls_c M) (ls_p M) (ls_f M) (nI cu) (lK M))), (19, .int (nI ct)), (18, .int (nI cu)), (17, .int (nI j)), (16, .int (nI y)), (15, .int (nI kd)), (13, .int (nI i)), (12, .int 1), (11, .ref (a 14)), (10, .ref (a 13)), (9, .ref (a 12)), (8, .ref (a 11)), (7, .ref (a 10)), (6, .ref (a 9)), (5, .ref (a 8)), (4, .ref (a 7)), (3, .ref (a 6)), (2, .ref (a 5)), (1, .ref (a 0)), (0, .ref b)]) dL_law_1261 (by decide) rfl ?_
      have G_6 : ∀ (m2 : Int32), (1 ≤ m2.toInt ∧ m2.toInt ≤ 100000000) → Go p l e room_1 s m args below meth c D N0 23 Q (wW cI cJ cO a S M ([])) (k) (n) 1277 [(21, .int mo), (20, .int (lFr (ls_c M) (ls_p M) (ls_f M) (nI cu) (lK M))), (19, .int (nI ct)), (18, .int (nI cu)), (17, .int (nI j)), (16, .int (nI y)), (15, .int (nI kd)), (13, .int (nI i)), (12, .int 1), (11, .ref (a 14)), (10, .ref (a 13)), (9, .ref (a 12)), (8, .ref (a 11)), (7, .ref (a 10)), (6, .ref (a 9)), (5, .ref (a 8)), (4, .ref (a 7)), (3, .ref (a 6)), (2, .ref (a 5)), (1, .ref (a 0)), (0, .ref b)] [.int m2] := by
        intro m2 hG_6
        refine go_istore C (lo' := [(21, .int m2), (20, .int (lFr (ls_c M) (ls_p M) (ls_f M) (nI cu) (lK M))), (19, .int (nI ct)), (18, .int (nI cu)), (17, .int (nI j)), (16, .int (nI y)), (15, .int (nI kd)), (13, .int (nI i)), (12, .int 1), (11, .ref (a 14)), (10, .ref (a 13)), (9, .ref (a 12)), (8, .ref (a 11)), (7, .ref (a 10)), (6, .ref (a 9)), (5, .ref (a 8)), (4, .ref (a 7)), (3, .ref (a 6)), (2, .ref (a 5)), (1, .ref (a 0)), (0, .ref b)]) dL_law_1277 (by decide) rfl ?_
        have hop := op_early h9 r9 (vp_in_nI (n := cu) hcu (by decide)) hG_6.1 hG_6.2
        refine go_aload_n C 19 dL_law_1279 rfl rfl ?_
        refine go_iconst C (v := 4) dL_law_1280 (by decide) ?_
        refine go_iload C 3 dL_law_1281 rfl ?_
        refine go_iload C 0 dL_law_1283 rfl ?_
        refine k_RL_81_4 C hlf S M ([]) (nI cu) m2 wk ⟨(Nat.le_of_ble_eq_true rfl), (Nat.le_of_ble_eq_true rfl)⟩ ⟨(show _ ≤ 644676 by omega), (show _ ≤ 7167596 by omega)⟩ (Nat.le_of_ble_eq_true rfl) dL_law_1285 (fun c9 => ?_) (fun c9 => ?_)
        · rcases hop with ⟨o1, o2, o3⟩ | ⟨o1, o2, o3⟩
          · refine go_st (st2 := [.int (qEaD M (nI cu) m2)]) (by rw [o2]) ?_
            refine go_iload C 0 dL_law_1288 rfl ?_
            refine go_iload C 1 dL_law_1290 rfl ?_
            refine go_icmp_le C (tgt := 1300) dL_law_1292 (by decide) (fun c_7 => ?_) (fun c_7 => ?_)
            · refine go_aload_n C 18 dL_law_1300 rfl rfl ?_
              refine go_aload_n C 17 dL_law_1301 rfl rfl ?_
              refine go_aload C 16 dL_law_1302 rfl ?_
              refine go_aload C 15 dL_law_1304 rfl ?_
              refine go_aload C 14 dL_law_1306 rfl ?_
              refine go_aload C 11 dL_law_1308 rfl ?_
              refine go_aload C 10 dL_law_1310 rfl ?_
              refine go_aload C 9 dL_law_1312 rfl ?_
              refine go_iload C 3 dL_law_1314 rfl ?_
              refine go_iload C 0 dL_law_1316 rfl ?_
              refine k_RL_133 C (erTo (noteX S (nI cu)) (nI cu) m2 (cs_n S)).2.2 M (nI cu) m2 ⟨hn0, hn20⟩ w.ok.2.2 (vp_in_nI (n := cu) hcu (by decide)) (sr_ok h9 r9 (vp_in_nI (n := cu) hcu (by decide))) ⟨(Nat.le_of_ble_eq_true rfl), (Nat.le_of_ble_eq_true rfl)⟩ ⟨(show _ ≤ 644676 by omega), (show _ ≤ 7167596 by omega)⟩ (Nat.le_of_ble_eq_true rfl) dL_law_1318 ?_
              refine go_icmp_ne C (tgt := 1328) dL_law_1321 (by decide) (fun c_8 => absurd c_8 (fun q9 => q9 (by rw [qEaD, if_pos c_7]))) (fun c_8 => ?_)
              refine go_iconst C (v := 1) dL_law_1324 (by decide) ?_
              refine go_goto C (tgt := 1329) dL_law_1325 (by decide) ?_
              refine go_istore C (lo' := [(12, .int 1), (21, .int m2), (20, .int (lFr (ls_c M) (ls_p M) (ls_f M) (nI cu) (lK M))), (19, .int (nI ct)), (18, .int (nI cu)), (17, .int (nI j)), (16, .int (nI y)), (15, .int (nI kd)), (13, .int (nI i)), (11, .ref (a 14)), (10, .ref (a 13)), (9, .ref (a 12)), (8, .ref (a 11)), (7, .ref (a 10)), (6, .ref (a 9)), (5, .ref (a 8)), (4, .ref (a 7)), (3, .ref (a 6)), (2, .ref (a 5)), (1, .ref (a 0)), (0, .ref b)]) dL_law_1329 (by decide) rfl ?_
              refine go_goto C (tgt := 1990) dL_law_1331 (by decide) ?_
              rw [qEaL, if_pos c_7] at o3
              refine go_lo (lo' := [(13, .int (nI i)), (12, .int 1), (11, .ref (a 14)), (10, .ref (a 13)), (9, .ref (a 12)), (8, .ref (a 11)), (7, .ref (a 10)), (6, .ref (a 9)), (5, .ref (a 8)), (4, .ref (a 7)), (3, .ref (a 6)), (2, .ref (a 5)), (1, .ref (a 0)), (0, .ref b)]) [8, 0, 9, 10, 11, 12, 13, 14, 15, 16, 17, 18, 19, 20] rfl ?_
              refine go_widen (k2 := k + 60) (n2 := n + 600) (by omega) (by omega) ?_
              exact g _ _ o3
            · refine go_bipush C (v := (-13)) dL_law_1295 (by decide) ?_
              refine go_goto C (tgt := 1321) dL_law_1297 (by decide) ?_
              refine go_icmp_ne C (tgt := 1328) dL_law_1321 (by decide) (fun c_9 => absurd c_9 (fun q9 => q9 (by rw [qEaD, if_neg c_7]))) (fun c_9 => ?_)
              refine go_iconst C (v := 1) dL_law_1324 (by decide) ?_
              refine go_goto C (tgt := 1329) dL_law_1325 (by decide) ?_
              refine go_istore C (lo' := [(12, .int 1), (21, .int m2), (20, .int (lFr (ls_c M) (ls_p M) (ls_f M) (nI cu) (lK M))), (19, .int (nI ct)), (18, .int (nI cu)), (17, .int (nI j)), (16, .int (nI y)), (15, .int (nI kd)), (13, .int (nI i)), (11, .ref (a 14)), (10, .ref (a 13)), (9, .ref (a 12)), (8, .ref (a 11)), (7, .ref (a 10)), (6, .ref (a 9)), (5, .ref (a 8)), (4, .ref (a 7)), (3, .ref (a 6)), (2, .ref (a 5)), (1, .ref (a 0)), (0, .ref b)]) dL_law_1329 (by decide) rfl ?_
              refine go_goto C (tgt := 1990) dL_law_1331 (by decide) ?_
              rw [qEaL, if_neg c_7] at o3
              refine go_lo (lo' := [(13, .int (nI i)), (12, .int 1), (11, .ref (a 14)), (10, .ref (a 13)), (9, .ref (a 12)), (8, .ref (a 11)), (7, .ref (a 10)), (6, .ref (a 9)), (5, .ref (a 8)), (4, .ref (a 7)), (3, .ref (a 6)), (2, .ref (a 5)), (1, .ref (a 0)), (0, .ref b)]) [8, 0, 9, 10, 11, 12, 13, 14, 15, 16, 17, 18, 19, 20] rfl ?_
              refine go_widen (k2 := k + 60) (n2 := n + 600) (by omega) (by omega) ?_
              exact g _ _ o3
          · exact absurd c9 o1
        · rcases hop with ⟨o1, o2, o3⟩ | ⟨o1, o2, o3⟩
          · exact absurd o1 c9
          · refine go_st (st2 := [.int (qEaD M (nI cu) m2)]) (by rw [o2]) ?_
            refine go_iload C 0 dL_law_1288 rfl ?_
            refine go_iload C 1 dL_law_1290 rfl ?_
            refine go_icmp_le C (tgt := 1300) dL_law_1292 (by decide) (fun c_10 => ?_) (fun c_10 => ?_)
            · refine go_aload_n C 18 dL_law_1300 rfl rfl ?_
              refine go_aload_n C 17 dL_law_1301 rfl rfl ?_
              refine go_aload C 16 dL_law_1302 rfl ?_
              refine go_aload C 15 dL_law_1304 rfl ?_
              refine go_aload C 14 dL_law_1306 rfl ?_
              refine go_aload C 11 dL_law_1308 rfl ?_
              refine go_aload C 10 dL_law_1310 rfl ?_
              refine go_aload C 9 dL_law_1312 rfl ?_
              refine go_iload C 3 dL_law_1314 rfl ?_
              refine go_iload C 0 dL_law_1316 rfl ?_
              refine k_RL_133 C S M (nI cu) m2 ⟨hn0, hn20⟩ w.ok.2.2 (vp_in_nI (n := cu) hcu (by decide)) (sr_ok h9 r9 (vp_in_nI (n := cu) hcu (by decide))) ⟨(Nat.le_of_ble_eq_true rfl), (Nat.le_of_ble_eq_true rfl)⟩ ⟨(show _ ≤ 644676 by omega), (show _ ≤ 7167596 by omega)⟩ (Nat.le_of_ble_eq_true rfl) dL_law_1318 ?_
              refine go_icmp_ne C (tgt := 1328) dL_law_1321 (by decide) (fun c_11 => absurd c_11 (fun q9 => q9 (by rw [qEaD, if_pos c_10]))) (fun c_11 => ?_)
              refine go_iconst C (v := 1) dL_law_1324 (by decide) ?_
              refine go_goto C (tgt := 1329) dL_law_1325 (by decide) ?_
              refine go_istore C (lo' := [(12, .int 1), (21, .int m2), (20, .int (lFr (ls_c M) (ls_p M) (ls_f M) (nI cu) (lK M))), (19, .int (nI ct)), (18, .int (nI cu)), (17, .int (nI j)), (16, .int (nI y)), (15, .int (nI kd)), (13, .int (nI i)), (11, .ref (a 14)), (10, .ref (a 13)), (9, .ref (a 12)), (8, .ref (a 11)), (7, .ref (a 10)), (6, .ref (a 9)), (5, .ref (a 8)), (4, .ref (a 7)), (3, .ref (a 6)), (2, .ref (a 5)), (1, .ref (a 0)), (0, .ref b)]) dL_law_1329 (by decide) rfl ?_
              refine go_goto C (tgt := 1990) dL_law_1331 (by decide) ?_
              rw [qEaL, if_pos c_10] at o3
              refine go_lo (lo' := [(13, .int (nI i)), (12, .int 1), (11, .ref (a 14)), (10, .ref (a 13)), (9, .ref (a 12)), (8, .ref (a 11)), (7, .ref (a 10)), (6, .ref (a 9)), (5, .ref (a 8)), (4, .ref (a 7)), (3, .ref (a 6)), (2, .ref (a 5)), (1, .ref (a 0)), (0, .ref b)]) [8, 0, 9, 10, 11, 12, 13, 14, 15, 16, 17, 18, 19, 20] rfl ?_
              refine go_widen (k2 := k + 60) (n2 := n + 600) (by omega) (by omega) ?_
              exact g _ _ o3
            · refine go_bipush C (v := (-13)) dL_law_1295 (by decide) ?_
              refine go_goto C (tgt := 1321) dL_law_1297 (by decide) ?_
              refine go_icmp_ne C (tgt := 1328) dL_law_1321 (by decide) (fun c_12 => absurd c_12 (fun q9 => q9 (by rw [qEaD, if_neg c_10]))) (fun c_12 => ?_)
              refine go_iconst C (v := 1) dL_law_1324 (by decide) ?_
              refine go_goto C (tgt := 1329) dL_law_1325 (by decide) ?_
              refine go_istore C (lo' := [(12, .int 1), (21, .int m2), (20, .int (lFr (ls_c M) (ls_p M) (ls_f M) (nI cu) (lK M))), (19, .int (nI ct)), (18, .int (nI cu)), (17, .int (nI j)), (16, .int (nI y)), (15, .int (nI kd)), (13, .int (nI i)), (11, .ref (a 14)), (10, .ref (a 13)), (9, .ref (a 12)), (8, .ref (a 11)), (7, .ref (a 10)), (6, .ref (a 9)), (5, .ref (a 8)), (4, .ref (a 7)), (3, .ref (a 6)), (2, .ref (a 5)), (1, .ref (a 0)), (0, .ref b)]) dL_law_1329 (by decide) rfl ?_
              refine go_goto C (tgt := 1990) dL_law_1331 (by decide) ?_
              rw [qEaL, if_neg c_10] at o3
              refine go_lo (lo' := [(13, .int (nI i)), (12, .int 1), (11, .ref (a 14)), (10, .ref (a 13)), (9, .ref (a 12)), (8, .ref (a 11)), (7, .ref (a 10)), (6, .ref (a 9)), (5, .ref (a 8)), (4, .ref (a 7)), (3, .ref (a 6)), (2, .ref (a 5)), (1, .ref (a 0)), (0, .ref b)]) [8, 0, 9, 10, 11, 12, 13, 14, 15, 16, 17, 18, 19, 20] rfl ?_
              refine go_widen (k2 := k + 60) (n2 := n + 600) (by omega) (by omega) ?_
              exact g _ _ o3
      refine go_iload C 0 dL_law_1263 rfl ?_
      refine go_ldc C bk_RL_132 dL_law_1265 ?_
      refine go_icmp_le C (tgt := 1275) dL_law_1267 (by decide) (fun c_13 => ?_) (fun c_13 => ?_)
      · refine go_iload C 0 dL_law_1275 rfl ?_
        exact G_6 _ ⟨hG_5, by have h8 := c_13; rw [i_le, show (100000000 : Int32).toInt = 100000000 from rfl] at h8; exact h8⟩
      · refine go_ldc C bk_RL_132 dL_law_1270 ?_
        refine go_goto C (tgt := 1277) dL_law_1272 (by decide) ?_
        exact G_6 _ ⟨by decide, by decide⟩
    refine go_iload C 4 dL_law_1216 rfl ?_
    refine go_iconst C (v := 4) dL_law_1218 (by decide) ?_
    refine go_irem C dL_law_1219 (by decide) ?_
    refine go_st (st2 := [.int (nI (y % 4))]) (by rw [q_rem (D := 4) 4 (by omega) (by omega) (by omega) rfl]) ?_
    refine go_if_ne C (tgt := 1228) dL_law_1220 (by decide) (fun c_14 => ?_) (fun c_14 => ?_)
    · refine go_iload C 0 dL_law_1228 rfl ?_
      refine go_iconst C (v := 1) dL_law_1230 (by decide) ?_
      refine go_icmp_ge C (tgt := 1238) dL_law_1231 (by decide) (fun c_15 => ?_) (fun c_15 => ?_)
      · refine go_iload C 4 dL_law_1238 rfl ?_
        refine go_iconst C (v := 4) dL_law_1240 (by decide) ?_
        refine go_irem C dL_law_1241 (by decide) ?_
        refine go_st (st2 := [.int (nI (y % 4))]) (by rw [q_rem (D := 4) 4 (by omega) (by omega) (by omega) rfl]) ?_
        refine go_iconst C (v := 1) dL_law_1242 (by decide) ?_
        refine go_icmp_ne C (tgt := 1251) dL_law_1243 (by decide) (fun c_16 => ?_) (fun c_16 => ?_)
        · have hf1 : 1 ≤ (lFr (ls_c M) (ls_p M) (ls_f M) (nI cu) (lK M)).toInt := by have h8 := c_15; rw [i_le, i_1] at h8; exact h8
          obtain ⟨f9, hf2, hf3⟩ := nI_of (x := (lFr (ls_c M) (ls_p M) (ls_f M) (nI cu) (lK M))) (by rw [i_lt, i_0]; omega)
          have hf4 : 0 < f9 := by rw [hf3, nI_toInt hf2] at hf1; omega
          have hz9 : ¬ nI f9 = 0 := nI_ne0 hf4 hf2
          have hm9 := Nat.mod_lt (y / 9) hf4
          refine go_iconst C (v := 1) dL_law_1251 (by decide) ?_
          refine go_iload C 4 dL_law_1252 rfl ?_
          refine go_bipush C (v := 9) dL_law_1254 (by decide) ?_
          refine go_idiv C dL_law_1256 (by decide) ?_
          refine go_st (st2 := [.int (nI (y / 9)), .int 1]) (by rw [q_div (D := 9) 9 (by omega) (by omega) (by omega) rfl]) ?_
          refine go_iload C 0 dL_law_1257 rfl ?_
          refine go_st (st2 := [.int (nI f9), .int (nI (y / 9)), .int 1]) (by rw [hf3]) ?_
          refine go_irem C dL_law_1259 hz9 ?_
          refine go_st (st2 := [.int (nI ((y / 9) % f9)), .int 1]) (by rw [q_rem (D := nI f9) f9 (by omega) (by omega) (by omega) rfl]) ?_
          refine go_iadd C dL_law_1260 ?_
          refine go_st (st2 := [.int (nI (1 + ((y / 9) % f9)))]) (by rw [show (1 : Int32) = nI 1 from rfl, nI_add]) ?_
          exact G_5 _ (by first | decide | (rw [nI_toInt (by omega)]; omega))
        · refine go_iload C 0 dL_law_1246 rfl ?_
          refine go_goto C (tgt := 1261) dL_law_1248 (by decide) ?_
          exact G_5 _ (by have h8 := c_15; rw [i_le, i_1] at h8; exact h8)
      · refine go_iconst C (v := 1) dL_law_1234 (by decide) ?_
        refine go_goto C (tgt := 1261) dL_law_1235 (by decide) ?_
        exact G_5 _ (by first | decide | (rw [nI_toInt (by omega)]; omega))
    · refine go_iload C 1 dL_law_1223 rfl ?_
      refine go_goto C (tgt := 1261) dL_law_1225 (by decide) ?_
      exact G_5 _ (by first | decide | (rw [nI_toInt (by omega)]; omega))
set_option maxHeartbeats 4000000 in
theorem law_pass {p : Program} {l : Launch} {e : Env} {s : State} {m : MethodId} {args : Array Value} {below : List Frame} {meth : Method} {c : Code} {D : va_G} {N0 : Nat} {ret : Option FieldType} {nm : String} {Q : State → Prop} {k n : Nat} {cI cJ cO : ClassId} {a : Nat → Nat} {b i : Nat} {S : CS} {M : LWS} {y kd j cu ct : Nat} (C : Cxt p s m args meth c D (tysW cI cJ cO) N0 cL_law 23 RL ret nm) (hlf : l.stackTraces = false) (hk : k + 60 ≤ 644676 ∧ n + 600 ≤ 7167596) (w : Rl S M) (hy : y < 2 ^ 27) (hj : j < 20) (hcu : cu < 4) (hct : 1 ≤ ct ∧ ct ≤ 10000000) (g : ∀ (S2 : CS) (M2 : LWS), Rl S2 M2 → Go p l e room_1 s m args below meth c D N0 23 Q (wW cI cJ cO a S2 M2 []) (k + 60) (n + 600) 1990 [(13, .int (nI i)), (12, .int 1), (11, .ref (a 14)), (10, .ref (a 13)), (9, .ref (a 12)), (8, .ref (a 11)), (7, .ref (a 10)), (6, .ref (a 9)), (5, .ref (a 8)), (4, .ref (a 7)), (3, .ref (a 6)), (2, .ref (a 5)), (1, .ref (a 0)), (0, .ref b)] []) : Go p l e room_1 s m args below meth c D N0 23 Q (wW cI cJ cO a S M ([])) (k) (n) 1921 [(19, .int (nI ct)), (18, .int (nI cu)), (17, .int (nI j)), (16, .int (nI y)), (15, .int (nI kd)), (13, .int (nI i)), (12, .int 1), (11, .ref (a 14)), (10, .ref (a 13)), (9, .ref (a 12)), (8, .ref (a 11)), (7, .ref (a 10)), (6, .ref (a 9)), (5, .ref (a 8)), (4, .ref (a 7)), (3, .ref (a 6)), (2, .ref (a 5)), (1, .ref (a 0)), (0, .ref b)] [] := by
  obtain ⟨hk1, hk2⟩ := hk
  obtain ⟨hn0, hn20⟩ := w.n20
  have wk := w.ok.1
  have w0 := w
  obtain ⟨M9, h9, r9⟩ := w0
  refine go_aload_n C 16 dL_law_1921 rfl rfl ?_
  refine go_iconst C (v := 1) dL_law_1922 (by decide) ?_
  refine lm_n C vin_1_4 dL_law_1923 ?_
  rw [ck_1]
  refine go_sipush C (v := 900) dL_law_1924 (by decide) ?_
  refine go_icmp_ge C (tgt := 1990) dL_law_1927 (by decide) (fun c_1 => ?_) (fun c_1 => ?_)
  · refine go_lo (lo' := [(13, .int (nI i)), (12, .int 1), (11, .ref (a 14)), (10, .ref (a 13)), (9, .ref (a 12)), (8, .ref (a 11)), (7, .ref (a 10)), (6, .ref (a 9)), (5, .ref (a 8)), (4, .ref (a 7)), (3, .ref (a 6)), (2, .ref (a 5)), (1, .ref (a 0)), (0, .ref b)]) [5, 6, 7, 8, 9, 10, 11, 12, 13, 14, 15, 16, 17, 18] rfl ?_
    refine go_widen (k2 := k + 60) (n2 := n + 600) (by omega) (by omega) ?_
    exact g _ _ w
  · have G_2 : ∀ (t : Nat), (1 ≤ t ∧ t ≤ 40) → Go p l e room_1 s m args below meth c D N0 23 Q (wW cI cJ cO a S M ([])) (k) (n) 1949 [(19, .int (nI ct)), (18, .int (nI cu)), (17, .int (nI j)), (16, .int (nI y)), (15, .int (nI kd)), (13, .int (nI i)), (12, .int 1), (11, .ref (a 14)), (10, .ref (a 13)), (9, .ref (a 12)), (8, .ref (a 11)), (7, .ref (a 10)), (6, .ref (a 9)), (5, .ref (a 8)), (4, .ref (a 7)), (3, .ref (a 6)), (2, .ref (a 5)), (1, .ref (a 0)), (0, .ref b)] [.int (nI t)] := by
      intro t hG_2
      refine go_istore C (lo' := [(20, .int (nI t)), (19, .int (nI ct)), (18, .int (nI cu)), (17, .int (nI j)), (16, .int (nI y)), (15, .int (nI kd)), (13, .int (nI i)), (12, .int 1), (11, .ref (a 14)), (10, .ref (a 13)), (9, .ref (a 12)), (8, .ref (a 11)), (7, .ref (a 10)), (6, .ref (a 9)), (5, .ref (a 8)), (4, .ref (a 7)), (3, .ref (a 6)), (2, .ref (a 5)), (1, .ref (a 0)), (0, .ref b)]) dL_law_1949 (by decide) rfl ?_
      have h900 : (ls_n M 1).toInt < 900 := by have h8 := c_1; rw [i_le, show (900 : Int32).toInt = 900 from rfl] at h8; omega
      obtain ⟨p1, p2, p3⟩ := op_pass (t := t) h9 r9 (by omega) (by omega) h900
      refine go_aload_n C 18 dL_law_1951 rfl rfl ?_
      refine go_iload C 0 dL_law_1952 rfl ?_
      refine k_RL_137 C hlf S M ([]) (nI t) wk ⟨(Nat.le_of_ble_eq_true rfl), (Nat.le_of_ble_eq_true rfl)⟩ ⟨(show _ ≤ 644676 by omega), (show _ ≤ 7167596 by omega)⟩ (Nat.le_of_ble_eq_true rfl) dL_law_1954 (fun E hE => absurd p1 hE.1) (fun _ => ?_)
      refine go_st (st2 := [.int (lPs M t).1]) (by rw [p2]) ?_
      refine go_aload_n C 17 dL_law_1957 rfl rfl ?_
      refine go_aload_n C 16 dL_law_1958 rfl rfl ?_
      refine go_aload C 15 dL_law_1959 rfl ?_
      refine go_aload C 14 dL_law_1961 rfl ?_
      refine go_aload C 13 dL_law_1963 rfl ?_
      refine go_aload C 12 dL_law_1965 rfl ?_
      refine go_aload C 11 dL_law_1967 rfl ?_
      refine go_aload C 10 dL_law_1969 rfl ?_
      refine go_aload C 9 dL_law_1971 rfl ?_
      refine go_aload C 8 dL_law_1973 rfl ?_
      refine go_iload C 0 dL_law_1975 rfl ?_
      refine k_RL_140 C (psTo (ntTo S 4) (Int32.toNatClampNeg (nI t))).2 M ([]) t ⟨hn0, hn20⟩ w.ok.2.2 (by omega) ⟨(Nat.le_of_ble_eq_true rfl), (Nat.le_of_ble_eq_true rfl)⟩ ⟨(show _ ≤ 644676 by omega), (show _ ≤ 7167596 by omega)⟩ (Nat.le_of_ble_eq_true rfl) dL_law_1977 ?_
      refine go_icmp_ne C (tgt := 1987) dL_law_1980 (by decide) (fun c_3 => absurd c_3 (fun q9 => q9 rfl)) (fun c_3 => ?_)
      refine go_iconst C (v := 1) dL_law_1983 (by decide) ?_
      refine go_goto C (tgt := 1988) dL_law_1984 (by decide) ?_
      refine go_istore C (lo' := [(12, .int 1), (20, .int (nI t)), (19, .int (nI ct)), (18, .int (nI cu)), (17, .int (nI j)), (16, .int (nI y)), (15, .int (nI kd)), (13, .int (nI i)), (11, .ref (a 14)), (10, .ref (a 13)), (9, .ref (a 12)), (8, .ref (a 11)), (7, .ref (a 10)), (6, .ref (a 9)), (5, .ref (a 8)), (4, .ref (a 7)), (3, .ref (a 6)), (2, .ref (a 5)), (1, .ref (a 0)), (0, .ref b)]) dL_law_1988 (by decide) rfl ?_
      refine go_lo (lo' := [(13, .int (nI i)), (12, .int 1), (11, .ref (a 14)), (10, .ref (a 13)), (9, .ref (a 12)), (8, .ref (a 11)), (7, .ref (a 10)), (6, .ref (a 9)), (5, .ref (a 8)), (4, .ref (a 7)), (3, .ref (a 6)), (2, .ref (a 5)), (1, .ref (a 0)), (0, .ref b)]) [7, 0, 8, 9, 10, 11, 12, 13, 14, 15, 16, 17, 18, 19] rfl ?_
      refine go_widen (k2 := k + 60) (n2 := n + 600) (by omega) (by omega) ?_
      exact g _ _ p3
    refine go_iconst C (v := 1) dL_law_1930 (by decide) ?_
    refine go_iload C 3 dL_law_1931 rfl ?_
    refine go_iload C 3 dL_law_1933 rfl ?_
    refine go_iconst C (v := 3) dL_law_1935 (by decide) ?_
    refine go_irem C dL_law_1936 (by decide) ?_
    refine go_st (st2 := [.int (nI (y % 3)), .int (nI y), .int 1]) (by rw [q_rem (D := 3) 3 (by omega) (by omega) (by omega) rfl]) ?_
    refine go_if_ne C (tgt := 1945) dL_law_1937 (by decide) (fun c_4 => ?_) (fun c_4 => ?_)
    · refine go_bipush C (v := 8) dL_law_1945 (by decide) ?_
      refine go_irem C dL_law_1947 (by decide) ?_
      refine go_st (st2 := [.int (nI (y % 8)), .int 1]) (by rw [q_rem (D := 8) 8 (by omega) (by omega) (by omega) rfl]) ?_
      refine go_iadd C dL_law_1948 ?_
      refine go_st (st2 := [.int (nI (1 + (y % 8)))]) (by rw [show (1 : Int32) = nI 1 from rfl, nI_add]) ?_
      exact G_2 (1 + (y % 8)) ⟨by omega, by omega⟩
    · refine go_bipush C (v := 40) dL_law_1940 (by decide) ?_
      refine go_goto C (tgt := 1947) dL_law_1942 (by decide) ?_
      refine go_irem C dL_law_1947 (by decide) ?_
      refine go_st (st2 := [.int (nI (y % 40)), .int 1]) (by rw [q_rem (D := 40) 40 (by omega) (by omega) (by omega) rfl]) ?_
      refine go_iadd C dL_law_1948 ?_
      refine go_st (st2 := [.int (nI (1 + (y % 40)))]) (by rw [show (1 : Int32) = nI 1 from rfl, nI_add]) ?_
      exact G_2 (1 + (y % 40)) ⟨by omega, by omega⟩
set_option maxHeartbeats 4000000 in
theorem law_rate {p : Program} {l : Launch} {e : Env} {s : State} {m : MethodId} {args : Array Value} {below : List Frame} {meth : Method} {c : Code} {D : va_G} {N0 : Nat} {ret : Option FieldType} {nm : String} {Q : State → Prop} {k n : Nat} {cI cJ cO : ClassId} {a : Nat → Nat} {b i : Nat} {S : CS} {M : LWS} {y kd j cu ct : Nat} (C : Cxt p s m args meth c D (tysW cI cJ cO) N0 cL_law 23 RL ret nm) (hlf : l.stackTraces = false) (hk : k + 60 ≤ 644676 ∧ n + 600 ≤ 7167596) (w : Rl S M) (hy : y < 2 ^ 27) (hj : j < 20) (hcu : cu < 4) (hct : 1 ≤ ct ∧ ct ≤ 10000000) (g : ∀ (S2 : CS) (M2 : LWS), Rl S2 M2 → Go p l e room_1 s m args below meth c D N0 23 Q (wW cI cJ cO a S2 M2 []) (k + 60) (n + 600) 1990 [(13, .int (nI i)), (12, .int 1), (11, .ref (a 14)), (10, .ref (a 13)), (9, .ref (a 12)), (8, .ref (a 11)), (7, .ref (a 10)), (6, .ref (a 9)), (5, .ref (a 8)), (4, .ref (a 7)), (3, .ref (a 6)), (2, .ref (a 5)), (1, .ref (a 0)), (0, .ref b)] []) : Go p l e room_1 s m args below meth c D N0 23 Q (wW cI cJ cO a S M ([])) (k) (n) 526 [(19, .int (nI ct)), (18, .int (nI cu)), (17, .int (nI j)), (16, .int (nI y)), (15, .int (nI kd)), (13, .int (nI i)), (12, .int 1), (11, .ref (a 14)), (10, .ref (a 13)), (9, .ref (a 12)), (8, .ref (a 11)), (7, .ref (a 10)), (6, .ref (a 9)), (5, .ref (a 8)), (4, .ref (a 7)), (3, .ref (a 6)), (2, .ref (a 5)), (1, .ref (a 0)), (0, .ref b)] [] := by
  obtain ⟨hk1, hk2⟩ := hk
  obtain ⟨hn0, hn20⟩ := w.n20
  have wk := w.ok.1
  have w0 := w
  obtain ⟨M9, h9, r9⟩ := w0
  obtain ⟨p1, p2, p3⟩ := op_setRate h9 r9 (b := nI (y % 3)) (z := nI (y / 3 % 2001)) (vp_in_nI (by omega) (by decide)) (by rw [nI_toInt (by omega)]; omega) (by rw [nI_toInt (by omega)]; omega)
  refine go_iload C 3 dL_law_526 rfl ?_
  refine go_iconst C (v := 3) dL_law_528 (by decide) ?_
  refine go_irem C dL_law_529 (by decide) ?_
  refine go_st (st2 := [.int (nI (y % 3))]) (by rw [q_rem (D := 3) 3 (by omega) (by omega) (by omega) rfl]) ?_
  refine go_istore C (lo' := [(20, .int (nI (y % 3))), (19, .int (nI ct)), (18, .int (nI cu)), (17, .int (nI j)), (16, .int (nI y)), (15, .int (nI kd)), (13, .int (nI i)), (12, .int 1), (11, .ref (a 14)), (10, .ref (a 13)), (9, .ref (a 12)), (8, .ref (a 11)), (7, .ref (a 10)), (6, .ref (a 9)), (5, .ref (a 8)), (4, .ref (a 7)), (3, .ref (a 6)), (2, .ref (a 5)), (1, .ref (a 0)), (0, .ref b)]) dL_law_530 (by decide) rfl ?_
  refine go_iload C 4 dL_law_532 rfl ?_
  refine go_iconst C (v := 3) dL_law_534 (by decide) ?_
  refine go_idiv C dL_law_535 (by decide) ?_
  refine go_st (st2 := [.int (nI (y / 3))]) (by rw [q_div (D := 3) 3 (by omega) (by omega) (by omega) rfl]) ?_
  refine go_sipush C (v := 2001) dL_law_536 (by decide) ?_
  refine go_irem C dL_law_539 (by decide) ?_
  refine go_st (st2 := [.int (nI ((y / 3) % 2001))]) (by rw [q_rem (D := 2001) 2001 (by omega) (by omega) (by omega) rfl]) ?_
  refine go_istore C (lo' := [(21, .int (nI ((y / 3) % 2001))), (20, .int (nI (y % 3))), (19, .int (nI ct)), (18, .int (nI cu)), (17, .int (nI j)), (16, .int (nI y)), (15, .int (nI kd)), (13, .int (nI i)), (12, .int 1), (11, .ref (a 14)), (10, .ref (a 13)), (9, .ref (a 12)), (8, .ref (a 11)), (7, .ref (a 10)), (6, .ref (a 9)), (5, .ref (a 8)), (4, .ref (a 7)), (3, .ref (a 6)), (2, .ref (a 5)), (1, .ref (a 0)), (0, .ref b)]) dL_law_540 (by decide) rfl ?_
  refine go_aload_n C 19 dL_law_542 rfl rfl ?_
  refine go_iload C 1 dL_law_543 rfl ?_
  refine go_iload C 0 dL_law_545 rfl ?_
  refine k_RL_122 C hlf S M ([]) (nI (y % 3)) (nI (y / 3 % 2001)) ⟨(Nat.le_of_ble_eq_true rfl), (Nat.le_of_ble_eq_true rfl)⟩ ⟨(show _ ≤ 644676 by omega), (show _ ≤ 7167596 by omega)⟩ (Nat.le_of_ble_eq_true rfl) dL_law_547 (fun E hE => absurd p1 hE.1) (fun _ => ?_)
  refine go_st (st2 := [.int (ls_q M (y % 3))]) (by rw [p2, cl_nI (i := y % 3) (by omega)]) ?_
  refine go_aload_n C 17 dL_law_550 rfl rfl ?_
  refine go_iload C 1 dL_law_551 rfl ?_
  refine lm_q C (vp_in_nI (n := y % 3) (by omega) (by decide)) dL_law_553 ?_
  rw [cl_nI (i := y % 3) (by omega)]
  refine go_icmp_ne C (tgt := 561) dL_law_554 (by decide) (fun c_1 => absurd c_1 (fun q9 => q9 rfl)) (fun c_1 => ?_)
  refine go_iconst C (v := 1) dL_law_557 (by decide) ?_
  refine go_goto C (tgt := 562) dL_law_558 (by decide) ?_
  refine go_istore C (lo' := [(12, .int 1), (21, .int (nI ((y / 3) % 2001))), (20, .int (nI (y % 3))), (19, .int (nI ct)), (18, .int (nI cu)), (17, .int (nI j)), (16, .int (nI y)), (15, .int (nI kd)), (13, .int (nI i)), (11, .ref (a 14)), (10, .ref (a 13)), (9, .ref (a 12)), (8, .ref (a 11)), (7, .ref (a 10)), (6, .ref (a 9)), (5, .ref (a 8)), (4, .ref (a 7)), (3, .ref (a 6)), (2, .ref (a 5)), (1, .ref (a 0)), (0, .ref b)]) dL_law_562 (by decide) rfl ?_
  refine go_aload_n C 17 dL_law_564 rfl rfl ?_
  refine go_iload C 2 dL_law_565 rfl ?_
  refine go_iload C 1 dL_law_567 rfl ?_
  refine sm_q C (vp_in_nI (n := y % 3) (by omega) (by decide)) dL_law_569 ?_
  rw [cl_nI (i := y % 3) (by omega)]
  refine go_goto C (tgt := 1990) dL_law_570 (by decide) ?_
  rw [qStL, cl_nI (i := y % 3) (by omega)] at p3
  refine go_lo (lo' := [(13, .int (nI i)), (12, .int 1), (11, .ref (a 14)), (10, .ref (a 13)), (9, .ref (a 12)), (8, .ref (a 11)), (7, .ref (a 10)), (6, .ref (a 9)), (5, .ref (a 8)), (4, .ref (a 7)), (3, .ref (a 6)), (2, .ref (a 5)), (1, .ref (a 0)), (0, .ref b)]) [8, 0, 9, 10, 11, 12, 13, 14, 15, 16, 17, 18, 19, 20] rfl ?_
  refine go_widen (k2 := k + 60) (n2 := n + 600) (by omega) (by omega) ?_
  exact g _ _ p3
set_option maxHeartbeats 4000000 in
theorem law_bands {p : Program} {l : Launch} {e : Env} {s : State} {m : MethodId} {args : Array Value} {below : List Frame} {meth : Method} {c : Code} {D : va_G} {N0 : Nat} {ret : Option FieldType} {nm : String} {Q : State → Prop} {k n : Nat} {cI cJ cO : ClassId} {a : Nat → Nat} {b i : Nat} {S : CS} {M : LWS} {y kd j cu ct : Nat} (C : Cxt p s m args meth c D (tysW cI cJ cO) N0 cL_law 23 RL ret nm) (hlf : l.stackTraces = false) (hk : k + 60 ≤ 644676 ∧ n + 600 ≤ 7167596) (w : Rl S M) (hy : y < 2 ^ 27) (hj : j < 20) (hcu : cu < 4) (hct : 1 ≤ ct ∧ ct ≤ 10000000) (g : ∀ (S2 : CS) (M2 : LWS), Rl S2 M2 → Go p l e room_1 s m args below meth c D N0 23 Q (wW cI cJ cO a S2 M2 []) (k + 60) (n + 600) 1990 [(13, .int (nI i)), (12, .int 1), (11, .ref (a 14)), (10, .ref (a 13)), (9, .ref (a 12)), (8, .ref (a 11)), (7, .ref (a 10)), (6, .ref (a 9)), (5, .ref (a 8)), (4, .ref (a 7)), (3, .ref (a 6)), (2, .ref (a 5)), (1, .ref (a 0)), (0, .ref b)] []) : Go p l e room_1 s m args below meth c D N0 23 Q (wW cI cJ cO a S M ([])) (k) (n) 579 [(19, .int (nI ct)), (18, .int (nI cu)), (17, .int (nI j)), (16, .int (nI y)), (15, .int (nI kd)), (13, .int (nI i)), (12, .int 1), (11, .ref (a 14)), (10, .ref (a 13)), (9, .ref (a 12)), (8, .ref (a 11)), (7, .ref (a 10)), (6, .ref (a 9)), (5, .ref (a 8)), (4, .ref (a 7)), (3, .ref (a 6)), (2, .ref (a 5)), (1, .ref (a 0)), (0, .ref b)] [] := by
  obtain ⟨hk1, hk2⟩ := hk
  obtain ⟨hn0, hn20⟩ := w.n20
  have wk := w.ok.1
  have w0 := w
  obtain ⟨M9, h9, r9⟩ := w0
  obtain ⟨z9, hzz⟩ : ∃ z9 : Int32, z9 = (if nI (y % 3) ≤ 0 then 0 else 1) := ⟨_, rfl⟩
  have hz9 : z9 = 0 ∨ z9 = 1 := by rw [hzz]; split; exact Or.inl rfl; exact Or.inr rfl
  obtain ⟨p1, p2, p3⟩ := op_setByBands h9 r9 hz9
  rw [p1] at p2
  have p4 := p3
  obtain ⟨M8, h8, r8⟩ := p4
  obtain ⟨u1, u2, u3⟩ := op_setTermRate h8 r8 (z := nI (y / 3 % 2001)) (by rw [nI_toInt (by omega)]; omega) (by rw [nI_toInt (by omega)]; omega)
  refine go_aload_n C 17 dL_law_579 rfl rfl ?_
  refine go_join (wW cI cJ cO a S M ([])) 592 [(19, .int (nI ct)), (18, .int (nI cu)), (17, .int (nI j)), (16, .int (nI y)), (15, .int (nI kd)), (13, .int (nI i)), (12, .int 1), (11, .ref (a 14)), (10, .ref (a 13)), (9, .ref (a 12)), (8, .ref (a 11)), (7, .ref (a 10)), (6, .ref (a 9)), (5, .ref (a 8)), (4, .ref (a 7)), (3, .ref (a 6)), (2, .ref (a 5)), (1, .ref (a 0)), (0, .ref b)] [.int z9, .ref (a 0)] ?_ (fun G_1 => ?_)
  · refine k_RL_125 C S M ([]) z9 hz9 (by rw [p1]; exact p2) ⟨(Nat.le_of_ble_eq_true rfl), (Nat.le_of_ble_eq_true rfl)⟩ ⟨(show _ ≤ 644676 by omega), (show _ ≤ 7167596 by omega)⟩ (Nat.le_of_ble_eq_true rfl) dL_law_592 ?_
    refine go_st (st2 := [.int (ls_n M 2)]) (by rw [p1]) ?_
    refine go_join (wW cI cJ cO a (cs_set_bb S z9) M ([])) 607 [(19, .int (nI ct)), (18, .int (nI cu)), (17, .int (nI j)), (16, .int (nI y)), (15, .int (nI kd)), (13, .int (nI i)), (12, .int 1), (11, .ref (a 14)), (10, .ref (a 13)), (9, .ref (a 12)), (8, .ref (a 11)), (7, .ref (a 10)), (6, .ref (a 9)), (5, .ref (a 8)), (4, .ref (a 7)), (3, .ref (a 6)), (2, .ref (a 5)), (1, .ref (a 0)), (0, .ref b)] [.int (if ls_n M 2 = 1 then 1 else 0), .int (ls_n M 2)] ?_ (fun G_2 => ?_)
    · refine go_icmp_ne C (tgt := 614) dL_law_607 (by decide) (fun c_3 => absurd c_3 (fun q9 => q9 (by rcases p2 with e9 | e9 <;> rw [e9] <;> decide))) (fun c_3 => ?_)
      refine go_iconst C (v := 1) dL_law_610 (by decide) ?_
      refine go_goto C (tgt := 615) dL_law_611 (by decide) ?_
      refine go_istore C (lo' := [(12, .int 1), (19, .int (nI ct)), (18, .int (nI cu)), (17, .int (nI j)), (16, .int (nI y)), (15, .int (nI kd)), (13, .int (nI i)), (11, .ref (a 14)), (10, .ref (a 13)), (9, .ref (a 12)), (8, .ref (a 11)), (7, .ref (a 10)), (6, .ref (a 9)), (5, .ref (a 8)), (4, .ref (a 7)), (3, .ref (a 6)), (2, .ref (a 5)), (1, .ref (a 0)), (0, .ref b)]) dL_law_615 (by decide) rfl ?_
      refine go_aload_n C 16 dL_law_617 rfl rfl ?_
      refine go_iconst C (v := 2) dL_law_618 (by decide) ?_
      refine go_join (wW cI cJ cO a (cs_set_bb S z9) M ([])) 631 [(12, .int 1), (19, .int (nI ct)), (18, .int (nI cu)), (17, .int (nI j)), (16, .int (nI y)), (15, .int (nI kd)), (13, .int (nI i)), (11, .ref (a 14)), (10, .ref (a 13)), (9, .ref (a 12)), (8, .ref (a 11)), (7, .ref (a 10)), (6, .ref (a 9)), (5, .ref (a 8)), (4, .ref (a 7)), (3, .ref (a 6)), (2, .ref (a 5)), (1, .ref (a 0)), (0, .ref b)] [.int z9, .int 2, .ref (a 5)] ?_ (fun G_4 => ?_)
      · refine sm_n C vin_2_4 dL_law_631 ?_
        rw [ck_2]
        refine go_w (w2 := wW cI cJ cO a (cs_set_bb S z9) (qNs M 2 z9) ([])) rfl ?_
        refine go_iload C 4 dL_law_632 rfl ?_
        refine go_iconst C (v := 3) dL_law_634 (by decide) ?_
        refine go_idiv C dL_law_635 (by decide) ?_
        refine go_st (st2 := [.int (nI (y / 3))]) (by rw [q_div (D := 3) 3 (by omega) (by omega) (by omega) rfl]) ?_
        refine go_sipush C (v := 2001) dL_law_636 (by decide) ?_
        refine go_irem C dL_law_639 (by decide) ?_
        refine go_st (st2 := [.int (nI ((y / 3) % 2001))]) (by rw [q_rem (D := 2001) 2001 (by omega) (by omega) (by omega) rfl]) ?_
        refine go_istore C (lo' := [(20, .int (nI ((y / 3) % 2001))), (12, .int 1), (19, .int (nI ct)), (18, .int (nI cu)), (17, .int (nI j)), (16, .int (nI y)), (15, .int (nI kd)), (13, .int (nI i)), (11, .ref (a 14)), (10, .ref (a 13)), (9, .ref (a 12)), (8, .ref (a 11)), (7, .ref (a 10)), (6, .ref (a 9)), (5, .ref (a 8)), (4, .ref (a 7)), (3, .ref (a 6)), (2, .ref (a 5)), (1, .ref (a 0)), (0, .ref b)]) dL_law_640 (by decide) rfl ?_
        refine go_iload C 1 dL_law_642 rfl ?_
        refine go_if_eq C (tgt := 663) dL_law_644 (by decide) (fun c_5 => absurd c_5 (by decide)) (fun c_5 => ?_)
        refine go_aload_n C 18 dL_law_647 rfl rfl ?_
        refine go_iload C 0 dL_law_648 rfl ?_
        refine k_RL_129 C hlf (cs_set_bb S z9) (qNs M 2 z9) ([]) (nI (y / 3 % 2001)) ⟨(Nat.le_of_ble_eq_true rfl), (Nat.le_of_ble_eq_true rfl)⟩ ⟨(show _ ≤ 644676 by omega), (show _ ≤ 7167596 by omega)⟩ (Nat.le_of_ble_eq_true rfl) dL_law_650 (fun E hE => absurd u1 hE.1) (fun _ => ?_)
        refine go_st (st2 := [.int (ls_n (qNs M 2 z9) 3)]) (by rw [u2]) ?_
        refine go_aload_n C 17 dL_law_653 rfl rfl ?_
        refine go_iconst C (v := 3) dL_law_654 (by decide) ?_
        refine lm_n C vin_3_4 dL_law_655 ?_
        rw [ck_3]
        refine go_icmp_ne C (tgt := 663) dL_law_656 (by decide) (fun c_6 => absurd c_6 (fun q9 => q9 rfl)) (fun c_6 => ?_)
        refine go_iconst C (v := 1) dL_law_659 (by decide) ?_
        refine go_goto C (tgt := 664) dL_law_660 (by decide) ?_
        refine go_istore C (lo' := [(12, .int 1), (20, .int (nI ((y / 3) % 2001))), (19, .int (nI ct)), (18, .int (nI cu)), (17, .int (nI j)), (16, .int (nI y)), (15, .int (nI kd)), (13, .int (nI i)), (11, .ref (a 14)), (10, .ref (a 13)), (9, .ref (a 12)), (8, .ref (a 11)), (7, .ref (a 10)), (6, .ref (a 9)), (5, .ref (a 8)), (4, .ref (a 7)), (3, .ref (a 6)), (2, .ref (a 5)), (1, .ref (a 0)), (0, .ref b)]) dL_law_664 (by decide) rfl ?_
        refine go_aload_n C 17 dL_law_666 rfl rfl ?_
        refine go_iconst C (v := 3) dL_law_667 (by decide) ?_
        refine go_iload C 1 dL_law_668 rfl ?_
        refine sm_n C vin_3_4 dL_law_670 ?_
        rw [ck_3]
        refine go_goto C (tgt := 1990) dL_law_671 (by decide) ?_
        refine go_lo (lo' := [(13, .int (nI i)), (12, .int 1), (11, .ref (a 14)), (10, .ref (a 13)), (9, .ref (a 12)), (8, .ref (a 11)), (7, .ref (a 10)), (6, .ref (a 9)), (5, .ref (a 8)), (4, .ref (a 7)), (3, .ref (a 6)), (2, .ref (a 5)), (1, .ref (a 0)), (0, .ref b)]) [7, 0, 8, 9, 10, 11, 12, 13, 14, 15, 16, 17, 18, 19] rfl ?_
        refine go_widen (k2 := k + 60) (n2 := n + 600) (by omega) (by omega) ?_
        exact g _ _ u3
      · refine go_iload C 4 dL_law_619 rfl ?_
        refine go_iconst C (v := 3) dL_law_621 (by decide) ?_
        refine go_irem C dL_law_622 (by decide) ?_
        refine go_st (st2 := [.int (nI (y % 3)), .int 2, .ref (a 5)]) (by rw [q_rem (D := 3) 3 (by omega) (by omega) (by omega) rfl]) ?_
        refine go_if_le C (tgt := 630) dL_law_623 (by decide) (fun c_7 => ?_) (fun c_7 => ?_)
        · refine go_iconst C (v := 0) dL_law_630 (by decide) ?_
          refine go_st (st2 := [.int z9, .int 2, .ref (a 5)]) (by rw [hzz, if_pos c_7]) ?_
          exact G_4
        · refine go_iconst C (v := 1) dL_law_626 (by decide) ?_
          refine go_goto C (tgt := 631) dL_law_627 (by decide) ?_
          refine go_st (st2 := [.int z9, .int 2, .ref (a 5)]) (by rw [hzz, if_neg c_7]) ?_
          exact G_4
    · refine go_aload_n C 16 dL_law_595 rfl rfl ?_
      refine go_iconst C (v := 2) dL_law_596 (by decide) ?_
      refine lm_n C vin_2_4 dL_law_597 ?_
      rw [ck_2]
      refine go_iconst C (v := 1) dL_law_598 (by decide) ?_
      refine go_icmp_ne C (tgt := 606) dL_law_599 (by decide) (fun c_8 => ?_) (fun c_8 => ?_)
      · refine go_iconst C (v := 0) dL_law_606 (by decide) ?_
        refine go_st (st2 := [.int (if ls_n M 2 = 1 then 1 else 0), .int (ls_n M 2)]) (by rw [if_neg c_8]) ?_
        exact G_2
      · refine go_iconst C (v := 1) dL_law_602 (by decide) ?_
        refine go_goto C (tgt := 607) dL_law_603 (by decide) ?_
        refine go_st (st2 := [.int (if ls_n M 2 = 1 then 1 else 0), .int (ls_n M 2)]) (by rw [if_pos c_8]) ?_
        exact G_2
  · refine go_iload C 3 dL_law_580 rfl ?_
    refine go_iconst C (v := 3) dL_law_582 (by decide) ?_
    refine go_irem C dL_law_583 (by decide) ?_
    refine go_st (st2 := [.int (nI (y % 3)), .ref (a 0)]) (by rw [q_rem (D := 3) 3 (by omega) (by omega) (by omega) rfl]) ?_
    refine go_if_le C (tgt := 591) dL_law_584 (by decide) (fun c_9 => ?_) (fun c_9 => ?_)
    · refine go_iconst C (v := 0) dL_law_591 (by decide) ?_
      refine go_st (st2 := [.int z9, .ref (a 0)]) (by rw [hzz, if_pos c_9]) ?_
      exact G_1
    · refine go_iconst C (v := 1) dL_law_587 (by decide) ?_
      refine go_goto C (tgt := 592) dL_law_588 (by decide) ?_
      refine go_st (st2 := [.int z9, .ref (a 0)]) (by rw [hzz, if_neg c_9]) ?_
      exact G_1
