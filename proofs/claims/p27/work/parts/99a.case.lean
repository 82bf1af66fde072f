set_option maxHeartbeats 4000000 in
theorem law_give {p : Program} {l : Launch} {e : Env} {s : State} {m : MethodId} {args : Array Value} {below : List Frame} {meth : Method} {c : Code} {D : va_G} {N0 : Nat} {ret : Option FieldType} {nm : String} {Q : State → Prop} {k n : Nat} {cI cJ cO : ClassId} {a : Nat → Nat} {b i : Nat} {S : CS} {M : LWS} {y kd j cu ct : Nat} (C : Cxt p s m args meth c D (tysW cI cJ cO) N0 cL_law 23 RL ret nm) (hlf : l.stackTraces = false) (hk : k + 60 ≤ 644676 ∧ n + 600 ≤ 7167596) (w : Rl S M) (hy : y < 2 ^ 27) (hj : j < 20) (hcu : cu < 4) (hct : 1 ≤ ct ∧ ct ≤ 10000000) (g : ∀ (S2 : CS) (M2 : LWS), Rl S2 M2 → Go p l e room_1 s m args below meth c D N0 23 Q (wW cI cJ cO a S2 M2 []) (k + 60) (n + 600) 1990 [(13, .int (nI i)), (12, .int 1), (11, .ref (a 14)), (10, .ref (a 13)), (9, .ref (a 12)), (8, .ref (a 11)), (7, .ref (a 10)), (6, .ref (a 9)), (5, .ref (a 8)), (4, .ref (a 7)), (3, .ref (a 6)), (2, .ref (a 5)), (1, .ref (a 0)), (0, .ref b)] []) : Go p l e room_1 s m args below meth c D N0 23 Q (wW cI cJ cO a S M ([])) (k) (n) 681 [(19, .int (nI ct)), (18, .int (nI cu)), (17, .int (nI j)), (16, .int (nI y)), (15, .int (nI kd)), (13, .int (nI i)), (12, .int 1), (11, .ref (a 14)), (10, .ref (a 13)), (9, .ref (a 12)), (8, .ref (a 11)), (7, .ref (a 10)), (6, .ref (a 9)), (5, .ref (a 8)), (4, .ref (a 7)), (3, .ref (a 6)), (2, .ref (a 5)), (1, .ref (a 0)), (0, .ref b)] [] := by
  obtain ⟨hk1, hk2⟩ := hk
  obtain ⟨hn0, hn20⟩ := w.n20
  have wk := w.ok.1
  have w0 := w
  obtain ⟨M9, h9, r9⟩ := w0
  have G_1 : ∀ (pt : Int32), (¬ ls_p M j = 0 → 1 ≤ pt.toInt) → Go p l e room_1 s m args below meth c D N0 23 Q (wW cI cJ cO a S M ([])) (k) (n) 720 [(19, .int (nI ct)), (18, .int (nI cu)), (17, .int (nI j)), (16, .int (nI y)), (15, .int (nI kd)), (13, .int (nI i)), (12, .int 1), (11, .ref (a 14)), (10, .ref (a 13)), (9, .ref (a 12)), (8, .ref (a 11)), (7, .ref (a 10)), (6, .ref (a 9)), (5, .ref (a 8)), (4, .ref (a 7)), (3, .ref (a 6)), (2, .ref (a 5)), (1, .ref (a 0)), (0, .ref b)] [.int pt] := by
    intro pt hG_1
    refine go_istore C (lo' := [(20, .int pt), (19, .int (nI ct)), (18, .int (nI cu)), (17, .int (nI j)), (16, .int (nI y)), (15, .int (nI kd)), (13, .int (nI i)), (12, .int 1), (11, .ref (a 14)), (10, .ref (a 13)), (9, .ref (a 12)), (8, .ref (a 11)), (7, .ref (a 10)), (6, .ref (a 9)), (5, .ref (a 8)), (4, .ref (a 7)), (3, .ref (a 6)), (2, .ref (a 5)), (1, .ref (a 0)), (0, .ref b)]) dL_law_720 (by decide) rfl ?_
    have hop := op_give h9 r9 hj hG_1
    refine go_join (wW cI cJ cO a S M ([])) 763 [(20, .int pt), (19, .int (nI ct)), (18, .int (nI cu)), (17, .int (nI j)), (16, .int (nI y)), (15, .int (nI kd)), (13, .int (nI i)), (12, .int 1), (11, .ref (a 14)), (10, .ref (a 13)), (9, .ref (a 12)), (8, .ref (a 11)), (7, .ref (a 10)), (6, .ref (a 9)), (5, .ref (a 8)), (4, .ref (a 7)), (3, .ref (a 6)), (2, .ref (a 5)), (1, .ref (a 0)), (0, .ref b)] [.int (qGvC M j pt)] ?_ (fun G_2 => ?_)
    · refine go_istore C (lo' := [(21, .int (qGvC M j pt)), (20, .int pt), (19, .int (nI ct)), (18, .int (nI cu)), (17, .int (nI j)), (16, .int (nI y)), (15, .int (nI kd)), (13, .int (nI i)), (12, .int 1), (11, .ref (a 14)), (10, .ref (a 13)), (9, .ref (a 12)), (8, .ref (a 11)), (7, .ref (a 10)), (6, .ref (a 9)), (5, .ref (a 8)), (4, .ref (a 7)), (3, .ref (a 6)), (2, .ref (a 5)), (1, .ref (a 0)), (0, .ref b)]) dL_law_763 (by decide) rfl ?_
      refine go_join (wW cI cJ cO a S M ([])) 809 [(21, .int (qGvC M j pt)), (20, .int pt), (19, .int (nI ct)), (18, .int (nI cu)), (17, .int (nI j)), (16, .int (nI y)), (15, .int (nI kd)), (13, .int (nI i)), (12, .int 1), (11, .ref (a 14)), (10, .ref (a 13)), (9, .ref (a 12)), (8, .ref (a 11)), (7, .ref (a 10)), (6, .ref (a 9)), (5, .ref (a 8)), (4, .ref (a 7)), (3, .ref (a 6)), (2, .ref (a 5)), (1, .ref (a 0)), (0, .ref b)] [.int (qGvD M j pt)] ?_ (fun G_3 => ?_)
      · refine go_istore C (lo' := [(22, .int (qGvD M j pt)), (21, .int (qGvC M j pt)), (20, .int pt), (19, .int (nI ct)), (18, .int (nI cu)), (17, .int (nI j)), (16, .int (nI y)), (15, .int (nI kd)), (13, .int (nI i)), (12, .int 1), (11, .ref (a 14)), (10, .ref (a 13)), (9, .ref (a 12)), (8, .ref (a 11)), (7, .ref (a 10)), (6, .ref (a 9)), (5, .ref (a 8)), (4, .ref (a 7)), (3, .ref (a 6)), (2, .ref (a 5)), (1, .ref (a 0)), (0, .ref b)]) dL_law_809 (by decide) rfl ?_
        refine go_join (wW cI cJ cO a S (qGvL M j pt) ([])) 831 [(22, .int (qGvD M j pt)), (21, .int (qGvC M j pt)), (20, .int pt), (19, .int (nI ct)), (18, .int (nI cu)), (17, .int (nI j)), (16, .int (nI y)), (15, .int (nI kd)), (13, .int (nI i)), (12, .int 1), (11, .ref (a 14)), (10, .ref (a 13)), (9, .ref (a 12)), (8, .ref (a 11)), (7, .ref (a 10)), (6, .ref (a 9)), (5, .ref (a 8)), (4, .ref (a 7)), (3, .ref (a 6)), (2, .ref (a 5)), (1, .ref (a 0)), (0, .ref b)] [] ?_ (fun G_4 => ?_)
        · refine go_aload_n C 20 dL_law_831 rfl rfl ?_
          refine go_iconst C (v := 1) dL_law_832 (by decide) ?_
          refine go_iload C 5 dL_law_833 rfl ?_
          refine go_join (wW cI cJ cO a S (qGvL M j pt) ([])) 846 [(22, .int (qGvD M j pt)), (21, .int (qGvC M j pt)), (20, .int pt), (19, .int (nI ct)), (18, .int (nI cu)), (17, .int (nI j)), (16, .int (nI y)), (15, .int (nI kd)), (13, .int (nI i)), (12, .int 1), (11, .ref (a 14)), (10, .ref (a 13)), (9, .ref (a 12)), (8, .ref (a 11)), (7, .ref (a 10)), (6, .ref (a 9)), (5, .ref (a 8)), (4, .ref (a 7)), (3, .ref (a 6)), (2, .ref (a 5)), (1, .ref (a 0)), (0, .ref b)] [.int (qGvX pt), .int (nI j), .int 1, .ref (a 0)] ?_ (fun G_5 => ?_)
          · refine k_RL_81_1 C hlf S (qGvL M j pt) ([]) (nI j) (qGvX pt) wk ⟨(Nat.le_of_ble_eq_true rfl), (Nat.le_of_ble_eq_true rfl)⟩ ⟨(show _ ≤ 644676 by omega), (show _ ≤ 7167596 by omega)⟩ (Nat.le_of_ble_eq_true rfl) dL_law_846 (fun c9 => ?_) (fun c9 => ?_)
            · rcases hop with ⟨o1, o2, o3⟩ | ⟨o1, o2, o3⟩
              · refine go_st (st2 := [.int (qGvD M j pt)]) (by rw [o2]) ?_
                refine go_iload C 0 dL_law_849 rfl ?_
                refine go_icmp_ne C (tgt := 858) dL_law_851 (by decide) (fun c_6 => absurd c_6 (fun q9 => q9 rfl)) (fun c_6 => ?_)
                refine go_iconst C (v := 1) dL_law_854 (by decide) ?_
                refine go_goto C (tgt := 859) dL_law_855 (by decide) ?_
                refine go_istore C (lo' := [(12, .int 1), (22, .int (qGvD M j pt)), (21, .int (qGvC M j pt)), (20, .int pt), (19, .int (nI ct)), (18, .int (nI cu)), (17, .int (nI j)), (16, .int (nI y)), (15, .int (nI kd)), (13, .int (nI i)), (11, .ref (a 14)), (10, .ref (a 13)), (9, .ref (a 12)), (8, .ref (a 11)), (7, .ref (a 10)), (6, .ref (a 9)), (5, .ref (a 8)), (4, .ref (a 7)), (3, .ref (a 6)), (2, .ref (a 5)), (1, .ref (a 0)), (0, .ref b)]) dL_law_859 (by decide) rfl ?_
                refine go_goto C (tgt := 1990) dL_law_861 (by decide) ?_
                refine go_lo (lo' := [(13, .int (nI i)), (12, .int 1), (11, .ref (a 14)), (10, .ref (a 13)), (9, .ref (a 12)), (8, .ref (a 11)), (7, .ref (a 10)), (6, .ref (a 9)), (5, .ref (a 8)), (4, .ref (a 7)), (3, .ref (a 6)), (2, .ref (a 5)), (1, .ref (a 0)), (0, .ref b)]) [9, 0, 10, 11, 12, 13, 14, 15, 16, 17, 18, 19, 20, 21] rfl ?_
                refine go_widen (k2 := k + 60) (n2 := n + 600) (by omega) (by omega) ?_
                exact g _ _ o3
              · exact absurd c9 o1
            · rcases hop with ⟨o1, o2, o3⟩ | ⟨o1, o2, o3⟩
              · exact absurd o1 c9
              · refine go_st (st2 := [.int (qGvD M j pt)]) (by rw [o2]) ?_
                refine go_iload C 0 dL_law_849 rfl ?_
                refine go_icmp_ne C (tgt := 858) dL_law_851 (by decide) (fun c_7 => absurd c_7 (fun q9 => q9 rfl)) (fun c_7 => ?_)
                refine go_iconst C (v := 1) dL_law_854 (by decide) ?_
                refine go_goto C (tgt := 859) dL_law_855 (by decide) ?_
                refine go_istore C (lo' := [(12, .int 1), (22, .int (qGvD M j pt)), (21, .int (qGvC M j pt)), (20, .int pt), (19, .int (nI ct)), (18, .int (nI cu)), (17, .int (nI j)), (16, .int (nI y)), (15, .int (nI kd)), (13, .int (nI i)), (11, .ref (a 14)), (10, .ref (a 13)), (9, .ref (a 12)), (8, .ref (a 11)), (7, .ref (a 10)), (6, .ref (a 9)), (5, .ref (a 8)), (4, .ref (a 7)), (3, .ref (a 6)), (2, .ref (a 5)), (1, .ref (a 0)), (0, .ref b)]) dL_law_859 (by decide) rfl ?_
                refine go_goto C (tgt := 1990) dL_law_861 (by decide) ?_
                refine go_lo (lo' := [(13, .int (nI i)), (12, .int 1), (11, .ref (a 14)), (10, .ref (a 13)), (9, .ref (a 12)), (8, .ref (a 11)), (7, .ref (a 10)), (6, .ref (a 9)), (5, .ref (a 8)), (4, .ref (a 7)), (3, .ref (a 6)), (2, .ref (a 5)), (1, .ref (a 0)), (0, .ref b)]) [9, 0, 10, 11, 12, 13, 14, 15, 16, 17, 18, 19, 20, 21] rfl ?_
                refine go_widen (k2 := k + 60) (n2 := n + 600) (by omega) (by omega) ?_
                exact g _ _ o3
          · refine go_iload C 2 dL_law_835 rfl ?_
            refine go_if_ne C (tgt := 844) dL_law_837 (by decide) (fun c_8 => ?_) (fun c_8 => ?_)
            · refine go_iload C 2 dL_law_844 rfl ?_
              refine go_st (st2 := [.int (qGvX pt), .int (nI j), .int 1, .ref (a 0)]) (by simp only [qGvX, if_neg c_8]) ?_
              exact G_5
            · refine go_iconst C (v := 1) dL_law_840 (by decide) ?_
              refine go_goto C (tgt := 846) dL_law_841 (by decide) ?_
              refine go_st (st2 := [.int (qGvX pt), .int (nI j), .int 1, .ref (a 0)]) (by simp only [qGvX, if_pos c_8]) ?_
              exact G_5
        · refine go_iload C 1 dL_law_811 rfl ?_
          refine go_if_eq C (tgt := 831) dL_law_813 (by decide) (fun c_9 => ?_) (fun c_9 => ?_)
          · refine go_w (w2 := wW cI cJ cO a S (qGvL M j pt) ([])) (by rw [qGvL, if_pos c_9] <;> rfl) ?_
            exact G_4
          · refine go_aload C 15 dL_law_816 rfl ?_
            refine go_iload C 5 dL_law_818 rfl ?_
            refine go_iload C 2 dL_law_820 rfl ?_
            refine sm_f C (vp_in_nI (n := j) (by omega) (by decide)) dL_law_822 ?_
            rw [cl_nI (i := j) (by omega)]
            refine go_aload C 14 dL_law_823 rfl ?_
            refine go_iload C 5 dL_law_825 rfl ?_
            refine go_aload_n C 19 dL_law_827 rfl rfl ?_
            refine go_iconst C (v := 1) dL_law_828 (by decide) ?_
            refine lm_n C vin_1_4 dL_law_829 ?_
            rw [ck_1]
            refine sm_t C (vp_in_nI (n := j) (by omega) (by decide)) dL_law_830 ?_
            rw [cl_nI (i := j) (by omega)]
            refine go_w (w2 := wW cI cJ cO a S (qGvL M j pt) ([])) (by rw [qGvL, if_neg c_9] <;> rfl) ?_
            exact G_4
      · refine go_aload C 15 dL_law_765 rfl ?_
        refine go_iload C 4 dL_law_767 rfl ?_
        refine lm_p C (vp_in_nI (n := j) (by omega) (by decide)) dL_law_769 ?_
        rw [cl_nI (i := j) (by omega)]
        refine go_if_ne C (tgt := 778) dL_law_770 (by decide) (fun c_10 => ?_) (fun c_10 => ?_)
        · refine go_iload C 1 dL_law_778 rfl ?_
          refine go_aload C 15 dL_law_780 rfl ?_
          refine go_iload C 4 dL_law_782 rfl ?_
          refine lm_p C (vp_in_nI (n := j) (by omega) (by decide)) dL_law_784 ?_
          rw [cl_nI (i := j) (by omega)]
          refine go_icmp_le C (tgt := 793) dL_law_785 (by decide) (fun c_11 => ?_) (fun c_11 => ?_)
          · refine go_iload C 0 dL_law_793 rfl ?_
            refine go_if_eq C (tgt := 807) dL_law_795 (by decide) (fun c_12 => ?_) (fun c_12 => ?_)
            · refine go_bipush C (v := (-13)) dL_law_807 (by decide) ?_
              refine go_st (st2 := [.int (qGvD M j pt)]) (by simp only [qGvD, if_neg c_10, if_pos c_11, if_pos c_12]) ?_
              exact G_3
            · refine go_aload_n C 18 dL_law_798 rfl rfl ?_
              refine go_iconst C (v := 1) dL_law_799 (by decide) ?_
              refine lm_n C vin_1_4 dL_law_800 ?_
              rw [ck_1]
              refine go_bipush C (v := 32) dL_law_801 (by decide) ?_
              refine go_iadd C dL_law_803 ?_
              refine go_goto C (tgt := 809) dL_law_804 (by decide) ?_
              refine go_st (st2 := [.int (qGvD M j pt)]) (by simp only [qGvD, if_neg c_10, if_pos c_11, if_neg c_12]) ?_
              exact G_3
          · refine go_bipush C (v := (-12)) dL_law_788 (by decide) ?_
            refine go_goto C (tgt := 809) dL_law_790 (by decide) ?_
            refine go_st (st2 := [.int (qGvD M j pt)]) (by simp only [qGvD, if_neg c_10, if_neg c_11]) ?_
            exact G_3
        · refine go_bipush C (v := (-11)) dL_law_773 (by decide) ?_
          refine go_goto C (tgt := 809) dL_law_775 (by decide) ?_
          refine go_st (st2 := [.int (qGvD M j pt)]) (by simp only [qGvD, if_pos c_10]) ?_
          exact G_3
    · refine go_aload C 14 dL_law_722 rfl ?_
      refine go_iload C 3 dL_law_724 rfl ?_
      refine lm_p C (vp_in_nI (n := j) (by omega) (by decide)) dL_law_726 ?_
      rw [cl_nI (i := j) (by omega)]
      refine go_if_le C (tgt := 762) dL_law_727 (by decide) (fun c_13 => ?_) (fun c_13 => ?_)
      · refine go_iconst C (v := 0) dL_law_762 (by decide) ?_
        refine go_st (st2 := [.int (qGvC M j pt)]) (by simp only [qGvC, if_pos c_13]) ?_
        exact G_2
      · refine go_iload C 0 dL_law_730 rfl ?_
        refine go_aload C 14 dL_law_732 rfl ?_
        refine go_iload C 3 dL_law_734 rfl ?_
        refine lm_p C (vp_in_nI (n := j) (by omega) (by decide)) dL_law_736 ?_
        rw [cl_nI (i := j) (by omega)]
        refine go_icmp_gt C (tgt := 762) dL_law_737 (by decide) (fun c_14 => ?_) (fun c_14 => ?_)
        · refine go_iconst C (v := 0) dL_law_762 (by decide) ?_
          refine go_st (st2 := [.int (qGvC M j pt)]) (by simp only [qGvC, if_neg c_13, if_pos c_14]) ?_
          exact G_2
        · refine go_aload C 15 dL_law_740 rfl ?_
          refine go_iload C 3 dL_law_742 rfl ?_
          refine lm_c C (vp_in_nI (n := j) (by omega) (by decide)) dL_law_744 ?_
          rw [cl_nI (i := j) (by omega)]
          refine go_bipush C (v := 10) dL_law_745 (by decide) ?_
          refine go_icmp_ge C (tgt := 762) dL_law_747 (by decide) (fun c_15 => ?_) (fun c_15 => ?_)
          · refine go_iconst C (v := 0) dL_law_762 (by decide) ?_
            refine go_st (st2 := [.int (qGvC M j pt)]) (by simp only [qGvC, if_neg c_13, if_neg c_14, if_pos c_15]) ?_
            exact G_2
          · refine go_aload C 13 dL_law_750 rfl ?_
            refine go_iload C 3 dL_law_752 rfl ?_
            refine lm_f C (vp_in_nI (n := j) (by omega) (by decide)) dL_law_754 ?_
            rw [cl_nI (i := j) (by omega)]
            refine go_if_ne C (tgt := 762) dL_law_755 (by decide) (fun c_16 => ?_) (fun c_16 => ?_)
            · refine go_iconst C (v := 0) dL_law_762 (by decide) ?_
              refine go_st (st2 := [.int (qGvC M j pt)]) (by simp only [qGvC, if_neg c_13, if_neg c_14, if_neg c_15, if_neg c_16]) ?_
              exact G_2
            · refine go_iconst C (v := 1) dL_law_758 (by decide) ?_
              refine go_goto C (tgt := 763) dL_law_759 (by decide) ?_
              refine go_st (st2 := [.int (qGvC M j pt)]) (by simp only [qGvC, if_neg c_13, if_neg c_14, if_neg c_15, if_pos c_16]) ?_
              exact G_2
  refine go_iload C 3 dL_law_681 rfl ?_
  refine go_bipush C (v := 6) dL_law_683 (by decide) ?_
  refine go_irem C dL_law_685 (by decide) ?_
  refine go_st (st2 := [.int (nI (y % 6))]) (by rw [q_rem (D := 6) 6 (by omega) (by omega) (by omega) rfl]) ?_
  refine go_if_ne C (tgt := 697) dL_law_686 (by decide) (fun c_17 => ?_) (fun c_17 => ?_)
  · refine go_iconst C (v := 1) dL_law_697 (by decide) ?_
    refine go_iload C 3 dL_law_698 rfl ?_
    refine go_bipush C (v := 6) dL_law_700 (by decide) ?_
    refine go_idiv C dL_law_702 (by decide) ?_
    refine go_st (st2 := [.int (nI (y / 6)), .int 1]) (by rw [q_div (D := 6) 6 (by omega) (by omega) (by omega) rfl]) ?_
    refine go_iload C 3 dL_law_703 rfl ?_
    refine go_iconst C (v := 4) dL_law_705 (by decide) ?_
    refine go_irem C dL_law_706 (by decide) ?_
    refine go_st (st2 := [.int (nI (y % 4)), .int (nI (y / 6)), .int 1]) (by rw [q_rem (D := 4) 4 (by omega) (by omega) (by omega) rfl]) ?_
    refine go_if_ne C (tgt := 715) dL_law_707 (by decide) (fun c_18 => ?_) (fun c_18 => ?_)
    · refine go_sipush C (v := 20000) dL_law_715 (by decide) ?_
      refine go_irem C dL_law_718 (by decide) ?_
      refine go_st (st2 := [.int (nI ((y / 6) % 20000)), .int 1]) (by rw [q_rem (D := 20000) 20000 (by omega) (by omega) (by omega) rfl]) ?_
      refine go_iadd C dL_law_719 ?_
      refine go_st (st2 := [.int (nI (1 + ((y / 6) % 20000)))]) (by rw [show (1 : Int32) = nI 1 from rfl, nI_add]) ?_
      exact G_1 _ (fun _ => by rw [nI_toInt (by omega)]; omega)
    · refine go_ldc C bk_RL_116 dL_law_710 ?_
      refine go_goto C (tgt := 718) dL_law_712 (by decide) ?_
      refine go_irem C dL_law_718 (by decide) ?_
      refine go_st (st2 := [.int (nI ((y / 6) % 10000000)), .int 1]) (by rw [q_rem (D := 10000000) 10000000 (by omega) (by omega) (by omega) rfl]) ?_
      refine go_iadd C dL_law_719 ?_
      refine go_st (st2 := [.int (nI (1 + ((y / 6) % 10000000)))]) (by rw [show (1 : Int32) = nI 1 from rfl, nI_add]) ?_
      exact G_1 _ (fun _ => by rw [nI_toInt (by omega)]; omega)
  · refine go_aload C 13 dL_law_689 rfl ?_
    refine go_iload C 2 dL_law_691 rfl ?_
    refine lm_p C (vp_in_nI (n := j) (by omega) (by decide)) dL_law_693 ?_
    rw [cl_nI (i := j) (by omega)]
    refine go_goto C (tgt := 720) dL_law_694 (by decide) ?_
    exact G_1 _ (w.ppos hj)
set_option maxHeartbeats 4000000 in
theorem law_withdraw {p : Program} {l : Launch} {e : Env} {s : State} {m : MethodId} {args : Array Value} {below : List Frame} {meth : Method} {c : Code} {D : va_G} {N0 : Nat} {ret : Option FieldType} {nm : String} {Q : State → Prop} {k n : Nat} {cI cJ cO : ClassId} {a : Nat → Nat} {b i : Nat} {S : CS} {M : LWS} {y kd j cu ct : Nat} (C : Cxt p s m args meth c D (tysW cI cJ cO) N0 cL_law 23 RL ret nm) (hlf : l.stackTraces = false) (hk : k + 60 ≤ 644676 ∧ n + 600 ≤ 7167596) (w : Rl S M) (hy : y < 2 ^ 27) (hj : j < 20) (hcu : cu < 4) (hct : 1 ≤ ct ∧ ct ≤ 10000000) (g : ∀ (S2 : CS) (M2 : LWS), Rl S2 M2 → Go p l e room_1 s m args below meth c D N0 23 Q (wW cI cJ cO a S2 M2 []) (k + 60) (n + 600) 1990 [(13, .int (nI i)), (12, .int 1), (11, .ref (a 14)), (10, .ref (a 13)), (9, .ref (a 12)), (8, .ref (a 11)), (7, .ref (a 10)), (6, .ref (a 9)), (5, .ref (a 8)), (4, .ref (a 7)), (3, .ref (a 6)), (2, .ref (a 5)), (1, .ref (a 0)), (0, .ref b)] []) : Go p l e room_1 s m args below meth c D N0 23 Q (wW cI cJ cO a S M ([])) (k) (n) 871 [(19, .int (nI ct)), (18, .int (nI cu)), (17, .int (nI j)), (16, .int (nI y)), (15, .int (nI kd)), (13, .int (nI i)), (12, .int 1), (11, .ref (a 14)), (10, .ref (a 13)), (9, .ref (a 12)), (8, .ref (a 11)), (7, .ref (a 10)), (6, .ref (a 9)), (5, .ref (a 8)), (4, .ref (a 7)), (3, .ref (a 6)), (2, .ref (a 5)), (1, .ref (a 0)), (0, .ref b)] [] := by
  obtain ⟨hk1, hk2⟩ := hk
  obtain ⟨hn0, hn20⟩ := w.n20
  have wk := w.ok.1
  have w0 := w
  obtain ⟨M9, h9, r9⟩ := w0
  have hop := op_withdraw h9 r9 hj
  refine go_join (wW cI cJ cO a S M ([])) 912 [(19, .int (nI ct)), (18, .int (nI cu)), (17, .int (nI j)), (16, .int (nI y)), (15, .int (nI kd)), (13, .int (nI i)), (12, .int 1), (11, .ref (a 14)), (10, .ref (a 13)), (9, .ref (a 12)), (8, .ref (a 11)), (7, .ref (a 10)), (6, .ref (a 9)), (5, .ref (a 8)), (4, .ref (a 7)), (3, .ref (a 6)), (2, .ref (a 5)), (1, .ref (a 0)), (0, .ref b)] [.int (qWdD M j)] ?_ (fun G_1 => ?_)
  · refine go_istore C (lo' := [(20, .int (qWdD M j)), (19, .int (nI ct)), (18, .int (nI cu)), (17, .int (nI j)), (16, .int (nI y)), (15, .int (nI kd)), (13, .int (nI i)), (12, .int 1), (11, .ref (a 14)), (10, .ref (a 13)), (9, .ref (a 12)), (8, .ref (a 11)), (7, .ref (a 10)), (6, .ref (a 9)), (5, .ref (a 8)), (4, .ref (a 7)), (3, .ref (a 6)), (2, .ref (a 5)), (1, .ref (a 0)), (0, .ref b)]) dL_law_912 (by decide) rfl ?_
    refine go_aload C 13 dL_law_914 rfl ?_
    refine go_iload C 3 dL_law_916 rfl ?_
    refine go_join (wW cI cJ cO a S M ([])) 932 [(20, .int (qWdD M j)), (19, .int (nI ct)), (18, .int (nI cu)), (17, .int (nI j)), (16, .int (nI y)), (15, .int (nI kd)), (13, .int (nI i)), (12, .int 1), (11, .ref (a 14)), (10, .ref (a 13)), (9, .ref (a 12)), (8, .ref (a 11)), (7, .ref (a 10)), (6, .ref (a 9)), (5, .ref (a 8)), (4, .ref (a 7)), (3, .ref (a 6)), (2, .ref (a 5)), (1, .ref (a 0)), (0, .ref b)] [.int (qWdF M j), .int (nI j), .ref (a 9)] ?_ (fun G_2 => ?_)
    · refine sm_f C (vp_in_nI (n := j) (by omega) (by decide)) dL_law_932 ?_
      rw [cl_nI (i := j) (by omega)]
      refine go_w (w2 := wW cI cJ cO a S (qWdL M j) ([])) rfl ?_
      refine go_aload_n C 18 dL_law_933 rfl rfl ?_
      refine go_iconst C (v := 2) dL_law_934 (by decide) ?_
      refine go_iload C 3 dL_law_935 rfl ?_
      refine go_iconst C (v := 0) dL_law_937 (by decide) ?_
      refine k_RL_81_2 C hlf S (qWdL M j) ([]) (nI j) 0 wk ⟨(Nat.le_of_ble_eq_true rfl), (Nat.le_of_ble_eq_true rfl)⟩ ⟨(show _ ≤ 644676 by omega), (show _ ≤ 7167596 by omega)⟩ (Nat.le_of_ble_eq_true rfl) dL_law_938 (fun c9 => ?_) (fun c9 => ?_)
      · rcases hop with ⟨o1, o2, o3⟩ | ⟨o1, o2, o3⟩
        · refine go_st (st2 := [.int (qWdD M j)]) (by rw [o2]) ?_
          refine go_iload C 0 dL_law_941 rfl ?_
          refine go_icmp_ne C (tgt := 950) dL_law_943 (by decide) (fun c_3 => absurd c_3 (fun q9 => q9 rfl)) (fun c_3 => ?_)
          refine go_iconst C (v := 1) dL_law_946 (by decide) ?_
          refine go_goto C (tgt := 951) dL_law_947 (by decide) ?_
          refine go_istore C (lo' := [(12, .int 1), (20, .int (qWdD M j)), (19, .int (nI ct)), (18, .int (nI cu)), (17, .int (nI j)), (16, .int (nI y)), (15, .int (nI kd)), (13, .int (nI i)), (11, .ref (a 14)), (10, .ref (a 13)), (9, .ref (a 12)), (8, .ref (a 11)), (7, .ref (a 10)), (6, .ref (a 9)), (5, .ref (a 8)), (4, .ref (a 7)), (3, .ref (a 6)), (2, .ref (a 5)), (1, .ref (a 0)), (0, .ref b)]) dL_law_951 (by decide) rfl ?_
          refine go_goto C (tgt := 1990) dL_law_953 (by decide) ?_
          refine go_lo (lo' := [(13, .int (nI i)), (12, .int 1), (11, .ref (a 14)), (10, .ref (a 13)), (9, .ref (a 12)), (8, .ref (a 11)), (7, .ref (a 10)), (6, .ref (a 9)), (5, .ref (a 8)), (4, .ref (a 7)), (3, .ref (a 6)), (2, .ref (a 5)), (1, .ref (a 0)), (0, .ref b)]) [7, 0, 8, 9, 10, 11, 12, 13, 14, 15, 16, 17, 18, 19] rfl ?_
          refine go_widen (k2 := k + 60) (n2 := n + 600) (by omega) (by omega) ?_
          exact g _ _ o3
        · exact absurd c9 o1
      · rcases hop with ⟨o1, o2, o3⟩ | ⟨o1, o2, o3⟩
        · exact absurd o1 c9
        · refine go_st (st2 := [.int (qWdD M j)]) (by rw [o2]) ?_
          refine go_iload C 0 dL_law_941 rfl ?_
          refine go_icmp_ne C (tgt := 950) dL_law_943 (by decide) (fun c_4 => absurd c_4 (fun q9 => q9 rfl)) (fun c_4 => ?_)
          refine go_iconst C (v := 1) dL_law_946 (by decide) ?_
          refine go_goto C (tgt := 951) dL_law_947 (by decide) ?_
          refine go_istore C (lo' := [(12, .int 1), (20, .int (qWdD M j)), (19, .int (nI ct)), (18, .int (nI cu)), (17, .int (nI j)), (16, .int (nI y)), (15, .int (nI kd)), (13, .int (nI i)), (11, .ref (a 14)), (10, .ref (a 13)), (9, .ref (a 12)), (8, .ref (a 11)), (7, .ref (a 10)), (6, .ref (a 9)), (5, .ref (a 8)), (4, .ref (a 7)), (3, .ref (a 6)), (2, .ref (a 5)), (1, .ref (a 0)), (0, .ref b)]) dL_law_951 (by decide) rfl ?_
          refine go_goto C (tgt := 1990) dL_law_953 (by decide) ?_
          refine go_lo (lo' := [(13, .int (nI i)), (12, .int 1), (11, .ref (a 14)), (10, .ref (a 13)), (9, .ref (a 12)), (8, .ref (a 11)), (7, .ref (a 10)), (6, .ref (a 9)), (5, .ref (a 8)), (4, .ref (a 7)), (3, .ref (a 6)), (2, .ref (a 5)), (1, .ref (a 0)), (0, .ref b)]) [7, 0, 8, 9, 10, 11, 12, 13, 14, 15, 16, 17, 18, 19] rfl ?_
          refine go_widen (k2 := k + 60) (n2 := n + 600) (by omega) (by omega) ?_
          exact g _ _ o3
    · refine go_iload C 0 dL_law_918 rfl ?_
      refine go_if_le C (tgt := 927) dL_law_920 (by decide) (fun c_5 => ?_) (fun c_5 => ?_)
      · refine go_aload C 13 dL_law_927 rfl ?_
        refine go_iload C 3 dL_law_929 rfl ?_
        refine lm_f C (vp_in_nI (n := j) (by omega) (by decide)) dL_law_931 ?_
        rw [cl_nI (i := j) (by omega)]
        refine go_st (st2 := [.int (qWdF M j), .int (nI j), .ref (a 9)]) (by simp only [qWdF, if_pos c_5]) ?_
        exact G_2
      · refine go_iconst C (v := 0) dL_law_923 (by decide) ?_
        refine go_goto C (tgt := 932) dL_law_924 (by decide) ?_
        refine go_st (st2 := [.int (qWdF M j), .int (nI j), .ref (a 9)]) (by simp only [qWdF, if_neg c_5]) ?_
        exact G_2
  · refine go_aload C 13 dL_law_871 rfl ?_
    refine go_iload C 2 dL_law_873 rfl ?_
    refine lm_p C (vp_in_nI (n := j) (by omega) (by decide)) dL_law_875 ?_
    rw [cl_nI (i := j) (by omega)]
    refine go_if_ne C (tgt := 884) dL_law_876 (by decide) (fun c_6 => ?_) (fun c_6 => ?_)
    · refine go_aload C 14 dL_law_884 rfl ?_
      refine go_iload C 2 dL_law_886 rfl ?_
      refine lm_c C (vp_in_nI (n := j) (by omega) (by decide)) dL_law_888 ?_
      rw [cl_nI (i := j) (by omega)]
      refine go_bipush C (v := 10) dL_law_889 (by decide) ?_
      refine go_icmp_ge C (tgt := 902) dL_law_891 (by decide) (fun c_7 => ?_) (fun c_7 => ?_)
      · refine go_bipush C (v := (-13)) dL_law_902 (by decide) ?_
        refine go_goto C (tgt := 912) dL_law_904 (by decide) ?_
        refine go_st (st2 := [.int (qWdD M j)]) (by simp only [qWdD, if_neg c_6, if_pos c_7]) ?_
        exact G_1
      · refine go_aload C 12 dL_law_894 rfl ?_
        refine go_iload C 2 dL_law_896 rfl ?_
        refine lm_f C (vp_in_nI (n := j) (by omega) (by decide)) dL_law_898 ?_
        rw [cl_nI (i := j) (by omega)]
        refine go_if_ne C (tgt := 907) dL_law_899 (by decide) (fun c_8 => ?_) (fun c_8 => ?_)
        · refine go_aload C 12 dL_law_907 rfl ?_
          refine go_iload C 2 dL_law_909 rfl ?_
          refine lm_f C (vp_in_nI (n := j) (by omega) (by decide)) dL_law_911 ?_
          rw [cl_nI (i := j) (by omega)]
          refine go_st (st2 := [.int (qWdD M j)]) (by simp only [qWdD, if_neg c_6, if_neg c_7, if_neg c_8]) ?_
          exact G_1
        · refine go_bipush C (v := (-13)) dL_law_902 (by decide) ?_
          refine go_goto C (tgt := 912) dL_law_904 (by decide) ?_
          refine go_st (st2 := [.int (qWdD M j)]) (by simp only [qWdD, if_neg c_6, if_neg c_7, if_pos c_8]) ?_
          exact G_1
    · refine go_bipush C (v := (-11)) dL_law_879 (by decide) ?_
      refine go_goto C (tgt := 912) dL_law_881 (by decide) ?_
      refine go_st (st2 := [.int (qWdD M j)]) (by simp only [qWdD, if_pos c_6]) ?_
      exact G_1
set_option maxHeartbeats 4000000 in
theorem law_take {p : Program} {l : Launch} {e : Env} {s : State} {m : MethodId} {args : Array Value} {below : List Frame} {meth : Method} {c : Code} {D : va_G} {N0 : Nat} {ret : Option FieldType} {nm : String} {Q : State → Prop} {k n : Nat} {cI cJ cO : ClassId} {a : Nat → Nat} {b i : Nat} {S : CS} {M : LWS} {y kd j cu ct : Nat} (C : Cxt p s m args meth c D (tysW cI cJ cO) N0 cL_law 23 RL ret nm) (hlf : l.stackTraces = false) (hk : k + 60 ≤ 644676 ∧ n + 600 ≤ 7167596) (w : Rl S M) (hy : y < 2 ^ 27) (hj : j < 20) (hcu : cu < 4) (hct : 1 ≤ ct ∧ ct ≤ 10000000) (g : ∀ (S2 : CS) (M2 : LWS), Rl S2 M2 → Go p l e room_1 s m args below meth c D N0 23 Q (wW cI cJ cO a S2 M2 []) (k + 60) (n + 600) 1990 [(13, .int (nI i)), (12, .int 1), (11, .ref (a 14)), (10, .ref (a 13)), (9, .ref (a 12)), (8, .ref (a 11)), (7, .ref (a 10)), (6, .ref (a 9)), (5, .ref (a 8)), (4, .ref (a 7)), (3, .ref (a 6)), (2, .ref (a 5)), (1, .ref (a 0)), (0, .ref b)] []) : Go p l e room_1 s m args below meth c D N0 23 Q (wW cI cJ cO a S M ([])) (k) (n) 963 [(19, .int (nI ct)), (18, .int (nI cu)), (17, .int (nI j)), (16, .int (nI y)), (15, .int (nI kd)), (13, .int (nI i)), (12, .int 1), (11, .ref (a 14)), (10, .ref (a 13)), (9, .ref (a 12)), (8, .ref (a 11)), (7, .ref (a 10)), (6, .ref (a 9)), (5, .ref (a 8)), (4, .ref (a 7)), (3, .ref (a 6)), (2, .ref (a 5)), (1, .ref (a 0)), (0, .ref b)] [] := by
  obtain ⟨hk1, hk2⟩ := hk
  obtain ⟨hn0, hn20⟩ := w.n20
  have wk := w.ok.1
  have w0 := w
  obtain ⟨M9, h9, r9⟩ := w0
  have hop := op_take h9 r9 hj
  refine go_join (wW cI cJ cO a S M ([])) 1008 [(19, .int (nI ct)), (18, .int (nI cu)), (17, .int (nI j)), (16, .int (nI y)), (15, .int (nI kd)), (13, .int (nI i)), (12, .int 1), (11, .ref (a 14)), (10, .ref (a 13)), (9, .ref (a 12)), (8, .ref (a 11)), (7, .ref (a 10)), (6, .ref (a 9)), (5, .ref (a 8)), (4, .ref (a 7)), (3, .ref (a 6)), (2, .ref (a 5)), (1, .ref (a 0)), (0, .ref b)] [.int (qTkC M j)] ?_ (fun G_1 => ?_)
  · refine go_istore C (lo' := [(20, .int (qTkC M j)), (19, .int (nI ct)), (18, .int (nI cu)), (17, .int (nI j)), (16, .int (nI y)), (15, .int (nI kd)), (13, .int (nI i)), (12, .int 1), (11, .ref (a 14)), (10, .ref (a 13)), (9, .ref (a 12)), (8, .ref (a 11)), (7, .ref (a 10)), (6, .ref (a 9)), (5, .ref (a 8)), (4, .ref (a 7)), (3, .ref (a 6)), (2, .ref (a 5)), (1, .ref (a 0)), (0, .ref b)]) dL_law_1008 (by decide) rfl ?_
    refine go_join (wW cI cJ cO a S M ([])) 1038 [(20, .int (qTkC M j)), (19, .int (nI ct)), (18, .int (nI cu)), (17, .int (nI j)), (16, .int (nI y)), (15, .int (nI kd)), (13, .int (nI i)), (12, .int 1), (11, .ref (a 14)), (10, .ref (a 13)), (9, .ref (a 12)), (8, .ref (a 11)), (7, .ref (a 10)), (6, .ref (a 9)), (5, .ref (a 8)), (4, .ref (a 7)), (3, .ref (a 6)), (2, .ref (a 5)), (1, .ref (a 0)), (0, .ref b)] [.int (qTkD M j)] ?_ (fun G_2 => ?_)
    · refine go_istore C (lo' := [(21, .int (qTkD M j)), (20, .int (qTkC M j)), (19, .int (nI ct)), (18, .int (nI cu)), (17, .int (nI j)), (16, .int (nI y)), (15, .int (nI kd)), (13, .int (nI i)), (12, .int 1), (11, .ref (a 14)), (10, .ref (a 13)), (9, .ref (a 12)), (8, .ref (a 11)), (7, .ref (a 10)), (6, .ref (a 9)), (5, .ref (a 8)), (4, .ref (a 7)), (3, .ref (a 6)), (2, .ref (a 5)), (1, .ref (a 0)), (0, .ref b)]) dL_law_1038 (by decide) rfl ?_
      refine go_join (wW cI cJ cO a S (qTkL M j) ([])) 1128 [(21, .int (qTkV M j)), (20, .int (qTkC M j)), (19, .int (nI ct)), (18, .int (nI cu)), (17, .int (nI j)), (16, .int (nI y)), (15, .int (nI kd)), (13, .int (nI i)), (12, .int 1), (11, .ref (a 14)), (10, .ref (a 13)), (9, .ref (a 12)), (8, .ref (a 11)), (7, .ref (a 10)), (6, .ref (a 9)), (5, .ref (a 8)), (4, .ref (a 7)), (3, .ref (a 6)), (2, .ref (a 5)), (1, .ref (a 0)), (0, .ref b)] [] ?_ (fun G_3 => ?_)
      · refine go_aload_n C 19 dL_law_1128 rfl rfl ?_
        refine go_iconst C (v := 3) dL_law_1129 (by decide) ?_
        refine go_iload C 4 dL_law_1130 rfl ?_
        refine go_iconst C (v := 0) dL_law_1132 (by decide) ?_
        refine k_RL_81_3 C hlf S (qTkL M j) ([]) (nI j) 0 wk ⟨(Nat.le_of_ble_eq_true rfl), (Nat.le_of_ble_eq_true rfl)⟩ ⟨(show _ ≤ 644676 by omega), (show _ ≤ 7167596 by omega)⟩ (Nat.le_of_ble_eq_true rfl) dL_law_1133 (fun c9 => ?_) (fun c9 => ?_)
        · rcases hop with ⟨o1, o2, o3⟩ | ⟨o1, o2, o3⟩
          · refine go_st (st2 := [.int (qTkV M j)]) (by rw [o2]) ?_
            refine go_iload C 0 dL_law_1136 rfl ?_
            refine go_icmp_ne C (tgt := 1145) dL_law_1138 (by decide) (fun c_4 => absurd c_4 (fun q9 => q9 rfl)) (fun c_4 => ?_)
            refine go_iconst C (v := 1) dL_law_1141 (by decide) ?_
            refine go_goto C (tgt := 1146) dL_law_1142 (by decide) ?_
            refine go_istore C (lo' := [(12, .int 1), (21, .int (qTkV M j)), (20, .int (qTkC M j)), (19, .int (nI ct)), (18, .int (nI cu)), (17, .int (nI j)), (16, .int (nI y)), (15, .int (nI kd)), (13, .int (nI i)), (11, .ref (a 14)), (10, .ref (a 13)), (9, .ref (a 12)), (8, .ref (a 11)), (7, .ref (a 10)), (6, .ref (a 9)), (5, .ref (a 8)), (4, .ref (a 7)), (3, .ref (a 6)), (2, .ref (a 5)), (1, .ref (a 0)), (0, .ref b)]) dL_law_1146 (by decide) rfl ?_
            refine go_goto C (tgt := 1990) dL_law_1148 (by decide) ?_
            refine go_lo (lo' := [(13, .int (nI i)), (12, .int 1), (11, .ref (a 14)), (10, .ref (a 13)), (9, .ref (a 12)), (8, .ref (a 11)), (7, .ref (a 10)), (6, .ref (a 9)), (5, .ref (a 8)), (4, .ref (a 7)), (3, .ref (a 6)), (2, .ref (a 5)), (1, .ref (a 0)), (0, .ref b)]) [8, 0, 9, 10, 11, 12, 13, 14, 15, 16, 17, 18, 19, 20] rfl ?_
            refine go_widen (k2 := k + 60) (n2 := n + 600) (by omega) (by omega) ?_
            exact g _ _ o3
          · exact absurd c9 o1
        · rcases hop with ⟨o1, o2, o3⟩ | ⟨o1, o2, o3⟩
          · exact absurd o1 c9
          · refine go_st (st2 := [.int (qTkV M j)]) (by rw [o2]) ?_
            refine go_iload C 0 dL_law_1136 rfl ?_
            refine go_icmp_ne C (tgt := 1145) dL_law_1138 (by decide) (fun c_5 => absurd c_5 (fun q9 => q9 rfl)) (fun c_5 => ?_)
            refine go_iconst C (v := 1) dL_law_1141 (by decide) ?_
            refine go_goto C (tgt := 1146) dL_law_1142 (by decide) ?_
            refine go_istore C (lo' := [(12, .int 1), (21, .int (qTkV M j)), (20, .int (qTkC M j)), (19, .int (nI ct)), (18, .int (nI cu)), (17, .int (nI j)), (16, .int (nI y)), (15, .int (nI kd)), (13, .int (nI i)), (11, .ref (a 14)), (10, .ref (a 13)), (9, .ref (a 12)), (8, .ref (a 11)), (7, .ref (a 10)), (6, .ref (a 9)), (5, .ref (a 8)), (4, .ref (a 7)), (3, .ref (a 6)), (2, .ref (a 5)), (1, .ref (a 0)), (0, .ref b)]) dL_law_1146 (by decide) rfl ?_
            refine go_goto C (tgt := 1990) dL_law_1148 (by decide) ?_
            refine go_lo (lo' := [(13, .int (nI i)), (12, .int 1), (11, .ref (a 14)), (10, .ref (a 13)), (9, .ref (a 12)), (8, .ref (a 11)), (7, .ref (a 10)), (6, .ref (a 9)), (5, .ref (a 8)), (4, .ref (a 7)), (3, .ref (a 6)), (2, .ref (a 5)), (1, .ref (a 0)), (0, .ref b)]) [8, 0, 9, 10, 11, 12, 13, 14, 15, 16, 17, 18, 19, 20] rfl ?_
            refine go_widen (k2 := k + 60) (n2 := n + 600) (by omega) (by omega) ?_
            exact g _ _ o3
      · refine go_iload C 1 dL_law_1040 rfl ?_
        refine go_if_eq C (tgt := 1128) dL_law_1042 (by decide) (fun c_6 => ?_) (fun c_6 => ?_)
        · refine go_w (w2 := wW cI cJ cO a S (qTkL M j) ([])) (by rw [qTkL, if_pos c_6] <;> rfl) ?_
          refine go_lo (lo' := [(21, .int (qTkV M j)), (20, .int (qTkC M j)), (19, .int (nI ct)), (18, .int (nI cu)), (17, .int (nI j)), (16, .int (nI y)), (15, .int (nI kd)), (13, .int (nI i)), (12, .int 1), (11, .ref (a 14)), (10, .ref (a 13)), (9, .ref (a 12)), (8, .ref (a 11)), (7, .ref (a 10)), (6, .ref (a 9)), (5, .ref (a 8)), (4, .ref (a 7)), (3, .ref (a 6)), (2, .ref (a 5)), (1, .ref (a 0)), (0, .ref b)]) [0, 1, 2, 3, 4, 5, 6, 7, 8, 9, 10, 11, 12, 13, 14, 15, 16, 17, 18, 19, 20] (by rw [qTkV, if_pos c_6] <;> rfl) ?_
          exact G_3
        · have hw : vp_in (lOw (qTkA M j) j) 4 := (qTk_in w hj c_6).2
          refine go_aload C 9 dL_law_1045 rfl ?_
          refine go_aload C 16 dL_law_1047 rfl ?_
          refine go_iload C 4 dL_law_1049 rfl ?_
          refine lm_c C (vp_in_nI (n := j) (by omega) (by decide)) dL_law_1051 ?_
          rw [cl_nI (i := j) (by omega)]
          refine go_dup2 C dL_law_1052 rfl rfl ?_
          refine lm_g C (qTk_in w hj c_6).1 dL_law_1053 ?_
          refine go_aload C 14 dL_law_1054 rfl ?_
          refine go_iload C 4 dL_law_1056 rfl ?_
          refine lm_f C (vp_in_nI (n := j) (by omega) (by decide)) dL_law_1058 ?_
          rw [cl_nI (i := j) (by omega)]
          refine go_i2l C dL_law_1059 ?_
          refine go_ladd C dL_law_1060 ?_
          refine sm_g C (qTk_in w hj c_6).1 dL_law_1061 ?_
          refine go_w (w2 := wW cI cJ cO a S (qTk1 M j) ([])) rfl ?_
          refine go_join (wW cI cJ cO a S (qTk1 M j) ([])) 1080 [(21, .int (qTkD M j)), (20, .int (qTkC M j)), (19, .int (nI ct)), (18, .int (nI cu)), (17, .int (nI j)), (16, .int (nI y)), (15, .int (nI kd)), (13, .int (nI i)), (12, .int 1), (11, .ref (a 14)), (10, .ref (a 13)), (9, .ref (a 12)), (8, .ref (a 11)), (7, .ref (a 10)), (6, .ref (a 9)), (5, .ref (a 8)), (4, .ref (a 7)), (3, .ref (a 6)), (2, .ref (a 5)), (1, .ref (a 0)), (0, .ref b)] [.int (qTkG M j)] ?_ (fun G_7 => ?_)
          · refine go_istore C (lo' := [(22, .int (qTkG M j)), (21, .int (qTkD M j)), (20, .int (qTkC M j)), (19, .int (nI ct)), (18, .int (nI cu)), (17, .int (nI j)), (16, .int (nI y)), (15, .int (nI kd)), (13, .int (nI i)), (12, .int 1), (11, .ref (a 14)), (10, .ref (a 13)), (9, .ref (a 12)), (8, .ref (a 11)), (7, .ref (a 10)), (6, .ref (a 9)), (5, .ref (a 8)), (4, .ref (a 7)), (3, .ref (a 6)), (2, .ref (a 5)), (1, .ref (a 0)), (0, .ref b)]) dL_law_1080 (by decide) rfl ?_
            refine go_aload C 16 dL_law_1082 rfl ?_
            refine go_iload C 5 dL_law_1084 rfl ?_
            refine go_dup2 C dL_law_1086 rfl rfl ?_
            refine lm_p C (vp_in_nI (n := j) (by omega) (by decide)) dL_law_1087 ?_
            rw [cl_nI (i := j) (by omega)]
            refine go_aload C 15 dL_law_1088 rfl ?_
            refine go_iload C 5 dL_law_1090 rfl ?_
            refine lm_f C (vp_in_nI (n := j) (by omega) (by decide)) dL_law_1092 ?_
            rw [cl_nI (i := j) (by omega)]
            refine go_isub C dL_law_1093 ?_
            refine sm_p C (vp_in_nI (n := j) (by omega) (by decide)) dL_law_1094 ?_
            rw [cl_nI (i := j) (by omega)]
            refine go_w (w2 := wW cI cJ cO a S (qTk2 (qTk1 M j) j) ([])) rfl ?_
            refine go_aload C 15 dL_law_1095 rfl ?_
            refine go_iload C 5 dL_law_1097 rfl ?_
            refine go_iconst C (v := 0) dL_law_1099 (by decide) ?_
            refine sm_f C (vp_in_nI (n := j) (by omega) (by decide)) dL_law_1100 ?_
            rw [cl_nI (i := j) (by omega)]
            refine go_w (w2 := wW cI cJ cO a S (qTkA M j) ([])) rfl ?_
            refine go_iload C 1 dL_law_1101 rfl ?_
            refine go_join (wW cI cJ cO a S (qTkB M j) ([])) 1125 [(22, .int (qTkG M j)), (21, .int (qTkD M j)), (20, .int (qTkC M j)), (19, .int (nI ct)), (18, .int (nI cu)), (17, .int (nI j)), (16, .int (nI y)), (15, .int (nI kd)), (13, .int (nI i)), (12, .int 1), (11, .ref (a 14)), (10, .ref (a 13)), (9, .ref (a 12)), (8, .ref (a 11)), (7, .ref (a 10)), (6, .ref (a 9)), (5, .ref (a 8)), (4, .ref (a 7)), (3, .ref (a 6)), (2, .ref (a 5)), (1, .ref (a 0)), (0, .ref b)] [.int (qTkE M j), .int (qTkD M j)] ?_ (fun G_8 => ?_)
            · refine go_iadd C dL_law_1125 ?_
              refine go_istore C (lo' := [(21, .int ((qTkD M j) + (qTkE M j))), (22, .int (qTkG M j)), (20, .int (qTkC M j)), (19, .int (nI ct)), (18, .int (nI cu)), (17, .int (nI j)), (16, .int (nI y)), (15, .int (nI kd)), (13, .int (nI i)), (12, .int 1), (11, .ref (a 14)), (10, .ref (a 13)), (9, .ref (a 12)), (8, .ref (a 11)), (7, .ref (a 10)), (6, .ref (a 9)), (5, .ref (a 8)), (4, .ref (a 7)), (3, .ref (a 6)), (2, .ref (a 5)), (1, .ref (a 0)), (0, .ref b)]) dL_law_1126 (by decide) rfl ?_
              refine go_w (w2 := wW cI cJ cO a S (qTkL M j) ([])) (by rw [qTkL, if_neg c_6] <;> rfl) ?_
              refine go_lo (lo' := [(21, .int (qTkV M j)), (20, .int (qTkC M j)), (19, .int (nI ct)), (18, .int (nI cu)), (17, .int (nI j)), (16, .int (nI y)), (15, .int (nI kd)), (13, .int (nI i)), (12, .int 1), (11, .ref (a 14)), (10, .ref (a 13)), (9, .ref (a 12)), (8, .ref (a 11)), (7, .ref (a 10)), (6, .ref (a 9)), (5, .ref (a 8)), (4, .ref (a 7)), (3, .ref (a 6)), (2, .ref (a 5)), (1, .ref (a 0)), (0, .ref b)]) [0, 2, 3, 4, 5, 6, 7, 8, 9, 10, 11, 12, 13, 14, 15, 16, 17, 18, 19, 20, 21] (by rw [qTkV, if_neg c_6] <;> rfl) ?_
              exact G_3
            · refine go_iload C 0 dL_law_1103 rfl ?_
              refine go_if_eq C (tgt := 1124) dL_law_1105 (by decide) (fun c_9 => ?_) (fun c_9 => ?_)
              · refine go_iconst C (v := 0) dL_law_1124 (by decide) ?_
                refine go_w (w2 := wW cI cJ cO a S (qTkB M j) ([])) (by rw [qTkB, if_pos c_9] <;> rfl) ?_
                refine go_st (st2 := [.int (qTkE M j), .int (qTkD M j)]) (by simp only [qTkE, if_pos c_9]) ?_
                exact G_8
              · refine go_aload C 17 dL_law_1108 rfl ?_
                refine go_aload C 16 dL_law_1110 rfl ?_
                refine go_aload C 11 dL_law_1112 rfl ?_
                refine go_aload C 10 dL_law_1114 rfl ?_
                refine go_iload C 5 dL_law_1116 rfl ?_
                refine k_RL_33 C S (qTkA M j) ([]) j (by omega) hw ⟨(Nat.le_of_ble_eq_true rfl), (Nat.le_of_ble_eq_true rfl)⟩ ⟨(show _ ≤ 644676 by omega), (show _ ≤ 7167596 by omega)⟩ (Nat.le_of_ble_eq_true rfl) dL_law_1118 ?_
                refine go_goto C (tgt := 1125) dL_law_1121 (by decide) ?_
                refine go_w (w2 := wW cI cJ cO a S (qTkB M j) ([])) (by rw [qTkB, if_neg c_9] <;> rfl) ?_
                refine go_st (st2 := [.int (qTkE M j), .int (qTkD M j)]) (by simp only [qTkE, if_neg c_9]) ?_
                exact G_8
          · refine go_aload C 14 dL_law_1062 rfl ?_
            refine go_iload C 4 dL_law_1064 rfl ?_
            refine lm_f C (vp_in_nI (n := j) (by omega) (by decide)) dL_law_1066 ?_
            rw [cl_nI (i := j) (by omega)]
            refine go_aload C 15 dL_law_1067 rfl ?_
            refine go_iload C 4 dL_law_1069 rfl ?_
            refine lm_p C (vp_in_nI (n := j) (by omega) (by decide)) dL_law_1071 ?_
            rw [cl_nI (i := j) (by omega)]
            refine go_icmp_ne C (tgt := 1079) dL_law_1072 (by decide) (fun c_10 => ?_) (fun c_10 => ?_)
            · refine go_iconst C (v := 0) dL_law_1079 (by decide) ?_
              refine go_st (st2 := [.int (qTkG M j)]) (by simp only [qTkG, if_neg (show ¬ ls_f M j = ls_p M j from c_10)]) ?_
              exact G_7
            · refine go_iconst C (v := 1) dL_law_1075 (by decide) ?_
              refine go_goto C (tgt := 1080) dL_law_1076 (by decide) ?_
              refine go_st (st2 := [.int (qTkG M j)]) (by simp only [qTkG, if_pos (show ls_f M j = ls_p M j from c_10)]) ?_
              exact G_7
    · refine go_aload C 14 dL_law_1010 rfl ?_
      refine go_iload C 3 dL_law_1012 rfl ?_
      refine lm_p C (vp_in_nI (n := j) (by omega) (by decide)) dL_law_1014 ?_
      rw [cl_nI (i := j) (by omega)]
      refine go_if_ne C (tgt := 1023) dL_law_1015 (by decide) (fun c_11 => ?_) (fun c_11 => ?_)
      · refine go_iload C 0 dL_law_1023 rfl ?_
        refine go_if_eq C (tgt := 1036) dL_law_1025 (by decide) (fun c_12 => ?_) (fun c_12 => ?_)
        · refine go_bipush C (v := (-13)) dL_law_1036 (by decide) ?_
          refine go_st (st2 := [.int (qTkD M j)]) (by simp only [qTkD, if_neg c_11, if_pos c_12]) ?_
          exact G_2
        · refine go_aload C 13 dL_law_1028 rfl ?_
          refine go_iload C 3 dL_law_1030 rfl ?_
          refine lm_f C (vp_in_nI (n := j) (by omega) (by decide)) dL_law_1032 ?_
          rw [cl_nI (i := j) (by omega)]
          refine go_goto C (tgt := 1038) dL_law_1033 (by decide) ?_
          refine go_st (st2 := [.int (qTkD M j)]) (by simp only [qTkD, if_neg c_11, if_neg c_12]) ?_
          exact G_2
      · refine go_bipush C (v := (-11)) dL_law_1018 (by decide) ?_
        refine go_goto C (tgt := 1038) dL_law_1020 (by decide) ?_
        refine go_st (st2 := [.int (qTkD M j)]) (by simp only [qTkD, if_pos c_11]) ?_
        exact G_2
  · refine go_aload C 13 dL_law_963 rfl ?_
    refine go_iload C 2 dL_law_965 rfl ?_
    refine lm_p C (vp_in_nI (n := j) (by omega) (by decide)) dL_law_967 ?_
    rw [cl_nI (i := j) (by omega)]
    refine go_if_le C (tgt := 1007) dL_law_968 (by decide) (fun c_13 => ?_) (fun c_13 => ?_)
    · refine go_iconst C (v := 0) dL_law_1007 (by decide) ?_
      refine go_st (st2 := [.int (qTkC M j)]) (by simp only [qTkC, if_pos c_13]) ?_
      exact G_1
    · refine go_aload C 14 dL_law_971 rfl ?_
      refine go_iload C 2 dL_law_973 rfl ?_
      refine lm_c C (vp_in_nI (n := j) (by omega) (by decide)) dL_law_975 ?_
      rw [cl_nI (i := j) (by omega)]
      refine go_bipush C (v := 10) dL_law_976 (by decide) ?_
      refine go_icmp_ge C (tgt := 1007) dL_law_978 (by decide) (fun c_14 => ?_) (fun c_14 => ?_)
      · refine go_iconst C (v := 0) dL_law_1007 (by decide) ?_
        refine go_st (st2 := [.int (qTkC M j)]) (by simp only [qTkC, if_neg c_13, if_pos c_14]) ?_
        exact G_1
      · refine go_aload C 12 dL_law_981 rfl ?_
        refine go_iload C 2 dL_law_983 rfl ?_
        refine lm_f C (vp_in_nI (n := j) (by omega) (by decide)) dL_law_985 ?_
        rw [cl_nI (i := j) (by omega)]
        refine go_if_le C (tgt := 1007) dL_law_986 (by decide) (fun c_15 => ?_) (fun c_15 => ?_)
        · refine go_iconst C (v := 0) dL_law_1007 (by decide) ?_
          refine go_st (st2 := [.int (qTkC M j)]) (by simp only [qTkC, if_neg c_13, if_neg c_14, if_pos c_15]) ?_
          exact G_1
        · refine go_aload_n C 16 dL_law_989 rfl rfl ?_
          refine go_iconst C (v := 1) dL_law_990 (by decide) ?_
          refine lm_n C vin_1_4 dL_law_991 ?_
          rw [ck_1]
          refine go_aload C 11 dL_law_992 rfl ?_
          refine go_iload C 2 dL_law_994 rfl ?_
          refine lm_t C (vp_in_nI (n := j) (by omega) (by decide)) dL_law_996 ?_
          rw [cl_nI (i := j) (by omega)]
          refine go_bipush C (v := 32) dL_law_997 (by decide) ?_
          refine go_iadd C dL_law_999 ?_
          refine go_icmp_lt C (tgt := 1007) dL_law_1000 (by decide) (fun c_16 => ?_) (fun c_16 => ?_)
          · refine go_iconst C (v := 0) dL_law_1007 (by decide) ?_
            refine go_st (st2 := [.int (qTkC M j)]) (by simp only [qTkC, if_neg c_13, if_neg c_14, if_neg c_15, if_pos c_16]) ?_
            exact G_1
          · refine go_iconst C (v := 1) dL_law_1003 (by decide) ?_
            refine go_goto C (tgt := 1008) dL_law_1004 (by decide) ?_
            refine go_st (st2 := [.int (qTkC M j)]) (by simp only [qTkC, if_neg c_13, if_neg c_14, if_neg c_15, if_neg c_16]) ?_
            exact G_1
set_option maxHeartbeats 4000000 in
theorem law_instruct {p : Program} {l : Launch} {e : Env} {s : State} {m : MethodId} {args : Array Value} {below : List Frame} {meth : Method} {c : Code} {D : va_G} {N0 : Nat} {ret : Option FieldType} {nm : String} {Q : State → Prop} {k n : Nat} {cI cJ cO : ClassId} {a : Nat → Nat} {b i : Nat} {S : CS} {M : LWS} {y kd j cu ct : Nat} (C : Cxt p s m args meth c D (tysW cI cJ cO) N0 cL_law 23 RL ret nm) (hlf : l.stackTraces = false) (hk : k + 60 ≤ 644676 ∧ n + 600 ≤ 7167596) (w : Rl S M) (hy : y < 2 ^ 27) (hj : j < 20) (hcu : cu < 4) (hct : 1 ≤ ct ∧ ct ≤ 10000000) (g : ∀ (S2 : CS) (M2 : LWS), Rl S2 M2 → Go p l e room_1 s m args below meth c D N0 23 Q (wW cI cJ cO a S2 M2 []) (k + 60) (n + 600) 1990 [(13, .int (nI i)), (12, .int 1), (11, .ref (a 14)), (10, .ref (a 13)), (9, .ref (a 12)), (8, .ref (a 11)), (7, .ref (a 10)), (6, .ref (a 9)), (5, .ref (a 8)), (4, .ref (a 7)), (3, .ref (a 6)), (2, .ref (a 5)), (1, .ref (a 0)), (0, .ref b)] []) : Go p l e room_1 s m args below meth c D N0 23 Q (wW cI cJ cO a S M ([])) (k) (n) 1341 [(19, .int (nI ct)), (18, .int (nI cu)), (17, .int (nI j)), (16, .int (nI y)), (15, .int (nI kd)), (13, .int (nI i)), (12, .int 1), (11, .ref (a 14)), (10, .ref (a 13)), (9, .ref (a 12)), (8, .ref (a 11)), (7, .ref (a 10)), (6, .ref (a 9)), (5, .ref (a 8)), (4, .ref (a 7)), (3, .ref (a 6)), (2, .ref (a 5)), (1, .ref (a 0)), (0, .ref b)] [] := by
  obtain ⟨hk1, hk2⟩ := hk
  obtain ⟨hn0, hn20⟩ := w.n20
  have wk := w.ok.1
  have w0 := w
  obtain ⟨M9, h9, r9⟩ := w0
  have hop := op_instruct h9 r9 hj (v := nI (y / 20 % 3)) (three_or (by omega))
  refine go_join (wW cI cJ cO a S M ([])) 1378 [(19, .int (nI ct)), (18, .int (nI cu)), (17, .int (nI j)), (16, .int (nI y)), (15, .int (nI kd)), (13, .int (nI i)), (12, .int 1), (11, .ref (a 14)), (10, .ref (a 13)), (9, .ref (a 12)), (8, .ref (a 11)), (7, .ref (a 10)), (6, .ref (a 9)), (5, .ref (a 8)), (4, .ref (a 7)), (3, .ref (a 6)), (2, .ref (a 5)), (1, .ref (a 0)), (0, .ref b)] [.int (qInD M j)] ?_ (fun G_1 => ?_)
  · refine go_istore C (lo' := [(20, .int (qInD M j)), (19, .int (nI ct)), (18, .int (nI cu)), (17, .int (nI j)), (16, .int (nI y)), (15, .int (nI kd)), (13, .int (nI i)), (12, .int 1), (11, .ref (a 14)), (10, .ref (a 13)), (9, .ref (a 12)), (8, .ref (a 11)), (7, .ref (a 10)), (6, .ref (a 9)), (5, .ref (a 8)), (4, .ref (a 7)), (3, .ref (a 6)), (2, .ref (a 5)), (1, .ref (a 0)), (0, .ref b)]) dL_law_1378 (by decide) rfl ?_
    refine go_aload C 11 dL_law_1380 rfl ?_
    refine go_iconst C (v := 3) dL_law_1382 (by decide) ?_
    refine go_iload C 3 dL_law_1383 rfl ?_
    refine go_imul C dL_law_1385 ?_
    refine go_st (st2 := [.int (nI (3 * j)), .ref (a 11)]) (by rw [i3m]) ?_
    refine go_iconst C (v := 1) dL_law_1386 (by decide) ?_
    refine go_iadd C dL_law_1387 ?_
    refine go_st (st2 := [.int (nI ((3 * j) + 1)), .ref (a 11)]) (by rw [show (1 : Int32) = nI 1 from rfl, nI_add]) ?_
    refine go_join (wW cI cJ cO a S M ([])) 1412 [(20, .int (qInD M j)), (19, .int (nI ct)), (18, .int (nI cu)), (17, .int (nI j)), (16, .int (nI y)), (15, .int (nI kd)), (13, .int (nI i)), (12, .int 1), (11, .ref (a 14)), (10, .ref (a 13)), (9, .ref (a 12)), (8, .ref (a 11)), (7, .ref (a 10)), (6, .ref (a 9)), (5, .ref (a 8)), (4, .ref (a 7)), (3, .ref (a 6)), (2, .ref (a 5)), (1, .ref (a 0)), (0, .ref b)] [.int (qInV M j (nI (y / 20 % 3))), .int (nI ((3 * j) + 1)), .ref (a 11)] ?_ (fun G_2 => ?_)
    · refine sm_d C (vp_in_nI (n := (3 * j) + 1) (by omega) (by decide)) dL_law_1412 ?_
      rw [cl_nI (i := (3 * j) + 1) (by omega)]
      refine go_w (w2 := wW cI cJ cO a S (qInL M j (nI (y / 20 % 3))) ([])) rfl ?_
      refine go_aload_n C 18 dL_law_1413 rfl rfl ?_
      refine go_iconst C (v := 5) dL_law_1414 (by decide) ?_
      refine go_iload C 3 dL_law_1415 rfl ?_
      refine go_iload C 4 dL_law_1417 rfl ?_
      refine go_bipush C (v := 20) dL_law_1419 (by decide) ?_
      refine go_idiv C dL_law_1421 (by decide) ?_
      refine go_st (st2 := [.int (nI (y / 20)), .int (nI j), .int 5, .ref (a 0)]) (by rw [q_div (D := 20) 20 (by omega) (by omega) (by omega) rfl]) ?_
      refine go_iconst C (v := 3) dL_law_1422 (by decide) ?_
      refine go_irem C dL_law_1423 (by decide) ?_
      refine go_st (st2 := [.int (nI ((y / 20) % 3)), .int (nI j), .int 5, .ref (a 0)]) (by rw [q_rem (D := 3) 3 (by omega) (by omega) (by omega) rfl]) ?_
      refine k_RL_81_5 C hlf S (qInL M j (nI (y / 20 % 3))) ([]) (nI j) (nI ((y / 20) % 3)) wk ⟨(Nat.le_of_ble_eq_true rfl), (Nat.le_of_ble_eq_true rfl)⟩ ⟨(show _ ≤ 644676 by omega), (show _ ≤ 7167596 by omega)⟩ (Nat.le_of_ble_eq_true rfl) dL_law_1424 (fun c9 => ?_) (fun c9 => ?_)
      · rcases hop with ⟨o1, o2, o3⟩ | ⟨o1, o2, o3⟩
        · refine go_st (st2 := [.int (qInD M j)]) (by rw [o2]) ?_
          refine go_iload C 0 dL_law_1427 rfl ?_
          refine go_icmp_ne C (tgt := 1436) dL_law_1429 (by decide) (fun c_3 => absurd c_3 (fun q9 => q9 rfl)) (fun c_3 => ?_)
          refine go_iconst C (v := 1) dL_law_1432 (by decide) ?_
          refine go_goto C (tgt := 1437) dL_law_1433 (by decide) ?_
          refine go_istore C (lo' := [(12, .int 1), (20, .int (qInD M j)), (19, .int (nI ct)), (18, .int (nI cu)), (17, .int (nI j)), (16, .int (nI y)), (15, .int (nI kd)), (13, .int (nI i)), (11, .ref (a 14)), (10, .ref (a 13)), (9, .ref (a 12)), (8, .ref (a 11)), (7, .ref (a 10)), (6, .ref (a 9)), (5, .ref (a 8)), (4, .ref (a 7)), (3, .ref (a 6)), (2, .ref (a 5)), (1, .ref (a 0)), (0, .ref b)]) dL_law_1437 (by decide) rfl ?_
          refine go_goto C (tgt := 1990) dL_law_1439 (by decide) ?_
          refine go_lo (lo' := [(13, .int (nI i)), (12, .int 1), (11, .ref (a 14)), (10, .ref (a 13)), (9, .ref (a 12)), (8, .ref (a 11)), (7, .ref (a 10)), (6, .ref (a 9)), (5, .ref (a 8)), (4, .ref (a 7)), (3, .ref (a 6)), (2, .ref (a 5)), (1, .ref (a 0)), (0, .ref b)]) [7, 0, 8, 9, 10, 11, 12, 13, 14, 15, 16, 17, 18, 19] rfl ?_
          refine go_widen (k2 := k + 60) (n2 := n + 600) (by omega) (by omega) ?_
          exact g _ _ o3
        · exact absurd c9 o1
      · rcases hop with ⟨o1, o2, o3⟩ | ⟨o1, o2, o3⟩
        · exact absurd o1 c9
        · refine go_st (st2 := [.int (qInD M j)]) (by rw [o2]) ?_
          refine go_iload C 0 dL_law_1427 rfl ?_
          refine go_icmp_ne C (tgt := 1436) dL_law_1429 (by decide) (fun c_4 => absurd c_4 (fun q9 => q9 rfl)) (fun c_4 => ?_)
          refine go_iconst C (v := 1) dL_law_1432 (by decide) ?_
          refine go_goto C (tgt := 1437) dL_law_1433 (by decide) ?_
          refine go_istore C (lo' := [(12, .int 1), (20, .int (qInD M j)), (19, .int (nI ct)), (18, .int (nI cu)), (17, .int (nI j)), (16, .int (nI y)), (15, .int (nI kd)), (13, .int (nI i)), (11, .ref (a 14)), (10, .ref (a 13)), (9, .ref (a 12)), (8, .ref (a 11)), (7, .ref (a 10)), (6, .ref (a 9)), (5, .ref (a 8)), (4, .ref (a 7)), (3, .ref (a 6)), (2, .ref (a 5)), (1, .ref (a 0)), (0, .ref b)]) dL_law_1437 (by decide) rfl ?_
          refine go_goto C (tgt := 1990) dL_law_1439 (by decide) ?_
          refine go_lo (lo' := [(13, .int (nI i)), (12, .int 1), (11, .ref (a 14)), (10, .ref (a 13)), (9, .ref (a 12)), (8, .ref (a 11)), (7, .ref (a 10)), (6, .ref (a 9)), (5, .ref (a 8)), (4, .ref (a 7)), (3, .ref (a 6)), (2, .ref (a 5)), (1, .ref (a 0)), (0, .ref b)]) [7, 0, 8, 9, 10, 11, 12, 13, 14, 15, 16, 17, 18, 19] rfl ?_
          refine go_widen (k2 := k + 60) (n2 := n + 600) (by omega) (by omega) ?_
          exact g _ _ o3
    · refine go_iload C 0 dL_law_1388 rfl ?_
      refine go_if_lt C (tgt := 1403) dL_law_1390 (by decide) (fun c_5 => ?_) (fun c_5 => ?_)
      · refine go_aload C 11 dL_law_1403 rfl ?_
        refine go_iconst C (v := 3) dL_law_1405 (by decide) ?_
        refine go_iload C 3 dL_law_1406 rfl ?_
        refine go_imul C dL_law_1408 ?_
        refine go_st (st2 := [.int (nI (3 * j)), .ref (a 11), .int (nI ((3 * j) + 1)), .ref (a 11)]) (by rw [i3m]) ?_
        refine go_iconst C (v := 1) dL_law_1409 (by decide) ?_
        refine go_iadd C dL_law_1410 ?_
        refine go_st (st2 := [.int (nI ((3 * j) + 1)), .ref (a 11), .int (nI ((3 * j) + 1)), .ref (a 11)]) (by rw [show (1 : Int32) = nI 1 from rfl, nI_add]) ?_
        refine lm_d C (vp_in_nI (n := (3 * j) + 1) (by omega) (by decide)) dL_law_1411 ?_
        rw [cl_nI (i := (3 * j) + 1) (by omega)]
        refine go_st (st2 := [.int (qInV M j (nI (y / 20 % 3))), .int (nI ((3 * j) + 1)), .ref (a 11)]) (by simp only [qInV, if_pos c_5]) ?_
        exact G_2
      · refine go_iload C 4 dL_law_1393 rfl ?_
        refine go_bipush C (v := 20) dL_law_1395 (by decide) ?_
        refine go_idiv C dL_law_1397 (by decide) ?_
        refine go_st (st2 := [.int (nI (y / 20)), .int (nI ((3 * j) + 1)), .ref (a 11)]) (by rw [q_div (D := 20) 20 (by omega) (by omega) (by omega) rfl]) ?_
        refine go_iconst C (v := 3) dL_law_1398 (by decide) ?_
        refine go_irem C dL_law_1399 (by decide) ?_
        refine go_st (st2 := [.int (nI ((y / 20) % 3)), .int (nI ((3 * j) + 1)), .ref (a 11)]) (by rw [q_rem (D := 3) 3 (by omega) (by omega) (by omega) rfl]) ?_
        refine go_goto C (tgt := 1412) dL_law_1400 (by decide) ?_
        refine go_st (st2 := [.int (qInV M j (nI (y / 20 % 3))), .int (nI ((3 * j) + 1)), .ref (a 11)]) (by simp only [qInV, if_neg c_5]) ?_
        exact G_2
  · refine go_aload C 13 dL_law_1341 rfl ?_
    refine go_iload C 2 dL_law_1343 rfl ?_
    refine lm_p C (vp_in_nI (n := j) (by omega) (by decide)) dL_law_1345 ?_
    rw [cl_nI (i := j) (by omega)]
    refine go_if_ne C (tgt := 1354) dL_law_1346 (by decide) (fun c_6 => ?_) (fun c_6 => ?_)
    · refine go_aload C 14 dL_law_1354 rfl ?_
      refine go_iload C 2 dL_law_1356 rfl ?_
      refine lm_c C (vp_in_nI (n := j) (by omega) (by decide)) dL_law_1358 ?_
      rw [cl_nI (i := j) (by omega)]
      refine go_bipush C (v := 10) dL_law_1359 (by decide) ?_
      refine go_icmp_ge C (tgt := 1369) dL_law_1361 (by decide) (fun c_7 => ?_) (fun c_7 => ?_)
      · refine go_aload C 10 dL_law_1369 rfl ?_
        refine go_iconst C (v := 3) dL_law_1371 (by decide) ?_
        refine go_iload C 2 dL_law_1372 rfl ?_
        refine go_imul C dL_law_1374 ?_
        refine go_st (st2 := [.int (nI (3 * j)), .ref (a 11)]) (by rw [i3m]) ?_
        refine go_iconst C (v := 1) dL_law_1375 (by decide) ?_
        refine go_iadd C dL_law_1376 ?_
        refine go_st (st2 := [.int (nI ((3 * j) + 1)), .ref (a 11)]) (by rw [show (1 : Int32) = nI 1 from rfl, nI_add]) ?_
        refine lm_d C (vp_in_nI (n := (3 * j) + 1) (by omega) (by decide)) dL_law_1377 ?_
        rw [cl_nI (i := (3 * j) + 1) (by omega)]
        refine go_st (st2 := [.int (qInD M j)]) (by simp only [qInD, if_neg c_6, if_pos c_7]) ?_
        exact G_1
      · refine go_bipush C (v := (-13)) dL_law_1364 (by decide) ?_
        refine go_goto C (tgt := 1378) dL_law_1366 (by decide) ?_
        refine go_st (st2 := [.int (qInD M j)]) (by simp only [qInD, if_neg c_6, if_neg c_7]) ?_
        exact G_1
    · refine go_bipush C (v := (-11)) dL_law_1349 (by decide) ?_
      refine go_goto C (tgt := 1378) dL_law_1351 (by decide) ?_
      refine go_st (st2 := [.int (qInD M j)]) (by simp only [qInD, if_pos c_6]) ?_
      exact G_1
set_option maxHeartbeats 4000000 in
theorem law_letGo {p : Program} {l : Launch} {e : Env} {s : State} {m : MethodId} {args : Array Value} {below : List Frame} {meth : Method} {c : Code} {D : va_G} {N0 : Nat} {ret : Option FieldType} {nm : String} {Q : State → Prop} {k n : Nat} {cI cJ cO : ClassId} {a : Nat → Nat} {b i : Nat} {S : CS} {M : LWS} {y kd j cu ct : Nat} (C : Cxt p s m args meth c D (tysW cI cJ cO) N0 cL_law 23 RL ret nm) (hlf : l.stackTraces = false) (hk : k + 60 ≤ 644676 ∧ n + 600 ≤ 7167596) (w : Rl S M) (hy : y < 2 ^ 27) (hj : j < 20) (hcu : cu < 4) (hct : 1 ≤ ct ∧ ct ≤ 10000000) (g : ∀ (S2 : CS) (M2 : LWS), Rl S2 M2 → Go p l e room_1 s m args below meth c D N0 23 Q (wW cI cJ cO a S2 M2 []) (k + 60) (n + 600) 1990 [(13, .int (nI i)), (12, .int 1), (11, .ref (a 14)), (10, .ref (a 13)), (9, .ref (a 12)), (8, .ref (a 11)), (7, .ref (a 10)), (6, .ref (a 9)), (5, .ref (a 8)), (4, .ref (a 7)), (3, .ref (a 6)), (2, .ref (a 5)), (1, .ref (a 0)), (0, .ref b)] []) : Go p l e room_1 s m args below meth c D N0 23 Q (wW cI cJ cO a S M ([])) (k) (n) 1449 [(19, .int (nI ct)), (18, .int (nI cu)), (17, .int (nI j)), (16, .int (nI y)), (15, .int (nI kd)), (13, .int (nI i)), (12, .int 1), (11, .ref (a 14)), (10, .ref (a 13)), (9, .ref (a 12)), (8, .ref (a 11)), (7, .ref (a 10)), (6, .ref (a 9)), (5, .ref (a 8)), (4, .ref (a 7)), (3, .ref (a 6)), (2, .ref (a 5)), (1, .ref (a 0)), (0, .ref b)] [] := by
  obtain ⟨hk1, hk2⟩ := hk
  obtain ⟨hn0, hn20⟩ := w.n20
  have wk := w.ok.1
  have w0 := w
  obtain ⟨M9, h9, r9⟩ := w0
  have hop := op_letGo h9 r9 hj
  refine go_join (wW cI cJ cO a S M ([])) 1502 [(19, .int (nI ct)), (18, .int (nI cu)), (17, .int (nI j)), (16, .int (nI y)), (15, .int (nI kd)), (13, .int (nI i)), (12, .int 1), (11, .ref (a 14)), (10, .ref (a 13)), (9, .ref (a 12)), (8, .ref (a 11)), (7, .ref (a 10)), (6, .ref (a 9)), (5, .ref (a 8)), (4, .ref (a 7)), (3, .ref (a 6)), (2, .ref (a 5)), (1, .ref (a 0)), (0, .ref b)] [.int (qLgC M j)] ?_ (fun G_1 => ?_)
  · refine go_istore C (lo' := [(20, .int (qLgC M j)), (19, .int (nI ct)), (18, .int (nI cu)), (17, .int (nI j)), (16, .int (nI y)), (15, .int (nI kd)), (13, .int (nI i)), (12, .int 1), (11, .ref (a 14)), (10, .ref (a 13)), (9, .ref (a 12)), (8, .ref (a 11)), (7, .ref (a 10)), (6, .ref (a 9)), (5, .ref (a 8)), (4, .ref (a 7)), (3, .ref (a 6)), (2, .ref (a 5)), (1, .ref (a 0)), (0, .ref b)]) dL_law_1502 (by decide) rfl ?_
    refine go_join (wW cI cJ cO a S M ([])) 1532 [(20, .int (qLgC M j)), (19, .int (nI ct)), (18, .int (nI cu)), (17, .int (nI j)), (16, .int (nI y)), (15, .int (nI kd)), (13, .int (nI i)), (12, .int 1), (11, .ref (a 14)), (10, .ref (a 13)), (9, .ref (a 12)), (8, .ref (a 11)), (7, .ref (a 10)), (6, .ref (a 9)), (5, .ref (a 8)), (4, .ref (a 7)), (3, .ref (a 6)), (2, .ref (a 5)), (1, .ref (a 0)), (0, .ref b)] [.int (qLgD M j)] ?_ (fun G_2 => ?_)
    · refine go_istore C (lo' := [(21, .int (qLgD M j)), (20, .int (qLgC M j)), (19, .int (nI ct)), (18, .int (nI cu)), (17, .int (nI j)), (16, .int (nI y)), (15, .int (nI kd)), (13, .int (nI i)), (12, .int 1), (11, .ref (a 14)), (10, .ref (a 13)), (9, .ref (a 12)), (8, .ref (a 11)), (7, .ref (a 10)), (6, .ref (a 9)), (5, .ref (a 8)), (4, .ref (a 7)), (3, .ref (a 6)), (2, .ref (a 5)), (1, .ref (a 0)), (0, .ref b)]) dL_law_1532 (by decide) rfl ?_
      refine go_join (wW cI cJ cO a S (qLgL M j) ([])) 1592 [(21, .int (qLgD M j)), (20, .int (qLgC M j)), (19, .int (nI ct)), (18, .int (nI cu)), (17, .int (nI j)), (16, .int (nI y)), (15, .int (nI kd)), (13, .int (nI i)), (12, .int 1), (11, .ref (a 14)), (10, .ref (a 13)), (9, .ref (a 12)), (8, .ref (a 11)), (7, .ref (a 10)), (6, .ref (a 9)), (5, .ref (a 8)), (4, .ref (a 7)), (3, .ref (a 6)), (2, .ref (a 5)), (1, .ref (a 0)), (0, .ref b)] [] ?_ (fun G_3 => ?_)
      · refine go_aload_n C 19 dL_law_1592 rfl rfl ?_
        refine go_bipush C (v := 6) dL_law_1593 (by decide) ?_
        refine go_iload C 4 dL_law_1595 rfl ?_
        refine go_iconst C (v := 0) dL_law_1597 (by decide) ?_
        refine k_RL_81_6 C hlf S (qLgL M j) ([]) (nI j) 0 wk ⟨(Nat.le_of_ble_eq_true rfl), (Nat.le_of_ble_eq_true rfl)⟩ ⟨(show _ ≤ 644676 by omega), (show _ ≤ 7167596 by omega)⟩ (Nat.le_of_ble_eq_true rfl) dL_law_1598 (fun c9 => ?_) (fun c9 => ?_)
        · rcases hop with ⟨o1, o2, o3⟩ | ⟨o1, o2, o3⟩
          · refine go_st (st2 := [.int (qLgD M j)]) (by rw [o2]) ?_
            refine go_iload C 0 dL_law_1601 rfl ?_
            refine go_icmp_ne C (tgt := 1610) dL_law_1603 (by decide) (fun c_4 => absurd c_4 (fun q9 => q9 rfl)) (fun c_4 => ?_)
            refine go_iconst C (v := 1) dL_law_1606 (by decide) ?_
            refine go_goto C (tgt := 1611) dL_law_1607 (by decide) ?_
            refine go_istore C (lo' := [(12, .int 1), (21, .int (qLgD M j)), (20, .int (qLgC M j)), (19, .int (nI ct)), (18, .int (nI cu)), (17, .int (nI j)), (16, .int (nI y)), (15, .int (nI kd)), (13, .int (nI i)), (11, .ref (a 14)), (10, .ref (a 13)), (9, .ref (a 12)), (8, .ref (a 11)), (7, .ref (a 10)), (6, .ref (a 9)), (5, .ref (a 8)), (4, .ref (a 7)), (3, .ref (a 6)), (2, .ref (a 5)), (1, .ref (a 0)), (0, .ref b)]) dL_law_1611 (by decide) rfl ?_
            refine go_goto C (tgt := 1990) dL_law_1613 (by decide) ?_
            refine go_lo (lo' := [(13, .int (nI i)), (12, .int 1), (11, .ref (a 14)), (10, .ref (a 13)), (9, .ref (a 12)), (8, .ref (a 11)), (7, .ref (a 10)), (6, .ref (a 9)), (5, .ref (a 8)), (4, .ref (a 7)), (3, .ref (a 6)), (2, .ref (a 5)), (1, .ref (a 0)), (0, .ref b)]) [8, 0, 9, 10, 11, 12, 13, 14, 15, 16, 17, 18, 19, 20] rfl ?_
            refine go_widen (k2 := k + 60) (n2 := n + 600) (by omega) (by omega) ?_
            exact g _ _ o3
          · exact absurd c9 o1
        · rcases hop with ⟨o1, o2, o3⟩ | ⟨o1, o2, o3⟩
          · exact absurd o1 c9
          · refine go_st (st2 := [.int (qLgD M j)]) (by rw [o2]) ?_
            refine go_iload C 0 dL_law_1601 rfl ?_
            refine go_icmp_ne C (tgt := 1610) dL_law_1603 (by decide) (fun c_5 => absurd c_5 (fun q9 => q9 rfl)) (fun c_5 => ?_)
            refine go_iconst C (v := 1) dL_law_1606 (by decide) ?_
            refine go_goto C (tgt := 1611) dL_law_1607 (by decide) ?_
            refine go_istore C (lo' := [(12, .int 1), (21, .int (qLgD M j)), (20, .int (qLgC M j)), (19, .int (nI ct)), (18, .int (nI cu)), (17, .int (nI j)), (16, .int (nI y)), (15, .int (nI kd)), (13, .int (nI i)), (11, .ref (a 14)), (10, .ref (a 13)), (9, .ref (a 12)), (8, .ref (a 11)), (7, .ref (a 10)), (6, .ref (a 9)), (5, .ref (a 8)), (4, .ref (a 7)), (3, .ref (a 6)), (2, .ref (a 5)), (1, .ref (a 0)), (0, .ref b)]) dL_law_1611 (by decide) rfl ?_
            refine go_goto C (tgt := 1990) dL_law_1613 (by decide) ?_
            refine go_lo (lo' := [(13, .int (nI i)), (12, .int 1), (11, .ref (a 14)), (10, .ref (a 13)), (9, .ref (a 12)), (8, .ref (a 11)), (7, .ref (a 10)), (6, .ref (a 9)), (5, .ref (a 8)), (4, .ref (a 7)), (3, .ref (a 6)), (2, .ref (a 5)), (1, .ref (a 0)), (0, .ref b)]) [8, 0, 9, 10, 11, 12, 13, 14, 15, 16, 17, 18, 19, 20] rfl ?_
            refine go_widen (k2 := k + 60) (n2 := n + 600) (by omega) (by omega) ?_
            exact g _ _ o3
      · refine go_iload C 1 dL_law_1534 rfl ?_
        refine go_if_eq C (tgt := 1592) dL_law_1536 (by decide) (fun c_6 => ?_) (fun c_6 => ?_)
        · refine go_w (w2 := wW cI cJ cO a S (qLgL M j) ([])) (by rw [qLgL, if_pos c_6] <;> rfl) ?_
          exact G_3
        · have hw0 : vp_in (lOw M j) 4 := qLg_in w hj c_6
          refine go_aload C 9 dL_law_1539 rfl ?_
          refine go_aload C 16 dL_law_1541 rfl ?_
          refine go_iload C 4 dL_law_1543 rfl ?_
          refine lm_c C (vp_in_nI (n := j) (by omega) (by decide)) dL_law_1545 ?_
          rw [cl_nI (i := j) (by omega)]
          refine go_bipush C (v := 10) dL_law_1546 (by decide) ?_
          refine go_irem C dL_law_1548 (by decide) ?_
          refine go_st (st2 := [.int (lOw M j), .ref (a 14)]) rfl ?_
          refine go_dup2 C dL_law_1549 rfl rfl ?_
          refine lm_g C (vin_8 hw0) dL_law_1550 ?_
          refine go_aload C 15 dL_law_1551 rfl ?_
          refine go_iload C 4 dL_law_1553 rfl ?_
          refine lm_p C (vp_in_nI (n := j) (by omega) (by decide)) dL_law_1555 ?_
          rw [cl_nI (i := j) (by omega)]
          refine go_i2l C dL_law_1556 ?_
          refine go_ladd C dL_law_1557 ?_
          refine sm_g C (vin_8 hw0) dL_law_1558 ?_
          refine go_w (w2 := wW cI cJ cO a S (qLg1 M j) ([])) rfl ?_
          refine go_aload C 9 dL_law_1559 rfl ?_
          refine go_iconst C (v := 4) dL_law_1561 (by decide) ?_
          refine go_aload C 16 dL_law_1562 rfl ?_
          refine go_iload C 4 dL_law_1564 rfl ?_
          refine lm_c C (vp_in_nI (n := j) (by omega) (by decide)) dL_law_1566 ?_
          rw [cl_nI (i := j) (by omega)]
          refine go_bipush C (v := 10) dL_law_1567 (by decide) ?_
          refine go_irem C dL_law_1569 (by decide) ?_
          refine go_st (st2 := [.int (lOw (qLg1 M j) j), .int 4, .ref (a 14)]) rfl ?_
          refine go_iadd C dL_law_1570 ?_
          refine go_dup2 C dL_law_1571 rfl rfl ?_
          refine lm_g C (vin_48 (show vp_in (lOw (qLg1 M j) j) 4 from hw0)) dL_law_1572 ?_
          refine go_aload C 10 dL_law_1573 rfl ?_
          refine go_iload C 4 dL_law_1575 rfl ?_
          refine lm_e C (vp_in_nI (n := j) (by omega) (by decide)) dL_law_1577 ?_
          rw [cl_nI (i := j) (by omega)]
          refine go_ladd C dL_law_1578 ?_
          refine sm_g C (vin_48 (show vp_in (lOw (qLg1 M j) j) 4 from hw0)) dL_law_1579 ?_
          refine go_w (w2 := wW cI cJ cO a S (qLg2 (qLg1 M j) j) ([])) rfl ?_
          refine go_aload C 15 dL_law_1580 rfl ?_
          refine go_iload C 4 dL_law_1582 rfl ?_
          refine go_iconst C (v := 0) dL_law_1584 (by decide) ?_
          refine sm_p C (vp_in_nI (n := j) (by omega) (by decide)) dL_law_1585 ?_
          rw [cl_nI (i := j) (by omega)]
          refine go_w (w2 := wW cI cJ cO a S (lEn3 (qLg2 (qLg1 M j) j) j) ([])) rfl ?_
          refine go_aload C 10 dL_law_1586 rfl ?_
          refine go_iload C 4 dL_law_1588 rfl ?_
          refine go_lconst C (v := 0) dL_law_1590 (by decide) ?_
          refine sm_e C (vp_in_nI (n := j) (by omega) (by decide)) dL_law_1591 ?_
          rw [cl_nI (i := j) (by omega)]
          refine go_w (w2 := wW cI cJ cO a S (qLgL M j) ([])) (by rw [qLgL, if_neg c_6] <;> rfl) ?_
          exact G_3
    · refine go_aload C 14 dL_law_1504 rfl ?_
      refine go_iload C 3 dL_law_1506 rfl ?_
      refine lm_p C (vp_in_nI (n := j) (by omega) (by decide)) dL_law_1508 ?_
      rw [cl_nI (i := j) (by omega)]
      refine go_if_ne C (tgt := 1517) dL_law_1509 (by decide) (fun c_7 => ?_) (fun c_7 => ?_)
      · refine go_iload C 0 dL_law_1517 rfl ?_
        refine go_if_eq C (tgt := 1530) dL_law_1519 (by decide) (fun c_8 => ?_) (fun c_8 => ?_)
        · refine go_bipush C (v := (-13)) dL_law_1530 (by decide) ?_
          refine go_st (st2 := [.int (qLgD M j)]) (by simp only [qLgD, if_neg c_7, if_pos c_8]) ?_
          exact G_2
        · refine go_aload C 14 dL_law_1522 rfl ?_
          refine go_iload C 3 dL_law_1524 rfl ?_
          refine lm_p C (vp_in_nI (n := j) (by omega) (by decide)) dL_law_1526 ?_
          rw [cl_nI (i := j) (by omega)]
          refine go_goto C (tgt := 1532) dL_law_1527 (by decide) ?_
          refine go_st (st2 := [.int (qLgD M j)]) (by simp only [qLgD, if_neg c_7, if_neg c_8]) ?_
          exact G_2
      · refine go_bipush C (v := (-11)) dL_law_1512 (by decide) ?_
        refine go_goto C (tgt := 1532) dL_law_1514 (by decide) ?_
        refine go_st (st2 := [.int (qLgD M j)]) (by simp only [qLgD, if_pos c_7]) ?_
        exact G_2
  · refine go_aload C 13 dL_law_1449 rfl ?_
    refine go_iload C 2 dL_law_1451 rfl ?_
    refine lm_p C (vp_in_nI (n := j) (by omega) (by decide)) dL_law_1453 ?_
    rw [cl_nI (i := j) (by omega)]
    refine go_if_le C (tgt := 1501) dL_law_1454 (by decide) (fun c_9 => ?_) (fun c_9 => ?_)
    · refine go_iconst C (v := 0) dL_law_1501 (by decide) ?_
      refine go_st (st2 := [.int (qLgC M j)]) (by simp only [qLgC, if_pos c_9]) ?_
      exact G_1
    · refine go_aload C 14 dL_law_1457 rfl ?_
      refine go_iload C 2 dL_law_1459 rfl ?_
      refine lm_c C (vp_in_nI (n := j) (by omega) (by decide)) dL_law_1461 ?_
      rw [cl_nI (i := j) (by omega)]
      refine go_bipush C (v := 10) dL_law_1462 (by decide) ?_
      refine go_icmp_lt C (tgt := 1501) dL_law_1464 (by decide) (fun c_10 => ?_) (fun c_10 => ?_)
      · refine go_iconst C (v := 0) dL_law_1501 (by decide) ?_
        refine go_st (st2 := [.int (qLgC M j)]) (by simp only [qLgC, if_neg c_9, if_pos c_10]) ?_
        exact G_1
      · refine go_aload C 10 dL_law_1467 rfl ?_
        refine go_iconst C (v := 3) dL_law_1469 (by decide) ?_
        refine go_iload C 2 dL_law_1470 rfl ?_
        refine go_imul C dL_law_1472 ?_
        refine go_st (st2 := [.int (nI (3 * j)), .ref (a 11)]) (by rw [i3m]) ?_
        refine go_iconst C (v := 2) dL_law_1473 (by decide) ?_
        refine go_iadd C dL_law_1474 ?_
        refine go_st (st2 := [.int (nI ((3 * j) + 2)), .ref (a 11)]) (by rw [show (2 : Int32) = nI 2 from rfl, nI_add]) ?_
        refine lm_d C (vp_in_nI (n := (3 * j) + 2) (by omega) (by decide)) dL_law_1475 ?_
        rw [cl_nI (i := (3 * j) + 2) (by omega)]
        refine go_if_lt C (tgt := 1501) dL_law_1476 (by decide) (fun c_11 => ?_) (fun c_11 => ?_)
        · refine go_iconst C (v := 0) dL_law_1501 (by decide) ?_
          refine go_st (st2 := [.int (qLgC M j)]) (by simp only [qLgC, if_neg c_9, if_neg c_10, if_pos c_11]) ?_
          exact G_1
        · refine go_aload_n C 16 dL_law_1479 rfl rfl ?_
          refine go_iconst C (v := 1) dL_law_1480 (by decide) ?_
          refine lm_n C vin_1_4 dL_law_1481 ?_
          rw [ck_1]
          refine go_aload C 10 dL_law_1482 rfl ?_
          refine go_iconst C (v := 3) dL_law_1484 (by decide) ?_
          refine go_iload C 2 dL_law_1485 rfl ?_
          refine go_imul C dL_law_1487 ?_
          refine go_st (st2 := [.int (nI (3 * j)), .ref (a 11), .int (ls_n M 1)]) (by rw [i3m]) ?_
          refine go_iconst C (v := 2) dL_law_1488 (by decide) ?_
          refine go_iadd C dL_law_1489 ?_
          refine go_st (st2 := [.int (nI ((3 * j) + 2)), .ref (a 11), .int (ls_n M 1)]) (by rw [show (2 : Int32) = nI 2 from rfl, nI_add]) ?_
          refine lm_d C (vp_in_nI (n := (3 * j) + 2) (by omega) (by decide)) dL_law_1490 ?_
          rw [cl_nI (i := (3 * j) + 2) (by omega)]
          refine go_isub C dL_law_1491 ?_
          refine go_bipush C (v := 6) dL_law_1492 (by decide) ?_
          refine go_icmp_gt C (tgt := 1501) dL_law_1494 (by decide) (fun c_12 => ?_) (fun c_12 => ?_)
          · refine go_iconst C (v := 0) dL_law_1501 (by decide) ?_
            refine go_st (st2 := [.int (qLgC M j)]) (by simp only [qLgC, if_neg c_9, if_neg c_10, if_neg c_11, if_pos c_12]) ?_
            exact G_1
          · refine go_iconst C (v := 1) dL_law_1497 (by decide) ?_
            refine go_goto C (tgt := 1502) dL_law_1498 (by decide) ?_
            refine go_st (st2 := [.int (qLgC M j)]) (by simp only [qLgC, if_neg c_9, if_neg c_10, if_neg c_11, if_neg c_12]) ?_
            exact G_1
