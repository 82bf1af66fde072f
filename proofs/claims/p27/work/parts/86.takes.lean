set_option maxHeartbeats 4000000 in
theorem tk_shift {p : Program} {l : Launch} {e : Env} {R : Room} {s : State} {m : MethodId} {args : Array Value} {below : List Frame} {meth : Method} {c : Code} {D : va_G} {N0 : Nat} {ret : Option FieldType} {nm : String} {Q : State → Prop} {k n : Nat} {cI cJ cO : ClassId} {a : Nat → Nat} {S : CS} {M : LWS} (C : Cxt p s m args meth c D (tysW cI cJ cO) N0 cL_takes 21 RL ret nm) {q1 q2 q3 : Nat} {P : Nat → Int64} {F : Nat → Int32} {j m9 : Nat} {cu ct : Int32} (hj : j < 20) : ∀ (pl : Nat) (r : Nat → Nat), pl < 20 → (∀ i, r i < 20) → (Go p l e R s m args below meth c D N0 21 Q (wW cI cJ cO a S M [(q1, .inl (cJ, 20, .inr (.inl P))), (q2, .inl (cI, 20, .inl F)), (q3, .inl (cI, 20, .inl (fun i => nI ((shf P F j pl r).2 i))))]) (k) (n) 139 [(15, .int (nI (shf P F j pl r).1)), (13, .int (nI m9)), (14, .int (nI j)), (12, .ref q3), (11, .ref q2), (10, .ref q1), (0, .ref (a 5)), (1, .ref (a 6)), (2, .ref (a 7)), (3, .ref (a 8)), (4, .ref (a 9)), (5, .ref (a 12)), (6, .ref (a 13)), (7, .ref (a 14)), (8, .int cu), (9, .int ct)] []) → Go p l e R s m args below meth c D N0 21 Q (wW cI cJ cO a S M [(q1, .inl (cJ, 20, .inr (.inl P))), (q2, .inl (cI, 20, .inl F)), (q3, .inl (cI, 20, .inl (fun i => nI (r i))))]) (k) (n) 78 [(15, .int (nI pl)), (13, .int (nI m9)), (14, .int (nI j)), (12, .ref q3), (11, .ref q2), (10, .ref q1), (0, .ref (a 5)), (1, .ref (a 6)), (2, .ref (a 7)), (3, .ref (a 8)), (4, .ref (a 9)), (5, .ref (a 12)), (6, .ref (a 13)), (7, .ref (a 14)), (8, .int cu), (9, .int ct)] [] := by
  intro pl
  induction pl with
  | zero =>
    intro r hpl hr g
    refine go_iload C 0 dL_takes_78 rfl ?_
    refine go_if_le C (tgt := 139) dL_takes_80 (by decide) (fun c_1 => ?_) (fun c_1 => absurd (by decide) c_1)
    exact g
  | succ pl ih =>
    intro r hpl hr g
    refine go_iload C 0 dL_takes_78 rfl ?_
    refine go_if_le C (tgt := 139) dL_takes_80 (by decide) (fun c_2 => absurd c_2 (nI_nle (by omega) (by omega))) (fun c_2 => ?_)
    refine go_aload C 5 dL_takes_83 rfl ?_
    refine go_iload C 2 dL_takes_85 rfl ?_
    refine lz_l C (k9 := 0) rfl (vp_in_nI (n := j) (by omega) (by decide)) dL_takes_87 ?_
    rw [cl_nI (i := j) (by omega)]
    refine go_aload C 4 dL_takes_88 rfl ?_
    refine go_aload C 3 dL_takes_90 rfl ?_
    refine go_iload C 0 dL_takes_92 rfl ?_
    refine go_iconst C (v := 1) dL_takes_94 (by decide) ?_
    refine go_isub C dL_takes_95 ?_
    refine go_st (st2 := [.int (nI pl), .ref q3, .ref q2, .long (P j)]) (by rw [nI_pred]) ?_
    refine lz_i C (k9 := 2) rfl (vp_in_nI (n := pl) (by omega) (by decide)) dL_takes_96 ?_
    rw [cl_nI (i := pl) (by omega)]
    refine go_st (st2 := [.int (nI (r pl)), .ref q2, .long (P j)]) rfl ?_
    refine lz_i C (k9 := 1) rfl (vp_in_nI (n := r pl) (hr pl) (by decide)) dL_takes_97 ?_
    rw [cl_nI (i := r pl) (by have := hr pl; omega)]
    refine go_i2l C dL_takes_98 ?_
    refine go_lmul C dL_takes_99 ?_
    refine go_aload C 5 dL_takes_100 rfl ?_
    refine go_aload C 3 dL_takes_102 rfl ?_
    refine go_iload C 0 dL_takes_104 rfl ?_
    refine go_iconst C (v := 1) dL_takes_106 (by decide) ?_
    refine go_isub C dL_takes_107 ?_
    refine go_st (st2 := [.int (nI pl), .ref q3, .ref q1, .long ((P j) * (Int32.toInt64 (F (r pl))))]) (by rw [nI_pred]) ?_
    refine lz_i C (k9 := 2) rfl (vp_in_nI (n := pl) (by omega) (by decide)) dL_takes_108 ?_
    rw [cl_nI (i := pl) (by omega)]
    refine go_st (st2 := [.int (nI (r pl)), .ref q1, .long ((P j) * (Int32.toInt64 (F (r pl))))]) rfl ?_
    refine lz_l C (k9 := 0) rfl (vp_in_nI (n := r pl) (hr pl) (by decide)) dL_takes_109 ?_
    rw [cl_nI (i := r pl) (by have := hr pl; omega)]
    refine go_aload C 4 dL_takes_110 rfl ?_
    refine go_iload C 2 dL_takes_112 rfl ?_
    refine lz_i C (k9 := 1) rfl (vp_in_nI (n := j) (by omega) (by decide)) dL_takes_114 ?_
    rw [cl_nI (i := j) (by omega)]
    refine go_i2l C dL_takes_115 ?_
    refine go_lmul C dL_takes_116 ?_
    refine go_lcmp C dL_takes_117 ?_
    refine go_if_ge C (tgt := 139) dL_takes_118 (by decide) (fun c_3 => ?_) (fun c_3 => ?_)
    · rw [shf_0 c_3] at g
      exact g
    · refine go_aload C 3 dL_takes_121 rfl ?_
      refine go_iload C 0 dL_takes_123 rfl ?_
      refine go_aload C 3 dL_takes_125 rfl ?_
      refine go_iload C 0 dL_takes_127 rfl ?_
      refine go_iconst C (v := 1) dL_takes_129 (by decide) ?_
      refine go_isub C dL_takes_130 ?_
      refine go_st (st2 := [.int (nI pl), .ref q3, .int (nI (pl + 1)), .ref q3]) (by rw [nI_pred]) ?_
      refine lz_i C (k9 := 2) rfl (vp_in_nI (n := pl) (by omega) (by decide)) dL_takes_131 ?_
      rw [cl_nI (i := pl) (by omega)]
      refine go_st (st2 := [.int (nI (r pl)), .int (nI (pl + 1)), .ref q3]) rfl ?_
      refine sz_i C (k9 := 2) rfl (vp_in_nI (n := pl + 1) (by omega) (by decide)) dL_takes_132 ?_
      rw [cl_nI (i := pl + 1) (by omega)]
      refine go_w (w2 := wW cI cJ cO a S M [(q1, .inl (cJ, 20, .inr (.inl P))), (q2, .inl (cI, 20, .inl F)), (q3, .inl (cI, 20, .inl (upd (fun i => nI (r i)) (pl + 1) (nI (r pl)))))]) rfl ?_
      refine go_w (w2 := wW cI cJ cO a S M ([(q1, .inl (cJ, 20, .inr (.inl P))), (q2, .inl (cI, 20, .inl F)), (q3, .inl (cI, 20, .inl (fun i => nI ((va_up r (pl + 1) (r pl)) i))))])) (by rw [upd_nI]) ?_
      refine go_iinc C (v := (nI (pl + 1)) + -1) (lo' := [(15, .int ((nI (pl + 1)) + -1)), (13, .int (nI m9)), (14, .int (nI j)), (12, .ref q3), (11, .ref q2), (10, .ref q1), (0, .ref (a 5)), (1, .ref (a 6)), (2, .ref (a 7)), (3, .ref (a 8)), (4, .ref (a 9)), (5, .ref (a 12)), (6, .ref (a 13)), (7, .ref (a 14)), (8, .int cu), (9, .int ct)]) 0 dL_takes_133 rfl (congrArg (fun q9 => (nI (pl + 1)) + q9) (show Int32.ofInt (-1) = -1 by decide)) (by decide) rfl ?_
      refine go_lo (lo' := [(15, .int (nI pl)), (13, .int (nI m9)), (14, .int (nI j)), (12, .ref q3), (11, .ref q2), (10, .ref q1), (0, .ref (a 5)), (1, .ref (a 6)), (2, .ref (a 7)), (3, .ref (a 8)), (4, .ref (a 9)), (5, .ref (a 12)), (6, .ref (a 13)), (7, .ref (a 14)), (8, .int cu), (9, .int ct)]) [0, 1, 2, 3, 4, 5, 6, 7, 8, 9, 10, 11, 12, 13, 14, 15] (by rw [nI_m1, nI_pred]; rfl) ?_
      refine go_goto C (tgt := 78) dL_takes_136 (by decide) ?_
      rw [shf_1 c_3] at g
      exact ih (va_up r (pl + 1) (r pl)) (by omega) (up_lt hr (hr pl)) g
set_option maxHeartbeats 4000000 in
theorem tk_sort {p : Program} {l : Launch} {e : Env} {R : Room} {s : State} {m : MethodId} {args : Array Value} {below : List Frame} {meth : Method} {c : Code} {D : va_G} {N0 : Nat} {ret : Option FieldType} {nm : String} {Q : State → Prop} {k n : Nat} {cI cJ cO : ClassId} {a : Nat → Nat} {S : CS} {M : LWS} (C : Cxt p s m args meth c D (tysW cI cJ cO) N0 cL_takes 21 RL ret nm) {q1 q2 q3 : Nat} {cu ct : Int32} (hRf : 3 ≤ R.frames) (hRl : 200 ≤ R.locals) (hRk : k ≤ R.cells) (hRn : n ≤ R.slots) (hok : okL M) : ∀ (u : Nat) (z : SrT), z.1 + u ≤ lK M → (∀ i, z.2.2.2 i < 20) → (Go p l e R s m args below meth c D N0 21 Q (wW cI cJ cO a S M [(q1, .inl (cJ, 20, .inr (.inl (srt M cu u z).2.1))), (q2, .inl (cI, 20, .inl (srt M cu u z).2.2.1)), (q3, .inl (cI, 20, .inl (fun i => nI ((srt M cu u z).2.2.2 i))))]) (k) (n) 155 [(14, .int (-1)), (13, .int (nI (srt M cu u z).1)), (12, .ref q3), (11, .ref q2), (10, .ref q1), (0, .ref (a 5)), (1, .ref (a 6)), (2, .ref (a 7)), (3, .ref (a 8)), (4, .ref (a 9)), (5, .ref (a 12)), (6, .ref (a 13)), (7, .ref (a 14)), (8, .int cu), (9, .int ct)] []) → Go p l e R s m args below meth c D N0 21 Q (wW cI cJ cO a S M [(q1, .inl (cJ, 20, .inr (.inl z.2.1))), (q2, .inl (cI, 20, .inl z.2.2.1)), (q3, .inl (cI, 20, .inl (fun i => nI (z.2.2.2 i))))]) (k) (n) 28 [(14, .int (nI u - 1)), (13, .int (nI z.1)), (12, .ref q3), (11, .ref q2), (10, .ref q1), (0, .ref (a 5)), (1, .ref (a 6)), (2, .ref (a 7)), (3, .ref (a 8)), (4, .ref (a 9)), (5, .ref (a 12)), (6, .ref (a 13)), (7, .ref (a 14)), (8, .int cu), (9, .int ct)] [] := by
  obtain ⟨hn0, hn20⟩ := hok
  intro u
  induction u with
  | zero =>
    intro z hm hr g
    refine go_iload C 0 dL_takes_28 rfl ?_
    refine go_if_lt C (tgt := 155) dL_takes_30 (by decide) (fun c_1 => ?_) (fun c_1 => absurd (by decide) c_1)
    exact g
  | succ u ih =>
    intro z hm hr g
    refine go_lo (lo' := [(14, .int (nI u)), (13, .int (nI z.1)), (12, .ref q3), (11, .ref q2), (10, .ref q1), (0, .ref (a 5)), (1, .ref (a 6)), (2, .ref (a 7)), (3, .ref (a 8)), (4, .ref (a 9)), (5, .ref (a 12)), (6, .ref (a 13)), (7, .ref (a 14)), (8, .int cu), (9, .int ct)]) [0, 1, 2, 3, 4, 5, 6, 7, 8, 9, 10, 11, 12, 13, 14] (by rw [nI_pred]; rfl) ?_
    refine go_iload C 0 dL_takes_28 rfl ?_
    refine go_if_lt C (tgt := 155) dL_takes_30 (by decide) (fun c_1 => absurd c_1 (nI_pos (by omega))) (fun c_1 => ?_)
    refine go_aload_n C 7 dL_takes_33 rfl rfl ?_
    refine go_iload C 0 dL_takes_34 rfl ?_
    refine lm_c C (vp_in_nI (n := u) (by omega) (by decide)) dL_takes_36 ?_
    rw [cl_nI (i := u) (by omega)]
    refine go_iload C 13 dL_takes_37 rfl ?_
    refine go_icmp_ne C (tgt := 149) dL_takes_39 (by decide) (fun c_2 => ?_) (fun c_2 => ?_)
    · have e1 := sr1_0 (z := z) c_2
      rw [srt, e1] at g
      refine go_iinc C (v := (nI u) + -1) (lo' := [(14, .int ((nI u) + -1)), (13, .int (nI z.1)), (12, .ref q3), (11, .ref q2), (10, .ref q1), (0, .ref (a 5)), (1, .ref (a 6)), (2, .ref (a 7)), (3, .ref (a 8)), (4, .ref (a 9)), (5, .ref (a 12)), (6, .ref (a 13)), (7, .ref (a 14)), (8, .int cu), (9, .int ct)]) 0 dL_takes_149 rfl (congrArg (fun q9 => (nI u) + q9) (show Int32.ofInt (-1) = -1 by decide)) (by decide) rfl ?_
      refine go_goto C (tgt := 28) dL_takes_152 (by decide) ?_
      refine go_lo (lo' := [(14, .int (nI u - 1)), (13, .int (nI z.1)), (12, .ref q3), (11, .ref q2), (10, .ref q1), (0, .ref (a 5)), (1, .ref (a 6)), (2, .ref (a 7)), (3, .ref (a 8)), (4, .ref (a 9)), (5, .ref (a 12)), (6, .ref (a 13)), (7, .ref (a 14)), (8, .int cu), (9, .int ct)]) [0, 1, 2, 3, 4, 5, 6, 7, 8, 9, 10, 11, 12, 13, 14] (by rw [nI_m1]; rfl) ?_
      exact ih z (by omega) hr g
    · refine go_aload_n C 8 dL_takes_42 rfl rfl ?_
      refine go_iload C 0 dL_takes_43 rfl ?_
      refine lm_p C (vp_in_nI (n := u) (by omega) (by decide)) dL_takes_45 ?_
      rw [cl_nI (i := u) (by omega)]
      refine go_if_le C (tgt := 149) dL_takes_46 (by decide) (fun c_3 => ?_) (fun c_3 => ?_)
      · have e1 := sr1_1 (z := z) c_2 c_3
        rw [srt, e1] at g
        refine go_iinc C (v := (nI u) + -1) (lo' := [(14, .int ((nI u) + -1)), (13, .int (nI z.1)), (12, .ref q3), (11, .ref q2), (10, .ref q1), (0, .ref (a 5)), (1, .ref (a 6)), (2, .ref (a 7)), (3, .ref (a 8)), (4, .ref (a 9)), (5, .ref (a 12)), (6, .ref (a 13)), (7, .ref (a 14)), (8, .int cu), (9, .int ct)]) 0 dL_takes_149 rfl (congrArg (fun q9 => (nI u) + q9) (show Int32.ofInt (-1) = -1 by decide)) (by decide) rfl ?_
        refine go_goto C (tgt := 28) dL_takes_152 (by decide) ?_
        refine go_lo (lo' := [(14, .int (nI u - 1)), (13, .int (nI z.1)), (12, .ref q3), (11, .ref q2), (10, .ref q1), (0, .ref (a 5)), (1, .ref (a 6)), (2, .ref (a 7)), (3, .ref (a 8)), (4, .ref (a 9)), (5, .ref (a 12)), (6, .ref (a 13)), (7, .ref (a 14)), (8, .int cu), (9, .int ct)]) [0, 1, 2, 3, 4, 5, 6, 7, 8, 9, 10, 11, 12, 13, 14] (by rw [nI_m1]; rfl) ?_
        exact ih z (by omega) hr g
      · refine go_aload C 4 dL_takes_49 rfl ?_
        refine go_iload C 0 dL_takes_51 rfl ?_
        refine go_aload_n C 5 dL_takes_53 rfl rfl ?_
        refine go_aload_n C 6 dL_takes_54 rfl rfl ?_
        refine go_aload_n C 7 dL_takes_55 rfl rfl ?_
        refine go_aload_n C 8 dL_takes_56 rfl rfl ?_
        refine go_aload C 10 dL_takes_57 rfl ?_
        refine go_iload C 0 dL_takes_59 rfl ?_
        refine k_RL_27 C S M ([(q1, .inl (cJ, 20, .inr (.inl z.2.1))), (q2, .inl (cI, 20, .inl z.2.2.1)), (q3, .inl (cI, 20, .inl (fun i => nI (z.2.2.2 i))))]) u ⟨hn0, hn20⟩ (by omega) ⟨by omega, by omega⟩ ⟨by omega, by omega⟩ (Nat.le_of_ble_eq_true rfl) dL_takes_61 ?_
        refine sz_l C (k9 := 0) rfl (vp_in_nI (n := u) (by omega) (by decide)) dL_takes_64 ?_
        rw [cl_nI (i := u) (by omega)]
        refine go_w (w2 := wW cI cJ cO a S M [(q1, .inl (cJ, 20, .inr (.inl (vp_updL z.2.1 u (lPa M u))))), (q2, .inl (cI, 20, .inl z.2.2.1)), (q3, .inl (cI, 20, .inl (fun i => nI (z.2.2.2 i))))]) rfl ?_
        refine go_w (w2 := wW cI cJ cO a S M ([(q1, .inl (cJ, 20, .inr (.inl (srP M u z)))), (q2, .inl (cI, 20, .inl z.2.2.1)), (q3, .inl (cI, 20, .inl (fun i => nI (z.2.2.2 i))))])) rfl ?_
        refine go_aload C 3 dL_takes_65 rfl ?_
        refine go_iload C 0 dL_takes_67 rfl ?_
        refine go_aload_n C 8 dL_takes_69 rfl rfl ?_
        refine go_iload C 0 dL_takes_70 rfl ?_
        refine lm_p C (vp_in_nI (n := u) (by omega) (by decide)) dL_takes_72 ?_
        rw [cl_nI (i := u) (by omega)]
        refine sz_i C (k9 := 1) rfl (vp_in_nI (n := u) (by omega) (by decide)) dL_takes_73 ?_
        rw [cl_nI (i := u) (by omega)]
        refine go_w (w2 := wW cI cJ cO a S M [(q1, .inl (cJ, 20, .inr (.inl (srP M u z)))), (q2, .inl (cI, 20, .inl (upd z.2.2.1 u (ls_p M u)))), (q3, .inl (cI, 20, .inl (fun i => nI (z.2.2.2 i))))]) rfl ?_
        refine go_w (w2 := wW cI cJ cO a S M ([(q1, .inl (cJ, 20, .inr (.inl (srP M u z)))), (q2, .inl (cI, 20, .inl (srF M u z))), (q3, .inl (cI, 20, .inl (fun i => nI (z.2.2.2 i))))])) rfl ?_
        refine go_iload C 1 dL_takes_74 rfl ?_
        refine go_istore C (lo' := [(15, .int (nI z.1)), (14, .int (nI u)), (13, .int (nI z.1)), (12, .ref q3), (11, .ref q2), (10, .ref q1), (0, .ref (a 5)), (1, .ref (a 6)), (2, .ref (a 7)), (3, .ref (a 8)), (4, .ref (a 9)), (5, .ref (a 12)), (6, .ref (a 13)), (7, .ref (a 14)), (8, .int cu), (9, .int ct)]) dL_takes_76 (by decide) rfl ?_
        refine go_lo (lo' := [(15, .int (nI z.1)), (13, .int (nI z.1)), (14, .int (nI u)), (12, .ref q3), (11, .ref q2), (10, .ref q1), (0, .ref (a 5)), (1, .ref (a 6)), (2, .ref (a 7)), (3, .ref (a 8)), (4, .ref (a 9)), (5, .ref (a 12)), (6, .ref (a 13)), (7, .ref (a 14)), (8, .int cu), (9, .int ct)]) [0, 2, 1, 3, 4, 5, 6, 7, 8, 9, 10, 11, 12, 13, 14, 15] rfl ?_
        refine tk_shift C (by omega) z.1 z.2.2.2 (by omega) hr ?_
        have hs9 : (shf (srP M u z) (srF M u z) u z.1 z.2.2.2).1 < 20 := by have := shf_le (P := (srP M u z)) (F := (srF M u z)) (j := u) z.1 z.2.2.2; omega
        refine go_aload C 3 dL_takes_139 rfl ?_
        refine go_iload C 0 dL_takes_141 rfl ?_
        refine go_iload C 2 dL_takes_143 rfl ?_
        refine sz_i C (k9 := 2) rfl (vp_in_nI (n := (shf (srP M u z) (srF M u z) u z.1 z.2.2.2).1) hs9 (by decide)) dL_takes_145 ?_
        rw [cl_nI (i := (shf (srP M u z) (srF M u z) u z.1 z.2.2.2).1) (by omega)]
        refine go_w (w2 := wW cI cJ cO a S M [(q1, .inl (cJ, 20, .inr (.inl (srP M u z)))), (q2, .inl (cI, 20, .inl (srF M u z))), (q3, .inl (cI, 20, .inl (upd (fun i => nI ((shf (srP M u z) (srF M u z) u z.1 z.2.2.2).2 i)) (shf (srP M u z) (srF M u z) u z.1 z.2.2.2).1 (nI u))))]) rfl ?_
        refine go_w (w2 := wW cI cJ cO a S M ([(q1, .inl (cJ, 20, .inr (.inl (srP M u z)))), (q2, .inl (cI, 20, .inl (srF M u z))), (q3, .inl (cI, 20, .inl (fun i => nI (va_up (shf (srP M u z) (srF M u z) u z.1 z.2.2.2).2 (shf (srP M u z) (srF M u z) u z.1 z.2.2.2).1 u i))))])) (by rw [upd_nI]) ?_
        refine go_iinc C (v := nI (z.1 + 1)) (lo' := [(13, .int (nI (z.1 + 1))), (15, .int (nI (shf (srP M u z) (srF M u z) u z.1 z.2.2.2).1)), (14, .int (nI u)), (12, .ref q3), (11, .ref q2), (10, .ref q1), (0, .ref (a 5)), (1, .ref (a 6)), (2, .ref (a 7)), (3, .ref (a 8)), (4, .ref (a 9)), (5, .ref (a 12)), (6, .ref (a 13)), (7, .ref (a 14)), (8, .int cu), (9, .int ct)]) 1 dL_takes_146 rfl (nI_1 _) (by decide) rfl ?_
        have e1 := sr1_2 (z := z) c_2 c_3
        rw [srt, e1] at g
        refine go_lo (lo' := [(14, .int (nI u)), (13, .int (nI (z.1 + 1))), (12, .ref q3), (11, .ref q2), (10, .ref q1), (0, .ref (a 5)), (1, .ref (a 6)), (2, .ref (a 7)), (3, .ref (a 8)), (4, .ref (a 9)), (5, .ref (a 12)), (6, .ref (a 13)), (7, .ref (a 14)), (8, .int cu), (9, .int ct)]) [2, 0, 3, 4, 5, 6, 7, 8, 9, 10, 11, 12, 13, 14, 15] rfl ?_
        refine go_iinc C (v := (nI u) + -1) (lo' := [(14, .int ((nI u) + -1)), (13, .int (nI (z.1 + 1))), (12, .ref q3), (11, .ref q2), (10, .ref q1), (0, .ref (a 5)), (1, .ref (a 6)), (2, .ref (a 7)), (3, .ref (a 8)), (4, .ref (a 9)), (5, .ref (a 12)), (6, .ref (a 13)), (7, .ref (a 14)), (8, .int cu), (9, .int ct)]) 0 dL_takes_149 rfl (congrArg (fun q9 => (nI u) + q9) (show Int32.ofInt (-1) = -1 by decide)) (by decide) rfl ?_
        refine go_goto C (tgt := 28) dL_takes_152 (by decide) ?_
        refine go_lo (lo' := [(14, .int (nI u - 1)), (13, .int (nI (z.1 + 1))), (12, .ref q3), (11, .ref q2), (10, .ref q1), (0, .ref (a 5)), (1, .ref (a 6)), (2, .ref (a 7)), (3, .ref (a 8)), (4, .ref (a 9)), (5, .ref (a 12)), (6, .ref (a 13)), (7, .ref (a 14)), (8, .int cu), (9, .int ct)]) [0, 1, 2, 3, 4, 5, 6, 7, 8, 9, 10, 11, 12, 13, 14] (by rw [nI_m1]; rfl) ?_
        exact ih (z.1 + 1, (srP M u z), (srF M u z), va_up (shf (srP M u z) (srF M u z) u z.1 z.2.2.2).2 (shf (srP M u z) (srF M u z) u z.1 z.2.2.2).1 u) (by show z.1 + 1 + u ≤ lK M; omega) (up_lt (shf_r z.1 z.2.2.2 hr) (by omega)) g
