set_option maxHeartbeats 4000000 in
theorem law_x {p : Program} {l : Launch} {e : Env} {s : State} {m : MethodId} {args : Array Value} {below : List Frame} {meth : Method} {c : Code} {D : va_G} {N0 : Nat} {ret : Option FieldType} {nm : String} {Q : State → Prop} {k n : Nat} {cI cJ cO : ClassId} {a : Nat → Nat} {b i : Nat} {S : CS} {M : LWS} {Ls : Nat} {xs : Nat → Int32} (C : Cxt p s m args meth c D (tysW cI cJ cO) N0 cL_law 23 RL ret nm) (X0 : Scr s N0 b Ls xs) (hL : Ls ≤ 260) (hi : i < 100) (g : ∀ X : Nat, X < 2 ^ 31 → Go p l e room_1 s m args below meth c D N0 23 Q (wW cI cJ cO a S M ([])) (k) (n) 164 [(14, .int (nI X)), (13, .int (nI i)), (12, .int 1), (11, .ref (a 14)), (10, .ref (a 13)), (9, .ref (a 12)), (8, .ref (a 11)), (7, .ref (a 10)), (6, .ref (a 9)), (5, .ref (a 8)), (4, .ref (a 7)), (3, .ref (a 6)), (2, .ref (a 5)), (1, .ref (a 0)), (0, .ref b)] []) : Go p l e room_1 s m args below meth c D N0 23 Q (wW cI cJ cO a S M ([])) (k) (n) 124 [(13, .int (nI i)), (12, .int 1), (11, .ref (a 14)), (10, .ref (a 13)), (9, .ref (a 12)), (8, .ref (a 11)), (7, .ref (a 10)), (6, .ref (a 9)), (5, .ref (a 8)), (4, .ref (a 7)), (3, .ref (a 6)), (2, .ref (a 5)), (1, .ref (a 0)), (0, .ref b)] [] := by
  have G_1 : ∀ (X : Nat), (X < 2 ^ 31) → Go p l e room_1 s m args below meth c D N0 23 Q (wW cI cJ cO a S M ([])) (k) (n) 162 [(13, .int (nI i)), (12, .int 1), (11, .ref (a 14)), (10, .ref (a 13)), (9, .ref (a 12)), (8, .ref (a 11)), (7, .ref (a 10)), (6, .ref (a 9)), (5, .ref (a 8)), (4, .ref (a 7)), (3, .ref (a 6)), (2, .ref (a 5)), (1, .ref (a 0)), (0, .ref b)] [.int (nI X)] := by
    intro X hG_1
    refine go_istore C (lo' := [(14, .int (nI X)), (13, .int (nI i)), (12, .int 1), (11, .ref (a 14)), (10, .ref (a 13)), (9, .ref (a 12)), (8, .ref (a 11)), (7, .ref (a 10)), (6, .ref (a 9)), (5, .ref (a 8)), (4, .ref (a 7)), (3, .ref (a 6)), (2, .ref (a 5)), (1, .ref (a 0)), (0, .ref b)]) dL_law_162 (by decide) rfl ?_
    exact g X hG_1
  refine go_iload C 0 dL_law_124 rfl ?_
  refine go_aload_n C 13 dL_law_126 rfl rfl ?_
  refine go_slen C X0 dL_law_127 ?_
  refine go_icmp_ge C (tgt := 141) dL_law_128 (by decide) (fun c_2 => ?_) (fun c_2 => ?_)
  · refine go_ldc C bk_RL_115 dL_law_141 ?_
    refine go_iload C 0 dL_law_143 rfl ?_
    refine go_imul C dL_law_145 ?_
    refine go_iload C 0 dL_law_146 rfl ?_
    refine go_imul C dL_law_148 ?_
    refine go_sipush C (v := 5009) dL_law_149 (by decide) ?_
    refine go_iload C 0 dL_law_152 rfl ?_
    refine go_imul C dL_law_154 ?_
    refine go_iadd C dL_law_155 ?_
    refine go_bipush C (v := 29) dL_law_156 (by decide) ?_
    refine go_iadd C dL_law_158 ?_
    refine go_ldc C bk_RL_114 dL_law_159 ?_
    refine go_iand C dL_law_161 ?_
    obtain ⟨X, hX, eX⟩ := pk_andE ((((61001 * (nI i)) * (nI i)) + (5009 * (nI i))) + 29) (m := 2147483647) 31 (by decide)
    refine go_st (st2 := [.int (nI X)]) (by rw [eX]) ?_
    exact G_1 X hX
  · refine go_aload_n C 13 dL_law_131 rfl rfl ?_
    refine go_iload C 0 dL_law_132 rfl ?_
    have hin9 : vp_in (nI i) Ls := by
      refine vp_in_nI ?_ (by omega)
      rw [i_le, nI_toInt (by omega), nI_toInt (by omega)] at c_2
      omega
    refine go_sld C X0 hin9 dL_law_134 ?_
    refine go_ldc C bk_RL_114 dL_law_135 ?_
    refine go_iand C dL_law_137 ?_
    refine go_goto C (tgt := 162) dL_law_138 (by decide) ?_
    obtain ⟨X, hX, eX⟩ := pk_andE (xs (Int32.toNatClampNeg (nI i))) (m := 2147483647) 31 (by decide)
    refine go_st (st2 := [.int (nI X)]) (by rw [eX]) ?_
    exact G_1 X hX
set_option maxHeartbeats 4000000 in
theorem law_kind {p : Program} {l : Launch} {e : Env} {s : State} {m : MethodId} {args : Array Value} {below : List Frame} {meth : Method} {c : Code} {D : va_G} {N0 : Nat} {ret : Option FieldType} {nm : String} {Q : State → Prop} {k n : Nat} {cI cJ cO : ClassId} {a : Nat → Nat} {b i : Nat} {S : CS} {M : LWS} {X : Nat} (C : Cxt p s m args meth c D (tysW cI cJ cO) N0 cL_law 23 RL ret nm) (hX : X < 2 ^ 31) (hi : i < 100) (g : ∀ kd : Nat, kd < 20 → Go p l e room_1 s m args below meth c D N0 23 Q (wW cI cJ cO a S M ([])) (k) (n) 191 [(16, .int (nI (X / 20))), (15, .int (nI kd)), (13, .int (nI i)), (12, .int 1), (11, .ref (a 14)), (10, .ref (a 13)), (9, .ref (a 12)), (8, .ref (a 11)), (7, .ref (a 10)), (6, .ref (a 9)), (5, .ref (a 8)), (4, .ref (a 7)), (3, .ref (a 6)), (2, .ref (a 5)), (1, .ref (a 0)), (0, .ref b)] []) : Go p l e room_1 s m args below meth c D N0 23 Q (wW cI cJ cO a S M ([])) (k) (n) 164 [(14, .int (nI X)), (13, .int (nI i)), (12, .int 1), (11, .ref (a 14)), (10, .ref (a 13)), (9, .ref (a 12)), (8, .ref (a 11)), (7, .ref (a 10)), (6, .ref (a 9)), (5, .ref (a 8)), (4, .ref (a 7)), (3, .ref (a 6)), (2, .ref (a 5)), (1, .ref (a 0)), (0, .ref b)] [] := by
  have G_1 : ∀ (kd : Nat), (kd < 20) → Go p l e room_1 s m args below meth c D N0 23 Q (wW cI cJ cO a S M ([])) (k) (n) 182 [(14, .int (nI X)), (13, .int (nI i)), (12, .int 1), (11, .ref (a 14)), (10, .ref (a 13)), (9, .ref (a 12)), (8, .ref (a 11)), (7, .ref (a 10)), (6, .ref (a 9)), (5, .ref (a 8)), (4, .ref (a 7)), (3, .ref (a 6)), (2, .ref (a 5)), (1, .ref (a 0)), (0, .ref b)] [.int (nI kd)] := by
    intro kd hG_1
    refine go_istore C (lo' := [(15, .int (nI kd)), (14, .int (nI X)), (13, .int (nI i)), (12, .int 1), (11, .ref (a 14)), (10, .ref (a 13)), (9, .ref (a 12)), (8, .ref (a 11)), (7, .ref (a 10)), (6, .ref (a 9)), (5, .ref (a 8)), (4, .ref (a 7)), (3, .ref (a 6)), (2, .ref (a 5)), (1, .ref (a 0)), (0, .ref b)]) dL_law_182 (by decide) rfl ?_
    refine go_iload C 1 dL_law_184 rfl ?_
    refine go_bipush C (v := 20) dL_law_186 (by decide) ?_
    refine go_idiv C dL_law_188 (by decide) ?_
    refine go_st (st2 := [.int (nI (X / 20))]) (by rw [q_div (D := 20) 20 (by omega) (by omega) (by omega) rfl]) ?_
    refine go_istore C (lo' := [(16, .int (nI (X / 20))), (15, .int (nI kd)), (14, .int (nI X)), (13, .int (nI i)), (12, .int 1), (11, .ref (a 14)), (10, .ref (a 13)), (9, .ref (a 12)), (8, .ref (a 11)), (7, .ref (a 10)), (6, .ref (a 9)), (5, .ref (a 8)), (4, .ref (a 7)), (3, .ref (a 6)), (2, .ref (a 5)), (1, .ref (a 0)), (0, .ref b)]) dL_law_189 (by decide) rfl ?_
    refine go_lo (lo' := [(16, .int (nI (X / 20))), (15, .int (nI kd)), (13, .int (nI i)), (12, .int 1), (11, .ref (a 14)), (10, .ref (a 13)), (9, .ref (a 12)), (8, .ref (a 11)), (7, .ref (a 10)), (6, .ref (a 9)), (5, .ref (a 8)), (4, .ref (a 7)), (3, .ref (a 6)), (2, .ref (a 5)), (1, .ref (a 0)), (0, .ref b)]) [0, 1, 3, 4, 5, 6, 7, 8, 9, 10, 11, 12, 13, 14, 15, 16] rfl ?_
    exact g kd hG_1
  refine go_iload C 1 dL_law_164 rfl ?_
  refine go_iconst C (v := 4) dL_law_166 (by decide) ?_
  refine go_icmp_ge C (tgt := 177) dL_law_167 (by decide) (fun c_2 => ?_) (fun c_2 => ?_)
  · refine go_iload C 0 dL_law_177 rfl ?_
    refine go_bipush C (v := 20) dL_law_179 (by decide) ?_
    refine go_irem C dL_law_181 (by decide) ?_
    refine go_st (st2 := [.int (nI (X % 20))]) (by rw [q_rem (D := 20) 20 (by omega) (by omega) (by omega) rfl]) ?_
    exact G_1 (X % 20) (by omega)
  · refine go_iload C 1 dL_law_170 rfl ?_
    refine go_iconst C (v := 2) dL_law_172 (by decide) ?_
    refine go_irem C dL_law_173 (by decide) ?_
    refine go_st (st2 := [.int (nI (i % 2))]) (by rw [q_rem (D := 2) 2 (by omega) (by omega) (by omega) rfl]) ?_
    refine go_goto C (tgt := 182) dL_law_174 (by decide) ?_
    exact G_1 (i % 2) (by omega)
set_option maxHeartbeats 4000000 in
theorem law_lot0 {p : Program} {l : Launch} {e : Env} {s : State} {m : MethodId} {args : Array Value} {below : List Frame} {meth : Method} {c : Code} {D : va_G} {N0 : Nat} {ret : Option FieldType} {nm : String} {Q : State → Prop} {k n : Nat} {cI cJ cO : ClassId} {a : Nat → Nat} {b i : Nat} {S : CS} {M : LWS} {y kd : Nat} (C : Cxt p s m args meth c D (tysW cI cJ cO) N0 cL_law 23 RL ret nm) (hy : y < 2 ^ 27) (w : Rl S M) (g : ∀ j : Nat, j < 20 → (0 < lK M → j < lK M) → Go p l e room_1 s m args below meth c D N0 23 Q (wW cI cJ cO a S M ([])) (k) (n) 209 [(17, .int (nI j)), (16, .int (nI y)), (15, .int (nI kd)), (13, .int (nI i)), (12, .int 1), (11, .ref (a 14)), (10, .ref (a 13)), (9, .ref (a 12)), (8, .ref (a 11)), (7, .ref (a 10)), (6, .ref (a 9)), (5, .ref (a 8)), (4, .ref (a 7)), (3, .ref (a 6)), (2, .ref (a 5)), (1, .ref (a 0)), (0, .ref b)] []) : Go p l e room_1 s m args below meth c D N0 23 Q (wW cI cJ cO a S M ([])) (k) (n) 191 [(16, .int (nI y)), (15, .int (nI kd)), (13, .int (nI i)), (12, .int 1), (11, .ref (a 14)), (10, .ref (a 13)), (9, .ref (a 12)), (8, .ref (a 11)), (7, .ref (a 10)), (6, .ref (a 9)), (5, .ref (a 8)), (4, .ref (a 7)), (3, .ref (a 6)), (2, .ref (a 5)), (1, .ref (a 0)), (0, .ref b)] [] := by
  obtain ⟨hn0, hn20⟩ := w.n20
  have G_1 : ∀ (j : Nat), (j < 20 ∧ (0 < lK M → j < lK M)) → Go p l e room_1 s m args below meth c D N0 23 Q (wW cI cJ cO a S M ([])) (k) (n) 207 [(16, .int (nI y)), (15, .int (nI kd)), (13, .int (nI i)), (12, .int 1), (11, .ref (a 14)), (10, .ref (a 13)), (9, .ref (a 12)), (8, .ref (a 11)), (7, .ref (a 10)), (6, .ref (a 9)), (5, .ref (a 8)), (4, .ref (a 7)), (3, .ref (a 6)), (2, .ref (a 5)), (1, .ref (a 0)), (0, .ref b)] [.int (nI j)] := by
    intro j hG_1
    refine go_istore C (lo' := [(17, .int (nI j)), (16, .int (nI y)), (15, .int (nI kd)), (13, .int (nI i)), (12, .int 1), (11, .ref (a 14)), (10, .ref (a 13)), (9, .ref (a 12)), (8, .ref (a 11)), (7, .ref (a 10)), (6, .ref (a 9)), (5, .ref (a 8)), (4, .ref (a 7)), (3, .ref (a 6)), (2, .ref (a 5)), (1, .ref (a 0)), (0, .ref b)]) dL_law_207 (by decide) rfl ?_
    exact g j hG_1.1 hG_1.2
  refine go_aload_n C 13 dL_law_191 rfl rfl ?_
  refine go_iconst C (v := 0) dL_law_192 (by decide) ?_
  refine lm_n C vin_0_4 dL_law_193 ?_
  rw [ck_0]
  refine go_if_ne C (tgt := 201) dL_law_194 (by decide) (fun c_2 => ?_) (fun c_2 => ?_)
  · have hz9 : ¬ nI (lK M) = 0 := by rw [← hn0]; exact c_2
    have hp9 : 0 < lK M := nI_pos1 (by omega) hz9
    refine go_iload C 0 dL_law_201 rfl ?_
    refine go_aload_n C 13 dL_law_203 rfl rfl ?_
    refine go_iconst C (v := 0) dL_law_204 (by decide) ?_
    refine lm_n C vin_0_4 dL_law_205 ?_
    rw [ck_0]
    refine go_st (st2 := [.int (nI (lK M)), .int (nI y)]) (by rw [hn0]) ?_
    refine go_irem C dL_law_206 hz9 ?_
    refine go_st (st2 := [.int (nI (y % (lK M)))]) (by rw [q_rem (D := nI (lK M)) (lK M) (by omega) (by omega) (by omega) rfl]) ?_
    exact G_1 (y % lK M) ⟨Nat.lt_of_lt_of_le (Nat.mod_lt y hp9) hn20, fun _ => Nat.mod_lt y hp9⟩
  · refine go_iconst C (v := 0) dL_law_197 (by decide) ?_
    refine go_goto C (tgt := 207) dL_law_198 (by decide) ?_
    have h9 : ¬ 0 < lK M := fun z9 => by
      rw [hn0] at c_2
      exact absurd c_2 (nI_ne0 z9 (by omega))
    exact G_1 0 ⟨by omega, fun z9 => absurd z9 h9⟩
set_option maxHeartbeats 4000000 in
theorem law_lot {p : Program} {l : Launch} {e : Env} {s : State} {m : MethodId} {args : Array Value} {below : List Frame} {meth : Method} {c : Code} {D : va_G} {N0 : Nat} {ret : Option FieldType} {nm : String} {Q : State → Prop} {k n : Nat} {cI cJ cO : ClassId} {a : Nat → Nat} {b i : Nat} {S : CS} {M : LWS} {y kd : Nat} (C : Cxt p s m args meth c D (tysW cI cJ cO) N0 cL_law 23 RL ret nm) (hy : y < 2 ^ 27) (w : Rl S M) (g : ∀ j : Nat, j < 20 → (0 < lK M → j < lK M) → Go p l e room_1 s m args below meth c D N0 23 Q (wW cI cJ cO a S M ([])) (k) (n) 251 [(17, .int (nI j)), (16, .int (nI y)), (15, .int (nI kd)), (13, .int (nI i)), (12, .int 1), (11, .ref (a 14)), (10, .ref (a 13)), (9, .ref (a 12)), (8, .ref (a 11)), (7, .ref (a 10)), (6, .ref (a 9)), (5, .ref (a 8)), (4, .ref (a 7)), (3, .ref (a 6)), (2, .ref (a 5)), (1, .ref (a 0)), (0, .ref b)] []) : ∀ (r q j : Nat), q + r = 20 → j < 20 → (0 < lK M → j < lK M) → Go p l e room_1 s m args below meth c D N0 23 Q (wW cI cJ cO a S M ([])) (k) (n) 212 [(18, .int (nI q)), (17, .int (nI j)), (16, .int (nI y)), (15, .int (nI kd)), (13, .int (nI i)), (12, .int 1), (11, .ref (a 14)), (10, .ref (a 13)), (9, .ref (a 12)), (8, .ref (a 11)), (7, .ref (a 10)), (6, .ref (a 9)), (5, .ref (a 8)), (4, .ref (a 7)), (3, .ref (a 6)), (2, .ref (a 5)), (1, .ref (a 0)), (0, .ref b)] [] := by
  obtain ⟨hn0, hn20⟩ := w.n20
  intro r
  induction r with
  | zero =>
    intro q j hqr hj hj2
    refine go_iload C 0 dL_law_212 rfl ?_
    refine go_aload_n C 15 dL_law_214 rfl rfl ?_
    refine go_iconst C (v := 0) dL_law_215 (by decide) ?_
    refine lm_n C vin_0_4 dL_law_216 ?_
    rw [ck_0]
    refine go_icmp_ge C (tgt := 251) dL_law_217 (by decide) (fun c_1 => ?_) (fun c_1 => absurd (by rw [hn0]; exact nI_le (by omega) (by omega)) c_1)
    refine go_lo (lo' := [(17, .int (nI j)), (16, .int (nI y)), (15, .int (nI kd)), (13, .int (nI i)), (12, .int 1), (11, .ref (a 14)), (10, .ref (a 13)), (9, .ref (a 12)), (8, .ref (a 11)), (7, .ref (a 10)), (6, .ref (a 9)), (5, .ref (a 8)), (4, .ref (a 7)), (3, .ref (a 6)), (2, .ref (a 5)), (1, .ref (a 0)), (0, .ref b)]) [1, 2, 3, 4, 5, 6, 7, 8, 9, 10, 11, 12, 13, 14, 15, 16, 17] rfl ?_
    exact g j hj hj2
  | succ r ih =>
    intro q j hqr hj hj2
    refine go_iload C 0 dL_law_212 rfl ?_
    refine go_aload_n C 15 dL_law_214 rfl rfl ?_
    refine go_iconst C (v := 0) dL_law_215 (by decide) ?_
    refine lm_n C vin_0_4 dL_law_216 ?_
    rw [ck_0]
    refine go_icmp_ge C (tgt := 251) dL_law_217 (by decide) (fun c_1 => ?_) (fun c_1 => ?_)
    · refine go_lo (lo' := [(17, .int (nI j)), (16, .int (nI y)), (15, .int (nI kd)), (13, .int (nI i)), (12, .int 1), (11, .ref (a 14)), (10, .ref (a 13)), (9, .ref (a 12)), (8, .ref (a 11)), (7, .ref (a 10)), (6, .ref (a 9)), (5, .ref (a 8)), (4, .ref (a 7)), (3, .ref (a 6)), (2, .ref (a 5)), (1, .ref (a 0)), (0, .ref b)]) [1, 2, 3, 4, 5, 6, 7, 8, 9, 10, 11, 12, 13, 14, 15, 16, 17] rfl ?_
      exact g j hj hj2
    · refine go_iload C 2 dL_law_220 rfl ?_
      refine go_iconst C (v := 5) dL_law_222 (by decide) ?_
      refine go_irem C dL_law_223 (by decide) ?_
      refine go_st (st2 := [.int (nI (y % 5))]) (by rw [q_rem (D := 5) 5 (by omega) (by omega) (by omega) rfl]) ?_
      refine go_if_le C (tgt := 251) dL_law_224 (by decide) (fun c_2 => ?_) (fun c_2 => ?_)
      · refine go_lo (lo' := [(17, .int (nI j)), (16, .int (nI y)), (15, .int (nI kd)), (13, .int (nI i)), (12, .int 1), (11, .ref (a 14)), (10, .ref (a 13)), (9, .ref (a 12)), (8, .ref (a 11)), (7, .ref (a 10)), (6, .ref (a 9)), (5, .ref (a 8)), (4, .ref (a 7)), (3, .ref (a 6)), (2, .ref (a 5)), (1, .ref (a 0)), (0, .ref b)]) [1, 2, 3, 4, 5, 6, 7, 8, 9, 10, 11, 12, 13, 14, 15, 16, 17] rfl ?_
        exact g j hj hj2
      · refine go_aload C 12 dL_law_227 rfl ?_
        refine go_iload C 1 dL_law_229 rfl ?_
        refine lm_p C (vp_in_nI (n := j) (by omega) (by decide)) dL_law_231 ?_
        rw [cl_nI (i := j) (by omega)]
        refine go_if_ne C (tgt := 251) dL_law_232 (by decide) (fun c_3 => ?_) (fun c_3 => ?_)
        · refine go_lo (lo' := [(17, .int (nI j)), (16, .int (nI y)), (15, .int (nI kd)), (13, .int (nI i)), (12, .int 1), (11, .ref (a 14)), (10, .ref (a 13)), (9, .ref (a 12)), (8, .ref (a 11)), (7, .ref (a 10)), (6, .ref (a 9)), (5, .ref (a 8)), (4, .ref (a 7)), (3, .ref (a 6)), (2, .ref (a 5)), (1, .ref (a 0)), (0, .ref b)]) [1, 2, 3, 4, 5, 6, 7, 8, 9, 10, 11, 12, 13, 14, 15, 16, 17] rfl ?_
          exact g j hj hj2
        · have hp9 : 0 < lK M := Nat.lt_of_le_of_lt (Nat.zero_le q) (Nat.not_le.mp (fun z9 => c_1 (by rw [hn0]; exact nI_le z9 (by omega))))
          have hz9 : ¬ nI (lK M) = 0 := nI_ne0 hp9 (by omega)
          refine go_iload C 1 dL_law_235 rfl ?_
          refine go_iconst C (v := 1) dL_law_237 (by decide) ?_
          refine go_iadd C dL_law_238 ?_
          refine go_st (st2 := [.int (nI (j + 1))]) (by rw [show (1 : Int32) = nI 1 from rfl, nI_add]) ?_
          refine go_aload_n C 15 dL_law_239 rfl rfl ?_
          refine go_iconst C (v := 0) dL_law_240 (by decide) ?_
          refine lm_n C vin_0_4 dL_law_241 ?_
          rw [ck_0]
          refine go_st (st2 := [.int (nI (lK M)), .int (nI (j + 1))]) (by rw [hn0]) ?_
          refine go_irem C dL_law_242 hz9 ?_
          refine go_st (st2 := [.int (nI ((j + 1) % (lK M)))]) (by rw [q_rem (D := nI (lK M)) (lK M) (by omega) (by omega) (by omega) rfl]) ?_
          refine go_istore C (lo' := [(17, .int (nI ((j + 1) % (lK M)))), (18, .int (nI q)), (16, .int (nI y)), (15, .int (nI kd)), (13, .int (nI i)), (12, .int 1), (11, .ref (a 14)), (10, .ref (a 13)), (9, .ref (a 12)), (8, .ref (a 11)), (7, .ref (a 10)), (6, .ref (a 9)), (5, .ref (a 8)), (4, .ref (a 7)), (3, .ref (a 6)), (2, .ref (a 5)), (1, .ref (a 0)), (0, .ref b)]) dL_law_243 (by decide) rfl ?_
          refine go_iinc C (v := nI (q + 1)) (lo' := [(18, .int (nI (q + 1))), (17, .int (nI ((j + 1) % (lK M)))), (16, .int (nI y)), (15, .int (nI kd)), (13, .int (nI i)), (12, .int 1), (11, .ref (a 14)), (10, .ref (a 13)), (9, .ref (a 12)), (8, .ref (a 11)), (7, .ref (a 10)), (6, .ref (a 9)), (5, .ref (a 8)), (4, .ref (a 7)), (3, .ref (a 6)), (2, .ref (a 5)), (1, .ref (a 0)), (0, .ref b)]) 1 dL_law_245 rfl (nI_1 _) (by decide) rfl ?_
          refine go_goto C (tgt := 212) dL_law_248 (by decide) ?_
          refine go_lo (lo' := [(18, .int (nI (q + 1))), (17, .int (nI ((j + 1) % lK M))), (16, .int (nI y)), (15, .int (nI kd)), (13, .int (nI i)), (12, .int 1), (11, .ref (a 14)), (10, .ref (a 13)), (9, .ref (a 12)), (8, .ref (a 11)), (7, .ref (a 10)), (6, .ref (a 9)), (5, .ref (a 8)), (4, .ref (a 7)), (3, .ref (a 6)), (2, .ref (a 5)), (1, .ref (a 0)), (0, .ref b)]) [0, 1, 2, 3, 4, 5, 6, 7, 8, 9, 10, 11, 12, 13, 14, 15, 16, 17] rfl ?_
          exact ih (q + 1) ((j + 1) % lK M) (by omega) (Nat.lt_of_lt_of_le (Nat.mod_lt _ hp9) hn20) (fun _ => Nat.mod_lt _ hp9)
set_option maxHeartbeats 4000000 in
theorem law_cust {p : Program} {l : Launch} {e : Env} {s : State} {m : MethodId} {args : Array Value} {below : List Frame} {meth : Method} {c : Code} {D : va_G} {N0 : Nat} {ret : Option FieldType} {nm : String} {Q : State → Prop} {k n : Nat} {cI cJ cO : ClassId} {a : Nat → Nat} {b i : Nat} {S : CS} {M : LWS} {y kd j : Nat} (C : Cxt p s m args meth c D (tysW cI cJ cO) N0 cL_law 23 RL ret nm) (hy : y < 2 ^ 27) (g : ∀ cu : Nat, cu < 4 → Go p l e room_1 s m args below meth c D N0 23 Q (wW cI cJ cO a S M ([])) (k) (n) 273 [(18, .int (nI cu)), (17, .int (nI j)), (16, .int (nI y)), (15, .int (nI kd)), (13, .int (nI i)), (12, .int 1), (11, .ref (a 14)), (10, .ref (a 13)), (9, .ref (a 12)), (8, .ref (a 11)), (7, .ref (a 10)), (6, .ref (a 9)), (5, .ref (a 8)), (4, .ref (a 7)), (3, .ref (a 6)), (2, .ref (a 5)), (1, .ref (a 0)), (0, .ref b)] []) : Go p l e room_1 s m args below meth c D N0 23 Q (wW cI cJ cO a S M ([])) (k) (n) 251 [(17, .int (nI j)), (16, .int (nI y)), (15, .int (nI kd)), (13, .int (nI i)), (12, .int 1), (11, .ref (a 14)), (10, .ref (a 13)), (9, .ref (a 12)), (8, .ref (a 11)), (7, .ref (a 10)), (6, .ref (a 9)), (5, .ref (a 8)), (4, .ref (a 7)), (3, .ref (a 6)), (2, .ref (a 5)), (1, .ref (a 0)), (0, .ref b)] [] := by
  have G_1 : ∀ (cu : Nat), (cu < 4) → Go p l e room_1 s m args below meth c D N0 23 Q (wW cI cJ cO a S M ([])) (k) (n) 271 [(17, .int (nI j)), (16, .int (nI y)), (15, .int (nI kd)), (13, .int (nI i)), (12, .int 1), (11, .ref (a 14)), (10, .ref (a 13)), (9, .ref (a 12)), (8, .ref (a 11)), (7, .ref (a 10)), (6, .ref (a 9)), (5, .ref (a 8)), (4, .ref (a 7)), (3, .ref (a 6)), (2, .ref (a 5)), (1, .ref (a 0)), (0, .ref b)] [.int (nI cu)] := by
    intro cu hG_1
    refine go_istore C (lo' := [(18, .int (nI cu)), (17, .int (nI j)), (16, .int (nI y)), (15, .int (nI kd)), (13, .int (nI i)), (12, .int 1), (11, .ref (a 14)), (10, .ref (a 13)), (9, .ref (a 12)), (8, .ref (a 11)), (7, .ref (a 10)), (6, .ref (a 9)), (5, .ref (a 8)), (4, .ref (a 7)), (3, .ref (a 6)), (2, .ref (a 5)), (1, .ref (a 0)), (0, .ref b)]) dL_law_271 (by decide) rfl ?_
    exact g cu hG_1
  refine go_iload C 1 dL_law_251 rfl ?_
  refine go_iconst C (v := 3) dL_law_253 (by decide) ?_
  refine go_idiv C dL_law_254 (by decide) ?_
  refine go_st (st2 := [.int (nI (y / 3))]) (by rw [q_div (D := 3) 3 (by omega) (by omega) (by omega) rfl]) ?_
  refine go_iconst C (v := 4) dL_law_255 (by decide) ?_
  refine go_irem C dL_law_256 (by decide) ?_
  refine go_st (st2 := [.int (nI ((y / 3) % 4))]) (by rw [q_rem (D := 4) 4 (by omega) (by omega) (by omega) rfl]) ?_
  refine go_if_ne C (tgt := 270) dL_law_257 (by decide) (fun c_2 => ?_) (fun c_2 => ?_)
  · refine go_iconst C (v := 0) dL_law_270 (by decide) ?_
    exact G_1 0 (by omega)
  · refine go_iload C 1 dL_law_260 rfl ?_
    refine go_bipush C (v := 12) dL_law_262 (by decide) ?_
    refine go_idiv C dL_law_264 (by decide) ?_
    refine go_st (st2 := [.int (nI (y / 12))]) (by rw [q_div (D := 12) 12 (by omega) (by omega) (by omega) rfl]) ?_
    refine go_iconst C (v := 4) dL_law_265 (by decide) ?_
    refine go_irem C dL_law_266 (by decide) ?_
    refine go_st (st2 := [.int (nI ((y / 12) % 4))]) (by rw [q_rem (D := 4) 4 (by omega) (by omega) (by omega) rfl]) ?_
    refine go_goto C (tgt := 271) dL_law_267 (by decide) ?_
    exact G_1 ((y / 12) % 4) (by omega)
set_option maxHeartbeats 4000000 in
theorem law_cents {p : Program} {l : Launch} {e : Env} {s : State} {m : MethodId} {args : Array Value} {below : List Frame} {meth : Method} {c : Code} {D : va_G} {N0 : Nat} {ret : Option FieldType} {nm : String} {Q : State → Prop} {k n : Nat} {cI cJ cO : ClassId} {a : Nat → Nat} {b i : Nat} {S : CS} {M : LWS} {y kd j cu : Nat} (C : Cxt p s m args meth c D (tysW cI cJ cO) N0 cL_law 23 RL ret nm) (hy : y < 2 ^ 27) (g : ∀ ct : Nat, 1 ≤ ct → ct ≤ 10000000 → Go p l e room_1 s m args below meth c D N0 23 Q (wW cI cJ cO a S M ([])) (k) (n) 308 [(19, .int (nI ct)), (18, .int (nI cu)), (17, .int (nI j)), (16, .int (nI y)), (15, .int (nI kd)), (13, .int (nI i)), (12, .int 1), (11, .ref (a 14)), (10, .ref (a 13)), (9, .ref (a 12)), (8, .ref (a 11)), (7, .ref (a 10)), (6, .ref (a 9)), (5, .ref (a 8)), (4, .ref (a 7)), (3, .ref (a 6)), (2, .ref (a 5)), (1, .ref (a 0)), (0, .ref b)] []) : Go p l e room_1 s m args below meth c D N0 23 Q (wW cI cJ cO a S M ([])) (k) (n) 273 [(18, .int (nI cu)), (17, .int (nI j)), (16, .int (nI y)), (15, .int (nI kd)), (13, .int (nI i)), (12, .int 1), (11, .ref (a 14)), (10, .ref (a 13)), (9, .ref (a 12)), (8, .ref (a 11)), (7, .ref (a 10)), (6, .ref (a 9)), (5, .ref (a 8)), (4, .ref (a 7)), (3, .ref (a 6)), (2, .ref (a 5)), (1, .ref (a 0)), (0, .ref b)] [] := by
  have G_1 : ∀ (ct : Nat), (1 ≤ ct ∧ ct ≤ 10000000) → Go p l e room_1 s m args below meth c D N0 23 Q (wW cI cJ cO a S M ([])) (k) (n) 306 [(18, .int (nI cu)), (17, .int (nI j)), (16, .int (nI y)), (15, .int (nI kd)), (13, .int (nI i)), (12, .int 1), (11, .ref (a 14)), (10, .ref (a 13)), (9, .ref (a 12)), (8, .ref (a 11)), (7, .ref (a 10)), (6, .ref (a 9)), (5, .ref (a 8)), (4, .ref (a 7)), (3, .ref (a 6)), (2, .ref (a 5)), (1, .ref (a 0)), (0, .ref b)] [.int (nI ct)] := by
    intro ct hG_1
    refine go_istore C (lo' := [(19, .int (nI ct)), (18, .int (nI cu)), (17, .int (nI j)), (16, .int (nI y)), (15, .int (nI kd)), (13, .int (nI i)), (12, .int 1), (11, .ref (a 14)), (10, .ref (a 13)), (9, .ref (a 12)), (8, .ref (a 11)), (7, .ref (a 10)), (6, .ref (a 9)), (5, .ref (a 8)), (4, .ref (a 7)), (3, .ref (a 6)), (2, .ref (a 5)), (1, .ref (a 0)), (0, .ref b)]) dL_law_306 (by decide) rfl ?_
    exact g ct hG_1.1 hG_1.2
  refine go_iload C 2 dL_law_273 rfl ?_
  refine go_bipush C (v := 7) dL_law_275 (by decide) ?_
  refine go_idiv C dL_law_277 (by decide) ?_
  refine go_st (st2 := [.int (nI (y / 7))]) (by rw [q_div (D := 7) 7 (by omega) (by omega) (by omega) rfl]) ?_
  refine go_iconst C (v := 3) dL_law_278 (by decide) ?_
  refine go_irem C dL_law_279 (by decide) ?_
  refine go_st (st2 := [.int (nI ((y / 7) % 3))]) (by rw [q_rem (D := 3) 3 (by omega) (by omega) (by omega) rfl]) ?_
  refine go_if_ne C (tgt := 296) dL_law_280 (by decide) (fun c_2 => ?_) (fun c_2 => ?_)
  · refine go_iconst C (v := 1) dL_law_296 (by decide) ?_
    refine go_iload C 2 dL_law_297 rfl ?_
    refine go_bipush C (v := 21) dL_law_299 (by decide) ?_
    refine go_idiv C dL_law_301 (by decide) ?_
    refine go_st (st2 := [.int (nI (y / 21)), .int 1]) (by rw [q_div (D := 21) 21 (by omega) (by omega) (by omega) rfl]) ?_
    refine go_ldc C bk_RL_117 dL_law_302 ?_
    refine go_irem C dL_law_304 (by decide) ?_
    refine go_st (st2 := [.int (nI ((y / 21) % 300000)), .int 1]) (by rw [q_rem (D := 300000) 300000 (by omega) (by omega) (by omega) rfl]) ?_
    refine go_iadd C dL_law_305 ?_
    refine go_st (st2 := [.int (nI (1 + ((y / 21) % 300000)))]) (by rw [show (1 : Int32) = nI 1 from rfl, nI_add]) ?_
    exact G_1 (1 + ((y / 21) % 300000)) ⟨by omega, by omega⟩
  · refine go_iconst C (v := 1) dL_law_283 (by decide) ?_
    refine go_iload C 2 dL_law_284 rfl ?_
    refine go_bipush C (v := 21) dL_law_286 (by decide) ?_
    refine go_idiv C dL_law_288 (by decide) ?_
    refine go_st (st2 := [.int (nI (y / 21)), .int 1]) (by rw [q_div (D := 21) 21 (by omega) (by omega) (by omega) rfl]) ?_
    refine go_ldc C bk_RL_116 dL_law_289 ?_
    refine go_irem C dL_law_291 (by decide) ?_
    refine go_st (st2 := [.int (nI ((y / 21) % 10000000)), .int 1]) (by rw [q_rem (D := 10000000) 10000000 (by omega) (by omega) (by omega) rfl]) ?_
    refine go_iadd C dL_law_292 ?_
    refine go_st (st2 := [.int (nI (1 + ((y / 21) % 10000000)))]) (by rw [show (1 : Int32) = nI 1 from rfl, nI_add]) ?_
    refine go_goto C (tgt := 306) dL_law_293 (by decide) ?_
    exact G_1 (1 + ((y / 21) % 10000000)) ⟨by omega, by omega⟩
