set_option maxHeartbeats 4000000 in
theorem law_setRate {p : Program} {l : Launch} {e : Env} {s : State} {m : MethodId} {args : Array Value} {below : List Frame} {meth : Method} {c : Code} {D : va_G} {N0 : Nat} {nm : String} {ret : Option FieldType} {Q : State → Prop} {k n : Nat} {cI cJ cZ cO : ClassId} {a : Nat → Nat} {b L i : Nat} {xs : Nat → Int32} {z1 z2 z3 z4 : Int32} {S : CS} {M : MS} {ov : Nat → Int64} (C : Cxt p s m args meth c D (tysW cI cJ cZ cO) N0 code 8 RL ret nm) (hlf : l.stackTraces = false) (X : Scr s N0 b L xs) (hv1 : vp_in (nI i + 1) L) (hv2 : vp_in (nI i + 2) L) (hv3 : vp_in (nI i + 3) L) (hv4 : vp_in (nI i + 4) L) (hz1 : xs (Int32.toNatClampNeg (nI i + 1)) = z1) (hz2 : xs (Int32.toNatClampNeg (nI i + 2)) = z2) (hz3 : xs (Int32.toNatClampNeg (nI i + 3)) = z3) (hz4 : xs (Int32.toNatClampNeg (nI i + 4)) = z4) (hk : k + 1000 ≤ 601024 ∧ n + 10000 ≤ 7293034) (h : Rel S M) (g : ∀ S2 M2 ov2, Rel S2 M2 → Go p l e room_1 s m args below meth c D N0 8 Q (wW cI cJ cZ cO a S2 M2 ov2) (k + 1000) (n + 10000) 1494 [(4, .int (nI i)), (3, .ref (a 24)), (2, .ref (a 5)), (1, .ref (a 0)), (0, .ref b)] []) : Go p l e room_1 s m args below meth c D N0 8 Q (wW cI cJ cZ cO a S M ov) k n 148 [(4, .int (nI i)), (3, .ref (a 24)), (2, .ref (a 5)), (1, .ref (a 0)), (0, .ref b)] [] := by
  obtain ⟨hk1, hk2⟩ := hk
  refine go_aload_n C 3 dL_law_148 rfl rfl ?_
  refine go_aload_n C 4 dL_law_149 rfl rfl ?_
  refine go_iload C 0 dL_law_150 rfl ?_
  refine go_iconst C (v := 1) dL_law_152 (by decide) ?_
  refine go_iadd C dL_law_153 ?_
  refine go_sldz C X hv1 hz1 dL_law_154 ?_
  refine go_aload_n C 4 dL_law_155 rfl rfl ?_
  refine go_iload C 0 dL_law_156 rfl ?_
  refine go_iconst C (v := 2) dL_law_158 (by decide) ?_
  refine go_iadd C dL_law_159 ?_
  refine go_sldz C X hv2 hz2 dL_law_160 ?_
  refine go_aload_n C 1 dL_law_161 rfl rfl ?_
  refine k_RL_86 C hlf S M ov z1 z2 ⟨(Nat.le_of_ble_eq_true rfl), (Nat.le_of_ble_eq_true rfl)⟩ ⟨(show _ ≤ 601024 by omega), (show _ ≤ 7293034 by omega)⟩ (Nat.le_of_ble_eq_true rfl) dL_law_162 (fun c9 => ?_) (fun c9 => ?_)
  · rcases sim_setRate h z1 z2 with ⟨e1, e2, e3, e4⟩ | ⟨e1, e2, e3⟩
    · refine go_istore C (lo' := [(5, .int (0)), (4, .int (nI i)), (3, .ref (a 24)), (2, .ref (a 5)), (1, .ref (a 0)), (0, .ref b)]) dL_law_165 (by decide) rfl ?_
      refine go_aload_n C 3 dL_law_167 rfl rfl ?_
      refine go_aload_n C 5 dL_law_168 rfl rfl ?_
      refine go_iload C 1 dL_law_169 rfl ?_
      refine go_iconst C (v := 1) dL_law_171 (by decide) ?_
      refine go_iadd C dL_law_172 ?_
      refine go_sldz C X hv1 hz1 dL_law_173 ?_
      refine go_aload_n C 5 dL_law_174 rfl rfl ?_
      refine go_iload C 1 dL_law_175 rfl ?_
      refine go_iconst C (v := 2) dL_law_177 (by decide) ?_
      refine go_iadd C dL_law_178 ?_
      refine go_sldz C X hv2 hz2 dL_law_179 ?_
      refine k_RL_91 C _ M _ z1 z2 ⟨(Nat.le_of_ble_eq_true rfl), (Nat.le_of_ble_eq_true rfl)⟩ ⟨(show _ ≤ 601024 by omega), (show _ ≤ 7293034 by omega)⟩ (Nat.le_of_ble_eq_true rfl) dL_law_180 (fun c8 => ?_) (fun c8 => absurd e2 c8)
      refine go_istore C (lo' := [(6, .int _), (5, .int (0)), (4, .int (nI i)), (3, .ref (a 24)), (2, .ref (a 5)), (1, .ref (a 0)), (0, .ref b)]) dL_law_183 (by decide) rfl ?_
      refine go_aload_n C 4 dL_law_185 rfl rfl ?_
      refine k_RL_92 C _ _ _ ⟨(Nat.le_of_ble_eq_true rfl), (Nat.le_of_ble_eq_true rfl)⟩ ⟨(show _ ≤ 601024 by omega), (show _ ≤ 7293034 by omega)⟩ (Nat.le_of_ble_eq_true rfl) dL_law_186 ?_
      refine go_iload C 1 dL_law_189 rfl ?_
      refine go_icmp_eq C (tgt := 196) dL_law_191 (by decide) (fun _ => ?_) (fun z => absurd rfl z)
      refine go_iload C 1 dL_law_196 rfl ?_
      refine go_if_ne C (tgt := 213) dL_law_198 (by decide) (fun z => absurd rfl z) (fun _ => ?_)
      refine go_aload_n C 3 dL_law_201 rfl rfl ?_
      refine go_iconst C (v := 0) dL_law_202 (by decide) ?_
      refine l_out C vin_0_1 dL_law_203 ?_
      refine go_iload C 0 dL_law_204 rfl ?_
      refine go_i2l C dL_law_206 ?_
      refine go_lcmp C dL_law_207 ?_
      refine go_if_eq C (tgt := 213) dL_law_208 (by decide) (fun _ => ?_) (fun z => absurd ((lg_cmp_eq _ _).mpr ((updL_self ov 0 _).trans e3)) z)
      refine go_goto C (tgt := 1494) dL_law_213 (by decide) ?_
      refine go_lo [2, 3, 4, 5, 6] rfl ?_
      refine go_widen (k2 := k + 1000) (n2 := n + 10000) (by omega) (by omega) ?_
      exact g _ _ _ (e4)
    · exact absurd c9 e1
  · rcases sim_setRate h z1 z2 with ⟨e1, e2, e3, e4⟩ | ⟨e1, e2, e3⟩
    · exact absurd e1 c9
    · refine go_istore C (lo' := [(5, .int (_)), (4, .int (nI i)), (3, .ref (a 24)), (2, .ref (a 5)), (1, .ref (a 0)), (0, .ref b)]) dL_law_165 (by decide) rfl ?_
      refine go_aload_n C 3 dL_law_167 rfl rfl ?_
      refine go_aload_n C 5 dL_law_168 rfl rfl ?_
      refine go_iload C 1 dL_law_169 rfl ?_
      refine go_iconst C (v := 1) dL_law_171 (by decide) ?_
      refine go_iadd C dL_law_172 ?_
      refine go_sldz C X hv1 hz1 dL_law_173 ?_
      refine go_aload_n C 5 dL_law_174 rfl rfl ?_
      refine go_iload C 1 dL_law_175 rfl ?_
      refine go_iconst C (v := 2) dL_law_177 (by decide) ?_
      refine go_iadd C dL_law_178 ?_
      refine go_sldz C X hv2 hz2 dL_law_179 ?_
      refine k_RL_91 C _ M _ z1 z2 ⟨(Nat.le_of_ble_eq_true rfl), (Nat.le_of_ble_eq_true rfl)⟩ ⟨(show _ ≤ 601024 by omega), (show _ ≤ 7293034 by omega)⟩ (Nat.le_of_ble_eq_true rfl) dL_law_180 (fun c8 => absurd c8 e2) (fun c8 => ?_)
      refine go_istore C (lo' := [(6, .int _), (5, .int (_)), (4, .int (nI i)), (3, .ref (a 24)), (2, .ref (a 5)), (1, .ref (a 0)), (0, .ref b)]) dL_law_183 (by decide) rfl ?_
      refine go_aload_n C 4 dL_law_185 rfl rfl ?_
      refine k_RL_92 C _ _ _ ⟨(Nat.le_of_ble_eq_true rfl), (Nat.le_of_ble_eq_true rfl)⟩ ⟨(show _ ≤ 601024 by omega), (show _ ≤ 7293034 by omega)⟩ (Nat.le_of_ble_eq_true rfl) dL_law_186 ?_
      refine go_iload C 1 dL_law_189 rfl ?_
      refine go_icmp_eq C (tgt := 196) dL_law_191 (by decide) (fun _ => ?_) (fun z => absurd e3.symm z)
      refine go_iload C 1 dL_law_196 rfl ?_
      refine go_if_ne C (tgt := 213) dL_law_198 (by decide) (fun _ => ?_) (fun z => absurd (e3.symm.trans z) e2)
      refine go_goto C (tgt := 1494) dL_law_213 (by decide) ?_
      refine go_lo [2, 3, 4, 5, 6] rfl ?_
      refine go_widen (k2 := k + 1000) (n2 := n + 10000) (by omega) (by omega) ?_
      exact g _ _ _ (h.thr _)
set_option maxHeartbeats 4000000 in
theorem law_setByBands {p : Program} {l : Launch} {e : Env} {s : State} {m : MethodId} {args : Array Value} {below : List Frame} {meth : Method} {c : Code} {D : va_G} {N0 : Nat} {nm : String} {ret : Option FieldType} {Q : State → Prop} {k n : Nat} {cI cJ cZ cO : ClassId} {a : Nat → Nat} {b L i : Nat} {xs : Nat → Int32} {z1 z2 z3 z4 : Int32} {S : CS} {M : MS} {ov : Nat → Int64} (C : Cxt p s m args meth c D (tysW cI cJ cZ cO) N0 code 8 RL ret nm) (hlf : l.stackTraces = false) (X : Scr s N0 b L xs) (hv1 : vp_in (nI i + 1) L) (hv2 : vp_in (nI i + 2) L) (hv3 : vp_in (nI i + 3) L) (hv4 : vp_in (nI i + 4) L) (hz1 : xs (Int32.toNatClampNeg (nI i + 1)) = z1) (hz2 : xs (Int32.toNatClampNeg (nI i + 2)) = z2) (hz3 : xs (Int32.toNatClampNeg (nI i + 3)) = z3) (hz4 : xs (Int32.toNatClampNeg (nI i + 4)) = z4) (hk : k + 1000 ≤ 601024 ∧ n + 10000 ≤ 7293034) (h : Rel S M) (g : ∀ S2 M2 ov2, Rel S2 M2 → Go p l e room_1 s m args below meth c D N0 8 Q (wW cI cJ cZ cO a S2 M2 ov2) (k + 1000) (n + 10000) 1494 [(4, .int (nI i)), (3, .ref (a 24)), (2, .ref (a 5)), (1, .ref (a 0)), (0, .ref b)] []) : Go p l e room_1 s m args below meth c D N0 8 Q (wW cI cJ cZ cO a S M ov) k n 216 [(4, .int (nI i)), (3, .ref (a 24)), (2, .ref (a 5)), (1, .ref (a 0)), (0, .ref b)] [] := by
  obtain ⟨hk1, hk2⟩ := hk
  refine go_aload_n C 3 dL_law_216 rfl rfl ?_
  refine go_aload_n C 4 dL_law_217 rfl rfl ?_
  refine go_iload C 0 dL_law_218 rfl ?_
  refine go_iconst C (v := 1) dL_law_220 (by decide) ?_
  refine go_iadd C dL_law_221 ?_
  refine go_sldz C X hv1 hz1 dL_law_222 ?_
  refine go_if_eq C (tgt := 230) dL_law_223 (by decide) (fun c7 => ?_) (fun c7 => ?_)
  · refine go_iconst C (v := 0) dL_law_230 (by decide) ?_
    refine k_RL_96 C S M ov 0 (Or.inl rfl) h.2.2.2.2.2.2.2.2.2.1 ⟨(Nat.le_of_ble_eq_true rfl), (Nat.le_of_ble_eq_true rfl)⟩ ⟨(show _ ≤ 601024 by omega), (show _ ≤ 7293034 by omega)⟩ (Nat.le_of_ble_eq_true rfl) dL_law_231 ?_
    refine go_aload_n C 2 dL_law_234 rfl rfl ?_
    refine go_aload_n C 4 dL_law_235 rfl rfl ?_
    refine go_iload C 0 dL_law_236 rfl ?_
    refine go_iconst C (v := 1) dL_law_238 (by decide) ?_
    refine go_iadd C dL_law_239 ?_
    refine go_sldz C X hv1 hz1 dL_law_240 ?_
    refine go_if_eq C (tgt := 248) dL_law_241 (by decide) (fun _ => ?_) (fun z => absurd c7 z)
    refine go_iconst C (v := 0) dL_law_248 (by decide) ?_
    refine k_RL_100 C _ M _ 0 (Or.inl rfl) (by have q := h.2.2.2.2.2.2.2.2.2.1; rw [h.2.2.2.2.2.2.1] at q; exact q) ⟨(Nat.le_of_ble_eq_true rfl), (Nat.le_of_ble_eq_true rfl)⟩ ⟨(show _ ≤ 601024 by omega), (show _ ≤ 7293034 by omega)⟩ (Nat.le_of_ble_eq_true rfl) dL_law_249 ?_
    refine go_icmp_eq C (tgt := 1494) dL_law_252 (by decide) (fun _ => ?_) (fun z => absurd (sim_setByBands h (z := 0) (Or.inl rfl)).1 z)
    refine go_widen (k2 := k + 1000) (n2 := n + 10000) (by omega) (by omega) ?_
    exact g _ _ _ ((sim_setByBands h (z := 0) (Or.inl rfl)).2)
  · refine go_iconst C (v := 1) dL_law_226 (by decide) ?_
    refine go_goto C (tgt := 231) dL_law_227 (by decide) ?_
    refine k_RL_96 C S M ov 1 (Or.inr rfl) h.2.2.2.2.2.2.2.2.2.1 ⟨(Nat.le_of_ble_eq_true rfl), (Nat.le_of_ble_eq_true rfl)⟩ ⟨(show _ ≤ 601024 by omega), (show _ ≤ 7293034 by omega)⟩ (Nat.le_of_ble_eq_true rfl) dL_law_231 ?_
    refine go_aload_n C 2 dL_law_234 rfl rfl ?_
    refine go_aload_n C 4 dL_law_235 rfl rfl ?_
    refine go_iload C 0 dL_law_236 rfl ?_
    refine go_iconst C (v := 1) dL_law_238 (by decide) ?_
    refine go_iadd C dL_law_239 ?_
    refine go_sldz C X hv1 hz1 dL_law_240 ?_
    refine go_if_eq C (tgt := 248) dL_law_241 (by decide) (fun z => absurd z c7) (fun _ => ?_)
    refine go_iconst C (v := 1) dL_law_244 (by decide) ?_
    refine go_goto C (tgt := 249) dL_law_245 (by decide) ?_
    refine k_RL_100 C _ M _ 1 (Or.inr rfl) (by have q := h.2.2.2.2.2.2.2.2.2.1; rw [h.2.2.2.2.2.2.1] at q; exact q) ⟨(Nat.le_of_ble_eq_true rfl), (Nat.le_of_ble_eq_true rfl)⟩ ⟨(show _ ≤ 601024 by omega), (show _ ≤ 7293034 by omega)⟩ (Nat.le_of_ble_eq_true rfl) dL_law_249 ?_
    refine go_icmp_eq C (tgt := 1494) dL_law_252 (by decide) (fun _ => ?_) (fun z => absurd (sim_setByBands h (z := 1) (Or.inr rfl)).1 z)
    refine go_widen (k2 := k + 1000) (n2 := n + 10000) (by omega) (by omega) ?_
    exact g _ _ _ ((sim_setByBands h (z := 1) (Or.inr rfl)).2)
set_option maxHeartbeats 4000000 in
theorem law_setTermRate {p : Program} {l : Launch} {e : Env} {s : State} {m : MethodId} {args : Array Value} {below : List Frame} {meth : Method} {c : Code} {D : va_G} {N0 : Nat} {nm : String} {ret : Option FieldType} {Q : State → Prop} {k n : Nat} {cI cJ cZ cO : ClassId} {a : Nat → Nat} {b L i : Nat} {xs : Nat → Int32} {z1 z2 z3 z4 : Int32} {S : CS} {M : MS} {ov : Nat → Int64} (C : Cxt p s m args meth c D (tysW cI cJ cZ cO) N0 code 8 RL ret nm) (hlf : l.stackTraces = false) (X : Scr s N0 b L xs) (hv1 : vp_in (nI i + 1) L) (hv2 : vp_in (nI i + 2) L) (hv3 : vp_in (nI i + 3) L) (hv4 : vp_in (nI i + 4) L) (hz1 : xs (Int32.toNatClampNeg (nI i + 1)) = z1) (hz2 : xs (Int32.toNatClampNeg (nI i + 2)) = z2) (hz3 : xs (Int32.toNatClampNeg (nI i + 3)) = z3) (hz4 : xs (Int32.toNatClampNeg (nI i + 4)) = z4) (hk : k + 1000 ≤ 601024 ∧ n + 10000 ≤ 7293034) (h : Rel S M) (g : ∀ S2 M2 ov2, Rel S2 M2 → Go p l e room_1 s m args below meth c D N0 8 Q (wW cI cJ cZ cO a S2 M2 ov2) (k + 1000) (n + 10000) 1494 [(4, .int (nI i)), (3, .ref (a 24)), (2, .ref (a 5)), (1, .ref (a 0)), (0, .ref b)] []) : Go p l e room_1 s m args below meth c D N0 8 Q (wW cI cJ cZ cO a S M ov) k n 257 [(4, .int (nI i)), (3, .ref (a 24)), (2, .ref (a 5)), (1, .ref (a 0)), (0, .ref b)] [] := by
  obtain ⟨hk1, hk2⟩ := hk
  refine go_aload_n C 3 dL_law_257 rfl rfl ?_
  refine go_aload_n C 4 dL_law_258 rfl rfl ?_
  refine go_iload C 0 dL_law_259 rfl ?_
  refine go_iconst C (v := 1) dL_law_261 (by decide) ?_
  refine go_iadd C dL_law_262 ?_
  refine go_sldz C X hv1 hz1 dL_law_263 ?_
  refine go_aload_n C 1 dL_law_264 rfl rfl ?_
  refine k_RL_101 C hlf S M ov z1 ⟨(Nat.le_of_ble_eq_true rfl), (Nat.le_of_ble_eq_true rfl)⟩ ⟨(show _ ≤ 601024 by omega), (show _ ≤ 7293034 by omega)⟩ (Nat.le_of_ble_eq_true rfl) dL_law_265 (fun c9 => ?_) (fun c9 => ?_)
  · rcases sim_setTermRate h z1 with ⟨e1, e2, e3, e4⟩ | ⟨e1, e2, e3⟩
    · refine go_istore C (lo' := [(5, .int (0)), (4, .int (nI i)), (3, .ref (a 24)), (2, .ref (a 5)), (1, .ref (a 0)), (0, .ref b)]) dL_law_268 (by decide) rfl ?_
      refine go_aload_n C 3 dL_law_270 rfl rfl ?_
      refine go_aload_n C 5 dL_law_271 rfl rfl ?_
      refine go_iload C 1 dL_law_272 rfl ?_
      refine go_iconst C (v := 1) dL_law_274 (by decide) ?_
      refine go_iadd C dL_law_275 ?_
      refine go_sldz C X hv1 hz1 dL_law_276 ?_
      refine k_RL_104 C _ M _ z1 ⟨(Nat.le_of_ble_eq_true rfl), (Nat.le_of_ble_eq_true rfl)⟩ ⟨(show _ ≤ 601024 by omega), (show _ ≤ 7293034 by omega)⟩ (Nat.le_of_ble_eq_true rfl) dL_law_277 (fun c8 => ?_) (fun c8 => absurd e2 c8)
      refine go_istore C (lo' := [(6, .int _), (5, .int (0)), (4, .int (nI i)), (3, .ref (a 24)), (2, .ref (a 5)), (1, .ref (a 0)), (0, .ref b)]) dL_law_280 (by decide) rfl ?_
      refine go_aload_n C 4 dL_law_282 rfl rfl ?_
      refine k_RL_92 C _ _ _ ⟨(Nat.le_of_ble_eq_true rfl), (Nat.le_of_ble_eq_true rfl)⟩ ⟨(show _ ≤ 601024 by omega), (show _ ≤ 7293034 by omega)⟩ (Nat.le_of_ble_eq_true rfl) dL_law_283 ?_
      refine go_iload C 1 dL_law_286 rfl ?_
      refine go_icmp_eq C (tgt := 293) dL_law_288 (by decide) (fun _ => ?_) (fun z => absurd rfl z)
      refine go_iload C 1 dL_law_293 rfl ?_
      refine go_if_ne C (tgt := 310) dL_law_295 (by decide) (fun z => absurd rfl z) (fun _ => ?_)
      refine go_aload_n C 3 dL_law_298 rfl rfl ?_
      refine go_iconst C (v := 0) dL_law_299 (by decide) ?_
      refine l_out C vin_0_1 dL_law_300 ?_
      refine go_iload C 0 dL_law_301 rfl ?_
      refine go_i2l C dL_law_303 ?_
      refine go_lcmp C dL_law_304 ?_
      refine go_if_eq C (tgt := 310) dL_law_305 (by decide) (fun _ => ?_) (fun z => absurd ((lg_cmp_eq _ _).mpr ((updL_self ov 0 _).trans e3)) z)
      refine go_goto C (tgt := 1494) dL_law_310 (by decide) ?_
      refine go_lo [2, 3, 4, 5, 6] rfl ?_
      refine go_widen (k2 := k + 1000) (n2 := n + 10000) (by omega) (by omega) ?_
      exact g _ _ _ (e4)
    · exact absurd c9 e1
  · rcases sim_setTermRate h z1 with ⟨e1, e2, e3, e4⟩ | ⟨e1, e2, e3⟩
    · exact absurd e1 c9
    · refine go_istore C (lo' := [(5, .int (_)), (4, .int (nI i)), (3, .ref (a 24)), (2, .ref (a 5)), (1, .ref (a 0)), (0, .ref b)]) dL_law_268 (by decide) rfl ?_
      refine go_aload_n C 3 dL_law_270 rfl rfl ?_
      refine go_aload_n C 5 dL_law_271 rfl rfl ?_
      refine go_iload C 1 dL_law_272 rfl ?_
      refine go_iconst C (v := 1) dL_law_274 (by decide) ?_
      refine go_iadd C dL_law_275 ?_
      refine go_sldz C X hv1 hz1 dL_law_276 ?_
      refine k_RL_104 C _ M _ z1 ⟨(Nat.le_of_ble_eq_true rfl), (Nat.le_of_ble_eq_true rfl)⟩ ⟨(show _ ≤ 601024 by omega), (show _ ≤ 7293034 by omega)⟩ (Nat.le_of_ble_eq_true rfl) dL_law_277 (fun c8 => absurd c8 e2) (fun c8 => ?_)
      refine go_istore C (lo' := [(6, .int _), (5, .int (_)), (4, .int (nI i)), (3, .ref (a 24)), (2, .ref (a 5)), (1, .ref (a 0)), (0, .ref b)]) dL_law_280 (by decide) rfl ?_
      refine go_aload_n C 4 dL_law_282 rfl rfl ?_
      refine k_RL_92 C _ _ _ ⟨(Nat.le_of_ble_eq_true rfl), (Nat.le_of_ble_eq_true rfl)⟩ ⟨(show _ ≤ 601024 by omega), (show _ ≤ 7293034 by omega)⟩ (Nat.le_of_ble_eq_true rfl) dL_law_283 ?_
      refine go_iload C 1 dL_law_286 rfl ?_
      refine go_icmp_eq C (tgt := 293) dL_law_288 (by decide) (fun _ => ?_) (fun z => absurd e3.symm z)
      refine go_iload C 1 dL_law_293 rfl ?_
      refine go_if_ne C (tgt := 310) dL_law_295 (by decide) (fun _ => ?_) (fun z => absurd (e3.symm.trans z) e2)
      refine go_goto C (tgt := 1494) dL_law_310 (by decide) ?_
      refine go_lo [2, 3, 4, 5, 6] rfl ?_
      refine go_widen (k2 := k + 1000) (n2 := n + 10000) (by omega) (by omega) ?_
      exact g _ _ _ (h.thr _)
set_option maxHeartbeats 4000000 in
theorem law_deposit {p : Program} {l : Launch} {e : Env} {s : State} {m : MethodId} {args : Array Value} {below : List Frame} {meth : Method} {c : Code} {D : va_G} {N0 : Nat} {nm : String} {ret : Option FieldType} {Q : State → Prop} {k n : Nat} {cI cJ cZ cO : ClassId} {a : Nat → Nat} {b L i : Nat} {xs : Nat → Int32} {z1 z2 z3 z4 : Int32} {S : CS} {M : MS} {ov : Nat → Int64} (C : Cxt p s m args meth c D (tysW cI cJ cZ cO) N0 code 8 RL ret nm) (hlf : l.stackTraces = false) (X : Scr s N0 b L xs) (hv1 : vp_in (nI i + 1) L) (hv2 : vp_in (nI i + 2) L) (hv3 : vp_in (nI i + 3) L) (hv4 : vp_in (nI i + 4) L) (hz1 : xs (Int32.toNatClampNeg (nI i + 1)) = z1) (hz2 : xs (Int32.toNatClampNeg (nI i + 2)) = z2) (hz3 : xs (Int32.toNatClampNeg (nI i + 3)) = z3) (hz4 : xs (Int32.toNatClampNeg (nI i + 4)) = z4) (hk : k + 1000 ≤ 601024 ∧ n + 10000 ≤ 7293034) (h : Rel S M) (g : ∀ S2 M2 ov2, Rel S2 M2 → Go p l e room_1 s m args below meth c D N0 8 Q (wW cI cJ cZ cO a S2 M2 ov2) (k + 1000) (n + 10000) 1494 [(4, .int (nI i)), (3, .ref (a 24)), (2, .ref (a 5)), (1, .ref (a 0)), (0, .ref b)] []) : Go p l e room_1 s m args below meth c D N0 8 Q (wW cI cJ cZ cO a S M ov) k n 313 [(4, .int (nI i)), (3, .ref (a 24)), (2, .ref (a 5)), (1, .ref (a 0)), (0, .ref b)] [] := by
  obtain ⟨hk1, hk2⟩ := hk
  refine go_aload_n C 3 dL_law_313 rfl rfl ?_
  refine go_aload_n C 4 dL_law_314 rfl rfl ?_
  refine go_iload C 0 dL_law_315 rfl ?_
  refine go_iconst C (v := 1) dL_law_317 (by decide) ?_
  refine go_iadd C dL_law_318 ?_
  refine go_sldz C X hv1 hz1 dL_law_319 ?_
  refine go_aload_n C 4 dL_law_320 rfl rfl ?_
  refine go_iload C 0 dL_law_321 rfl ?_
  refine go_iconst C (v := 2) dL_law_323 (by decide) ?_
  refine go_iadd C dL_law_324 ?_
  refine go_sldz C X hv2 hz2 dL_law_325 ?_
  refine go_aload_n C 1 dL_law_326 rfl rfl ?_
  refine k_RL_105 C hlf S M ov z1 z2 h.1 ⟨(Nat.le_of_ble_eq_true rfl), (Nat.le_of_ble_eq_true rfl)⟩ ⟨(show _ ≤ 601024 by omega), (show _ ≤ 7293034 by omega)⟩ (Nat.le_of_ble_eq_true rfl) dL_law_327 (fun q9 c9 => ?_) (fun c9 => ?_)
  · rcases sim_deposit h q9 z1 z2 with ⟨e1, e2, e3, e4⟩ | ⟨e1, e2, e3⟩
    · refine go_istore C (lo' := [(5, .int (0)), (4, .int (nI i)), (3, .ref (a 24)), (2, .ref (a 5)), (1, .ref (a 0)), (0, .ref b)]) dL_law_330 (by decide) rfl ?_
      refine go_aload_n C 3 dL_law_332 rfl rfl ?_
      refine go_aload_n C 5 dL_law_333 rfl rfl ?_
      refine go_iload C 1 dL_law_334 rfl ?_
      refine go_iconst C (v := 1) dL_law_336 (by decide) ?_
      refine go_iadd C dL_law_337 ?_
      refine go_sldz C X hv1 hz1 dL_law_338 ?_
      refine go_aload_n C 5 dL_law_339 rfl rfl ?_
      refine go_iload C 1 dL_law_340 rfl ?_
      refine go_iconst C (v := 2) dL_law_342 (by decide) ?_
      refine go_iadd C dL_law_343 ?_
      refine go_sldz C X hv2 hz2 dL_law_344 ?_
      refine k_RL_107 C _ M _ z1 z2 h.2.1 ⟨(Nat.le_of_ble_eq_true rfl), (Nat.le_of_ble_eq_true rfl)⟩ ⟨(show _ ≤ 601024 by omega), (show _ ≤ 7293034 by omega)⟩ (Nat.le_of_ble_eq_true rfl) dL_law_345 (fun c8 => ?_) (fun c8 => absurd e2 c8)
      refine go_istore C (lo' := [(6, .int _), (5, .int (0)), (4, .int (nI i)), (3, .ref (a 24)), (2, .ref (a 5)), (1, .ref (a 0)), (0, .ref b)]) dL_law_348 (by decide) rfl ?_
      refine go_aload_n C 4 dL_law_350 rfl rfl ?_
      refine k_RL_92 C _ _ _ ⟨(Nat.le_of_ble_eq_true rfl), (Nat.le_of_ble_eq_true rfl)⟩ ⟨(show _ ≤ 601024 by omega), (show _ ≤ 7293034 by omega)⟩ (Nat.le_of_ble_eq_true rfl) dL_law_351 ?_
      refine go_iload C 1 dL_law_354 rfl ?_
      refine go_icmp_eq C (tgt := 361) dL_law_356 (by decide) (fun _ => ?_) (fun z => absurd rfl z)
      refine go_iload C 1 dL_law_361 rfl ?_
      refine go_if_ne C (tgt := 378) dL_law_363 (by decide) (fun z => absurd rfl z) (fun _ => ?_)
      refine go_aload_n C 3 dL_law_366 rfl rfl ?_
      refine go_iconst C (v := 0) dL_law_367 (by decide) ?_
      refine l_out C vin_0_1 dL_law_368 ?_
      refine go_iload C 0 dL_law_369 rfl ?_
      refine go_i2l C dL_law_371 ?_
      refine go_lcmp C dL_law_372 ?_
      refine go_if_eq C (tgt := 378) dL_law_373 (by decide) (fun _ => ?_) (fun z => absurd ((lg_cmp_eq _ _).mpr ((updL_self ov 0 _).trans e3)) z)
      refine go_goto C (tgt := 1494) dL_law_378 (by decide) ?_
      refine go_lo [2, 3, 4, 5, 6] rfl ?_
      refine go_widen (k2 := k + 1000) (n2 := n + 10000) (by omega) (by omega) ?_
      exact g _ _ _ (e4)
    · exact absurd c9 e1
  · rcases sim_deposit h 0 z1 z2 with ⟨e1, e2, e3, e4⟩ | ⟨e1, e2, e3⟩
    · exact absurd e1 c9
    · refine go_istore C (lo' := [(5, .int (_)), (4, .int (nI i)), (3, .ref (a 24)), (2, .ref (a 5)), (1, .ref (a 0)), (0, .ref b)]) dL_law_330 (by decide) rfl ?_
      refine go_aload_n C 3 dL_law_332 rfl rfl ?_
      refine go_aload_n C 5 dL_law_333 rfl rfl ?_
      refine go_iload C 1 dL_law_334 rfl ?_
      refine go_iconst C (v := 1) dL_law_336 (by decide) ?_
      refine go_iadd C dL_law_337 ?_
      refine go_sldz C X hv1 hz1 dL_law_338 ?_
      refine go_aload_n C 5 dL_law_339 rfl rfl ?_
      refine go_iload C 1 dL_law_340 rfl ?_
      refine go_iconst C (v := 2) dL_law_342 (by decide) ?_
      refine go_iadd C dL_law_343 ?_
      refine go_sldz C X hv2 hz2 dL_law_344 ?_
      refine k_RL_107 C _ M _ z1 z2 h.2.1 ⟨(Nat.le_of_ble_eq_true rfl), (Nat.le_of_ble_eq_true rfl)⟩ ⟨(show _ ≤ 601024 by omega), (show _ ≤ 7293034 by omega)⟩ (Nat.le_of_ble_eq_true rfl) dL_law_345 (fun c8 => absurd c8 e2) (fun c8 => ?_)
      refine go_istore C (lo' := [(6, .int _), (5, .int (_)), (4, .int (nI i)), (3, .ref (a 24)), (2, .ref (a 5)), (1, .ref (a 0)), (0, .ref b)]) dL_law_348 (by decide) rfl ?_
      refine go_aload_n C 4 dL_law_350 rfl rfl ?_
      refine k_RL_92 C _ _ _ ⟨(Nat.le_of_ble_eq_true rfl), (Nat.le_of_ble_eq_true rfl)⟩ ⟨(show _ ≤ 601024 by omega), (show _ ≤ 7293034 by omega)⟩ (Nat.le_of_ble_eq_true rfl) dL_law_351 ?_
      refine go_iload C 1 dL_law_354 rfl ?_
      refine go_icmp_eq C (tgt := 361) dL_law_356 (by decide) (fun _ => ?_) (fun z => absurd e3.symm z)
      refine go_iload C 1 dL_law_361 rfl ?_
      refine go_if_ne C (tgt := 378) dL_law_363 (by decide) (fun _ => ?_) (fun z => absurd (e3.symm.trans z) e2)
      refine go_goto C (tgt := 1494) dL_law_378 (by decide) ?_
      refine go_lo [2, 3, 4, 5, 6] rfl ?_
      refine go_widen (k2 := k + 1000) (n2 := n + 10000) (by omega) (by omega) ?_
      exact g _ _ _ (h.thr _)
set_option maxHeartbeats 4000000 in
theorem law_depositTerm {p : Program} {l : Launch} {e : Env} {s : State} {m : MethodId} {args : Array Value} {below : List Frame} {meth : Method} {c : Code} {D : va_G} {N0 : Nat} {nm : String} {ret : Option FieldType} {Q : State → Prop} {k n : Nat} {cI cJ cZ cO : ClassId} {a : Nat → Nat} {b L i : Nat} {xs : Nat → Int32} {z1 z2 z3 z4 : Int32} {S : CS} {M : MS} {ov : Nat → Int64} (C : Cxt p s m args meth c D (tysW cI cJ cZ cO) N0 code 8 RL ret nm) (hlf : l.stackTraces = false) (X : Scr s N0 b L xs) (hv1 : vp_in (nI i + 1) L) (hv2 : vp_in (nI i + 2) L) (hv3 : vp_in (nI i + 3) L) (hv4 : vp_in (nI i + 4) L) (hz1 : xs (Int32.toNatClampNeg (nI i + 1)) = z1) (hz2 : xs (Int32.toNatClampNeg (nI i + 2)) = z2) (hz3 : xs (Int32.toNatClampNeg (nI i + 3)) = z3) (hz4 : xs (Int32.toNatClampNeg (nI i + 4)) = z4) (hk : k + 1000 ≤ 601024 ∧ n + 10000 ≤ 7293034) (h : Rel S M) (g : ∀ S2 M2 ov2, Rel S2 M2 → Go p l e room_1 s m args below meth c D N0 8 Q (wW cI cJ cZ cO a S2 M2 ov2) (k + 1000) (n + 10000) 1494 [(4, .int (nI i)), (3, .ref (a 24)), (2, .ref (a 5)), (1, .ref (a 0)), (0, .ref b)] []) : Go p l e room_1 s m args below meth c D N0 8 Q (wW cI cJ cZ cO a S M ov) k n 381 [(4, .int (nI i)), (3, .ref (a 24)), (2, .ref (a 5)), (1, .ref (a 0)), (0, .ref b)] [] := by
  obtain ⟨hk1, hk2⟩ := hk
  refine go_aload_n C 3 dL_law_381 rfl rfl ?_
  refine go_aload_n C 4 dL_law_382 rfl rfl ?_
  refine go_iload C 0 dL_law_383 rfl ?_
  refine go_iconst C (v := 1) dL_law_385 (by decide) ?_
  refine go_iadd C dL_law_386 ?_
  refine go_sldz C X hv1 hz1 dL_law_387 ?_
  refine go_aload_n C 4 dL_law_388 rfl rfl ?_
  refine go_iload C 0 dL_law_389 rfl ?_
  refine go_iconst C (v := 2) dL_law_391 (by decide) ?_
  refine go_iadd C dL_law_392 ?_
  refine go_sldz C X hv2 hz2 dL_law_393 ?_
  refine go_aload_n C 4 dL_law_394 rfl rfl ?_
  refine go_iload C 0 dL_law_395 rfl ?_
  refine go_iconst C (v := 3) dL_law_397 (by decide) ?_
  refine go_iadd C dL_law_398 ?_
  refine go_sldz C X hv3 hz3 dL_law_399 ?_
  refine go_aload_n C 4 dL_law_400 rfl rfl ?_
  refine go_iload C 0 dL_law_401 rfl ?_
  refine go_iconst C (v := 4) dL_law_403 (by decide) ?_
  refine go_iadd C dL_law_404 ?_
  refine go_sldz C X hv4 hz4 dL_law_405 ?_
  refine go_aload_n C 1 dL_law_406 rfl rfl ?_
  refine k_RL_108 C hlf S M ov z1 z2 z3 z4 h.1 ⟨(Nat.le_of_ble_eq_true rfl), (Nat.le_of_ble_eq_true rfl)⟩ ⟨(show _ ≤ 601024 by omega), (show _ ≤ 7293034 by omega)⟩ (Nat.le_of_ble_eq_true rfl) dL_law_407 (fun q9 c9 => ?_) (fun c9 => ?_)
  · rcases sim_depositTerm h q9 z1 z2 z3 z4 with ⟨e1, e2, e3, e4⟩ | ⟨e1, e2, e3⟩
    · refine go_istore C (lo' := [(5, .int (0)), (4, .int (nI i)), (3, .ref (a 24)), (2, .ref (a 5)), (1, .ref (a 0)), (0, .ref b)]) dL_law_410 (by decide) rfl ?_
      refine go_aload_n C 3 dL_law_412 rfl rfl ?_
      refine go_aload_n C 5 dL_law_413 rfl rfl ?_
      refine go_iload C 1 dL_law_414 rfl ?_
      refine go_iconst C (v := 1) dL_law_416 (by decide) ?_
      refine go_iadd C dL_law_417 ?_
      refine go_sldz C X hv1 hz1 dL_law_418 ?_
      refine go_aload_n C 5 dL_law_419 rfl rfl ?_
      refine go_iload C 1 dL_law_420 rfl ?_
      refine go_iconst C (v := 2) dL_law_422 (by decide) ?_
      refine go_iadd C dL_law_423 ?_
      refine go_sldz C X hv2 hz2 dL_law_424 ?_
      refine go_aload_n C 5 dL_law_425 rfl rfl ?_
      refine go_iload C 1 dL_law_426 rfl ?_
      refine go_iconst C (v := 3) dL_law_428 (by decide) ?_
      refine go_iadd C dL_law_429 ?_
      refine go_sldz C X hv3 hz3 dL_law_430 ?_
      refine go_aload_n C 5 dL_law_431 rfl rfl ?_
      refine go_iload C 1 dL_law_432 rfl ?_
      refine go_iconst C (v := 4) dL_law_434 (by decide) ?_
      refine go_iadd C dL_law_435 ?_
      refine go_sldz C X hv4 hz4 dL_law_436 ?_
      refine k_RL_111 C _ M _ z1 z2 z3 z4 h.2.1 ⟨(Nat.le_of_ble_eq_true rfl), (Nat.le_of_ble_eq_true rfl)⟩ ⟨(show _ ≤ 601024 by omega), (show _ ≤ 7293034 by omega)⟩ (Nat.le_of_ble_eq_true rfl) dL_law_437 (fun c8 => ?_) (fun c8 => absurd e2 c8)
      refine go_istore C (lo' := [(6, .int _), (5, .int (0)), (4, .int (nI i)), (3, .ref (a 24)), (2, .ref (a 5)), (1, .ref (a 0)), (0, .ref b)]) dL_law_440 (by decide) rfl ?_
      refine go_aload_n C 4 dL_law_442 rfl rfl ?_
      refine k_RL_92 C _ _ _ ⟨(Nat.le_of_ble_eq_true rfl), (Nat.le_of_ble_eq_true rfl)⟩ ⟨(show _ ≤ 601024 by omega), (show _ ≤ 7293034 by omega)⟩ (Nat.le_of_ble_eq_true rfl) dL_law_443 ?_
      refine go_iload C 1 dL_law_446 rfl ?_
      refine go_icmp_eq C (tgt := 453) dL_law_448 (by decide) (fun _ => ?_) (fun z => absurd rfl z)
      refine go_iload C 1 dL_law_453 rfl ?_
      refine go_if_ne C (tgt := 470) dL_law_455 (by decide) (fun z => absurd rfl z) (fun _ => ?_)
      refine go_aload_n C 3 dL_law_458 rfl rfl ?_
      refine go_iconst C (v := 0) dL_law_459 (by decide) ?_
      refine l_out C vin_0_1 dL_law_460 ?_
      refine go_iload C 0 dL_law_461 rfl ?_
      refine go_i2l C dL_law_463 ?_
      refine go_lcmp C dL_law_464 ?_
      refine go_if_eq C (tgt := 470) dL_law_465 (by decide) (fun _ => ?_) (fun z => absurd ((lg_cmp_eq _ _).mpr ((updL_self ov 0 _).trans e3)) z)
      refine go_goto C (tgt := 1494) dL_law_470 (by decide) ?_
      refine go_lo [2, 3, 4, 5, 6] rfl ?_
      refine go_widen (k2 := k + 1000) (n2 := n + 10000) (by omega) (by omega) ?_
      exact g _ _ _ (e4)
    · exact absurd c9 e1
  · rcases sim_depositTerm h 0 z1 z2 z3 z4 with ⟨e1, e2, e3, e4⟩ | ⟨e1, e2, e3⟩
    · exact absurd e1 c9
    · refine go_istore C (lo' := [(5, .int (_)), (4, .int (nI i)), (3, .ref (a 24)), (2, .ref (a 5)), (1, .ref (a 0)), (0, .ref b)]) dL_law_410 (by decide) rfl ?_
      refine go_aload_n C 3 dL_law_412 rfl rfl ?_
      refine go_aload_n C 5 dL_law_413 rfl rfl ?_
      refine go_iload C 1 dL_law_414 rfl ?_
      refine go_iconst C (v := 1) dL_law_416 (by decide) ?_
      refine go_iadd C dL_law_417 ?_
      refine go_sldz C X hv1 hz1 dL_law_418 ?_
      refine go_aload_n C 5 dL_law_419 rfl rfl ?_
      refine go_iload C 1 dL_law_420 rfl ?_
      refine go_iconst C (v := 2) dL_law_422 (by decide) ?_
      refine go_iadd C dL_law_423 ?_
      refine go_sldz C X hv2 hz2 dL_law_424 ?_
      refine go_aload_n C 5 dL_law_425 rfl rfl ?_
      refine go_iload C 1 dL_law_426 rfl ?_
      refine go_iconst C (v := 3) dL_law_428 (by decide) ?_
      refine go_iadd C dL_law_429 ?_
      refine go_sldz C X hv3 hz3 dL_law_430 ?_
      refine go_aload_n C 5 dL_law_431 rfl rfl ?_
      refine go_iload C 1 dL_law_432 rfl ?_
      refine go_iconst C (v := 4) dL_law_434 (by decide) ?_
      refine go_iadd C dL_law_435 ?_
      refine go_sldz C X hv4 hz4 dL_law_436 ?_
      refine k_RL_111 C _ M _ z1 z2 z3 z4 h.2.1 ⟨(Nat.le_of_ble_eq_true rfl), (Nat.le_of_ble_eq_true rfl)⟩ ⟨(show _ ≤ 601024 by omega), (show _ ≤ 7293034 by omega)⟩ (Nat.le_of_ble_eq_true rfl) dL_law_437 (fun c8 => absurd c8 e2) (fun c8 => ?_)
      refine go_istore C (lo' := [(6, .int _), (5, .int (_)), (4, .int (nI i)), (3, .ref (a 24)), (2, .ref (a 5)), (1, .ref (a 0)), (0, .ref b)]) dL_law_440 (by decide) rfl ?_
      refine go_aload_n C 4 dL_law_442 rfl rfl ?_
      refine k_RL_92 C _ _ _ ⟨(Nat.le_of_ble_eq_true rfl), (Nat.le_of_ble_eq_true rfl)⟩ ⟨(show _ ≤ 601024 by omega), (show _ ≤ 7293034 by omega)⟩ (Nat.le_of_ble_eq_true rfl) dL_law_443 ?_
      refine go_iload C 1 dL_law_446 rfl ?_
      refine go_icmp_eq C (tgt := 453) dL_law_448 (by decide) (fun _ => ?_) (fun z => absurd e3.symm z)
      refine go_iload C 1 dL_law_453 rfl ?_
      refine go_if_ne C (tgt := 470) dL_law_455 (by decide) (fun _ => ?_) (fun z => absurd (e3.symm.trans z) e2)
      refine go_goto C (tgt := 1494) dL_law_470 (by decide) ?_
      refine go_lo [2, 3, 4, 5, 6] rfl ?_
      refine go_widen (k2 := k + 1000) (n2 := n + 10000) (by omega) (by omega) ?_
      exact g _ _ _ (h.thr _)
set_option maxHeartbeats 4000000 in
theorem law_give {p : Program} {l : Launch} {e : Env} {s : State} {m : MethodId} {args : Array Value} {below : List Frame} {meth : Method} {c : Code} {D : va_G} {N0 : Nat} {nm : String} {ret : Option FieldType} {Q : State → Prop} {k n : Nat} {cI cJ cZ cO : ClassId} {a : Nat → Nat} {b L i : Nat} {xs : Nat → Int32} {z1 z2 z3 z4 : Int32} {S : CS} {M : MS} {ov : Nat → Int64} (C : Cxt p s m args meth c D (tysW cI cJ cZ cO) N0 code 8 RL ret nm) (hlf : l.stackTraces = false) (X : Scr s N0 b L xs) (hv1 : vp_in (nI i + 1) L) (hv2 : vp_in (nI i + 2) L) (hv3 : vp_in (nI i + 3) L) (hv4 : vp_in (nI i + 4) L) (hz1 : xs (Int32.toNatClampNeg (nI i + 1)) = z1) (hz2 : xs (Int32.toNatClampNeg (nI i + 2)) = z2) (hz3 : xs (Int32.toNatClampNeg (nI i + 3)) = z3) (hz4 : xs (Int32.toNatClampNeg (nI i + 4)) = z4) (hk : k + 1000 ≤ 601024 ∧ n + 10000 ≤ 7293034) (h : Rel S M) (g : ∀ S2 M2 ov2, Rel S2 M2 → Go p l e room_1 s m args below meth c D N0 8 Q (wW cI cJ cZ cO a S2 M2 ov2) (k + 1000) (n + 10000) 1494 [(4, .int (nI i)), (3, .ref (a 24)), (2, .ref (a 5)), (1, .ref (a 0)), (0, .ref b)] []) : Go p l e room_1 s m args below meth c D N0 8 Q (wW cI cJ cZ cO a S M ov) k n 473 [(4, .int (nI i)), (3, .ref (a 24)), (2, .ref (a 5)), (1, .ref (a 0)), (0, .ref b)] [] := by
  obtain ⟨hk1, hk2⟩ := hk
  refine go_aload_n C 3 dL_law_473 rfl rfl ?_
  refine go_aload_n C 4 dL_law_474 rfl rfl ?_
  refine go_iload C 0 dL_law_475 rfl ?_
  refine go_iconst C (v := 1) dL_law_477 (by decide) ?_
  refine go_iadd C dL_law_478 ?_
  refine go_sldz C X hv1 hz1 dL_law_479 ?_
  refine go_aload_n C 4 dL_law_480 rfl rfl ?_
  refine go_iload C 0 dL_law_481 rfl ?_
  refine go_iconst C (v := 2) dL_law_483 (by decide) ?_
  refine go_iadd C dL_law_484 ?_
  refine go_sldz C X hv2 hz2 dL_law_485 ?_
  refine go_aload_n C 1 dL_law_486 rfl rfl ?_
  refine k_RL_112 C hlf S M ov z1 z2 h.1 ⟨(Nat.le_of_ble_eq_true rfl), (Nat.le_of_ble_eq_true rfl)⟩ ⟨(show _ ≤ 601024 by omega), (show _ ≤ 7293034 by omega)⟩ (Nat.le_of_ble_eq_true rfl) dL_law_487 (fun c9 => ?_) (fun c9 => ?_)
  · rcases sim_give h z1 z2 with ⟨e1, e2, e3, e4⟩ | ⟨e1, e2, e3⟩
    · refine go_istore C (lo' := [(5, .int (0)), (4, .int (nI i)), (3, .ref (a 24)), (2, .ref (a 5)), (1, .ref (a 0)), (0, .ref b)]) dL_law_490 (by decide) rfl ?_
      refine go_aload_n C 3 dL_law_492 rfl rfl ?_
      refine go_aload_n C 5 dL_law_493 rfl rfl ?_
      refine go_iload C 1 dL_law_494 rfl ?_
      refine go_iconst C (v := 1) dL_law_496 (by decide) ?_
      refine go_iadd C dL_law_497 ?_
      refine go_sldz C X hv1 hz1 dL_law_498 ?_
      refine go_aload_n C 5 dL_law_499 rfl rfl ?_
      refine go_iload C 1 dL_law_500 rfl ?_
      refine go_iconst C (v := 2) dL_law_502 (by decide) ?_
      refine go_iadd C dL_law_503 ?_
      refine go_sldz C X hv2 hz2 dL_law_504 ?_
      refine k_RL_114 C _ M _ z1 z2 h.2.1 ⟨(Nat.le_of_ble_eq_true rfl), (Nat.le_of_ble_eq_true rfl)⟩ ⟨(show _ ≤ 601024 by omega), (show _ ≤ 7293034 by omega)⟩ (Nat.le_of_ble_eq_true rfl) dL_law_505 (fun c8 => ?_) (fun c8 => absurd e2 c8)
      refine go_istore C (lo' := [(6, .int _), (5, .int (0)), (4, .int (nI i)), (3, .ref (a 24)), (2, .ref (a 5)), (1, .ref (a 0)), (0, .ref b)]) dL_law_508 (by decide) rfl ?_
      refine go_aload_n C 4 dL_law_510 rfl rfl ?_
      refine k_RL_92 C _ _ _ ⟨(Nat.le_of_ble_eq_true rfl), (Nat.le_of_ble_eq_true rfl)⟩ ⟨(show _ ≤ 601024 by omega), (show _ ≤ 7293034 by omega)⟩ (Nat.le_of_ble_eq_true rfl) dL_law_511 ?_
      refine go_iload C 1 dL_law_514 rfl ?_
      refine go_icmp_eq C (tgt := 521) dL_law_516 (by decide) (fun _ => ?_) (fun z => absurd rfl z)
      refine go_iload C 1 dL_law_521 rfl ?_
      refine go_if_ne C (tgt := 538) dL_law_523 (by decide) (fun z => absurd rfl z) (fun _ => ?_)
      refine go_aload_n C 3 dL_law_526 rfl rfl ?_
      refine go_iconst C (v := 0) dL_law_527 (by decide) ?_
      refine l_out C vin_0_1 dL_law_528 ?_
      refine go_iload C 0 dL_law_529 rfl ?_
      refine go_i2l C dL_law_531 ?_
      refine go_lcmp C dL_law_532 ?_
      refine go_if_eq C (tgt := 538) dL_law_533 (by decide) (fun _ => ?_) (fun z => absurd ((lg_cmp_eq _ _).mpr ((updL_self ov 0 _).trans e3)) z)
      refine go_goto C (tgt := 1494) dL_law_538 (by decide) ?_
      refine go_lo [2, 3, 4, 5, 6] rfl ?_
      refine go_widen (k2 := k + 1000) (n2 := n + 10000) (by omega) (by omega) ?_
      exact g _ _ _ (e4)
    · exact absurd c9 e1
  · rcases sim_give h z1 z2 with ⟨e1, e2, e3, e4⟩ | ⟨e1, e2, e3⟩
    · exact absurd e1 c9
    · refine go_istore C (lo' := [(5, .int (_)), (4, .int (nI i)), (3, .ref (a 24)), (2, .ref (a 5)), (1, .ref (a 0)), (0, .ref b)]) dL_law_490 (by decide) rfl ?_
      refine go_aload_n C 3 dL_law_492 rfl rfl ?_
      refine go_aload_n C 5 dL_law_493 rfl rfl ?_
      refine go_iload C 1 dL_law_494 rfl ?_
      refine go_iconst C (v := 1) dL_law_496 (by decide) ?_
      refine go_iadd C dL_law_497 ?_
      refine go_sldz C X hv1 hz1 dL_law_498 ?_
      refine go_aload_n C 5 dL_law_499 rfl rfl ?_
      refine go_iload C 1 dL_law_500 rfl ?_
      refine go_iconst C (v := 2) dL_law_502 (by decide) ?_
      refine go_iadd C dL_law_503 ?_
      refine go_sldz C X hv2 hz2 dL_law_504 ?_
      refine k_RL_114 C _ M _ z1 z2 h.2.1 ⟨(Nat.le_of_ble_eq_true rfl), (Nat.le_of_ble_eq_true rfl)⟩ ⟨(show _ ≤ 601024 by omega), (show _ ≤ 7293034 by omega)⟩ (Nat.le_of_ble_eq_true rfl) dL_law_505 (fun c8 => absurd c8 e2) (fun c8 => ?_)
      refine go_istore C (lo' := [(6, .int _), (5, .int (_)), (4, .int (nI i)), (3, .ref (a 24)), (2, .ref (a 5)), (1, .ref (a 0)), (0, .ref b)]) dL_law_508 (by decide) rfl ?_
      refine go_aload_n C 4 dL_law_510 rfl rfl ?_
      refine k_RL_92 C _ _ _ ⟨(Nat.le_of_ble_eq_true rfl), (Nat.le_of_ble_eq_true rfl)⟩ ⟨(show _ ≤ 601024 by omega), (show _ ≤ 7293034 by omega)⟩ (Nat.le_of_ble_eq_true rfl) dL_law_511 ?_
      refine go_iload C 1 dL_law_514 rfl ?_
      refine go_icmp_eq C (tgt := 521) dL_law_516 (by decide) (fun _ => ?_) (fun z => absurd e3.symm z)
      refine go_iload C 1 dL_law_521 rfl ?_
      refine go_if_ne C (tgt := 538) dL_law_523 (by decide) (fun _ => ?_) (fun z => absurd (e3.symm.trans z) e2)
      refine go_goto C (tgt := 1494) dL_law_538 (by decide) ?_
      refine go_lo [2, 3, 4, 5, 6] rfl ?_
      refine go_widen (k2 := k + 1000) (n2 := n + 10000) (by omega) (by omega) ?_
      exact g _ _ _ (h.thr _)
set_option maxHeartbeats 4000000 in
theorem law_withdraw {p : Program} {l : Launch} {e : Env} {s : State} {m : MethodId} {args : Array Value} {below : List Frame} {meth : Method} {c : Code} {D : va_G} {N0 : Nat} {nm : String} {ret : Option FieldType} {Q : State → Prop} {k n : Nat} {cI cJ cZ cO : ClassId} {a : Nat → Nat} {b L i : Nat} {xs : Nat → Int32} {z1 z2 z3 z4 : Int32} {S : CS} {M : MS} {ov : Nat → Int64} (C : Cxt p s m args meth c D (tysW cI cJ cZ cO) N0 code 8 RL ret nm) (hlf : l.stackTraces = false) (X : Scr s N0 b L xs) (hv1 : vp_in (nI i + 1) L) (hv2 : vp_in (nI i + 2) L) (hv3 : vp_in (nI i + 3) L) (hv4 : vp_in (nI i + 4) L) (hz1 : xs (Int32.toNatClampNeg (nI i + 1)) = z1) (hz2 : xs (Int32.toNatClampNeg (nI i + 2)) = z2) (hz3 : xs (Int32.toNatClampNeg (nI i + 3)) = z3) (hz4 : xs (Int32.toNatClampNeg (nI i + 4)) = z4) (hk : k + 1000 ≤ 601024 ∧ n + 10000 ≤ 7293034) (h : Rel S M) (g : ∀ S2 M2 ov2, Rel S2 M2 → Go p l e room_1 s m args below meth c D N0 8 Q (wW cI cJ cZ cO a S2 M2 ov2) (k + 1000) (n + 10000) 1494 [(4, .int (nI i)), (3, .ref (a 24)), (2, .ref (a 5)), (1, .ref (a 0)), (0, .ref b)] []) : Go p l e room_1 s m args below meth c D N0 8 Q (wW cI cJ cZ cO a S M ov) k n 541 [(4, .int (nI i)), (3, .ref (a 24)), (2, .ref (a 5)), (1, .ref (a 0)), (0, .ref b)] [] := by
  obtain ⟨hk1, hk2⟩ := hk
  refine go_aload_n C 3 dL_law_541 rfl rfl ?_
  refine go_aload_n C 4 dL_law_542 rfl rfl ?_
  refine go_iload C 0 dL_law_543 rfl ?_
  refine go_iconst C (v := 1) dL_law_545 (by decide) ?_
  refine go_iadd C dL_law_546 ?_
  refine go_sldz C X hv1 hz1 dL_law_547 ?_
  refine go_aload_n C 1 dL_law_548 rfl rfl ?_
  refine k_RL_115 C hlf S M ov z1 h.1 ⟨(Nat.le_of_ble_eq_true rfl), (Nat.le_of_ble_eq_true rfl)⟩ ⟨(show _ ≤ 601024 by omega), (show _ ≤ 7293034 by omega)⟩ (Nat.le_of_ble_eq_true rfl) dL_law_549 (fun c9 => ?_) (fun c9 => ?_)
  · rcases sim_withdraw h z1 with ⟨e1, e2, e3, e4⟩ | ⟨e1, e2, e3⟩
    · refine go_istore C (lo' := [(5, .int (0)), (4, .int (nI i)), (3, .ref (a 24)), (2, .ref (a 5)), (1, .ref (a 0)), (0, .ref b)]) dL_law_552 (by decide) rfl ?_
      refine go_aload_n C 3 dL_law_554 rfl rfl ?_
      refine go_aload_n C 5 dL_law_555 rfl rfl ?_
      refine go_iload C 1 dL_law_556 rfl ?_
      refine go_iconst C (v := 1) dL_law_558 (by decide) ?_
      refine go_iadd C dL_law_559 ?_
      refine go_sldz C X hv1 hz1 dL_law_560 ?_
      refine k_RL_117 C _ M _ z1 h.2.1 ⟨(Nat.le_of_ble_eq_true rfl), (Nat.le_of_ble_eq_true rfl)⟩ ⟨(show _ ≤ 601024 by omega), (show _ ≤ 7293034 by omega)⟩ (Nat.le_of_ble_eq_true rfl) dL_law_561 (fun c8 => ?_) (fun c8 => absurd e2 c8)
      refine go_istore C (lo' := [(6, .int _), (5, .int (0)), (4, .int (nI i)), (3, .ref (a 24)), (2, .ref (a 5)), (1, .ref (a 0)), (0, .ref b)]) dL_law_564 (by decide) rfl ?_
      refine go_aload_n C 4 dL_law_566 rfl rfl ?_
      refine k_RL_92 C _ _ _ ⟨(Nat.le_of_ble_eq_true rfl), (Nat.le_of_ble_eq_true rfl)⟩ ⟨(show _ ≤ 601024 by omega), (show _ ≤ 7293034 by omega)⟩ (Nat.le_of_ble_eq_true rfl) dL_law_567 ?_
      refine go_iload C 1 dL_law_570 rfl ?_
      refine go_icmp_eq C (tgt := 577) dL_law_572 (by decide) (fun _ => ?_) (fun z => absurd rfl z)
      refine go_iload C 1 dL_law_577 rfl ?_
      refine go_if_ne C (tgt := 594) dL_law_579 (by decide) (fun z => absurd rfl z) (fun _ => ?_)
      refine go_aload_n C 3 dL_law_582 rfl rfl ?_
      refine go_iconst C (v := 0) dL_law_583 (by decide) ?_
      refine l_out C vin_0_1 dL_law_584 ?_
      refine go_iload C 0 dL_law_585 rfl ?_
      refine go_i2l C dL_law_587 ?_
      refine go_lcmp C dL_law_588 ?_
      refine go_if_eq C (tgt := 594) dL_law_589 (by decide) (fun _ => ?_) (fun z => absurd ((lg_cmp_eq _ _).mpr ((updL_self ov 0 _).trans e3)) z)
      refine go_goto C (tgt := 1494) dL_law_594 (by decide) ?_
      refine go_lo [2, 3, 4, 5, 6] rfl ?_
      refine go_widen (k2 := k + 1000) (n2 := n + 10000) (by omega) (by omega) ?_
      exact g _ _ _ (e4)
    · exact absurd c9 e1
  · rcases sim_withdraw h z1 with ⟨e1, e2, e3, e4⟩ | ⟨e1, e2, e3⟩
    · exact absurd e1 c9
    · refine go_istore C (lo' := [(5, .int (_)), (4, .int (nI i)), (3, .ref (a 24)), (2, .ref (a 5)), (1, .ref (a 0)), (0, .ref b)]) dL_law_552 (by decide) rfl ?_
      refine go_aload_n C 3 dL_law_554 rfl rfl ?_
      refine go_aload_n C 5 dL_law_555 rfl rfl ?_
      refine go_iload C 1 dL_law_556 rfl ?_
      refine go_iconst C (v := 1) dL_law_558 (by decide) ?_
      refine go_iadd C dL_law_559 ?_
      refine go_sldz C X hv1 hz1 dL_law_560 ?_
      refine k_RL_117 C _ M _ z1 h.2.1 ⟨(Nat.le_of_ble_eq_true rfl), (Nat.le_of_ble_eq_true rfl)⟩ ⟨(show _ ≤ 601024 by omega), (show _ ≤ 7293034 by omega)⟩ (Nat.le_of_ble_eq_true rfl) dL_law_561 (fun c8 => absurd c8 e2) (fun c8 => ?_)
      refine go_istore C (lo' := [(6, .int _), (5, .int (_)), (4, .int (nI i)), (3, .ref (a 24)), (2, .ref (a 5)), (1, .ref (a 0)), (0, .ref b)]) dL_law_564 (by decide) rfl ?_
      refine go_aload_n C 4 dL_law_566 rfl rfl ?_
      refine k_RL_92 C _ _ _ ⟨(Nat.le_of_ble_eq_true rfl), (Nat.le_of_ble_eq_true rfl)⟩ ⟨(show _ ≤ 601024 by omega), (show _ ≤ 7293034 by omega)⟩ (Nat.le_of_ble_eq_true rfl) dL_law_567 ?_
      refine go_iload C 1 dL_law_570 rfl ?_
      refine go_icmp_eq C (tgt := 577) dL_law_572 (by decide) (fun _ => ?_) (fun z => absurd e3.symm z)
      refine go_iload C 1 dL_law_577 rfl ?_
      refine go_if_ne C (tgt := 594) dL_law_579 (by decide) (fun _ => ?_) (fun z => absurd (e3.symm.trans z) e2)
      refine go_goto C (tgt := 1494) dL_law_594 (by decide) ?_
      refine go_lo [2, 3, 4, 5, 6] rfl ?_
      refine go_widen (k2 := k + 1000) (n2 := n + 10000) (by omega) (by omega) ?_
      exact g _ _ _ (h.thr _)
set_option maxHeartbeats 4000000 in
theorem law_take {p : Program} {l : Launch} {e : Env} {s : State} {m : MethodId} {args : Array Value} {below : List Frame} {meth : Method} {c : Code} {D : va_G} {N0 : Nat} {nm : String} {ret : Option FieldType} {Q : State → Prop} {k n : Nat} {cI cJ cZ cO : ClassId} {a : Nat → Nat} {b L i : Nat} {xs : Nat → Int32} {z1 z2 z3 z4 : Int32} {S : CS} {M : MS} {ov : Nat → Int64} (C : Cxt p s m args meth c D (tysW cI cJ cZ cO) N0 code 8 RL ret nm) (hlf : l.stackTraces = false) (X : Scr s N0 b L xs) (hv1 : vp_in (nI i + 1) L) (hv2 : vp_in (nI i + 2) L) (hv3 : vp_in (nI i + 3) L) (hv4 : vp_in (nI i + 4) L) (hz1 : xs (Int32.toNatClampNeg (nI i + 1)) = z1) (hz2 : xs (Int32.toNatClampNeg (nI i + 2)) = z2) (hz3 : xs (Int32.toNatClampNeg (nI i + 3)) = z3) (hz4 : xs (Int32.toNatClampNeg (nI i + 4)) = z4) (hk : k + 1000 ≤ 601024 ∧ n + 10000 ≤ 7293034) (h : Rel S M) (g : ∀ S2 M2 ov2, Rel S2 M2 → Go p l e room_1 s m args below meth c D N0 8 Q (wW cI cJ cZ cO a S2 M2 ov2) (k + 1000) (n + 10000) 1494 [(4, .int (nI i)), (3, .ref (a 24)), (2, .ref (a 5)), (1, .ref (a 0)), (0, .ref b)] []) : Go p l e room_1 s m args below meth c D N0 8 Q (wW cI cJ cZ cO a S M ov) k n 597 [(4, .int (nI i)), (3, .ref (a 24)), (2, .ref (a 5)), (1, .ref (a 0)), (0, .ref b)] [] := by
  obtain ⟨hk1, hk2⟩ := hk
  refine go_aload_n C 3 dL_law_597 rfl rfl ?_
  refine go_aload_n C 4 dL_law_598 rfl rfl ?_
  refine go_iload C 0 dL_law_599 rfl ?_
  refine go_iconst C (v := 1) dL_law_601 (by decide) ?_
  refine go_iadd C dL_law_602 ?_
  refine go_sldz C X hv1 hz1 dL_law_603 ?_
  refine go_aload_n C 1 dL_law_604 rfl rfl ?_
  refine k_RL_118 C hlf S M ov z1 h.1 ⟨(Nat.le_of_ble_eq_true rfl), (Nat.le_of_ble_eq_true rfl)⟩ ⟨(show _ ≤ 601024 by omega), (show _ ≤ 7293034 by omega)⟩ (Nat.le_of_ble_eq_true rfl) dL_law_605 (fun c9 => ?_) (fun c9 => ?_)
  · rcases sim_take h z1 with ⟨e1, e2, e3, e4⟩ | ⟨e1, e2, e3⟩
    · refine go_istore C (lo' := [(5, .int (0)), (4, .int (nI i)), (3, .ref (a 24)), (2, .ref (a 5)), (1, .ref (a 0)), (0, .ref b)]) dL_law_608 (by decide) rfl ?_
      refine go_aload_n C 3 dL_law_610 rfl rfl ?_
      refine go_aload_n C 5 dL_law_611 rfl rfl ?_
      refine go_iload C 1 dL_law_612 rfl ?_
      refine go_iconst C (v := 1) dL_law_614 (by decide) ?_
      refine go_iadd C dL_law_615 ?_
      refine go_sldz C X hv1 hz1 dL_law_616 ?_
      refine k_RL_120 C _ M _ z1 h.2.1 ⟨(Nat.le_of_ble_eq_true rfl), (Nat.le_of_ble_eq_true rfl)⟩ ⟨(show _ ≤ 601024 by omega), (show _ ≤ 7293034 by omega)⟩ (Nat.le_of_ble_eq_true rfl) dL_law_617 (fun c8 => ?_) (fun c8 => absurd e2 c8)
      refine go_istore C (lo' := [(6, .int _), (5, .int (0)), (4, .int (nI i)), (3, .ref (a 24)), (2, .ref (a 5)), (1, .ref (a 0)), (0, .ref b)]) dL_law_620 (by decide) rfl ?_
      refine go_aload_n C 4 dL_law_622 rfl rfl ?_
      refine k_RL_92 C _ _ _ ⟨(Nat.le_of_ble_eq_true rfl), (Nat.le_of_ble_eq_true rfl)⟩ ⟨(show _ ≤ 601024 by omega), (show _ ≤ 7293034 by omega)⟩ (Nat.le_of_ble_eq_true rfl) dL_law_623 ?_
      refine go_iload C 1 dL_law_626 rfl ?_
      refine go_icmp_eq C (tgt := 633) dL_law_628 (by decide) (fun _ => ?_) (fun z => absurd (thr_tk _ _) z)
      refine go_iload C 1 dL_law_633 rfl ?_
      refine go_if_ne C (tgt := 650) dL_law_635 (by decide) (fun z => absurd rfl z) (fun _ => ?_)
      refine go_aload_n C 3 dL_law_638 rfl rfl ?_
      refine go_iconst C (v := 0) dL_law_639 (by decide) ?_
      refine l_out C vin_0_1 dL_law_640 ?_
      refine go_iload C 0 dL_law_641 rfl ?_
      refine go_i2l C dL_law_643 ?_
      refine go_lcmp C dL_law_644 ?_
      refine go_if_eq C (tgt := 650) dL_law_645 (by decide) (fun _ => ?_) (fun z => absurd ((lg_cmp_eq _ _).mpr ((updL_self ov 0 _).trans e3)) z)
      refine go_goto C (tgt := 1494) dL_law_650 (by decide) ?_
      refine go_lo [2, 3, 4, 5, 6] rfl ?_
      refine go_widen (k2 := k + 1000) (n2 := n + 10000) (by omega) (by omega) ?_
      exact g _ _ _ (e4)
    · exact absurd c9 e1
  · rcases sim_take h z1 with ⟨e1, e2, e3, e4⟩ | ⟨e1, e2, e3⟩
    · exact absurd e1 c9
    · refine go_istore C (lo' := [(5, .int (_)), (4, .int (nI i)), (3, .ref (a 24)), (2, .ref (a 5)), (1, .ref (a 0)), (0, .ref b)]) dL_law_608 (by decide) rfl ?_
      refine go_aload_n C 3 dL_law_610 rfl rfl ?_
      refine go_aload_n C 5 dL_law_611 rfl rfl ?_
      refine go_iload C 1 dL_law_612 rfl ?_
      refine go_iconst C (v := 1) dL_law_614 (by decide) ?_
      refine go_iadd C dL_law_615 ?_
      refine go_sldz C X hv1 hz1 dL_law_616 ?_
      refine k_RL_120 C _ M _ z1 h.2.1 ⟨(Nat.le_of_ble_eq_true rfl), (Nat.le_of_ble_eq_true rfl)⟩ ⟨(show _ ≤ 601024 by omega), (show _ ≤ 7293034 by omega)⟩ (Nat.le_of_ble_eq_true rfl) dL_law_617 (fun c8 => absurd c8 e2) (fun c8 => ?_)
      refine go_istore C (lo' := [(6, .int _), (5, .int (_)), (4, .int (nI i)), (3, .ref (a 24)), (2, .ref (a 5)), (1, .ref (a 0)), (0, .ref b)]) dL_law_620 (by decide) rfl ?_
      refine go_aload_n C 4 dL_law_622 rfl rfl ?_
      refine k_RL_92 C _ _ _ ⟨(Nat.le_of_ble_eq_true rfl), (Nat.le_of_ble_eq_true rfl)⟩ ⟨(show _ ≤ 601024 by omega), (show _ ≤ 7293034 by omega)⟩ (Nat.le_of_ble_eq_true rfl) dL_law_623 ?_
      refine go_iload C 1 dL_law_626 rfl ?_
      refine go_icmp_eq C (tgt := 633) dL_law_628 (by decide) (fun _ => ?_) (fun z => absurd e3.symm z)
      refine go_iload C 1 dL_law_633 rfl ?_
      refine go_if_ne C (tgt := 650) dL_law_635 (by decide) (fun _ => ?_) (fun z => absurd (e3.symm.trans z) e2)
      refine go_goto C (tgt := 1494) dL_law_650 (by decide) ?_
      refine go_lo [2, 3, 4, 5, 6] rfl ?_
      refine go_widen (k2 := k + 1000) (n2 := n + 10000) (by omega) (by omega) ?_
      exact g _ _ _ (h.thr _)
set_option maxHeartbeats 4000000 in
theorem law_early {p : Program} {l : Launch} {e : Env} {s : State} {m : MethodId} {args : Array Value} {below : List Frame} {meth : Method} {c : Code} {D : va_G} {N0 : Nat} {nm : String} {ret : Option FieldType} {Q : State → Prop} {k n : Nat} {cI cJ cZ cO : ClassId} {a : Nat → Nat} {b L i : Nat} {xs : Nat → Int32} {z1 z2 z3 z4 : Int32} {S : CS} {M : MS} {ov : Nat → Int64} (C : Cxt p s m args meth c D (tysW cI cJ cZ cO) N0 code 8 RL ret nm) (hlf : l.stackTraces = false) (X : Scr s N0 b L xs) (hv1 : vp_in (nI i + 1) L) (hv2 : vp_in (nI i + 2) L) (hv3 : vp_in (nI i + 3) L) (hv4 : vp_in (nI i + 4) L) (hz1 : xs (Int32.toNatClampNeg (nI i + 1)) = z1) (hz2 : xs (Int32.toNatClampNeg (nI i + 2)) = z2) (hz3 : xs (Int32.toNatClampNeg (nI i + 3)) = z3) (hz4 : xs (Int32.toNatClampNeg (nI i + 4)) = z4) (hk : k + 1000 ≤ 601024 ∧ n + 10000 ≤ 7293034) (h : Rel S M) (g : ∀ S2 M2 ov2, Rel S2 M2 → Go p l e room_1 s m args below meth c D N0 8 Q (wW cI cJ cZ cO a S2 M2 ov2) (k + 1000) (n + 10000) 1494 [(4, .int (nI i)), (3, .ref (a 24)), (2, .ref (a 5)), (1, .ref (a 0)), (0, .ref b)] []) : Go p l e room_1 s m args below meth c D N0 8 Q (wW cI cJ cZ cO a S M ov) k n 653 [(4, .int (nI i)), (3, .ref (a 24)), (2, .ref (a 5)), (1, .ref (a 0)), (0, .ref b)] [] := by
  obtain ⟨hk1, hk2⟩ := hk
  refine go_aload_n C 3 dL_law_653 rfl rfl ?_
  refine go_aload_n C 4 dL_law_654 rfl rfl ?_
  refine go_iload C 0 dL_law_655 rfl ?_
  refine go_iconst C (v := 1) dL_law_657 (by decide) ?_
  refine go_iadd C dL_law_658 ?_
  refine go_sldz C X hv1 hz1 dL_law_659 ?_
  refine go_aload_n C 4 dL_law_660 rfl rfl ?_
  refine go_iload C 0 dL_law_661 rfl ?_
  refine go_iconst C (v := 2) dL_law_663 (by decide) ?_
  refine go_iadd C dL_law_664 ?_
  refine go_sldz C X hv2 hz2 dL_law_665 ?_
  refine go_aload_n C 1 dL_law_666 rfl rfl ?_
  refine k_RL_121 C hlf S M ov z1 z2 h.1 ⟨(Nat.le_of_ble_eq_true rfl), (Nat.le_of_ble_eq_true rfl)⟩ ⟨(show _ ≤ 601024 by omega), (show _ ≤ 7293034 by omega)⟩ (Nat.le_of_ble_eq_true rfl) dL_law_667 (fun c9 => ?_) (fun c9 => ?_)
  · rcases sim_early h z1 z2 with ⟨e1, e2, e3, e4⟩ | ⟨e1, e2, e3⟩
    · refine go_istore C (lo' := [(5, .int (0)), (4, .int (nI i)), (3, .ref (a 24)), (2, .ref (a 5)), (1, .ref (a 0)), (0, .ref b)]) dL_law_670 (by decide) rfl ?_
      refine go_aload_n C 3 dL_law_672 rfl rfl ?_
      refine go_aload_n C 5 dL_law_673 rfl rfl ?_
      refine go_iload C 1 dL_law_674 rfl ?_
      refine go_iconst C (v := 1) dL_law_676 (by decide) ?_
      refine go_iadd C dL_law_677 ?_
      refine go_sldz C X hv1 hz1 dL_law_678 ?_
      refine go_aload_n C 5 dL_law_679 rfl rfl ?_
      refine go_iload C 1 dL_law_680 rfl ?_
      refine go_iconst C (v := 2) dL_law_682 (by decide) ?_
      refine go_iadd C dL_law_683 ?_
      refine go_sldz C X hv2 hz2 dL_law_684 ?_
      refine k_RL_123 C _ M _ z1 z2 h.2.1 (fun q => early_ok h q) ⟨(Nat.le_of_ble_eq_true rfl), (Nat.le_of_ble_eq_true rfl)⟩ ⟨(show _ ≤ 601024 by omega), (show _ ≤ 7293034 by omega)⟩ (Nat.le_of_ble_eq_true rfl) dL_law_685 (fun c8 => ?_) (fun c8 => absurd e2 c8)
      refine go_istore C (lo' := [(6, .int _), (5, .int (0)), (4, .int (nI i)), (3, .ref (a 24)), (2, .ref (a 5)), (1, .ref (a 0)), (0, .ref b)]) dL_law_688 (by decide) rfl ?_
      refine go_aload_n C 4 dL_law_690 rfl rfl ?_
      refine k_RL_92 C _ _ _ ⟨(Nat.le_of_ble_eq_true rfl), (Nat.le_of_ble_eq_true rfl)⟩ ⟨(show _ ≤ 601024 by omega), (show _ ≤ 7293034 by omega)⟩ (Nat.le_of_ble_eq_true rfl) dL_law_691 ?_
      refine go_iload C 1 dL_law_694 rfl ?_
      refine go_icmp_eq C (tgt := 701) dL_law_696 (by decide) (fun _ => ?_) (fun z => absurd (thr_er _ _ _) z)
      refine go_iload C 1 dL_law_701 rfl ?_
      refine go_if_ne C (tgt := 718) dL_law_703 (by decide) (fun z => absurd rfl z) (fun _ => ?_)
      refine go_aload_n C 3 dL_law_706 rfl rfl ?_
      refine go_iconst C (v := 0) dL_law_707 (by decide) ?_
      refine l_out C vin_0_1 dL_law_708 ?_
      refine go_iload C 0 dL_law_709 rfl ?_
      refine go_i2l C dL_law_711 ?_
      refine go_lcmp C dL_law_712 ?_
      refine go_if_eq C (tgt := 718) dL_law_713 (by decide) (fun _ => ?_) (fun z => absurd ((lg_cmp_eq _ _).mpr ((updL_self ov 0 _).trans e3)) z)
      refine go_goto C (tgt := 1494) dL_law_718 (by decide) ?_
      refine go_lo [2, 3, 4, 5, 6] rfl ?_
      refine go_widen (k2 := k + 1000) (n2 := n + 10000) (by omega) (by omega) ?_
      exact g _ _ _ (e4)
    · exact absurd c9 e1
  · rcases sim_early h z1 z2 with ⟨e1, e2, e3, e4⟩ | ⟨e1, e2, e3⟩
    · exact absurd e1 c9
    · refine go_istore C (lo' := [(5, .int (_)), (4, .int (nI i)), (3, .ref (a 24)), (2, .ref (a 5)), (1, .ref (a 0)), (0, .ref b)]) dL_law_670 (by decide) rfl ?_
      refine go_aload_n C 3 dL_law_672 rfl rfl ?_
      refine go_aload_n C 5 dL_law_673 rfl rfl ?_
      refine go_iload C 1 dL_law_674 rfl ?_
      refine go_iconst C (v := 1) dL_law_676 (by decide) ?_
      refine go_iadd C dL_law_677 ?_
      refine go_sldz C X hv1 hz1 dL_law_678 ?_
      refine go_aload_n C 5 dL_law_679 rfl rfl ?_
      refine go_iload C 1 dL_law_680 rfl ?_
      refine go_iconst C (v := 2) dL_law_682 (by decide) ?_
      refine go_iadd C dL_law_683 ?_
      refine go_sldz C X hv2 hz2 dL_law_684 ?_
      refine k_RL_123 C _ M _ z1 z2 h.2.1 (fun q => early_ok h q) ⟨(Nat.le_of_ble_eq_true rfl), (Nat.le_of_ble_eq_true rfl)⟩ ⟨(show _ ≤ 601024 by omega), (show _ ≤ 7293034 by omega)⟩ (Nat.le_of_ble_eq_true rfl) dL_law_685 (fun c8 => absurd c8 e2) (fun c8 => ?_)
      refine go_istore C (lo' := [(6, .int _), (5, .int (_)), (4, .int (nI i)), (3, .ref (a 24)), (2, .ref (a 5)), (1, .ref (a 0)), (0, .ref b)]) dL_law_688 (by decide) rfl ?_
      refine go_aload_n C 4 dL_law_690 rfl rfl ?_
      refine k_RL_92 C _ _ _ ⟨(Nat.le_of_ble_eq_true rfl), (Nat.le_of_ble_eq_true rfl)⟩ ⟨(show _ ≤ 601024 by omega), (show _ ≤ 7293034 by omega)⟩ (Nat.le_of_ble_eq_true rfl) dL_law_691 ?_
      refine go_iload C 1 dL_law_694 rfl ?_
      refine go_icmp_eq C (tgt := 701) dL_law_696 (by decide) (fun _ => ?_) (fun z => absurd e3.symm z)
      refine go_iload C 1 dL_law_701 rfl ?_
      refine go_if_ne C (tgt := 718) dL_law_703 (by decide) (fun _ => ?_) (fun z => absurd (e3.symm.trans z) e2)
      refine go_goto C (tgt := 1494) dL_law_718 (by decide) ?_
      refine go_lo [2, 3, 4, 5, 6] rfl ?_
      refine go_widen (k2 := k + 1000) (n2 := n + 10000) (by omega) (by omega) ?_
      exact g _ _ _ (h.thr _)
set_option maxHeartbeats 4000000 in
theorem law_instruct {p : Program} {l : Launch} {e : Env} {s : State} {m : MethodId} {args : Array Value} {below : List Frame} {meth : Method} {c : Code} {D : va_G} {N0 : Nat} {nm : String} {ret : Option FieldType} {Q : State → Prop} {k n : Nat} {cI cJ cZ cO : ClassId} {a : Nat → Nat} {b L i : Nat} {xs : Nat → Int32} {z1 z2 z3 z4 : Int32} {S : CS} {M : MS} {ov : Nat → Int64} (C : Cxt p s m args meth c D (tysW cI cJ cZ cO) N0 code 8 RL ret nm) (hlf : l.stackTraces = false) (X : Scr s N0 b L xs) (hv1 : vp_in (nI i + 1) L) (hv2 : vp_in (nI i + 2) L) (hv3 : vp_in (nI i + 3) L) (hv4 : vp_in (nI i + 4) L) (hz1 : xs (Int32.toNatClampNeg (nI i + 1)) = z1) (hz2 : xs (Int32.toNatClampNeg (nI i + 2)) = z2) (hz3 : xs (Int32.toNatClampNeg (nI i + 3)) = z3) (hz4 : xs (Int32.toNatClampNeg (nI i + 4)) = z4) (hk : k + 1000 ≤ 601024 ∧ n + 10000 ≤ 7293034) (h : Rel S M) (g : ∀ S2 M2 ov2, Rel S2 M2 → Go p l e room_1 s m args below meth c D N0 8 Q (wW cI cJ cZ cO a S2 M2 ov2) (k + 1000) (n + 10000) 1494 [(4, .int (nI i)), (3, .ref (a 24)), (2, .ref (a 5)), (1, .ref (a 0)), (0, .ref b)] []) : Go p l e room_1 s m args below meth c D N0 8 Q (wW cI cJ cZ cO a S M ov) k n 721 [(4, .int (nI i)), (3, .ref (a 24)), (2, .ref (a 5)), (1, .ref (a 0)), (0, .ref b)] [] := by
  obtain ⟨hk1, hk2⟩ := hk
  refine go_aload_n C 3 dL_law_721 rfl rfl ?_
  refine go_aload_n C 4 dL_law_722 rfl rfl ?_
  refine go_iload C 0 dL_law_723 rfl ?_
  refine go_iconst C (v := 1) dL_law_725 (by decide) ?_
  refine go_iadd C dL_law_726 ?_
  refine go_sldz C X hv1 hz1 dL_law_727 ?_
  refine go_aload_n C 4 dL_law_728 rfl rfl ?_
  refine go_iload C 0 dL_law_729 rfl ?_
  refine go_iconst C (v := 2) dL_law_731 (by decide) ?_
  refine go_iadd C dL_law_732 ?_
  refine go_sldz C X hv2 hz2 dL_law_733 ?_
  refine go_aload_n C 1 dL_law_734 rfl rfl ?_
  refine k_RL_124 C hlf S M ov z1 z2 h.1 ⟨(Nat.le_of_ble_eq_true rfl), (Nat.le_of_ble_eq_true rfl)⟩ ⟨(show _ ≤ 601024 by omega), (show _ ≤ 7293034 by omega)⟩ (Nat.le_of_ble_eq_true rfl) dL_law_735 (fun c9 => ?_) (fun c9 => ?_)
  · rcases sim_instruct h z1 z2 with ⟨e1, e2, e3, e4⟩ | ⟨e1, e2, e3⟩
    · refine go_istore C (lo' := [(5, .int (0)), (4, .int (nI i)), (3, .ref (a 24)), (2, .ref (a 5)), (1, .ref (a 0)), (0, .ref b)]) dL_law_738 (by decide) rfl ?_
      refine go_aload_n C 3 dL_law_740 rfl rfl ?_
      refine go_aload_n C 5 dL_law_741 rfl rfl ?_
      refine go_iload C 1 dL_law_742 rfl ?_
      refine go_iconst C (v := 1) dL_law_744 (by decide) ?_
      refine go_iadd C dL_law_745 ?_
      refine go_sldz C X hv1 hz1 dL_law_746 ?_
      refine go_aload_n C 5 dL_law_747 rfl rfl ?_
      refine go_iload C 1 dL_law_748 rfl ?_
      refine go_iconst C (v := 2) dL_law_750 (by decide) ?_
      refine go_iadd C dL_law_751 ?_
      refine go_sldz C X hv2 hz2 dL_law_752 ?_
      refine k_RL_126 C _ M _ z1 z2 h.2.1 ⟨(Nat.le_of_ble_eq_true rfl), (Nat.le_of_ble_eq_true rfl)⟩ ⟨(show _ ≤ 601024 by omega), (show _ ≤ 7293034 by omega)⟩ (Nat.le_of_ble_eq_true rfl) dL_law_753 (fun c8 => ?_) (fun c8 => absurd e2 c8)
      refine go_istore C (lo' := [(6, .int _), (5, .int (0)), (4, .int (nI i)), (3, .ref (a 24)), (2, .ref (a 5)), (1, .ref (a 0)), (0, .ref b)]) dL_law_756 (by decide) rfl ?_
      refine go_aload_n C 4 dL_law_758 rfl rfl ?_
      refine k_RL_92 C _ _ _ ⟨(Nat.le_of_ble_eq_true rfl), (Nat.le_of_ble_eq_true rfl)⟩ ⟨(show _ ≤ 601024 by omega), (show _ ≤ 7293034 by omega)⟩ (Nat.le_of_ble_eq_true rfl) dL_law_759 ?_
      refine go_iload C 1 dL_law_762 rfl ?_
      refine go_icmp_eq C (tgt := 769) dL_law_764 (by decide) (fun _ => ?_) (fun z => absurd rfl z)
      refine go_iload C 1 dL_law_769 rfl ?_
      refine go_if_ne C (tgt := 786) dL_law_771 (by decide) (fun z => absurd rfl z) (fun _ => ?_)
      refine go_aload_n C 3 dL_law_774 rfl rfl ?_
      refine go_iconst C (v := 0) dL_law_775 (by decide) ?_
      refine l_out C vin_0_1 dL_law_776 ?_
      refine go_iload C 0 dL_law_777 rfl ?_
      refine go_i2l C dL_law_779 ?_
      refine go_lcmp C dL_law_780 ?_
      refine go_if_eq C (tgt := 786) dL_law_781 (by decide) (fun _ => ?_) (fun z => absurd ((lg_cmp_eq _ _).mpr ((updL_self ov 0 _).trans e3)) z)
      refine go_goto C (tgt := 1494) dL_law_786 (by decide) ?_
      refine go_lo [2, 3, 4, 5, 6] rfl ?_
      refine go_widen (k2 := k + 1000) (n2 := n + 10000) (by omega) (by omega) ?_
      exact g _ _ _ (e4)
    · exact absurd c9 e1
  · rcases sim_instruct h z1 z2 with ⟨e1, e2, e3, e4⟩ | ⟨e1, e2, e3⟩
    · exact absurd e1 c9
    · refine go_istore C (lo' := [(5, .int (_)), (4, .int (nI i)), (3, .ref (a 24)), (2, .ref (a 5)), (1, .ref (a 0)), (0, .ref b)]) dL_law_738 (by decide) rfl ?_
      refine go_aload_n C 3 dL_law_740 rfl rfl ?_
      refine go_aload_n C 5 dL_law_741 rfl rfl ?_
      refine go_iload C 1 dL_law_742 rfl ?_
      refine go_iconst C (v := 1) dL_law_744 (by decide) ?_
      refine go_iadd C dL_law_745 ?_
      refine go_sldz C X hv1 hz1 dL_law_746 ?_
      refine go_aload_n C 5 dL_law_747 rfl rfl ?_
      refine go_iload C 1 dL_law_748 rfl ?_
      refine go_iconst C (v := 2) dL_law_750 (by decide) ?_
      refine go_iadd C dL_law_751 ?_
      refine go_sldz C X hv2 hz2 dL_law_752 ?_
      refine k_RL_126 C _ M _ z1 z2 h.2.1 ⟨(Nat.le_of_ble_eq_true rfl), (Nat.le_of_ble_eq_true rfl)⟩ ⟨(show _ ≤ 601024 by omega), (show _ ≤ 7293034 by omega)⟩ (Nat.le_of_ble_eq_true rfl) dL_law_753 (fun c8 => absurd c8 e2) (fun c8 => ?_)
      refine go_istore C (lo' := [(6, .int _), (5, .int (_)), (4, .int (nI i)), (3, .ref (a 24)), (2, .ref (a 5)), (1, .ref (a 0)), (0, .ref b)]) dL_law_756 (by decide) rfl ?_
      refine go_aload_n C 4 dL_law_758 rfl rfl ?_
      refine k_RL_92 C _ _ _ ⟨(Nat.le_of_ble_eq_true rfl), (Nat.le_of_ble_eq_true rfl)⟩ ⟨(show _ ≤ 601024 by omega), (show _ ≤ 7293034 by omega)⟩ (Nat.le_of_ble_eq_true rfl) dL_law_759 ?_
      refine go_iload C 1 dL_law_762 rfl ?_
      refine go_icmp_eq C (tgt := 769) dL_law_764 (by decide) (fun _ => ?_) (fun z => absurd e3.symm z)
      refine go_iload C 1 dL_law_769 rfl ?_
      refine go_if_ne C (tgt := 786) dL_law_771 (by decide) (fun _ => ?_) (fun z => absurd (e3.symm.trans z) e2)
      refine go_goto C (tgt := 1494) dL_law_786 (by decide) ?_
      refine go_lo [2, 3, 4, 5, 6] rfl ?_
      refine go_widen (k2 := k + 1000) (n2 := n + 10000) (by omega) (by omega) ?_
      exact g _ _ _ (h.thr _)
set_option maxHeartbeats 4000000 in
theorem law_letGo {p : Program} {l : Launch} {e : Env} {s : State} {m : MethodId} {args : Array Value} {below : List Frame} {meth : Method} {c : Code} {D : va_G} {N0 : Nat} {nm : String} {ret : Option FieldType} {Q : State → Prop} {k n : Nat} {cI cJ cZ cO : ClassId} {a : Nat → Nat} {b L i : Nat} {xs : Nat → Int32} {z1 z2 z3 z4 : Int32} {S : CS} {M : MS} {ov : Nat → Int64} (C : Cxt p s m args meth c D (tysW cI cJ cZ cO) N0 code 8 RL ret nm) (hlf : l.stackTraces = false) (X : Scr s N0 b L xs) (hv1 : vp_in (nI i + 1) L) (hv2 : vp_in (nI i + 2) L) (hv3 : vp_in (nI i + 3) L) (hv4 : vp_in (nI i + 4) L) (hz1 : xs (Int32.toNatClampNeg (nI i + 1)) = z1) (hz2 : xs (Int32.toNatClampNeg (nI i + 2)) = z2) (hz3 : xs (Int32.toNatClampNeg (nI i + 3)) = z3) (hz4 : xs (Int32.toNatClampNeg (nI i + 4)) = z4) (hk : k + 1000 ≤ 601024 ∧ n + 10000 ≤ 7293034) (h : Rel S M) (g : ∀ S2 M2 ov2, Rel S2 M2 → Go p l e room_1 s m args below meth c D N0 8 Q (wW cI cJ cZ cO a S2 M2 ov2) (k + 1000) (n + 10000) 1494 [(4, .int (nI i)), (3, .ref (a 24)), (2, .ref (a 5)), (1, .ref (a 0)), (0, .ref b)] []) : Go p l e room_1 s m args below meth c D N0 8 Q (wW cI cJ cZ cO a S M ov) k n 789 [(4, .int (nI i)), (3, .ref (a 24)), (2, .ref (a 5)), (1, .ref (a 0)), (0, .ref b)] [] := by
  obtain ⟨hk1, hk2⟩ := hk
  refine go_aload_n C 3 dL_law_789 rfl rfl ?_
  refine go_aload_n C 4 dL_law_790 rfl rfl ?_
  refine go_iload C 0 dL_law_791 rfl ?_
  refine go_iconst C (v := 1) dL_law_793 (by decide) ?_
  refine go_iadd C dL_law_794 ?_
  refine go_sldz C X hv1 hz1 dL_law_795 ?_
  refine go_aload_n C 1 dL_law_796 rfl rfl ?_
  refine k_RL_127 C hlf S M ov z1 h.1 ⟨(Nat.le_of_ble_eq_true rfl), (Nat.le_of_ble_eq_true rfl)⟩ ⟨(show _ ≤ 601024 by omega), (show _ ≤ 7293034 by omega)⟩ (Nat.le_of_ble_eq_true rfl) dL_law_797 (fun c9 => ?_) (fun c9 => ?_)
  · rcases sim_letGo h z1 with ⟨e1, e2, e3, e4⟩ | ⟨e1, e2, e3⟩
    · refine go_istore C (lo' := [(5, .int (0)), (4, .int (nI i)), (3, .ref (a 24)), (2, .ref (a 5)), (1, .ref (a 0)), (0, .ref b)]) dL_law_800 (by decide) rfl ?_
      refine go_aload_n C 3 dL_law_802 rfl rfl ?_
      refine go_aload_n C 5 dL_law_803 rfl rfl ?_
      refine go_iload C 1 dL_law_804 rfl ?_
      refine go_iconst C (v := 1) dL_law_806 (by decide) ?_
      refine go_iadd C dL_law_807 ?_
      refine go_sldz C X hv1 hz1 dL_law_808 ?_
      refine k_RL_129 C _ M _ z1 h.2.1 ⟨(Nat.le_of_ble_eq_true rfl), (Nat.le_of_ble_eq_true rfl)⟩ ⟨(show _ ≤ 601024 by omega), (show _ ≤ 7293034 by omega)⟩ (Nat.le_of_ble_eq_true rfl) dL_law_809 (fun c8 => ?_) (fun c8 => absurd e2 c8)
      refine go_istore C (lo' := [(6, .int _), (5, .int (0)), (4, .int (nI i)), (3, .ref (a 24)), (2, .ref (a 5)), (1, .ref (a 0)), (0, .ref b)]) dL_law_812 (by decide) rfl ?_
      refine go_aload_n C 4 dL_law_814 rfl rfl ?_
      refine k_RL_92 C _ _ _ ⟨(Nat.le_of_ble_eq_true rfl), (Nat.le_of_ble_eq_true rfl)⟩ ⟨(show _ ≤ 601024 by omega), (show _ ≤ 7293034 by omega)⟩ (Nat.le_of_ble_eq_true rfl) dL_law_815 ?_
      refine go_iload C 1 dL_law_818 rfl ?_
      refine go_icmp_eq C (tgt := 825) dL_law_820 (by decide) (fun _ => ?_) (fun z => absurd rfl z)
      refine go_iload C 1 dL_law_825 rfl ?_
      refine go_if_ne C (tgt := 842) dL_law_827 (by decide) (fun z => absurd rfl z) (fun _ => ?_)
      refine go_aload_n C 3 dL_law_830 rfl rfl ?_
      refine go_iconst C (v := 0) dL_law_831 (by decide) ?_
      refine l_out C vin_0_1 dL_law_832 ?_
      refine go_iload C 0 dL_law_833 rfl ?_
      refine go_i2l C dL_law_835 ?_
      refine go_lcmp C dL_law_836 ?_
      refine go_if_eq C (tgt := 842) dL_law_837 (by decide) (fun _ => ?_) (fun z => absurd ((lg_cmp_eq _ _).mpr ((updL_self ov 0 _).trans e3)) z)
      refine go_goto C (tgt := 1494) dL_law_842 (by decide) ?_
      refine go_lo [2, 3, 4, 5, 6] rfl ?_
      refine go_widen (k2 := k + 1000) (n2 := n + 10000) (by omega) (by omega) ?_
      exact g _ _ _ (e4)
    · exact absurd c9 e1
  · rcases sim_letGo h z1 with ⟨e1, e2, e3, e4⟩ | ⟨e1, e2, e3⟩
    · exact absurd e1 c9
    · refine go_istore C (lo' := [(5, .int (_)), (4, .int (nI i)), (3, .ref (a 24)), (2, .ref (a 5)), (1, .ref (a 0)), (0, .ref b)]) dL_law_800 (by decide) rfl ?_
      refine go_aload_n C 3 dL_law_802 rfl rfl ?_
      refine go_aload_n C 5 dL_law_803 rfl rfl ?_
      refine go_iload C 1 dL_law_804 rfl ?_
      refine go_iconst C (v := 1) dL_law_806 (by decide) ?_
      refine go_iadd C dL_law_807 ?_
      refine go_sldz C X hv1 hz1 dL_law_808 ?_
      refine k_RL_129 C _ M _ z1 h.2.1 ⟨(Nat.le_of_ble_eq_true rfl), (Nat.le_of_ble_eq_true rfl)⟩ ⟨(show _ ≤ 601024 by omega), (show _ ≤ 7293034 by omega)⟩ (Nat.le_of_ble_eq_true rfl) dL_law_809 (fun c8 => absurd c8 e2) (fun c8 => ?_)
      refine go_istore C (lo' := [(6, .int _), (5, .int (_)), (4, .int (nI i)), (3, .ref (a 24)), (2, .ref (a 5)), (1, .ref (a 0)), (0, .ref b)]) dL_law_812 (by decide) rfl ?_
      refine go_aload_n C 4 dL_law_814 rfl rfl ?_
      refine k_RL_92 C _ _ _ ⟨(Nat.le_of_ble_eq_true rfl), (Nat.le_of_ble_eq_true rfl)⟩ ⟨(show _ ≤ 601024 by omega), (show _ ≤ 7293034 by omega)⟩ (Nat.le_of_ble_eq_true rfl) dL_law_815 ?_
      refine go_iload C 1 dL_law_818 rfl ?_
      refine go_icmp_eq C (tgt := 825) dL_law_820 (by decide) (fun _ => ?_) (fun z => absurd e3.symm z)
      refine go_iload C 1 dL_law_825 rfl ?_
      refine go_if_ne C (tgt := 842) dL_law_827 (by decide) (fun _ => ?_) (fun z => absurd (e3.symm.trans z) e2)
      refine go_goto C (tgt := 1494) dL_law_842 (by decide) ?_
      refine go_lo [2, 3, 4, 5, 6] rfl ?_
      refine go_widen (k2 := k + 1000) (n2 := n + 10000) (by omega) (by omega) ?_
      exact g _ _ _ (h.thr _)
set_option maxHeartbeats 4000000 in
theorem law_join {p : Program} {l : Launch} {e : Env} {s : State} {m : MethodId} {args : Array Value} {below : List Frame} {meth : Method} {c : Code} {D : va_G} {N0 : Nat} {nm : String} {ret : Option FieldType} {Q : State → Prop} {k n : Nat} {cI cJ cZ cO : ClassId} {a : Nat → Nat} {b L i : Nat} {xs : Nat → Int32} {z1 z2 z3 z4 : Int32} {S : CS} {M : MS} {ov : Nat → Int64} (C : Cxt p s m args meth c D (tysW cI cJ cZ cO) N0 code 8 RL ret nm) (hlf : l.stackTraces = false) (X : Scr s N0 b L xs) (hv1 : vp_in (nI i + 1) L) (hv2 : vp_in (nI i + 2) L) (hv3 : vp_in (nI i + 3) L) (hv4 : vp_in (nI i + 4) L) (hz1 : xs (Int32.toNatClampNeg (nI i + 1)) = z1) (hz2 : xs (Int32.toNatClampNeg (nI i + 2)) = z2) (hz3 : xs (Int32.toNatClampNeg (nI i + 3)) = z3) (hz4 : xs (Int32.toNatClampNeg (nI i + 4)) = z4) (hk : k + 1000 ≤ 601024 ∧ n + 10000 ≤ 7293034) (h : Rel S M) (g : ∀ S2 M2 ov2, Rel S2 M2 → Go p l e room_1 s m args below meth c D N0 8 Q (wW cI cJ cZ cO a S2 M2 ov2) (k + 1000) (n + 10000) 1494 [(4, .int (nI i)), (3, .ref (a 24)), (2, .ref (a 5)), (1, .ref (a 0)), (0, .ref b)] []) : Go p l e room_1 s m args below meth c D N0 8 Q (wW cI cJ cZ cO a S M ov) k n 845 [(4, .int (nI i)), (3, .ref (a 24)), (2, .ref (a 5)), (1, .ref (a 0)), (0, .ref b)] [] := by
  obtain ⟨hk1, hk2⟩ := hk
  refine go_aload_n C 3 dL_law_845 rfl rfl ?_
  refine go_aload_n C 4 dL_law_846 rfl rfl ?_
  refine go_iload C 0 dL_law_847 rfl ?_
  refine go_iconst C (v := 1) dL_law_849 (by decide) ?_
  refine go_iadd C dL_law_850 ?_
  refine go_sldz C X hv1 hz1 dL_law_851 ?_
  refine go_aload_n C 4 dL_law_852 rfl rfl ?_
  refine go_iload C 0 dL_law_853 rfl ?_
  refine go_iconst C (v := 2) dL_law_855 (by decide) ?_
  refine go_iadd C dL_law_856 ?_
  refine go_sldz C X hv2 hz2 dL_law_857 ?_
  refine go_aload_n C 1 dL_law_858 rfl rfl ?_
  refine k_RL_130 C hlf S M ov z1 z2 h.1 ⟨(Nat.le_of_ble_eq_true rfl), (Nat.le_of_ble_eq_true rfl)⟩ ⟨(show _ ≤ 601024 by omega), (show _ ≤ 7293034 by omega)⟩ (Nat.le_of_ble_eq_true rfl) dL_law_859 (fun c9 => ?_) (fun c9 => ?_)
  · rcases sim_join h z1 z2 with ⟨e1, e2, e3, e4⟩ | ⟨e1, e2, e3⟩
    · refine go_istore C (lo' := [(5, .int (0)), (4, .int (nI i)), (3, .ref (a 24)), (2, .ref (a 5)), (1, .ref (a 0)), (0, .ref b)]) dL_law_862 (by decide) rfl ?_
      refine go_aload_n C 3 dL_law_864 rfl rfl ?_
      refine go_aload_n C 5 dL_law_865 rfl rfl ?_
      refine go_iload C 1 dL_law_866 rfl ?_
      refine go_iconst C (v := 1) dL_law_868 (by decide) ?_
      refine go_iadd C dL_law_869 ?_
      refine go_sldz C X hv1 hz1 dL_law_870 ?_
      refine go_aload_n C 5 dL_law_871 rfl rfl ?_
      refine go_iload C 1 dL_law_872 rfl ?_
      refine go_iconst C (v := 2) dL_law_874 (by decide) ?_
      refine go_iadd C dL_law_875 ?_
      refine go_sldz C X hv2 hz2 dL_law_876 ?_
      refine k_RL_132 C _ M _ z1 z2 h.2.1 ⟨(Nat.le_of_ble_eq_true rfl), (Nat.le_of_ble_eq_true rfl)⟩ ⟨(show _ ≤ 601024 by omega), (show _ ≤ 7293034 by omega)⟩ (Nat.le_of_ble_eq_true rfl) dL_law_877 (fun c8 => ?_) (fun c8 => absurd e2 c8)
      refine go_istore C (lo' := [(6, .int _), (5, .int (0)), (4, .int (nI i)), (3, .ref (a 24)), (2, .ref (a 5)), (1, .ref (a 0)), (0, .ref b)]) dL_law_880 (by decide) rfl ?_
      refine go_aload_n C 4 dL_law_882 rfl rfl ?_
      refine k_RL_92 C _ _ _ ⟨(Nat.le_of_ble_eq_true rfl), (Nat.le_of_ble_eq_true rfl)⟩ ⟨(show _ ≤ 601024 by omega), (show _ ≤ 7293034 by omega)⟩ (Nat.le_of_ble_eq_true rfl) dL_law_883 ?_
      refine go_iload C 1 dL_law_886 rfl ?_
      refine go_icmp_eq C (tgt := 893) dL_law_888 (by decide) (fun _ => ?_) (fun z => absurd rfl z)
      refine go_iload C 1 dL_law_893 rfl ?_
      refine go_if_ne C (tgt := 910) dL_law_895 (by decide) (fun z => absurd rfl z) (fun _ => ?_)
      refine go_aload_n C 3 dL_law_898 rfl rfl ?_
      refine go_iconst C (v := 0) dL_law_899 (by decide) ?_
      refine l_out C vin_0_1 dL_law_900 ?_
      refine go_iload C 0 dL_law_901 rfl ?_
      refine go_i2l C dL_law_903 ?_
      refine go_lcmp C dL_law_904 ?_
      refine go_if_eq C (tgt := 910) dL_law_905 (by decide) (fun _ => ?_) (fun z => absurd ((lg_cmp_eq _ _).mpr ((updL_self ov 0 _).trans e3)) z)
      refine go_goto C (tgt := 1494) dL_law_910 (by decide) ?_
      refine go_lo [2, 3, 4, 5, 6] rfl ?_
      refine go_widen (k2 := k + 1000) (n2 := n + 10000) (by omega) (by omega) ?_
      exact g _ _ _ (e4)
    · exact absurd c9 e1
  · rcases sim_join h z1 z2 with ⟨e1, e2, e3, e4⟩ | ⟨e1, e2, e3⟩
    · exact absurd e1 c9
    · refine go_istore C (lo' := [(5, .int (_)), (4, .int (nI i)), (3, .ref (a 24)), (2, .ref (a 5)), (1, .ref (a 0)), (0, .ref b)]) dL_law_862 (by decide) rfl ?_
      refine go_aload_n C 3 dL_law_864 rfl rfl ?_
      refine go_aload_n C 5 dL_law_865 rfl rfl ?_
      refine go_iload C 1 dL_law_866 rfl ?_
      refine go_iconst C (v := 1) dL_law_868 (by decide) ?_
      refine go_iadd C dL_law_869 ?_
      refine go_sldz C X hv1 hz1 dL_law_870 ?_
      refine go_aload_n C 5 dL_law_871 rfl rfl ?_
      refine go_iload C 1 dL_law_872 rfl ?_
      refine go_iconst C (v := 2) dL_law_874 (by decide) ?_
      refine go_iadd C dL_law_875 ?_
      refine go_sldz C X hv2 hz2 dL_law_876 ?_
      refine k_RL_132 C _ M _ z1 z2 h.2.1 ⟨(Nat.le_of_ble_eq_true rfl), (Nat.le_of_ble_eq_true rfl)⟩ ⟨(show _ ≤ 601024 by omega), (show _ ≤ 7293034 by omega)⟩ (Nat.le_of_ble_eq_true rfl) dL_law_877 (fun c8 => absurd c8 e2) (fun c8 => ?_)
      refine go_istore C (lo' := [(6, .int _), (5, .int (_)), (4, .int (nI i)), (3, .ref (a 24)), (2, .ref (a 5)), (1, .ref (a 0)), (0, .ref b)]) dL_law_880 (by decide) rfl ?_
      refine go_aload_n C 4 dL_law_882 rfl rfl ?_
      refine k_RL_92 C _ _ _ ⟨(Nat.le_of_ble_eq_true rfl), (Nat.le_of_ble_eq_true rfl)⟩ ⟨(show _ ≤ 601024 by omega), (show _ ≤ 7293034 by omega)⟩ (Nat.le_of_ble_eq_true rfl) dL_law_883 ?_
      refine go_iload C 1 dL_law_886 rfl ?_
      refine go_icmp_eq C (tgt := 893) dL_law_888 (by decide) (fun _ => ?_) (fun z => absurd e3.symm z)
      refine go_iload C 1 dL_law_893 rfl ?_
      refine go_if_ne C (tgt := 910) dL_law_895 (by decide) (fun _ => ?_) (fun z => absurd (e3.symm.trans z) e2)
      refine go_goto C (tgt := 1494) dL_law_910 (by decide) ?_
      refine go_lo [2, 3, 4, 5, 6] rfl ?_
      refine go_widen (k2 := k + 1000) (n2 := n + 10000) (by omega) (by omega) ?_
      exact g _ _ _ (h.thr _)
