def aL (q : List Nat) : Nat → Nat := fun i => q.getD i 0
def L00 : LWS := (fun _ => 0, fun _ => 0, fun _ => 0, fun _ => 0, fun _ => 0, fun _ => 0, fun _ => 0, fun _ => 0, fun _ => 0, fun _ => 0)
set_option maxHeartbeats 4000000 in
set_option maxRecDepth 100000 in
theorem law_start {p : Program} {l : Launch} {e : Env} {s : State} {m : MethodId} {args : Array Value} {below : List Frame} {meth : Method} {c : Code} {D : va_G} {N0 : Nat} {nm : String} {ret : Option FieldType} {Q : State → Prop} {cI cJ cO : ClassId} {b : Nat} (C : Cxt p s m args meth c D (tysW cI cJ cO) N0 cL_law 23 RL ret nm) (g : ∀ a : Nat → Nat, Go p l e room_1 s m args below meth c D N0 23 Q (wW cI cJ cO a S0 L00 []) 15 254 64 [(11, .ref (a 14)), (10, .ref (a 13)), (9, .ref (a 12)), (8, .ref (a 11)), (7, .ref (a 10)), (6, .ref (a 9)), (5, .ref (a 8)), (4, .ref (a 7)), (3, .ref (a 6)), (2, .ref (a 5)), (1, .ref (a 0)), (0, .ref b)] []) : Go p l e room_1 s m args below meth c D N0 23 Q [] 0 0 0 [(0, .ref b)] [] := by
  refine go_new C (Cn := RX1) (T := TX1) (N := 8) (ci := 1) (fs := [.null, .null, .null, .null, .int 0, .int 0, .int 0, .int 0]) tyX1 inX1 tyX1_ok bcl_RL_38 bin_RX1 bz_NoticeBook rfl (by intro j hj; rcases j with _ | _ | _ | _ | _ | _ | _ | _ | j <;> first | rfl | omega) (Nat.le_of_ble_eq_true rfl) (Nat.le_of_ble_eq_true rfl) dL_law_0 (fun c0 => ?_)
  refine go_w (w2 := [(c0, .inr (1, [.null, .null, .null, .null, .int 0, .int 0, .int 0, .int 0]))]) rfl ?_
  refine go_dup C dL_law_3 rfl ?_
  refine k_RL_109 C c0 ⟨(Nat.le_of_ble_eq_true rfl), (Nat.le_of_ble_eq_true rfl)⟩ ⟨(Nat.le_of_ble_eq_true rfl), (Nat.le_of_ble_eq_true rfl)⟩ (Nat.le_of_ble_eq_true rfl) dL_law_4 (fun c1 c2 c3 c4 => ?_)
  refine go_astore_n C (lo' := [(1, .ref c0), (0, .ref b)]) dL_law_7 rfl (by decide) rfl ?_
  refine go_iconst C (v := 4) dL_law_8 (by decide) ?_
  refine go_newarray C (ty := .int) (N9 := 4) (t0 := 0) (cA := cI) (a0 := (4, .inl (fun _ => 0))) ba_int rfl rfl (fun _ => rfl) (by decide) (by decide) (by decide) (Nat.le_of_ble_eq_true rfl) (Nat.le_of_ble_eq_true rfl) dL_law_9 (fun c5 => ?_)
  refine go_astore_n C (lo' := [(2, .ref c5), (1, .ref c0), (0, .ref b)]) dL_law_11 rfl (by decide) rfl ?_
  refine go_iconst C (v := 3) dL_law_12 (by decide) ?_
  refine go_newarray C (ty := .int) (N9 := 3) (t0 := 0) (cA := cI) (a0 := (3, .inl (fun _ => 0))) ba_int rfl rfl (fun _ => rfl) (by decide) (by decide) (by decide) (Nat.le_of_ble_eq_true rfl) (Nat.le_of_ble_eq_true rfl) dL_law_13 (fun c6 => ?_)
  refine go_astore_n C (lo' := [(3, .ref c6), (2, .ref c5), (1, .ref c0), (0, .ref b)]) dL_law_15 rfl (by decide) rfl ?_
  refine go_bipush C (v := 20) dL_law_16 (by decide) ?_
  refine go_newarray C (ty := .int) (N9 := 20) (t0 := 0) (cA := cI) (a0 := (20, .inl (fun _ => 0))) ba_int rfl rfl (fun _ => rfl) (by decide) (by decide) (by decide) (Nat.le_of_ble_eq_true rfl) (Nat.le_of_ble_eq_true rfl) dL_law_18 (fun c7 => ?_)
  refine go_astore C (lo' := [(4, .ref c7), (3, .ref c6), (2, .ref c5), (1, .ref c0), (0, .ref b)]) dL_law_20 (by decide) rfl ?_
  refine go_bipush C (v := 20) dL_law_22 (by decide) ?_
  refine go_newarray C (ty := .int) (N9 := 20) (t0 := 0) (cA := cI) (a0 := (20, .inl (fun _ => 0))) ba_int rfl rfl (fun _ => rfl) (by decide) (by decide) (by decide) (Nat.le_of_ble_eq_true rfl) (Nat.le_of_ble_eq_true rfl) dL_law_24 (fun c8 => ?_)
  refine go_astore C (lo' := [(5, .ref c8), (4, .ref c7), (3, .ref c6), (2, .ref c5), (1, .ref c0), (0, .ref b)]) dL_law_26 (by decide) rfl ?_
  refine go_bipush C (v := 20) dL_law_28 (by decide) ?_
  refine go_newarray C (ty := .int) (N9 := 20) (t0 := 0) (cA := cI) (a0 := (20, .inl (fun _ => 0))) ba_int rfl rfl (fun _ => rfl) (by decide) (by decide) (by decide) (Nat.le_of_ble_eq_true rfl) (Nat.le_of_ble_eq_true rfl) dL_law_30 (fun c9 => ?_)
  refine go_astore C (lo' := [(6, .ref c9), (5, .ref c8), (4, .ref c7), (3, .ref c6), (2, .ref c5), (1, .ref c0), (0, .ref b)]) dL_law_32 (by decide) rfl ?_
  refine go_bipush C (v := 20) dL_law_34 (by decide) ?_
  refine go_newarray C (ty := .int) (N9 := 20) (t0 := 0) (cA := cI) (a0 := (20, .inl (fun _ => 0))) ba_int rfl rfl (fun _ => rfl) (by decide) (by decide) (by decide) (Nat.le_of_ble_eq_true rfl) (Nat.le_of_ble_eq_true rfl) dL_law_36 (fun c10 => ?_)
  refine go_astore C (lo' := [(7, .ref c10), (6, .ref c9), (5, .ref c8), (4, .ref c7), (3, .ref c6), (2, .ref c5), (1, .ref c0), (0, .ref b)]) dL_law_38 (by decide) rfl ?_
  refine go_bipush C (v := 60) dL_law_40 (by decide) ?_
  refine go_newarray C (ty := .int) (N9 := 60) (t0 := 0) (cA := cI) (a0 := (60, .inl (fun _ => 0))) ba_int rfl rfl (fun _ => rfl) (by decide) (by decide) (by decide) (Nat.le_of_ble_eq_true rfl) (Nat.le_of_ble_eq_true rfl) dL_law_42 (fun c11 => ?_)
  refine go_astore C (lo' := [(8, .ref c11), (7, .ref c10), (6, .ref c9), (5, .ref c8), (4, .ref c7), (3, .ref c6), (2, .ref c5), (1, .ref c0), (0, .ref b)]) dL_law_44 (by decide) rfl ?_
  refine go_bipush C (v := 20) dL_law_46 (by decide) ?_
  refine go_newarray C (ty := .long) (N9 := 20) (t0 := 1) (cA := cJ) (a0 := (20, .inr (.inl (fun _ => 0)))) ba_long rfl rfl (fun _ => rfl) (by decide) (by decide) (by decide) (Nat.le_of_ble_eq_true rfl) (Nat.le_of_ble_eq_true rfl) dL_law_48 (fun c12 => ?_)
  refine go_astore C (lo' := [(9, .ref c12), (8, .ref c11), (7, .ref c10), (6, .ref c9), (5, .ref c8), (4, .ref c7), (3, .ref c6), (2, .ref c5), (1, .ref c0), (0, .ref b)]) dL_law_50 (by decide) rfl ?_
  refine go_bipush C (v := 20) dL_law_52 (by decide) ?_
  refine go_newarray C (ty := .long) (N9 := 20) (t0 := 1) (cA := cJ) (a0 := (20, .inr (.inl (fun _ => 0)))) ba_long rfl rfl (fun _ => rfl) (by decide) (by decide) (by decide) (Nat.le_of_ble_eq_true rfl) (Nat.le_of_ble_eq_true rfl) dL_law_54 (fun c13 => ?_)
  refine go_astore C (lo' := [(10, .ref c13), (9, .ref c12), (8, .ref c11), (7, .ref c10), (6, .ref c9), (5, .ref c8), (4, .ref c7), (3, .ref c6), (2, .ref c5), (1, .ref c0), (0, .ref b)]) dL_law_56 (by decide) rfl ?_
  refine go_bipush C (v := 8) dL_law_58 (by decide) ?_
  refine go_newarray C (ty := .long) (N9 := 8) (t0 := 1) (cA := cJ) (a0 := (8, .inr (.inl (fun _ => 0)))) ba_long rfl rfl (fun _ => rfl) (by decide) (by decide) (by decide) (Nat.le_of_ble_eq_true rfl) (Nat.le_of_ble_eq_true rfl) dL_law_60 (fun c14 => ?_)
  refine go_astore C (lo' := [(11, .ref c14), (10, .ref c13), (9, .ref c12), (8, .ref c11), (7, .ref c10), (6, .ref c9), (5, .ref c8), (4, .ref c7), (3, .ref c6), (2, .ref c5), (1, .ref c0), (0, .ref b)]) dL_law_62 (by decide) rfl ?_
  exact g (aL [c0, c1, c2, c3, c4, c5, c6, c7, c8, c9, c10, c11, c12, c13, c14])
def L0 : LWS := (ls_set_n (ls_set_q L00 (upd (upd (upd (ls_q L00) 0 100) 1 200) 2 300)) (upd (ls_n L00) 3 250))
theorem relL0 : RelL M0 L0 := ⟨by decide, by decide, by decide, by decide, by decide, rfl, fun j h => absurd h (Nat.not_lt_zero j), fun j _ _ => ⟨rfl, rfl, rfl⟩, fun k _ => ⟨rfl, rfl⟩⟩
theorem rl0 : Rl S0 L0 := ⟨M0, rel0, relL0⟩
set_option maxHeartbeats 4000000 in
theorem law_init {p : Program} {l : Launch} {e : Env} {s : State} {m : MethodId} {args : Array Value} {below : List Frame} {meth : Method} {c : Code} {D : va_G} {N0 : Nat} {ret : Option FieldType} {nm : String} {Q : State → Prop} {k n : Nat} {cI cJ cO : ClassId} {a : Nat → Nat} {b i : Nat} {S : CS} {M : LWS} (C : Cxt p s m args meth c D (tysW cI cJ cO) N0 cL_law 23 RL ret nm) (hlf : l.stackTraces = false) (hk : k + 300 ≤ 644676 ∧ n + 2000 ≤ 7167596) (g : ∀ S2 : CS, Rl S2 L0 → Go p l e room_1 s m args below meth c D N0 23 Q (wW cI cJ cO a S2 L0 ([])) (k + 300) (n + 2000) 112 [(13, .int (nI 0)), (12, .int 1), (11, .ref (a 14)), (10, .ref (a 13)), (9, .ref (a 12)), (8, .ref (a 11)), (7, .ref (a 10)), (6, .ref (a 9)), (5, .ref (a 8)), (4, .ref (a 7)), (3, .ref (a 6)), (2, .ref (a 5)), (1, .ref (a 0)), (0, .ref b)] []) : Go p l e room_1 s m args below meth c D N0 23 Q (wW cI cJ cO a S0 L00 ([])) (k) (n) 64 [(11, .ref (a 14)), (10, .ref (a 13)), (9, .ref (a 12)), (8, .ref (a 11)), (7, .ref (a 10)), (6, .ref (a 9)), (5, .ref (a 8)), (4, .ref (a 7)), (3, .ref (a 6)), (2, .ref (a 5)), (1, .ref (a 0)), (0, .ref b)] [] := by
  obtain ⟨hk1, hk2⟩ := hk
  refine go_aload_n C 8 dL_law_64 rfl rfl ?_
  refine go_iconst C (v := 0) dL_law_65 (by decide) ?_
  refine go_bipush C (v := 100) dL_law_66 (by decide) ?_
  refine sm_q C vin_0_3 dL_law_68 ?_
  rw [ck_0]
  refine go_aload_n C 8 dL_law_69 rfl rfl ?_
  refine go_iconst C (v := 1) dL_law_70 (by decide) ?_
  refine go_sipush C (v := 200) dL_law_71 (by decide) ?_
  refine sm_q C vin_1_3 dL_law_74 ?_
  rw [ck_1]
  refine go_aload_n C 8 dL_law_75 rfl rfl ?_
  refine go_iconst C (v := 2) dL_law_76 (by decide) ?_
  refine go_sipush C (v := 300) dL_law_77 (by decide) ?_
  refine sm_q C vin_2_3 dL_law_80 ?_
  rw [ck_2]
  refine go_aload_n C 9 dL_law_81 rfl rfl ?_
  refine go_iconst C (v := 3) dL_law_82 (by decide) ?_
  refine go_sipush C (v := 250) dL_law_83 (by decide) ?_
  refine sm_n C vin_3_4 dL_law_86 ?_
  rw [ck_3]
  refine go_w (w2 := wW cI cJ cO a S0 L0 ([])) rfl ?_
  refine go_aload_n C 10 dL_law_87 rfl rfl ?_
  refine go_aload_n C 9 dL_law_88 rfl rfl ?_
  refine go_aload_n C 8 dL_law_89 rfl rfl ?_
  refine go_aload C 7 dL_law_90 rfl ?_
  refine go_aload C 6 dL_law_92 rfl ?_
  refine go_aload C 5 dL_law_94 rfl ?_
  refine go_aload C 4 dL_law_96 rfl ?_
  refine go_aload C 2 dL_law_98 rfl ?_
  refine go_aload C 1 dL_law_100 rfl ?_
  refine go_aload C 0 dL_law_102 rfl ?_
  refine k_RL_110 C hlf S0 L0 ([]) rl0 ⟨(Nat.le_of_ble_eq_true rfl), (Nat.le_of_ble_eq_true rfl)⟩ ⟨(show _ ≤ 644676 by omega), (show _ ≤ 7167596 by omega)⟩ (Nat.le_of_ble_eq_true rfl) dL_law_104 (fun E hE => hE.elim) (fun S2 hS2 => ?_)
  refine go_istore C (lo' := [(12, .int 1), (11, .ref (a 14)), (10, .ref (a 13)), (9, .ref (a 12)), (8, .ref (a 11)), (7, .ref (a 10)), (6, .ref (a 9)), (5, .ref (a 8)), (4, .ref (a 7)), (3, .ref (a 6)), (2, .ref (a 5)), (1, .ref (a 0)), (0, .ref b)]) dL_law_107 (by decide) rfl ?_
  refine go_iconst C (v := 0) dL_law_109 (by decide) ?_
  refine go_istore C (lo' := [(13, .int 0), (12, .int 1), (11, .ref (a 14)), (10, .ref (a 13)), (9, .ref (a 12)), (8, .ref (a 11)), (7, .ref (a 10)), (6, .ref (a 9)), (5, .ref (a 8)), (4, .ref (a 7)), (3, .ref (a 6)), (2, .ref (a 5)), (1, .ref (a 0)), (0, .ref b)]) dL_law_110 (by decide) rfl ?_
  exact g S2 hS2
set_option maxHeartbeats 4000000 in
theorem law_tail {p : Program} {l : Launch} {e : Env} {s : State} {m : MethodId} {args : Array Value} {below : List Frame} {meth : Method} {c : Code} {D : va_G} {N0 : Nat} {ret : Option FieldType} {nm : String} {Q : State → Prop} {k n : Nat} {cI cJ cO : ClassId} {a : Nat → Nat} {b i : Nat} {S : CS} {M : LWS} (C : Cxt p s m args meth c D (tysW cI cJ cO) N0 cL_law 23 RL ret nm) (hlf : l.stackTraces = false) (hk : k + 300 ≤ 644676 ∧ n + 2000 ≤ 7167596) (w : Rl S M) (hi : i < 100) (g : ∀ S2 : CS, Rl S2 M → Go p l e room_1 s m args below meth c D N0 23 Q (wW cI cJ cO a S2 M ([])) (k + 300) (n + 2000) 112 [(13, .int (nI (i + 1))), (12, .int 1), (11, .ref (a 14)), (10, .ref (a 13)), (9, .ref (a 12)), (8, .ref (a 11)), (7, .ref (a 10)), (6, .ref (a 9)), (5, .ref (a 8)), (4, .ref (a 7)), (3, .ref (a 6)), (2, .ref (a 5)), (1, .ref (a 0)), (0, .ref b)] []) : Go p l e room_1 s m args below meth c D N0 23 Q (wW cI cJ cO a S M ([])) (k) (n) 1990 [(13, .int (nI i)), (12, .int 1), (11, .ref (a 14)), (10, .ref (a 13)), (9, .ref (a 12)), (8, .ref (a 11)), (7, .ref (a 10)), (6, .ref (a 9)), (5, .ref (a 8)), (4, .ref (a 7)), (3, .ref (a 6)), (2, .ref (a 5)), (1, .ref (a 0)), (0, .ref b)] [] := by
  obtain ⟨hk1, hk2⟩ := hk
  refine go_iload C 1 dL_law_1990 rfl ?_
  refine go_if_eq C (tgt := 2030) dL_law_1992 (by decide) (fun c_1 => absurd c_1 (by decide)) (fun c_1 => ?_)
  refine go_iload C 0 dL_law_1995 rfl ?_
  refine go_iconst C (v := 3) dL_law_1997 (by decide) ?_
  refine go_irem C dL_law_1998 (by decide) ?_
  refine go_st (st2 := [.int (nI (i % 3))]) (by rw [q_rem (D := 3) 3 (by omega) (by omega) (by omega) rfl]) ?_
  refine go_iconst C (v := 2) dL_law_1999 (by decide) ?_
  refine go_icmp_lt C (tgt := 2026) dL_law_2000 (by decide) (fun c_2 => ?_) (fun c_2 => ?_)
  · refine go_iconst C (v := 1) dL_law_2026 (by decide) ?_
    refine go_goto C (tgt := 2031) dL_law_2027 (by decide) ?_
    refine go_istore C (lo' := [(12, .int 1), (13, .int (nI i)), (11, .ref (a 14)), (10, .ref (a 13)), (9, .ref (a 12)), (8, .ref (a 11)), (7, .ref (a 10)), (6, .ref (a 9)), (5, .ref (a 8)), (4, .ref (a 7)), (3, .ref (a 6)), (2, .ref (a 5)), (1, .ref (a 0)), (0, .ref b)]) dL_law_2031 (by decide) rfl ?_
    refine go_iinc C (v := nI (i + 1)) (lo' := [(13, .int (nI (i + 1))), (12, .int 1), (11, .ref (a 14)), (10, .ref (a 13)), (9, .ref (a 12)), (8, .ref (a 11)), (7, .ref (a 10)), (6, .ref (a 9)), (5, .ref (a 8)), (4, .ref (a 7)), (3, .ref (a 6)), (2, .ref (a 5)), (1, .ref (a 0)), (0, .ref b)]) 1 dL_law_2033 rfl (nI_1 _) (by decide) rfl ?_
    refine go_goto C (tgt := 112) dL_law_2036 (by decide) ?_
    refine go_widen (k2 := k + 300) (n2 := n + 2000) (by omega) (by omega) ?_
    exact g S w
  · refine go_aload_n C 12 dL_law_2003 rfl rfl ?_
    refine go_aload_n C 11 dL_law_2004 rfl rfl ?_
    refine go_aload_n C 10 dL_law_2005 rfl rfl ?_
    refine go_aload C 9 dL_law_2006 rfl ?_
    refine go_aload C 8 dL_law_2008 rfl ?_
    refine go_aload C 7 dL_law_2010 rfl ?_
    refine go_aload C 6 dL_law_2012 rfl ?_
    refine go_aload C 4 dL_law_2014 rfl ?_
    refine go_aload C 3 dL_law_2016 rfl ?_
    refine go_aload C 2 dL_law_2018 rfl ?_
    refine k_RL_110 C hlf S M ([]) w ⟨(Nat.le_of_ble_eq_true rfl), (Nat.le_of_ble_eq_true rfl)⟩ ⟨(show _ ≤ 644676 by omega), (show _ ≤ 7167596 by omega)⟩ (Nat.le_of_ble_eq_true rfl) dL_law_2020 (fun E hE => hE.elim) (fun S2 hS2 => ?_)
    refine go_if_eq C (tgt := 2030) dL_law_2023 (by decide) (fun c_3 => absurd c_3 (by decide)) (fun c_3 => ?_)
    refine go_iconst C (v := 1) dL_law_2026 (by decide) ?_
    refine go_goto C (tgt := 2031) dL_law_2027 (by decide) ?_
    refine go_istore C (lo' := [(12, .int 1), (13, .int (nI i)), (11, .ref (a 14)), (10, .ref (a 13)), (9, .ref (a 12)), (8, .ref (a 11)), (7, .ref (a 10)), (6, .ref (a 9)), (5, .ref (a 8)), (4, .ref (a 7)), (3, .ref (a 6)), (2, .ref (a 5)), (1, .ref (a 0)), (0, .ref b)]) dL_law_2031 (by decide) rfl ?_
    refine go_iinc C (v := nI (i + 1)) (lo' := [(13, .int (nI (i + 1))), (12, .int 1), (11, .ref (a 14)), (10, .ref (a 13)), (9, .ref (a 12)), (8, .ref (a 11)), (7, .ref (a 10)), (6, .ref (a 9)), (5, .ref (a 8)), (4, .ref (a 7)), (3, .ref (a 6)), (2, .ref (a 5)), (1, .ref (a 0)), (0, .ref b)]) 1 dL_law_2033 rfl (nI_1 _) (by decide) rfl ?_
    refine go_goto C (tgt := 112) dL_law_2036 (by decide) ?_
    exact g S2 hS2
set_option maxHeartbeats 4000000 in
theorem law_end {p : Program} {l : Launch} {e : Env} {s : State} {m : MethodId} {args : Array Value} {below : List Frame} {meth : Method} {c : Code} {D : va_G} {N0 : Nat} {ret : Option FieldType} {nm : String} {Q : State → Prop} {k n : Nat} {cI cJ cO : ClassId} {a : Nat → Nat} {b i : Nat} {S : CS} {M : LWS} (C : Cxt p s m args meth c D (tysW cI cJ cO) N0 cL_law 23 RL ret nm) (hlf : l.stackTraces = false) (hk : k + 300 ≤ 644676 ∧ n + 2000 ≤ 7167596) (w : Rl S M) (g : ∀ (S2 : CS) (k2 n2 : Nat), k2 ≤ 644676 → n2 ≤ 7167596 → Go p l e room_1 s m args below meth c D N0 23 Q (wW cI cJ cO a S2 M ([])) (k2) (n2) 2072 [(13, .int (nI i)), (12, .int 1), (11, .ref (a 14)), (10, .ref (a 13)), (9, .ref (a 12)), (8, .ref (a 11)), (7, .ref (a 10)), (6, .ref (a 9)), (5, .ref (a 8)), (4, .ref (a 7)), (3, .ref (a 6)), (2, .ref (a 5)), (1, .ref (a 0)), (0, .ref b)] [.int 1]) : Go p l e room_1 s m args below meth c D N0 23 Q (wW cI cJ cO a S M ([])) (k) (n) 2039 [(13, .int (nI i)), (12, .int 1), (11, .ref (a 14)), (10, .ref (a 13)), (9, .ref (a 12)), (8, .ref (a 11)), (7, .ref (a 10)), (6, .ref (a 9)), (5, .ref (a 8)), (4, .ref (a 7)), (3, .ref (a 6)), (2, .ref (a 5)), (1, .ref (a 0)), (0, .ref b)] [] := by
  obtain ⟨hk1, hk2⟩ := hk
  refine go_iload C 1 dL_law_2039 rfl ?_
  refine go_if_eq C (tgt := 2071) dL_law_2041 (by decide) (fun c_1 => absurd c_1 (by decide)) (fun c_1 => ?_)
  refine go_aload_n C 12 dL_law_2044 rfl rfl ?_
  refine go_aload_n C 11 dL_law_2045 rfl rfl ?_
  refine go_aload_n C 10 dL_law_2046 rfl rfl ?_
  refine go_aload C 9 dL_law_2047 rfl ?_
  refine go_aload C 8 dL_law_2049 rfl ?_
  refine go_aload C 7 dL_law_2051 rfl ?_
  refine go_aload C 6 dL_law_2053 rfl ?_
  refine go_aload C 4 dL_law_2055 rfl ?_
  refine go_aload C 3 dL_law_2057 rfl ?_
  refine go_aload C 2 dL_law_2059 rfl ?_
  refine k_RL_110 C hlf S M ([]) w ⟨(Nat.le_of_ble_eq_true rfl), (Nat.le_of_ble_eq_true rfl)⟩ ⟨(show _ ≤ 644676 by omega), (show _ ≤ 7167596 by omega)⟩ (Nat.le_of_ble_eq_true rfl) dL_law_2061 (fun E hE => hE.elim) (fun S2 hS2 => ?_)
  refine go_if_eq C (tgt := 2071) dL_law_2064 (by decide) (fun c_2 => absurd c_2 (by decide)) (fun c_2 => ?_)
  refine go_iconst C (v := 1) dL_law_2067 (by decide) ?_
  refine go_goto C (tgt := 2072) dL_law_2068 (by decide) ?_
  exact g S2 _ _ (show _ ≤ 644676 by omega) (show _ ≤ 7167596 by omega)
