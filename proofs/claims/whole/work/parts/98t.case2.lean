set_option maxHeartbeats 4000000 in
theorem law_pass {p : Program} {l : Launch} {e : Env} {s : State} {m : MethodId} {args : Array Value} {below : List Frame} {meth : Method} {c : Code} {D : va_G} {N0 : Nat} {nm : String} {ret : Option FieldType} {Q : State → Prop} {k n : Nat} {cI cJ cZ cO : ClassId} {a : Nat → Nat} {b L i : Nat} {xs : Nat → Int32} {z1 z2 z3 z4 : Int32} {S : CS} {M : MS} {ov : Nat → Int64} (C : Cxt p s m args meth c D (tysW cI cJ cZ cO) N0 code 8 RL ret nm) (hlf : l.stackTraces = false) (X : Scr s N0 b L xs) (hv1 : vp_in (nI i + 1) L) (hv2 : vp_in (nI i + 2) L) (hv3 : vp_in (nI i + 3) L) (hv4 : vp_in (nI i + 4) L) (hz1 : xs (Int32.toNatClampNeg (nI i + 1)) = z1) (hz2 : xs (Int32.toNatClampNeg (nI i + 2)) = z2) (hz3 : xs (Int32.toNatClampNeg (nI i + 3)) = z3) (hz4 : xs (Int32.toNatClampNeg (nI i + 4)) = z4) (hk : k + 1000 ≤ 601024 ∧ n + 10000 ≤ 7293034) (h : Rel S M) (g : ∀ S2 M2 ov2, Rel S2 M2 → Go p l e room_1 s m args below meth c D N0 8 Q (wW cI cJ cZ cO a S2 M2 ov2) (k + 1000) (n + 10000) 1494 [(4, .int (nI i)), (3, .ref (a 24)), (2, .ref (a 5)), (1, .ref (a 0)), (0, .ref b)] []) : Go p l e room_1 s m args below meth c D N0 8 Q (wW cI cJ cZ cO a S M ov) k n 913 [(4, .int (nI i)), (3, .ref (a 24)), (2, .ref (a 5)), (1, .ref (a 0)), (0, .ref b)] [] := by
  obtain ⟨hk1, hk2⟩ := hk
  refine go_aload_n C 3 dL_law_913 rfl rfl ?_
  refine go_aload_n C 4 dL_law_914 rfl rfl ?_
  refine go_iload C 0 dL_law_915 rfl ?_
  refine go_iconst C (v := 1) dL_law_917 (by decide) ?_
  refine go_iadd C dL_law_918 ?_
  refine go_sldz C X hv1 hz1 dL_law_919 ?_
  refine go_aload_n C 1 dL_law_920 rfl rfl ?_
  refine k_RL_133 C hlf S M ov z1 h.1 ⟨(Nat.le_of_ble_eq_true rfl), (Nat.le_of_ble_eq_true rfl)⟩ ⟨(show _ ≤ 601024 by omega), (show _ ≤ 7293034 by omega)⟩ (Nat.le_of_ble_eq_true rfl) dL_law_921 (fun c9 => ?_) (fun c9 => ?_)
  · rcases sim_pass h z1 with ⟨e1, e2, e3, e4⟩ | ⟨e1, e2, e3⟩
    · refine go_istore C (lo' := [(5, .int (0)), (4, .int (nI i)), (3, .ref (a 24)), (2, .ref (a 5)), (1, .ref (a 0)), (0, .ref b)]) dL_law_924 (by decide) rfl ?_
      refine go_aload_n C 3 dL_law_926 rfl rfl ?_
      refine go_aload_n C 5 dL_law_927 rfl rfl ?_
      refine go_iload C 1 dL_law_928 rfl ?_
      refine go_iconst C (v := 1) dL_law_930 (by decide) ?_
      refine go_iadd C dL_law_931 ?_
      refine go_sldz C X hv1 hz1 dL_law_932 ?_
      refine k_RL_135 C _ M _ z1 h.2.1 ⟨(Nat.le_of_ble_eq_true rfl), (Nat.le_of_ble_eq_true rfl)⟩ ⟨(show _ ≤ 601024 by omega), (show _ ≤ 7293034 by omega)⟩ (Nat.le_of_ble_eq_true rfl) dL_law_933 (fun c8 => ?_) (fun c8 => absurd e2 c8)
      refine go_istore C (lo' := [(6, .int _), (5, .int (0)), (4, .int (nI i)), (3, .ref (a 24)), (2, .ref (a 5)), (1, .ref (a 0)), (0, .ref b)]) dL_law_936 (by decide) rfl ?_
      refine go_aload_n C 4 dL_law_938 rfl rfl ?_
      refine k_RL_92 C _ _ _ ⟨(Nat.le_of_ble_eq_true rfl), (Nat.le_of_ble_eq_true rfl)⟩ ⟨(show _ ≤ 601024 by omega), (show _ ≤ 7293034 by omega)⟩ (Nat.le_of_ble_eq_true rfl) dL_law_939 ?_
      refine go_iload C 1 dL_law_942 rfl ?_
      refine go_icmp_eq C (tgt := 949) dL_law_944 (by decide) (fun _ => ?_) (fun z => absurd (thr_ps _ _) z)
      refine go_iload C 1 dL_law_949 rfl ?_
      refine go_if_ne C (tgt := 966) dL_law_951 (by decide) (fun z => absurd rfl z) (fun _ => ?_)
      refine go_aload_n C 3 dL_law_954 rfl rfl ?_
      refine go_iconst C (v := 0) dL_law_955 (by decide) ?_
      refine l_out C vin_0_1 dL_law_956 ?_
      refine go_iload C 0 dL_law_957 rfl ?_
      refine go_i2l C dL_law_959 ?_
      refine go_lcmp C dL_law_960 ?_
      refine go_if_eq C (tgt := 966) dL_law_961 (by decide) (fun _ => ?_) (fun z => absurd ((lg_cmp_eq _ _).mpr ((updL_self ov 0 _).trans e3)) z)
      refine go_goto C (tgt := 1494) dL_law_966 (by decide) ?_
      refine go_lo [2, 3, 4, 5, 6] rfl ?_
      refine go_widen (k2 := k + 1000) (n2 := n + 10000) (by omega) (by omega) ?_
      exact g _ _ _ (e4)
    · exact absurd c9 e1
  · rcases sim_pass h z1 with ⟨e1, e2, e3, e4⟩ | ⟨e1, e2, e3⟩
    · exact absurd e1 c9
    · refine go_istore C (lo' := [(5, .int (_)), (4, .int (nI i)), (3, .ref (a 24)), (2, .ref (a 5)), (1, .ref (a 0)), (0, .ref b)]) dL_law_924 (by decide) rfl ?_
      refine go_aload_n C 3 dL_law_926 rfl rfl ?_
      refine go_aload_n C 5 dL_law_927 rfl rfl ?_
      refine go_iload C 1 dL_law_928 rfl ?_
      refine go_iconst C (v := 1) dL_law_930 (by decide) ?_
      refine go_iadd C dL_law_931 ?_
      refine go_sldz C X hv1 hz1 dL_law_932 ?_
      refine k_RL_135 C _ M _ z1 h.2.1 ⟨(Nat.le_of_ble_eq_true rfl), (Nat.le_of_ble_eq_true rfl)⟩ ⟨(show _ ≤ 601024 by omega), (show _ ≤ 7293034 by omega)⟩ (Nat.le_of_ble_eq_true rfl) dL_law_933 (fun c8 => absurd c8 e2) (fun c8 => ?_)
      refine go_istore C (lo' := [(6, .int _), (5, .int (_)), (4, .int (nI i)), (3, .ref (a 24)), (2, .ref (a 5)), (1, .ref (a 0)), (0, .ref b)]) dL_law_936 (by decide) rfl ?_
      refine go_aload_n C 4 dL_law_938 rfl rfl ?_
      refine k_RL_92 C _ _ _ ⟨(Nat.le_of_ble_eq_true rfl), (Nat.le_of_ble_eq_true rfl)⟩ ⟨(show _ ≤ 601024 by omega), (show _ ≤ 7293034 by omega)⟩ (Nat.le_of_ble_eq_true rfl) dL_law_939 ?_
      refine go_iload C 1 dL_law_942 rfl ?_
      refine go_icmp_eq C (tgt := 949) dL_law_944 (by decide) (fun _ => ?_) (fun z => absurd e3.symm z)
      refine go_iload C 1 dL_law_949 rfl ?_
      refine go_if_ne C (tgt := 966) dL_law_951 (by decide) (fun _ => ?_) (fun z => absurd (e3.symm.trans z) e2)
      refine go_goto C (tgt := 1494) dL_law_966 (by decide) ?_
      refine go_lo [2, 3, 4, 5, 6] rfl ?_
      refine go_widen (k2 := k + 1000) (n2 := n + 10000) (by omega) (by omega) ?_
      exact g _ _ _ (h.thr _)
set_option maxHeartbeats 4000000 in
theorem law_today {p : Program} {l : Launch} {e : Env} {s : State} {m : MethodId} {args : Array Value} {below : List Frame} {meth : Method} {c : Code} {D : va_G} {N0 : Nat} {nm : String} {ret : Option FieldType} {Q : State → Prop} {k n : Nat} {cI cJ cZ cO : ClassId} {a : Nat → Nat} {b L i : Nat} {xs : Nat → Int32} {z1 z2 z3 z4 : Int32} {S : CS} {M : MS} {ov : Nat → Int64} (C : Cxt p s m args meth c D (tysW cI cJ cZ cO) N0 code 8 RL ret nm) (hlf : l.stackTraces = false) (X : Scr s N0 b L xs) (hv1 : vp_in (nI i + 1) L) (hv2 : vp_in (nI i + 2) L) (hv3 : vp_in (nI i + 3) L) (hv4 : vp_in (nI i + 4) L) (hz1 : xs (Int32.toNatClampNeg (nI i + 1)) = z1) (hz2 : xs (Int32.toNatClampNeg (nI i + 2)) = z2) (hz3 : xs (Int32.toNatClampNeg (nI i + 3)) = z3) (hz4 : xs (Int32.toNatClampNeg (nI i + 4)) = z4) (hk : k + 1000 ≤ 601024 ∧ n + 10000 ≤ 7293034) (h : Rel S M) (g : ∀ S2 M2 ov2, Rel S2 M2 → Go p l e room_1 s m args below meth c D N0 8 Q (wW cI cJ cZ cO a S2 M2 ov2) (k + 1000) (n + 10000) 1494 [(4, .int (nI i)), (3, .ref (a 24)), (2, .ref (a 5)), (1, .ref (a 0)), (0, .ref b)] []) : Go p l e room_1 s m args below meth c D N0 8 Q (wW cI cJ cZ cO a S M ov) k n 969 [(4, .int (nI i)), (3, .ref (a 24)), (2, .ref (a 5)), (1, .ref (a 0)), (0, .ref b)] [] := by
  obtain ⟨hk1, hk2⟩ := hk
  refine go_aload_n C 3 dL_law_969 rfl rfl ?_
  refine k_RL_136 C S M ov  ⟨(Nat.le_of_ble_eq_true rfl), (Nat.le_of_ble_eq_true rfl)⟩ ⟨(show _ ≤ 601024 by omega), (show _ ≤ 7293034 by omega)⟩ (Nat.le_of_ble_eq_true rfl) dL_law_970 ?_
  refine go_aload_n C 2 dL_law_973 rfl rfl ?_
  refine k_RL_139 C _ M _  ⟨(Nat.le_of_ble_eq_true rfl), (Nat.le_of_ble_eq_true rfl)⟩ ⟨(show _ ≤ 601024 by omega), (show _ ≤ 7293034 by omega)⟩ (Nat.le_of_ble_eq_true rfl) dL_law_974 ?_
  refine go_icmp_eq C (tgt := 1494) dL_law_977 (by decide) (fun _ => ?_) (fun z => absurd h.2.2.2.2.2.2.2.2.1 z)
  refine go_widen (k2 := k + 1000) (n2 := n + 10000) (by omega) (by omega) ?_
  exact g _ _ _ (h.thr 0)
set_option maxHeartbeats 4000000 in
theorem law_lots {p : Program} {l : Launch} {e : Env} {s : State} {m : MethodId} {args : Array Value} {below : List Frame} {meth : Method} {c : Code} {D : va_G} {N0 : Nat} {nm : String} {ret : Option FieldType} {Q : State → Prop} {k n : Nat} {cI cJ cZ cO : ClassId} {a : Nat → Nat} {b L i : Nat} {xs : Nat → Int32} {z1 z2 z3 z4 : Int32} {S : CS} {M : MS} {ov : Nat → Int64} (C : Cxt p s m args meth c D (tysW cI cJ cZ cO) N0 code 8 RL ret nm) (hlf : l.stackTraces = false) (X : Scr s N0 b L xs) (hv1 : vp_in (nI i + 1) L) (hv2 : vp_in (nI i + 2) L) (hv3 : vp_in (nI i + 3) L) (hv4 : vp_in (nI i + 4) L) (hz1 : xs (Int32.toNatClampNeg (nI i + 1)) = z1) (hz2 : xs (Int32.toNatClampNeg (nI i + 2)) = z2) (hz3 : xs (Int32.toNatClampNeg (nI i + 3)) = z3) (hz4 : xs (Int32.toNatClampNeg (nI i + 4)) = z4) (hk : k + 1000 ≤ 601024 ∧ n + 10000 ≤ 7293034) (h : Rel S M) (g : ∀ S2 M2 ov2, Rel S2 M2 → Go p l e room_1 s m args below meth c D N0 8 Q (wW cI cJ cZ cO a S2 M2 ov2) (k + 1000) (n + 10000) 1494 [(4, .int (nI i)), (3, .ref (a 24)), (2, .ref (a 5)), (1, .ref (a 0)), (0, .ref b)] []) : Go p l e room_1 s m args below meth c D N0 8 Q (wW cI cJ cZ cO a S M ov) k n 982 [(4, .int (nI i)), (3, .ref (a 24)), (2, .ref (a 5)), (1, .ref (a 0)), (0, .ref b)] [] := by
  obtain ⟨hk1, hk2⟩ := hk
  refine go_aload_n C 3 dL_law_982 rfl rfl ?_
  refine k_RL_140 C S M ov h.1 ⟨(Nat.le_of_ble_eq_true rfl), (Nat.le_of_ble_eq_true rfl)⟩ ⟨(show _ ≤ 601024 by omega), (show _ ≤ 7293034 by omega)⟩ (Nat.le_of_ble_eq_true rfl) dL_law_983 ?_
  refine go_aload_n C 2 dL_law_986 rfl rfl ?_
  refine k_RL_143 C _ M _ h.2.1.1 ⟨(Nat.le_of_ble_eq_true rfl), (Nat.le_of_ble_eq_true rfl)⟩ ⟨(show _ ≤ 601024 by omega), (show _ ≤ 7293034 by omega)⟩ (Nat.le_of_ble_eq_true rfl) dL_law_987 ?_
  refine go_icmp_eq C (tgt := 1494) dL_law_990 (by decide) (fun _ => ?_) (fun z => absurd ((lots_eq h _ (Nat.le_refl _)).trans (by rw [h.n])) z)
  refine go_widen (k2 := k + 1000) (n2 := n + 10000) (by omega) (by omega) ?_
  exact g _ _ _ (h.thr 0)
set_option maxHeartbeats 4000000 in
theorem law_principal {p : Program} {l : Launch} {e : Env} {s : State} {m : MethodId} {args : Array Value} {below : List Frame} {meth : Method} {c : Code} {D : va_G} {N0 : Nat} {nm : String} {ret : Option FieldType} {Q : State → Prop} {k n : Nat} {cI cJ cZ cO : ClassId} {a : Nat → Nat} {b L i : Nat} {xs : Nat → Int32} {z1 z2 z3 z4 : Int32} {S : CS} {M : MS} {ov : Nat → Int64} (C : Cxt p s m args meth c D (tysW cI cJ cZ cO) N0 code 8 RL ret nm) (hlf : l.stackTraces = false) (X : Scr s N0 b L xs) (hv1 : vp_in (nI i + 1) L) (hv2 : vp_in (nI i + 2) L) (hv3 : vp_in (nI i + 3) L) (hv4 : vp_in (nI i + 4) L) (hz1 : xs (Int32.toNatClampNeg (nI i + 1)) = z1) (hz2 : xs (Int32.toNatClampNeg (nI i + 2)) = z2) (hz3 : xs (Int32.toNatClampNeg (nI i + 3)) = z3) (hz4 : xs (Int32.toNatClampNeg (nI i + 4)) = z4) (hk : k + 1000 ≤ 601024 ∧ n + 10000 ≤ 7293034) (h : Rel S M) (g : ∀ S2 M2 ov2, Rel S2 M2 → Go p l e room_1 s m args below meth c D N0 8 Q (wW cI cJ cZ cO a S2 M2 ov2) (k + 1000) (n + 10000) 1494 [(4, .int (nI i)), (3, .ref (a 24)), (2, .ref (a 5)), (1, .ref (a 0)), (0, .ref b)] []) : Go p l e room_1 s m args below meth c D N0 8 Q (wW cI cJ cZ cO a S M ov) k n 995 [(4, .int (nI i)), (3, .ref (a 24)), (2, .ref (a 5)), (1, .ref (a 0)), (0, .ref b)] [] := by
  obtain ⟨hk1, hk2⟩ := hk
  refine go_aload_n C 3 dL_law_995 rfl rfl ?_
  refine go_aload_n C 4 dL_law_996 rfl rfl ?_
  refine go_iload C 0 dL_law_997 rfl ?_
  refine go_iconst C (v := 1) dL_law_999 (by decide) ?_
  refine go_iadd C dL_law_1000 ?_
  refine go_sldz C X hv1 hz1 dL_law_1001 ?_
  refine go_aload_n C 1 dL_law_1002 rfl rfl ?_
  refine k_RL_144 C hlf S M ov z1 h.1 ⟨(Nat.le_of_ble_eq_true rfl), (Nat.le_of_ble_eq_true rfl)⟩ ⟨(show _ ≤ 601024 by omega), (show _ ≤ 7293034 by omega)⟩ (Nat.le_of_ble_eq_true rfl) dL_law_1003 (fun c9 => ?_) (fun c9 => ?_)
  · rcases sim_principal h z1 with ⟨e1, e2, e3, e4⟩ | ⟨e1, e2, e3⟩
    · refine go_istore C (lo' := [(5, .int (0)), (4, .int (nI i)), (3, .ref (a 24)), (2, .ref (a 5)), (1, .ref (a 0)), (0, .ref b)]) dL_law_1006 (by decide) rfl ?_
      refine go_aload_n C 3 dL_law_1008 rfl rfl ?_
      refine go_aload_n C 5 dL_law_1009 rfl rfl ?_
      refine go_iload C 1 dL_law_1010 rfl ?_
      refine go_iconst C (v := 1) dL_law_1012 (by decide) ?_
      refine go_iadd C dL_law_1013 ?_
      refine go_sldz C X hv1 hz1 dL_law_1014 ?_
      refine k_RL_146 C _ M _ z1 h.2.1 ⟨(Nat.le_of_ble_eq_true rfl), (Nat.le_of_ble_eq_true rfl)⟩ ⟨(show _ ≤ 601024 by omega), (show _ ≤ 7293034 by omega)⟩ (Nat.le_of_ble_eq_true rfl) dL_law_1015 (fun c8 => ?_) (fun c8 => absurd e2 c8)
      refine go_istore C (lo' := [(6, .int _), (5, .int (0)), (4, .int (nI i)), (3, .ref (a 24)), (2, .ref (a 5)), (1, .ref (a 0)), (0, .ref b)]) dL_law_1018 (by decide) rfl ?_
      refine go_aload_n C 4 dL_law_1020 rfl rfl ?_
      refine k_RL_92 C _ _ _ ⟨(Nat.le_of_ble_eq_true rfl), (Nat.le_of_ble_eq_true rfl)⟩ ⟨(show _ ≤ 601024 by omega), (show _ ≤ 7293034 by omega)⟩ (Nat.le_of_ble_eq_true rfl) dL_law_1021 ?_
      refine go_iload C 1 dL_law_1024 rfl ?_
      refine go_icmp_eq C (tgt := 1031) dL_law_1026 (by decide) (fun _ => ?_) (fun z => absurd rfl z)
      refine go_iload C 1 dL_law_1031 rfl ?_
      refine go_if_ne C (tgt := 1048) dL_law_1033 (by decide) (fun z => absurd rfl z) (fun _ => ?_)
      refine go_aload_n C 3 dL_law_1036 rfl rfl ?_
      refine go_iconst C (v := 0) dL_law_1037 (by decide) ?_
      refine l_out C vin_0_1 dL_law_1038 ?_
      refine go_iload C 0 dL_law_1039 rfl ?_
      refine go_i2l C dL_law_1041 ?_
      refine go_lcmp C dL_law_1042 ?_
      refine go_if_eq C (tgt := 1048) dL_law_1043 (by decide) (fun _ => ?_) (fun z => absurd ((lg_cmp_eq _ _).mpr ((updL_self ov 0 _).trans e3)) z)
      refine go_goto C (tgt := 1494) dL_law_1048 (by decide) ?_
      refine go_lo [2, 3, 4, 5, 6] rfl ?_
      refine go_widen (k2 := k + 1000) (n2 := n + 10000) (by omega) (by omega) ?_
      exact g _ _ _ (e4)
    · exact absurd c9 e1
  · rcases sim_principal h z1 with ⟨e1, e2, e3, e4⟩ | ⟨e1, e2, e3⟩
    · exact absurd e1 c9
    · refine go_istore C (lo' := [(5, .int (_)), (4, .int (nI i)), (3, .ref (a 24)), (2, .ref (a 5)), (1, .ref (a 0)), (0, .ref b)]) dL_law_1006 (by decide) rfl ?_
      refine go_aload_n C 3 dL_law_1008 rfl rfl ?_
      refine go_aload_n C 5 dL_law_1009 rfl rfl ?_
      refine go_iload C 1 dL_law_1010 rfl ?_
      refine go_iconst C (v := 1) dL_law_1012 (by decide) ?_
      refine go_iadd C dL_law_1013 ?_
      refine go_sldz C X hv1 hz1 dL_law_1014 ?_
      refine k_RL_146 C _ M _ z1 h.2.1 ⟨(Nat.le_of_ble_eq_true rfl), (Nat.le_of_ble_eq_true rfl)⟩ ⟨(show _ ≤ 601024 by omega), (show _ ≤ 7293034 by omega)⟩ (Nat.le_of_ble_eq_true rfl) dL_law_1015 (fun c8 => absurd c8 e2) (fun c8 => ?_)
      refine go_istore C (lo' := [(6, .int _), (5, .int (_)), (4, .int (nI i)), (3, .ref (a 24)), (2, .ref (a 5)), (1, .ref (a 0)), (0, .ref b)]) dL_law_1018 (by decide) rfl ?_
      refine go_aload_n C 4 dL_law_1020 rfl rfl ?_
      refine k_RL_92 C _ _ _ ⟨(Nat.le_of_ble_eq_true rfl), (Nat.le_of_ble_eq_true rfl)⟩ ⟨(show _ ≤ 601024 by omega), (show _ ≤ 7293034 by omega)⟩ (Nat.le_of_ble_eq_true rfl) dL_law_1021 ?_
      refine go_iload C 1 dL_law_1024 rfl ?_
      refine go_icmp_eq C (tgt := 1031) dL_law_1026 (by decide) (fun _ => ?_) (fun z => absurd e3.symm z)
      refine go_iload C 1 dL_law_1031 rfl ?_
      refine go_if_ne C (tgt := 1048) dL_law_1033 (by decide) (fun _ => ?_) (fun z => absurd (e3.symm.trans z) e2)
      refine go_goto C (tgt := 1494) dL_law_1048 (by decide) ?_
      refine go_lo [2, 3, 4, 5, 6] rfl ?_
      refine go_widen (k2 := k + 1000) (n2 := n + 10000) (by omega) (by omega) ?_
      exact g _ _ _ (h.thr _)
set_option maxHeartbeats 4000000 in
theorem law_earned {p : Program} {l : Launch} {e : Env} {s : State} {m : MethodId} {args : Array Value} {below : List Frame} {meth : Method} {c : Code} {D : va_G} {N0 : Nat} {nm : String} {ret : Option FieldType} {Q : State → Prop} {k n : Nat} {cI cJ cZ cO : ClassId} {a : Nat → Nat} {b L i : Nat} {xs : Nat → Int32} {z1 z2 z3 z4 : Int32} {S : CS} {M : MS} {ov : Nat → Int64} (C : Cxt p s m args meth c D (tysW cI cJ cZ cO) N0 code 8 RL ret nm) (hlf : l.stackTraces = false) (X : Scr s N0 b L xs) (hv1 : vp_in (nI i + 1) L) (hv2 : vp_in (nI i + 2) L) (hv3 : vp_in (nI i + 3) L) (hv4 : vp_in (nI i + 4) L) (hz1 : xs (Int32.toNatClampNeg (nI i + 1)) = z1) (hz2 : xs (Int32.toNatClampNeg (nI i + 2)) = z2) (hz3 : xs (Int32.toNatClampNeg (nI i + 3)) = z3) (hz4 : xs (Int32.toNatClampNeg (nI i + 4)) = z4) (hk : k + 1000 ≤ 601024 ∧ n + 10000 ≤ 7293034) (h : Rel S M) (g : ∀ S2 M2 ov2, Rel S2 M2 → Go p l e room_1 s m args below meth c D N0 8 Q (wW cI cJ cZ cO a S2 M2 ov2) (k + 1000) (n + 10000) 1494 [(4, .int (nI i)), (3, .ref (a 24)), (2, .ref (a 5)), (1, .ref (a 0)), (0, .ref b)] []) : Go p l e room_1 s m args below meth c D N0 8 Q (wW cI cJ cZ cO a S M ov) k n 1051 [(4, .int (nI i)), (3, .ref (a 24)), (2, .ref (a 5)), (1, .ref (a 0)), (0, .ref b)] [] := by
  obtain ⟨hk1, hk2⟩ := hk
  refine go_aload_n C 3 dL_law_1051 rfl rfl ?_
  refine go_aload_n C 4 dL_law_1052 rfl rfl ?_
  refine go_iload C 0 dL_law_1053 rfl ?_
  refine go_iconst C (v := 1) dL_law_1055 (by decide) ?_
  refine go_iadd C dL_law_1056 ?_
  refine go_sldz C X hv1 hz1 dL_law_1057 ?_
  refine go_aload_n C 1 dL_law_1058 rfl rfl ?_
  refine k_RL_147 C hlf S M ov z1 h.1 ⟨(Nat.le_of_ble_eq_true rfl), (Nat.le_of_ble_eq_true rfl)⟩ ⟨(show _ ≤ 601024 by omega), (show _ ≤ 7293034 by omega)⟩ (Nat.le_of_ble_eq_true rfl) dL_law_1059 (fun c9 => ?_) (fun c9 => ?_)
  · rcases sim_earned h z1 with ⟨e1, e2, e3, e4⟩ | ⟨e1, e2, e3⟩
    · refine go_istore C (lo' := [(5, .int (0)), (4, .int (nI i)), (3, .ref (a 24)), (2, .ref (a 5)), (1, .ref (a 0)), (0, .ref b)]) dL_law_1062 (by decide) rfl ?_
      refine go_aload_n C 3 dL_law_1064 rfl rfl ?_
      refine go_aload_n C 5 dL_law_1065 rfl rfl ?_
      refine go_iload C 1 dL_law_1066 rfl ?_
      refine go_iconst C (v := 1) dL_law_1068 (by decide) ?_
      refine go_iadd C dL_law_1069 ?_
      refine go_sldz C X hv1 hz1 dL_law_1070 ?_
      refine k_RL_149 C _ M _ z1 h.2.1 ⟨(Nat.le_of_ble_eq_true rfl), (Nat.le_of_ble_eq_true rfl)⟩ ⟨(show _ ≤ 601024 by omega), (show _ ≤ 7293034 by omega)⟩ (Nat.le_of_ble_eq_true rfl) dL_law_1071 (fun c8 => ?_) (fun c8 => absurd e2 c8)
      refine go_lstore C (lo' := [(6, .long _), (5, .int (0)), (4, .int (nI i)), (3, .ref (a 24)), (2, .ref (a 5)), (1, .ref (a 0)), (0, .ref b)]) dL_law_1074 (by decide) rfl ?_
      refine go_aload_n C 4 dL_law_1076 rfl rfl ?_
      refine k_RL_92 C _ _ _ ⟨(Nat.le_of_ble_eq_true rfl), (Nat.le_of_ble_eq_true rfl)⟩ ⟨(show _ ≤ 601024 by omega), (show _ ≤ 7293034 by omega)⟩ (Nat.le_of_ble_eq_true rfl) dL_law_1077 ?_
      refine go_iload C 1 dL_law_1080 rfl ?_
      refine go_icmp_eq C (tgt := 1087) dL_law_1082 (by decide) (fun _ => ?_) (fun z => absurd rfl z)
      refine go_iload C 1 dL_law_1087 rfl ?_
      refine go_if_ne C (tgt := 1103) dL_law_1089 (by decide) (fun z => absurd rfl z) (fun _ => ?_)
      refine go_aload_n C 3 dL_law_1092 rfl rfl ?_
      refine go_iconst C (v := 0) dL_law_1093 (by decide) ?_
      refine l_out C vin_0_1 dL_law_1094 ?_
      refine go_lload C 0 dL_law_1095 rfl ?_
      refine go_lcmp C dL_law_1097 ?_
      refine go_if_eq C (tgt := 1103) dL_law_1098 (by decide) (fun _ => ?_) (fun z => absurd ((lg_cmp_eq _ _).mpr ((updL_self ov 0 _).trans e3)) z)
      refine go_goto C (tgt := 1494) dL_law_1103 (by decide) ?_
      refine go_lo [2, 3, 4, 5, 6] rfl ?_
      refine go_widen (k2 := k + 1000) (n2 := n + 10000) (by omega) (by omega) ?_
      exact g _ _ _ (e4)
    · exact absurd c9 e1
  · rcases sim_earned h z1 with ⟨e1, e2, e3, e4⟩ | ⟨e1, e2, e3⟩
    · exact absurd e1 c9
    · refine go_istore C (lo' := [(5, .int (_)), (4, .int (nI i)), (3, .ref (a 24)), (2, .ref (a 5)), (1, .ref (a 0)), (0, .ref b)]) dL_law_1062 (by decide) rfl ?_
      refine go_aload_n C 3 dL_law_1064 rfl rfl ?_
      refine go_aload_n C 5 dL_law_1065 rfl rfl ?_
      refine go_iload C 1 dL_law_1066 rfl ?_
      refine go_iconst C (v := 1) dL_law_1068 (by decide) ?_
      refine go_iadd C dL_law_1069 ?_
      refine go_sldz C X hv1 hz1 dL_law_1070 ?_
      refine k_RL_149 C _ M _ z1 h.2.1 ⟨(Nat.le_of_ble_eq_true rfl), (Nat.le_of_ble_eq_true rfl)⟩ ⟨(show _ ≤ 601024 by omega), (show _ ≤ 7293034 by omega)⟩ (Nat.le_of_ble_eq_true rfl) dL_law_1071 (fun c8 => absurd c8 e2) (fun c8 => ?_)
      refine go_lstore C (lo' := [(6, .long _), (5, .int (_)), (4, .int (nI i)), (3, .ref (a 24)), (2, .ref (a 5)), (1, .ref (a 0)), (0, .ref b)]) dL_law_1074 (by decide) rfl ?_
      refine go_aload_n C 4 dL_law_1076 rfl rfl ?_
      refine k_RL_92 C _ _ _ ⟨(Nat.le_of_ble_eq_true rfl), (Nat.le_of_ble_eq_true rfl)⟩ ⟨(show _ ≤ 601024 by omega), (show _ ≤ 7293034 by omega)⟩ (Nat.le_of_ble_eq_true rfl) dL_law_1077 ?_
      refine go_iload C 1 dL_law_1080 rfl ?_
      refine go_icmp_eq C (tgt := 1087) dL_law_1082 (by decide) (fun _ => ?_) (fun z => absurd e3.symm z)
      refine go_iload C 1 dL_law_1087 rfl ?_
      refine go_if_ne C (tgt := 1103) dL_law_1089 (by decide) (fun _ => ?_) (fun z => absurd (e3.symm.trans z) e2)
      refine go_goto C (tgt := 1494) dL_law_1103 (by decide) ?_
      refine go_lo [2, 3, 4, 5, 6] rfl ?_
      refine go_widen (k2 := k + 1000) (n2 := n + 10000) (by omega) (by omega) ?_
      exact g _ _ _ (h.thr _)
set_option maxHeartbeats 4000000 in
theorem law_partsOfDay {p : Program} {l : Launch} {e : Env} {s : State} {m : MethodId} {args : Array Value} {below : List Frame} {meth : Method} {c : Code} {D : va_G} {N0 : Nat} {nm : String} {ret : Option FieldType} {Q : State → Prop} {k n : Nat} {cI cJ cZ cO : ClassId} {a : Nat → Nat} {b L i : Nat} {xs : Nat → Int32} {z1 z2 z3 z4 : Int32} {S : CS} {M : MS} {ov : Nat → Int64} (C : Cxt p s m args meth c D (tysW cI cJ cZ cO) N0 code 8 RL ret nm) (hlf : l.stackTraces = false) (X : Scr s N0 b L xs) (hv1 : vp_in (nI i + 1) L) (hv2 : vp_in (nI i + 2) L) (hv3 : vp_in (nI i + 3) L) (hv4 : vp_in (nI i + 4) L) (hz1 : xs (Int32.toNatClampNeg (nI i + 1)) = z1) (hz2 : xs (Int32.toNatClampNeg (nI i + 2)) = z2) (hz3 : xs (Int32.toNatClampNeg (nI i + 3)) = z3) (hz4 : xs (Int32.toNatClampNeg (nI i + 4)) = z4) (hk : k + 1000 ≤ 601024 ∧ n + 10000 ≤ 7293034) (h : Rel S M) (g : ∀ S2 M2 ov2, Rel S2 M2 → Go p l e room_1 s m args below meth c D N0 8 Q (wW cI cJ cZ cO a S2 M2 ov2) (k + 1000) (n + 10000) 1494 [(4, .int (nI i)), (3, .ref (a 24)), (2, .ref (a 5)), (1, .ref (a 0)), (0, .ref b)] []) : Go p l e room_1 s m args below meth c D N0 8 Q (wW cI cJ cZ cO a S M ov) k n 1106 [(4, .int (nI i)), (3, .ref (a 24)), (2, .ref (a 5)), (1, .ref (a 0)), (0, .ref b)] [] := by
  obtain ⟨hk1, hk2⟩ := hk
  refine go_aload_n C 3 dL_law_1106 rfl rfl ?_
  refine go_aload_n C 4 dL_law_1107 rfl rfl ?_
  refine go_iload C 0 dL_law_1108 rfl ?_
  refine go_iconst C (v := 1) dL_law_1110 (by decide) ?_
  refine go_iadd C dL_law_1111 ?_
  refine go_sldz C X hv1 hz1 dL_law_1112 ?_
  refine go_aload_n C 1 dL_law_1113 rfl rfl ?_
  refine k_RL_150 C hlf S M ov z1 h.1 ⟨(Nat.le_of_ble_eq_true rfl), (Nat.le_of_ble_eq_true rfl)⟩ ⟨(show _ ≤ 601024 by omega), (show _ ≤ 7293034 by omega)⟩ (Nat.le_of_ble_eq_true rfl) dL_law_1114 (fun c9 => ?_) (fun c9 => ?_)
  · rcases sim_partsOfDay h z1 with ⟨e1, e2, e3, e4⟩ | ⟨e1, e2, e3⟩
    · refine go_istore C (lo' := [(5, .int (0)), (4, .int (nI i)), (3, .ref (a 24)), (2, .ref (a 5)), (1, .ref (a 0)), (0, .ref b)]) dL_law_1117 (by decide) rfl ?_
      refine go_aload_n C 3 dL_law_1119 rfl rfl ?_
      refine go_aload_n C 5 dL_law_1120 rfl rfl ?_
      refine go_iload C 1 dL_law_1121 rfl ?_
      refine go_iconst C (v := 1) dL_law_1123 (by decide) ?_
      refine go_iadd C dL_law_1124 ?_
      refine go_sldz C X hv1 hz1 dL_law_1125 ?_
      refine k_RL_152 C _ M _ z1 h.2.1 ⟨(Nat.le_of_ble_eq_true rfl), (Nat.le_of_ble_eq_true rfl)⟩ ⟨(show _ ≤ 601024 by omega), (show _ ≤ 7293034 by omega)⟩ (Nat.le_of_ble_eq_true rfl) dL_law_1126 (fun c8 => ?_) (fun c8 => absurd e2 c8)
      refine go_lstore C (lo' := [(6, .long _), (5, .int (0)), (4, .int (nI i)), (3, .ref (a 24)), (2, .ref (a 5)), (1, .ref (a 0)), (0, .ref b)]) dL_law_1129 (by decide) rfl ?_
      refine go_aload_n C 4 dL_law_1131 rfl rfl ?_
      refine k_RL_92 C _ _ _ ⟨(Nat.le_of_ble_eq_true rfl), (Nat.le_of_ble_eq_true rfl)⟩ ⟨(show _ ≤ 601024 by omega), (show _ ≤ 7293034 by omega)⟩ (Nat.le_of_ble_eq_true rfl) dL_law_1132 ?_
      refine go_iload C 1 dL_law_1135 rfl ?_
      refine go_icmp_eq C (tgt := 1142) dL_law_1137 (by decide) (fun _ => ?_) (fun z => absurd rfl z)
      refine go_iload C 1 dL_law_1142 rfl ?_
      refine go_if_ne C (tgt := 1158) dL_law_1144 (by decide) (fun z => absurd rfl z) (fun _ => ?_)
      refine go_aload_n C 3 dL_law_1147 rfl rfl ?_
      refine go_iconst C (v := 0) dL_law_1148 (by decide) ?_
      refine l_out C vin_0_1 dL_law_1149 ?_
      refine go_lload C 0 dL_law_1150 rfl ?_
      refine go_lcmp C dL_law_1152 ?_
      refine go_if_eq C (tgt := 1158) dL_law_1153 (by decide) (fun _ => ?_) (fun z => absurd ((lg_cmp_eq _ _).mpr ((updL_self ov 0 _).trans e3)) z)
      refine go_goto C (tgt := 1494) dL_law_1158 (by decide) ?_
      refine go_lo [2, 3, 4, 5, 6] rfl ?_
      refine go_widen (k2 := k + 1000) (n2 := n + 10000) (by omega) (by omega) ?_
      exact g _ _ _ (e4)
    · exact absurd c9 e1
  · rcases sim_partsOfDay h z1 with ⟨e1, e2, e3, e4⟩ | ⟨e1, e2, e3⟩
    · exact absurd e1 c9
    · refine go_istore C (lo' := [(5, .int (_)), (4, .int (nI i)), (3, .ref (a 24)), (2, .ref (a 5)), (1, .ref (a 0)), (0, .ref b)]) dL_law_1117 (by decide) rfl ?_
      refine go_aload_n C 3 dL_law_1119 rfl rfl ?_
      refine go_aload_n C 5 dL_law_1120 rfl rfl ?_
      refine go_iload C 1 dL_law_1121 rfl ?_
      refine go_iconst C (v := 1) dL_law_1123 (by decide) ?_
      refine go_iadd C dL_law_1124 ?_
      refine go_sldz C X hv1 hz1 dL_law_1125 ?_
      refine k_RL_152 C _ M _ z1 h.2.1 ⟨(Nat.le_of_ble_eq_true rfl), (Nat.le_of_ble_eq_true rfl)⟩ ⟨(show _ ≤ 601024 by omega), (show _ ≤ 7293034 by omega)⟩ (Nat.le_of_ble_eq_true rfl) dL_law_1126 (fun c8 => absurd c8 e2) (fun c8 => ?_)
      refine go_lstore C (lo' := [(6, .long _), (5, .int (_)), (4, .int (nI i)), (3, .ref (a 24)), (2, .ref (a 5)), (1, .ref (a 0)), (0, .ref b)]) dL_law_1129 (by decide) rfl ?_
      refine go_aload_n C 4 dL_law_1131 rfl rfl ?_
      refine k_RL_92 C _ _ _ ⟨(Nat.le_of_ble_eq_true rfl), (Nat.le_of_ble_eq_true rfl)⟩ ⟨(show _ ≤ 601024 by omega), (show _ ≤ 7293034 by omega)⟩ (Nat.le_of_ble_eq_true rfl) dL_law_1132 ?_
      refine go_iload C 1 dL_law_1135 rfl ?_
      refine go_icmp_eq C (tgt := 1142) dL_law_1137 (by decide) (fun _ => ?_) (fun z => absurd e3.symm z)
      refine go_iload C 1 dL_law_1142 rfl ?_
      refine go_if_ne C (tgt := 1158) dL_law_1144 (by decide) (fun _ => ?_) (fun z => absurd (e3.symm.trans z) e2)
      refine go_goto C (tgt := 1494) dL_law_1158 (by decide) ?_
      refine go_lo [2, 3, 4, 5, 6] rfl ?_
      refine go_widen (k2 := k + 1000) (n2 := n + 10000) (by omega) (by omega) ?_
      exact g _ _ _ (h.thr _)
set_option maxHeartbeats 4000000 in
theorem law_frozen {p : Program} {l : Launch} {e : Env} {s : State} {m : MethodId} {args : Array Value} {below : List Frame} {meth : Method} {c : Code} {D : va_G} {N0 : Nat} {nm : String} {ret : Option FieldType} {Q : State → Prop} {k n : Nat} {cI cJ cZ cO : ClassId} {a : Nat → Nat} {b L i : Nat} {xs : Nat → Int32} {z1 z2 z3 z4 : Int32} {S : CS} {M : MS} {ov : Nat → Int64} (C : Cxt p s m args meth c D (tysW cI cJ cZ cO) N0 code 8 RL ret nm) (hlf : l.stackTraces = false) (X : Scr s N0 b L xs) (hv1 : vp_in (nI i + 1) L) (hv2 : vp_in (nI i + 2) L) (hv3 : vp_in (nI i + 3) L) (hv4 : vp_in (nI i + 4) L) (hz1 : xs (Int32.toNatClampNeg (nI i + 1)) = z1) (hz2 : xs (Int32.toNatClampNeg (nI i + 2)) = z2) (hz3 : xs (Int32.toNatClampNeg (nI i + 3)) = z3) (hz4 : xs (Int32.toNatClampNeg (nI i + 4)) = z4) (hk : k + 1000 ≤ 601024 ∧ n + 10000 ≤ 7293034) (h : Rel S M) (g : ∀ S2 M2 ov2, Rel S2 M2 → Go p l e room_1 s m args below meth c D N0 8 Q (wW cI cJ cZ cO a S2 M2 ov2) (k + 1000) (n + 10000) 1494 [(4, .int (nI i)), (3, .ref (a 24)), (2, .ref (a 5)), (1, .ref (a 0)), (0, .ref b)] []) : Go p l e room_1 s m args below meth c D N0 8 Q (wW cI cJ cZ cO a S M ov) k n 1161 [(4, .int (nI i)), (3, .ref (a 24)), (2, .ref (a 5)), (1, .ref (a 0)), (0, .ref b)] [] := by
  obtain ⟨hk1, hk2⟩ := hk
  refine go_aload_n C 3 dL_law_1161 rfl rfl ?_
  refine go_aload_n C 4 dL_law_1162 rfl rfl ?_
  refine go_iload C 0 dL_law_1163 rfl ?_
  refine go_iconst C (v := 1) dL_law_1165 (by decide) ?_
  refine go_iadd C dL_law_1166 ?_
  refine go_sldz C X hv1 hz1 dL_law_1167 ?_
  refine go_aload_n C 1 dL_law_1168 rfl rfl ?_
  refine k_RL_153 C hlf S M ov z1 h.1 ⟨(Nat.le_of_ble_eq_true rfl), (Nat.le_of_ble_eq_true rfl)⟩ ⟨(show _ ≤ 601024 by omega), (show _ ≤ 7293034 by omega)⟩ (Nat.le_of_ble_eq_true rfl) dL_law_1169 (fun c9 => ?_) (fun c9 => ?_)
  · rcases sim_frozen h z1 with ⟨e1, e2, e3, e4⟩ | ⟨e1, e2, e3⟩
    · refine go_istore C (lo' := [(5, .int (0)), (4, .int (nI i)), (3, .ref (a 24)), (2, .ref (a 5)), (1, .ref (a 0)), (0, .ref b)]) dL_law_1172 (by decide) rfl ?_
      refine go_aload_n C 3 dL_law_1174 rfl rfl ?_
      refine go_aload_n C 5 dL_law_1175 rfl rfl ?_
      refine go_iload C 1 dL_law_1176 rfl ?_
      refine go_iconst C (v := 1) dL_law_1178 (by decide) ?_
      refine go_iadd C dL_law_1179 ?_
      refine go_sldz C X hv1 hz1 dL_law_1180 ?_
      refine k_RL_155 C _ M _ z1 h.2.1 ⟨(Nat.le_of_ble_eq_true rfl), (Nat.le_of_ble_eq_true rfl)⟩ ⟨(show _ ≤ 601024 by omega), (show _ ≤ 7293034 by omega)⟩ (Nat.le_of_ble_eq_true rfl) dL_law_1181 (fun c8 => ?_) (fun c8 => absurd e2 c8)
      refine go_istore C (lo' := [(6, .int _), (5, .int (0)), (4, .int (nI i)), (3, .ref (a 24)), (2, .ref (a 5)), (1, .ref (a 0)), (0, .ref b)]) dL_law_1184 (by decide) rfl ?_
      refine go_aload_n C 4 dL_law_1186 rfl rfl ?_
      refine k_RL_92 C _ _ _ ⟨(Nat.le_of_ble_eq_true rfl), (Nat.le_of_ble_eq_true rfl)⟩ ⟨(show _ ≤ 601024 by omega), (show _ ≤ 7293034 by omega)⟩ (Nat.le_of_ble_eq_true rfl) dL_law_1187 ?_
      refine go_iload C 1 dL_law_1190 rfl ?_
      refine go_icmp_eq C (tgt := 1197) dL_law_1192 (by decide) (fun _ => ?_) (fun z => absurd rfl z)
      refine go_iload C 1 dL_law_1197 rfl ?_
      refine go_if_ne C (tgt := 1214) dL_law_1199 (by decide) (fun z => absurd rfl z) (fun _ => ?_)
      refine go_aload_n C 3 dL_law_1202 rfl rfl ?_
      refine go_iconst C (v := 0) dL_law_1203 (by decide) ?_
      refine l_out C vin_0_1 dL_law_1204 ?_
      refine go_iload C 0 dL_law_1205 rfl ?_
      refine go_i2l C dL_law_1207 ?_
      refine go_lcmp C dL_law_1208 ?_
      refine go_if_eq C (tgt := 1214) dL_law_1209 (by decide) (fun _ => ?_) (fun z => absurd ((lg_cmp_eq _ _).mpr ((updL_self ov 0 _).trans e3)) z)
      refine go_goto C (tgt := 1494) dL_law_1214 (by decide) ?_
      refine go_lo [2, 3, 4, 5, 6] rfl ?_
      refine go_widen (k2 := k + 1000) (n2 := n + 10000) (by omega) (by omega) ?_
      exact g _ _ _ (e4)
    · exact absurd c9 e1
  · rcases sim_frozen h z1 with ⟨e1, e2, e3, e4⟩ | ⟨e1, e2, e3⟩
    · exact absurd e1 c9
    · refine go_istore C (lo' := [(5, .int (_)), (4, .int (nI i)), (3, .ref (a 24)), (2, .ref (a 5)), (1, .ref (a 0)), (0, .ref b)]) dL_law_1172 (by decide) rfl ?_
      refine go_aload_n C 3 dL_law_1174 rfl rfl ?_
      refine go_aload_n C 5 dL_law_1175 rfl rfl ?_
      refine go_iload C 1 dL_law_1176 rfl ?_
      refine go_iconst C (v := 1) dL_law_1178 (by decide) ?_
      refine go_iadd C dL_law_1179 ?_
      refine go_sldz C X hv1 hz1 dL_law_1180 ?_
      refine k_RL_155 C _ M _ z1 h.2.1 ⟨(Nat.le_of_ble_eq_true rfl), (Nat.le_of_ble_eq_true rfl)⟩ ⟨(show _ ≤ 601024 by omega), (show _ ≤ 7293034 by omega)⟩ (Nat.le_of_ble_eq_true rfl) dL_law_1181 (fun c8 => absurd c8 e2) (fun c8 => ?_)
      refine go_istore C (lo' := [(6, .int _), (5, .int (_)), (4, .int (nI i)), (3, .ref (a 24)), (2, .ref (a 5)), (1, .ref (a 0)), (0, .ref b)]) dL_law_1184 (by decide) rfl ?_
      refine go_aload_n C 4 dL_law_1186 rfl rfl ?_
      refine k_RL_92 C _ _ _ ⟨(Nat.le_of_ble_eq_true rfl), (Nat.le_of_ble_eq_true rfl)⟩ ⟨(show _ ≤ 601024 by omega), (show _ ≤ 7293034 by omega)⟩ (Nat.le_of_ble_eq_true rfl) dL_law_1187 ?_
      refine go_iload C 1 dL_law_1190 rfl ?_
      refine go_icmp_eq C (tgt := 1197) dL_law_1192 (by decide) (fun _ => ?_) (fun z => absurd e3.symm z)
      refine go_iload C 1 dL_law_1197 rfl ?_
      refine go_if_ne C (tgt := 1214) dL_law_1199 (by decide) (fun _ => ?_) (fun z => absurd (e3.symm.trans z) e2)
      refine go_goto C (tgt := 1494) dL_law_1214 (by decide) ?_
      refine go_lo [2, 3, 4, 5, 6] rfl ?_
      refine go_widen (k2 := k + 1000) (n2 := n + 10000) (by omega) (by omega) ?_
      exact g _ _ _ (h.thr _)
set_option maxHeartbeats 4000000 in
theorem law_endOf {p : Program} {l : Launch} {e : Env} {s : State} {m : MethodId} {args : Array Value} {below : List Frame} {meth : Method} {c : Code} {D : va_G} {N0 : Nat} {nm : String} {ret : Option FieldType} {Q : State → Prop} {k n : Nat} {cI cJ cZ cO : ClassId} {a : Nat → Nat} {b L i : Nat} {xs : Nat → Int32} {z1 z2 z3 z4 : Int32} {S : CS} {M : MS} {ov : Nat → Int64} (C : Cxt p s m args meth c D (tysW cI cJ cZ cO) N0 code 8 RL ret nm) (hlf : l.stackTraces = false) (X : Scr s N0 b L xs) (hv1 : vp_in (nI i + 1) L) (hv2 : vp_in (nI i + 2) L) (hv3 : vp_in (nI i + 3) L) (hv4 : vp_in (nI i + 4) L) (hz1 : xs (Int32.toNatClampNeg (nI i + 1)) = z1) (hz2 : xs (Int32.toNatClampNeg (nI i + 2)) = z2) (hz3 : xs (Int32.toNatClampNeg (nI i + 3)) = z3) (hz4 : xs (Int32.toNatClampNeg (nI i + 4)) = z4) (hk : k + 1000 ≤ 601024 ∧ n + 10000 ≤ 7293034) (h : Rel S M) (g : ∀ S2 M2 ov2, Rel S2 M2 → Go p l e room_1 s m args below meth c D N0 8 Q (wW cI cJ cZ cO a S2 M2 ov2) (k + 1000) (n + 10000) 1494 [(4, .int (nI i)), (3, .ref (a 24)), (2, .ref (a 5)), (1, .ref (a 0)), (0, .ref b)] []) : Go p l e room_1 s m args below meth c D N0 8 Q (wW cI cJ cZ cO a S M ov) k n 1217 [(4, .int (nI i)), (3, .ref (a 24)), (2, .ref (a 5)), (1, .ref (a 0)), (0, .ref b)] [] := by
  obtain ⟨hk1, hk2⟩ := hk
  refine go_aload_n C 3 dL_law_1217 rfl rfl ?_
  refine go_aload_n C 4 dL_law_1218 rfl rfl ?_
  refine go_iload C 0 dL_law_1219 rfl ?_
  refine go_iconst C (v := 1) dL_law_1221 (by decide) ?_
  refine go_iadd C dL_law_1222 ?_
  refine go_sldz C X hv1 hz1 dL_law_1223 ?_
  refine go_aload_n C 1 dL_law_1224 rfl rfl ?_
  refine k_RL_156 C hlf S M ov z1 h.1 ⟨(Nat.le_of_ble_eq_true rfl), (Nat.le_of_ble_eq_true rfl)⟩ ⟨(show _ ≤ 601024 by omega), (show _ ≤ 7293034 by omega)⟩ (Nat.le_of_ble_eq_true rfl) dL_law_1225 (fun c9 => ?_) (fun c9 => ?_)
  · rcases sim_endOf h z1 with ⟨e1, e2, e3, e4⟩ | ⟨e1, e2, e3⟩
    · refine go_istore C (lo' := [(5, .int (0)), (4, .int (nI i)), (3, .ref (a 24)), (2, .ref (a 5)), (1, .ref (a 0)), (0, .ref b)]) dL_law_1228 (by decide) rfl ?_
      refine go_aload_n C 3 dL_law_1230 rfl rfl ?_
      refine go_aload_n C 5 dL_law_1231 rfl rfl ?_
      refine go_iload C 1 dL_law_1232 rfl ?_
      refine go_iconst C (v := 1) dL_law_1234 (by decide) ?_
      refine go_iadd C dL_law_1235 ?_
      refine go_sldz C X hv1 hz1 dL_law_1236 ?_
      refine k_RL_158 C _ M _ z1 h.2.1 ⟨(Nat.le_of_ble_eq_true rfl), (Nat.le_of_ble_eq_true rfl)⟩ ⟨(show _ ≤ 601024 by omega), (show _ ≤ 7293034 by omega)⟩ (Nat.le_of_ble_eq_true rfl) dL_law_1237 (fun c8 => ?_) (fun c8 => absurd e2 c8)
      refine go_istore C (lo' := [(6, .int _), (5, .int (0)), (4, .int (nI i)), (3, .ref (a 24)), (2, .ref (a 5)), (1, .ref (a 0)), (0, .ref b)]) dL_law_1240 (by decide) rfl ?_
      refine go_aload_n C 4 dL_law_1242 rfl rfl ?_
      refine k_RL_92 C _ _ _ ⟨(Nat.le_of_ble_eq_true rfl), (Nat.le_of_ble_eq_true rfl)⟩ ⟨(show _ ≤ 601024 by omega), (show _ ≤ 7293034 by omega)⟩ (Nat.le_of_ble_eq_true rfl) dL_law_1243 ?_
      refine go_iload C 1 dL_law_1246 rfl ?_
      refine go_icmp_eq C (tgt := 1253) dL_law_1248 (by decide) (fun _ => ?_) (fun z => absurd rfl z)
      refine go_iload C 1 dL_law_1253 rfl ?_
      refine go_if_ne C (tgt := 1270) dL_law_1255 (by decide) (fun z => absurd rfl z) (fun _ => ?_)
      refine go_aload_n C 3 dL_law_1258 rfl rfl ?_
      refine go_iconst C (v := 0) dL_law_1259 (by decide) ?_
      refine l_out C vin_0_1 dL_law_1260 ?_
      refine go_iload C 0 dL_law_1261 rfl ?_
      refine go_i2l C dL_law_1263 ?_
      refine go_lcmp C dL_law_1264 ?_
      refine go_if_eq C (tgt := 1270) dL_law_1265 (by decide) (fun _ => ?_) (fun z => absurd ((lg_cmp_eq _ _).mpr ((updL_self ov 0 _).trans e3)) z)
      refine go_goto C (tgt := 1494) dL_law_1270 (by decide) ?_
      refine go_lo [2, 3, 4, 5, 6] rfl ?_
      refine go_widen (k2 := k + 1000) (n2 := n + 10000) (by omega) (by omega) ?_
      exact g _ _ _ (e4)
    · exact absurd c9 e1
  · rcases sim_endOf h z1 with ⟨e1, e2, e3, e4⟩ | ⟨e1, e2, e3⟩
    · exact absurd e1 c9
    · refine go_istore C (lo' := [(5, .int (_)), (4, .int (nI i)), (3, .ref (a 24)), (2, .ref (a 5)), (1, .ref (a 0)), (0, .ref b)]) dL_law_1228 (by decide) rfl ?_
      refine go_aload_n C 3 dL_law_1230 rfl rfl ?_
      refine go_aload_n C 5 dL_law_1231 rfl rfl ?_
      refine go_iload C 1 dL_law_1232 rfl ?_
      refine go_iconst C (v := 1) dL_law_1234 (by decide) ?_
      refine go_iadd C dL_law_1235 ?_
      refine go_sldz C X hv1 hz1 dL_law_1236 ?_
      refine k_RL_158 C _ M _ z1 h.2.1 ⟨(Nat.le_of_ble_eq_true rfl), (Nat.le_of_ble_eq_true rfl)⟩ ⟨(show _ ≤ 601024 by omega), (show _ ≤ 7293034 by omega)⟩ (Nat.le_of_ble_eq_true rfl) dL_law_1237 (fun c8 => absurd c8 e2) (fun c8 => ?_)
      refine go_istore C (lo' := [(6, .int _), (5, .int (_)), (4, .int (nI i)), (3, .ref (a 24)), (2, .ref (a 5)), (1, .ref (a 0)), (0, .ref b)]) dL_law_1240 (by decide) rfl ?_
      refine go_aload_n C 4 dL_law_1242 rfl rfl ?_
      refine k_RL_92 C _ _ _ ⟨(Nat.le_of_ble_eq_true rfl), (Nat.le_of_ble_eq_true rfl)⟩ ⟨(show _ ≤ 601024 by omega), (show _ ≤ 7293034 by omega)⟩ (Nat.le_of_ble_eq_true rfl) dL_law_1243 ?_
      refine go_iload C 1 dL_law_1246 rfl ?_
      refine go_icmp_eq C (tgt := 1253) dL_law_1248 (by decide) (fun _ => ?_) (fun z => absurd e3.symm z)
      refine go_iload C 1 dL_law_1253 rfl ?_
      refine go_if_ne C (tgt := 1270) dL_law_1255 (by decide) (fun _ => ?_) (fun z => absurd (e3.symm.trans z) e2)
      refine go_goto C (tgt := 1494) dL_law_1270 (by decide) ?_
      refine go_lo [2, 3, 4, 5, 6] rfl ?_
      refine go_widen (k2 := k + 1000) (n2 := n + 10000) (by omega) (by omega) ?_
      exact g _ _ _ (h.thr _)
set_option maxHeartbeats 4000000 in
theorem law_total {p : Program} {l : Launch} {e : Env} {s : State} {m : MethodId} {args : Array Value} {below : List Frame} {meth : Method} {c : Code} {D : va_G} {N0 : Nat} {nm : String} {ret : Option FieldType} {Q : State → Prop} {k n : Nat} {cI cJ cZ cO : ClassId} {a : Nat → Nat} {b L i : Nat} {xs : Nat → Int32} {z1 z2 z3 z4 : Int32} {S : CS} {M : MS} {ov : Nat → Int64} (C : Cxt p s m args meth c D (tysW cI cJ cZ cO) N0 code 8 RL ret nm) (hlf : l.stackTraces = false) (X : Scr s N0 b L xs) (hv1 : vp_in (nI i + 1) L) (hv2 : vp_in (nI i + 2) L) (hv3 : vp_in (nI i + 3) L) (hv4 : vp_in (nI i + 4) L) (hz1 : xs (Int32.toNatClampNeg (nI i + 1)) = z1) (hz2 : xs (Int32.toNatClampNeg (nI i + 2)) = z2) (hz3 : xs (Int32.toNatClampNeg (nI i + 3)) = z3) (hz4 : xs (Int32.toNatClampNeg (nI i + 4)) = z4) (hk : k + 1000 ≤ 601024 ∧ n + 10000 ≤ 7293034) (h : Rel S M) (g : ∀ S2 M2 ov2, Rel S2 M2 → Go p l e room_1 s m args below meth c D N0 8 Q (wW cI cJ cZ cO a S2 M2 ov2) (k + 1000) (n + 10000) 1494 [(4, .int (nI i)), (3, .ref (a 24)), (2, .ref (a 5)), (1, .ref (a 0)), (0, .ref b)] []) : Go p l e room_1 s m args below meth c D N0 8 Q (wW cI cJ cZ cO a S M ov) k n 1273 [(4, .int (nI i)), (3, .ref (a 24)), (2, .ref (a 5)), (1, .ref (a 0)), (0, .ref b)] [] := by
  obtain ⟨hk1, hk2⟩ := hk
  refine go_aload_n C 3 dL_law_1273 rfl rfl ?_
  refine go_aload_n C 4 dL_law_1274 rfl rfl ?_
  refine go_iload C 0 dL_law_1275 rfl ?_
  refine go_iconst C (v := 1) dL_law_1277 (by decide) ?_
  refine go_iadd C dL_law_1278 ?_
  refine go_sldz C X hv1 hz1 dL_law_1279 ?_
  refine go_aload_n C 1 dL_law_1280 rfl rfl ?_
  refine k_RL_159 C hlf S M ov z1 h.1 ⟨(Nat.le_of_ble_eq_true rfl), (Nat.le_of_ble_eq_true rfl)⟩ ⟨(show _ ≤ 601024 by omega), (show _ ≤ 7293034 by omega)⟩ (Nat.le_of_ble_eq_true rfl) dL_law_1281 (fun c9 => ?_) (fun c9 => ?_)
  · rcases sim_total h z1 with ⟨e1, e2, e3, e4⟩ | ⟨e1, e2, e3⟩
    · refine go_istore C (lo' := [(5, .int (0)), (4, .int (nI i)), (3, .ref (a 24)), (2, .ref (a 5)), (1, .ref (a 0)), (0, .ref b)]) dL_law_1284 (by decide) rfl ?_
      refine go_aload_n C 3 dL_law_1286 rfl rfl ?_
      refine go_aload_n C 5 dL_law_1287 rfl rfl ?_
      refine go_iload C 1 dL_law_1288 rfl ?_
      refine go_iconst C (v := 1) dL_law_1290 (by decide) ?_
      refine go_iadd C dL_law_1291 ?_
      refine go_sldz C X hv1 hz1 dL_law_1292 ?_
      refine k_RL_161 C _ M _ z1 h.2.1 ⟨(Nat.le_of_ble_eq_true rfl), (Nat.le_of_ble_eq_true rfl)⟩ ⟨(show _ ≤ 601024 by omega), (show _ ≤ 7293034 by omega)⟩ (Nat.le_of_ble_eq_true rfl) dL_law_1293 (fun c8 => ?_) (fun c8 => absurd e2 c8)
      refine go_istore C (lo' := [(6, .int _), (5, .int (0)), (4, .int (nI i)), (3, .ref (a 24)), (2, .ref (a 5)), (1, .ref (a 0)), (0, .ref b)]) dL_law_1296 (by decide) rfl ?_
      refine go_aload_n C 4 dL_law_1298 rfl rfl ?_
      refine k_RL_92 C _ _ _ ⟨(Nat.le_of_ble_eq_true rfl), (Nat.le_of_ble_eq_true rfl)⟩ ⟨(show _ ≤ 601024 by omega), (show _ ≤ 7293034 by omega)⟩ (Nat.le_of_ble_eq_true rfl) dL_law_1299 ?_
      refine go_iload C 1 dL_law_1302 rfl ?_
      refine go_icmp_eq C (tgt := 1309) dL_law_1304 (by decide) (fun _ => ?_) (fun z => absurd rfl z)
      refine go_iload C 1 dL_law_1309 rfl ?_
      refine go_if_ne C (tgt := 1326) dL_law_1311 (by decide) (fun z => absurd rfl z) (fun _ => ?_)
      refine go_aload_n C 3 dL_law_1314 rfl rfl ?_
      refine go_iconst C (v := 0) dL_law_1315 (by decide) ?_
      refine l_out C vin_0_1 dL_law_1316 ?_
      refine go_iload C 0 dL_law_1317 rfl ?_
      refine go_i2l C dL_law_1319 ?_
      refine go_lcmp C dL_law_1320 ?_
      refine go_if_eq C (tgt := 1326) dL_law_1321 (by decide) (fun _ => ?_) (fun z => absurd ((lg_cmp_eq _ _).mpr ((updL_self ov 0 _).trans e3)) z)
      refine go_goto C (tgt := 1494) dL_law_1326 (by decide) ?_
      refine go_lo [2, 3, 4, 5, 6] rfl ?_
      refine go_widen (k2 := k + 1000) (n2 := n + 10000) (by omega) (by omega) ?_
      exact g _ _ _ (e4)
    · exact absurd c9 e1
  · rcases sim_total h z1 with ⟨e1, e2, e3, e4⟩ | ⟨e1, e2, e3⟩
    · exact absurd e1 c9
    · refine go_istore C (lo' := [(5, .int (_)), (4, .int (nI i)), (3, .ref (a 24)), (2, .ref (a 5)), (1, .ref (a 0)), (0, .ref b)]) dL_law_1284 (by decide) rfl ?_
      refine go_aload_n C 3 dL_law_1286 rfl rfl ?_
      refine go_aload_n C 5 dL_law_1287 rfl rfl ?_
      refine go_iload C 1 dL_law_1288 rfl ?_
      refine go_iconst C (v := 1) dL_law_1290 (by decide) ?_
      refine go_iadd C dL_law_1291 ?_
      refine go_sldz C X hv1 hz1 dL_law_1292 ?_
      refine k_RL_161 C _ M _ z1 h.2.1 ⟨(Nat.le_of_ble_eq_true rfl), (Nat.le_of_ble_eq_true rfl)⟩ ⟨(show _ ≤ 601024 by omega), (show _ ≤ 7293034 by omega)⟩ (Nat.le_of_ble_eq_true rfl) dL_law_1293 (fun c8 => absurd c8 e2) (fun c8 => ?_)
      refine go_istore C (lo' := [(6, .int _), (5, .int (_)), (4, .int (nI i)), (3, .ref (a 24)), (2, .ref (a 5)), (1, .ref (a 0)), (0, .ref b)]) dL_law_1296 (by decide) rfl ?_
      refine go_aload_n C 4 dL_law_1298 rfl rfl ?_
      refine k_RL_92 C _ _ _ ⟨(Nat.le_of_ble_eq_true rfl), (Nat.le_of_ble_eq_true rfl)⟩ ⟨(show _ ≤ 601024 by omega), (show _ ≤ 7293034 by omega)⟩ (Nat.le_of_ble_eq_true rfl) dL_law_1299 ?_
      refine go_iload C 1 dL_law_1302 rfl ?_
      refine go_icmp_eq C (tgt := 1309) dL_law_1304 (by decide) (fun _ => ?_) (fun z => absurd e3.symm z)
      refine go_iload C 1 dL_law_1309 rfl ?_
      refine go_if_ne C (tgt := 1326) dL_law_1311 (by decide) (fun _ => ?_) (fun z => absurd (e3.symm.trans z) e2)
      refine go_goto C (tgt := 1494) dL_law_1326 (by decide) ?_
      refine go_lo [2, 3, 4, 5, 6] rfl ?_
      refine go_widen (k2 := k + 1000) (n2 := n + 10000) (by omega) (by omega) ?_
      exact g _ _ _ (h.thr _)
set_option maxHeartbeats 4000000 in
theorem law_partsByTotal {p : Program} {l : Launch} {e : Env} {s : State} {m : MethodId} {args : Array Value} {below : List Frame} {meth : Method} {c : Code} {D : va_G} {N0 : Nat} {nm : String} {ret : Option FieldType} {Q : State → Prop} {k n : Nat} {cI cJ cZ cO : ClassId} {a : Nat → Nat} {b L i : Nat} {xs : Nat → Int32} {z1 z2 z3 z4 : Int32} {S : CS} {M : MS} {ov : Nat → Int64} (C : Cxt p s m args meth c D (tysW cI cJ cZ cO) N0 code 8 RL ret nm) (hlf : l.stackTraces = false) (X : Scr s N0 b L xs) (hv1 : vp_in (nI i + 1) L) (hv2 : vp_in (nI i + 2) L) (hv3 : vp_in (nI i + 3) L) (hv4 : vp_in (nI i + 4) L) (hz1 : xs (Int32.toNatClampNeg (nI i + 1)) = z1) (hz2 : xs (Int32.toNatClampNeg (nI i + 2)) = z2) (hz3 : xs (Int32.toNatClampNeg (nI i + 3)) = z3) (hz4 : xs (Int32.toNatClampNeg (nI i + 4)) = z4) (hk : k + 1000 ≤ 601024 ∧ n + 10000 ≤ 7293034) (h : Rel S M) (g : ∀ S2 M2 ov2, Rel S2 M2 → Go p l e room_1 s m args below meth c D N0 8 Q (wW cI cJ cZ cO a S2 M2 ov2) (k + 1000) (n + 10000) 1494 [(4, .int (nI i)), (3, .ref (a 24)), (2, .ref (a 5)), (1, .ref (a 0)), (0, .ref b)] []) : Go p l e room_1 s m args below meth c D N0 8 Q (wW cI cJ cZ cO a S M ov) k n 1329 [(4, .int (nI i)), (3, .ref (a 24)), (2, .ref (a 5)), (1, .ref (a 0)), (0, .ref b)] [] := by
  obtain ⟨hk1, hk2⟩ := hk
  refine go_aload_n C 3 dL_law_1329 rfl rfl ?_
  refine go_aload_n C 4 dL_law_1330 rfl rfl ?_
  refine go_iload C 0 dL_law_1331 rfl ?_
  refine go_iconst C (v := 1) dL_law_1333 (by decide) ?_
  refine go_iadd C dL_law_1334 ?_
  refine go_sldz C X hv1 hz1 dL_law_1335 ?_
  refine go_aload_n C 1 dL_law_1336 rfl rfl ?_
  refine k_RL_162 C hlf S M ov z1 h.1 ⟨(Nat.le_of_ble_eq_true rfl), (Nat.le_of_ble_eq_true rfl)⟩ ⟨(show _ ≤ 601024 by omega), (show _ ≤ 7293034 by omega)⟩ (Nat.le_of_ble_eq_true rfl) dL_law_1337 (fun c9 => ?_) (fun c9 => ?_)
  · rcases sim_partsByTotal h z1 with ⟨e1, e2, e3, e4⟩ | ⟨e1, e2, e3⟩
    · refine go_istore C (lo' := [(5, .int (0)), (4, .int (nI i)), (3, .ref (a 24)), (2, .ref (a 5)), (1, .ref (a 0)), (0, .ref b)]) dL_law_1340 (by decide) rfl ?_
      refine go_aload_n C 3 dL_law_1342 rfl rfl ?_
      refine go_aload_n C 5 dL_law_1343 rfl rfl ?_
      refine go_iload C 1 dL_law_1344 rfl ?_
      refine go_iconst C (v := 1) dL_law_1346 (by decide) ?_
      refine go_iadd C dL_law_1347 ?_
      refine go_sldz C X hv1 hz1 dL_law_1348 ?_
      refine k_RL_164 C _ M _ z1 h.2.1 ⟨(Nat.le_of_ble_eq_true rfl), (Nat.le_of_ble_eq_true rfl)⟩ ⟨(show _ ≤ 601024 by omega), (show _ ≤ 7293034 by omega)⟩ (Nat.le_of_ble_eq_true rfl) dL_law_1349 (fun c8 => ?_) (fun v9 c8 => absurd e2 c8)
      refine go_lstore C (lo' := [(6, .long _), (5, .int (0)), (4, .int (nI i)), (3, .ref (a 24)), (2, .ref (a 5)), (1, .ref (a 0)), (0, .ref b)]) dL_law_1352 (by decide) rfl ?_
      refine go_aload_n C 4 dL_law_1354 rfl rfl ?_
      refine k_RL_92 C _ _ _ ⟨(Nat.le_of_ble_eq_true rfl), (Nat.le_of_ble_eq_true rfl)⟩ ⟨(show _ ≤ 601024 by omega), (show _ ≤ 7293034 by omega)⟩ (Nat.le_of_ble_eq_true rfl) dL_law_1355 ?_
      refine go_iload C 1 dL_law_1358 rfl ?_
      refine go_icmp_eq C (tgt := 1365) dL_law_1360 (by decide) (fun _ => ?_) (fun z => absurd rfl z)
      refine go_iload C 1 dL_law_1365 rfl ?_
      refine go_if_ne C (tgt := 1381) dL_law_1367 (by decide) (fun z => absurd rfl z) (fun _ => ?_)
      refine go_aload_n C 3 dL_law_1370 rfl rfl ?_
      refine go_iconst C (v := 0) dL_law_1371 (by decide) ?_
      refine l_out C vin_0_1 dL_law_1372 ?_
      refine go_lload C 0 dL_law_1373 rfl ?_
      refine go_lcmp C dL_law_1375 ?_
      refine go_if_eq C (tgt := 1381) dL_law_1376 (by decide) (fun _ => ?_) (fun z => absurd ((lg_cmp_eq _ _).mpr ((updL_self ov 0 _).trans e3)) z)
      refine go_goto C (tgt := 1494) dL_law_1381 (by decide) ?_
      refine go_lo [2, 3, 4, 5, 6] rfl ?_
      refine go_widen (k2 := k + 1000) (n2 := n + 10000) (by omega) (by omega) ?_
      exact g _ _ _ (e4)
    · exact absurd c9 e1
  · rcases sim_partsByTotal h z1 with ⟨e1, e2, e3, e4⟩ | ⟨e1, e2, e3⟩
    · exact absurd e1 c9
    · refine go_istore C (lo' := [(5, .int (_)), (4, .int (nI i)), (3, .ref (a 24)), (2, .ref (a 5)), (1, .ref (a 0)), (0, .ref b)]) dL_law_1340 (by decide) rfl ?_
      refine go_aload_n C 3 dL_law_1342 rfl rfl ?_
      refine go_aload_n C 5 dL_law_1343 rfl rfl ?_
      refine go_iload C 1 dL_law_1344 rfl ?_
      refine go_iconst C (v := 1) dL_law_1346 (by decide) ?_
      refine go_iadd C dL_law_1347 ?_
      refine go_sldz C X hv1 hz1 dL_law_1348 ?_
      refine k_RL_164 C _ M _ z1 h.2.1 ⟨(Nat.le_of_ble_eq_true rfl), (Nat.le_of_ble_eq_true rfl)⟩ ⟨(show _ ≤ 601024 by omega), (show _ ≤ 7293034 by omega)⟩ (Nat.le_of_ble_eq_true rfl) dL_law_1349 (fun c8 => absurd c8 e2) (fun v9 c8 => ?_)
      refine go_lstore C (lo' := [(6, .long _), (5, .int (_)), (4, .int (nI i)), (3, .ref (a 24)), (2, .ref (a 5)), (1, .ref (a 0)), (0, .ref b)]) dL_law_1352 (by decide) rfl ?_
      refine go_aload_n C 4 dL_law_1354 rfl rfl ?_
      refine k_RL_92 C _ _ _ ⟨(Nat.le_of_ble_eq_true rfl), (Nat.le_of_ble_eq_true rfl)⟩ ⟨(show _ ≤ 601024 by omega), (show _ ≤ 7293034 by omega)⟩ (Nat.le_of_ble_eq_true rfl) dL_law_1355 ?_
      refine go_iload C 1 dL_law_1358 rfl ?_
      refine go_icmp_eq C (tgt := 1365) dL_law_1360 (by decide) (fun _ => ?_) (fun z => absurd e3.symm z)
      refine go_iload C 1 dL_law_1365 rfl ?_
      refine go_if_ne C (tgt := 1381) dL_law_1367 (by decide) (fun _ => ?_) (fun z => absurd (e3.symm.trans z) e2)
      refine go_goto C (tgt := 1494) dL_law_1381 (by decide) ?_
      refine go_lo [2, 3, 4, 5, 6] rfl ?_
      refine go_widen (k2 := k + 1000) (n2 := n + 10000) (by omega) (by omega) ?_
      exact g _ _ _ (h.thr _)
set_option maxHeartbeats 4000000 in
theorem law_paid {p : Program} {l : Launch} {e : Env} {s : State} {m : MethodId} {args : Array Value} {below : List Frame} {meth : Method} {c : Code} {D : va_G} {N0 : Nat} {nm : String} {ret : Option FieldType} {Q : State → Prop} {k n : Nat} {cI cJ cZ cO : ClassId} {a : Nat → Nat} {b L i : Nat} {xs : Nat → Int32} {z1 z2 z3 z4 : Int32} {S : CS} {M : MS} {ov : Nat → Int64} (C : Cxt p s m args meth c D (tysW cI cJ cZ cO) N0 code 8 RL ret nm) (hlf : l.stackTraces = false) (X : Scr s N0 b L xs) (hv1 : vp_in (nI i + 1) L) (hv2 : vp_in (nI i + 2) L) (hv3 : vp_in (nI i + 3) L) (hv4 : vp_in (nI i + 4) L) (hz1 : xs (Int32.toNatClampNeg (nI i + 1)) = z1) (hz2 : xs (Int32.toNatClampNeg (nI i + 2)) = z2) (hz3 : xs (Int32.toNatClampNeg (nI i + 3)) = z3) (hz4 : xs (Int32.toNatClampNeg (nI i + 4)) = z4) (hk : k + 1000 ≤ 601024 ∧ n + 10000 ≤ 7293034) (h : Rel S M) (g : ∀ S2 M2 ov2, Rel S2 M2 → Go p l e room_1 s m args below meth c D N0 8 Q (wW cI cJ cZ cO a S2 M2 ov2) (k + 1000) (n + 10000) 1494 [(4, .int (nI i)), (3, .ref (a 24)), (2, .ref (a 5)), (1, .ref (a 0)), (0, .ref b)] []) : Go p l e room_1 s m args below meth c D N0 8 Q (wW cI cJ cZ cO a S M ov) k n 1384 [(4, .int (nI i)), (3, .ref (a 24)), (2, .ref (a 5)), (1, .ref (a 0)), (0, .ref b)] [] := by
  obtain ⟨hk1, hk2⟩ := hk
  refine go_aload_n C 3 dL_law_1384 rfl rfl ?_
  refine go_aload_n C 4 dL_law_1385 rfl rfl ?_
  refine go_iload C 0 dL_law_1386 rfl ?_
  refine go_iconst C (v := 1) dL_law_1388 (by decide) ?_
  refine go_iadd C dL_law_1389 ?_
  refine go_sldz C X hv1 hz1 dL_law_1390 ?_
  refine go_aload_n C 1 dL_law_1391 rfl rfl ?_
  refine k_RL_165 C hlf S M ov z1 ⟨(Nat.le_of_ble_eq_true rfl), (Nat.le_of_ble_eq_true rfl)⟩ ⟨(show _ ≤ 601024 by omega), (show _ ≤ 7293034 by omega)⟩ (Nat.le_of_ble_eq_true rfl) dL_law_1392 (fun c9 => ?_) (fun c9 => ?_)
  · rcases sim_paid h z1 with ⟨e1, e2, e3, e4⟩ | ⟨e1, e2, e3⟩
    · refine go_istore C (lo' := [(5, .int (0)), (4, .int (nI i)), (3, .ref (a 24)), (2, .ref (a 5)), (1, .ref (a 0)), (0, .ref b)]) dL_law_1395 (by decide) rfl ?_
      refine go_aload_n C 3 dL_law_1397 rfl rfl ?_
      refine go_aload_n C 5 dL_law_1398 rfl rfl ?_
      refine go_iload C 1 dL_law_1399 rfl ?_
      refine go_iconst C (v := 1) dL_law_1401 (by decide) ?_
      refine go_iadd C dL_law_1402 ?_
      refine go_sldz C X hv1 hz1 dL_law_1403 ?_
      refine k_RL_167 C _ M _ z1 ⟨(Nat.le_of_ble_eq_true rfl), (Nat.le_of_ble_eq_true rfl)⟩ ⟨(show _ ≤ 601024 by omega), (show _ ≤ 7293034 by omega)⟩ (Nat.le_of_ble_eq_true rfl) dL_law_1404 (fun c8 => ?_) (fun c8 => absurd e2 c8)
      refine go_lstore C (lo' := [(6, .long _), (5, .int (0)), (4, .int (nI i)), (3, .ref (a 24)), (2, .ref (a 5)), (1, .ref (a 0)), (0, .ref b)]) dL_law_1407 (by decide) rfl ?_
      refine go_aload_n C 4 dL_law_1409 rfl rfl ?_
      refine k_RL_92 C _ _ _ ⟨(Nat.le_of_ble_eq_true rfl), (Nat.le_of_ble_eq_true rfl)⟩ ⟨(show _ ≤ 601024 by omega), (show _ ≤ 7293034 by omega)⟩ (Nat.le_of_ble_eq_true rfl) dL_law_1410 ?_
      refine go_iload C 1 dL_law_1413 rfl ?_
      refine go_icmp_eq C (tgt := 1420) dL_law_1415 (by decide) (fun _ => ?_) (fun z => absurd rfl z)
      refine go_iload C 1 dL_law_1420 rfl ?_
      refine go_if_ne C (tgt := 1436) dL_law_1422 (by decide) (fun z => absurd rfl z) (fun _ => ?_)
      refine go_aload_n C 3 dL_law_1425 rfl rfl ?_
      refine go_iconst C (v := 0) dL_law_1426 (by decide) ?_
      refine l_out C vin_0_1 dL_law_1427 ?_
      refine go_lload C 0 dL_law_1428 rfl ?_
      refine go_lcmp C dL_law_1430 ?_
      refine go_if_eq C (tgt := 1436) dL_law_1431 (by decide) (fun _ => ?_) (fun z => absurd ((lg_cmp_eq _ _).mpr ((updL_self ov 0 _).trans e3)) z)
      refine go_goto C (tgt := 1494) dL_law_1436 (by decide) ?_
      refine go_lo [2, 3, 4, 5, 6] rfl ?_
      refine go_widen (k2 := k + 1000) (n2 := n + 10000) (by omega) (by omega) ?_
      exact g _ _ _ (e4)
    · exact absurd c9 e1
  · rcases sim_paid h z1 with ⟨e1, e2, e3, e4⟩ | ⟨e1, e2, e3⟩
    · exact absurd e1 c9
    · refine go_istore C (lo' := [(5, .int (_)), (4, .int (nI i)), (3, .ref (a 24)), (2, .ref (a 5)), (1, .ref (a 0)), (0, .ref b)]) dL_law_1395 (by decide) rfl ?_
      refine go_aload_n C 3 dL_law_1397 rfl rfl ?_
      refine go_aload_n C 5 dL_law_1398 rfl rfl ?_
      refine go_iload C 1 dL_law_1399 rfl ?_
      refine go_iconst C (v := 1) dL_law_1401 (by decide) ?_
      refine go_iadd C dL_law_1402 ?_
      refine go_sldz C X hv1 hz1 dL_law_1403 ?_
      refine k_RL_167 C _ M _ z1 ⟨(Nat.le_of_ble_eq_true rfl), (Nat.le_of_ble_eq_true rfl)⟩ ⟨(show _ ≤ 601024 by omega), (show _ ≤ 7293034 by omega)⟩ (Nat.le_of_ble_eq_true rfl) dL_law_1404 (fun c8 => absurd c8 e2) (fun c8 => ?_)
      refine go_lstore C (lo' := [(6, .long _), (5, .int (_)), (4, .int (nI i)), (3, .ref (a 24)), (2, .ref (a 5)), (1, .ref (a 0)), (0, .ref b)]) dL_law_1407 (by decide) rfl ?_
      refine go_aload_n C 4 dL_law_1409 rfl rfl ?_
      refine k_RL_92 C _ _ _ ⟨(Nat.le_of_ble_eq_true rfl), (Nat.le_of_ble_eq_true rfl)⟩ ⟨(show _ ≤ 601024 by omega), (show _ ≤ 7293034 by omega)⟩ (Nat.le_of_ble_eq_true rfl) dL_law_1410 ?_
      refine go_iload C 1 dL_law_1413 rfl ?_
      refine go_icmp_eq C (tgt := 1420) dL_law_1415 (by decide) (fun _ => ?_) (fun z => absurd e3.symm z)
      refine go_iload C 1 dL_law_1420 rfl ?_
      refine go_if_ne C (tgt := 1436) dL_law_1422 (by decide) (fun _ => ?_) (fun z => absurd (e3.symm.trans z) e2)
      refine go_goto C (tgt := 1494) dL_law_1436 (by decide) ?_
      refine go_lo [2, 3, 4, 5, 6] rfl ?_
      refine go_widen (k2 := k + 1000) (n2 := n + 10000) (by omega) (by omega) ?_
      exact g _ _ _ (h.thr _)
set_option maxHeartbeats 4000000 in
theorem law_lost {p : Program} {l : Launch} {e : Env} {s : State} {m : MethodId} {args : Array Value} {below : List Frame} {meth : Method} {c : Code} {D : va_G} {N0 : Nat} {nm : String} {ret : Option FieldType} {Q : State → Prop} {k n : Nat} {cI cJ cZ cO : ClassId} {a : Nat → Nat} {b L i : Nat} {xs : Nat → Int32} {z1 z2 z3 z4 : Int32} {S : CS} {M : MS} {ov : Nat → Int64} (C : Cxt p s m args meth c D (tysW cI cJ cZ cO) N0 code 8 RL ret nm) (hlf : l.stackTraces = false) (X : Scr s N0 b L xs) (hv1 : vp_in (nI i + 1) L) (hv2 : vp_in (nI i + 2) L) (hv3 : vp_in (nI i + 3) L) (hv4 : vp_in (nI i + 4) L) (hz1 : xs (Int32.toNatClampNeg (nI i + 1)) = z1) (hz2 : xs (Int32.toNatClampNeg (nI i + 2)) = z2) (hz3 : xs (Int32.toNatClampNeg (nI i + 3)) = z3) (hz4 : xs (Int32.toNatClampNeg (nI i + 4)) = z4) (hk : k + 1000 ≤ 601024 ∧ n + 10000 ≤ 7293034) (h : Rel S M) (g : ∀ S2 M2 ov2, Rel S2 M2 → Go p l e room_1 s m args below meth c D N0 8 Q (wW cI cJ cZ cO a S2 M2 ov2) (k + 1000) (n + 10000) 1494 [(4, .int (nI i)), (3, .ref (a 24)), (2, .ref (a 5)), (1, .ref (a 0)), (0, .ref b)] []) : Go p l e room_1 s m args below meth c D N0 8 Q (wW cI cJ cZ cO a S M ov) k n 1439 [(4, .int (nI i)), (3, .ref (a 24)), (2, .ref (a 5)), (1, .ref (a 0)), (0, .ref b)] [] := by
  obtain ⟨hk1, hk2⟩ := hk
  refine go_aload_n C 3 dL_law_1439 rfl rfl ?_
  refine go_aload_n C 4 dL_law_1440 rfl rfl ?_
  refine go_iload C 0 dL_law_1441 rfl ?_
  refine go_iconst C (v := 1) dL_law_1443 (by decide) ?_
  refine go_iadd C dL_law_1444 ?_
  refine go_sldz C X hv1 hz1 dL_law_1445 ?_
  refine go_aload_n C 1 dL_law_1446 rfl rfl ?_
  refine k_RL_168 C hlf S M ov z1 ⟨(Nat.le_of_ble_eq_true rfl), (Nat.le_of_ble_eq_true rfl)⟩ ⟨(show _ ≤ 601024 by omega), (show _ ≤ 7293034 by omega)⟩ (Nat.le_of_ble_eq_true rfl) dL_law_1447 (fun c9 => ?_) (fun c9 => ?_)
  · rcases sim_lost h z1 with ⟨e1, e2, e3, e4⟩ | ⟨e1, e2, e3⟩
    · refine go_istore C (lo' := [(5, .int (0)), (4, .int (nI i)), (3, .ref (a 24)), (2, .ref (a 5)), (1, .ref (a 0)), (0, .ref b)]) dL_law_1450 (by decide) rfl ?_
      refine go_aload_n C 3 dL_law_1452 rfl rfl ?_
      refine go_aload_n C 5 dL_law_1453 rfl rfl ?_
      refine go_iload C 1 dL_law_1454 rfl ?_
      refine go_iconst C (v := 1) dL_law_1456 (by decide) ?_
      refine go_iadd C dL_law_1457 ?_
      refine go_sldz C X hv1 hz1 dL_law_1458 ?_
      refine k_RL_170 C _ M _ z1 ⟨(Nat.le_of_ble_eq_true rfl), (Nat.le_of_ble_eq_true rfl)⟩ ⟨(show _ ≤ 601024 by omega), (show _ ≤ 7293034 by omega)⟩ (Nat.le_of_ble_eq_true rfl) dL_law_1459 (fun c8 => ?_) (fun c8 => absurd e2 c8)
      refine go_lstore C (lo' := [(6, .long _), (5, .int (0)), (4, .int (nI i)), (3, .ref (a 24)), (2, .ref (a 5)), (1, .ref (a 0)), (0, .ref b)]) dL_law_1462 (by decide) rfl ?_
      refine go_aload_n C 4 dL_law_1464 rfl rfl ?_
      refine k_RL_92 C _ _ _ ⟨(Nat.le_of_ble_eq_true rfl), (Nat.le_of_ble_eq_true rfl)⟩ ⟨(show _ ≤ 601024 by omega), (show _ ≤ 7293034 by omega)⟩ (Nat.le_of_ble_eq_true rfl) dL_law_1465 ?_
      refine go_iload C 1 dL_law_1468 rfl ?_
      refine go_icmp_eq C (tgt := 1475) dL_law_1470 (by decide) (fun _ => ?_) (fun z => absurd rfl z)
      refine go_iload C 1 dL_law_1475 rfl ?_
      refine go_if_ne C (tgt := 1491) dL_law_1477 (by decide) (fun z => absurd rfl z) (fun _ => ?_)
      refine go_aload_n C 3 dL_law_1480 rfl rfl ?_
      refine go_iconst C (v := 0) dL_law_1481 (by decide) ?_
      refine l_out C vin_0_1 dL_law_1482 ?_
      refine go_lload C 0 dL_law_1483 rfl ?_
      refine go_lcmp C dL_law_1485 ?_
      refine go_if_eq C (tgt := 1491) dL_law_1486 (by decide) (fun _ => ?_) (fun z => absurd ((lg_cmp_eq _ _).mpr ((updL_self ov 0 _).trans e3)) z)
      refine go_goto C (tgt := 1494) dL_law_1491 (by decide) ?_
      refine go_lo [2, 3, 4, 5, 6] rfl ?_
      refine go_widen (k2 := k + 1000) (n2 := n + 10000) (by omega) (by omega) ?_
      exact g _ _ _ (e4)
    · exact absurd c9 e1
  · rcases sim_lost h z1 with ⟨e1, e2, e3, e4⟩ | ⟨e1, e2, e3⟩
    · exact absurd e1 c9
    · refine go_istore C (lo' := [(5, .int (_)), (4, .int (nI i)), (3, .ref (a 24)), (2, .ref (a 5)), (1, .ref (a 0)), (0, .ref b)]) dL_law_1450 (by decide) rfl ?_
      refine go_aload_n C 3 dL_law_1452 rfl rfl ?_
      refine go_aload_n C 5 dL_law_1453 rfl rfl ?_
      refine go_iload C 1 dL_law_1454 rfl ?_
      refine go_iconst C (v := 1) dL_law_1456 (by decide) ?_
      refine go_iadd C dL_law_1457 ?_
      refine go_sldz C X hv1 hz1 dL_law_1458 ?_
      refine k_RL_170 C _ M _ z1 ⟨(Nat.le_of_ble_eq_true rfl), (Nat.le_of_ble_eq_true rfl)⟩ ⟨(show _ ≤ 601024 by omega), (show _ ≤ 7293034 by omega)⟩ (Nat.le_of_ble_eq_true rfl) dL_law_1459 (fun c8 => absurd c8 e2) (fun c8 => ?_)
      refine go_lstore C (lo' := [(6, .long _), (5, .int (_)), (4, .int (nI i)), (3, .ref (a 24)), (2, .ref (a 5)), (1, .ref (a 0)), (0, .ref b)]) dL_law_1462 (by decide) rfl ?_
      refine go_aload_n C 4 dL_law_1464 rfl rfl ?_
      refine k_RL_92 C _ _ _ ⟨(Nat.le_of_ble_eq_true rfl), (Nat.le_of_ble_eq_true rfl)⟩ ⟨(show _ ≤ 601024 by omega), (show _ ≤ 7293034 by omega)⟩ (Nat.le_of_ble_eq_true rfl) dL_law_1465 ?_
      refine go_iload C 1 dL_law_1468 rfl ?_
      refine go_icmp_eq C (tgt := 1475) dL_law_1470 (by decide) (fun _ => ?_) (fun z => absurd e3.symm z)
      refine go_iload C 1 dL_law_1475 rfl ?_
      refine go_if_ne C (tgt := 1491) dL_law_1477 (by decide) (fun _ => ?_) (fun z => absurd (e3.symm.trans z) e2)
      refine go_goto C (tgt := 1494) dL_law_1491 (by decide) ?_
      refine go_lo [2, 3, 4, 5, 6] rfl ?_
      refine go_widen (k2 := k + 1000) (n2 := n + 10000) (by omega) (by omega) ?_
      exact g _ _ _ (h.thr _)
