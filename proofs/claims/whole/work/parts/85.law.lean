def aL (q : List Nat) : Nat → Nat := fun i => q.getD i 0
def S0 : CS := (upd (upd (upd (fun _ => 0) 0 100) 1 200) 2 300, fun _ => 0, fun _ => 0, 0, 250, 0, 0, fun _ => none, 0, fun _ => 0, fun _ => zLR)
def M0 : MS := (upd (upd (upd (fun _ => 0) 0 100) 1 200) 2 300, 0, 250, 0, fun _ => 0, fun _ => 0, fun _ => 0, fun _ => 0, fun _ => 0, fun _ => 0, fun _ => 0, fun _ => 0, fun _ => 0, fun _ => 0, fun _ => 0, fun _ => 0, fun _ => 0, fun _ => 0, 0, 0, fun _ => 0, fun _ => 0, fun _ => 0)
set_option maxHeartbeats 4000000 in
set_option maxRecDepth 100000 in
theorem law_start {p : Program} {l : Launch} {e : Env} {s : State} {m : MethodId} {args : Array Value} {below : List Frame} {meth : Method} {c : Code} {D : va_G} {N0 : Nat} {nm : String} {ret : Option FieldType} {Q : State → Prop} {cI cJ cZ cO : ClassId} {b : Nat} (C : Cxt p s m args meth c D (tysW cI cJ cZ cO) N0 code 8 RL ret nm) (g : ∀ a : Nat → Nat, Go p l e room_1 s m args below meth c D N0 8 Q (wW cI cJ cZ cO a S0 M0 (fun _ => 0)) 25 694 23 [(4, .int (nI 0)), (3, .ref (a 24)), (2, .ref (a 5)), (1, .ref (a 0)), (0, .ref b)] []) : Go p l e room_1 s m args below meth c D N0 8 Q [] 0 0 0 [(0, .ref b)] [] := by
  refine go_new C (Cn := RX1) (T := TX1) (N := 8) (ci := 1) (fs := [.null, .null, .null, .null, .int 0, .int 0, .int 0, .int 0]) tyX1 inX1 tyX1_ok bcl_RL_8 bin_RX1 bz_NoticeBook rfl (by intro j hj; rcases j with _ | _ | _ | _ | _ | _ | _ | _ | j <;> first | rfl | omega) (Nat.le_of_ble_eq_true rfl) (Nat.le_of_ble_eq_true rfl) dL_law_0 (fun c0 => ?_)
  refine go_w (w2 := [(c0, .inr (1, [.null, .null, .null, .null, .int 0, .int 0, .int 0, .int 0]))]) rfl ?_
  refine go_dup C dL_law_3 rfl ?_
  refine k_RL_82 C c0 ⟨(Nat.le_of_ble_eq_true rfl), (Nat.le_of_ble_eq_true rfl)⟩ ⟨(Nat.le_of_ble_eq_true rfl), (Nat.le_of_ble_eq_true rfl)⟩ (Nat.le_of_ble_eq_true rfl) dL_law_4 (fun c1 c2 c3 c4 => ?_)
  refine go_astore_n C (lo' := [(1, .ref c0), (0, .ref b)]) dL_law_7 rfl (by decide) rfl ?_
  refine go_new C (Cn := RX2) (T := TX2) (N := 23) (ci := 2) (fs := [.null, .int 0, .int 0, .int 0, .null, .null, .null, .null, .null, .null, .null, .null, .null, .null, .null, .null, .null, .null, .int 0, .int 0, .null, .null, .null]) tyX2 inX2 tyX2_ok bcl_RL_83 bin_RX2 bz_NoticeBookModel rfl (by intro j hj; rcases j with _ | _ | _ | _ | _ | _ | _ | _ | _ | _ | _ | _ | _ | _ | _ | _ | _ | _ | _ | _ | _ | _ | _ | j <;> first | rfl | omega) (Nat.le_of_ble_eq_true rfl) (Nat.le_of_ble_eq_true rfl) dL_law_8 (fun c5 => ?_)
  refine go_w (w2 := [(c0, .inr (1, [.ref c1, .ref c2, .ref c3, .ref c4, .int 0, .int 250, .int 0, .int 0])), (c1, .inl (cI, 3, .inl (upd (upd (upd (fun _ => 0) 0 100) 1 200) 2 300))), (c2, .inl (cJ, 4, .inr (.inl (fun _ => 0)))), (c3, .inl (cJ, 4, .inr (.inl (fun _ => 0)))), (c4, .inl (cO, 40, .inr (.inr (.inr (.inr (fun _ => none)))))), (c5, .inr (2, [.null, .int 0, .int 0, .int 0, .null, .null, .null, .null, .null, .null, .null, .null, .null, .null, .null, .null, .null, .null, .int 0, .int 0, .null, .null, .null]))]) rfl ?_
  refine go_dup C dL_law_11 rfl ?_
  refine k_RL_85 C _ _ _ _ _ c5 ⟨(Nat.le_of_ble_eq_true rfl), (Nat.le_of_ble_eq_true rfl)⟩ ⟨(Nat.le_of_ble_eq_true rfl), (Nat.le_of_ble_eq_true rfl)⟩ (Nat.le_of_ble_eq_true rfl) dL_law_12 (fun c6 c7 c8 c9 c10 c11 c12 c13 c14 c15 c16 c17 c18 c19 c20 c21 c22 c23 => ?_)
  refine go_astore_n C (lo' := [(2, .ref c5), (1, .ref c0), (0, .ref b)]) dL_law_15 rfl (by decide) rfl ?_
  refine go_iconst C (v := 1) dL_law_16 (by decide) ?_
  refine go_newarray C (ty := .long) (N9 := 1) (t0 := 1) (cA := cJ) (a0 := (1, .inr (.inl (fun _ => 0)))) ba_long rfl rfl (fun _ => rfl) (by decide) (by decide) (by decide) (Nat.le_of_ble_eq_true rfl) (Nat.le_of_ble_eq_true rfl) dL_law_17 (fun c24 => ?_)
  refine go_astore_n C (lo' := [(3, .ref c24), (2, .ref c5), (1, .ref c0), (0, .ref b)]) dL_law_19 rfl (by decide) rfl ?_
  refine go_iconst C (v := 0) dL_law_20 (by decide) ?_
  refine go_istore C (lo' := [(4, .int 0), (3, .ref c24), (2, .ref c5), (1, .ref c0), (0, .ref b)]) dL_law_21 (by decide) rfl ?_
  exact g (aL [c0, c1, c2, c3, c4, c5, c6, c7, c8, c9, c10, c11, c12, c13, c14, c15, c16, c17, c18, c19, c20, c21, c22, c23, c24])
