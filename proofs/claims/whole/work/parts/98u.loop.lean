/-! one round of the law, the loop, the claim -/
theorem int_cases {v : Int32} (h0 : ¬ v.toInt < 0) (h1 : ¬ 23 < v.toInt) : ∃ t : Nat, t < 24 ∧ v = nI t := by
  obtain ⟨t, ht, rfl⟩ := nI_of (x := v) (by rw [i_lt, i_0]; exact h0)
  rw [nI_toInt ht] at h1
  exact ⟨t, by omega, rfl⟩
set_option maxHeartbeats 4000000 in
theorem law_body {p : Program} {l : Launch} {e : Env} {s : State} {m : MethodId} {args : Array Value} {below : List Frame} {meth : Method} {c : Code} {D : va_G} {N0 : Nat} {nm : String} {ret : Option FieldType} {Q : State → Prop} {k n : Nat} {cI cJ cZ cO : ClassId} {a : Nat → Nat} {b L i : Nat} {xs : Nat → Int32} {S : CS} {M : MS} {ov : Nat → Int64} (C : Cxt p s m args meth c D (tysW cI cJ cZ cO) N0 code 8 RL ret nm) (hlf : l.stackTraces = false) (X : Scr s N0 b L xs) (hi : i + 5 ≤ L) (hL : L ≤ 2560) (hk : k + 1000 ≤ 601024 ∧ n + 10000 ≤ 7293034) (h : Rel S M) (g : ∀ S2 M2 ov2, Rel S2 M2 → Go p l e room_1 s m args below meth c D N0 8 Q (wW cI cJ cZ cO a S2 M2 ov2) (k + 1000) (n + 10000) 1494 [(4, .int (nI i)), (3, .ref (a 24)), (2, .ref (a 5)), (1, .ref (a 0)), (0, .ref b)] []) : Go p l e room_1 s m args below meth c D N0 8 Q (wW cI cJ cZ cO a S M ov) k n 32 [(4, .int (nI i)), (3, .ref (a 24)), (2, .ref (a 5)), (1, .ref (a 0)), (0, .ref b)] [] := by
  have hv0 : vp_in (nI i) L := vp_in_nI (by omega) (by omega)
  have hv1 : vp_in (nI i + 1) L := by rw [show (1 : Int32) = nI 1 from rfl, nI_add]; exact vp_in_nI (by omega) (by omega)
  have hv2 : vp_in (nI i + 2) L := by rw [show (2 : Int32) = nI 2 from rfl, nI_add]; exact vp_in_nI (by omega) (by omega)
  have hv3 : vp_in (nI i + 3) L := by rw [show (3 : Int32) = nI 3 from rfl, nI_add]; exact vp_in_nI (by omega) (by omega)
  have hv4 : vp_in (nI i + 4) L := by rw [show (4 : Int32) = nI 4 from rfl, nI_add]; exact vp_in_nI (by omega) (by omega)
  refine go_aload_n C 4 dL_law_32 rfl rfl ?_
  refine go_iload C 0 dL_law_33 rfl ?_
  refine go_sld C X hv0 dL_law_35 ?_
  refine go_bipush C (v := 31) dL_law_36 (by decide) ?_
  refine go_iand C dL_law_38 ?_
  generalize xs (Int32.toNatClampNeg (nI i)) &&& 31 = v
  by_cases q : v.toInt < 0 ∨ 23 < v.toInt
  · refine go_switchOut C (tgt := 1494) dL_law_39 q (by decide) ?_
    refine go_widen (k2 := k + 1000) (n2 := n + 10000) (by omega) (by omega) ?_
    exact g _ _ _ h
  · obtain ⟨t, ht, rfl⟩ := int_cases (fun z => q (Or.inl z)) (fun z => q (Or.inr z))
    rcases t with _ | _ | _ | _ | _ | _ | _ | _ | _ | _ | _ | _ | _ | _ | _ | _ | _ | _ | _ | _ | _ | _ | _ | _ | t
    · refine go_switch C (off := 109) (tgt := 148) dL_law_39 (by decide) (by decide) rfl (by decide) ?_
      exact law_setRate C hlf X hv1 hv2 hv3 hv4 rfl rfl rfl rfl hk h g
    · refine go_switch C (off := 177) (tgt := 216) dL_law_39 (by decide) (by decide) rfl (by decide) ?_
      exact law_setByBands C hlf X hv1 hv2 hv3 hv4 rfl rfl rfl rfl hk h g
    · refine go_switch C (off := 218) (tgt := 257) dL_law_39 (by decide) (by decide) rfl (by decide) ?_
      exact law_setTermRate C hlf X hv1 hv2 hv3 hv4 rfl rfl rfl rfl hk h g
    · refine go_switch C (off := 274) (tgt := 313) dL_law_39 (by decide) (by decide) rfl (by decide) ?_
      exact law_deposit C hlf X hv1 hv2 hv3 hv4 rfl rfl rfl rfl hk h g
    · refine go_switch C (off := 342) (tgt := 381) dL_law_39 (by decide) (by decide) rfl (by decide) ?_
      exact law_depositTerm C hlf X hv1 hv2 hv3 hv4 rfl rfl rfl rfl hk h g
    · refine go_switch C (off := 434) (tgt := 473) dL_law_39 (by decide) (by decide) rfl (by decide) ?_
      exact law_give C hlf X hv1 hv2 hv3 hv4 rfl rfl rfl rfl hk h g
    · refine go_switch C (off := 502) (tgt := 541) dL_law_39 (by decide) (by decide) rfl (by decide) ?_
      exact law_withdraw C hlf X hv1 hv2 hv3 hv4 rfl rfl rfl rfl hk h g
    · refine go_switch C (off := 558) (tgt := 597) dL_law_39 (by decide) (by decide) rfl (by decide) ?_
      exact law_take C hlf X hv1 hv2 hv3 hv4 rfl rfl rfl rfl hk h g
    · refine go_switch C (off := 614) (tgt := 653) dL_law_39 (by decide) (by decide) rfl (by decide) ?_
      exact law_early C hlf X hv1 hv2 hv3 hv4 rfl rfl rfl rfl hk h g
    · refine go_switch C (off := 682) (tgt := 721) dL_law_39 (by decide) (by decide) rfl (by decide) ?_
      exact law_instruct C hlf X hv1 hv2 hv3 hv4 rfl rfl rfl rfl hk h g
    · refine go_switch C (off := 750) (tgt := 789) dL_law_39 (by decide) (by decide) rfl (by decide) ?_
      exact law_letGo C hlf X hv1 hv2 hv3 hv4 rfl rfl rfl rfl hk h g
    · refine go_switch C (off := 806) (tgt := 845) dL_law_39 (by decide) (by decide) rfl (by decide) ?_
      exact law_join C hlf X hv1 hv2 hv3 hv4 rfl rfl rfl rfl hk h g
    · refine go_switch C (off := 874) (tgt := 913) dL_law_39 (by decide) (by decide) rfl (by decide) ?_
      exact law_pass C hlf X hv1 hv2 hv3 hv4 rfl rfl rfl rfl hk h g
    · refine go_switch C (off := 930) (tgt := 969) dL_law_39 (by decide) (by decide) rfl (by decide) ?_
      exact law_today C hlf X hv1 hv2 hv3 hv4 rfl rfl rfl rfl hk h g
    · refine go_switch C (off := 943) (tgt := 982) dL_law_39 (by decide) (by decide) rfl (by decide) ?_
      exact law_lots C hlf X hv1 hv2 hv3 hv4 rfl rfl rfl rfl hk h g
    · refine go_switch C (off := 956) (tgt := 995) dL_law_39 (by decide) (by decide) rfl (by decide) ?_
      exact law_principal C hlf X hv1 hv2 hv3 hv4 rfl rfl rfl rfl hk h g
    · refine go_switch C (off := 1012) (tgt := 1051) dL_law_39 (by decide) (by decide) rfl (by decide) ?_
      exact law_earned C hlf X hv1 hv2 hv3 hv4 rfl rfl rfl rfl hk h g
    · refine go_switch C (off := 1067) (tgt := 1106) dL_law_39 (by decide) (by decide) rfl (by decide) ?_
      exact law_partsOfDay C hlf X hv1 hv2 hv3 hv4 rfl rfl rfl rfl hk h g
    · refine go_switch C (off := 1122) (tgt := 1161) dL_law_39 (by decide) (by decide) rfl (by decide) ?_
      exact law_frozen C hlf X hv1 hv2 hv3 hv4 rfl rfl rfl rfl hk h g
    · refine go_switch C (off := 1178) (tgt := 1217) dL_law_39 (by decide) (by decide) rfl (by decide) ?_
      exact law_endOf C hlf X hv1 hv2 hv3 hv4 rfl rfl rfl rfl hk h g
    · refine go_switch C (off := 1234) (tgt := 1273) dL_law_39 (by decide) (by decide) rfl (by decide) ?_
      exact law_total C hlf X hv1 hv2 hv3 hv4 rfl rfl rfl rfl hk h g
    · refine go_switch C (off := 1290) (tgt := 1329) dL_law_39 (by decide) (by decide) rfl (by decide) ?_
      exact law_partsByTotal C hlf X hv1 hv2 hv3 hv4 rfl rfl rfl rfl hk h g
    · refine go_switch C (off := 1345) (tgt := 1384) dL_law_39 (by decide) (by decide) rfl (by decide) ?_
      exact law_paid C hlf X hv1 hv2 hv3 hv4 rfl rfl rfl rfl hk h g
    · refine go_switch C (off := 1400) (tgt := 1439) dL_law_39 (by decide) (by decide) rfl (by decide) ?_
      exact law_lost C hlf X hv1 hv2 hv3 hv4 rfl rfl rfl rfl hk h g
    · omega
theorem law_exit {p : Program} {l : Launch} {e : Env} {s : State} {m : MethodId} {below : List Frame} {meth : Method} {c : Code} {D : va_G} {nm : String} {k n : Nat} {tys : List (ClassId × FieldType)} {w : va_W} {lo : List (Nat × Value)} {b : Nat} (C : Cxt p s m #[Value.ref b] meth c D tys s.heap.size code 8 RL ret nm) (hk : k ≤ 601024) (hn : n ≤ 7293034) : Go p l e room_1 s m #[Value.ref b] below meth c D s.heap.size 8 (lw_Z below #[Value.ref b] s) w k n 1501 lo [.int 1] := fun H locs ls hP hD hS hl =>
  va_forget (fun q hq => hS.2.2 q hq) (W.widen hk hn (lw_ret C.1 C.2.1 C.2.2.2.2.2.2.2.2.1 C.2.2.2.2.2.2.2.1 dL_law_1501))
set_option maxHeartbeats 4000000 in
theorem law_loop {p : Program} {l : Launch} {e : Env} {s : State} {m : MethodId} {below : List Frame} {meth : Method} {c : Code} {D : va_G} {nm : String} {cI cJ cZ cO : ClassId} {a : Nat → Nat} {b L : Nat} {xs : Nat → Int32} (C : Cxt p s m #[Value.ref b] meth c D (tysW cI cJ cZ cO) s.heap.size code 8 RL ret nm) (hlf : l.stackTraces = false) (X : Scr s s.heap.size b L xs) (hL : L ≤ 2560) : ∀ (r i k n : Nat) (S : CS) (M : MS) (ov : Nat → Int64), L < i + 5 * r + 5 → i ≤ 2560 → k + 1000 * r ≤ 601024 → n + 10000 * r ≤ 7293034 → Rel S M → Go p l e room_1 s m #[Value.ref b] below meth c D s.heap.size 8 (lw_Z below #[Value.ref b] s) (wW cI cJ cZ cO a S M ov) k n 23 [(4, .int (nI i)), (3, .ref (a 24)), (2, .ref (a 5)), (1, .ref (a 0)), (0, .ref b)] [] := by
  intro r
  induction r with
  | zero =>
    intro i k n S M ov hr hi hk hn h
    have eL : (nI L).toInt = L := nI_toInt (by omega)
    have ei : (nI i).toInt = i := nI_toInt (by omega)
    have e5 : (5 : Int32).toInt = 5 := rfl
    have es : (nI L - 5).toInt = L - 5 := by rw [i_sub (by omega) (by omega), eL, e5]
    refine go_iload C 0 dL_law_23 rfl ?_
    refine go_aload_n C 4 dL_law_25 rfl rfl ?_
    refine go_slen C X dL_law_26 ?_
    refine go_iconst C (v := 5) dL_law_27 (by decide) ?_
    refine go_isub C dL_law_28 ?_
    refine go_icmp_gt C (tgt := 1500) dL_law_29 (by decide) (fun _ => ?_) (fun z => ?_)
    · refine go_iconst C (v := 1) dL_law_1500 (by decide) ?_
      exact law_exit C (by omega) (by omega)
    · exfalso
      rw [i_lt, es, ei] at z
      omega
  | succ r ih =>
    intro i k n S M ov hr hi hk hn h
    have eL : (nI L).toInt = L := nI_toInt (by omega)
    have ei : (nI i).toInt = i := nI_toInt (by omega)
    have e5 : (5 : Int32).toInt = 5 := rfl
    have es : (nI L - 5).toInt = L - 5 := by rw [i_sub (by omega) (by omega), eL, e5]
    refine go_iload C 0 dL_law_23 rfl ?_
    refine go_aload_n C 4 dL_law_25 rfl rfl ?_
    refine go_slen C X dL_law_26 ?_
    refine go_iconst C (v := 5) dL_law_27 (by decide) ?_
    refine go_isub C dL_law_28 ?_
    refine go_icmp_gt C (tgt := 1500) dL_law_29 (by decide) (fun _ => ?_) (fun z => ?_)
    · refine go_iconst C (v := 1) dL_law_1500 (by decide) ?_
      exact law_exit C (by omega) (by omega)
    · rw [i_lt, es, ei] at z
      have hk1 : k + 1000 ≤ 601024 := Nat.le_trans (Nat.add_le_add_left (by rw [Nat.mul_succ]; exact Nat.le_add_left _ _) k) hk
      have hn1 : n + 10000 ≤ 7293034 := Nat.le_trans (Nat.add_le_add_left (by rw [Nat.mul_succ]; exact Nat.le_add_left _ _) n) hn
      refine law_body C hlf X (by omega) hL ⟨hk1, hn1⟩ h (fun S2 M2 ov2 h2 => ?_)
      refine go_iinc C (v := nI (i + 5)) (lo' := [(4, .int (nI (i + 5))), (3, .ref (a 24)), (2, .ref (a 5)), (1, .ref (a 0)), (0, .ref b)]) 0 dL_law_1494 rfl (nI_add i 5) (by decide) rfl ?_
      refine go_goto C (tgt := 23) dL_law_1497 (by decide) ?_
      exact ih (i + 5) (k + 1000) (n + 10000) S2 M2 ov2 (by omega) (by omega) (by rw [Nat.add_right_comm, Nat.add_assoc, ← Nat.mul_succ]; exact hk) (by rw [Nat.add_right_comm, Nat.add_assoc, ← Nat.mul_succ]; exact hn) h2
theorem no_traces {l : Launch} (hflags : l.flags = flags0) : l.stackTraces = false := by
  unfold Launch.stackTraces
  rw [hflags]
  decide
theorem whole_start {p : Program} {e : Env} {s : State} {m : MethodId} {below : List Frame} {meth : Method} {c : Code} (l : Launch) (hflags : l.flags = flags0) {b L : Nat} {xs : Nat → Int32} (hL : L ≤ 2560) (C0 : lw_At p s m meth c b L xs) : W p l e room_1 s m #[Value.ref b] below meth c s.heap [] 0 0 (lw_Z below #[Value.ref b] s) (entryFrame m ([Value.ref b] : List Value).toArray 8) := by
  obtain ⟨D, cI, cJ, cZ, cO, C⟩ := st_ctx C0
  obtain ⟨hx, hb, hr, hml, hown, hts, hX, hbl, hlk, hgv⟩ := C0
  have X : Scr s s.heap.size b L xs := ⟨hX, hbl, fun q => absurd (show s.heap.size ≤ b from q) (Nat.not_le.mpr hbl)⟩
  have G : Go p l e room_1 s m #[Value.ref b] below meth c D s.heap.size 8 (lw_Z below #[Value.ref b] s) [] 0 0 0 [(0, .ref b)] [] := law_start C (fun a => law_loop C (no_traces hflags) X hL 512 0 25 694 S0 M0 (fun _ => 0) (by omega) (by omega) (Nat.le_of_ble_eq_true rfl) (Nat.le_of_ble_eq_true rfl) rel0)
  rw [lg_entry_eq]
  exact G s.heap [] _ (fun i x hi => by simp at hi) ⟨fun i j x y hi _ => by simp at hi, fun i x hi => by simp at hi⟩ nb_S0 (lv_entry [Value.ref b] (n := 8) (Nat.le_of_ble_eq_true rfl))
