/-! the loop of turns, the law's end, the claim -/
theorem lp_a {k c r N : Nat} (h : k + c * (r + 1) ≤ N) : k + c ≤ N ∧ k + c + c * r ≤ N := by
  rw [Nat.mul_succ] at h
  exact ⟨by omega, by omega⟩
theorem lp_b {k c N x : Nat} (h : k + c ≤ N) (hx : x ≤ c) : k + x ≤ N := by omega
theorem lp_c {k c r N x : Nat} (h : k + c + c * r ≤ N) (hx : x ≤ c) : k + x + c * r ≤ N := by omega
theorem lp_d {k c r N x y : Nat} (h : k + c + c * r ≤ N) (hx : x + y ≤ c) : k + x + y + c * r ≤ N := by omega
theorem lp_e {k c N0 N x : Nat} (h : k + c * 0 ≤ N0) (hx : N0 + x ≤ N) : k + x ≤ N := by
  rw [Nat.mul_zero] at h
  omega
theorem lp_n {N0 N : Nat} {k : Nat} (h : k ≤ N0) (h2 : N0 ≤ N) : k ≤ N := Nat.le_trans h h2
theorem law_exit {p : Program} {l : Launch} {e : Env} {s : State} {m : MethodId} {below : List Frame} {meth : Method} {c : Code} {D : va_G} {nm : String} {k n : Nat} {tys : List (ClassId × FieldType)} {w : va_W} {lo : List (Nat × Value)} {b : Nat} (C : Cxt p s m #[Value.ref b] meth c D tys s.heap.size code 23 RL ret nm) (hk : k ≤ 644676) (hn : n ≤ 7167596) : Go p l e room_1 s m #[Value.ref b] below meth c D s.heap.size 23 (lw_Z below #[Value.ref b] s) w k n 2072 lo [.int 1] := fun H locs ls hP hD hS hl =>
  va_forget (fun q hq => hS.2.2 q hq) (W.widen hk hn (lw_ret C.1 C.2.1 C.2.2.2.2.2.2.2.2.1 C.2.2.2.2.2.2.2.1 dL_law_2072))
set_option maxHeartbeats 4000000 in
theorem law_loop {p : Program} {l : Launch} {e : Env} {s : State} {m : MethodId} {below : List Frame} {meth : Method} {c : Code} {D : va_G} {nm : String} {cI cJ cO : ClassId} {a : Nat → Nat} {b L : Nat} {xs : Nat → Int32} (C : Cxt p s m #[Value.ref b] meth c D (tysW cI cJ cO) s.heap.size code 23 RL ret nm) (hlf : l.stackTraces = false) (X : Scr s s.heap.size b L xs) (hL : L ≤ 260) : ∀ (r i k n : Nat) (S : CS) (M : LWS), i + r = 100 → k + 400 * r ≤ 600000 → n + 3000 * r ≤ 7000000 → Rl S M → Go p l e room_1 s m #[Value.ref b] below meth c D s.heap.size 23 (lw_Z below #[Value.ref b] s) (wW cI cJ cO a S M []) k n 112 [(13, .int (nI i)), (12, .int 1), (11, .ref (a 14)), (10, .ref (a 13)), (9, .ref (a 12)), (8, .ref (a 11)), (7, .ref (a 10)), (6, .ref (a 9)), (5, .ref (a 8)), (4, .ref (a 7)), (3, .ref (a 6)), (2, .ref (a 5)), (1, .ref (a 0)), (0, .ref b)] [] := by
  intro r
  induction r with
  | zero =>
    intro i k n S M hir hk hn w
    refine go_iload C 0 dL_law_112 rfl ?_
    refine go_bipush C (v := 100) dL_law_114 (by decide) ?_
    have e : i = 100 := by omega
    subst e
    refine go_icmp_ge C (tgt := 2039) dL_law_116 (by decide) (fun _ => ?_) (fun q => absurd (show (100 : Int32) ≤ nI 100 by decide) q)
    exact law_end C hlf ⟨lp_e hk (Nat.le_of_ble_eq_true rfl), lp_e hn (Nat.le_of_ble_eq_true rfl)⟩ w (fun S2 k2 n2 h1 h2 => law_exit C h1 h2)
  | succ r ih =>
    intro i k n S M hir hk hn w
    refine go_iload C 0 dL_law_112 rfl ?_
    refine go_bipush C (v := 100) dL_law_114 (by decide) ?_
    refine go_icmp_ge C (tgt := 2039) dL_law_116 (by decide) (fun q => absurd q (show ¬ nI 100 ≤ nI i from nI_ge (by omega) (by omega))) (fun _ => ?_)
    refine go_iload C 1 dL_law_119 rfl ?_
    refine go_if_eq C (tgt := 2039) dL_law_121 (by decide) (fun q => absurd q (by decide)) (fun _ => ?_)
    obtain ⟨hk1, hk2⟩ := lp_a hk
    obtain ⟨hn1, hn2⟩ := lp_a hn
    clear hk hn
    refine law_x C X hL (by omega) (fun X1 hX1 => ?_)
    refine law_kind C hX1 (by omega) (fun kd hkd => ?_)
    refine law_lot0 C (by omega) w (fun j0 hj0 hj1 => ?_)
    refine go_iconst C (v := 0) dL_law_209 (by decide) ?_
    refine go_istore C (lo' := (18, .int (nI 0)) :: (17, .int (nI j0)) :: (16, .int (nI (X1 / 20))) :: (15, .int (nI kd)) :: [(13, .int (nI i)), (12, .int 1), (11, .ref (a 14)), (10, .ref (a 13)), (9, .ref (a 12)), (8, .ref (a 11)), (7, .ref (a 10)), (6, .ref (a 9)), (5, .ref (a 8)), (4, .ref (a 7)), (3, .ref (a 6)), (2, .ref (a 5)), (1, .ref (a 0)), (0, .ref b)]) dL_law_210 (by decide) rfl ?_
    refine law_lot C (by omega) w (fun j hj _ => ?_) 20 0 j0 (by omega) hj0 hj1
    refine law_cust C (by omega) (fun cu hcu => ?_)
    refine law_cents C (by omega) (fun ct hct1 hct2 => ?_)
    refine law_case C hlf ⟨lp_n (lp_b hk1 (Nat.le_of_ble_eq_true rfl)) (Nat.le_of_ble_eq_true rfl), lp_n (lp_b hn1 (Nat.le_of_ble_eq_true rfl)) (Nat.le_of_ble_eq_true rfl)⟩ w (by omega) hj hcu ⟨hct1, hct2⟩ hkd (fun S2 M2 w2 => ?_)
    refine law_tail C hlf ⟨lp_n (Nat.add_assoc k 60 300 ▸ lp_b hk1 (Nat.le_of_ble_eq_true rfl)) (Nat.le_of_ble_eq_true rfl), lp_n (Nat.add_assoc n 600 2000 ▸ lp_b hn1 (Nat.le_of_ble_eq_true rfl)) (Nat.le_of_ble_eq_true rfl)⟩ w2 (by omega) (fun S3 w3 => ?_)
    exact ih (i + 1) (k + 60 + 300) (n + 600 + 2000) S3 M2 (by omega) (lp_d hk2 (Nat.le_of_ble_eq_true rfl)) (lp_d hn2 (Nat.le_of_ble_eq_true rfl)) w3
theorem no_traces {l : Launch} (hflags : l.flags = flags0) : l.stackTraces = false := by
  unfold Launch.stackTraces
  rw [hflags]
  decide
theorem whole_start {p : Program} {e : Env} {s : State} {m : MethodId} {below : List Frame} {meth : Method} {c : Code} (l : Launch) (hflags : l.flags = flags0) {b L : Nat} {xs : Nat → Int32} (hL : L ≤ 260) (C0 : lw_At p s m meth c b L xs) : W p l e room_1 s m #[Value.ref b] below meth c s.heap [] 0 0 (lw_Z below #[Value.ref b] s) (entryFrame m ([Value.ref b] : List Value).toArray 23) := by
  obtain ⟨D, cI, cJ, cO, C⟩ := st_ctx C0
  obtain ⟨hx, hb, hr, hml, hown, hts, hX, hbl, hlk, hgv⟩ := C0
  have X : Scr s s.heap.size b L xs := ⟨hX, hbl, fun q => absurd (show s.heap.size ≤ b from q) (Nat.not_le.mpr hbl)⟩
  have G : Go p l e room_1 s m #[Value.ref b] below meth c D s.heap.size 23 (lw_Z below #[Value.ref b] s) [] 0 0 0 [(0, .ref b)] [] := law_start C (fun a => law_init (S := S0) (M := L0) (i := 0) C (no_traces hflags) ⟨Nat.le_of_ble_eq_true rfl, Nat.le_of_ble_eq_true rfl⟩ (fun S2 w2 => law_loop C (no_traces hflags) X hL 100 0 _ _ S2 L0 rfl (Nat.le_of_ble_eq_true rfl) (Nat.le_of_ble_eq_true rfl) w2))
  rw [lg_entry_eq]
  exact G s.heap [] _ (fun i x hi => by simp at hi) ⟨fun i j x y hi _ => by simp at hi, fun i x hi => by simp at hi⟩ nb_S0 (lv_entry [Value.ref b] (n := 23) (Nat.le_of_ble_eq_true rfl))
