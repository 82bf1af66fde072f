set_option maxHeartbeats 4000000 in
set_option maxRecDepth 100000 in
theorem c_X2_instruct (l : Launch) (D : va_G) (cI cJ cZ cO : ClassId) (N0 : Nat) (a : Nat → Nat) (S : CS) (M : MS) (ov : Nat → Int64) (z v : Int32) (hok : okM M) : Ct l D (tysW cI cJ cZ cO) N0 yX2_instruct cX2_instruct 4 (some .int) { frames := 2, cells := 0, slots := 0, locals := 43 } [.ref (a 5), .int z, .int v] (wW cI cJ cZ cO a S M ov) (fun r w2 => (kIn M z v = 0 ∧ r = some (.int (ms_ins M (Int32.toNatClampNeg z))) ∧ w2 = wW cI cJ cZ cO a S (mInS (mT0 M) z v) ov) ∨ (¬ kIn M z v = 0 ∧ r = some (.int 0) ∧ w2 = wW cI cJ cZ cO a S (ms_set_thr M (kIn M z v)) ov)) := by
  refine ct_of (by decide +kernel) (Nat.le_of_ble_eq_true rfl) ?_
  intro p e s m args below meth c C
  have C : Cxt p s m args meth c D (tysW cI cJ cZ cO) N0 cX2_instruct 4 RX2 (some .int) "instruct" := C
  refine go_aload_n C 0 dX2_instruct_0 rfl rfl ?_
  refine go_aload_n C 0 dX2_instruct_1 rfl rfl ?_
  refine go_iload_n C 1 dX2_instruct_2 rfl rfl ?_
  refine k_RX2_126 C S M ov z hok ⟨(Nat.le_of_ble_eq_true rfl), (Nat.le_of_ble_eq_true rfl)⟩ ⟨(Nat.le_of_ble_eq_true rfl), (Nat.le_of_ble_eq_true rfl)⟩ (Nat.le_of_ble_eq_true rfl) dX2_instruct_3 ?_
  refine go_if_ne C (tgt := 13) dX2_instruct_6 (by decide) (fun c_1 => ?_) (fun c_1 => ?_)
  · refine go_iload_n C 2 dX2_instruct_13 rfl rfl ?_
    refine go_iconst C (v := 0) dX2_instruct_14 (by decide) ?_
    refine go_iconst C (v := 2) dX2_instruct_15 (by decide) ?_
    refine k_RX2_73 C S M ov v 0 2 ⟨(Nat.le_of_ble_eq_true rfl), (Nat.le_of_ble_eq_true rfl)⟩ ⟨(Nat.le_of_ble_eq_true rfl), (Nat.le_of_ble_eq_true rfl)⟩ (Nat.le_of_ble_eq_true rfl) dX2_instruct_16 ?_
    refine go_if_ne C (tgt := 26) dX2_instruct_19 (by decide) (fun c_2 => ?_) (fun c_2 => ?_)
    · refine go_aload_n C 0 dX2_instruct_26 rfl rfl ?_
      refine gm_isTerm C dX2_instruct_27 ?_
      refine go_iload_n C 1 dX2_instruct_30 rfl rfl ?_
      refine lm_isTerm C (mLo_in hok c_1).2.1 dX2_instruct_31 ?_
      refine go_if_ne C (tgt := 39) dX2_instruct_32 (by decide) (fun c_3 => ?_) (fun c_3 => ?_)
      · refine go_iconst C (v := 0) dX2_instruct_39 (by decide) ?_
        refine pm_thrown C dX2_instruct_40 ?_
        refine go_aload_n C 0 dX2_instruct_43 rfl rfl ?_
        refine gm_thrown C dX2_instruct_44 ?_
        refine go_st (st2 := [.int 0]) rfl ?_
        refine go_if_le C (tgt := 52) dX2_instruct_47 (by decide) (fun c_4 => ?_) (fun c_4 => absurd c_4 (by decide))
        refine go_aload_n C 0 dX2_instruct_52 rfl rfl ?_
        refine gm_instructions C dX2_instruct_53 ?_
        refine go_iload_n C 1 dX2_instruct_56 rfl rfl ?_
        refine lm_instructions C (mLo_in hok c_1).2.1 dX2_instruct_57 ?_
        refine go_istore_n C (lo' := [(3, .int (ms_ins (ms_set_thr M 0) (Int32.toNatClampNeg z))), (0, .ref (a 5)), (1, .int z), (2, .int v)]) dX2_instruct_58 rfl (by decide) rfl ?_
        refine go_aload_n C 1 dX2_instruct_59 rfl rfl ?_
        refine gm_instructions C dX2_instruct_60 ?_
        refine go_iload_n C 2 dX2_instruct_63 rfl rfl ?_
        refine go_iload_n C 3 dX2_instruct_64 rfl rfl ?_
        refine sm_instructions C (mLo_in hok c_1).2.1 dX2_instruct_65 ?_
        refine go_iload_n C 0 dX2_instruct_66 rfl rfl ?_
        exact go_ireturn C rfl dX2_instruct_67 (by decide) (by decide) (Or.inl ⟨by simp only [kIn, if_neg c_1, if_neg c_2, if_neg c_3], rfl, rfl⟩)
      · refine go_iconst C (v := 3) dX2_instruct_35 (by decide) ?_
        refine go_goto C (tgt := 40) dX2_instruct_36 (by decide) ?_
        refine pm_thrown C dX2_instruct_40 ?_
        refine go_aload_n C 0 dX2_instruct_43 rfl rfl ?_
        refine gm_thrown C dX2_instruct_44 ?_
        refine go_st (st2 := [.int 3]) rfl ?_
        refine go_if_le C (tgt := 52) dX2_instruct_47 (by decide) (fun c_5 => absurd c_5 (by decide)) (fun c_5 => ?_)
        refine go_iconst C (v := 0) dX2_instruct_50 (by decide) ?_
        exact go_ireturn C rfl dX2_instruct_51 (by decide) (by decide) (Or.inr (by rw [show kIn M z v = 3 from by simp only [kIn, if_neg c_1, if_neg c_2, if_pos c_3]]; exact ⟨by decide, rfl, rfl⟩))
    · refine go_iconst C (v := 2) dX2_instruct_22 (by decide) ?_
      refine go_goto C (tgt := 40) dX2_instruct_23 (by decide) ?_
      refine pm_thrown C dX2_instruct_40 ?_
      refine go_aload_n C 0 dX2_instruct_43 rfl rfl ?_
      refine gm_thrown C dX2_instruct_44 ?_
      refine go_st (st2 := [.int 2]) rfl ?_
      refine go_if_le C (tgt := 52) dX2_instruct_47 (by decide) (fun c_6 => absurd c_6 (by decide)) (fun c_6 => ?_)
      refine go_iconst C (v := 0) dX2_instruct_50 (by decide) ?_
      exact go_ireturn C rfl dX2_instruct_51 (by decide) (by decide) (Or.inr (by rw [show kIn M z v = 2 from by simp only [kIn, if_neg c_1, if_pos c_2]]; exact ⟨by decide, rfl, rfl⟩))
  · refine go_iconst C (v := 1) dX2_instruct_9 (by decide) ?_
    refine go_goto C (tgt := 40) dX2_instruct_10 (by decide) ?_
    refine pm_thrown C dX2_instruct_40 ?_
    refine go_aload_n C 0 dX2_instruct_43 rfl rfl ?_
    refine gm_thrown C dX2_instruct_44 ?_
    refine go_st (st2 := [.int 1]) rfl ?_
    refine go_if_le C (tgt := 52) dX2_instruct_47 (by decide) (fun c_7 => absurd c_7 (by decide)) (fun c_7 => ?_)
    refine go_iconst C (v := 0) dX2_instruct_50 (by decide) ?_
    exact go_ireturn C rfl dX2_instruct_51 (by decide) (by decide) (Or.inr (by rw [show kIn M z v = 1 from by simp only [kIn, if_pos c_1]]; exact ⟨by decide, rfl, rfl⟩))
theorem k_RL_126 {p : Program} {l : Launch} {e : Env} {R : Room} {s : State} {m : MethodId} {args : Array Value} {below : List Frame} {meth : Method} {c : Code} {D : va_G} {N0 mL : Nat} {cc : ByteArray} {nm : String} {ret : Option FieldType} {Q : State → Prop} {k n pc : Nat} {lo : List (Nat × Value)} {st : List Value} {cI cJ cZ cO : ClassId} {a : Nat → Nat} (C : Cxt p s m args meth c D (tysW cI cJ cZ cO) N0 cc mL RL ret nm) (S : CS) (M : MS) (ov : Nat → Int64) (z v : Int32) (hok : okM M) (hR : 2 + 1 ≤ R.frames ∧ 8 + (4 + 11) + 43 ≤ R.locals) (hcs : k + 0 ≤ R.cells ∧ n + 0 ≤ R.slots) (hcat : (st.map fun v => v.category).sum ≤ 8) (dk : decode cc pc = .ok (.invokevirtual 126, 3)) (g0 : (kIn M z v = 0) → Go p l e R s m args below meth c D N0 mL Q (wW cI cJ cZ cO a S (mInS (mT0 M) z v) ov) (k) (n) (pc + 3) lo (.int (ms_ins M (Int32.toNatClampNeg z)) :: st)) (g1 : (¬ kIn M z v = 0) → Go p l e R s m args below meth c D N0 mL Q (wW cI cJ cZ cO a S (ms_set_thr M (kIn M z v)) ov) (k) (n) (pc + 3) lo (.int 0 :: st)) : Go p l e R s m args below meth c D N0 mL Q (wW cI cJ cZ cO a S M ov) k n pc lo (.int v :: .int z :: .ref (a 5) :: st) :=
  go_callV C (ci := 2) (r9 := (RX2, TX2, 23)) (qi := 5) (As := [.int z, .int v]) (rest := st) rfl rfl (c_X2_instruct l D cI cJ cZ cO N0 a S M ov z v hok) ⟨rfl, by decide +kernel, by decide +kernel⟩ bl_RL_126 bi_yX2_instruct bs_yX2_instruct bz_NoticeBookModel bc_yX2_instruct (show Option.map (fun d => d.parameters.length) (parseMethodDescriptor yX2_instruct.desc) = some 2 by decide +kernel) hR hcs hcat dk (fun r w2 h => by
    rcases h with ⟨h9, rfl, rfl⟩ | ⟨h9, rfl, rfl⟩
    · exact g0 h9
    · exact g1 h9) rfl
set_option maxHeartbeats 4000000 in
set_option maxRecDepth 100000 in
theorem c_X2_letGo (l : Launch) (D : va_G) (cI cJ cZ cO : ClassId) (N0 : Nat) (a : Nat → Nat) (S : CS) (M : MS) (ov : Nat → Int64) (z : Int32) (hok : okM M) : Ct l D (tysW cI cJ cZ cO) N0 yX2_letGo cX2_letGo 2 (some .int) { frames := 2, cells := 0, slots := 0, locals := 43 } [.ref (a 5), .int z] (wW cI cJ cZ cO a S M ov) (fun r w2 => (kLg M z = 0 ∧ r = some (.int (ms_pr M (Int32.toNatClampNeg z))) ∧ w2 = wW cI cJ cZ cO a S (mLg (mT0 M) (Int32.toNatClampNeg z)) ov) ∨ (¬ kLg M z = 0 ∧ r = some (.int 0) ∧ w2 = wW cI cJ cZ cO a S (ms_set_thr M (kLg M z)) ov)) := by
  refine ct_of (by decide +kernel) (Nat.le_of_ble_eq_true rfl) ?_
  intro p e s m args below meth c C
  have C : Cxt p s m args meth c D (tysW cI cJ cZ cO) N0 cX2_letGo 2 RX2 (some .int) "letGo" := C
  refine go_aload_n C 0 dX2_letGo_0 rfl rfl ?_
  refine go_aload_n C 0 dX2_letGo_1 rfl rfl ?_
  refine go_iload_n C 1 dX2_letGo_2 rfl rfl ?_
  refine k_RX2_126 C S M ov z hok ⟨(Nat.le_of_ble_eq_true rfl), (Nat.le_of_ble_eq_true rfl)⟩ ⟨(Nat.le_of_ble_eq_true rfl), (Nat.le_of_ble_eq_true rfl)⟩ (Nat.le_of_ble_eq_true rfl) dX2_letGo_3 ?_
  refine go_if_ne C (tgt := 13) dX2_letGo_6 (by decide) (fun c_1 => ?_) (fun c_1 => ?_)
  · refine go_aload_n C 0 dX2_letGo_13 rfl rfl ?_
    refine gm_isTerm C dX2_letGo_14 ?_
    refine go_iload_n C 1 dX2_letGo_17 rfl rfl ?_
    refine lm_isTerm C (mLo_in hok c_1).2.1 dX2_letGo_18 ?_
    refine go_if_eq C (tgt := 48) dX2_letGo_19 (by decide) (fun c_2 => ?_) (fun c_2 => ?_)
    · refine go_iconst C (v := 2) dX2_letGo_48 (by decide) ?_
      refine go_goto C (tgt := 53) dX2_letGo_49 (by decide) ?_
      refine pm_thrown C dX2_letGo_53 ?_
      refine go_aload_n C 0 dX2_letGo_56 rfl rfl ?_
      refine gm_thrown C dX2_letGo_57 ?_
      refine go_st (st2 := [.int 2]) rfl ?_
      refine go_if_le C (tgt := 65) dX2_letGo_60 (by decide) (fun c_3 => absurd c_3 (by decide)) (fun c_3 => ?_)
      refine go_iconst C (v := 0) dX2_letGo_63 (by decide) ?_
      exact go_ireturn C rfl dX2_letGo_64 (by decide) (by decide) (Or.inr (by rw [show kLg M z = 2 from by simp only [kLg, if_neg c_1, if_pos c_2]]; exact ⟨by decide, rfl, rfl⟩))
    · refine go_aload_n C 0 dX2_letGo_22 rfl rfl ?_
      refine gm_begun C dX2_letGo_23 ?_
      refine go_iload_n C 1 dX2_letGo_26 rfl rfl ?_
      refine lm_begun C (mLo_in hok c_1).2.1 dX2_letGo_27 ?_
      refine go_iconst C (v := (-1)) dX2_letGo_28 (by decide) ?_
      refine go_icmp_eq C (tgt := 48) dX2_letGo_29 (by decide) (fun c_4 => ?_) (fun c_4 => ?_)
      · refine go_iconst C (v := 2) dX2_letGo_48 (by decide) ?_
        refine go_goto C (tgt := 53) dX2_letGo_49 (by decide) ?_
        refine pm_thrown C dX2_letGo_53 ?_
        refine go_aload_n C 0 dX2_letGo_56 rfl rfl ?_
        refine gm_thrown C dX2_letGo_57 ?_
        refine go_st (st2 := [.int 2]) rfl ?_
        refine go_if_le C (tgt := 65) dX2_letGo_60 (by decide) (fun c_5 => absurd c_5 (by decide)) (fun c_5 => ?_)
        refine go_iconst C (v := 0) dX2_letGo_63 (by decide) ?_
        exact go_ireturn C rfl dX2_letGo_64 (by decide) (by decide) (Or.inr (by rw [show kLg M z = 2 from by simp only [kLg, if_neg c_1, if_neg c_2, if_pos c_4]]; exact ⟨by decide, rfl, rfl⟩))
      · refine go_aload_n C 0 dX2_letGo_32 rfl rfl ?_
        refine gm_begun C dX2_letGo_33 ?_
        refine go_iload_n C 1 dX2_letGo_36 rfl rfl ?_
        refine lm_begun C (mLo_in hok c_1).2.1 dX2_letGo_37 ?_
        refine go_aload_n C 0 dX2_letGo_38 rfl rfl ?_
        refine gm_now C dX2_letGo_39 ?_
        refine go_bipush C (v := 6) dX2_letGo_42 (by decide) ?_
        refine go_isub C dX2_letGo_44 ?_
        refine go_icmp_ge C (tgt := 52) dX2_letGo_45 (by decide) (fun c_6 => ?_) (fun c_6 => ?_)
        · refine go_iconst C (v := 0) dX2_letGo_52 (by decide) ?_
          refine pm_thrown C dX2_letGo_53 ?_
          refine go_aload_n C 0 dX2_letGo_56 rfl rfl ?_
          refine gm_thrown C dX2_letGo_57 ?_
          refine go_st (st2 := [.int 0]) rfl ?_
          refine go_if_le C (tgt := 65) dX2_letGo_60 (by decide) (fun c_7 => ?_) (fun c_7 => absurd c_7 (by decide))
          refine go_aload_n C 0 dX2_letGo_65 rfl rfl ?_
          refine gm_lostBy C dX2_letGo_66 ?_
          refine go_aload_n C 0 dX2_letGo_69 rfl rfl ?_
          refine gm_owners C dX2_letGo_70 ?_
          refine go_iload_n C 1 dX2_letGo_73 rfl rfl ?_
          refine lm_owners C (mLo_in hok c_1).2.1 dX2_letGo_74 ?_
          refine go_dup2 C dX2_letGo_75 rfl rfl ?_
          refine lm_lostBy C (hok.2 _ (vin_eq (mLo_in hok c_1).2.1 (by decide)).2) dX2_letGo_76 ?_
          refine go_aload_n C 0 dX2_letGo_77 rfl rfl ?_
          refine gm_earnings C dX2_letGo_78 ?_
          refine go_iload_n C 1 dX2_letGo_81 rfl rfl ?_
          refine lm_earnings C (mLo_in hok c_1).2.1 dX2_letGo_82 ?_
          refine go_ladd C dX2_letGo_83 ?_
          refine sm_lostBy C (hok.2 _ (vin_eq (mLo_in hok c_1).2.1 (by decide)).2) dX2_letGo_84 ?_
          refine go_w (w2 := wW cI cJ cZ cO a S (mLg1 (mT0 M) (Int32.toNatClampNeg z)) ov) rfl ?_
          refine go_aload_n C 0 dX2_letGo_85 rfl rfl ?_
          refine gm_isThere C dX2_letGo_86 ?_
          refine go_iload_n C 1 dX2_letGo_89 rfl rfl ?_
          refine go_iconst C (v := 0) dX2_letGo_90 (by decide) ?_
          refine sm_isThere C (mLo_in hok c_1).2.1 dX2_letGo_91 ?_
          refine go_w (w2 := wW cI cJ cZ cO a S (mTh (mLg1 (mT0 M) (Int32.toNatClampNeg z)) (Int32.toNatClampNeg z) 0) ov) rfl ?_
          refine go_aload_n C 0 dX2_letGo_92 rfl rfl ?_
          refine go_aload_n C 0 dX2_letGo_93 rfl rfl ?_
          refine gm_owners C dX2_letGo_94 ?_
          refine go_iload_n C 1 dX2_letGo_97 rfl rfl ?_
          refine lm_owners C (mLo_in hok c_1).2.1 dX2_letGo_98 ?_
          refine go_aload_n C 0 dX2_letGo_99 rfl rfl ?_
          refine gm_principals C dX2_letGo_100 ?_
          refine go_iload_n C 1 dX2_letGo_103 rfl rfl ?_
          refine lm_principals C (mLo_in hok c_1).2.1 dX2_letGo_104 ?_
          refine k_RX2_132 C S (mTh (mLg1 (mT0 M) (Int32.toNatClampNeg z)) (Int32.toNatClampNeg z) 0) ov (ms_ow (mTh (mLg1 (mT0 M) (Int32.toNatClampNeg z)) (Int32.toNatClampNeg z) 0) (Int32.toNatClampNeg z)) (ms_pr (mTh (mLg1 (mT0 M) (Int32.toNatClampNeg z)) (Int32.toNatClampNeg z) 0) (Int32.toNatClampNeg z)) (hok.2 _ (vin_eq (mLo_in hok c_1).2.1 (by decide)).2) ⟨(Nat.le_of_ble_eq_true rfl), (Nat.le_of_ble_eq_true rfl)⟩ ⟨(Nat.le_of_ble_eq_true rfl), (Nat.le_of_ble_eq_true rfl)⟩ (Nat.le_of_ble_eq_true rfl) dX2_letGo_105 ?_
          exact go_ireturn C rfl dX2_letGo_108 (by decide) (by decide) (Or.inl ⟨by simp only [kLg, if_neg c_1, if_neg c_2, if_neg c_4, if_pos c_6], rfl, rfl⟩)
        · refine go_iconst C (v := 2) dX2_letGo_48 (by decide) ?_
          refine go_goto C (tgt := 53) dX2_letGo_49 (by decide) ?_
          refine pm_thrown C dX2_letGo_53 ?_
          refine go_aload_n C 0 dX2_letGo_56 rfl rfl ?_
          refine gm_thrown C dX2_letGo_57 ?_
          refine go_st (st2 := [.int 2]) rfl ?_
          refine go_if_le C (tgt := 65) dX2_letGo_60 (by decide) (fun c_8 => absurd c_8 (by decide)) (fun c_8 => ?_)
          refine go_iconst C (v := 0) dX2_letGo_63 (by decide) ?_
          exact go_ireturn C rfl dX2_letGo_64 (by decide) (by decide) (Or.inr (by rw [show kLg M z = 2 from by simp only [kLg, if_neg c_1, if_neg c_2, if_neg c_4, if_neg c_6]]; exact ⟨by decide, rfl, rfl⟩))
  · refine go_iconst C (v := 1) dX2_letGo_9 (by decide) ?_
    refine go_goto C (tgt := 53) dX2_letGo_10 (by decide) ?_
    refine pm_thrown C dX2_letGo_53 ?_
    refine go_aload_n C 0 dX2_letGo_56 rfl rfl ?_
    refine gm_thrown C dX2_letGo_57 ?_
    refine go_st (st2 := [.int 1]) rfl ?_
    refine go_if_le C (tgt := 65) dX2_letGo_60 (by decide) (fun c_9 => absurd c_9 (by decide)) (fun c_9 => ?_)
    refine go_iconst C (v := 0) dX2_letGo_63 (by decide) ?_
    exact go_ireturn C rfl dX2_letGo_64 (by decide) (by decide) (Or.inr (by rw [show kLg M z = 1 from by simp only [kLg, if_pos c_1]]; exact ⟨by decide, rfl, rfl⟩))
theorem k_RL_129 {p : Program} {l : Launch} {e : Env} {R : Room} {s : State} {m : MethodId} {args : Array Value} {below : List Frame} {meth : Method} {c : Code} {D : va_G} {N0 mL : Nat} {cc : ByteArray} {nm : String} {ret : Option FieldType} {Q : State → Prop} {k n pc : Nat} {lo : List (Nat × Value)} {st : List Value} {cI cJ cZ cO : ClassId} {a : Nat → Nat} (C : Cxt p s m args meth c D (tysW cI cJ cZ cO) N0 cc mL RL ret nm) (S : CS) (M : MS) (ov : Nat → Int64) (z : Int32) (hok : okM M) (hR : 2 + 1 ≤ R.frames ∧ 8 + (2 + 11) + 43 ≤ R.locals) (hcs : k + 0 ≤ R.cells ∧ n + 0 ≤ R.slots) (hcat : (st.map fun v => v.category).sum ≤ 8) (dk : decode cc pc = .ok (.invokevirtual 129, 3)) (g0 : (kLg M z = 0) → Go p l e R s m args below meth c D N0 mL Q (wW cI cJ cZ cO a S (mLg (mT0 M) (Int32.toNatClampNeg z)) ov) (k) (n) (pc + 3) lo (.int (ms_pr M (Int32.toNatClampNeg z)) :: st)) (g1 : (¬ kLg M z = 0) → Go p l e R s m args below meth c D N0 mL Q (wW cI cJ cZ cO a S (ms_set_thr M (kLg M z)) ov) (k) (n) (pc + 3) lo (.int 0 :: st)) : Go p l e R s m args below meth c D N0 mL Q (wW cI cJ cZ cO a S M ov) k n pc lo (.int z :: .ref (a 5) :: st) :=
  go_callV C (ci := 2) (r9 := (RX2, TX2, 23)) (qi := 5) (As := [.int z]) (rest := st) rfl rfl (c_X2_letGo l D cI cJ cZ cO N0 a S M ov z hok) ⟨rfl, by decide +kernel, by decide +kernel⟩ bl_RL_129 bi_yX2_letGo bs_yX2_letGo bz_NoticeBookModel bc_yX2_letGo (show Option.map (fun d => d.parameters.length) (parseMethodDescriptor yX2_letGo.desc) = some 1 by decide +kernel) hR hcs hcat dk (fun r w2 h => by
    rcases h with ⟨h9, rfl, rfl⟩ | ⟨h9, rfl, rfl⟩
    · exact g0 h9
    · exact g1 h9) rfl
set_option maxHeartbeats 4000000 in
set_option maxRecDepth 100000 in
theorem c_X2_join (l : Launch) (D : va_G) (cI cJ cZ cO : ClassId) (N0 : Nat) (a : Nat → Nat) (S : CS) (M : MS) (ov : Nat → Int64) (z y : Int32) (hok : okM M) : Ct l D (tysW cI cJ cZ cO) N0 yX2_join cX2_join 4 (some .int) { frames := 2, cells := 0, slots := 0, locals := 43 } [.ref (a 5), .int z, .int y] (wW cI cJ cZ cO a S M ov) (fun r w2 => (kJo M z y = 0 ∧ r = some (.int (ms_pr (mJo (mT0 M) (Int32.toNatClampNeg z) (Int32.toNatClampNeg y)) (Int32.toNatClampNeg z))) ∧ w2 = wW cI cJ cZ cO a S (mJo (mT0 M) (Int32.toNatClampNeg z) (Int32.toNatClampNeg y)) ov) ∨ (¬ kJo M z y = 0 ∧ r = some (.int 0) ∧ w2 = wW cI cJ cZ cO a S (ms_set_thr M (kJo M z y)) ov)) := by
  refine ct_of (by decide +kernel) (Nat.le_of_ble_eq_true rfl) ?_
  intro p e s m args below meth c C
  have C : Cxt p s m args meth c D (tysW cI cJ cZ cO) N0 cX2_join 4 RX2 (some .int) "join" := C
  refine go_aload_n C 0 dX2_join_0 rfl rfl ?_
  refine go_aload_n C 0 dX2_join_1 rfl rfl ?_
  refine go_iload_n C 1 dX2_join_2 rfl rfl ?_
  refine k_RX2_126 C S M ov z hok ⟨(Nat.le_of_ble_eq_true rfl), (Nat.le_of_ble_eq_true rfl)⟩ ⟨(Nat.le_of_ble_eq_true rfl), (Nat.le_of_ble_eq_true rfl)⟩ (Nat.le_of_ble_eq_true rfl) dX2_join_3 ?_
  refine go_if_eq C (tgt := 17) dX2_join_6 (by decide) (fun c_1 => ?_) (fun c_1 => ?_)
  · refine go_iconst C (v := 1) dX2_join_17 (by decide) ?_
    refine go_goto C (tgt := 31) dX2_join_18 (by decide) ?_
    refine pm_thrown C dX2_join_31 ?_
    refine go_aload_n C 0 dX2_join_34 rfl rfl ?_
    refine gm_thrown C dX2_join_35 ?_
    refine go_st (st2 := [.int 1]) rfl ?_
    refine go_if_ne C (tgt := 130) dX2_join_38 (by decide) (fun c_2 => ?_) (fun c_2 => absurd c_2 (by decide))
    refine go_aload_n C 0 dX2_join_130 rfl rfl ?_
    refine gm_thrown C dX2_join_131 ?_
    refine go_st (st2 := [.int 1]) rfl ?_
    refine go_if_le C (tgt := 139) dX2_join_134 (by decide) (fun c_3 => absurd c_3 (by decide)) (fun c_3 => ?_)
    refine go_iconst C (v := 0) dX2_join_137 (by decide) ?_
    exact go_ireturn C rfl dX2_join_138 (by decide) (by decide) (Or.inr (by rw [show kJo M z y = 1 from by simp only [kJo, if_pos c_1]]; exact ⟨by decide, rfl, rfl⟩))
  · refine go_aload_n C 0 dX2_join_9 rfl rfl ?_
    refine go_iload_n C 2 dX2_join_10 rfl rfl ?_
    refine k_RX2_126 C S M ov y hok ⟨(Nat.le_of_ble_eq_true rfl), (Nat.le_of_ble_eq_true rfl)⟩ ⟨(Nat.le_of_ble_eq_true rfl), (Nat.le_of_ble_eq_true rfl)⟩ (Nat.le_of_ble_eq_true rfl) dX2_join_11 ?_
    refine go_if_ne C (tgt := 21) dX2_join_14 (by decide) (fun c_4 => ?_) (fun c_4 => ?_)
    · refine go_iload_n C 1 dX2_join_21 rfl rfl ?_
      refine go_iload_n C 2 dX2_join_22 rfl rfl ?_
      refine go_icmp_ne C (tgt := 30) dX2_join_23 (by decide) (fun c_5 => ?_) (fun c_5 => ?_)
      · refine go_iconst C (v := 0) dX2_join_30 (by decide) ?_
        refine pm_thrown C dX2_join_31 ?_
        refine go_aload_n C 0 dX2_join_34 rfl rfl ?_
        refine gm_thrown C dX2_join_35 ?_
        refine go_st (st2 := [.int 0]) rfl ?_
        refine go_if_ne C (tgt := 130) dX2_join_38 (by decide) (fun c_6 => absurd c_6 (by decide)) (fun c_6 => ?_)
        refine go_aload_n C 0 dX2_join_41 rfl rfl ?_
        refine gm_isTerm C dX2_join_42 ?_
        refine go_iload_n C 1 dX2_join_45 rfl rfl ?_
        refine lm_isTerm C (mLo_in hok c_1).2.1 dX2_join_46 ?_
        refine go_if_eq C (tgt := 93) dX2_join_47 (by decide) (fun c_7 => ?_) (fun c_7 => ?_)
        · refine go_iconst C (v := 0) dX2_join_93 (by decide) ?_
          refine go_istore_n C (lo' := [(3, .int 0), (0, .ref (a 5)), (1, .int z), (2, .int y)]) dX2_join_94 rfl (by decide) rfl ?_
          refine go_aload_n C 1 dX2_join_95 rfl rfl ?_
          refine go_iload_n C 0 dX2_join_96 rfl rfl ?_
          refine go_if_eq C (tgt := 122) dX2_join_97 (by decide) (fun c_8 => ?_) (fun c_8 => absurd c_8 (by decide))
          refine go_iconst C (v := 3) dX2_join_122 (by decide) ?_
          refine go_goto C (tgt := 127) dX2_join_123 (by decide) ?_
          refine pm_thrown C dX2_join_127 ?_
          refine go_w (w2 := wW cI cJ cZ cO a S (ms_set_thr M 3) ov) rfl ?_
          refine go_aload_n C 1 dX2_join_130 rfl rfl ?_
          refine gm_thrown C dX2_join_131 ?_
          refine go_st (st2 := [.int 3]) rfl ?_
          refine go_if_le C (tgt := 139) dX2_join_134 (by decide) (fun c_9 => absurd c_9 (by decide)) (fun c_9 => ?_)
          refine go_iconst C (v := 0) dX2_join_137 (by decide) ?_
          exact go_ireturn C rfl dX2_join_138 (by decide) (by decide) (Or.inr (by rw [show kJo M z y = 3 from by simp only [kJo, if_neg c_1, if_neg c_4, if_neg c_5, if_pos (show (ms_te M (Int32.toNatClampNeg z)) = 0 from c_7)]]; exact ⟨by decide, rfl, rfl⟩))
        · refine go_aload_n C 0 dX2_join_50 rfl rfl ?_
          refine gm_isTerm C dX2_join_51 ?_
          refine go_iload_n C 2 dX2_join_54 rfl rfl ?_
          refine lm_isTerm C (mLo_in hok c_4).2.1 dX2_join_55 ?_
          refine go_if_eq C (tgt := 93) dX2_join_56 (by decide) (fun c_10 => ?_) (fun c_10 => ?_)
          · refine go_iconst C (v := 0) dX2_join_93 (by decide) ?_
            refine go_istore_n C (lo' := [(3, .int 0), (0, .ref (a 5)), (1, .int z), (2, .int y)]) dX2_join_94 rfl (by decide) rfl ?_
            refine go_aload_n C 1 dX2_join_95 rfl rfl ?_
            refine go_iload_n C 0 dX2_join_96 rfl rfl ?_
            refine go_if_eq C (tgt := 122) dX2_join_97 (by decide) (fun c_11 => ?_) (fun c_11 => absurd c_11 (by decide))
            refine go_iconst C (v := 3) dX2_join_122 (by decide) ?_
            refine go_goto C (tgt := 127) dX2_join_123 (by decide) ?_
            refine pm_thrown C dX2_join_127 ?_
            refine go_w (w2 := wW cI cJ cZ cO a S (ms_set_thr M 3) ov) rfl ?_
            refine go_aload_n C 1 dX2_join_130 rfl rfl ?_
            refine gm_thrown C dX2_join_131 ?_
            refine go_st (st2 := [.int 3]) rfl ?_
            refine go_if_le C (tgt := 139) dX2_join_134 (by decide) (fun c_12 => absurd c_12 (by decide)) (fun c_12 => ?_)
            refine go_iconst C (v := 0) dX2_join_137 (by decide) ?_
            exact go_ireturn C rfl dX2_join_138 (by decide) (by decide) (Or.inr (by rw [show kJo M z y = 3 from by simp only [kJo, if_neg c_1, if_neg c_4, if_neg c_5, if_neg (show ¬ (ms_te M (Int32.toNatClampNeg z)) = 0 from c_7), if_pos (show (ms_te M (Int32.toNatClampNeg y)) = 0 from c_10)]]; exact ⟨by decide, rfl, rfl⟩))
          · refine go_aload_n C 0 dX2_join_59 rfl rfl ?_
            refine gm_owners C dX2_join_60 ?_
            refine go_iload_n C 1 dX2_join_63 rfl rfl ?_
            refine lm_owners C (mLo_in hok c_1).2.1 dX2_join_64 ?_
            refine go_aload_n C 0 dX2_join_65 rfl rfl ?_
            refine gm_owners C dX2_join_66 ?_
            refine go_iload_n C 2 dX2_join_69 rfl rfl ?_
            refine lm_owners C (mLo_in hok c_4).2.1 dX2_join_70 ?_
            refine go_icmp_ne C (tgt := 93) dX2_join_71 (by decide) (fun c_13 => ?_) (fun c_13 => ?_)
            · refine go_iconst C (v := 0) dX2_join_93 (by decide) ?_
              refine go_istore_n C (lo' := [(3, .int 0), (0, .ref (a 5)), (1, .int z), (2, .int y)]) dX2_join_94 rfl (by decide) rfl ?_
              refine go_aload_n C 1 dX2_join_95 rfl rfl ?_
              refine go_iload_n C 0 dX2_join_96 rfl rfl ?_
              refine go_if_eq C (tgt := 122) dX2_join_97 (by decide) (fun c_14 => ?_) (fun c_14 => absurd c_14 (by decide))
              refine go_iconst C (v := 3) dX2_join_122 (by decide) ?_
              refine go_goto C (tgt := 127) dX2_join_123 (by decide) ?_
              refine pm_thrown C dX2_join_127 ?_
              refine go_w (w2 := wW cI cJ cZ cO a S (ms_set_thr M 3) ov) rfl ?_
              refine go_aload_n C 1 dX2_join_130 rfl rfl ?_
              refine gm_thrown C dX2_join_131 ?_
              refine go_st (st2 := [.int 3]) rfl ?_
              refine go_if_le C (tgt := 139) dX2_join_134 (by decide) (fun c_15 => absurd c_15 (by decide)) (fun c_15 => ?_)
              refine go_iconst C (v := 0) dX2_join_137 (by decide) ?_
              exact go_ireturn C rfl dX2_join_138 (by decide) (by decide) (Or.inr (by rw [show kJo M z y = 3 from by simp only [kJo, if_neg c_1, if_neg c_4, if_neg c_5, if_neg (show ¬ (ms_te M (Int32.toNatClampNeg z)) = 0 from c_7), if_neg (show ¬ (ms_te M (Int32.toNatClampNeg y)) = 0 from c_10), if_neg (show ¬ (ms_ow M (Int32.toNatClampNeg z)) = (ms_ow M (Int32.toNatClampNeg y)) from c_13)]]; exact ⟨by decide, rfl, rfl⟩))
            · refine go_aload_n C 0 dX2_join_74 rfl rfl ?_
              refine gm_ends C dX2_join_75 ?_
              refine go_iload_n C 1 dX2_join_78 rfl rfl ?_
              refine lm_ends C (mLo_in hok c_1).2.1 dX2_join_79 ?_
              refine go_aload_n C 0 dX2_join_80 rfl rfl ?_
              refine gm_ends C dX2_join_81 ?_
              refine go_iload_n C 2 dX2_join_84 rfl rfl ?_
              refine lm_ends C (mLo_in hok c_4).2.1 dX2_join_85 ?_
              refine go_icmp_ne C (tgt := 93) dX2_join_86 (by decide) (fun c_16 => ?_) (fun c_16 => ?_)
              · refine go_iconst C (v := 0) dX2_join_93 (by decide) ?_
                refine go_istore_n C (lo' := [(3, .int 0), (0, .ref (a 5)), (1, .int z), (2, .int y)]) dX2_join_94 rfl (by decide) rfl ?_
                refine go_aload_n C 1 dX2_join_95 rfl rfl ?_
                refine go_iload_n C 0 dX2_join_96 rfl rfl ?_
                refine go_if_eq C (tgt := 122) dX2_join_97 (by decide) (fun c_17 => ?_) (fun c_17 => absurd c_17 (by decide))
                refine go_iconst C (v := 3) dX2_join_122 (by decide) ?_
                refine go_goto C (tgt := 127) dX2_join_123 (by decide) ?_
                refine pm_thrown C dX2_join_127 ?_
                refine go_w (w2 := wW cI cJ cZ cO a S (ms_set_thr M 3) ov) rfl ?_
                refine go_aload_n C 1 dX2_join_130 rfl rfl ?_
                refine gm_thrown C dX2_join_131 ?_
                refine go_st (st2 := [.int 3]) rfl ?_
                refine go_if_le C (tgt := 139) dX2_join_134 (by decide) (fun c_18 => absurd c_18 (by decide)) (fun c_18 => ?_)
                refine go_iconst C (v := 0) dX2_join_137 (by decide) ?_
                exact go_ireturn C rfl dX2_join_138 (by decide) (by decide) (Or.inr (by rw [show kJo M z y = 3 from by simp only [kJo, if_neg c_1, if_neg c_4, if_neg c_5, if_neg (show ¬ (ms_te M (Int32.toNatClampNeg z)) = 0 from c_7), if_neg (show ¬ (ms_te M (Int32.toNatClampNeg y)) = 0 from c_10), if_pos (show (ms_ow M (Int32.toNatClampNeg z)) = (ms_ow M (Int32.toNatClampNeg y)) from c_13), if_neg (show ¬ (ms_en M (Int32.toNatClampNeg z)) = (ms_en M (Int32.toNatClampNeg y)) from c_16)]]; exact ⟨by decide, rfl, rfl⟩))
              · refine go_iconst C (v := 1) dX2_join_89 (by decide) ?_
                refine go_goto C (tgt := 94) dX2_join_90 (by decide) ?_
                refine go_istore_n C (lo' := [(3, .int 1), (0, .ref (a 5)), (1, .int z), (2, .int y)]) dX2_join_94 rfl (by decide) rfl ?_
                refine go_aload_n C 1 dX2_join_95 rfl rfl ?_
                refine go_iload_n C 0 dX2_join_96 rfl rfl ?_
                refine go_if_eq C (tgt := 122) dX2_join_97 (by decide) (fun c_19 => absurd c_19 (by decide)) (fun c_19 => ?_)
                refine go_aload_n C 1 dX2_join_100 rfl rfl ?_
                refine gm_principals C dX2_join_101 ?_
                refine go_iload_n C 2 dX2_join_104 rfl rfl ?_
                refine lm_principals C (mLo_in hok c_1).2.1 dX2_join_105 ?_
                refine go_i2l C dX2_join_106 ?_
                refine go_aload_n C 1 dX2_join_107 rfl rfl ?_
                refine gm_principals C dX2_join_108 ?_
                refine go_iload_n C 3 dX2_join_111 rfl rfl ?_
                refine lm_principals C (mLo_in hok c_4).2.1 dX2_join_112 ?_
                refine go_i2l C dX2_join_113 ?_
                refine go_ladd C dX2_join_114 ?_
                refine go_ldc2 C bk_RX2_144 dX2_join_115 ?_
                refine go_lcmp C dX2_join_118 ?_
                refine go_if_le C (tgt := 126) dX2_join_119 (by decide) (fun c_20 => ?_) (fun c_20 => ?_)
                · refine go_iconst C (v := 0) dX2_join_126 (by decide) ?_
                  refine pm_thrown C dX2_join_127 ?_
                  refine go_w (w2 := wW cI cJ cZ cO a S (ms_set_thr M 0) ov) rfl ?_
                  refine go_aload_n C 1 dX2_join_130 rfl rfl ?_
                  refine gm_thrown C dX2_join_131 ?_
                  refine go_st (st2 := [.int 0]) rfl ?_
                  refine go_if_le C (tgt := 139) dX2_join_134 (by decide) (fun c_21 => ?_) (fun c_21 => absurd c_21 (by decide))
                  refine go_aload_n C 1 dX2_join_139 rfl rfl ?_
                  refine gm_principals C dX2_join_140 ?_
                  refine go_iload_n C 2 dX2_join_143 rfl rfl ?_
                  refine go_dup2 C dX2_join_144 rfl rfl ?_
                  refine lm_principals C (mLo_in hok c_1).2.1 dX2_join_145 ?_
                  refine go_aload_n C 1 dX2_join_146 rfl rfl ?_
                  refine gm_principals C dX2_join_147 ?_
                  refine go_iload_n C 3 dX2_join_150 rfl rfl ?_
                  refine lm_principals C (mLo_in hok c_4).2.1 dX2_join_151 ?_
                  refine go_iadd C dX2_join_152 ?_
                  refine sm_principals C (mLo_in hok c_1).2.1 dX2_join_153 ?_
                  refine go_w (w2 := wW cI cJ cZ cO a S (mJo1 (mT0 M) (Int32.toNatClampNeg z) (Int32.toNatClampNeg y)) ov) rfl ?_
                  refine go_aload_n C 1 dX2_join_154 rfl rfl ?_
                  refine gm_earnings C dX2_join_155 ?_
                  refine go_iload_n C 2 dX2_join_158 rfl rfl ?_
                  refine go_dup2 C dX2_join_159 rfl rfl ?_
                  refine lm_earnings C (mLo_in hok c_1).2.1 dX2_join_160 ?_
                  refine go_aload_n C 1 dX2_join_161 rfl rfl ?_
                  refine gm_earnings C dX2_join_162 ?_
                  refine go_iload_n C 3 dX2_join_165 rfl rfl ?_
                  refine lm_earnings C (mLo_in hok c_4).2.1 dX2_join_166 ?_
                  refine go_ladd C dX2_join_167 ?_
                  refine sm_earnings C (mLo_in hok c_1).2.1 dX2_join_168 ?_
                  refine go_w (w2 := wW cI cJ cZ cO a S (mJo2 (mJo1 (mT0 M) (Int32.toNatClampNeg z) (Int32.toNatClampNeg y)) (Int32.toNatClampNeg z) (Int32.toNatClampNeg y)) ov) rfl ?_
                  refine go_aload_n C 1 dX2_join_169 rfl rfl ?_
                  refine gm_termParts C dX2_join_170 ?_
                  refine go_iload_n C 2 dX2_join_173 rfl rfl ?_
                  refine go_dup2 C dX2_join_174 rfl rfl ?_
                  refine lm_termParts C (mLo_in hok c_1).2.1 dX2_join_175 ?_
                  refine go_aload_n C 1 dX2_join_176 rfl rfl ?_
                  refine gm_termParts C dX2_join_177 ?_
                  refine go_iload_n C 3 dX2_join_180 rfl rfl ?_
                  refine lm_termParts C (mLo_in hok c_4).2.1 dX2_join_181 ?_
                  refine go_ladd C dX2_join_182 ?_
                  refine sm_termParts C (mLo_in hok c_1).2.1 dX2_join_183 ?_
                  refine go_w (w2 := wW cI cJ cZ cO a S (mJo3 (mJo2 (mJo1 (mT0 M) (Int32.toNatClampNeg z) (Int32.toNatClampNeg y)) (Int32.toNatClampNeg z) (Int32.toNatClampNeg y)) (Int32.toNatClampNeg z) (Int32.toNatClampNeg y)) ov) rfl ?_
                  refine go_aload_n C 1 dX2_join_184 rfl rfl ?_
                  refine gm_begun C dX2_join_185 ?_
                  refine go_iload_n C 2 dX2_join_188 rfl rfl ?_
                  refine go_iconst C (v := (-1)) dX2_join_189 (by decide) ?_
                  refine sm_begun C (mLo_in hok c_1).2.1 dX2_join_190 ?_
                  refine go_aload_n C 1 dX2_join_191 rfl rfl ?_
                  refine gm_isThere C dX2_join_192 ?_
                  refine go_iload_n C 3 dX2_join_195 rfl rfl ?_
                  refine go_iconst C (v := 0) dX2_join_196 (by decide) ?_
                  refine sm_isThere C (mLo_in hok c_4).2.1 dX2_join_197 ?_
                  refine go_w (w2 := wW cI cJ cZ cO a S (mJo (mT0 M) (Int32.toNatClampNeg z) (Int32.toNatClampNeg y)) ov) rfl ?_
                  refine go_aload_n C 1 dX2_join_198 rfl rfl ?_
                  refine gm_principals C dX2_join_199 ?_
                  refine go_iload_n C 2 dX2_join_202 rfl rfl ?_
                  refine lm_principals C (mLo_in hok c_1).2.1 dX2_join_203 ?_
                  exact go_ireturn C rfl dX2_join_204 (by decide) (by decide) (Or.inl ⟨by simp only [kJo, if_neg c_1, if_neg c_4, if_neg c_5, if_neg (show ¬ (ms_te M (Int32.toNatClampNeg z)) = 0 from c_7), if_neg (show ¬ (ms_te M (Int32.toNatClampNeg y)) = 0 from c_10), if_pos (show (ms_ow M (Int32.toNatClampNeg z)) = (ms_ow M (Int32.toNatClampNeg y)) from c_13), if_pos (show (ms_en M (Int32.toNatClampNeg z)) = (ms_en M (Int32.toNatClampNeg y)) from c_16), if_pos (show (lg_cmp ((Int32.toInt64 (ms_pr M (Int32.toNatClampNeg z))) + (Int32.toInt64 (ms_pr M (Int32.toNatClampNeg y)))) 100000000) ≤ 0 from c_20)], rfl, rfl⟩)
                · refine go_iconst C (v := 3) dX2_join_122 (by decide) ?_
                  refine go_goto C (tgt := 127) dX2_join_123 (by decide) ?_
                  refine pm_thrown C dX2_join_127 ?_
                  refine go_w (w2 := wW cI cJ cZ cO a S (ms_set_thr M 3) ov) rfl ?_
                  refine go_aload_n C 1 dX2_join_130 rfl rfl ?_
                  refine gm_thrown C dX2_join_131 ?_
                  refine go_st (st2 := [.int 3]) rfl ?_
                  refine go_if_le C (tgt := 139) dX2_join_134 (by decide) (fun c_22 => absurd c_22 (by decide)) (fun c_22 => ?_)
                  refine go_iconst C (v := 0) dX2_join_137 (by decide) ?_
                  exact go_ireturn C rfl dX2_join_138 (by decide) (by decide) (Or.inr (by rw [show kJo M z y = 3 from by simp only [kJo, if_neg c_1, if_neg c_4, if_neg c_5, if_neg (show ¬ (ms_te M (Int32.toNatClampNeg z)) = 0 from c_7), if_neg (show ¬ (ms_te M (Int32.toNatClampNeg y)) = 0 from c_10), if_pos (show (ms_ow M (Int32.toNatClampNeg z)) = (ms_ow M (Int32.toNatClampNeg y)) from c_13), if_pos (show (ms_en M (Int32.toNatClampNeg z)) = (ms_en M (Int32.toNatClampNeg y)) from c_16), if_neg (show ¬ (lg_cmp ((Int32.toInt64 (ms_pr M (Int32.toNatClampNeg z))) + (Int32.toInt64 (ms_pr M (Int32.toNatClampNeg y)))) 100000000) ≤ 0 from c_20)]]; exact ⟨by decide, rfl, rfl⟩))
      · refine go_iconst C (v := 2) dX2_join_26 (by decide) ?_
        refine go_goto C (tgt := 31) dX2_join_27 (by decide) ?_
        refine pm_thrown C dX2_join_31 ?_
        refine go_aload_n C 0 dX2_join_34 rfl rfl ?_
        refine gm_thrown C dX2_join_35 ?_
        refine go_st (st2 := [.int 2]) rfl ?_
        refine go_if_ne C (tgt := 130) dX2_join_38 (by decide) (fun c_23 => ?_) (fun c_23 => absurd c_23 (by decide))
        refine go_aload_n C 0 dX2_join_130 rfl rfl ?_
        refine gm_thrown C dX2_join_131 ?_
        refine go_st (st2 := [.int 2]) rfl ?_
        refine go_if_le C (tgt := 139) dX2_join_134 (by decide) (fun c_24 => absurd c_24 (by decide)) (fun c_24 => ?_)
        refine go_iconst C (v := 0) dX2_join_137 (by decide) ?_
        exact go_ireturn C rfl dX2_join_138 (by decide) (by decide) (Or.inr (by rw [show kJo M z y = 2 from by simp only [kJo, if_neg c_1, if_neg c_4, if_pos c_5]]; exact ⟨by decide, rfl, rfl⟩))
    · refine go_iconst C (v := 1) dX2_join_17 (by decide) ?_
      refine go_goto C (tgt := 31) dX2_join_18 (by decide) ?_
      refine pm_thrown C dX2_join_31 ?_
      refine go_aload_n C 0 dX2_join_34 rfl rfl ?_
      refine gm_thrown C dX2_join_35 ?_
      refine go_st (st2 := [.int 1]) rfl ?_
      refine go_if_ne C (tgt := 130) dX2_join_38 (by decide) (fun c_25 => ?_) (fun c_25 => absurd c_25 (by decide))
      refine go_aload_n C 0 dX2_join_130 rfl rfl ?_
      refine gm_thrown C dX2_join_131 ?_
      refine go_st (st2 := [.int 1]) rfl ?_
      refine go_if_le C (tgt := 139) dX2_join_134 (by decide) (fun c_26 => absurd c_26 (by decide)) (fun c_26 => ?_)
      refine go_iconst C (v := 0) dX2_join_137 (by decide) ?_
      exact go_ireturn C rfl dX2_join_138 (by decide) (by decide) (Or.inr (by rw [show kJo M z y = 1 from by simp only [kJo, if_neg c_1, if_pos c_4]]; exact ⟨by decide, rfl, rfl⟩))
theorem k_RL_132 {p : Program} {l : Launch} {e : Env} {R : Room} {s : State} {m : MethodId} {args : Array Value} {below : List Frame} {meth : Method} {c : Code} {D : va_G} {N0 mL : Nat} {cc : ByteArray} {nm : String} {ret : Option FieldType} {Q : State → Prop} {k n pc : Nat} {lo : List (Nat × Value)} {st : List Value} {cI cJ cZ cO : ClassId} {a : Nat → Nat} (C : Cxt p s m args meth c D (tysW cI cJ cZ cO) N0 cc mL RL ret nm) (S : CS) (M : MS) (ov : Nat → Int64) (z y : Int32) (hok : okM M) (hR : 2 + 1 ≤ R.frames ∧ 8 + (4 + 11) + 43 ≤ R.locals) (hcs : k + 0 ≤ R.cells ∧ n + 0 ≤ R.slots) (hcat : (st.map fun v => v.category).sum ≤ 8) (dk : decode cc pc = .ok (.invokevirtual 132, 3)) (g0 : (kJo M z y = 0) → Go p l e R s m args below meth c D N0 mL Q (wW cI cJ cZ cO a S (mJo (mT0 M) (Int32.toNatClampNeg z) (Int32.toNatClampNeg y)) ov) (k) (n) (pc + 3) lo (.int (ms_pr (mJo (mT0 M) (Int32.toNatClampNeg z) (Int32.toNatClampNeg y)) (Int32.toNatClampNeg z)) :: st)) (g1 : (¬ kJo M z y = 0) → Go p l e R s m args below meth c D N0 mL Q (wW cI cJ cZ cO a S (ms_set_thr M (kJo M z y)) ov) (k) (n) (pc + 3) lo (.int 0 :: st)) : Go p l e R s m args below meth c D N0 mL Q (wW cI cJ cZ cO a S M ov) k n pc lo (.int y :: .int z :: .ref (a 5) :: st) :=
  go_callV C (ci := 2) (r9 := (RX2, TX2, 23)) (qi := 5) (As := [.int z, .int y]) (rest := st) rfl rfl (c_X2_join l D cI cJ cZ cO N0 a S M ov z y hok) ⟨rfl, by decide +kernel, by decide +kernel⟩ bl_RL_132 bi_yX2_join bs_yX2_join bz_NoticeBookModel bc_yX2_join (show Option.map (fun d => d.parameters.length) (parseMethodDescriptor yX2_join.desc) = some 2 by decide +kernel) hR hcs hcat dk (fun r w2 h => by
    rcases h with ⟨h9, rfl, rfl⟩ | ⟨h9, rfl, rfl⟩
    · exact g0 h9
    · exact g1 h9) rfl
