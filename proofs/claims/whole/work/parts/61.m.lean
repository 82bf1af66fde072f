set_option maxHeartbeats 4000000 in
set_option maxRecDepth 100000 in
theorem c_X2_pass (l : Launch) (D : va_G) (cI cJ cZ cO : ClassId) (N0 : Nat) (a : Nat → Nat) (S : CS) (M : MS) (ov : Nat → Int64) (d : Int32) (hok : okM M) : Ct l D (tysW cI cJ cZ cO) N0 yX2_pass cX2_pass 5 (some .int) { frames := 3, cells := 0, slots := 0, locals := 68 } [.ref (a 5), .int d] (wW cI cJ cZ cO a S M ov) (fun r w2 => (kPs M d = 0 ∧ r = some (.int (mdTo (mT0 M) (Int32.toNatClampNeg d)).1) ∧ w2 = wW cI cJ cZ cO a S (mdTo (mT0 M) (Int32.toNatClampNeg d)).2 ov) ∨ (¬ kPs M d = 0 ∧ r = some (.int 0) ∧ w2 = wW cI cJ cZ cO a S (ms_set_thr M (kPs M d)) ov)) := by
  refine ct_of (by decide +kernel) (Nat.le_of_ble_eq_true rfl) ?_
  intro p e s m args below meth c C
  have C : Cxt p s m args meth c D (tysW cI cJ cZ cO) N0 cX2_pass 5 RX2 (some .int) "pass" := C
  refine go_aload_n C 0 dX2_pass_0 rfl rfl ?_
  refine go_iload_n C 1 dX2_pass_1 rfl rfl ?_
  refine go_iconst C (v := 1) dX2_pass_2 (by decide) ?_
  refine go_bipush C (v := 100) dX2_pass_3 (by decide) ?_
  refine k_RX2_73 C S M ov d 1 100 ⟨(Nat.le_of_ble_eq_true rfl), (Nat.le_of_ble_eq_true rfl)⟩ ⟨(Nat.le_of_ble_eq_true rfl), (Nat.le_of_ble_eq_true rfl)⟩ (Nat.le_of_ble_eq_true rfl) dX2_pass_5 ?_
  refine go_if_ne C (tgt := 15) dX2_pass_8 (by decide) (fun c_1 => ?_) (fun c_1 => ?_)
  · refine go_aload_n C 0 dX2_pass_15 rfl rfl ?_
    refine gm_now C dX2_pass_16 ?_
    refine go_iload_n C 1 dX2_pass_19 rfl rfl ?_
    refine go_iadd C dX2_pass_20 ?_
    refine go_sipush C (v := 3000) dX2_pass_21 (by decide) ?_
    refine go_icmp_le C (tgt := 31) dX2_pass_24 (by decide) (fun c_2 => ?_) (fun c_2 => ?_)
    · refine go_iconst C (v := 0) dX2_pass_31 (by decide) ?_
      refine pm_thrown C dX2_pass_32 ?_
      refine go_iconst C (v := 0) dX2_pass_35 (by decide) ?_
      refine go_istore_n C (lo' := [(2, .int 0), (0, .ref (a 5)), (1, .int d)]) dX2_pass_36 rfl (by decide) rfl ?_
      refine go_iconst C (v := 0) dX2_pass_37 (by decide) ?_
      refine go_istore_n C (lo' := [(3, .int 0), (2, .int 0), (0, .ref (a 5)), (1, .int d)]) dX2_pass_38 rfl (by decide) rfl ?_
      have hd := mIn_nI c_1
      refine go_for ((Int32.toNatClampNeg d)) (fun t => True) (fun t => wW cI cJ cZ cO a S (mdTo (mT0 M) t).2 ov) (fun t => [(3, .int (nI t)), (2, .int (mdTo (mT0 M) t).1), (0, .ref (a 5)), (1, .int d)]) ⟨rfl, rfl⟩ trivial (fun t hi_t hI_t ih_t => ?_) (fun hI_t => ?_)
      · have hokt : okM (mdTo (mT0 M) t).2 := (fx_mdTo _ t).ok hok
        refine go_iload_n C 0 dX2_pass_39 rfl rfl ?_
        refine go_iload_n C 3 dX2_pass_40 rfl rfl ?_
        refine go_icmp_ge C (tgt := 237) dX2_pass_41 (by decide) (fun c_3 => absurd c_3 (by rw [hd.1]; exact nI_ge hi_t (by omega))) (fun c_3 => ?_)
        refine go_aload_n C 2 dX2_pass_44 rfl rfl ?_
        refine gm_thrown C dX2_pass_45 ?_
        refine go_if_ne C (tgt := 237) dX2_pass_48 (by decide) (fun c_4 => absurd c_4 (fun q9 => q9 ((fx_mdTo (mT0 M) t).2.2.trans rfl))) (fun c_4 => ?_)
        refine go_iconst C (v := 0) dX2_pass_51 (by decide) ?_
        refine go_istore C (lo' := [(4, .int 0), (3, .int (nI t)), (2, .int (mdTo (mT0 M) t).1), (0, .ref (a 5)), (1, .int d)]) dX2_pass_52 (by decide) rfl ?_
        refine go_for (ms_n (mdTo (mT0 M) t).2) (fun i => True) (fun i => wW cI cJ cZ cO a S (meM (mdTo (mT0 M) t).2 i) ov) (fun i => [(4, .int (nI i)), (3, .int (nI t)), (2, .int (mdTo (mT0 M) t).1), (0, .ref (a 5)), (1, .int d)]) ⟨rfl, rfl⟩ trivial (fun i hi_i hI_i ih_i => ?_) (fun hI_i => ?_)
        · refine go_iload C 0 dX2_pass_54 rfl ?_
          refine go_aload_n C 3 dX2_pass_56 rfl rfl ?_
          refine gm_lotMany C dX2_pass_57 ?_
          refine go_icmp_ge C (tgt := 99) dX2_pass_60 (by decide) (fun c_5 => absurd c_5 (nI_nge hi_i hokt.1)) (fun c_5 => ?_)
          refine go_aload_n C 3 dX2_pass_63 rfl rfl ?_
          refine gm_earnings C dX2_pass_64 ?_
          refine go_iload C 0 dX2_pass_67 rfl ?_
          refine go_dup2 C dX2_pass_69 rfl rfl ?_
          refine lm_earnings C (nI_vin (Nat.lt_of_lt_of_le hi_i hokt.1)) dX2_pass_70 ?_
          rw [cl_nI (i := i) (by have := hi_i; have := hokt.1; omega)]
          refine go_aload_n C 3 dX2_pass_71 rfl rfl ?_
          refine gm_isThere C dX2_pass_72 ?_
          refine go_iload C 0 dX2_pass_75 rfl ?_
          refine lm_isThere C (nI_vin (Nat.lt_of_lt_of_le hi_i hokt.1)) dX2_pass_77 ?_
          rw [cl_nI (i := i) (by have := hi_i; have := hokt.1; omega)]
          refine go_if_eq C (tgt := 90) dX2_pass_78 (by decide) (fun c_6 => ?_) (fun c_6 => ?_)
          · refine go_lconst C (v := 0) dX2_pass_90 (by decide) ?_
            refine go_ladd C dX2_pass_91 ?_
            refine sm_earnings C (nI_vin (Nat.lt_of_lt_of_le hi_i hokt.1)) dX2_pass_92 ?_
            rw [cl_nI (i := i) (by have := hi_i; have := hokt.1; omega)]
            refine go_iinc C (v := nI (i + 1)) (lo' := [(4, .int (nI (i + 1))), (3, .int (nI t)), (2, .int (mdTo (mT0 M) t).1), (0, .ref (a 5)), (1, .int d)]) 0 dX2_pass_93 rfl (nI_1 _) (by decide) rfl ?_
            refine go_goto C (tgt := 54) dX2_pass_96 (by decide) ?_
            refine go_lo (lo' := [(4, .int (nI (i + 1))), (3, .int (nI t)), (2, .int (mdTo (mT0 M) t).1), (0, .ref (a 5)), (1, .int d)]) [0, 1, 2, 3, 4] (by rfl) ?_
            refine go_w (w2 := wW cI cJ cZ cO a S (meM (mdTo (mT0 M) t).2 (i + 1)) ov) (by rw [me_0 (M := (mdTo (mT0 M) t).2) c_6]) ?_
            exact ih_i trivial
          · refine go_aload_n C 3 dX2_pass_81 rfl rfl ?_
            refine go_iload C 0 dX2_pass_82 rfl ?_
            refine k_RX2_136 C S (meM (mdTo (mT0 M) t).2 i) ov (nI i) (nI_vin (Nat.lt_of_lt_of_le hi_i hokt.1)) hokt ⟨(Nat.le_of_ble_eq_true rfl), (Nat.le_of_ble_eq_true rfl)⟩ ⟨(Nat.le_of_ble_eq_true rfl), (Nat.le_of_ble_eq_true rfl)⟩ (Nat.le_of_ble_eq_true rfl) dX2_pass_84 ?_
            rw [cl_nI (i := i) (by have := hi_i; have := hokt.1; omega)]
            refine go_goto C (tgt := 91) dX2_pass_87 (by decide) ?_
            refine go_ladd C dX2_pass_91 ?_
            refine sm_earnings C (nI_vin (Nat.lt_of_lt_of_le hi_i hokt.1)) dX2_pass_92 ?_
            rw [cl_nI (i := i) (by have := hi_i; have := hokt.1; omega)]
            refine go_iinc C (v := nI (i + 1)) (lo' := [(4, .int (nI (i + 1))), (3, .int (nI t)), (2, .int (mdTo (mT0 M) t).1), (0, .ref (a 5)), (1, .int d)]) 0 dX2_pass_93 rfl (nI_1 _) (by decide) rfl ?_
            refine go_goto C (tgt := 54) dX2_pass_96 (by decide) ?_
            refine go_lo (lo' := [(4, .int (nI (i + 1))), (3, .int (nI t)), (2, .int (mdTo (mT0 M) t).1), (0, .ref (a 5)), (1, .int d)]) [0, 1, 2, 3, 4] (by rfl) ?_
            refine go_w (w2 := wW cI cJ cZ cO a S (meM (mdTo (mT0 M) t).2 (i + 1)) ov) (by rw [me_1 (M := (mdTo (mT0 M) t).2) c_6]) ?_
            exact ih_i trivial
        · refine go_iload C 0 dX2_pass_54 rfl ?_
          refine go_aload_n C 3 dX2_pass_56 rfl rfl ?_
          refine gm_lotMany C dX2_pass_57 ?_
          refine go_icmp_ge C (tgt := 99) dX2_pass_60 (by decide) (fun c_7 => ?_) (fun c_7 => absurd (nI_ger hokt.1) c_7)
          refine go_aload_n C 3 dX2_pass_99 rfl rfl ?_
          refine go_dup C dX2_pass_100 rfl ?_
          refine gm_now C dX2_pass_101 ?_
          refine go_iconst C (v := 1) dX2_pass_104 (by decide) ?_
          refine go_iadd C dX2_pass_105 ?_
          refine pm_now C dX2_pass_106 ?_
          refine go_w (w2 := wW cI cJ cZ cO a S (mDay (mdTo (mT0 M) t).2) ov) rfl ?_
          refine go_iconst C (v := 0) dX2_pass_109 (by decide) ?_
          refine go_istore C (lo' := [(4, .int 0), (3, .int (nI t)), (2, .int (mdTo (mT0 M) t).1), (0, .ref (a 5)), (1, .int d)]) dX2_pass_110 (by decide) rfl ?_
          refine go_for (ms_n (mdTo (mT0 M) t).2) (fun j => True) (fun j => wW cI cJ cZ cO a S (mbTo (mdTo (mT0 M) t).1 (mDay (mdTo (mT0 M) t).2) j).2 ov) (fun j => [(4, .int (nI j)), (3, .int (nI t)), (2, .int (mbTo (mdTo (mT0 M) t).1 (mDay (mdTo (mT0 M) t).2) j).1), (0, .ref (a 5)), (1, .int d)]) ⟨rfl, rfl⟩ trivial (fun j hi_j hI_j ih_j => ?_) (fun hI_j => ?_)
          · have hokj : okM (mbTo (mdTo (mT0 M) t).1 (mDay (mdTo (mT0 M) t).2) j).2 := (fx_mbTo _ _ j).ok hokt
            refine go_iload C 0 dX2_pass_112 rfl ?_
            refine go_aload_n C 3 dX2_pass_114 rfl rfl ?_
            refine gm_lotMany C dX2_pass_115 ?_
            refine go_icmp_ge C (tgt := 231) dX2_pass_118 (by decide) (fun c_8 => absurd c_8 (by rw [(show ms_n (mbTo (mdTo (mT0 M) t).1 (mDay (mdTo (mT0 M) t).2) j).2 = ms_n (mdTo (mT0 M) t).2 from (fx_mbTo _ _ _).1)]; exact nI_nge hi_j hokt.1)) (fun c_8 => ?_)
            refine go_aload_n C 3 dX2_pass_121 rfl rfl ?_
            refine gm_isThere C dX2_pass_122 ?_
            refine go_iload C 0 dX2_pass_125 rfl ?_
            refine lm_isThere C (nI_vin (Nat.lt_of_lt_of_le hi_j hokt.1)) dX2_pass_127 ?_
            rw [cl_nI (i := j) (by have := hi_j; have := hokt.1; omega)]
            refine go_if_eq C (tgt := 182) dX2_pass_128 (by decide) (fun c_9 => ?_) (fun c_9 => ?_)
            · refine go_aload_n C 3 dX2_pass_182 rfl rfl ?_
              refine gm_isThere C dX2_pass_183 ?_
              refine go_iload C 0 dX2_pass_186 rfl ?_
              refine lm_isThere C (nI_vin (Nat.lt_of_lt_of_le hi_j hokt.1)) dX2_pass_188 ?_
              rw [cl_nI (i := j) (by have := hi_j; have := hokt.1; omega)]
              refine go_if_eq C (tgt := 225) dX2_pass_189 (by decide) (fun c_10 => ?_) (fun c_10 => absurd c_9 c_10)
              refine go_iinc C (v := nI (j + 1)) (lo' := [(4, .int (nI (j + 1))), (3, .int (nI t)), (2, .int (mbTo (mdTo (mT0 M) t).1 (mDay (mdTo (mT0 M) t).2) j).1), (0, .ref (a 5)), (1, .int d)]) 0 dX2_pass_225 rfl (nI_1 _) (by decide) rfl ?_
              refine go_goto C (tgt := 112) dX2_pass_228 (by decide) ?_
              have e9 : mbTo (mdTo (mT0 M) t).1 (mDay (mdTo (mT0 M) t).2) (j + 1) = ((mbTo (mdTo (mT0 M) t).1 (mDay (mdTo (mT0 M) t).2) j).1, (mbTo (mdTo (mT0 M) t).1 (mDay (mdTo (mT0 M) t).2) j).2) := by simp only [mbTo, mbc, mb1, if_pos c_9] <;> rfl
              refine go_lo (lo' := [(4, .int (nI (j + 1))), (3, .int (nI t)), (2, .int (mbTo (mdTo (mT0 M) t).1 (mDay (mdTo (mT0 M) t).2) (j + 1)).1), (0, .ref (a 5)), (1, .int d)]) [0, 1, 2, 3, 4] (by rw [e9]; rfl) ?_
              refine go_w (w2 := wW cI cJ cZ cO a S (mbTo (mdTo (mT0 M) t).1 (mDay (mdTo (mT0 M) t).2) (j + 1)).2 ov) (by rw [e9]) ?_
              exact ih_j trivial
            · refine go_aload_n C 3 dX2_pass_131 rfl rfl ?_
              refine gm_isTerm C dX2_pass_132 ?_
              refine go_iload C 0 dX2_pass_135 rfl ?_
              refine lm_isTerm C (nI_vin (Nat.lt_of_lt_of_le hi_j hokt.1)) dX2_pass_137 ?_
              rw [cl_nI (i := j) (by have := hi_j; have := hokt.1; omega)]
              refine go_if_ne C (tgt := 182) dX2_pass_138 (by decide) (fun c_11 => ?_) (fun c_11 => ?_)
              · refine go_aload_n C 3 dX2_pass_182 rfl rfl ?_
                refine gm_isThere C dX2_pass_183 ?_
                refine go_iload C 0 dX2_pass_186 rfl ?_
                refine lm_isThere C (nI_vin (Nat.lt_of_lt_of_le hi_j hokt.1)) dX2_pass_188 ?_
                rw [cl_nI (i := j) (by have := hi_j; have := hokt.1; omega)]
                refine go_if_eq C (tgt := 225) dX2_pass_189 (by decide) (fun c_12 => absurd c_12 c_9) (fun c_12 => ?_)
                refine go_aload_n C 3 dX2_pass_192 rfl rfl ?_
                refine gm_isTerm C dX2_pass_193 ?_
                refine go_iload C 0 dX2_pass_196 rfl ?_
                refine lm_isTerm C (nI_vin (Nat.lt_of_lt_of_le hi_j hokt.1)) dX2_pass_198 ?_
                rw [cl_nI (i := j) (by have := hi_j; have := hokt.1; omega)]
                refine go_if_eq C (tgt := 225) dX2_pass_199 (by decide) (fun c_13 => absurd c_13 c_11) (fun c_13 => ?_)
                refine go_aload_n C 3 dX2_pass_202 rfl rfl ?_
                refine gm_ends C dX2_pass_203 ?_
                refine go_iload C 0 dX2_pass_206 rfl ?_
                refine lm_ends C (nI_vin (Nat.lt_of_lt_of_le hi_j hokt.1)) dX2_pass_208 ?_
                rw [cl_nI (i := j) (by have := hi_j; have := hokt.1; omega)]
                refine go_aload_n C 3 dX2_pass_209 rfl rfl ?_
                refine gm_now C dX2_pass_210 ?_
                refine go_icmp_ne C (tgt := 225) dX2_pass_213 (by decide) (fun c_14 => ?_) (fun c_14 => ?_)
                · refine go_iinc C (v := nI (j + 1)) (lo' := [(4, .int (nI (j + 1))), (3, .int (nI t)), (2, .int (mbTo (mdTo (mT0 M) t).1 (mDay (mdTo (mT0 M) t).2) j).1), (0, .ref (a 5)), (1, .int d)]) 0 dX2_pass_225 rfl (nI_1 _) (by decide) rfl ?_
                  refine go_goto C (tgt := 112) dX2_pass_228 (by decide) ?_
                  have e9 : mbTo (mdTo (mT0 M) t).1 (mDay (mdTo (mT0 M) t).2) (j + 1) = ((mbTo (mdTo (mT0 M) t).1 (mDay (mdTo (mT0 M) t).2) j).1, (mbTo (mdTo (mT0 M) t).1 (mDay (mdTo (mT0 M) t).2) j).2) := by simp only [mbTo, mbc, mb1, if_neg c_9, if_neg c_11, if_neg c_14] <;> rfl
                  refine go_lo (lo' := [(4, .int (nI (j + 1))), (3, .int (nI t)), (2, .int (mbTo (mdTo (mT0 M) t).1 (mDay (mdTo (mT0 M) t).2) (j + 1)).1), (0, .ref (a 5)), (1, .int d)]) [0, 1, 2, 3, 4] (by rw [e9]; rfl) ?_
                  refine go_w (w2 := wW cI cJ cZ cO a S (mbTo (mdTo (mT0 M) t).1 (mDay (mdTo (mT0 M) t).2) (j + 1)).2 ov) (by rw [e9]) ?_
                  exact ih_j trivial
                · refine go_aload_n C 3 dX2_pass_216 rfl rfl ?_
                  refine go_iload C 0 dX2_pass_217 rfl ?_
                  refine k_RX2_146 C S (mbTo (mdTo (mT0 M) t).1 (mDay (mdTo (mT0 M) t).2) j).2 ov (nI j) (nI_vin (Nat.lt_of_lt_of_le hi_j hokt.1)) (hokj.2 _ (vin_eq (nI_vin (Nat.lt_of_lt_of_le hi_j hokt.1)) (by decide)).2) ⟨(Nat.le_of_ble_eq_true rfl), (Nat.le_of_ble_eq_true rfl)⟩ ⟨(Nat.le_of_ble_eq_true rfl), (Nat.le_of_ble_eq_true rfl)⟩ (Nat.le_of_ble_eq_true rfl) dX2_pass_219 ?_
                  rw [cl_nI (i := j) (by have := hi_j; have := hokt.1; omega)]
                  refine go_iinc C (v := (mbTo (mdTo (mT0 M) t).1 (mDay (mdTo (mT0 M) t).2) j).1 + 1) (lo' := [(2, .int ((mbTo (mdTo (mT0 M) t).1 (mDay (mdTo (mT0 M) t).2) j).1 + 1)), (4, .int (nI j)), (3, .int (nI t)), (0, .ref (a 5)), (1, .int d)]) 2 dX2_pass_222 rfl rfl (by decide) rfl ?_
                  refine go_iinc C (v := nI (j + 1)) (lo' := [(4, .int (nI (j + 1))), (2, .int ((mbTo (mdTo (mT0 M) t).1 (mDay (mdTo (mT0 M) t).2) j).1 + 1)), (3, .int (nI t)), (0, .ref (a 5)), (1, .int d)]) 1 dX2_pass_225 rfl (nI_1 _) (by decide) rfl ?_
                  refine go_goto C (tgt := 112) dX2_pass_228 (by decide) ?_
                  have e9 : mbTo (mdTo (mT0 M) t).1 (mDay (mdTo (mT0 M) t).2) (j + 1) = ((mbTo (mdTo (mT0 M) t).1 (mDay (mdTo (mT0 M) t).2) j).1 + 1, mEt (mbTo (mdTo (mT0 M) t).1 (mDay (mdTo (mT0 M) t).2) j).2 j) := by simp only [mbTo, mbc, mb1, if_neg c_9, if_neg c_11, if_pos c_14] <;> rfl
                  refine go_lo (lo' := [(4, .int (nI (j + 1))), (3, .int (nI t)), (2, .int (mbTo (mdTo (mT0 M) t).1 (mDay (mdTo (mT0 M) t).2) (j + 1)).1), (0, .ref (a 5)), (1, .int d)]) [0, 2, 1, 3, 4] (by rw [e9]; rfl) ?_
                  refine go_w (w2 := wW cI cJ cZ cO a S (mbTo (mdTo (mT0 M) t).1 (mDay (mdTo (mT0 M) t).2) (j + 1)).2 ov) (by rw [e9]) ?_
                  exact ih_j trivial
              · refine go_aload_n C 3 dX2_pass_141 rfl rfl ?_
                refine gm_frozenOf C dX2_pass_142 ?_
                refine go_iload C 0 dX2_pass_145 rfl ?_
                refine lm_frozenOf C (nI_vin (Nat.lt_of_lt_of_le hi_j hokt.1)) dX2_pass_147 ?_
                rw [cl_nI (i := j) (by have := hi_j; have := hokt.1; omega)]
                refine go_if_le C (tgt := 182) dX2_pass_148 (by decide) (fun c_15 => ?_) (fun c_15 => ?_)
                · refine go_aload_n C 3 dX2_pass_182 rfl rfl ?_
                  refine gm_isThere C dX2_pass_183 ?_
                  refine go_iload C 0 dX2_pass_186 rfl ?_
                  refine lm_isThere C (nI_vin (Nat.lt_of_lt_of_le hi_j hokt.1)) dX2_pass_188 ?_
                  rw [cl_nI (i := j) (by have := hi_j; have := hokt.1; omega)]
                  refine go_if_eq C (tgt := 225) dX2_pass_189 (by decide) (fun c_16 => absurd c_16 c_9) (fun c_16 => ?_)
                  refine go_aload_n C 3 dX2_pass_192 rfl rfl ?_
                  refine gm_isTerm C dX2_pass_193 ?_
                  refine go_iload C 0 dX2_pass_196 rfl ?_
                  refine lm_isTerm C (nI_vin (Nat.lt_of_lt_of_le hi_j hokt.1)) dX2_pass_198 ?_
                  rw [cl_nI (i := j) (by have := hi_j; have := hokt.1; omega)]
                  refine go_if_eq C (tgt := 225) dX2_pass_199 (by decide) (fun c_17 => ?_) (fun c_17 => absurd c_11 c_17)
                  refine go_iinc C (v := nI (j + 1)) (lo' := [(4, .int (nI (j + 1))), (3, .int (nI t)), (2, .int (mbTo (mdTo (mT0 M) t).1 (mDay (mdTo (mT0 M) t).2) j).1), (0, .ref (a 5)), (1, .int d)]) 0 dX2_pass_225 rfl (nI_1 _) (by decide) rfl ?_
                  refine go_goto C (tgt := 112) dX2_pass_228 (by decide) ?_
                  have e9 : mbTo (mdTo (mT0 M) t).1 (mDay (mdTo (mT0 M) t).2) (j + 1) = ((mbTo (mdTo (mT0 M) t).1 (mDay (mdTo (mT0 M) t).2) j).1, (mbTo (mdTo (mT0 M) t).1 (mDay (mdTo (mT0 M) t).2) j).2) := by simp only [mbTo, mbc, mb1, if_neg c_9, if_pos c_11, if_pos c_15] <;> rfl
                  refine go_lo (lo' := [(4, .int (nI (j + 1))), (3, .int (nI t)), (2, .int (mbTo (mdTo (mT0 M) t).1 (mDay (mdTo (mT0 M) t).2) (j + 1)).1), (0, .ref (a 5)), (1, .int d)]) [0, 1, 2, 3, 4] (by rw [e9]; rfl) ?_
                  refine go_w (w2 := wW cI cJ cZ cO a S (mbTo (mdTo (mT0 M) t).1 (mDay (mdTo (mT0 M) t).2) (j + 1)).2 ov) (by rw [e9]) ?_
                  exact ih_j trivial
                · refine go_aload_n C 3 dX2_pass_151 rfl rfl ?_
                  refine gm_now C dX2_pass_152 ?_
                  refine go_aload_n C 3 dX2_pass_155 rfl rfl ?_
                  refine gm_noticeDays C dX2_pass_156 ?_
                  refine go_iload C 0 dX2_pass_159 rfl ?_
                  refine lm_noticeDays C (nI_vin (Nat.lt_of_lt_of_le hi_j hokt.1)) dX2_pass_161 ?_
                  rw [cl_nI (i := j) (by have := hi_j; have := hokt.1; omega)]
                  refine go_bipush C (v := 32) dX2_pass_162 (by decide) ?_
                  refine go_iadd C dX2_pass_164 ?_
                  refine go_bipush C (v := 7) dX2_pass_165 (by decide) ?_
                  refine go_iadd C dX2_pass_167 ?_
                  refine go_icmp_ne C (tgt := 182) dX2_pass_168 (by decide) (fun c_18 => ?_) (fun c_18 => ?_)
                  · refine go_aload_n C 3 dX2_pass_182 rfl rfl ?_
                    refine gm_isThere C dX2_pass_183 ?_
                    refine go_iload C 0 dX2_pass_186 rfl ?_
                    refine lm_isThere C (nI_vin (Nat.lt_of_lt_of_le hi_j hokt.1)) dX2_pass_188 ?_
                    rw [cl_nI (i := j) (by have := hi_j; have := hokt.1; omega)]
                    refine go_if_eq C (tgt := 225) dX2_pass_189 (by decide) (fun c_19 => absurd c_19 c_9) (fun c_19 => ?_)
                    refine go_aload_n C 3 dX2_pass_192 rfl rfl ?_
                    refine gm_isTerm C dX2_pass_193 ?_
                    refine go_iload C 0 dX2_pass_196 rfl ?_
                    refine lm_isTerm C (nI_vin (Nat.lt_of_lt_of_le hi_j hokt.1)) dX2_pass_198 ?_
                    rw [cl_nI (i := j) (by have := hi_j; have := hokt.1; omega)]
                    refine go_if_eq C (tgt := 225) dX2_pass_199 (by decide) (fun c_20 => ?_) (fun c_20 => absurd c_11 c_20)
                    refine go_iinc C (v := nI (j + 1)) (lo' := [(4, .int (nI (j + 1))), (3, .int (nI t)), (2, .int (mbTo (mdTo (mT0 M) t).1 (mDay (mdTo (mT0 M) t).2) j).1), (0, .ref (a 5)), (1, .int d)]) 0 dX2_pass_225 rfl (nI_1 _) (by decide) rfl ?_
                    refine go_goto C (tgt := 112) dX2_pass_228 (by decide) ?_
                    have e9 : mbTo (mdTo (mT0 M) t).1 (mDay (mdTo (mT0 M) t).2) (j + 1) = ((mbTo (mdTo (mT0 M) t).1 (mDay (mdTo (mT0 M) t).2) j).1, (mbTo (mdTo (mT0 M) t).1 (mDay (mdTo (mT0 M) t).2) j).2) := by simp only [mbTo, mbc, mb1, if_neg c_9, if_pos c_11, if_neg c_15, if_neg c_18] <;> rfl
                    refine go_lo (lo' := [(4, .int (nI (j + 1))), (3, .int (nI t)), (2, .int (mbTo (mdTo (mT0 M) t).1 (mDay (mdTo (mT0 M) t).2) (j + 1)).1), (0, .ref (a 5)), (1, .int d)]) [0, 1, 2, 3, 4] (by rw [e9]; rfl) ?_
                    refine go_w (w2 := wW cI cJ cZ cO a S (mbTo (mdTo (mT0 M) t).1 (mDay (mdTo (mT0 M) t).2) (j + 1)).2 ov) (by rw [e9]) ?_
                    exact ih_j trivial
                  · refine go_aload_n C 3 dX2_pass_171 rfl rfl ?_
                    refine gm_frozenOf C dX2_pass_172 ?_
                    refine go_iload C 0 dX2_pass_175 rfl ?_
                    refine go_iconst C (v := 0) dX2_pass_177 (by decide) ?_
                    refine sm_frozenOf C (nI_vin (Nat.lt_of_lt_of_le hi_j hokt.1)) dX2_pass_178 ?_
                    rw [cl_nI (i := j) (by have := hi_j; have := hokt.1; omega)]
                    refine go_goto C (tgt := 225) dX2_pass_179 (by decide) ?_
                    refine go_iinc C (v := nI (j + 1)) (lo' := [(4, .int (nI (j + 1))), (3, .int (nI t)), (2, .int (mbTo (mdTo (mT0 M) t).1 (mDay (mdTo (mT0 M) t).2) j).1), (0, .ref (a 5)), (1, .int d)]) 0 dX2_pass_225 rfl (nI_1 _) (by decide) rfl ?_
                    refine go_goto C (tgt := 112) dX2_pass_228 (by decide) ?_
                    have e9 : mbTo (mdTo (mT0 M) t).1 (mDay (mdTo (mT0 M) t).2) (j + 1) = ((mbTo (mdTo (mT0 M) t).1 (mDay (mdTo (mT0 M) t).2) j).1, ms_set_fz (mbTo (mdTo (mT0 M) t).1 (mDay (mdTo (mT0 M) t).2) j).2 (upd (ms_fz (mbTo (mdTo (mT0 M) t).1 (mDay (mdTo (mT0 M) t).2) j).2) j 0)) := by simp only [mbTo, mbc, mb1, if_neg c_9, if_pos c_11, if_neg c_15, if_pos c_18] <;> rfl
                    refine go_lo (lo' := [(4, .int (nI (j + 1))), (3, .int (nI t)), (2, .int (mbTo (mdTo (mT0 M) t).1 (mDay (mdTo (mT0 M) t).2) (j + 1)).1), (0, .ref (a 5)), (1, .int d)]) [0, 1, 2, 3, 4] (by rw [e9]; rfl) ?_
                    refine go_w (w2 := wW cI cJ cZ cO a S (mbTo (mdTo (mT0 M) t).1 (mDay (mdTo (mT0 M) t).2) (j + 1)).2 ov) (by rw [e9]) ?_
                    exact ih_j trivial
          · refine go_iload C 0 dX2_pass_112 rfl ?_
            refine go_aload_n C 3 dX2_pass_114 rfl rfl ?_
            refine gm_lotMany C dX2_pass_115 ?_
            refine go_icmp_ge C (tgt := 231) dX2_pass_118 (by decide) (fun c_21 => ?_) (fun c_21 => absurd (by rw [(show ms_n (mbTo (mdTo (mT0 M) t).1 (mDay (mdTo (mT0 M) t).2) (ms_n (mdTo (mT0 M) t).2)).2 = ms_n (mdTo (mT0 M) t).2 from (fx_mbTo _ _ _).1)]; exact nI_ger hokt.1) c_21)
            refine go_iinc C (v := nI (t + 1)) (lo' := [(3, .int (nI (t + 1))), (4, .int (nI (ms_n (mdTo (mT0 M) t).2))), (2, .int (mbTo (mdTo (mT0 M) t).1 (mDay (mdTo (mT0 M) t).2) (ms_n (mdTo (mT0 M) t).2)).1), (0, .ref (a 5)), (1, .int d)]) 1 dX2_pass_231 rfl (nI_1 _) (by decide) rfl ?_
            refine go_goto C (tgt := 39) dX2_pass_234 (by decide) ?_
            refine go_lo (lo' := [(3, .int (nI (t + 1))), (2, .int (mdTo (mT0 M) (t + 1)).1), (0, .ref (a 5)), (1, .int d)]) [0, 2, 3, 4] (by rfl) ?_
            exact ih_t trivial
      · refine go_iload_n C 0 dX2_pass_39 rfl rfl ?_
        refine go_iload_n C 3 dX2_pass_40 rfl rfl ?_
        refine go_icmp_ge C (tgt := 237) dX2_pass_41 (by decide) (fun c_22 => ?_) (fun c_22 => absurd (by rw [← hd.1]; exact Int32.le_refl _) c_22)
        refine go_iload_n C 1 dX2_pass_237 rfl rfl ?_
        exact go_ireturn C rfl dX2_pass_238 (by decide) (by decide) (Or.inl ⟨by simp only [kPs, if_neg c_1, if_pos c_2], rfl, rfl⟩)
    · refine go_iconst C (v := 2) dX2_pass_27 (by decide) ?_
      refine go_goto C (tgt := 32) dX2_pass_28 (by decide) ?_
      refine pm_thrown C dX2_pass_32 ?_
      refine go_iconst C (v := 0) dX2_pass_35 (by decide) ?_
      refine go_istore_n C (lo' := [(2, .int 0), (0, .ref (a 5)), (1, .int d)]) dX2_pass_36 rfl (by decide) rfl ?_
      refine go_iconst C (v := 0) dX2_pass_37 (by decide) ?_
      refine go_istore_n C (lo' := [(3, .int 0), (2, .int 0), (0, .ref (a 5)), (1, .int d)]) dX2_pass_38 rfl (by decide) rfl ?_
      refine go_iload_n C 0 dX2_pass_39 rfl rfl ?_
      refine go_iload_n C 3 dX2_pass_40 rfl rfl ?_
      refine go_icmp_ge C (tgt := 237) dX2_pass_41 (by decide) (fun c_23 => ?_) (fun c_23 => ?_)
      · refine go_iload_n C 1 dX2_pass_237 rfl rfl ?_
        exact go_ireturn C rfl dX2_pass_238 (by decide) (by decide) (Or.inr (by rw [show kPs M d = 2 from by simp only [kPs, if_neg c_1, if_neg c_2, if_pos c_23]]; exact ⟨by decide, rfl, rfl⟩))
      · refine go_aload_n C 2 dX2_pass_44 rfl rfl ?_
        refine gm_thrown C dX2_pass_45 ?_
        refine go_st (st2 := [.int 2]) rfl ?_
        refine go_if_ne C (tgt := 237) dX2_pass_48 (by decide) (fun c_24 => ?_) (fun c_24 => absurd c_24 (by decide))
        refine go_iload_n C 1 dX2_pass_237 rfl rfl ?_
        exact go_ireturn C rfl dX2_pass_238 (by decide) (by decide) (Or.inr (by rw [show kPs M d = 2 from by simp only [kPs, if_neg c_1, if_neg c_2, if_neg c_23]]; exact ⟨by decide, rfl, rfl⟩))
  · refine go_iconst C (v := 1) dX2_pass_11 (by decide) ?_
    refine go_goto C (tgt := 32) dX2_pass_12 (by decide) ?_
    refine pm_thrown C dX2_pass_32 ?_
    refine go_iconst C (v := 0) dX2_pass_35 (by decide) ?_
    refine go_istore_n C (lo' := [(2, .int 0), (0, .ref (a 5)), (1, .int d)]) dX2_pass_36 rfl (by decide) rfl ?_
    refine go_iconst C (v := 0) dX2_pass_37 (by decide) ?_
    refine go_istore_n C (lo' := [(3, .int 0), (2, .int 0), (0, .ref (a 5)), (1, .int d)]) dX2_pass_38 rfl (by decide) rfl ?_
    refine go_iload_n C 0 dX2_pass_39 rfl rfl ?_
    refine go_iload_n C 3 dX2_pass_40 rfl rfl ?_
    refine go_icmp_ge C (tgt := 237) dX2_pass_41 (by decide) (fun c_25 => ?_) (fun c_25 => ?_)
    · refine go_iload_n C 1 dX2_pass_237 rfl rfl ?_
      exact go_ireturn C rfl dX2_pass_238 (by decide) (by decide) (Or.inr (by rw [show kPs M d = 1 from by simp only [kPs, if_pos c_1, if_pos c_25]]; exact ⟨by decide, rfl, rfl⟩))
    · refine go_aload_n C 2 dX2_pass_44 rfl rfl ?_
      refine gm_thrown C dX2_pass_45 ?_
      refine go_st (st2 := [.int 1]) rfl ?_
      refine go_if_ne C (tgt := 237) dX2_pass_48 (by decide) (fun c_26 => ?_) (fun c_26 => absurd c_26 (by decide))
      refine go_iload_n C 1 dX2_pass_237 rfl rfl ?_
      exact go_ireturn C rfl dX2_pass_238 (by decide) (by decide) (Or.inr (by rw [show kPs M d = 1 from by simp only [kPs, if_pos c_1, if_neg c_25]]; exact ⟨by decide, rfl, rfl⟩))
theorem k_RL_135 {p : Program} {l : Launch} {e : Env} {R : Room} {s : State} {m : MethodId} {args : Array Value} {below : List Frame} {meth : Method} {c : Code} {D : va_G} {N0 mL : Nat} {cc : ByteArray} {nm : String} {ret : Option FieldType} {Q : State → Prop} {k n pc : Nat} {lo : List (Nat × Value)} {st : List Value} {cI cJ cZ cO : ClassId} {a : Nat → Nat} (C : Cxt p s m args meth c D (tysW cI cJ cZ cO) N0 cc mL RL ret nm) (S : CS) (M : MS) (ov : Nat → Int64) (d : Int32) (hok : okM M) (hR : 3 + 1 ≤ R.frames ∧ 8 + (5 + 11) + 68 ≤ R.locals) (hcs : k + 0 ≤ R.cells ∧ n + 0 ≤ R.slots) (hcat : (st.map fun v => v.category).sum ≤ 8) (dk : decode cc pc = .ok (.invokevirtual 135, 3)) (g0 : (kPs M d = 0) → Go p l e R s m args below meth c D N0 mL Q (wW cI cJ cZ cO a S (mdTo (mT0 M) (Int32.toNatClampNeg d)).2 ov) (k) (n) (pc + 3) lo (.int (mdTo (mT0 M) (Int32.toNatClampNeg d)).1 :: st)) (g1 : (¬ kPs M d = 0) → Go p l e R s m args below meth c D N0 mL Q (wW cI cJ cZ cO a S (ms_set_thr M (kPs M d)) ov) (k) (n) (pc + 3) lo (.int 0 :: st)) : Go p l e R s m args below meth c D N0 mL Q (wW cI cJ cZ cO a S M ov) k n pc lo (.int d :: .ref (a 5) :: st) :=
  go_callV C (ci := 2) (r9 := (RX2, TX2, 23)) (qi := 5) (As := [.int d]) (rest := st) rfl rfl (c_X2_pass l D cI cJ cZ cO N0 a S M ov d hok) ⟨rfl, by decide +kernel, by decide +kernel⟩ bl_RL_135 bi_yX2_pass bs_yX2_pass bz_NoticeBookModel bc_yX2_pass (show Option.map (fun d => d.parameters.length) (parseMethodDescriptor yX2_pass.desc) = some 1 by decide +kernel) hR hcs hcat dk (fun r w2 h => by
    rcases h with ⟨h9, rfl, rfl⟩ | ⟨h9, rfl, rfl⟩
    · exact g0 h9
    · exact g1 h9) rfl
