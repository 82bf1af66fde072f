/-! new lots -/
def newS (S : CS) (q : Nat) (r : LR) : CS := (cs_rates S, cs_paid S, cs_lost S, cs_bb S, cs_tr S, cs_n S + 1, cs_day S, va_up (cs_bk S) (cs_n S) (some q), cs_nc S + 1, va_up (cs_la S) (cs_nc S) q, va_up (cs_lt S) (cs_nc S) r)
theorem va_up_two {α : Type} (f : Nat → α) (k : Nat) (x y : α) : va_up (va_up f k x) k y = va_up f k y := funext fun j => by
  by_cases h : j = k
  · subst h; rw [va_up_self, va_up_self]
  · rw [va_up_ne _ _ h, va_up_ne _ _ h, va_up_ne _ _ h]
theorem dpS_new (S : CS) (q : Nat) (cu z : Int32) : dpS S q cu z = newS S q (iniR cu z 0) := by
  show (cs_rates S, cs_paid S, cs_lost S, cs_bb S, cs_tr S, cs_n S + 1, cs_day S, va_up (cs_bk S) (cs_n S) (some (va_up (cs_la S) (cs_nc S) q (cs_nc S))), cs_nc S + 1, va_up (cs_la S) (cs_nc S) q, va_up (va_up (cs_lt S) (cs_nc S) zLR) (cs_nc S) (iniR cu z 0)) = newS S q (iniR cu z 0)
  rw [va_up_two, va_up_self]
  rfl
theorem pw : ∀ d : Nat, 0 ≤ (1825 : Int) ^ d ∧ (1825 : Int) ^ d ≤ (1826 : Int) ^ d
  | 0 => ⟨by decide, by decide⟩
  | d + 1 => by
    have h := pw d
    rw [Int.pow_succ, Int.pow_succ]
    omega
section DEP
variable {S : CS} {M : MS}
theorem Rel.new (h : Rel S M) (hn : cs_n S < 40) {r : LR} {M2 : MS} (q : Nat) (hM : okM M2 ∧ ms_n M2 = ms_n M + 1 ∧ ms_rates M2 = ms_rates M ∧ ms_paid M2 = ms_paid M ∧ ms_lost M2 = ms_lost M ∧ ms_bb M2 = ms_bb M ∧ ms_tr M2 = ms_tr M ∧ ms_now M2 = ms_now M) (ho : ∀ j, j < cs_n S → relJ S M2 j) (hk : ∀ k, k = cs_n S → relL r (cs_day S) (ms_th M2 k) (ms_te M2 k) (ms_ow M2 k) (ms_pr M2 k) (ms_fz M2 k) (ms_nd M2 k) (ms_le M2 k) (ms_en M2 k) (ms_ins M2 k) (ms_bg M2 k) (ms_ea M2 k) (ms_tp M2 k)) (hw : 0 ≤ wP r ∧ wP r ≤ 36500000000000) : Rel (newS S q r) M2 := by
  obtain ⟨k1, k2, k3, k4, k5, k6, k7, k8, k9, k10, k11, k12, k13, k14, k15⟩ := h
  obtain ⟨m1, m2, m3, m4, m5, m6, m7, m8⟩ := hM
  have hnc : cs_nc S = cs_n S := k15.2
  refine ⟨⟨?_, ?_, ?_, ?_⟩, m1, (congrArg (· + 1) k3).trans m2.symm, k4.trans m3.symm, k5.trans m4.symm, k6.trans m5.symm, k7.trans m6.symm, k8.trans m7.symm, k9.trans m8.symm, k10, k11, k12, k13, ?_, ?_, congrArg (· + 1) hnc⟩
  · show cs_n S + 1 ≤ 40; omega
  · show cs_n S + 1 ≤ cs_nc S + 1; omega
  · intro i hi
    have hi2 : i < cs_n S + 1 := hi
    show va_up (cs_bk S) (cs_n S) (some q) i = some (va_up (cs_la S) (cs_nc S) q i)
    rw [hnc]
    by_cases c : i = cs_n S
    · subst c; rw [va_up_self, va_up_self]
    · rw [va_up_ne _ _ c, va_up_ne _ _ c]
      exact k1.2.2.1 i (by omega)
  · intro i h40 hi
    have hi2 : cs_n S + 1 ≤ i := hi
    show va_up (cs_bk S) (cs_n S) (some q) i = none
    rw [va_up_ne _ _ (by omega)]
    exact k1.2.2.2 i h40 (by omega)
  · intro j hj
    have hj2 : j < cs_n S + 1 := hj
    show relL (va_up (cs_lt S) (cs_nc S) r j) _ _ _ _ _ _ _ _ _ _ _ _ _
    rw [hnc]
    by_cases c : j = cs_n S
    · have hk9 := hk j c
      rw [c, va_up_self]
      rw [c] at hk9
      exact hk9
    · rw [va_up_ne _ _ c]
      exact ho j (by omega)
  · show sumP (va_up (cs_lt S) (cs_nc S) r) (cs_n S + 1) * 1825 ^ (cs_day S).toNatClampNeg ≤ 36500000000000 * ((cs_n S + 1 : Nat) : Int) * 1826 ^ (cs_day S).toNatClampNeg
    rw [sumP, hnc, va_up_self, sumP_c (g := cs_lt S) _ (fun j hj => by rw [va_up_ne _ _ (by omega)])]
    have g1 := k15.1
    have g2 : wP r * 1825 ^ (cs_day S).toNatClampNeg ≤ 36500000000000 * 1826 ^ (cs_day S).toNatClampNeg := Int.mul_le_mul hw.2 (pw _).2 (pw _).1 (by decide)
    rw [Int.add_mul, Int.natCast_add, Int.mul_add, Int.add_mul]
    exact Int.add_le_add g1 (by simpa using g2)
end DEP
