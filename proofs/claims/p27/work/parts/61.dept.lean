def dtR (S : CS) (cu x d v : Int32) : LR := (cu, d, x, 0, Int32.toInt64 x * Int32.toInt64 (cs_tr S), 0, 0, cs_day S + d, v, -1)
theorem dtS_new (S : CS) (q : Nat) (cu x d v : Int32) : dtS S q cu x d v = newS S q (dtR S cu x d v) := by
  have e : bgt (dt1 S q cu x d v) (cs_nc S) = cs_setLot (nw1 S q) (cs_nc S) (dtR S cu x d v) := by
    have e1 : iniS (nw1 S q) (cs_nc S) cu x d = cs_setLot (nw1 S q) (cs_nc S) (iniR cu x d) := rfl
    rw [bgt, bgt1, dt1, e1]
    simp only [setLot_two, setLot_lt]
    rfl
  rw [dtS, e]
  show (cs_rates S, cs_paid S, cs_lost S, cs_bb S, cs_tr S, cs_n S + 1, cs_day S, va_up (cs_bk S) (cs_n S) (some (va_up (cs_la S) (cs_nc S) q (cs_nc S))), cs_nc S + 1, va_up (cs_la S) (cs_nc S) q, va_up (va_up (cs_lt S) (cs_nc S) zLR) (cs_nc S) (dtR S cu x d v)) = newS S q (dtR S cu x d v)
  rw [va_up_two, va_up_self]
  rfl
section DTF
variable (M : MS) (cu x d v : Int32)
theorem mDa_ow : ms_ow (mDa M cu x) = upd (ms_ow M) (ms_n M) cu := rfl
theorem mDa_th : ms_th (mDa M cu x) = upd (ms_th M) (ms_n M) (1 &&& 1) := rfl
theorem mDa_te : ms_te (mDa M cu x) = upd (upd (ms_te M) (ms_n M) (0 &&& 1)) (ms_n M) (1 &&& 1) := rfl
theorem mDa_pr : ms_pr (mDa M cu x) = upd (ms_pr M) (ms_n M) x := rfl
theorem mDa_fz : ms_fz (mDa M cu x) = upd (ms_fz M) (ms_n M) 0 := rfl
theorem mDa_bg : ms_bg (mDa M cu x) = upd (ms_bg M) (ms_n M) (-1) := rfl
theorem mDa_ea : ms_ea (mDa M cu x) = vp_updL (ms_ea M) (ms_n M) 0 := rfl
theorem mDt_th : ms_th (mDt M cu x d v) = upd (ms_th M) (ms_n M) (1 &&& 1) := rfl
theorem mDt_te : ms_te (mDt M cu x d v) = upd (upd (ms_te M) (ms_n M) (0 &&& 1)) (ms_n M) (1 &&& 1) := rfl
theorem mDt_ow : ms_ow (mDt M cu x d v) = upd (ms_ow M) (ms_n M) cu := rfl
theorem mDt_pr : ms_pr (mDt M cu x d v) = upd (ms_pr M) (ms_n M) x := rfl
theorem mDt_fz : ms_fz (mDt M cu x d v) = upd (ms_fz M) (ms_n M) 0 := rfl
theorem mDt_bg : ms_bg (mDt M cu x d v) = upd (ms_bg M) (ms_n M) (-1) := rfl
theorem mDt_ea : ms_ea (mDt M cu x d v) = vp_updL (ms_ea M) (ms_n M) 0 := rfl
theorem mDt_le : ms_le (mDt M cu x d v) = upd (ms_le M) (ms_n M) d := rfl
theorem mDt_ins : ms_ins (mDt M cu x d v) = upd (ms_ins M) (ms_n M) v := rfl
theorem mDt_nd : ms_nd (mDt M cu x d v) = ms_nd M := rfl
theorem mDt_en : ms_en (mDt M cu x d v) = upd (ms_en M) (ms_n M) (ms_now M + upd (ms_le M) (ms_n M) d (ms_n M)) := rfl
theorem mDt_tp : ms_tp (mDt M cu x d v) = vp_updL (ms_tp M) (ms_n M) (Int32.toInt64 (upd (ms_pr M) (ms_n M) x (ms_n M)) * Int32.toInt64 (ms_tr M)) := rfl
theorem mDt_o : ms_n (mDt M cu x d v) = ms_n M + 1 ∧ ms_rates (mDt M cu x d v) = ms_rates M ∧ ms_paid (mDt M cu x d v) = ms_paid M ∧ ms_lost (mDt M cu x d v) = ms_lost M ∧ ms_bb (mDt M cu x d v) = ms_bb M ∧ ms_tr (mDt M cu x d v) = ms_tr M ∧ ms_now (mDt M cu x d v) = ms_now M := ⟨rfl, rfl, rfl, rfl, rfl, rfl, rfl⟩
end DTF
