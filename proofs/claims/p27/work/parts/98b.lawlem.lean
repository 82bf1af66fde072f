/-! rows that read the script; numbers of the law's turn -/
section SCR
variable {p : Program} {l : Launch} {e : Env} {R : Room} {s : State} {m : MethodId} {args : Array Value} {below : List Frame} {meth : Method} {c : Code} {D : va_G} {tys : List (ClassId × FieldType)} {N0 mL : Nat} {cc : ByteArray} {own nm : String} {ret : Option FieldType} {Q : State → Prop} {w : va_W} {k n pc : Nat} {lo : List (Nat × Value)} {st : List Value} {b L : Nat} {xs : Nat → Int32}
/-- the script: L ints xs at the cell b, older than the law's own cells -/
def Scr (s : State) (N0 b L : Nat) (xs : Nat → Int32) : Prop := va_X b L xs s s.heap ∧ b < s.heap.size ∧ ¬ nA N0 b
theorem go_sld (C : Cxt p s m args meth c D tys N0 cc mL own ret nm) (X : Scr s N0 b L xs) {i : Int32} (hin : vp_in i L) (d : decode cc pc = .ok (.iaload, 1)) (g : Go p l e R s m args below meth c D N0 mL Q (w) (k) (n) (pc + 1) (lo) (.int (xs i.toNatClampNeg) :: st)) : Go p l e R s m args below meth c D N0 mL Q (w) (k) (n) (pc) (lo) (.int i :: .ref b :: st) := fun H locs ls hP hD hS hl =>
  va_sld C.1 C.2.1 X.1 X.2.1 X.2.2 hS hin d (g H locs ls hP hD hS hl)
theorem go_slen (C : Cxt p s m args meth c D tys N0 cc mL own ret nm) (X : Scr s N0 b L xs) (d : decode cc pc = .ok (.arraylength, 1)) (g : Go p l e R s m args below meth c D N0 mL Q (w) (k) (n) (pc + 1) (lo) (.int (nI L) :: st)) : Go p l e R s m args below meth c D N0 mL Q (w) (k) (n) (pc) (lo) (.ref b :: st) := fun H locs ls hP hD hS hl =>
  va_slen C.1 C.2.1 X.1 X.2.1 X.2.2 hS d (g H locs ls hP hD hS hl)
end SCR
theorem q_div {a : Nat} (d : Nat) {D : Int32} (ha : a < 2 ^ 31) (h0 : 0 < d) (hd : d < 2 ^ 31) (hD : D = nI d) : nI a / D = nI (a / d) := by rw [hD]; exact pk_div ha h0 hd
theorem q_rem {a : Nat} (d : Nat) {D : Int32} (ha : a < 2 ^ 31) (h0 : 0 < d) (hd : d < 2 ^ 31) (hD : D = nI d) : nI a - nI a / D * D = nI (a % d) := by rw [hD]; exact pk_rem ha h0 hd
theorem nI_b {a : Nat} (h : a < 2 ^ 31) {x : Nat} (h1 : x ≤ a) : (x : Int) ≤ (nI a).toInt := by rw [nI_toInt h]; omega
theorem nI_u {a : Nat} (h : a < 2 ^ 31) {x : Nat} (h1 : a ≤ x) : (nI a).toInt ≤ (x : Int) := by rw [nI_toInt h]; omega
theorem three_or {a : Nat} (h : a < 3) : nI a = 0 ∨ nI a = 1 ∨ nI a = 2 := by
  rcases a with _ | _ | _ | a
  · exact Or.inl rfl
  · exact Or.inr (Or.inl rfl)
  · exact Or.inr (Or.inr rfl)
  · omega
/-- what a turn has: rooms, a state and arrays that stand together -/
theorem Rl.n20 {S : CS} {L : LWS} (h : Rl S L) : ls_n L 0 = nI (lK L) ∧ lK L ≤ 20 := h.ok.2.1
theorem Rl.ppos {S : CS} {L : LWS} (w : Rl S L) {j : Nat} (hj : j < 20) (h : ¬ ls_p L j = 0) : 1 ≤ (ls_p L j).toInt := by
  obtain ⟨M, h1, r⟩ := w
  rcases pl_or h1 r hj with ⟨a1, a2, a3, a4, a5, a6, a7, a8, a9⟩ | ⟨a1, a2, a3, a4⟩
  · rw [i_le, i_0] at a2; omega
  · exact absurd a1 h
theorem Rl.cin {S : CS} {L : LWS} (w : Rl S L) {j : Nat} (hj : j < 20) (h : ¬ ls_p L j ≤ 0) : vp_in (lOw L j) 4 ∧ (¬ 10 ≤ ls_c L j → vp_in (ls_c L j) 8) := by
  obtain ⟨M, h1, r⟩ := w
  rcases pl_or h1 r hj with ⟨a1, a2, a3, a4, a5, a6, a7, a8, a9⟩ | ⟨a1, a2, a3, a4⟩
  · have o4 := h1.ow4 (j := j) (by omega)
    refine ⟨by rw [r.ow h1 a3]; exact o4, fun q => ?_⟩
    rcases c_or h1 r a3 with ⟨c1, c2, c3, c4⟩ | ⟨c1, c2, c3, c4⟩
    · rw [c4]; exact vin_8 o4
    · exact absurd c3 q
  · exact absurd a2 h
theorem qTk_in {S : CS} {L : LWS} (w : Rl S L) {j : Nat} (hj : j < 20) (h : ¬ qTkC L j = 0) : vp_in (ls_c L j) 8 ∧ vp_in (lOw L j) 4 := by
  unfold qTkC at h
  by_cases c : ls_p L j ≤ 0
  · rw [if_pos c] at h; exact absurd rfl h
  · rw [if_neg c] at h
    by_cases d : 10 ≤ ls_c L j
    · rw [if_pos d] at h; exact absurd rfl h
    · exact ⟨(w.cin hj c).2 d, (w.cin hj c).1⟩
theorem qLg_in {S : CS} {L : LWS} (w : Rl S L) {j : Nat} (hj : j < 20) (h : ¬ qLgC L j = 0) : vp_in (lOw L j) 4 := by
  unfold qLgC at h
  by_cases c : ls_p L j ≤ 0
  · rw [if_pos c] at h; exact absurd rfl h
  · exact (w.cin hj c).1
theorem nI_pos1 {a : Nat} (h : a < 2 ^ 31) (h0 : ¬ nI a = 0) : 0 < a := by
  rcases Nat.eq_zero_or_pos a with e | e
  · subst e; exact absurd rfl h0
  · exact e
