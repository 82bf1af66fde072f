/-! rows that read the script -/
section SCR
variable {p : Program} {l : Launch} {e : Env} {R : Room} {s : State} {m : MethodId} {args : Array Value} {below : List Frame} {meth : Method} {c : Code} {D : va_G} {tys : List (ClassId × FieldType)} {N0 mL : Nat} {cc : ByteArray} {own nm : String} {ret : Option FieldType} {Q : State → Prop} {w : va_W} {k n pc : Nat} {lo : List (Nat × Value)} {st : List Value} {b L : Nat} {xs : Nat → Int32}
/-- the script: L ints xs at the cell b, older than the law's own cells -/
def Scr (s : State) (N0 b L : Nat) (xs : Nat → Int32) : Prop := va_X b L xs s s.heap ∧ b < s.heap.size ∧ ¬ nA N0 b
theorem go_sld (C : Cxt p s m args meth c D tys N0 cc mL own ret nm) (X : Scr s N0 b L xs) {i : Int32} (hin : vp_in i L) (d : decode cc pc = .ok (.iaload, 1)) (g : Go p l e R s m args below meth c D N0 mL Q (w) (k) (n) (pc + 1) (lo) (.int (xs i.toNatClampNeg) :: st)) : Go p l e R s m args below meth c D N0 mL Q (w) (k) (n) (pc) (lo) (.int i :: .ref b :: st) := fun H locs ls hP hD hS hl =>
  va_sld C.1 C.2.1 X.1 X.2.1 X.2.2 hS hin d (g H locs ls hP hD hS hl)
theorem go_slen (C : Cxt p s m args meth c D tys N0 cc mL own ret nm) (X : Scr s N0 b L xs) (d : decode cc pc = .ok (.arraylength, 1)) (g : Go p l e R s m args below meth c D N0 mL Q (w) (k) (n) (pc + 1) (lo) (.int (nI L) :: st)) : Go p l e R s m args below meth c D N0 mL Q (w) (k) (n) (pc) (lo) (.ref b :: st) := fun H locs ls hP hD hS hl =>
  va_slen C.1 C.2.1 X.1 X.2.1 X.2.2 hS d (g H locs ls hP hD hS hl)
end SCR
