/-! the law's walk: rows of its own -/
section LROWS
variable {p : Program} {l : Launch} {e : Env} {R : Room} {s : State} {m : MethodId} {args : Array Value} {below : List Frame} {meth : Method} {c : Code} {D : va_G} {tys : List (ClassId × FieldType)} {N0 mL : Nat} {cc : ByteArray} {own nm : String} {ret : Option FieldType} {Q : State → Prop} {w : va_W} {k n pc : Nat} {lo : List (Nat × Value)} {st : List Value} {b L : Nat} {xs : Nat → Int32}
theorem go_sldz (C : Cxt p s m args meth c D tys N0 cc mL own ret nm) (X : Scr s N0 b L xs) {i z : Int32} (hin : vp_in i L) (hz : xs i.toNatClampNeg = z) (d : decode cc pc = .ok (.iaload, 1)) (g : Go p l e R s m args below meth c D N0 mL Q (w) (k) (n) (pc + 1) (lo) (.int z :: st)) : Go p l e R s m args below meth c D N0 mL Q (w) (k) (n) (pc) (lo) (.int i :: .ref b :: st) := by
  subst hz
  exact go_sld C X hin d g
end LROWS
theorem thr_tk (M : MS) (j : Nat) : ms_thr (mTk (mT0 M) j) = 0 := by
  have e : ms_thr (mTk2 (mT0 M) j) = 0 := by
    rw [mTk2]
    split <;> rfl
  exact e
theorem thr_ps (M : MS) (t : Nat) : ms_thr (mdTo (mT0 M) t).2 = 0 := (fx_mdTo (mT0 M) t).2.2
theorem thr_er (M : MS) (cu c : Int32) {v : Int32} {i : Nat} : ms_thr (mPa (mErTo (mEaM M) cu c i).2.2 cu v) = 0 := (fx_mer (mEaM M) cu c i).2.2
