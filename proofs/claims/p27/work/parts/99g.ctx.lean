/-! the law's entry: the machine's facts for every method -/
theorem st_arr {args : Array Value} {s : State} {ty : FieldType} (hp : ∀ C, ty ≠ .object C) (h : (Cond.arrayClass ty).before args s = true) : ∃ cA : ClassId, ArrOfT s cA ty ∧ va_RA s cA ty := by
  obtain ⟨c, k, comp, h1, h2, h3⟩ := Cond.arrayClass_spec h
  refine ⟨c, fun n z => ⟨fun k h => (by cases h), k, h2, comp, h3⟩, ?_⟩
  cases ty with
  | object C => exact absurd rfl (hp C)
  | _ => exact h1
theorem st_arrO {args : Array Value} {s : State} {C : String} (h : (Cond.arrayOver (.object C)).before args s = true) : ∃ cA : ClassId, ArrOfT s cA (.object C) ∧ va_RA s cA (.object C) := by
  obtain ⟨comp, c, k, h1, hi, hk, hkind, hf⟩ := Cond.arrayOver_spec h
  exact ⟨c, fun n z => ⟨fun k h => (by cases h), k, hk, comp, hkind⟩, k, comp, hk, hkind, h1, hf⟩
def stD (c0 c1 : ClassId) (i0 i1 : Nat → Nat) : va_G := (fun c => if c = 0 then c0 else c1, fun c => if c = 0 then i0 else i1)
theorem st_env {s : State} {b : Nat} (hts : ∀ w ∈ lw_tbl, w.before #[Value.ref b] s = true) (hg : ∀ w ∈ flatC (Jvm.Cond.and given_1 narrow_1), w.before #[Value.ref b] s = true) : EnvOk s.heap.size s := by
  have hA : ∀ a : Nat, a < s.heap.size → ¬ nA s.heap.size a := fun a h q => absurd (show s.heap.size ≤ a from q) (Nat.not_le.mpr h)
  refine ⟨vx_Zqof (args := #[Value.ref b]) (hts _ (by decide +kernel)) (hts _ (by decide +kernel)) (hg _ (by decide +kernel)) hA, vx_Zqof (args := #[Value.ref b]) (hts _ (by decide +kernel)) (hts _ (by decide +kernel)) (hg _ (by decide +kernel)) hA, fun w hw => va_Nw.of (nest_tab (nest_all w hw)) (hts w ((show ∀ w ∈ NESTW, w ∈ lw_tbl by decide +kernel) w hw)), fun q hq => ?_, fun E hE => va_Nw.of rfl (hts _ ((show ∀ E ∈ EXS, Cond.castable E E ∈ lw_tbl by decide +kernel) E hE)), fun q hq => va_Nc.of (hg _ ((show ∀ q ∈ NCS, Cond.not (.castable q.1 q.2) ∈ flatC (Jvm.Cond.and given_1 narrow_1) by decide +kernel) q hq)), va_AO.of (hts _ (by decide +kernel)), fun Z hZ => va_Nw.of rfl (hts _ ((show ∀ Z ∈ SUPS, Cond.declares (Bundle.initS Z) ∈ lw_tbl by decide +kernel) Z hZ))⟩
  have h1 := hts _ ((show ∀ q ∈ STRS, Cond.stringRef RX1 q.1 q.2 ∈ lw_tbl by decide +kernel) q hq)
  have h2 := hg _ ((show ∀ q ∈ STRS, Cond.exactly (.string RX1 q.1) "java/lang/String" ∈ flatC (Jvm.Cond.and given_1 narrow_1) by decide +kernel) q hq)
  obtain ⟨sa, _, _, _, h3, _⟩ := Cond.exactly_spec h2
  exact ⟨sa, h1, h3⟩
theorem st_ctx {p : Program} {s : State} {m : MethodId} {meth : Method} {c : Code} {b L : Nat} {xs : Nat → Int32} (C0 : lw_At p s m meth c b L xs) : ∃ (D : va_G) (cI cJ cO : ClassId), Cxt p s m #[Value.ref b] meth c D (tysW cI cJ cO) s.heap.size code 23 RL ret meth.name := by
  obtain ⟨hx, hb, hr, hml, hown, hts, hX, hbl, hlk, hgv⟩ := C0
  have hB : ∀ w ∈ BIG, w.before #[Value.ref b] s = true := fun w hw => hts w (List.mem_filter.mp hw).1
  obtain ⟨c0, i0, k0⟩ := u_known hB inX0 (hB _ bin_RX0)
  obtain ⟨c1, i1, k1⟩ := u_known hB inX1 (hB _ bin_RX1)
  obtain ⟨cI, aI⟩ := st_arr (ty := .int) (fun C h => by cases h) (hB _ ba_int)
  obtain ⟨cJ, aJ⟩ := st_arr (ty := .long) (fun C h => by cases h) (hB _ ba_long)
  obtain ⟨cO, aO⟩ := st_arrO (C := RX0) (hts _ (by decide +kernel))
  refine ⟨stD c0 c1 i0 i1, cI, cJ, cO, hx, hb, hml, hown, hB, ⟨fun ci q hq => ?_, fun ci q hq => ?_⟩, Nat.le_refl _, hlk, hr, st_env hts (flat_of_before _ hgv), rfl⟩
  · rcases ci with _ | _ | ci
    · cases hq; exact k0
    · cases hq; exact k1
    · cases hq
  · rcases ci with _ | _ | _ | ci
    · cases hq; exact aI
    · cases hq; exact aJ
    · cases hq; exact aO
    · cases hq
