/-! the rounds of early money, one in each -/
section JJ
/-- m missing, v paid, the class' state X; vm to be paid in all, the reference's state Y; i rounds of the reference, k of the class -/
def JJ (P0 : CS) (Q0 : MS) (cu m v : Int32) (X : CS) (vm : Int32) (Y : MS) (i k : Nat) : Prop :=
  scS P0 X ∧ scM Q0 Y ∧ vm = v + m ∧ 0 ≤ m.toInt ∧ 0 ≤ v.toInt ∧ v.toInt + m.toInt ≤ 100000000 + 16438357 * (k : Int) ∧ cs_paid X = vp_updL (ms_paid Y) cu.toNatClampNeg (ms_paid Y cu.toNatClampNeg + Int32.toInt64 v) ∧ cs_lost X = ms_lost Y ∧ (∀ j, j < cs_n P0 → relL (cs_lt X j) (cs_day P0) (ms_th Y j) (ms_te Y j) (ms_ow Y j) (ms_pr Y j) (ms_fz Y j) (ms_nd Y j) (ms_le Y j) (ms_en Y j) (ms_ins Y j) (ms_bg Y j) (ms_ea Y j) (ms_tp Y j)) ∧ ms_pah Y = ms_pah Q0 ∧ ms_prh Y = ms_prh Q0 ∧ (∀ j, j < cs_n P0 → ms_dn Y j = 0 → cs_lt X j = cs_lt P0 j) ∧ (∀ j, j < cs_n P0 → ¬ ms_dn Y j = 0 → m.toInt ≤ 0 ∨ lr_pr (cs_lt X j) ≤ 0 ∨ (unf (cs_lt X j)).toInt ≤ 0) ∧ m.toInt ≤ uS (cs_lt X) cu (cs_n P0) ∧ (0 < m.toInt → cnt (ms_dn Y) (cs_n P0) = i) ∧ k ≤ i ∧ sumP (cs_lt X) (cs_n P0) ≤ sumP (cs_lt P0) (cs_n P0)
/-- what is known at the start of the rounds -/
def JS (P0 : CS) (Q0 : MS) (cu : Int32) : Prop := Rel P0 Q0 ∧ vp_in cu 4 ∧ (∀ j, j < cs_n P0 → nL (cs_lt P0 j) cu → lr_pa (cs_lt P0 j) = ms_pah Q0 j ∧ lr_pr (cs_lt P0 j) = ms_prh Q0 j ∧ 0 ≤ (ms_pah Q0 j).toInt ∧ (ms_pah Q0 j).toInt ≤ 20000000000)
variable {P0 X : CS} {Q0 Y : MS} {cu m v vm : Int32} {i k : Nat}
theorem nL_iff {r : LR} {day th te ow pr fz nd le en ins bg : Int32} {ea tp : Int64} {M : MS} {j : Nat} (g : relL r day th te ow pr fz nd le en ins bg ea tp) (h1 : ms_th M j = th) (h2 : ms_te M j = te) (h3 : ms_ow M j = ow) : ¬ mNoM M j cu = 0 ↔ nL r cu := by
  obtain ⟨g1, g2, g3, g4⟩ := g
  show ¬ mNo (ms_th M) (ms_te M) (ms_ow M) j cu = 0 ↔ _
  unfold mNo nL
  rw [h1, h2, h3, g1, g2]
  by_cases a : th = 0
  · rw [if_pos a]
    exact ⟨fun q => absurd rfl q, fun q => absurd (g3.mpr a) q.1⟩
  · rw [if_neg a]
    by_cases b : te = 0
    · rw [if_pos b]
      by_cases d : ow = cu
      · rw [if_pos d]
        exact ⟨fun _ => ⟨fun q => a (g3.mp q), b, d⟩, fun _ => by decide⟩
      · rw [if_neg d]
        exact ⟨fun q => absurd rfl q, fun q => absurd q.2.2 d⟩
    · rw [if_neg b]
      exact ⟨fun q => absurd rfl q, fun q => absurd q.2.1 b⟩
/-- what both choose -/
theorem JJ.pick (s : JS P0 Q0 cu) (b : JJ P0 Q0 cu m v X vm Y i k) (hm : 0 < m.toInt) : i < cs_n P0 ∧ ∃ j, mnTo Y cu (cs_n P0) = some j ∧ j < cs_n P0 ∧ nL (cs_lt X j) cu ∧ ms_dn Y j = 0 ∧ (¬ unf (cs_lt X j) ≤ 0 → lhTo X cu (cs_n P0) = some j) := by
  obtain ⟨h, hcu, hs⟩ := s
  obtain ⟨b1, b2, b3, b4, b5, b6, b7, b8, b9, b10, b11, b12, b13, b14, b15, b16, b17⟩ := b
  have hn := h.le
  have hnX : cs_n X = cs_n P0 := b1.1.1
  have nn : ∀ j, j < cs_n P0 → (¬ mNoM Y j cu = 0 ↔ nL (cs_lt X j) cu) := fun j hj => nL_iff (b9 j hj) rfl rfl rfl
  -- a lot that can still give has not been asked
  have und : ∀ j, j < cs_n P0 → cS X cu j → ms_dn Y j = 0 := fun j hj c => by
    by_cases z : ms_dn Y j = 0
    · exact z
    · exfalso
      rcases b13 j hj z with q | q | q
      · omega
      · exact c.1.1 q
      · exact c.2 (by rw [i_le, i_0]; exact q)
  have dat : ∀ j, j < cs_n P0 → nL (cs_lt X j) cu → ms_dn Y j = 0 → (lr_pa (cs_lt X j) = ms_pah Y j ∧ lr_pr (cs_lt X j) = ms_prh Y j) ∧ (0 ≤ (lr_pa (cs_lt X j)).toInt ∧ (lr_pa (cs_lt X j)).toInt ≤ 20000000000) ∧ (1 ≤ (lr_pr (cs_lt X j)).toInt ∧ (lr_pr (cs_lt X j)).toInt ≤ 10000000) := fun j hj c z => by
    have e := b12 j hj z
    rw [e] at c ⊢
    obtain ⟨p1, p2, p3, p4⟩ := hs j hj c
    have a := alive_b c.1
    have n3 := (((h.lot hj).2.2.2 c.1).2.2.1 c.2.1).2.2.2.2.1
    refine ⟨⟨by rw [b10]; exact p1, by rw [b11]; exact p2⟩, by rw [p1]; exact ⟨p3, p4⟩, a, n3⟩
  obtain ⟨q, hq, c1, c2⟩ := uS_ex (f := cs_lt X) (cu := cu) (cs_n P0) (by omega)
  have cq : cS X cu q := ⟨c1, by rw [i_le, i_0]; omega⟩
  have zq := und q hq cq
  have hi : i < cs_n P0 := by
    have e := b15 hm
    have l := cnt_lt (f := ms_dn Y) zq (cs_n P0) hq
    omega
  refine ⟨hi, ?_⟩
  have mM := mn_min (Y := Y) (cu := cu) (n := cs_n P0) (fun j hj c => by
    have d := dat j hj ((nn j hj).mp c.1) c.2
    rw [d.1.1, d.1.2] at d
    exact d.2) (cs_n P0) (Nat.le_refl _)
  rcases mM with ⟨_, f⟩ | ⟨j, e, f⟩
  · exact absurd ⟨(nn q hq).mpr c1, zq⟩ (f q hq)
  · have hj := f.1
    have cj := (nn j hj).mp f.2.1.1
    refine ⟨j, e, hj, cj, f.2.1.2, fun u => ?_⟩
    have mS := lh_min (X := X) (cu := cu) (by rw [hnX]; exact hn) (fun p hp c => by
      rw [hnX] at hp
      exact (dat p hp c.1 (und p hp c)).2) (cs_n P0) (by rw [hnX]; exact Nat.le_refl _)
    rcases mS with ⟨_, f2⟩ | ⟨j2, e2, f2⟩
    · exact absurd ⟨cj, u⟩ (f2 j hj)
    · have f3 : isMin (cS X cu) (xM Y) (yM Y) (cs_n P0) j := f.sub (fun p hp c => ⟨(nn p hp).mpr c.1, und p hp c⟩) ⟨cj, u⟩
      have f4 : isMin (cS X cu) (xS X) (yS X) (cs_n P0) j := f3.con (fun p hp c => by
        have d := (dat p hp c.1 (und p hp c)).1
        show (lr_pa (cs_lt X p)).toInt = (ms_pah Y p).toInt ∧ (lr_pr (cs_lt X p)).toInt = (ms_prh Y p).toInt
        rw [d.1, d.2]
        exact ⟨rfl, rfl⟩)
      rw [e2, f2.uniq f4]
end JJ
