/-! early money: the sorted row and the one that is sought anew each time take the same lots -/
def RelQ (M : MS) (L : LWS) : Prop := ls_n L 0 = nI (ms_n M) ∧ ms_n M ≤ 20 ∧ ls_n L 1 = ms_now M ∧ ls_n L 2 = ms_bb M ∧ ls_n L 3 = ms_tr M ∧ ls_q L = ms_rates M ∧ (∀ j, j < ms_n M → relC M L j) ∧ (∀ j, ms_n M ≤ j → j < 20 → ls_p L j = 0 ∧ ls_f L j = 0 ∧ ls_e L j = 0)
def relD (M : MS) (L : LWS) (cu : Int32) (d : Int64) : Prop := ∀ k, k < 4 → ls_g L k = (if k = cu.toNatClampNeg then ms_paid M k + d else ms_paid M k) ∧ ls_g L (4 + k) = ms_lost M k
theorem RelL.q {M : MS} {L : LWS} (r : RelL M L) : RelQ M L := ⟨r.1, r.2.1, r.2.2.1, r.2.2.2.1, r.2.2.2.2.1, r.2.2.2.2.2.1, r.2.2.2.2.2.2.1, r.2.2.2.2.2.2.2.1⟩
theorem RelQ.l {M : MS} {L : LWS} (r : RelQ M L) (g : relG M L) : RelL M L := ⟨r.1, r.2.1, r.2.2.1, r.2.2.2.1, r.2.2.2.2.1, r.2.2.2.2.2.1, r.2.2.2.2.2.2.1, r.2.2.2.2.2.2.2, g⟩
theorem RelQ.chg {M N : MS} {A B : LWS} (r : RelQ M A) (k : Nat) (hk : k < ms_n M) (hm : scM M N) (hs : ∀ j, j ≠ k → sam M N j) (hf : fxL A B) (hl : ∀ j, j ≠ k → samL A B j) (hc : relC N B k) : RelQ N B := by
  obtain ⟨r1, r2, r3, r4, r5, r6, r7, r8⟩ := r
  obtain ⟨m1, m2, m3, m4, m5, m6, m7⟩ := hm
  obtain ⟨f1, f2, f3⟩ := hf
  refine ⟨by rw [f1, m1]; exact r1, by rw [m1]; exact r2, by rw [f1, m5]; exact r3, by rw [f1, m3]; exact r4, by rw [f1, m4]; exact r5, by rw [f3, m2]; exact r6, fun j hj => ?_, fun j hj h20 => ?_⟩
  · rw [m1] at hj
    by_cases e : j = k
    · subst e; exact hc
    · exact (r7 j hj).mv (hs j e) (hl j e) (congrFun f2 j)
  · rw [m1] at hj
    have e : j ≠ k := by omega
    obtain ⟨b1, b2, b3, b4, b5, b6, b7, b8⟩ := hl j e
    rw [b1, b2, b5]
    exact r8 j hj h20
/-- one round, of a lot that is left with something -/
theorem relD.live {M N : MS} {A B : LWS} {cu : Int32} {d l : Int64} (hc : vp_in cu 4) (h : relD M A cu d) (hp : ms_paid N = ms_paid M) (hl : ms_lost N = vp_updL (ms_lost M) cu.toNatClampNeg (ms_lost M cu.toNatClampNeg + l)) (hg : ls_g B = vp_updL (ls_g A) (4 + cu).toNatClampNeg (ls_g A (4 + cu).toNatClampNeg + l)) : relD N B cu d := by
  intro k hk
  obtain ⟨a1, a2⟩ := h k hk
  have h4 := (o_le hc).2.2.2.2.2.2.1
  rw [hp, hl, hg, (o_le hc).2.2.2.2.2.2.2]
  refine ⟨by rw [updL_ne (by omega)]; exact a1, ?_⟩
  by_cases c : k = cu.toNatClampNeg
  · rw [← c, updL_self, updL_self, a2]
  · rw [updL_ne c, updL_ne (by omega), a2]
/-- one round, of a lot that is gone -/
theorem relD.dead {M N : MS} {A B : LWS} {G1 : Nat → Int64} {cu : Int32} {d x y : Int64} (hc : vp_in cu 4) (h : relD M A cu d) (hp : ms_paid N = ms_paid M) (hl : ms_lost N = vp_updL (ms_lost M) cu.toNatClampNeg (ms_lost M cu.toNatClampNeg + y)) (h1 : G1 = vp_updL (ls_g A) cu.toNatClampNeg (ls_g A cu.toNatClampNeg + x)) (hg : ls_g B = vp_updL G1 (4 + cu).toNatClampNeg (G1 (4 + cu).toNatClampNeg + y)) : relD N B cu (d + x) := by
  intro k hk
  obtain ⟨a1, a2⟩ := h k hk
  have h4 := (o_le hc).2.2.2.2.2.2.1
  subst h1
  rw [hp, hl, hg, (o_le hc).2.2.2.2.2.2.2]
  constructor
  · rw [updL_ne (by omega)]
    by_cases c : k = cu.toNatClampNeg
    · rw [← c, updL_self, if_pos rfl, a1, if_pos c, Int64.add_assoc]
    · rw [updL_ne c, if_neg c, a1, if_neg c]
  · by_cases c : k = cu.toNatClampNeg
    · rw [← c, updL_self, updL_self, updL_ne (by omega), a2]
    · rw [updL_ne c, updL_ne (by omega), updL_ne (by omega), a2]
def lFr (c p f : Nat → Int32) (cu : Int32) : Nat → Int32
  | 0 => 0
  | i + 1 => lFr c p f cu i + (if c i = cu then (if p i ≤ 0 then 0 else p i - f i) else 0)
theorem lFr_0 {c p f : Nat → Int32} {cu : Int32} {i : Nat} (h : ¬ c i = cu) : lFr c p f cu i + 0 = lFr c p f cu (i + 1) := by rw [lFr, if_neg h]
theorem lFr_1 {c p f : Nat → Int32} {cu : Int32} {i : Nat} (h : c i = cu) (g : p i ≤ 0) : lFr c p f cu i + 0 = lFr c p f cu (i + 1) := by rw [lFr, if_pos h, if_pos g]
theorem lFr_2 {c p f : Nat → Int32} {cu : Int32} {i : Nat} (h : c i = cu) (g : ¬ p i ≤ 0) : lFr c p f cu i + (p i - f i) = lFr c p f cu (i + 1) := by rw [lFr, if_pos h, if_neg g]
abbrev qFr (L : LWS) (cu : Int32) : Int32 := lFr (ls_c L) (ls_p L) (ls_f L) cu (lK L)
theorem tkM_f (z : SrT) (B : LWS) (cu : Int32) (j : Nat) (t : Int32) (l : Int64) (e : tkL z B j t = l) : ls_e (tkM z B cu j t) = vp_updL (ls_e B) j (ls_e B j - l) ∧ ls_g (tkM z B cu j t) = vp_updL (ls_g B) (4 + cu).toNatClampNeg (ls_g B (4 + cu).toNatClampNeg + l) ∧ ls_p (tkM z B cu j t) = ls_p B ∧ ls_f (tkM z B cu j t) = ls_f B ∧ ls_t (tkM z B cu j t) = ls_t B ∧ fxL B (tkM z B cu j t) ∧ ∀ q, q ≠ j → samL B (tkM z B cu j t) q := by
  rw [tkM, e]
  exact ⟨rfl, rfl, rfl, rfl, rfl, ⟨rfl, rfl, rfl⟩, fun q hq => ⟨rfl, rfl, rfl, rfl, updL_ne hq, rfl, rfl, rfl⟩⟩
theorem tkP_f (B : LWS) (j : Nat) (t : Int32) : ls_p (tkP B j t) = upd (ls_p B) j (ls_p B j - t) ∧ ls_g (tkP B j t) = ls_g B ∧ ls_e (tkP B j t) = ls_e B ∧ ls_f (tkP B j t) = ls_f B ∧ ls_t (tkP B j t) = ls_t B ∧ fxL B (tkP B j t) ∧ ∀ q, q ≠ j → samL B (tkP B j t) q := ⟨rfl, rfl, rfl, rfl, rfl, ⟨rfl, rfl, rfl⟩, fun q hq => ⟨upd_ne hq, rfl, rfl, rfl, rfl, rfl, rfl, rfl⟩⟩
/-- nothing is taken: nothing changes -/
theorem tk_idle {z : SrT} {B : LWS} {cu v : Int32} {j : Nat} (he : 0 ≤ (ls_e B j).toInt) (hp : ¬ (0 : Int32) = ls_p B j) : tkS z B cu j 0 = B ∧ tkV v z B cu j 0 = v := by
  have l1 : tkL1 z j 0 = 0 := by
    apply Int64.toInt_inj.mp
    show (z.2.1 j * 30 * Int32.toInt64 0 / Int32.toInt64 (z.2.2.1 j)).toInt = 0
    rw [show Int32.toInt64 0 = 0 from rfl, Int64.mul_zero, Int64.toInt_div, show (0 : Int64).toInt = 0 from rfl, Int.zero_tdiv]
    rfl
  have l : tkL z B j 0 = 0 := by
    unfold tkL
    rw [l1]
    by_cases c : 0 ≤ lg_cmp 0 (ls_e B j)
    · rw [if_pos c]
      rw [j_ge, j_c0] at c
      exact Int64.toInt_inj.mp (by rw [j_c0]; omega)
    · rw [if_neg c]
  have m : tkM z B cu j 0 = B := by
    have a : tk1 B j 0 = B := by
      unfold tk1
      rw [Int64.sub_zero, updL_same]
    rw [tkM, l, a]
    unfold tk2
    rw [Int64.add_zero, updL_same]
  have n : ¬ (0 : Int32) = ls_p (tkM z B cu j 0) j := by rw [m]; exact hp
  rw [tkS_0 n, tkV_0 n, m]
  refine ⟨?_, rfl⟩
  unfold tkP
  rw [Int32.sub_zero, upd_same]
section ER
variable {S : CS} {M : MS} {L : LWS} {cu ct : Int32}
theorem fr_l (h : Rel S M) (r : RelL M L) (hcu : vp_in cu 4) : ∀ i, i ≤ ms_n M → lFr (ls_c L) (ls_p L) (ls_f L) cu i = mfTo M cu i
  | 0, _ => rfl
  | i + 1, hi => by
    have ih := fr_l h r hcu i (by omega)
    rcases no_or h r (i := i) (by omega) hcu with ⟨a1, a2, a3, a4, a5, a6⟩ | ⟨a1, a2⟩ | ⟨a1, a2, a3, a4⟩
    · rw [← lFr_2 a2 a3, mf_1 a1, ih, a4, (((r.lot (j := i) (by omega)).2.2.2 a5).2.2.1 a6).1]
    · rw [← lFr_0 a2, mf_0 a1, ih]
    · rw [← lFr_1 a2 a4, mf_0 a1, ih]
/-- round k of both -/
def JQ (M : MS) (L : LWS) (cu ct : Int32) (k : Nat) (lf v : Int32) (Y : MS) (B : LWS) : Prop :=
  RelQ Y B ∧ scM M Y ∧ fxL L B ∧ relD Y B cu (Int32.toInt64 v - Int32.toInt64 ct) ∧ (0 ≤ lf.toInt ∧ lf.toInt ≤ 100000000) ∧ (0 ≤ v.toInt ∧ v.toInt ≤ 100000000 + 16438357 * (k : Int)) ∧ (ms_pah Y = ms_pah (mEaM M) ∧ ms_prh Y = ms_prh (mEaM M)) ∧ (∀ a, k ≤ a → a < (lSr L cu).1 → sam M Y ((lSr L cu).2.2.2 a) ∧ samL L B ((lSr L cu).2.2.2 a) ∧ ms_dn Y ((lSr L cu).2.2.2 a) = 0) ∧ (0 < lf.toInt → ∀ a, a < k → ¬ ms_dn Y ((lSr L cu).2.2.2 a) = 0) ∧ (∀ j, j < ms_n M → (∀ a, a < (lSr L cu).1 → (lSr L cu).2.2.2 a ≠ j) → sam M Y j)
theorem mNo_sam {M N : MS} {j : Nat} (s : sam M N j) (cu : Int32) : mNoM N j cu = mNoM M j cu := by
  unfold mNoM mNo
  rw [s.1, s.2.1, s.2.2.1]
/-- a candidate -/
theorem cand_f (h : Rel S M) (r : RelL M L) (hcu : vp_in cu 4) {j : Nat} (hj : j < lK L) (hc : cand L cu j) : j < ms_n M ∧ ¬ mNoM M j cu = 0 ∧ ¬ ms_th M j = 0 ∧ ms_te M j = 0 ∧ ls_p L j = ms_pr M j ∧ ls_f L j = ms_fz M j ∧ ls_e L j = ms_ea M j ∧ ms_ow M j = cu ∧ ms_pah (mEaM M) j = lPa L j ∧ ms_prh (mEaM M) j = ls_p L j := by
  have hj2 := hj
  rw [r.k] at hj
  rcases no_or h r hj hcu with ⟨a1, a2, a3, a4, a5, a6⟩ | ⟨a1, a2⟩ | ⟨a1, a2, a3, a4⟩
  · have l := r.lot hj
    have l4 := l.2.2.2 a5
    refine ⟨hj, a1, a5, a6, a4, (l4.2.2.1 a6).1, l4.2.1, (l.1 a6).symm.trans a2, ?_, ?_⟩
    · show mqP (mT0 M) (ms_n M) j = _
      rw [mqP_at (mT0 M) _ j hj, if_neg a5, pn_l h r hj a5]
    · show mqR (mT0 M) (ms_n M) j = _
      rw [mqR_at (mT0 M) _ j hj, a4]
  · exact absurd hc.1 a2
  · exact absurd a4 hc.2
theorem row_ne {L : LWS} {cu : Int32} (s : Srt L cu 0 (lSr L cu)) {a b : Nat} (hab : a < b) (hb : b < (lSr L cu).1) : (lSr L cu).2.2.2 a ≠ (lSr L cu).2.2.2 b := fun e => by
  have w := s.2.2.2 a b hab hb
  rw [e] at w
  rcases w with w | ⟨w, w2⟩
  · exact absurd w (Int.lt_irrefl _)
  · exact absurd w2 (Nat.lt_irrefl _)
/-- whom the reference finds in round k -/
theorem JQ.pick (h : Rel S M) (r : RelL M L) (hcu : vp_in cu 4) {k : Nat} {lf v : Int32} {Y : MS} {B : LWS} (q : JQ M L cu ct k lf v Y B) (hlf : 0 < lf.toInt) : (k < (lSr L cu).1 → mnTo Y cu (ms_n M) = some ((lSr L cu).2.2.2 k)) ∧ ((lSr L cu).1 ≤ k → mnTo Y cu (ms_n M) = none) := by
  obtain ⟨q1, q2, q3, q4, q5, q6, q7, q8, q9, q10⟩ := q
  have hb := bnd_of h r hcu
  have s := lSr_ok hb
  have hk := r.k
  have there : ∀ j, j < ms_n M → cM Y cu j → ∃ a, k ≤ a ∧ a < (lSr L cu).1 ∧ (lSr L cu).2.2.2 a = j := fun j hj c => by
    by_cases e : ∃ a, a < (lSr L cu).1 ∧ (lSr L cu).2.2.2 a = j
    · obtain ⟨a, e1, e2⟩ := e
      rcases Nat.lt_or_ge a k with z | z
      · have := q9 hlf a z
        rw [e2] at this
        exact absurd c.2 this
      · exact ⟨a, z, e1, e2⟩
    · have sm := q10 j hj (fun a ha e2 => e ⟨a, ha, e2⟩)
      have c1 := c.1
      rw [mNo_sam sm] at c1
      rcases no_or h r hj hcu with ⟨a1, a2, a3, a4, a5, a6⟩ | ⟨a1, a2⟩ | ⟨a1, a2, a3, a4⟩
      · exact absurd (s.2.2.1 j (Nat.zero_le j) (by rw [hk]; exact hj) ⟨a2, a3⟩) e
      · exact absurd a1 c1
      · exact absurd a1 c1
  have back : ∀ a, k ≤ a → a < (lSr L cu).1 → cM Y cu ((lSr L cu).2.2.2 a) ∧ xM Y ((lSr L cu).2.2.2 a) = (lPa L ((lSr L cu).2.2.2 a)).toInt ∧ yM Y ((lSr L cu).2.2.2 a) = (ls_p L ((lSr L cu).2.2.2 a)).toInt ∧ (lSr L cu).2.2.2 a < ms_n M := fun a ha hm => by
    obtain ⟨p1, p2, p3, p4, p5⟩ := s.2.1 a hm
    obtain ⟨f1, f2, f3, f4, f5, f6, f7, f8, f9, f10⟩ := cand_f h r hcu p2 p3
    obtain ⟨g1, g2, g3⟩ := q8 a ha hm
    refine ⟨⟨by rw [mNo_sam g1]; exact f2, g3⟩, ?_, ?_, f1⟩
    · show (ms_pah Y _).toInt = _
      rw [q7.1, f9]
    · show (ms_prh Y _).toInt = _
      rw [q7.2, f10]
  have bb : ∀ j, j < ms_n M → cM Y cu j → (0 ≤ xM Y j ∧ xM Y j ≤ 20000000000) ∧ (1 ≤ yM Y j ∧ yM Y j ≤ 10000000) := fun j hj c => by
    obtain ⟨a, ha, hm, e⟩ := there j hj c
    obtain ⟨b1, b2, b3, b4⟩ := back a ha hm
    obtain ⟨p1, p2, p3, p4, p5⟩ := s.2.1 a hm
    have w := hb _ p2 p3
    rw [e] at b2 b3 w
    rw [b2, b3]
    exact w
  have mm := mn_min bb (ms_n M) (Nat.le_refl _)
  constructor
  · intro hkm
    obtain ⟨b1, b2, b3, b4⟩ := back k (Nat.le_refl k) hkm
    rcases mm with ⟨m1, m2⟩ | ⟨b, m1, m2⟩
    · exact absurd b1 (m2 _ b4)
    · rw [m1]
      have mine : isMin (cM Y cu) (xM Y) (yM Y) (ms_n M) ((lSr L cu).2.2.2 k) := by
        refine ⟨b4, b1, fun j hj c => ?_⟩
        obtain ⟨a, ha, hm, e⟩ := there j hj c
        obtain ⟨c1, c2, c3, c4⟩ := back a ha hm
        subst e
        rw [b2, b3, c2, c3]
        rcases Nat.lt_or_ge k a with z | z
        · rcases s.2.2.2 k a z hm with w | ⟨w, w2⟩
          · exact ⟨fun _ => w, fun _ => Int.le_of_lt w⟩
          · exact ⟨fun x => by omega, fun _ => Int.le_of_eq w⟩
        · have e2 : a = k := by omega
          subst e2
          exact ⟨fun x => absurd x (Nat.lt_irrefl _), fun x => absurd x (Nat.lt_irrefl _)⟩
      rw [m2.uniq mine]
  · intro hkm
    rcases mm with ⟨m1, m2⟩ | ⟨b, m1, m2⟩
    · exact m1
    · obtain ⟨a, ha, hm, e⟩ := there b m2.1 m2.2.1
      omega
end ER
