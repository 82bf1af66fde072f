section
/-! ===== BEGIN words of one list among another's, by their places ===== -/
theorem goodIn_r {big : List Cond} (ws : List Cond) (ps : List Nat) (hp : ws = ps.filterMap (fun i => big[i]?)) (h : ws.all goodWord = true) : GoodIn big ws := by
  intro w hw
  have h1 := List.all_eq_true.mp h w hw
  rw [hp] at hw
  obtain ⟨i, -, hi⟩ := List.mem_filterMap.mp hw
  have hm : w ∈ big := by first | exact List.mem_of_getElem? hi | exact List.getElem?_mem hi
  exact ⟨hm, good_of_word h1⟩
theorem goodIn_app {big a b : List Cond} (ha : GoodIn big a) (hb : GoodIn big b) : GoodIn big (a ++ b) := fun w h => (List.mem_append.mp h).elim (ha w) (hb w)
theorem goodIn_ca {big a b : List Cond} {c : Cond} (ha : GoodIn big (c :: a)) (hb : GoodIn big b) : GoodIn big (c :: (a ++ b)) := fun w h => (List.mem_cons.mp h).elim (fun e => ha w (List.mem_cons.mpr (Or.inl e))) (fun h => (List.mem_append.mp h).elim (fun h => ha w (List.mem_cons.mpr (Or.inr h))) (hb w))
theorem goodIn_sub {big ws : List Cond} (hm : ∀ w ∈ ws, w ∈ big) (h : ws.all goodWord = true) : GoodIn big ws := fun w hw => ⟨hm w hw, good_of_word (List.all_eq_true.mp h w hw)⟩
/-! ===== END ===== -/

/-! ===== BEGIN exceptions that leave a method, and their catching by the caller (launches without stack traces) ===== -/
section VXA
/-! The laws vx_back, vx_callV, vx_callS, vx_callSW, vx_throw0, vx_throwS follow proofs of the library, with one case more: JvmDerived/Free/Laws.lean (Back.of_free), Shelf42/LK1.lean (callV, callS), Shelf/KitTraced.lean (throwNew0V, throwNewS). -/
/-- where a method has thrown q: the class by its name, the cell, what was written, the world -/
def vx_T (XC : String → State → State → Prop) (st : State) (q : Addr) (t : State) (mc ms : Nat) (free : Addr → Prop) : Prop :=
  ∃ (E : String) (ce : Cell) (L : List Loc), XC E st t ∧ t.heap[q]? = some ce ∧ ce.vm = .none ∧ st.vm.findClass E = some ce.cls ∧ st.WarmedH t.vm ∧ st.sameButNew ({ t with vm := st.vm } : State) L mc ms ∧ ∀ z ∈ L, free z.base
def vx_Q (Qc : Array Value → State → Outcome → State → Prop) (XC : String → State → State → Prop) (mc ms : Nat) (free : Addr → Prop) : Array Value → State → Outcome → State → Prop := fun a st o t =>
  (Qc a st o t ∧ ∃ L, FrameEnd st o t L mc ms ∧ ∀ q ∈ L, free q.base) ∨ ∃ q, o = .threw q ∧ vx_T XC st q t mc ms free
/-- a callee that returns or throws -/
def vx_Met (l : Launch) (y : MethodName) (ws : List Cond) (rm : Room) (Pc : Array Value → State → Prop) (Qc : Array Value → State → Outcome → State → Prop) (XC : String → State → State → Prop) (mc ms : Nat) (free : Addr → Prop) : Prop :=
  MetFree l y (headSpec ws rm) Pc (fun _ _ _ _ _ => True) (vx_Q Qc XC mc ms free)
def vx_Post (XC : String → State → State → Prop) (mc ms : Nat) (free : Addr → Prop) : Pt → Array Value → Addr → Pt → Prop := fun A a q B =>
  ∃ (g : JFrame) (mk : MethodId) (t : State) (L : List Loc) (E : String) (ce : Cell), B.U.heap = t.heap ∧ B.U.vm = t.vm ∧ XC E (A.U.calling g mk a) t ∧ t.heap[q]? = some ce ∧ ce.vm = .none ∧ A.U.vm.findClass E = some ce.cls ∧ B.locs = A.locs ++ L ∧ (∀ z ∈ L, free z.base) ∧ B.cells = A.cells + mc ∧ B.slots = A.slots + ms
def vx_Back (l : Launch) (R : Room) (p : Program) (e : Env) (below : List Frame) (s : State) (sargs : Array Value) (y : MethodName) (len W9 : Nat)
    (Pre : Pt → Array Value → Prop) (Post : Pt → Array Value → Option Value → Pt → Prop) (PostX : Pt → Array Value → Addr → Pt → Prop) : Prop :=
  ∀ (m : MethodId) (meth : Method) (c : Code) (A : Pt) (g : JFrame) (ig : Instr) (mk : MethodId) (a : Array Value),
    Stand p l e R s m sargs below meth c A.U A.locs A.cells A.slots → g.method = m → g.locals.size = c.maxLocals → decode c.code g.pc = .ok (ig, len) →
    2 * g.monitorRoom + (g.stack.map fun v => v.category).sum ≤ W9 → A.U.methodNamed? y = some mk → Pre A a →
    (∃ (v : Option Value) (B : Pt), Stand p l e R s m sargs below meth c B.U B.locs B.cells B.slots ∧ Post A a v B ∧
      Steps p.tables e below (doInvoke e (A.U.setTop g) [] mk a).1 (B.U.setTop { g with pc := g.pc + len, stack := v.toList ++ g.stack })) ∨
    (∃ (q : Addr) (B : Pt), Stand p l e R s m sargs below meth c B.U B.locs B.cells B.slots ∧ PostX A a q B ∧
      Steps p.tables e below (doInvoke e (A.U.setTop g) [] mk a).1 ((B.U.setTop g).pushFrame (.throwing q)))
section Payer
variable {l : Launch} {R : Room} {p : Program} {e : Env} {below : List Frame} {s : State} {sargs : Array Value} {y : MethodName} {len W9 : Nat}
theorem vx_back {ws : List Cond} {rm : Room} {Pc : Array Value → State → Prop} {Qc : Array Value → State → Outcome → State → Prop} {XC : String → State → State → Prop} {mc ms : Nat} {free : Addr → Prop} {bytes : ByteArray} {maxL : Nat} {ret : Option FieldType}
    (hM : vx_Met l y ws rm Pc Qc XC mc ms free) (hblind : FrameBlind Pc) (hrc : rm.cells = mc) (hrs : rm.slots = ms)
    (hframes : rm.frames + 1 ≤ R.frames) (hlocals : W9 + (maxL + 11) + rm.locals ≤ R.locals)
    (hws : ∀ w ∈ ws, ∀ a' U, s.WarmedH U.vm → w.before a' U = true) (hcode : Cond.code y bytes maxL ret ∈ ws) (hinit : ∀ a' U, s.WarmedH U.vm → (Cond.initialized y.cls).before a' U = true) :
    vx_Back l R p e below s sargs y len W9 (PreOf R mc ms Pc) (PostOf Qc mc ms free) (vx_Post XC mc ms free) := by
  intro m meth c A g ig mk a X hg hsize hdg hW hn hp
  have h1 : (headSpec ws rm).pre.before a A.U = true := atoms_intro fun w hw => hws w hw _ _ X.warmed
  have h2 : (Cond.code y bytes maxL ret).before a A.U = true := hws _ hcode _ _ X.warmed
  have h3 : (Cond.initialized y.cls).before a A.U = true := hinit _ _ X.warmed
  have h4 : A.cells + (headSpec ws rm).room.cells ≤ R.cells := by rw [show (headSpec ws rm).room.cells = mc from hrc]; exact hp.1
  have h5 : A.slots + (headSpec ws rm).room.slots ≤ R.slots := by rw [show (headSpec ws rm).room.slots = ms from hrs]; exact hp.2.1
  have hPc : Pc a (A.U.calling g mk a) := hblind _ _ _ _ hp.2.2
  obtain ⟨U, Ls, c0, s0⟩ := A
  dsimp only [Pt.U, Pt.locs, Pt.cells, Pt.slots] at h1 h2 h3 h4 h5 X hn hPc ⊢
  obtain ⟨methY, cY, hmY, hcY, -, hlY, -, -, -, -⟩ := Cond.code_spec hn h2
  obtain ⟨kY, hkY, -⟩ := className_of_methodNamed hn
  have hinitY : kY.init = .initialized := Cond.initialized_spec (findClass_of_methodNamed hn) hkY h3
  have h : At U g.method c below := by rw [hg]; exact X.here
  have hlocals9 : W9 + (maxL + 11) + (headSpec ws rm).room.locals ≤ R.locals := hlocals
  have happ : (headSpec ws rm).appliesLoose y e.platform (U.calling g mk a) = true :=
    Spec.appliesLoose_calling (g := g) h hdg hn hkY hinitY
      (X.room_calling (g := g) (R' := (headSpec ws rm).room) hsize hmY hcY hframes (by rw [hlY]; omega) h4 h5) h1
  obtain ⟨mid, hmid⟩ := h.above
  have hfr : (U.setTop g).frames = (.java g :: mid) ++ below := by rw [State.frames_setTop' g h.top, hmid]; rfl
  obtain ⟨o, s₂, hsteps, -, hend, hq⟩ := Steps.callFree hM p X.admits X.cas X.clock (acts := []) hfr happ hPc trivial
  have hq' : vx_Q Qc XC mc ms free a (U.calling g mk a) o s₂ := hq
  rw [State.frames_setTop' g h.top] at hend
  obtain ⟨g₀, hg0⟩ := Option.isSome_iff_exists.mp h.top
  obtain ⟨r, hr⟩ := State.topJava?_eq_some.mp hg0
  have hr' : (({ U with heap := s₂.heap, slotsUsed := s₂.slotsUsed } : State).setVm s₂.vm).frames = .java g₀ :: r := hr
  rcases hq' with ⟨hqc, L, hfe, hL⟩ | ⟨q, rfl, E, ce, L, hx, hce, hcv, hcl, hW₂, hsm, hL⟩
  · obtain ⟨⟨v, rfl⟩, hW₂, e2, q2, q3, q4, q5, q6⟩ := id hfe
    have e3 : s₂ = ({ (U.calling g mk a).setFrames s₂.frames with heap := s₂.heap, slotsUsed := s₂.slotsUsed } : State).setVm s₂.vm := by
      have : s₂ = ({ s₂ with vm := (U.calling g mk a).vm } : State).setVm s₂.vm := rfl
      rw [e2] at this
      exact this
    obtain ⟨c₂, i₂, len₂, hc₂, hd₂, hf₂⟩ := hend
    have hW' : U.WarmedH s₂.vm := hW₂
    have hcc : c₂ = c := by
      have h1 : s₂.code? g.method = U.code? g.method := by
        rw [State.code?_eq, State.code?_eq, hW'.alike.method?]
      exact Option.some.inj (hc₂.symm.trans (h1.trans h.code))
    subst hcc
    have hlen : len₂ = len := by rw [hdg] at hd₂; cases hd₂; rfl
    subst hlen
    have hs₂ : s₂ = (({ U with heap := s₂.heap, slotsUsed := s₂.slotsUsed } : State).setVm s₂.vm).setTop { g with pc := g.pc + len₂, stack := v.toList ++ g.stack } := by
      refine e3.trans ?_
      rw [hf₂, State.calling_eq h.top, State.setFrames_setFrames, State.setTop_of_frames _ hr', hr]
      rfl
    have hsame : U.sameButNew ({ U with heap := s₂.heap, slotsUsed := s₂.slotsUsed } : State) L mc ms := by
      refine ⟨?_, q2, q3, q4, q5, q6⟩
      obtain ⟨t, ht, -⟩ := State.frames_cons hr
      show ({ U with heap := s₂.heap, slotsUsed := s₂.slotsUsed } : State) = { U.setFrames U.frames with heap := s₂.heap, slotsUsed := s₂.slotsUsed }
      rw [State.setFrames_self ht]
    subst hg
    refine Or.inl ⟨v, ⟨(({ U with heap := s₂.heap, slotsUsed := s₂.slotsUsed } : State).setVm s₂.vm), Ls ++ L, c0 + mc, s0 + ms⟩,
      ⟨X.admits, X.cas, X.clock, X.frames, X.room, X.hears, X.method, X.code, (X.here.setHeapUsed s₂.heap s₂.slotsUsed).setVm hW'.alike, X.tail, State.WarmedH.trans X.warmed hW', X.limits, X.bytes, X.same.trans (hsame.setVm s.vm)⟩,
      ⟨g, mk, s₂, L, rfl, rfl, hqc, rfl, hL, rfl, rfl⟩, ?_⟩
    show Steps p.tables e below _ ((({ U with heap := s₂.heap, slotsUsed := s₂.slotsUsed } : State).setVm s₂.vm).setTop { g with pc := g.pc + len₂, stack := v.toList ++ g.stack })
    rw [← hs₂]
    exact hsteps
  · obtain ⟨e2, q2, q3, q4, q5, q6⟩ := id hsm
    have e3 : s₂ = ({ (U.calling g mk a).setFrames s₂.frames with heap := s₂.heap, slotsUsed := s₂.slotsUsed } : State).setVm s₂.vm := by
      have : s₂ = ({ s₂ with vm := (U.calling g mk a).vm } : State).setVm s₂.vm := rfl
      rw [e2] at this
      exact this
    have hf₂ : s₂.frames = .throwing q :: .java g :: U.frames.tail := hend
    have hW' : U.WarmedH s₂.vm := hW₂
    have hs₂ : s₂ = ((({ U with heap := s₂.heap, slotsUsed := s₂.slotsUsed } : State).setVm s₂.vm).setTop g).pushFrame (.throwing q) := by
      refine e3.trans ?_
      rw [hf₂, State.calling_eq h.top, State.setFrames_setFrames, State.pushFrame, State.frames_setTop _ hr', State.setTop_of_frames _ hr', State.setFrames_setFrames, hr]
      rfl
    have hsame : U.sameButNew ({ U with heap := s₂.heap, slotsUsed := s₂.slotsUsed } : State) L mc ms := by
      refine ⟨?_, q2, q3, q4, q5, q6⟩
      obtain ⟨t, ht, -⟩ := State.frames_cons hr
      show ({ U with heap := s₂.heap, slotsUsed := s₂.slotsUsed } : State) = { U.setFrames U.frames with heap := s₂.heap, slotsUsed := s₂.slotsUsed }
      rw [State.setFrames_self ht]
    subst hg
    refine Or.inr ⟨q, ⟨(({ U with heap := s₂.heap, slotsUsed := s₂.slotsUsed } : State).setVm s₂.vm), Ls ++ L, c0 + mc, s0 + ms⟩,
      ⟨X.admits, X.cas, X.clock, X.frames, X.room, X.hears, X.method, X.code, (X.here.setHeapUsed s₂.heap s₂.slotsUsed).setVm hW'.alike, X.tail, State.WarmedH.trans X.warmed hW', X.limits, X.bytes, X.same.trans (hsame.setVm s.vm)⟩,
      ⟨g, mk, s₂, L, E, ce, rfl, rfl, hx, hce, hcv, hcl, rfl, hL, rfl, rfl⟩, ?_⟩
    show Steps p.tables e below _ (((({ U with heap := s₂.heap, slotsUsed := s₂.slotsUsed } : State).setVm s₂.vm).setTop g).pushFrame (.throwing q))
    rw [← hs₂]
    exact hsteps
end Payer
section Calls
variable {p : Program} {l : Launch} {e : Env} {R : Room} {s : State} {m : MethodId} {args : Array Value} {below : List Frame} {meth : Method} {c : Code} {T : State} {locs : List Loc} {cells slots : Nat}
theorem vx_callV (X : Stand p l e R s m args below meth c T locs cells slots) (hexec : p.tables.exec = Jvm.exec) {own C : String} {index : Nat} {y : MethodName} {bytes : ByteArray} {maxL : Nat} {ret : Option FieldType}
    (hown : s.vm.findClass own = some m.cls) (hlink : (Cond.methodLink own index y).before args s = true) (hinst : (Cond.instanceMethod y).before args s = true) (hsel : (Cond.selects C y y).before args s = true)
    (hcode : (Cond.code y bytes maxL ret).before args s = true) (hy : y.cls ≠ "java/lang/invoke/MethodHandle" ∧ y.cls ≠ "java/lang/invoke/VarHandle")
    {W9 : Nat} {Pre : Pt → Array Value → Prop} {Post : Pt → Array Value → Option Value → Pt → Prop} {PostX : Pt → Array Value → Addr → Pt → Prop} (hK : vx_Back l R p e below s args y 3 W9 Pre Post PostX)
    {b : Addr} {cellB : Cell} (hcell : T.heap[b]? = some cellB) (hobj : cellB.vm.isStatics = false) (hcls : s.vm.findClass C = some cellB.cls)
    {g : JFrame} (hg : g.method = m) (hsize : g.locals.size = c.maxLocals) {argsL rest : List Value} (hlen : ∀ sig, parseMethodDescriptor y.desc = some sig → argsL.length = sig.parameters.length)
    (hstack : g.stack = argsL.reverse ++ .ref b :: rest) (hW : 2 * g.monitorRoom + (rest.map fun v => v.category).sum ≤ W9) (hdg : decode c.code g.pc = .ok (.invokevirtual index, 3))
    (hpre : ∀ vm₁, s.WarmedH vm₁ → Pre ⟨T.setVm vm₁, locs, cells, slots⟩ (Value.ref b :: argsL).toArray) :
    (∃ (v : Option Value) (vm₁ : Vm) (B : Pt), s.WarmedH vm₁ ∧ Stand p l e R s m args below meth c B.U B.locs B.cells B.slots ∧ Post ⟨T.setVm vm₁, locs, cells, slots⟩ (Value.ref b :: argsL).toArray v B ∧
      ∀ target, Steps p.tables e below (B.U.setTop { g with pc := g.pc + 3, stack := v.toList ++ rest }) target → Steps p.tables e below (T.setTop g) target) ∨
    (∃ (q : Addr) (vm₁ : Vm) (B : Pt), s.WarmedH vm₁ ∧ Stand p l e R s m args below meth c B.U B.locs B.cells B.slots ∧ PostX ⟨T.setVm vm₁, locs, cells, slots⟩ (Value.ref b :: argsL).toArray q B ∧
      Steps p.tables e below (T.setTop g) ((B.U.setTop { g with stack := rest }).pushFrame (.throwing q))) := by
  obtain ⟨mk, methM, hnamed, hmethM, hstM, habM⟩ := Cond.instanceMethod_spec hinst
  obtain ⟨methM', cM, hmethM', -, -, -, -, -, -, hsigM⟩ := Cond.code_spec hnamed hcode
  cases hmethM.symm.trans hmethM'
  obtain ⟨c2, r2, m2, q1, q2, q3, q4, kP, hkP, hkPi⟩ := Cond.selects_spec hsel
  cases hcls.symm.trans q1
  cases (State.methodFound?_of_named hnamed hy).symm.trans q2
  cases hnamed.symm.trans q3
  have hselP : selectMethod e.platform s.vm cellB.cls mk = .method mk := by rw [Launch.admits_selectMethod X.admits]; exact q4
  obtain ⟨vm₁, X₁, hstep₁⟩ := X.invokevirtual hexec hown hlink hnamed hmethM hstM hkP hkPi hy (a := b) (cell := cellB) hcell
    (fun z h => by rw [h] at hobj; cases hobj) hselP hmethM habM hkP hkPi (g := g) hg (argsL := argsL) (rest := rest) (hlen _ hsigM) hstack hdg
  rcases hK m meth c ⟨T.setVm vm₁, locs, cells, slots⟩ { g with stack := rest } (.invokevirtual index) mk (Value.ref b :: argsL).toArray X₁ hg hsize hdg hW (X₁.named hnamed) (hpre vm₁ X₁.warmed) with ⟨v, B, X', hpost, hsteps⟩ | ⟨q, B, X', hpost, hsteps⟩
  · exact Or.inl ⟨v, vm₁, B, X₁.warmed, X', hpost, fun target h => hstep₁ _ fun acts => by rw [doInvoke_state]; exact hsteps.trans h⟩
  · exact Or.inr ⟨q, vm₁, B, X₁.warmed, X', hpost, hstep₁ _ fun acts => by rw [doInvoke_state]; exact hsteps⟩
theorem vx_callS (X : Stand p l e R s m args below meth c T locs cells slots) (hexec : p.tables.exec = Jvm.exec) {own : String} {index : Nat} {y : MethodName} {bytes : ByteArray} {maxL : Nat} {ret : Option FieldType}
    (hown : s.vm.findClass own = some m.cls) (hlink : (Cond.methodLink own index y).before args s = true) (hstat : (Cond.static y).before args s = true) (hinit : (Cond.initialized y.cls).before args s = true)
    (hcode : (Cond.code y bytes maxL ret).before args s = true) (hy : y.cls ≠ "java/lang/invoke/MethodHandle" ∧ y.cls ≠ "java/lang/invoke/VarHandle")
    {W9 : Nat} {Pre : Pt → Array Value → Prop} {Post : Pt → Array Value → Option Value → Pt → Prop} {PostX : Pt → Array Value → Addr → Pt → Prop} (hK : vx_Back l R p e below s args y 3 W9 Pre Post PostX)
    {g : JFrame} (hg : g.method = m) (hsize : g.locals.size = c.maxLocals) {argsL rest : List Value} (hlen : ∀ sig, parseMethodDescriptor y.desc = some sig → argsL.length = sig.parameters.length)
    (hstack : g.stack = argsL.reverse ++ rest) (hW : 2 * g.monitorRoom + (rest.map fun v => v.category).sum ≤ W9) (hdg : decode c.code g.pc = .ok (.invokestatic index, 3))
    (hpre : ∀ vm₁, s.WarmedH vm₁ → Pre ⟨T.setVm vm₁, locs, cells, slots⟩ argsL.toArray) :
    (∃ (v : Option Value) (vm₁ : Vm) (B : Pt), s.WarmedH vm₁ ∧ Stand p l e R s m args below meth c B.U B.locs B.cells B.slots ∧ Post ⟨T.setVm vm₁, locs, cells, slots⟩ argsL.toArray v B ∧
      ∀ target, Steps p.tables e below (B.U.setTop { g with pc := g.pc + 3, stack := v.toList ++ rest }) target → Steps p.tables e below (T.setTop g) target) ∨
    (∃ (q : Addr) (vm₁ : Vm) (B : Pt), s.WarmedH vm₁ ∧ Stand p l e R s m args below meth c B.U B.locs B.cells B.slots ∧ PostX ⟨T.setVm vm₁, locs, cells, slots⟩ argsL.toArray q B ∧
      Steps p.tables e below (T.setTop g) ((B.U.setTop { g with stack := rest }).pushFrame (.throwing q))) := by
  obtain ⟨mk, hnamed⟩ := Cond.code_named hcode
  obtain ⟨methM, cM, hmethM, -, -, -, -, -, -, hsigM⟩ := Cond.code_spec hnamed hcode
  have hstatic : methM.isStatic = true := Cond.static_spec hnamed hmethM hstat
  obtain ⟨kP, hkP, -⟩ := className_of_methodNamed hnamed
  have hinitP : kP.init = .initialized := Cond.initialized_spec (findClass_of_methodNamed hnamed) hkP hinit
  obtain ⟨vm₁, X₁, hstep₁⟩ := X.invokestatic hexec hown hlink hnamed hmethM hstatic hkP hinitP hy (g := g) hg (argsL := argsL) (rest := rest) (hlen _ hsigM) hstack hdg
  rcases hK m meth c ⟨T.setVm vm₁, locs, cells, slots⟩ { g with stack := rest } (.invokestatic index) mk argsL.toArray X₁ hg hsize hdg hW (X₁.named hnamed) (hpre vm₁ X₁.warmed) with ⟨v, B, X', hpost, hsteps⟩ | ⟨q, B, X', hpost, hsteps⟩
  · exact Or.inl ⟨v, vm₁, B, X₁.warmed, X', hpost, fun target h => hstep₁ _ fun acts => by rw [doInvoke_state]; exact hsteps.trans h⟩
  · exact Or.inr ⟨q, vm₁, B, X₁.warmed, X', hpost, hstep₁ _ fun acts => by rw [doInvoke_state]; exact hsteps⟩
end Calls
theorem vx_cls {s : State} {T : State} {vm₁ : Vm} {E : String} {k : ClassId} (hW : s.WarmedH vm₁) (h : (T.setVm vm₁).vm.findClass E = some k) : s.vm.findClass E = some k := by
  have h1 : vm₁.findClass E = some k := h
  rw [hW.alike.findClass] at h1
  exact h1
/-- the method's frame g, with q thrown over it -/
def vx_W (p : Program) (l : Launch) (e : Env) (R : Room) (s : State) (m : MethodId) (args : Array Value) (below : List Frame) (meth : Method) (c : Code) (H : Heap) (locs : List Loc) (cells slots : Nat) (Q : State → Prop) (g : JFrame) (q : Addr) : Prop :=
  ∀ T : State, T.heap = H → Stand p l e R s m args below meth c T locs cells slots → ∃ t, Steps p.tables e below ((T.setTop g).pushFrame (.throwing q)) t ∧ Q t
def vx_Run (p : Program) (l : Launch) (e : Env) (R : Room) (s : State) (m : MethodId) (args : Array Value) (below : List Frame) (meth : Method) (c : Code) (H : Heap) (locs : List Loc) (cells slots mc ms : Nat) (g : JFrame) (rest : List Value) (Qa : State → Outcome → State → Prop) (XC : String → State → State → Prop) (free : Addr → Prop) : Prop :=
  ∀ T : State, T.heap = H → Stand p l e R s m args below meth c T locs cells slots →
    (∃ (v : Option Value) (st₀ t T' : State) (L : List Loc), st₀.heap = H ∧ Stand p l e R s m args below meth c T' (locs ++ L) (cells + mc) (slots + ms) ∧ (∀ q ∈ L, free q.base) ∧ T'.heap = t.heap ∧ T'.vm = t.vm ∧ Qa st₀ (.returned v) t ∧
      Goes p e below T g T' { g with pc := g.pc + 3, stack := v.toList ++ rest }) ∨
    (∃ (q : Addr) (st₀ t T' : State) (L : List Loc) (E : String) (ce : Cell), st₀.heap = H ∧ Stand p l e R s m args below meth c T' (locs ++ L) (cells + mc) (slots + ms) ∧ (∀ z ∈ L, free z.base) ∧ T'.heap = t.heap ∧ T'.vm = t.vm ∧ XC E st₀ t ∧ t.heap[q]? = some ce ∧ ce.vm = .none ∧ s.vm.findClass E = some ce.cls ∧
      Steps p.tables e below (T.setTop g) ((T'.setTop { g with stack := rest }).pushFrame (.throwing q)))
def vx_X {S : Type} (px : S → Prop) (B : String → S → State → Prop) (A : Nat → Prop) : String → State → State → Prop := fun E st t => ∃ u : S, px u ∧ B E u t ∧ va_F A st t
section Runs
variable {p : Program} {l : Launch} {e : Env} {R : Room} {s : State} {m : MethodId} {args : Array Value} {below : List Frame} {meth : Method} {c : Code} {H : Heap} {locs : List Loc} {cells slots : Nat}
variable {y : MethodName} {bytes cc : ByteArray} {maxL nL mc ms n index : Nat} {ret : Option FieldType} {ws : List Cond} {rm : Room} {Pc : Array Value → State → Prop} {Qc : Array Value → State → Outcome → State → Prop} {XC : String → State → State → Prop} {free : Addr → Prop} {Ts : List Cond} {own C : String} {b : Addr} {As rest : List Value} {g : JFrame}
theorem vx_callBack (cb : CallB R s args own index y bytes maxL ret ws rm mc ms n) (hM : vx_Met l y ws rm Pc Qc XC mc ms free) (hbl : FrameBlind Pc) : vx_Back l R p e below s args y 3 8 (PreOf R mc ms Pc) (PostOf Qc mc ms free) (vx_Post XC mc ms free) := by
  obtain ⟨hrc, hrs, hfr, hlo, hws, hcw, -, hini, -⟩ := cb
  exact vx_back (bytes := bytes) (maxL := maxL) (ret := ret) hM hbl hrc hrs hfr hlo hws hcw (fun a' U hW => word_at hW (Or.inl (by first | rfl | simp [Cond.onTables, Cond.keeps, Cond.steady])) hini)
theorem vx_runV (S : CallFix p m c cc nL s args Ts own) (hM : vx_Met l y ws rm Pc Qc XC mc ms free) (cw : CallW R s args own C index y bytes maxL ret ws rm mc ms n) (hp : PreV s H C b Pc As)
    (hg : g.method = m) (hn : As.length = n) (hsize : g.locals.size = nL) (hstack : g.stack = As.reverse ++ .ref b :: rest) (hW : 2 * g.monitorRoom + (rest.map fun v => v.category).sum ≤ 8) (hdg : decode cc g.pc = .ok (.invokevirtual index, 3)) (hf : cells + mc ≤ R.cells ∧ slots + ms ≤ R.slots) :
    vx_Run p l e R s m args below meth c H locs cells slots mc ms g rest (Qc (Value.ref b :: As).toArray) XC free := by
  have hK : vx_Back l R p e below s args y 3 8 (PreOf R mc ms Pc) (PostOf Qc mc ms free) (vx_Post XC mc ms free) := vx_callBack cw.1 hM hp.1
  obtain ⟨⟨-, -, -, -, -, -, hcode, -, hy, hlen, hl⟩, hin, hse⟩ := cw
  obtain ⟨hx, hb, hml, ho, -⟩ := S
  obtain ⟨-, ⟨cellB, hcB, hoB, hclB⟩, hPc⟩ := hp
  intro T hT X
  rcases vx_callV X hx (C := C) (bytes := bytes) (maxL := maxL) (ret := ret) ho hl hin hse hcode hy hK (by rw [hT]; exact hcB) hoB hclB hg (hsize.trans hml.symm) (argsL := As) (rest := rest) (fun sig h => hn.trans (hlen sig h)) hstack hW (by rw [hb]; exact hdg)
    (fun vm₁ hW₁ => ⟨hf.1, hf.2, hPc (T.setVm vm₁) hT hW₁⟩) with ⟨v, vm₁, ⟨U', l2, c2, s2⟩, hW₁, X', ⟨g', mk, t, L, e1, e2, hq, h1, hL, h2, h3⟩, st⟩ | ⟨q, vm₁, ⟨U', l2, c2, s2⟩, hW₁, X', ⟨g', mk, t, L, E, ce, e1, e2, hq, hce, hcv, hcl, h1, hL, h2, h3⟩, st⟩
  · dsimp only [Pt.U, Pt.locs, Pt.cells, Pt.slots] at X' e1 e2 h1 h2 h3 st
    subst h1; subst h2; subst h3
    exact Or.inl ⟨v, (T.setVm vm₁).calling g' mk (Value.ref b :: As).toArray, t, U', L, hT, X', hL, e1, e2, hq, st⟩
  · dsimp only [Pt.U, Pt.locs, Pt.cells, Pt.slots] at X' e1 e2 h1 h2 h3 st hcl
    subst h1; subst h2; subst h3
    exact Or.inr ⟨q, (T.setVm vm₁).calling g' mk (Value.ref b :: As).toArray, t, U', L, E, ce, hT, X', hL, e1, e2, hq, hce, hcv, vx_cls hW₁ hcl, st⟩
theorem vx_runS (S : CallFix p m c cc nL s args Ts own) (hM : vx_Met l y ws rm Pc Qc XC mc ms free) (cw : CallB R s args own index y bytes maxL ret ws rm mc ms n ∧ (Cond.static y).before args s = true) (hp : PreS s H Pc As)
    (hg : g.method = m) (hn : As.length = n) (hsize : g.locals.size = nL) (hstack : g.stack = As.reverse ++ rest) (hW : 2 * g.monitorRoom + (rest.map fun v => v.category).sum ≤ 8) (hdg : decode cc g.pc = .ok (.invokestatic index, 3)) (hf : cells + mc ≤ R.cells ∧ slots + ms ≤ R.slots) :
    vx_Run p l e R s m args below meth c H locs cells slots mc ms g rest (Qc As.toArray) XC free := by
  have hK : vx_Back l R p e below s args y 3 8 (PreOf R mc ms Pc) (PostOf Qc mc ms free) (vx_Post XC mc ms free) := vx_callBack cw.1 hM hp.1
  obtain ⟨⟨-, -, -, -, -, -, hcode, hini, hy, hlen, hl⟩, hstt⟩ := cw
  obtain ⟨hx, hb, hml, ho, -⟩ := S
  intro T hT X
  rcases vx_callS X hx (bytes := bytes) (maxL := maxL) (ret := ret) ho hl hstt hini hcode hy hK hg (hsize.trans hml.symm) (argsL := As) (rest := rest) (fun sig h => hn.trans (hlen sig h)) hstack hW (by rw [hb]; exact hdg)
    (fun vm₁ hW₁ => ⟨hf.1, hf.2, hp.2 (T.setVm vm₁) hT hW₁⟩) with ⟨v, vm₁, ⟨U', l2, c2, s2⟩, hW₁, X', ⟨g', mk, t, L, e1, e2, hq, h1, hL, h2, h3⟩, st⟩ | ⟨q, vm₁, ⟨U', l2, c2, s2⟩, hW₁, X', ⟨g', mk, t, L, E, ce, e1, e2, hq, hce, hcv, hcl, h1, hL, h2, h3⟩, st⟩
  · dsimp only [Pt.U, Pt.locs, Pt.cells, Pt.slots] at X' e1 e2 h1 h2 h3 st
    subst h1; subst h2; subst h3
    exact Or.inl ⟨v, (T.setVm vm₁).calling g' mk As.toArray, t, U', L, hT, X', hL, e1, e2, hq, st⟩
  · dsimp only [Pt.U, Pt.locs, Pt.cells, Pt.slots] at X' e1 e2 h1 h2 h3 st hcl
    subst h1; subst h2; subst h3
    exact Or.inr ⟨q, (T.setVm vm₁).calling g' mk As.toArray, t, U', L, E, ce, hT, X', hL, e1, e2, hq, hce, hcv, vx_cls hW₁ hcl, st⟩
end Runs
section Rows
variable {p : Program} {l : Launch} {e : Env} {R : Room} {s : State} {m : MethodId} {args : Array Value} {below : List Frame} {meth : Method} {c : Code} {H : Heap} {locs : List Loc} {cells slots : Nat} {Q : State → Prop}
variable {mc ms : Nat} {free : Addr → Prop} {A0 A1 : Nat → Prop} {H0 : Heap} {a : Array Value} {pc : Nat} {ls : Array Slot} {st0 rest : List Value}
theorem vx_keep {st₀ t T' : State} {L : List Loc} (h0 : st₀.heap = H) (e1 : T'.heap = t.heap) (hS : va_S A0 H0 H locs) (hA : ∀ q, q < H.size → A1 q → A0 q) (hf : ∀ q, free q → A0 q) (hL : ∀ q ∈ L, free q.base) (hF : va_F A1 st₀ t) :
    H.size ≤ T'.heap.size ∧ (∀ q : Nat, q < H.size → ¬ A1 q → T'.heap[q]? = H[q]?) ∧ va_S A0 H0 T'.heap (locs ++ L) := by
  obtain ⟨hz, hk⟩ := hF
  rw [h0] at hz hk
  exact ⟨by rw [e1]; exact hz, fun q h1 h2 => by rw [e1]; exact hk q h1 h2,
    ⟨Nat.le_trans hS.1 (by rw [e1]; exact hz), fun q h1 h2 => by rw [e1, hk q (Nat.lt_of_lt_of_le h1 hS.1) (fun z => h2 (hA q (Nat.lt_of_lt_of_le h1 hS.1) z))]; exact hS.2.1 q h1 h2, fun q hq => by
      rcases List.mem_append.mp hq with h | h
      · exact hS.2.2 q h
      · exact hf _ (hL q h)⟩⟩
theorem vx_calli {S SX : Type} {post : Int32 → S → Prop} {px : SX → Prop} {B : S → State → Prop} {BX : String → SX → State → Prop} {AX : Nat → Prop} (hr : vx_Run p l e R s m args below meth c H locs cells slots mc ms (F0 m pc ls st0) rest (va_Qi post B A1 a) (vx_X px BX AX) free) (hS : va_S A0 H0 H locs) (hA : ∀ q, q < H.size → A1 q → A0 q) (hf : ∀ q, free q → A0 q) (hAX : ∀ q, q < H.size → AX q → A0 q)
    (kx : ∀ (E : String) (ce : Cell) (q9 : Addr) (u : SX) (t : State) (H1 : Heap) (locs1 : List Loc), t.heap = H1 → s.vm.Alike t.vm → px u → BX E u t → H.size ≤ H1.size → (∀ q : Nat, q < H.size → ¬ AX q → H1[q]? = H[q]?) → va_S A0 H0 H1 locs1 → H1[q9]? = some ce → ce.vm = .none → s.vm.findClass E = some ce.cls → vx_W p l e R s m args below meth c H1 locs1 (cells + mc) (slots + ms) Q (F0 m pc ls rest) q9)
    (kk : ∀ (r : Int32) (u : S) (t : State) (H1 : Heap) (locs1 : List Loc), t.heap = H1 → s.vm.Alike t.vm → post r u → B u t → H.size ≤ H1.size → (∀ q : Nat, q < H.size → ¬ A1 q → H1[q]? = H[q]?) → va_S A0 H0 H1 locs1 → W p l e R s m args below meth c H1 locs1 (cells + mc) (slots + ms) Q (F0 m (pc + 3) ls (.int r :: rest))) : W p l e R s m args below meth c H locs cells slots Q (F0 m pc ls st0) := by
  intro T hT X
  rcases hr T hT X with ⟨v, st₀, t, T', L, h0, X', hL, e1, e2, ⟨⟨r, u, hv, hp, hb⟩, hF⟩, st⟩ | ⟨q, st₀, t, T', L, E, ce, h0, X', hL, e1, e2, ⟨u, hp, hb, hF⟩, hce, hcv, hcl, st⟩
  · cases hv
    obtain ⟨k1, k2, k3⟩ := vx_keep h0 e1 hS hA hf hL hF
    obtain ⟨t2, a1, b1⟩ := kk r u t T'.heap (locs ++ L) e1.symm (by rw [← e2]; exact X'.warmed.alike) hp hb k1 k2 k3 T' rfl X'
    exact ⟨t2, st t2 a1, b1⟩
  · obtain ⟨k1, k2, k3⟩ := vx_keep h0 e1 hS hAX hf hL hF
    obtain ⟨t2, a1, b1⟩ := kx E ce q u t T'.heap (locs ++ L) e1.symm (by rw [← e2]; exact X'.warmed.alike) hp hb k1 k2 k3 (by rw [e1]; exact hce) hcv hcl T' rfl X'
    exact ⟨t2, st.trans a1, b1⟩
theorem vx_calll {S SX : Type} {post : Int64 → S → Prop} {px : SX → Prop} {B : S → State → Prop} {BX : String → SX → State → Prop} {AX : Nat → Prop} (hr : vx_Run p l e R s m args below meth c H locs cells slots mc ms (F0 m pc ls st0) rest (va_Ql post B A1 a) (vx_X px BX AX) free) (hS : va_S A0 H0 H locs) (hA : ∀ q, q < H.size → A1 q → A0 q) (hf : ∀ q, free q → A0 q) (hAX : ∀ q, q < H.size → AX q → A0 q)
    (kx : ∀ (E : String) (ce : Cell) (q9 : Addr) (u : SX) (t : State) (H1 : Heap) (locs1 : List Loc), t.heap = H1 → s.vm.Alike t.vm → px u → BX E u t → H.size ≤ H1.size → (∀ q : Nat, q < H.size → ¬ AX q → H1[q]? = H[q]?) → va_S A0 H0 H1 locs1 → H1[q9]? = some ce → ce.vm = .none → s.vm.findClass E = some ce.cls → vx_W p l e R s m args below meth c H1 locs1 (cells + mc) (slots + ms) Q (F0 m pc ls rest) q9)
    (kk : ∀ (r : Int64) (u : S) (t : State) (H1 : Heap) (locs1 : List Loc), t.heap = H1 → s.vm.Alike t.vm → post r u → B u t → H.size ≤ H1.size → (∀ q : Nat, q < H.size → ¬ A1 q → H1[q]? = H[q]?) → va_S A0 H0 H1 locs1 → W p l e R s m args below meth c H1 locs1 (cells + mc) (slots + ms) Q (F0 m (pc + 3) ls (.long r :: rest))) : W p l e R s m args below meth c H locs cells slots Q (F0 m pc ls st0) := by
  intro T hT X
  rcases hr T hT X with ⟨v, st₀, t, T', L, h0, X', hL, e1, e2, ⟨⟨r, u, hv, hp, hb⟩, hF⟩, st⟩ | ⟨q, st₀, t, T', L, E, ce, h0, X', hL, e1, e2, ⟨u, hp, hb, hF⟩, hce, hcv, hcl, st⟩
  · cases hv
    obtain ⟨k1, k2, k3⟩ := vx_keep h0 e1 hS hA hf hL hF
    obtain ⟨t2, a1, b1⟩ := kk r u t T'.heap (locs ++ L) e1.symm (by rw [← e2]; exact X'.warmed.alike) hp hb k1 k2 k3 T' rfl X'
    exact ⟨t2, st t2 a1, b1⟩
  · obtain ⟨k1, k2, k3⟩ := vx_keep h0 e1 hS hAX hf hL hF
    obtain ⟨t2, a1, b1⟩ := kx E ce q u t T'.heap (locs ++ L) e1.symm (by rw [← e2]; exact X'.warmed.alike) hp hb k1 k2 k3 (by rw [e1]; exact hce) hcv hcl T' rfl X'
    exact ⟨t2, st.trans a1, b1⟩
theorem vx_callf {S SX : Type} {post : UInt32 → S → Prop} {px : SX → Prop} {B : S → State → Prop} {BX : String → SX → State → Prop} {AX : Nat → Prop} (hr : vx_Run p l e R s m args below meth c H locs cells slots mc ms (F0 m pc ls st0) rest (va_Qf post B A1 a) (vx_X px BX AX) free) (hS : va_S A0 H0 H locs) (hA : ∀ q, q < H.size → A1 q → A0 q) (hf : ∀ q, free q → A0 q) (hAX : ∀ q, q < H.size → AX q → A0 q)
    (kx : ∀ (E : String) (ce : Cell) (q9 : Addr) (u : SX) (t : State) (H1 : Heap) (locs1 : List Loc), t.heap = H1 → s.vm.Alike t.vm → px u → BX E u t → H.size ≤ H1.size → (∀ q : Nat, q < H.size → ¬ AX q → H1[q]? = H[q]?) → va_S A0 H0 H1 locs1 → H1[q9]? = some ce → ce.vm = .none → s.vm.findClass E = some ce.cls → vx_W p l e R s m args below meth c H1 locs1 (cells + mc) (slots + ms) Q (F0 m pc ls rest) q9)
    (kk : ∀ (r : UInt32) (u : S) (t : State) (H1 : Heap) (locs1 : List Loc), t.heap = H1 → s.vm.Alike t.vm → post r u → B u t → H.size ≤ H1.size → (∀ q : Nat, q < H.size → ¬ A1 q → H1[q]? = H[q]?) → va_S A0 H0 H1 locs1 → W p l e R s m args below meth c H1 locs1 (cells + mc) (slots + ms) Q (F0 m (pc + 3) ls (.float r :: rest))) : W p l e R s m args below meth c H locs cells slots Q (F0 m pc ls st0) := by
  intro T hT X
  rcases hr T hT X with ⟨v, st₀, t, T', L, h0, X', hL, e1, e2, ⟨⟨r, u, hv, hp, hb⟩, hF⟩, st⟩ | ⟨q, st₀, t, T', L, E, ce, h0, X', hL, e1, e2, ⟨u, hp, hb, hF⟩, hce, hcv, hcl, st⟩
  · cases hv
    obtain ⟨k1, k2, k3⟩ := vx_keep h0 e1 hS hA hf hL hF
    obtain ⟨t2, a1, b1⟩ := kk r u t T'.heap (locs ++ L) e1.symm (by rw [← e2]; exact X'.warmed.alike) hp hb k1 k2 k3 T' rfl X'
    exact ⟨t2, st t2 a1, b1⟩
  · obtain ⟨k1, k2, k3⟩ := vx_keep h0 e1 hS hAX hf hL hF
    obtain ⟨t2, a1, b1⟩ := kx E ce q u t T'.heap (locs ++ L) e1.symm (by rw [← e2]; exact X'.warmed.alike) hp hb k1 k2 k3 (by rw [e1]; exact hce) hcv hcl T' rfl X'
    exact ⟨t2, st.trans a1, b1⟩
theorem vx_calld {S SX : Type} {post : UInt64 → S → Prop} {px : SX → Prop} {B : S → State → Prop} {BX : String → SX → State → Prop} {AX : Nat → Prop} (hr : vx_Run p l e R s m args below meth c H locs cells slots mc ms (F0 m pc ls st0) rest (va_Qd post B A1 a) (vx_X px BX AX) free) (hS : va_S A0 H0 H locs) (hA : ∀ q, q < H.size → A1 q → A0 q) (hf : ∀ q, free q → A0 q) (hAX : ∀ q, q < H.size → AX q → A0 q)
    (kx : ∀ (E : String) (ce : Cell) (q9 : Addr) (u : SX) (t : State) (H1 : Heap) (locs1 : List Loc), t.heap = H1 → s.vm.Alike t.vm → px u → BX E u t → H.size ≤ H1.size → (∀ q : Nat, q < H.size → ¬ AX q → H1[q]? = H[q]?) → va_S A0 H0 H1 locs1 → H1[q9]? = some ce → ce.vm = .none → s.vm.findClass E = some ce.cls → vx_W p l e R s m args below meth c H1 locs1 (cells + mc) (slots + ms) Q (F0 m pc ls rest) q9)
    (kk : ∀ (r : UInt64) (u : S) (t : State) (H1 : Heap) (locs1 : List Loc), t.heap = H1 → s.vm.Alike t.vm → post r u → B u t → H.size ≤ H1.size → (∀ q : Nat, q < H.size → ¬ A1 q → H1[q]? = H[q]?) → va_S A0 H0 H1 locs1 → W p l e R s m args below meth c H1 locs1 (cells + mc) (slots + ms) Q (F0 m (pc + 3) ls (.double r :: rest))) : W p l e R s m args below meth c H locs cells slots Q (F0 m pc ls st0) := by
  intro T hT X
  rcases hr T hT X with ⟨v, st₀, t, T', L, h0, X', hL, e1, e2, ⟨⟨r, u, hv, hp, hb⟩, hF⟩, st⟩ | ⟨q, st₀, t, T', L, E, ce, h0, X', hL, e1, e2, ⟨u, hp, hb, hF⟩, hce, hcv, hcl, st⟩
  · cases hv
    obtain ⟨k1, k2, k3⟩ := vx_keep h0 e1 hS hA hf hL hF
    obtain ⟨t2, a1, b1⟩ := kk r u t T'.heap (locs ++ L) e1.symm (by rw [← e2]; exact X'.warmed.alike) hp hb k1 k2 k3 T' rfl X'
    exact ⟨t2, st t2 a1, b1⟩
  · obtain ⟨k1, k2, k3⟩ := vx_keep h0 e1 hS hAX hf hL hF
    obtain ⟨t2, a1, b1⟩ := kx E ce q u t T'.heap (locs ++ L) e1.symm (by rw [← e2]; exact X'.warmed.alike) hp hb k1 k2 k3 (by rw [e1]; exact hce) hcv hcl T' rfl X'
    exact ⟨t2, st.trans a1, b1⟩
theorem vx_callv {S SX : Type} {post : S → Prop} {px : SX → Prop} {B : S → State → Prop} {BX : String → SX → State → Prop} {AX : Nat → Prop} (hr : vx_Run p l e R s m args below meth c H locs cells slots mc ms (F0 m pc ls st0) rest (va_Qv post B A1 a) (vx_X px BX AX) free) (hS : va_S A0 H0 H locs) (hA : ∀ q, q < H.size → A1 q → A0 q) (hf : ∀ q, free q → A0 q) (hAX : ∀ q, q < H.size → AX q → A0 q)
    (kx : ∀ (E : String) (ce : Cell) (q9 : Addr) (u : SX) (t : State) (H1 : Heap) (locs1 : List Loc), t.heap = H1 → s.vm.Alike t.vm → px u → BX E u t → H.size ≤ H1.size → (∀ q : Nat, q < H.size → ¬ AX q → H1[q]? = H[q]?) → va_S A0 H0 H1 locs1 → H1[q9]? = some ce → ce.vm = .none → s.vm.findClass E = some ce.cls → vx_W p l e R s m args below meth c H1 locs1 (cells + mc) (slots + ms) Q (F0 m pc ls rest) q9)
    (kk : ∀ (u : S) (t : State) (H1 : Heap) (locs1 : List Loc), t.heap = H1 → s.vm.Alike t.vm → post u → B u t → H.size ≤ H1.size → (∀ q : Nat, q < H.size → ¬ A1 q → H1[q]? = H[q]?) → va_S A0 H0 H1 locs1 → W p l e R s m args below meth c H1 locs1 (cells + mc) (slots + ms) Q (F0 m (pc + 3) ls (rest))) : W p l e R s m args below meth c H locs cells slots Q (F0 m pc ls st0) := by
  intro T hT X
  rcases hr T hT X with ⟨v, st₀, t, T', L, h0, X', hL, e1, e2, ⟨⟨u, hv, hp, hb⟩, hF⟩, st⟩ | ⟨q, st₀, t, T', L, E, ce, h0, X', hL, e1, e2, ⟨u, hp, hb, hF⟩, hce, hcv, hcl, st⟩
  · cases hv
    obtain ⟨k1, k2, k3⟩ := vx_keep h0 e1 hS hA hf hL hF
    obtain ⟨t2, a1, b1⟩ := kk u t T'.heap (locs ++ L) e1.symm (by rw [← e2]; exact X'.warmed.alike) hp hb k1 k2 k3 T' rfl X'
    exact ⟨t2, st t2 a1, b1⟩
  · obtain ⟨k1, k2, k3⟩ := vx_keep h0 e1 hS hAX hf hL hF
    obtain ⟨t2, a1, b1⟩ := kx E ce q u t T'.heap (locs ++ L) e1.symm (by rw [← e2]; exact X'.warmed.alike) hp hb k1 k2 k3 (by rw [e1]; exact hce) hcv hcl T' rfl X'
    exact ⟨t2, st.trans a1, b1⟩
/-- caught by the row x of this method's table; the rows ahead don't take it -/
theorem vx_catch {own name : String} {E : String} {ce : Cell} {q : Addr} (hown : s.vm.findClass own = some m.cls) (pre : List ExceptionTableEntry) (x : ExceptionTableEntry) (suf : List ExceptionTableEntry) (hsplit : c.exceptionTable.toList = pre ++ x :: suf)
    (hpass : ∀ z ∈ pre, covers z pc = false ∨ (z.catchType ≠ 0 ∧ ∃ nm : String, (Cond.classLink own z.catchType nm).before args s = true ∧ va_Nc E nm s)) (hx : covers x pc = true) (h0 : x.catchType ≠ 0)
    (hlink : (Cond.classLink own x.catchType name).before args s = true) (hcast : (Cond.castable E name).before args s = true) (hcell : H[q]? = some ce) (hv : ce.vm = .none) (hcl : s.vm.findClass E = some ce.cls)
    (kk : W p l e R s m args below meth c H locs cells slots Q (F0 m x.handlerPc ls [.ref q])) : vx_W p l e R s m args below meth c H locs cells slots Q (F0 m pc ls rest) q := by
  intro T hT X
  have hpl : e.platform.magicAccessors = ({} : Platform).magicAccessors := by rw [X.admits.platform]
  obtain ⟨c3, c4, hc3, hc4, hasg⟩ := Cond.castable_spec hcast
  cases Option.some.inj (hc3.symm.trans hcl)
  obtain ⟨c5, hc5, hcl5⟩ := Cond.classLink_spec hown hlink e.platform hpl
  cases Option.some.inj (hc4.symm.trans hc5)
  obtain ⟨vm', X', st⟩ := X.thenCaughtThrough q (g := F0 m pc ls rest) rfl (Steps.refl _) (by rw [hT]; exact hcell) (by rw [hv]; rfl) (by obtain ⟨k9, h9, -⟩ := Vm.findClass_spec hcl; exact ⟨k9, h9⟩) pre x suf hsplit
    (fun z hz => by
      rcases hpass z hz with h | ⟨hz0, nm, hl1, hn1⟩
      · exact Or.inl h
      · obtain ⟨c6, hc6, hcl6⟩ := Cond.classLink_spec hown hl1 e.platform hpl
        obtain ⟨a8, b8, h1, h2, h3⟩ := hn1
        cases Option.some.inj (h1.symm.trans hcl)
        cases Option.some.inj (h2.symm.trans hc6)
        exact Or.inr ⟨hz0, _, hcl6, h3⟩) hx (Or.inr ⟨h0, c4, hcl5, hasg⟩)
  obtain ⟨t, a1, b1⟩ := kk (T.setVm vm') hT X'
  exact ⟨t, st.trans a1, b1⟩
end Rows
section Ends
variable {p : Program} {l : Launch} {e : Env} {R : Room} {s : State} {m : MethodId} {args : Array Value} {below : List Frame} {meth : Method} {c : Code} {H : Heap} {locs : List Loc} {cells slots : Nat} {Q : State → Prop}
variable {mc ms : Nat} {free : Addr → Prop} {A0 A1 : Nat → Prop} {H0 : Heap} {a : Array Value} {ls : Array Slot} {st0 rest : List Value}
variable {Qc : Array Value → State → Outcome → State → Prop} {XC : String → State → State → Prop}
/-- what a body that may throw owes at its end -/
def vx_MQ (below : List Frame) (Qc : Array Value → State → Outcome → State → Prop) (XC : String → State → State → Prop) (a : Array Value) (s : State) (mc ms : Nat) (free : Addr → Prop) : State → Prop := fun t =>
  ∃ o, t.status = .running ∧ Ended t below o ∧ vx_Q Qc XC mc ms free a s o t
theorem vx_ret {g : JFrame} {mc ms : Nat} (k : W p l e R s m args below meth c H locs cells slots (MQ below Qc args s mc ms free) g) : W p l e R s m args below meth c H locs cells slots (vx_MQ below Qc XC args s mc ms free) g := by
  intro T hT X
  obtain ⟨t, a1, o, b1, b2, b3, b4⟩ := k T hT X
  exact ⟨t, a1, o, b1, b2, Or.inl ⟨b3, b4⟩⟩
/-- not caught here: it goes on to the caller -/
theorem vx_widen {g : JFrame} {q : Addr} {k n : Nat} (h1 : cells ≤ k) (h2 : slots ≤ n) (kk : vx_W p l e R s m args below meth c H locs k n Q g q) : vx_W p l e R s m args below meth c H locs cells slots Q g q := fun T hT X => kk T hT (stand_widen X h1 h2)
theorem vx_out {pc : Nat} {E : String} {ce : Cell} {q : Addr} {mc ms : Nat} (hout : ∀ x ∈ c.exceptionTable.toList, covers x pc = false) (hlocks : meth.locks = false) (hcell : H[q]? = some ce) (hv : ce.vm = .none) (hcl : s.vm.findClass E = some ce.cls)
    (hx : ∀ t : State, t.heap = H → s.vm.Alike t.vm → XC E s t) (hf : ∀ z ∈ locs, free z.base) (hc : cells ≤ mc) (hs : slots ≤ ms) :
    vx_W p l e R s m args below meth c H locs cells slots (vx_MQ below Qc XC args s mc ms free) (F0 m pc ls rest) q := by
  intro T hT X
  obtain ⟨st1, hrun, hend, hW, hsm⟩ := X.leaveThrown q (g := F0 m pc ls rest) rfl rfl rfl hout hlocks
  have hcell9 : (T.setFrames (.throwing q :: below)).heap[q]? = some ce := by
    show T.heap[q]? = some ce
    rw [hT]; exact hcell
  exact ⟨_, st1, .threw q, hrun, hend, Or.inr ⟨q, rfl, E, ce, locs, hx _ hT hW.alike, hcell9, hv, hcl, hW, hsm.mono hc hs, hf⟩⟩
theorem vx_frame {U : State} {k n : Nat} (h : s.sameButNew ({ U with vm := s.vm } : State) locs k n) : s.heap.size ≤ U.heap.size ∧ ∀ q : Nat, q < s.heap.size → (∀ z ∈ locs, z.base ≠ q) → U.heap[q]? = s.heap[q]? := by
  obtain ⟨-, h2, -, -, -, h6⟩ := h
  refine ⟨h2, fun q hq hz => ?_⟩
  obtain ⟨c9, e1, e2, e3, e4⟩ := h6 q _ (Array.getElem?_eq_getElem hq)
  have hs : c9.slots = (s.heap[q]).slots := Array.ext_getElem? fun i => e4 i fun hm => hz _ hm rfl
  have h9 : c9 = s.heap[q] := by
    rw [hs] at e2
    exact e2
  have e5 : U.heap[q]? = some c9 := e1
  rw [e5, h9, Array.getElem?_eq_getElem hq]
/-- the words of a throw but the four that speak of the heap -/
def vx_no (w : Cond) : Bool := decide (w ≠ .isRef (.static Bundle.tN "UNASSIGNED_STACK" Bundle.steD)) && decide (w ≠ .isRef (.static Bundle.tN "SUPPRESSED_SENTINEL" Bundle.listD)) && decide (w ≠ .laysStatic Bundle.tN "UNASSIGNED_STACK" Bundle.steD) && decide (w ≠ .laysStatic Bundle.tN "SUPPRESSED_SENTINEL" Bundle.listD)
def vx_at0 (own : String) (ic : Nat) (X : String) (names : List String) : List Cond := (Bundle.ownAtoms0 own ic X names).filter vx_no
def vx_atS (own : String) (ic : Nat) (X : String) (names : List String) : List Cond := (Bundle.ownAtoms own ic X names).filter vx_no
/-- a word that the tables alone decide, or a good one -/
def vx_ot (w : Cond) : Bool := w.onTables || goodWord w
theorem vx_ot_at {args a' : Array Value} {s U : State} {w : Cond} (hW : s.WarmedH U.vm) (hvm : s.vm = U.vm) (hg : vx_ot w = true) (h : w.before args s = true) : w.before a' U = true := by
  simp only [vx_ot, Bool.or_eq_true] at hg
  rcases hg with hg | hg
  · exact va_tabs hg hvm h
  · exact word_at hW (good_of_word hg) h
/-- a list's words: the good ones out of the method's own list, the others by premises of their own -/
theorem vx_hat {args : Array Value} {s : State} {L B : List Cond} (h1 : ∀ w ∈ L.filter goodWord, w.before args s = true) (h2 : ∀ w ∈ L.filter (fun w => !goodWord w), w ∈ B) (h3 : ∀ w ∈ B, w.before args s = true) : ∀ w ∈ L, w.before args s = true := by
  intro w hw
  by_cases g : goodWord w = true
  · exact h1 w (List.mem_filter.mpr ⟨hw, g⟩)
  · refine h3 w (h2 w (List.mem_filter.mpr ⟨hw, ?_⟩))
    show (!goodWord w) = true
    cases hgw : goodWord w
    · rfl
    · exact absurd hgw g
theorem vx_c {args : Array Value} {s : State} {w : Cond} {B : List Cond} (h : w.before args s = true) (t : ∀ w ∈ B, w.before args s = true) : ∀ w' ∈ w :: B, w'.before args s = true := fun w' h' => (List.mem_cons.mp h').elim (fun e => by rw [e]; exact h) (t w')
theorem vx_n {args : Array Value} {s : State} : ∀ w ∈ ([] : List Cond), w.before args s = true := fun _ h => nomatch h
theorem vx_own {args : Array Value} {s : State} {L : List Cond} (h1 : ∀ w ∈ L.filter vx_no, w.before args s = true)
    (hU : (Cond.isRef (.static Bundle.tN "UNASSIGNED_STACK" Bundle.steD)).before args s = true) (hN : (Cond.isRef (.static Bundle.tN "SUPPRESSED_SENTINEL" Bundle.listD)).before args s = true)
    (lU : (Cond.laysStatic Bundle.tN "UNASSIGNED_STACK" Bundle.steD).before args s = true) (lN : (Cond.laysStatic Bundle.tN "SUPPRESSED_SENTINEL" Bundle.listD).before args s = true) : ∀ w ∈ L, w.before args s = true := by
  intro w hw
  by_cases e1 : w = .isRef (.static Bundle.tN "UNASSIGNED_STACK" Bundle.steD)
  · rw [e1]; exact hU
  · by_cases e2 : w = .isRef (.static Bundle.tN "SUPPRESSED_SENTINEL" Bundle.listD)
    · rw [e2]; exact hN
    · by_cases e3 : w = .laysStatic Bundle.tN "UNASSIGNED_STACK" Bundle.steD
      · rw [e3]; exact lU
      · by_cases e4 : w = .laysStatic Bundle.tN "SUPPRESSED_SENTINEL" Bundle.listD
        · rw [e4]; exact lN
        · exact h1 w (List.mem_filter.mpr ⟨hw, by unfold vx_no; rw [decide_eq_true e1, decide_eq_true e2, decide_eq_true e3, decide_eq_true e4]; rfl⟩)
/-- where a static field lies, its class's statics cell in H -/
def vx_L (C n d : String) (A : Nat → Prop) (U : State) (H : Heap) : Prop := ∃ (c : ClassId) (k : Class) (i : Nat) (f : Field) (a : Nat) (cell : Cell), U.vm.findClass C = some c ∧ U.fieldFound? C n d = some (c, k, i, f) ∧ f.isStatic = true ∧ k.statics = some a ∧ H[a]? = some cell ∧ cell.vm.isStatics = true ∧ cell.cls = c ∧ f.slot < cell.slots.size ∧ k.staticTypes[f.slot]? = some f.type ∧ ¬ A a
theorem vx_L.moved {C n d : String} {A : Nat → Prop} {u U : State} {H : Heap} (hvm : u.vm.Alike U.vm) (h : vx_L C n d A u H) : vx_L C n d A U H := by
  obtain ⟨c, k, i, f, a, cell, h1, h2, h3, h4, h5, h6, h7, h8, h9, h10⟩ := h
  obtain ⟨k', hi', he⟩ := State.fieldFound?_setVm hvm h2
  exact ⟨c, k', i, f, a, cell, by rw [hvm.findClass]; exact h1, hi', h3, by rw [he]; exact h4, h5, h6, h7, h8, by rw [he]; exact h9, h10⟩
theorem vx_L.kept {C n d : String} {A : Nat → Prop} {U : State} {H H1 : Heap} (h : vx_L C n d A U H) (hq : ∀ a : Nat, a < H.size → ¬ A a → H1[a]? = H[a]?) : vx_L C n d A U H1 := by
  obtain ⟨c, k, i, f, a, cell, h1, h2, h3, h4, h5, h6, h7, h8, h9, h10⟩ := h
  exact ⟨c, k, i, f, a, cell, h1, h2, h3, h4, by rw [hq a (Array.getElem?_eq_some_iff.mp h5).1 h10]; exact h5, h6, h7, h8, h9, h10⟩
theorem vx_L.narrow {C n d : String} {A B : Nat → Prop} {U : State} {H : Heap} (h : vx_L C n d A U H) (hAB : ∀ q, B q → A q) : vx_L C n d B U H := by
  obtain ⟨c, k, i, f, a, cell, h1, h2, h3, h4, h5, h6, h7, h8, h9, h10⟩ := h
  exact ⟨c, k, i, f, a, cell, h1, h2, h3, h4, h5, h6, h7, h8, h9, fun z => h10 (hAB _ z)⟩
theorem vx_L.word {C n d : String} {A : Nat → Prop} {s : State} {args : Array Value} (h : vx_L C n d A s s.heap) : (Cond.laysStatic C n d).before args s = true := by
  obtain ⟨c, k, i, f, a, cell, h1, h2, h3, h4, h5, h6, h7, h8, h9, -⟩ := h
  show (Cond.laysStatic C n d).holds args s none s [] = true
  exact Cond.laysStatic_of h1 h2 h3 h4 h5 h6 h7 h8 h9
/-- .. and what it holds: null or some reference -/
def vx_Zq (C n d : String) (A : Nat → Prop) (U : State) (H : Heap) : Prop := va_Zq C n d A U H ∧ vx_L C n d A U H
theorem vx_Zq.moved {C n d : String} {A : Nat → Prop} {u U : State} {H : Heap} (hvm : u.vm.Alike U.vm) (h : vx_Zq C n d A u H) : vx_Zq C n d A U H := ⟨va_Zq.moved hvm h.1, vx_L.moved hvm h.2⟩
theorem vx_Zq.kept {C n d : String} {A : Nat → Prop} {U : State} {H H1 : Heap} (h : vx_Zq C n d A U H) (hq : ∀ a : Nat, a < H.size → ¬ A a → H1[a]? = H[a]?) : vx_Zq C n d A U H1 := ⟨va_Zq.kept h.1 hq, vx_L.kept h.2 hq⟩
theorem vx_Zq.narrow {C n d : String} {A B : Nat → Prop} {U : State} {H : Heap} (h : vx_Zq C n d A U H) (hAB : ∀ q, B q → A q) : vx_Zq C n d B U H := ⟨va_Zq.narrow h.1 hAB, vx_L.narrow h.2 hAB⟩
theorem vx_Zqof {args : Array Value} {s : State} {C n d : String} {A : Nat → Prop} (hl : (Cond.laysStatic C n d).before args s = true) (hini : (Cond.initialized C).before args s = true) (h : (Cond.isRef (.static C n d)).before args s = true) (hA : ∀ a : Nat, a < s.heap.size → ¬ A a) : vx_Zq C n d A s s.heap := by
  refine ⟨va_Zqof hl hini h hA, ?_⟩
  obtain ⟨c, k, i, f, a, cell, h1, h2, h3, h4, h5, h6, h7, h8, h9⟩ := Cond.laysStatic_spec hl
  exact ⟨c, k, i, f, a, cell, h1, h2, h3, h4, h5, h6, h7, h8, h9, hA a (Array.getElem?_eq_some_iff.mp h5).1⟩
theorem vx_isRef {C n d : String} {v : Value} {A : Nat → Prop} {s : State} {args : Array Value} (h : va_Z C n d v A s s.heap) (hv : v.isRef = true) : (Cond.isRef (.static C n d)).before args s = true := by
  obtain ⟨cf, kf, fi, f, a, cell, h1, h2, h3, h4, h5, h6, h7, -⟩ := h
  have he : (Term.static C n d).eval args s none [] s = some v := by
    simp [Term.eval, State.fieldNamed?, h1, h2, h4, h5, h6, h7]
  simp only [Cond.before, Cond.holds, Cond.value, he]
  cases v <;> simp_all [Value.isRef]
theorem vx_isRefq {C n d : String} {A : Nat → Prop} {s : State} {args : Array Value} (h : va_Zq C n d A s s.heap) : (Cond.isRef (.static C n d)).before args s = true := by
  rcases h with h | ⟨t, h⟩
  · exact vx_isRef h rfl
  · exact vx_isRef h rfl
/-- the same frame, seen from here: as if the method were called anew in this heap -/
theorem vx_rebase {T : State} (X : Stand p l e R s m args below meth c T locs cells slots) {R' : Room} (hf : R'.frames ≤ R.frames) (hl : R'.locals ≤ R.locals) (hc : cells + R'.cells ≤ R.cells) (hs : slots + R'.slots ≤ R.slots) :
    Stand p l e R' ((T.setVm s.vm).setFrames (.invoking m args :: below)) m args below meth c T [] 0 0 := by
  have htop : (T.setVm s.vm).topJava?.isSome := X.here.top
  have hF : ((T.setVm s.vm).setFrames (.invoking m args :: below)).frames = .invoking m args :: below := State.frames_setFrames _ (State.cur_lt_of_top htop)
  obtain ⟨g₀, hg0⟩ := Option.isSome_iff_exists.mp htop
  obtain ⟨r, hr⟩ := State.topJava?_eq_some.mp hg0
  have hl9 : e.platform.stackLimits (T.setVm s.vm).me = e.platform.stackLimits s.me := X.limits
  have hb9 : (T.setVm s.vm).me.stackBytes = s.me.stackBytes := X.bytes
  refine ⟨X.admits, X.cas, X.clock, hF, ?_, X.hears, X.method, X.code, X.here, X.tail, X.warmed, ?_, ?_, ?_⟩
  · have h := X.room
    have hU : ((T.setVm s.vm).setFrames (.invoking m args :: below)).localsInUse = s.localsInUse := by
      rw [State.localsInUse_invoking hF (meth := meth) (c := c) X.method X.code, State.localsInUse_invoking X.frames X.method X.code]
    simp only [State.hasRoom, Bool.and_eq_true, decide_eq_true_eq] at h ⊢
    obtain ⟨⟨⟨⟨h1, h2, h3, h4, h5, h6⟩, h7⟩, h8⟩, h9⟩ := h
    rw [X.frames, List.length_cons] at h2 h3
    have q1 := X.heapSize
    have q2 := X.used
    simp only [hF, hU, List.length_cons, State.stackLimits_setFrames, State.stackBytes_setFrames, hl9, hb9]
    refine ⟨⟨⟨⟨by omega, by omega, by omega, by omega, by omega, h6⟩, ?_⟩, ?_⟩, X.book⟩
    · show T.heap.size + R'.cells ≤ e.platform.maxCells
      omega
    · show T.slotsUsed + R'.slots ≤ e.platform.maxSlots
      omega
  · rw [State.stackLimits_setFrames]; rfl
  · rw [State.stackBytes_setFrames]; rfl
  · refine ⟨?_, Nat.le_refl _, Nat.le_refl _, ?_, ?_, fun a c9 h9 => ⟨c9, h9, rfl, rfl, fun _ _ => rfl⟩⟩
    · obtain ⟨t, ht, -⟩ := State.frames_cons hr
      show T.setVm s.vm = { ((T.setVm s.vm).setFrames (.invoking m args :: below)).setFrames (T.setVm s.vm).frames with heap := T.heap, slotsUsed := T.slotsUsed }
      rw [State.setFrames_setFrames, State.setFrames_self ht]
      rfl
    · show T.slotsUsed = T.slotsUsed + ((T.heap.toList.drop T.heap.size).map (·.slots.size)).sum
      rw [List.drop_eq_nil_of_le (Nat.le_of_eq Array.length_toList)]
      rfl
    · show ((T.heap.toList.drop T.heap.size).map (·.slots.size)).sum ≤ 0
      rw [List.drop_eq_nil_of_le (Nat.le_of_eq Array.length_toList)]
      exact Nat.le_refl _
/-- 'throw new E()': new; dup; invokespecial; athrow -/
theorem vx_throw0 {cc : ByteArray} {pc : Nat} (hexec : p.tables.exec = Jvm.exec) (hb : c.code = cc) (hl : l.stackTraces = false) {own cls : String} {names : List String} {ik ic mc ms : Nat} {A : Nat → Prop}
    (hown : s.vm.findClass own = some m.cls) (hcls : Bundle.fit cls = true) (hnames : ∀ n ∈ names, Bundle.fit n = true)
    (hk : (Cond.classLink own ik cls).before args s = true) (hini : (Cond.initialized cls).before args s = true) (hat : ∀ w ∈ vx_at0 own ic cls names, w.before args s = true)
    (hgood : ∀ w ∈ Cond.classLink own ik cls :: Cond.initialized cls :: vx_at0 own ic cls names, vx_ot w = true)
    (hU : vx_Zq Bundle.tN "UNASSIGNED_STACK" Bundle.steD A s s.heap) (hN : vx_Zq Bundle.tN "SUPPRESSED_SENTINEL" Bundle.listD A s s.heap) (hS : va_S A s.heap H locs) (hsize : ls.size = c.maxLocals)
    (d0 : decode cc pc = .ok (.new ik, 3)) (d3 : decode cc (pc + 3) = .ok (.dup, 1)) (d4 : decode cc (pc + 4) = .ok (.invokespecial ic, 3)) (d7 : decode cc (pc + 7) = .ok (.athrow, 1))
    (hout : ∀ x ∈ c.exceptionTable.toList, covers x (pc + 7) = false)
    (hRframes : names.length + 3 < R.frames) (hRlocals : (rest.map fun v => v.category).sum + (13 * (names.length + 1) + 42) ≤ R.locals) (hRcells : cells + 1 ≤ R.cells) (hRslots : slots + 6 ≤ R.slots) (hlocks : meth.locks = false)
    (hx : ∀ t : State, s.vm.Alike t.vm → H.size ≤ t.heap.size → (∀ q : Nat, q < H.size → t.heap[q]? = H[q]?) → XC cls s t)
    (hf : ∀ z ∈ locs, free z.base) (hc : cells + 1 ≤ mc) (hs : slots + 6 ≤ ms) :
    W p l e R s m args below meth c H locs cells slots (vx_MQ below Qc XC args s mc ms free) (F0 m pc ls rest) := by
  intro T hT X
  have htr : e.platform.stackTraces = false := (show e.platform.stackTraces = l.stackTraces by rw [X.admits.platform]).trans hl
  have Y := vx_rebase X (R' := { frames := R.frames, locals := R.locals, cells := 1, slots := 6 }) (Nat.le_refl _) (Nat.le_refl _) hRcells hRslots
  obtain ⟨s', hA⟩ : ∃ z, z = (T.setVm s.vm).setFrames (.invoking m args :: below) := ⟨_, rfl⟩
  rw [← hA] at Y
  have hvm : s'.vm = s.vm := by rw [hA]; rfl
  have hhp : s'.heap = H := by rw [hA]; exact hT
  have hW0 : s.WarmedH s'.vm := by rw [hvm]; exact State.WarmedH.refl s
  have hat' : ∀ w ∈ vx_at0 own ic cls names, w.before args s' = true := fun w hw => vx_ot_at hW0 hvm.symm (hgood w (List.mem_cons_of_mem _ (List.mem_cons_of_mem _ hw))) (hat w hw)
  have hk' : (Cond.classLink own ik cls).before args s' = true := vx_ot_at hW0 hvm.symm (hgood _ List.mem_cons_self) hk
  have hini' : (Cond.initialized cls).before args s' = true := vx_ot_at hW0 hvm.symm (hgood _ (List.mem_cons_of_mem _ List.mem_cons_self)) hini
  have hU' : vx_Zq Bundle.tN "UNASSIGNED_STACK" Bundle.steD A s' s'.heap := by rw [hhp]; exact vx_Zq.moved hW0.alike (hU.kept hS.2.1)
  have hN' : vx_Zq Bundle.tN "SUPPRESSED_SENTINEL" Bundle.listD A s' s'.heap := by rw [hhp]; exact vx_Zq.moved hW0.alike (hN.kept hS.2.1)
  have h : ∀ w ∈ Bundle.ownAtoms0 own ic cls names, w.before args s' = true := vx_own hat' (vx_isRefq hU'.1) (vx_isRefq hN'.1) hU'.2.word hN'.2.word
  have hown' : s'.vm.findClass own = some m.cls := by rw [hvm]; exact hown
  have hins : (Cond.instantiable cls 6).before args s' = true := h _ (by simp [Bundle.ownAtoms0])
  obtain ⟨vm₁, cX, kX, hfX, hkX, -, -, X₁, st1⟩ := Y.newCold hexec (own := own) (C := cls) (index := ik) (n := 6) hown' hk' hins hini'
    (g := F0 m pc ls rest) rfl (by rw [hb]; exact d0) (Nat.le_refl _) (Nat.le_refl _)
  generalize hT1 : (T.setVm vm₁).pushCell { cls := cX, slots := kX.instanceTypes.map defaultValue, vm := .none } = T1 at X₁ st1
  have hcat : (Value.ref T.heap.size).category = 1 := rfl
  have hcellA : T1.heap[T.heap.size]? = some (freshCell cX kX) := by rw [← hT1]; exact State.heap_pushCell_size _ _
  have d3' : decode c.code (pc + 3) = .ok (.dup, 1) := by rw [hb]; exact d3
  obtain ⟨U, hsteps, hrun, hend, hW, hsame, ce, hce, hO⟩ := X₁.ctorThrow0 hexec htr (own := own) (cls := cls) (names := names) (ic := ic) hown' hcls hnames h (fun x hx => nomatch hx) hfX hkX hcellA (by rw [hhp, hT]; exact Nat.le_refl _)
    (g := { method := m, pc := pc + 4, locals := ls, stack := .ref T.heap.size :: .ref T.heap.size :: rest, locked := none }) rfl hsize rfl rfl (rest := rest) rfl
    (by rw [hb]; exact d4) (by rw [hb]; exact d7) hout hRframes (by simp only [List.map_cons, List.sum_cons, hcat]; omega) hlocks
  obtain ⟨f1, f2⟩ := vx_frame hsame
  rw [hhp] at f1 f2
  have hWs : s.WarmedH U.vm := State.WarmedH.trans hW0 hW
  have hcl : s.vm.findClass cls = some ce.cls := by
    have h9 := hO.cls
    rw [hvm] at h9
    exact h9
  have hall : s.sameButNew ({ U with vm := s.vm } : State) locs mc ms := by
    subst hA
    obtain ⟨e1, e2⟩ := hsame
    rw [State.setFrames_setFrames] at e1
    have h2 : (T.setVm s.vm).sameButNew ({ U with vm := s.vm } : State) [] (0 + 1) (0 + 6) := ⟨e1, e2⟩
    have h3 := X.same.trans h2
    rw [List.append_nil] at h3
    exact h3.mono hc hs
  refine ⟨U, ?_, .threw T.heap.size, hrun, hend, Or.inr ⟨T.heap.size, rfl, cls, ce, locs, hx U hWs.alike f1 (fun q hq => f2 q hq (fun z hz => nomatch hz)), hce, hO.vm, hcl, hWs, hall, hf⟩⟩
  refine st1 _ ?_
  show Steps p.tables e below (T1.setTop { method := m, pc := pc + 3, locals := ls, stack := .ref T.heap.size :: rest, locked := none }) _
  jvm_step X₁.here [X₁.here.top, hexec, d3', Value.category]
  exact hsteps
/-- 'throw new E("text")': new; dup; ldc; invokespecial; athrow -/
theorem vx_throwS {cc : ByteArray} {pc : Nat} (hexec : p.tables.exec = Jvm.exec) (hb : c.code = cc) (hl : l.stackTraces = false) {own cls text : String} {names : List String} {ik is ic mc ms sa : Nat} {A : Nat → Prop}
    (hown : s.vm.findClass own = some m.cls) (hcls : Bundle.fit cls = true) (hnames : ∀ n ∈ names, Bundle.fit n = true)
    (hk : (Cond.classLink own ik cls).before args s = true) (hini : (Cond.initialized cls).before args s = true) (hstr : vk_R own is text sa s) (hat : ∀ w ∈ vx_atS own ic cls names, w.before args s = true)
    (hgood : ∀ w ∈ Cond.classLink own ik cls :: Cond.initialized cls :: vx_atS own ic cls names, vx_ot w = true)
    (hU : vx_Zq Bundle.tN "UNASSIGNED_STACK" Bundle.steD A s s.heap) (hN : vx_Zq Bundle.tN "SUPPRESSED_SENTINEL" Bundle.listD A s s.heap) (hS : va_S A s.heap H locs) (hsize : ls.size = c.maxLocals)
    (d0 : decode cc pc = .ok (.new ik, 3)) (d3 : decode cc (pc + 3) = .ok (.dup, 1)) (d4 : decode cc (pc + 4) = .ok (.ldc is, 2)) (d6 : decode cc (pc + 6) = .ok (.invokespecial ic, 3)) (d9 : decode cc (pc + 9) = .ok (.athrow, 1))
    (hout : ∀ x ∈ c.exceptionTable.toList, covers x (pc + 9) = false)
    (hRframes : names.length + 3 < R.frames) (hRlocals : (rest.map fun v => v.category).sum + (13 * (names.length + 1) + 43) ≤ R.locals) (hRcells : cells + 1 ≤ R.cells) (hRslots : slots + 6 ≤ R.slots) (hlocks : meth.locks = false)
    (hx : ∀ t : State, s.vm.Alike t.vm → H.size ≤ t.heap.size → (∀ q : Nat, q < H.size → t.heap[q]? = H[q]?) → XC cls s t)
    (hf : ∀ z ∈ locs, free z.base) (hc : cells + 1 ≤ mc) (hs : slots + 6 ≤ ms) :
    W p l e R s m args below meth c H locs cells slots (vx_MQ below Qc XC args s mc ms free) (F0 m pc ls rest) := by
  intro T hT X
  have htr : e.platform.stackTraces = false := (show e.platform.stackTraces = l.stackTraces by rw [X.admits.platform]).trans hl
  have Y := vx_rebase X (R' := { frames := R.frames, locals := R.locals, cells := 1, slots := 6 }) (Nat.le_refl _) (Nat.le_refl _) hRcells hRslots
  obtain ⟨s', hA⟩ : ∃ z, z = (T.setVm s.vm).setFrames (.invoking m args :: below) := ⟨_, rfl⟩
  rw [← hA] at Y
  have hvm : s'.vm = s.vm := by rw [hA]; rfl
  have hhp : s'.heap = H := by rw [hA]; exact hT
  have hW0 : s.WarmedH s'.vm := by rw [hvm]; exact State.WarmedH.refl s
  have hat' : ∀ w ∈ vx_atS own ic cls names, w.before args s' = true := fun w hw => vx_ot_at hW0 hvm.symm (hgood w (List.mem_cons_of_mem _ (List.mem_cons_of_mem _ hw))) (hat w hw)
  have hk' : (Cond.classLink own ik cls).before args s' = true := vx_ot_at hW0 hvm.symm (hgood _ List.mem_cons_self) hk
  have hini' : (Cond.initialized cls).before args s' = true := vx_ot_at hW0 hvm.symm (hgood _ (List.mem_cons_of_mem _ List.mem_cons_self)) hini
  have hU' : vx_Zq Bundle.tN "UNASSIGNED_STACK" Bundle.steD A s' s'.heap := by rw [hhp]; exact vx_Zq.moved hW0.alike (hU.kept hS.2.1)
  have hN' : vx_Zq Bundle.tN "SUPPRESSED_SENTINEL" Bundle.listD A s' s'.heap := by rw [hhp]; exact vx_Zq.moved hW0.alike (hN.kept hS.2.1)
  have h : ∀ w ∈ Bundle.ownAtoms own ic cls names, w.before args s' = true := vx_own hat' (vx_isRefq hU'.1) (vx_isRefq hN'.1) hU'.2.word hN'.2.word
  have hown' : s'.vm.findClass own = some m.cls := by rw [hvm]; exact hown
  have hins : (Cond.instantiable cls 6).before args s' = true := h _ (by simp [Bundle.ownAtoms])
  obtain ⟨vm₁, cX, kX, hfX, hkX, -, -, X₁, st1⟩ := Y.newCold hexec (own := own) (C := cls) (index := ik) (n := 6) hown' hk' hins hini'
    (g := F0 m pc ls rest) rfl (by rw [hb]; exact d0) (Nat.le_refl _) (Nat.le_refl _)
  generalize hT1 : (T.setVm vm₁).pushCell { cls := cX, slots := kX.instanceTypes.map defaultValue, vm := .none } = T1 at X₁ st1
  have hcat : (Value.ref T.heap.size).category = 1 := rfl
  have hcellA : T1.heap[T.heap.size]? = some (freshCell cX kX) := by rw [← hT1]; exact State.heap_pushCell_size _ _
  have d3' : decode c.code (pc + 3) = .ok (.dup, 1) := by rw [hb]; exact d3
  have d4' : decode c.code (pc + 4) = .ok (.ldc is, 2) := by rw [hb]; exact d4
  have hstr' : vk_R own is text sa s' := vk_R.warm hW0 hstr
  obtain ⟨U, hsteps, hrun, hend, hW, hsame, ce, hce, hO⟩ := X₁.ctorThrowS hexec htr (own := own) (cls := cls) (names := names) (ic := ic) hown' hcls hnames h (fun x hx => nomatch hx) hfX hkX hcellA (by rw [hhp, hT]; exact Nat.le_refl _) (msg := .ref sa) rfl
    (g := { method := m, pc := pc + 6, locals := ls, stack := .ref sa :: .ref T.heap.size :: .ref T.heap.size :: rest, locked := none }) rfl hsize rfl rfl (rest := rest) rfl
    (by rw [hb]; exact d6) (by rw [hb]; exact d9) hout hRframes (by simp only [List.map_cons, List.sum_cons, hcat]; omega) hlocks
  obtain ⟨f1, f2⟩ := vx_frame hsame
  rw [hhp] at f1 f2
  have hWs : s.WarmedH U.vm := State.WarmedH.trans hW0 hW
  have hcl : s.vm.findClass cls = some ce.cls := by
    have h9 := hO.cls
    rw [hvm] at h9
    exact h9
  have hall : s.sameButNew ({ U with vm := s.vm } : State) locs mc ms := by
    subst hA
    obtain ⟨e1, e2⟩ := hsame
    rw [State.setFrames_setFrames] at e1
    have h2 : (T.setVm s.vm).sameButNew ({ U with vm := s.vm } : State) [] (0 + 1) (0 + 6) := ⟨e1, e2⟩
    have h3 := X.same.trans h2
    rw [List.append_nil] at h3
    exact h3.mono hc hs
  refine ⟨U, ?_, .threw T.heap.size, hrun, hend, Or.inr ⟨T.heap.size, rfl, cls, ce, locs, hx U hWs.alike f1 (fun q hq => f2 q hq (fun z hz => nomatch hz)), hce, hO.vm, hcl, hWs, hall, hf⟩⟩
  refine st1 _ ?_
  show Steps p.tables e below (T1.setTop { method := m, pc := pc + 3, locals := ls, stack := .ref T.heap.size :: rest, locked := none }) _
  jvm_step X₁.here [X₁.here.top, hexec, d3', Value.category]
  exact X₁.ldcString hexec (own := own) (text := text) (index := is) (a := sa) hown' hstr'.1 hstr'.2
    (g := { method := m, pc := pc + 4, locals := ls, stack := .ref T.heap.size :: .ref T.heap.size :: rest, locked := none }) rfl d4' _ hsteps
/-- 'throw new E("text")', the text by a wide index -/
theorem vx_throwSW {cc : ByteArray} {pc : Nat} (hexec : p.tables.exec = Jvm.exec) (hb : c.code = cc) (hl : l.stackTraces = false) {own cls text : String} {names : List String} {ik is ic mc ms sa : Nat} {A : Nat → Prop}
    (hown : s.vm.findClass own = some m.cls) (hcls : Bundle.fit cls = true) (hnames : ∀ n ∈ names, Bundle.fit n = true)
    (hk : (Cond.classLink own ik cls).before args s = true) (hini : (Cond.initialized cls).before args s = true) (hstr : vk_R own is text sa s) (hat : ∀ w ∈ vx_atS own ic cls names, w.before args s = true)
    (hgood : ∀ w ∈ Cond.classLink own ik cls :: Cond.initialized cls :: vx_atS own ic cls names, vx_ot w = true)
    (hU : vx_Zq Bundle.tN "UNASSIGNED_STACK" Bundle.steD A s s.heap) (hN : vx_Zq Bundle.tN "SUPPRESSED_SENTINEL" Bundle.listD A s s.heap) (hS : va_S A s.heap H locs) (hsize : ls.size = c.maxLocals)
    (d0 : decode cc pc = .ok (.new ik, 3)) (d3 : decode cc (pc + 3) = .ok (.dup, 1)) (d4 : decode cc (pc + 4) = .ok (.ldc_w is, 3)) (d7 : decode cc (pc + 7) = .ok (.invokespecial ic, 3)) (d10 : decode cc (pc + 10) = .ok (.athrow, 1))
    (hout : ∀ x ∈ c.exceptionTable.toList, covers x (pc + 10) = false)
    (hRframes : names.length + 3 < R.frames) (hRlocals : (rest.map fun v => v.category).sum + (13 * (names.length + 1) + 43) ≤ R.locals) (hRcells : cells + 1 ≤ R.cells) (hRslots : slots + 6 ≤ R.slots) (hlocks : meth.locks = false)
    (hx : ∀ t : State, s.vm.Alike t.vm → H.size ≤ t.heap.size → (∀ q : Nat, q < H.size → t.heap[q]? = H[q]?) → XC cls s t)
    (hf : ∀ z ∈ locs, free z.base) (hc : cells + 1 ≤ mc) (hs : slots + 6 ≤ ms) :
    W p l e R s m args below meth c H locs cells slots (vx_MQ below Qc XC args s mc ms free) (F0 m pc ls rest) := by
  intro T hT X
  have htr : e.platform.stackTraces = false := (show e.platform.stackTraces = l.stackTraces by rw [X.admits.platform]).trans hl
  have Y := vx_rebase X (R' := { frames := R.frames, locals := R.locals, cells := 1, slots := 6 }) (Nat.le_refl _) (Nat.le_refl _) hRcells hRslots
  obtain ⟨s', hA⟩ : ∃ z, z = (T.setVm s.vm).setFrames (.invoking m args :: below) := ⟨_, rfl⟩
  rw [← hA] at Y
  have hvm : s'.vm = s.vm := by rw [hA]; rfl
  have hhp : s'.heap = H := by rw [hA]; exact hT
  have hW0 : s.WarmedH s'.vm := by rw [hvm]; exact State.WarmedH.refl s
  have hat' : ∀ w ∈ vx_atS own ic cls names, w.before args s' = true := fun w hw => vx_ot_at hW0 hvm.symm (hgood w (List.mem_cons_of_mem _ (List.mem_cons_of_mem _ hw))) (hat w hw)
  have hk' : (Cond.classLink own ik cls).before args s' = true := vx_ot_at hW0 hvm.symm (hgood _ List.mem_cons_self) hk
  have hini' : (Cond.initialized cls).before args s' = true := vx_ot_at hW0 hvm.symm (hgood _ (List.mem_cons_of_mem _ List.mem_cons_self)) hini
  have hU' : vx_Zq Bundle.tN "UNASSIGNED_STACK" Bundle.steD A s' s'.heap := by rw [hhp]; exact vx_Zq.moved hW0.alike (hU.kept hS.2.1)
  have hN' : vx_Zq Bundle.tN "SUPPRESSED_SENTINEL" Bundle.listD A s' s'.heap := by rw [hhp]; exact vx_Zq.moved hW0.alike (hN.kept hS.2.1)
  have h : ∀ w ∈ Bundle.ownAtoms own ic cls names, w.before args s' = true := vx_own hat' (vx_isRefq hU'.1) (vx_isRefq hN'.1) hU'.2.word hN'.2.word
  have hown' : s'.vm.findClass own = some m.cls := by rw [hvm]; exact hown
  have hins : (Cond.instantiable cls 6).before args s' = true := h _ (by simp [Bundle.ownAtoms])
  obtain ⟨vm₁, cX, kX, hfX, hkX, -, -, X₁, st1⟩ := Y.newCold hexec (own := own) (C := cls) (index := ik) (n := 6) hown' hk' hins hini'
    (g := F0 m pc ls rest) rfl (by rw [hb]; exact d0) (Nat.le_refl _) (Nat.le_refl _)
  generalize hT1 : (T.setVm vm₁).pushCell { cls := cX, slots := kX.instanceTypes.map defaultValue, vm := .none } = T1 at X₁ st1
  have hcat : (Value.ref T.heap.size).category = 1 := rfl
  have hcellA : T1.heap[T.heap.size]? = some (freshCell cX kX) := by rw [← hT1]; exact State.heap_pushCell_size _ _
  have d3' : decode c.code (pc + 3) = .ok (.dup, 1) := by rw [hb]; exact d3
  have d4' : decode c.code (pc + 4) = .ok (.ldc_w is, 3) := by rw [hb]; exact d4
  have hstr' : vk_R own is text sa s' := vk_R.warm hW0 hstr
  obtain ⟨U, hsteps, hrun, hend, hW, hsame, ce, hce, hO⟩ := X₁.ctorThrowS hexec htr (own := own) (cls := cls) (names := names) (ic := ic) hown' hcls hnames h (fun x hx => nomatch hx) hfX hkX hcellA (by rw [hhp, hT]; exact Nat.le_refl _) (msg := .ref sa) rfl
    (g := { method := m, pc := pc + 7, locals := ls, stack := .ref sa :: .ref T.heap.size :: .ref T.heap.size :: rest, locked := none }) rfl hsize rfl rfl (rest := rest) rfl
    (by rw [hb]; exact d7) (by rw [hb]; exact d10) hout hRframes (by simp only [List.map_cons, List.sum_cons, hcat]; omega) hlocks
  obtain ⟨f1, f2⟩ := vx_frame hsame
  rw [hhp] at f1 f2
  have hWs : s.WarmedH U.vm := State.WarmedH.trans hW0 hW
  have hcl : s.vm.findClass cls = some ce.cls := by
    have h9 := hO.cls
    rw [hvm] at h9
    exact h9
  have hall : s.sameButNew ({ U with vm := s.vm } : State) locs mc ms := by
    subst hA
    obtain ⟨e1, e2⟩ := hsame
    rw [State.setFrames_setFrames] at e1
    have h2 : (T.setVm s.vm).sameButNew ({ U with vm := s.vm } : State) [] (0 + 1) (0 + 6) := ⟨e1, e2⟩
    have h3 := X.same.trans h2
    rw [List.append_nil] at h3
    exact h3.mono hc hs
  refine ⟨U, ?_, .threw T.heap.size, hrun, hend, Or.inr ⟨T.heap.size, rfl, cls, ce, locs, hx U hWs.alike f1 (fun q hq => f2 q hq (fun z hz => nomatch hz)), hce, hO.vm, hcl, hWs, hall, hf⟩⟩
  refine st1 _ ?_
  show Steps p.tables e below (T1.setTop { method := m, pc := pc + 3, locals := ls, stack := .ref T.heap.size :: rest, locked := none }) _
  jvm_step X₁.here [X₁.here.top, hexec, d3', Value.category]
  exact X₁.ldcStringW hexec (own := own) (text := text) (index := is) (a := sa) hown' hstr'.1 hstr'.2
    (g := { method := m, pc := pc + 4, locals := ls, stack := .ref T.heap.size :: .ref T.heap.size :: rest, locked := none }) rfl d4' _ hsteps
end Ends
section Bodies
variable {l : Launch}
theorem vx_ofW {y : MethodName} {ws ws' : List Cond} {rm : Room} {Pc : Array Value → State → Prop} {Qc : Array Value → State → Outcome → State → Prop} {XC : String → State → State → Prop} {mc ms : Nat} {free : Addr → Prop} {cc : ByteArray} {maxL : Nat} {ret : Option FieldType}
    (hy : plainName y.cls = true) (hw : ws = Cond.code y cc maxL ret :: ws')
    (body : ∀ p e s m args below meth c s₁, BodyLoose p l y (headSpec ws rm) cc maxL ret e s m args below meth c s₁ → c.maxLocals = maxL → (∀ x ∈ c.exceptionTable.toList, False) → Pc args s →
      W p l e (headSpec ws rm).room s m args below meth c s.heap [] 0 0 (vx_MQ below Qc XC args s mc ms free) (entryFrame m args maxL)) : vx_Met l y ws rm Pc Qc XC mc ms free := by
  refine MetFree.of_bodyS (code := cc) (maxLocals := maxL) (ret := ret) hy ?_ ?_
  · intro args s m h hn
    obtain ⟨meth, c, h1, h2, h3, h4, h5, h6, -, -⟩ := Cond.code_spec hn (atoms_spec (ws := ws) h _ (by rw [hw]; exact List.mem_cons_self))
    exact ⟨meth, c, h1, h2, h3, h4, h5, h6⟩
  · intro p e s m args below meth c s₁ B hml hP _
    have hh0 : s₁.heap = s.heap := by rw [B.state]; rfl
    have ht : ∀ x ∈ c.exceptionTable.toList, False := by
      obtain ⟨meth9, c9, h1, h2, -, -, -, -, h7, -⟩ := Cond.code_spec B.named (atoms_spec (ws := ws) B.pre _ (by rw [hw]; exact List.mem_cons_self))
      cases Option.some.inj (h1.symm.trans B.method)
      cases Option.some.inj (h2.symm.trans (Stand.of_body B).code)
      intro x hx
      rw [Array.isEmpty_iff.mp h7] at hx
      cases hx
    obtain ⟨t, a1, o, b1, b2, b3⟩ := body p e s m args below meth c s₁ B hml ht hP s₁ hh0 (Stand.of_body B)
    exact ⟨t, o, a1, b1, b2, b3⟩
/-- the table of a body with handlers -/
theorem vx_table {p : Program} {x y : MethodName} {S : Spec} {cc bytes : ByteArray} {maxL maxL' : Nat} {ret ret' : Option FieldType} {e : Env} {s s₁ : State} {m : MethodId} {args : Array Value} {below : List Frame} {meth : Method} {c : Code} {hh : List (Nat × Nat × Nat × Nat)}
    (B : BodyLoose p l y S cc maxL ret e s m args below meth c s₁) (h : (Cond.codeWith y bytes maxL' ret' hh).before args s = true) : c.exceptionTable.toList = tableOf hh := by
  obtain ⟨m9, meth9, c9, hn9, h1, h2, -, -, h6, -⟩ := Cond.codeWith_spec h
  cases Option.some.inj (hn9.symm.trans B.named)
  cases Option.some.inj (h1.symm.trans B.method)
  cases Option.some.inj (h2.symm.trans (Stand.of_body B).code)
  rw [← h6, table_eq]
end Bodies
end VXA
/-! ===== END ===== -/
/-! ===== BEGIN a static call of a method with an exception table ===== -/
section VXS
variable {p : Program} {l : Launch} {e : Env} {R : Room} {s : State} {m : MethodId} {args : Array Value} {below : List Frame} {meth : Method} {c : Code} {T : State} {H : Heap} {locs : List Loc} {cells slots : Nat}
abbrev vx_CSW (R : Room) (s : State) (args : Array Value) (own : String) (index : Nat) (y : MethodName) (bytes : ByteArray) (maxL : Nat) (ret : Option FieldType) (hh : List (Nat × Nat × Nat × Nat)) (ws : List Cond) (rm : Room) (mc ms n : Nat) : Prop :=
  (rm.cells = mc ∧ rm.slots = ms ∧ rm.frames + 1 ≤ R.frames ∧ 8 + (maxL + 11) + rm.locals ≤ R.locals ∧ (∀ w ∈ ws, ∀ (a' : Array Value) (U : State), s.WarmedH U.vm → w.before a' U = true) ∧ Cond.codeWith y bytes maxL ret hh ∈ ws) ∧
  (Cond.codeWith y bytes maxL ret hh).before args s = true ∧ (Cond.initialized y.cls).before args s = true ∧ (y.cls ≠ "java/lang/invoke/MethodHandle" ∧ y.cls ≠ "java/lang/invoke/VarHandle") ∧
  (∀ sig, parseMethodDescriptor y.desc = some sig → n = sig.parameters.length) ∧ (Cond.methodLink own index y).before args s = true ∧ (Cond.static y).before args s = true
theorem vx_cwSW {own : String} {index maxL mc ms : Nat} {y : MethodName} {bytes : ByteArray} {ret : Option FieldType} {hh : List (Nat × Nat × Nat × Nat)} {Ts ws ws' : List Cond} {rm : Room} (n : Nat) (ht : ∀ w ∈ Ts, w.before args s = true) (hT : GoodIn Ts (va_wsS own index y ws)) (hw : ws = Cond.codeWith y bytes maxL ret hh :: ws') (hrc : rm.cells = mc) (hrs : rm.slots = ms)
    (hd : y.cls ≠ "java/lang/invoke/MethodHandle" ∧ y.cls ≠ "java/lang/invoke/VarHandle" ∧ (parseMethodDescriptor y.desc).map (fun d => d.parameters.length) = some n) (hR : rm.frames + 1 ≤ R.frames ∧ 8 + (maxL + 11) + rm.locals ≤ R.locals) :
    vx_CSW R s args own index y bytes maxL ret hh ws rm mc ms n := by
  have ok : ∀ w ∈ va_wsS own index y ws, w.before args s = true := fun w h => ht w (hT w h).1
  have hG : GoodIn Ts ws := fun w h => hT w (by unfold va_wsS; exact List.mem_append_right _ h)
  have hc : Cond.codeWith y bytes maxL ret hh ∈ ws := by rw [hw]; exact List.mem_cons_self
  refine ⟨⟨hrc, hrs, hR.1, hR.2, pay_in ht hG, hc⟩, ht _ (hG _ hc).1, ok _ (by simp [va_wsS]), ⟨hd.1, hd.2.1⟩, fun sig h => ?_, ok _ (by simp [va_wsS]), ok _ (by simp [va_wsS])⟩
  have h2 := hd.2.2
  rw [h] at h2
  exact (Option.some.inj h2).symm
theorem vx_callSW (X : Stand p l e R s m args below meth c T locs cells slots) (hexec : p.tables.exec = Jvm.exec) {own : String} {index : Nat} {y : MethodName} {bytes : ByteArray} {maxL : Nat} {ret : Option FieldType} {hh : List (Nat × Nat × Nat × Nat)}
    (hown : s.vm.findClass own = some m.cls) (hlink : (Cond.methodLink own index y).before args s = true) (hstat : (Cond.static y).before args s = true) (hinit : (Cond.initialized y.cls).before args s = true)
    (hcode : (Cond.codeWith y bytes maxL ret hh).before args s = true) (hy : y.cls ≠ "java/lang/invoke/MethodHandle" ∧ y.cls ≠ "java/lang/invoke/VarHandle")
    {W9 : Nat} {Pre : Pt → Array Value → Prop} {Post : Pt → Array Value → Option Value → Pt → Prop} (hK : Back l R p e below s args y 3 W9 Pre Post)
    {g : JFrame} (hg : g.method = m) (hsize : g.locals.size = c.maxLocals) {argsL rest : List Value} (hlen : ∀ sig, parseMethodDescriptor y.desc = some sig → argsL.length = sig.parameters.length)
    (hstack : g.stack = argsL.reverse ++ rest) (hW : 2 * g.monitorRoom + (rest.map fun v => v.category).sum ≤ W9) (hdg : decode c.code g.pc = .ok (.invokestatic index, 3))
    (hpre : ∀ vm₁, s.WarmedH vm₁ → Pre ⟨T.setVm vm₁, locs, cells, slots⟩ argsL.toArray) :
    ∃ (v : Option Value) (vm₁ : Vm) (B : Pt), s.WarmedH vm₁ ∧ Stand p l e R s m args below meth c B.U B.locs B.cells B.slots ∧ Post ⟨T.setVm vm₁, locs, cells, slots⟩ argsL.toArray v B ∧
      ∀ target, Steps p.tables e below (B.U.setTop { g with pc := g.pc + 3, stack := v.toList ++ rest }) target → Steps p.tables e below (T.setTop g) target := by
  obtain ⟨mk, methM, cM, hnamed, hmethM, -, -, -, -, -, -, hsigM⟩ := Cond.codeWith_spec hcode
  have hstatic : methM.isStatic = true := Cond.static_spec hnamed hmethM hstat
  obtain ⟨kP, hkP, -⟩ := className_of_methodNamed hnamed
  have hinitP : kP.init = .initialized := Cond.initialized_spec (findClass_of_methodNamed hnamed) hkP hinit
  obtain ⟨vm₁, X₁, hstep₁⟩ := X.invokestatic hexec hown hlink hnamed hmethM hstatic hkP hinitP hy (g := g) hg (argsL := argsL) (rest := rest) (hlen _ hsigM) hstack hdg
  obtain ⟨v, B, X', hpost, hsteps⟩ := hK m meth c ⟨T.setVm vm₁, locs, cells, slots⟩ { g with stack := rest } (.invokestatic index) mk argsL.toArray X₁ hg hsize hdg hW (X₁.named hnamed) (hpre vm₁ X₁.warmed)
  exact ⟨v, vm₁, B, X₁.warmed, X', hpost, fun target h => hstep₁ _ fun acts => by rw [doInvoke_state]; exact hsteps.trans h⟩
theorem vx_runSW {y : MethodName} {bytes cc : ByteArray} {maxL nL mc ms n index : Nat} {ret : Option FieldType} {hh : List (Nat × Nat × Nat × Nat)} {ws : List Cond} {rm : Room} {Pc : Array Value → State → Prop} {Qc : Array Value → State → Outcome → State → Prop} {free : Addr → Prop} {Ts : List Cond} {own : String} {As rest : List Value} {g : JFrame}
    (S : CallFix p m c cc nL s args Ts own) (hM : Met l y ws rm Pc Qc mc ms free) (cw : vx_CSW R s args own index y bytes maxL ret hh ws rm mc ms n) (hp : PreS s H Pc As)
    (hg : g.method = m) (hn : As.length = n) (hsize : g.locals.size = nL) (hstack : g.stack = As.reverse ++ rest) (hW : 2 * g.monitorRoom + (rest.map fun v => v.category).sum ≤ 8) (hdg : decode cc g.pc = .ok (.invokestatic index, 3)) (hf : cells + mc ≤ R.cells ∧ slots + ms ≤ R.slots) :
    va_Run p l e R s m args below meth c H locs cells slots mc ms g rest (Qc As.toArray) (free) := by
  obtain ⟨⟨hrc, hrs, hfr, hlo, hws, hcw⟩, hcode, hini, hy, hlen, hl, hstt⟩ := cw
  have hK : Back l R p e below s args y 3 8 (PreOf R mc ms Pc) (PostOf Qc mc ms free) := va_backW (hh := hh) (bytes := bytes) (maxL := maxL) (ret := ret) hM hp.1 hrc hrs hfr hlo hws hcw (fun a' U hW => word_at hW (Or.inl (by first | rfl | simp [Cond.onTables, Cond.keeps, Cond.steady])) hini)
  obtain ⟨hx, hb, hml, ho, -⟩ := S
  intro T hT X
  obtain ⟨v, vm₁, ⟨U', l2, c2, s2⟩, hW₁, X', ⟨g', mk, t, L, e1, e2, hq, h1, hL, h2, h3⟩, st⟩ := vx_callSW X hx (hh := hh) (bytes := bytes) (maxL := maxL) (ret := ret) ho hl hstt hini hcode hy hK hg (hsize.trans hml.symm) (argsL := As) (rest := rest) (fun sig h => hn.trans (hlen sig h)) hstack hW (by rw [hb]; exact hdg)
    (fun vm₁ hW₁ => ⟨hf.1, hf.2, hp.2 (T.setVm vm₁) hT hW₁⟩)
  dsimp only [Pt.U, Pt.locs, Pt.cells, Pt.slots] at X' e1 e2 h1 h2 h3 st
  subst h1; subst h2; subst h3
  exact ⟨v, (T.setVm vm₁).calling g' mk As.toArray, t, U', L, hT, X', hL, e1, e2, hq, st⟩
/-- not caught here, past rows that name other classes: it goes on to the caller -/
theorem vx_outP {p : Program} {l : Launch} {e : Env} {R : Room} {s : State} {m : MethodId} {args : Array Value} {below : List Frame} {meth : Method} {c : Code} {H : Heap} {locs : List Loc} {cells slots : Nat} {free : Addr → Prop} {ls : Array Slot} {rest : List Value} {Qc : Array Value → State → Outcome → State → Prop} {XC : String → State → State → Prop}
    {pc : Nat} {own E : String} {ce : Cell} {q : Addr} {mc ms : Nat} (hown : s.vm.findClass own = some m.cls) (hlocks : meth.locks = false)
    (hpass : ∀ z ∈ c.exceptionTable.toList, covers z pc = false ∨ (z.catchType ≠ 0 ∧ ∃ nm : String, (Cond.classLink own z.catchType nm).before args s = true ∧ va_Nc E nm s)) (hcell : H[q]? = some ce) (hv : ce.vm = .none) (hcl : s.vm.findClass E = some ce.cls)
    (hx : ∀ t : State, t.heap = H → s.vm.Alike t.vm → XC E s t) (hf : ∀ z ∈ locs, free z.base) (hc : cells ≤ mc) (hs : slots ≤ ms) :
    vx_W p l e R s m args below meth c H locs cells slots (vx_MQ below Qc XC args s mc ms free) (F0 m pc ls rest) q := by
  intro T hT X
  have hpl : e.platform.magicAccessors = ({} : Platform).magicAccessors := by rw [X.admits.platform]
  obtain ⟨vm', hW', X', st⟩ := X.outThrough hlocks q (g := F0 m pc ls rest) rfl rfl rfl (cell := ce) (by rw [hT]; exact hcell) (by rw [hv]; rfl)
    (by obtain ⟨k9, h9, -⟩ := Vm.findClass_spec hcl; exact ⟨k9, h9⟩) (fun z hz => by
      rcases hpass z hz with h | ⟨hz0, nm, hl1, hn1⟩
      · exact Or.inl h
      · obtain ⟨c6, hc6, hcl6⟩ := Cond.classLink_spec hown hl1 e.platform hpl
        obtain ⟨a8, b8, h1, h2, h3⟩ := hn1
        cases Option.some.inj (h1.symm.trans hcl)
        cases Option.some.inj (h2.symm.trans hc6)
        exact Or.inr ⟨hz0, _, hcl6, h3⟩)
  obtain ⟨g₀, hfr⟩ := X'.frames_eq
  have hcell9 : ((T.setVm vm').setFrames (.throwing q :: below)).heap[q]? = some ce := by
    show T.heap[q]? = some ce
    rw [hT]; exact hcell
  have hend : Ended ((T.setVm vm').setFrames (.throwing q :: below)) below (.threw q) := State.frames_setFrames _ (State.cur_lt_of_frames hfr)
  refine ⟨(T.setVm vm').setFrames (.throwing q :: below), ?_, .threw q, X'.here.running, hend, Or.inr ⟨q, rfl, E, ce, locs, hx _ hT (X'.ends _).1.alike, hcell9, hv, hcl, (X'.ends _).1, (X'.ends _).2.mono hc hs, hf⟩⟩
  rw [X.pushThrowing_eq]
  exact st
/-- a thing of a world lies in the heap -/
theorem vx_lt {D : va_G} {cl : List vw_C} {ws : va_W} {H1 : Heap} (h : va_P D cl ws H1) {k : Nat} {q : Nat × va_E} (hk : ws[k]? = some q) : q.1 < H1.size := (h k q hk).lt
end VXS
/-! ===== END ===== -/
/-! ===== BEGIN methods with a table of their own: called by a name, returning or throwing ===== -/
section VXH
/-! vx_backW, vx_callVX, vx_callSX, vx_callVW, vx_runVW, vx_runVX, vx_runSX, vx_ofWH follow the same proofs as their sisters above (Free/Laws.lean, Shelf42/LK1.lean); vx_outP calls Shelf42/NT130.lean (outThrough). -/
section
variable {l : Launch} {R : Room} {p : Program} {e : Env} {below : List Frame} {s : State} {sargs : Array Value} {y : MethodName} {len W9 : Nat}
theorem vx_backW {ws : List Cond} {rm : Room} {Pc : Array Value → State → Prop} {Qc : Array Value → State → Outcome → State → Prop} {XC : String → State → State → Prop} {mc ms : Nat} {free : Addr → Prop} {bytes : ByteArray} {maxL : Nat} {ret : Option FieldType} {hh : List (Nat × Nat × Nat × Nat)}
    (hM : vx_Met l y ws rm Pc Qc XC mc ms free) (hblind : FrameBlind Pc) (hrc : rm.cells = mc) (hrs : rm.slots = ms)
    (hframes : rm.frames + 1 ≤ R.frames) (hlocals : W9 + (maxL + 11) + rm.locals ≤ R.locals)
    (hws : ∀ w ∈ ws, ∀ a' U, s.WarmedH U.vm → w.before a' U = true) (hcode : Cond.codeWith y bytes maxL ret hh ∈ ws) (hinit : ∀ a' U, s.WarmedH U.vm → (Cond.initialized y.cls).before a' U = true) :
    vx_Back l R p e below s sargs y len W9 (PreOf R mc ms Pc) (PostOf Qc mc ms free) (vx_Post XC mc ms free) := by
  intro m meth c A g ig mk a X hg hsize hdg hW hn hp
  have h1 : (headSpec ws rm).pre.before a A.U = true := atoms_intro fun w hw => hws w hw _ _ X.warmed
  have h2 : (Cond.codeWith y bytes maxL ret hh).before a A.U = true := hws _ hcode _ _ X.warmed
  have h3 : (Cond.initialized y.cls).before a A.U = true := hinit _ _ X.warmed
  have h4 : A.cells + (headSpec ws rm).room.cells ≤ R.cells := by rw [show (headSpec ws rm).room.cells = mc from hrc]; exact hp.1
  have h5 : A.slots + (headSpec ws rm).room.slots ≤ R.slots := by rw [show (headSpec ws rm).room.slots = ms from hrs]; exact hp.2.1
  have hPc : Pc a (A.U.calling g mk a) := hblind _ _ _ _ hp.2.2
  obtain ⟨U, Ls, c0, s0⟩ := A
  dsimp only [Pt.U, Pt.locs, Pt.cells, Pt.slots] at h1 h2 h3 h4 h5 X hn hPc ⊢
  obtain ⟨m9, methY, cY, hn9, hmY, hcY, -, hlY, -⟩ := Cond.codeWith_spec h2
  cases Option.some.inj (hn9.symm.trans hn)
  obtain ⟨kY, hkY, -⟩ := className_of_methodNamed hn
  have hinitY : kY.init = .initialized := Cond.initialized_spec (findClass_of_methodNamed hn) hkY h3
  have h : At U g.method c below := by rw [hg]; exact X.here
  have hlocals9 : W9 + (maxL + 11) + (headSpec ws rm).room.locals ≤ R.locals := hlocals
  have happ : (headSpec ws rm).appliesLoose y e.platform (U.calling g mk a) = true :=
    Spec.appliesLoose_calling (g := g) h hdg hn hkY hinitY
      (X.room_calling (g := g) (R' := (headSpec ws rm).room) hsize hmY hcY hframes (by rw [hlY]; omega) h4 h5) h1
  obtain ⟨mid, hmid⟩ := h.above
  have hfr : (U.setTop g).frames = (.java g :: mid) ++ below := by rw [State.frames_setTop' g h.top, hmid]; rfl
  obtain ⟨o, s₂, hsteps, -, hend, hq⟩ := Steps.callFree hM p X.admits X.cas X.clock (acts := []) hfr happ hPc trivial
  have hq' : vx_Q Qc XC mc ms free a (U.calling g mk a) o s₂ := hq
  rw [State.frames_setTop' g h.top] at hend
  obtain ⟨g₀, hg0⟩ := Option.isSome_iff_exists.mp h.top
  obtain ⟨r, hr⟩ := State.topJava?_eq_some.mp hg0
  have hr' : (({ U with heap := s₂.heap, slotsUsed := s₂.slotsUsed } : State).setVm s₂.vm).frames = .java g₀ :: r := hr
  rcases hq' with ⟨hqc, L, hfe, hL⟩ | ⟨q, rfl, E, ce, L, hx, hce, hcv, hcl, hW₂, hsm, hL⟩
  · obtain ⟨⟨v, rfl⟩, hW₂, e2, q2, q3, q4, q5, q6⟩ := id hfe
    have e3 : s₂ = ({ (U.calling g mk a).setFrames s₂.frames with heap := s₂.heap, slotsUsed := s₂.slotsUsed } : State).setVm s₂.vm := by
      have : s₂ = ({ s₂ with vm := (U.calling g mk a).vm } : State).setVm s₂.vm := rfl
      rw [e2] at this
      exact this
    obtain ⟨c₂, i₂, len₂, hc₂, hd₂, hf₂⟩ := hend
    have hW' : U.WarmedH s₂.vm := hW₂
    have hcc : c₂ = c := by
      have h1 : s₂.code? g.method = U.code? g.method := by
        rw [State.code?_eq, State.code?_eq, hW'.alike.method?]
      exact Option.some.inj (hc₂.symm.trans (h1.trans h.code))
    subst hcc
    have hlen : len₂ = len := by rw [hdg] at hd₂; cases hd₂; rfl
    subst hlen
    have hs₂ : s₂ = (({ U with heap := s₂.heap, slotsUsed := s₂.slotsUsed } : State).setVm s₂.vm).setTop { g with pc := g.pc + len₂, stack := v.toList ++ g.stack } := by
      refine e3.trans ?_
      rw [hf₂, State.calling_eq h.top, State.setFrames_setFrames, State.setTop_of_frames _ hr', hr]
      rfl
    have hsame : U.sameButNew ({ U with heap := s₂.heap, slotsUsed := s₂.slotsUsed } : State) L mc ms := by
      refine ⟨?_, q2, q3, q4, q5, q6⟩
      obtain ⟨t, ht, -⟩ := State.frames_cons hr
      show ({ U with heap := s₂.heap, slotsUsed := s₂.slotsUsed } : State) = { U.setFrames U.frames with heap := s₂.heap, slotsUsed := s₂.slotsUsed }
      rw [State.setFrames_self ht]
    subst hg
    refine Or.inl ⟨v, ⟨(({ U with heap := s₂.heap, slotsUsed := s₂.slotsUsed } : State).setVm s₂.vm), Ls ++ L, c0 + mc, s0 + ms⟩,
      ⟨X.admits, X.cas, X.clock, X.frames, X.room, X.hears, X.method, X.code, (X.here.setHeapUsed s₂.heap s₂.slotsUsed).setVm hW'.alike, X.tail, State.WarmedH.trans X.warmed hW', X.limits, X.bytes, X.same.trans (hsame.setVm s.vm)⟩,
      ⟨g, mk, s₂, L, rfl, rfl, hqc, rfl, hL, rfl, rfl⟩, ?_⟩
    show Steps p.tables e below _ ((({ U with heap := s₂.heap, slotsUsed := s₂.slotsUsed } : State).setVm s₂.vm).setTop { g with pc := g.pc + len₂, stack := v.toList ++ g.stack })
    rw [← hs₂]
    exact hsteps
  · obtain ⟨e2, q2, q3, q4, q5, q6⟩ := id hsm
    have e3 : s₂ = ({ (U.calling g mk a).setFrames s₂.frames with heap := s₂.heap, slotsUsed := s₂.slotsUsed } : State).setVm s₂.vm := by
      have : s₂ = ({ s₂ with vm := (U.calling g mk a).vm } : State).setVm s₂.vm := rfl
      rw [e2] at this
      exact this
    have hf₂ : s₂.frames = .throwing q :: .java g :: U.frames.tail := hend
    have hW' : U.WarmedH s₂.vm := hW₂
    have hs₂ : s₂ = ((({ U with heap := s₂.heap, slotsUsed := s₂.slotsUsed } : State).setVm s₂.vm).setTop g).pushFrame (.throwing q) := by
      refine e3.trans ?_
      rw [hf₂, State.calling_eq h.top, State.setFrames_setFrames, State.pushFrame, State.frames_setTop _ hr', State.setTop_of_frames _ hr', State.setFrames_setFrames, hr]
      rfl
    have hsame : U.sameButNew ({ U with heap := s₂.heap, slotsUsed := s₂.slotsUsed } : State) L mc ms := by
      refine ⟨?_, q2, q3, q4, q5, q6⟩
      obtain ⟨t, ht, -⟩ := State.frames_cons hr
      show ({ U with heap := s₂.heap, slotsUsed := s₂.slotsUsed } : State) = { U.setFrames U.frames with heap := s₂.heap, slotsUsed := s₂.slotsUsed }
      rw [State.setFrames_self ht]
    subst hg
    refine Or.inr ⟨q, ⟨(({ U with heap := s₂.heap, slotsUsed := s₂.slotsUsed } : State).setVm s₂.vm), Ls ++ L, c0 + mc, s0 + ms⟩,
      ⟨X.admits, X.cas, X.clock, X.frames, X.room, X.hears, X.method, X.code, (X.here.setHeapUsed s₂.heap s₂.slotsUsed).setVm hW'.alike, X.tail, State.WarmedH.trans X.warmed hW', X.limits, X.bytes, X.same.trans (hsame.setVm s.vm)⟩,
      ⟨g, mk, s₂, L, E, ce, rfl, rfl, hx, hce, hcv, hcl, rfl, hL, rfl, rfl⟩, ?_⟩
    show Steps p.tables e below _ (((({ U with heap := s₂.heap, slotsUsed := s₂.slotsUsed } : State).setVm s₂.vm).setTop g).pushFrame (.throwing q))
    rw [← hs₂]
    exact hsteps
end
variable {p : Program} {l : Launch} {e : Env} {R : Room} {s : State} {m : MethodId} {args : Array Value} {below : List Frame} {meth : Method} {c : Code} {T : State} {H : Heap} {locs : List Loc} {cells slots : Nat}
theorem vx_callVX (X : Stand p l e R s m args below meth c T locs cells slots) (hexec : p.tables.exec = Jvm.exec) {own C : String} {index : Nat} {y : MethodName} {bytes : ByteArray} {maxL : Nat} {ret : Option FieldType} {hh : List (Nat × Nat × Nat × Nat)}
    (hown : s.vm.findClass own = some m.cls) (hlink : (Cond.methodLink own index y).before args s = true) (hinst : (Cond.instanceMethod y).before args s = true) (hsel : (Cond.selects C y y).before args s = true)
    (hcode : (Cond.codeWith y bytes maxL ret hh).before args s = true) (hy : y.cls ≠ "java/lang/invoke/MethodHandle" ∧ y.cls ≠ "java/lang/invoke/VarHandle")
    {W9 : Nat} {Pre : Pt → Array Value → Prop} {Post : Pt → Array Value → Option Value → Pt → Prop} {PostX : Pt → Array Value → Addr → Pt → Prop} (hK : vx_Back l R p e below s args y 3 W9 Pre Post PostX)
    {b : Addr} {cellB : Cell} (hcell : T.heap[b]? = some cellB) (hobj : cellB.vm.isStatics = false) (hcls : s.vm.findClass C = some cellB.cls)
    {g : JFrame} (hg : g.method = m) (hsize : g.locals.size = c.maxLocals) {argsL rest : List Value} (hlen : ∀ sig, parseMethodDescriptor y.desc = some sig → argsL.length = sig.parameters.length)
    (hstack : g.stack = argsL.reverse ++ .ref b :: rest) (hW : 2 * g.monitorRoom + (rest.map fun v => v.category).sum ≤ W9) (hdg : decode c.code g.pc = .ok (.invokevirtual index, 3))
    (hpre : ∀ vm₁, s.WarmedH vm₁ → Pre ⟨T.setVm vm₁, locs, cells, slots⟩ (Value.ref b :: argsL).toArray) :
    (∃ (v : Option Value) (vm₁ : Vm) (B : Pt), s.WarmedH vm₁ ∧ Stand p l e R s m args below meth c B.U B.locs B.cells B.slots ∧ Post ⟨T.setVm vm₁, locs, cells, slots⟩ (Value.ref b :: argsL).toArray v B ∧
      ∀ target, Steps p.tables e below (B.U.setTop { g with pc := g.pc + 3, stack := v.toList ++ rest }) target → Steps p.tables e below (T.setTop g) target) ∨
    (∃ (q : Addr) (vm₁ : Vm) (B : Pt), s.WarmedH vm₁ ∧ Stand p l e R s m args below meth c B.U B.locs B.cells B.slots ∧ PostX ⟨T.setVm vm₁, locs, cells, slots⟩ (Value.ref b :: argsL).toArray q B ∧
      Steps p.tables e below (T.setTop g) ((B.U.setTop { g with stack := rest }).pushFrame (.throwing q))) := by
  obtain ⟨mk, methM, hnamed, hmethM, hstM, habM⟩ := Cond.instanceMethod_spec hinst
  obtain ⟨m8, methM', cM, hn8, hmethM', -, -, -, -, -, -, hsigM⟩ := Cond.codeWith_spec hcode
  cases Option.some.inj (hn8.symm.trans hnamed)
  cases hmethM.symm.trans hmethM'
  obtain ⟨c2, r2, m2, q1, q2, q3, q4, kP, hkP, hkPi⟩ := Cond.selects_spec hsel
  cases hcls.symm.trans q1
  cases (State.methodFound?_of_named hnamed hy).symm.trans q2
  cases hnamed.symm.trans q3
  have hselP : selectMethod e.platform s.vm cellB.cls mk = .method mk := by rw [Launch.admits_selectMethod X.admits]; exact q4
  obtain ⟨vm₁, X₁, hstep₁⟩ := X.invokevirtual hexec hown hlink hnamed hmethM hstM hkP hkPi hy (a := b) (cell := cellB) hcell
    (fun z h => by rw [h] at hobj; cases hobj) hselP hmethM habM hkP hkPi (g := g) hg (argsL := argsL) (rest := rest) (hlen _ hsigM) hstack hdg
  rcases hK m meth c ⟨T.setVm vm₁, locs, cells, slots⟩ { g with stack := rest } (.invokevirtual index) mk (Value.ref b :: argsL).toArray X₁ hg hsize hdg hW (X₁.named hnamed) (hpre vm₁ X₁.warmed) with ⟨v, B, X', hpost, hsteps⟩ | ⟨q, B, X', hpost, hsteps⟩
  · exact Or.inl ⟨v, vm₁, B, X₁.warmed, X', hpost, fun target h => hstep₁ _ fun acts => by rw [doInvoke_state]; exact hsteps.trans h⟩
  · exact Or.inr ⟨q, vm₁, B, X₁.warmed, X', hpost, hstep₁ _ fun acts => by rw [doInvoke_state]; exact hsteps⟩
theorem vx_callSX (X : Stand p l e R s m args below meth c T locs cells slots) (hexec : p.tables.exec = Jvm.exec) {own : String} {index : Nat} {y : MethodName} {bytes : ByteArray} {maxL : Nat} {ret : Option FieldType} {hh : List (Nat × Nat × Nat × Nat)}
    (hown : s.vm.findClass own = some m.cls) (hlink : (Cond.methodLink own index y).before args s = true) (hstat : (Cond.static y).before args s = true) (hinit : (Cond.initialized y.cls).before args s = true)
    (hcode : (Cond.codeWith y bytes maxL ret hh).before args s = true) (hy : y.cls ≠ "java/lang/invoke/MethodHandle" ∧ y.cls ≠ "java/lang/invoke/VarHandle")
    {W9 : Nat} {Pre : Pt → Array Value → Prop} {Post : Pt → Array Value → Option Value → Pt → Prop} {PostX : Pt → Array Value → Addr → Pt → Prop} (hK : vx_Back l R p e below s args y 3 W9 Pre Post PostX)
    {g : JFrame} (hg : g.method = m) (hsize : g.locals.size = c.maxLocals) {argsL rest : List Value} (hlen : ∀ sig, parseMethodDescriptor y.desc = some sig → argsL.length = sig.parameters.length)
    (hstack : g.stack = argsL.reverse ++ rest) (hW : 2 * g.monitorRoom + (rest.map fun v => v.category).sum ≤ W9) (hdg : decode c.code g.pc = .ok (.invokestatic index, 3))
    (hpre : ∀ vm₁, s.WarmedH vm₁ → Pre ⟨T.setVm vm₁, locs, cells, slots⟩ argsL.toArray) :
    (∃ (v : Option Value) (vm₁ : Vm) (B : Pt), s.WarmedH vm₁ ∧ Stand p l e R s m args below meth c B.U B.locs B.cells B.slots ∧ Post ⟨T.setVm vm₁, locs, cells, slots⟩ argsL.toArray v B ∧
      ∀ target, Steps p.tables e below (B.U.setTop { g with pc := g.pc + 3, stack := v.toList ++ rest }) target → Steps p.tables e below (T.setTop g) target) ∨
    (∃ (q : Addr) (vm₁ : Vm) (B : Pt), s.WarmedH vm₁ ∧ Stand p l e R s m args below meth c B.U B.locs B.cells B.slots ∧ PostX ⟨T.setVm vm₁, locs, cells, slots⟩ argsL.toArray q B ∧
      Steps p.tables e below (T.setTop g) ((B.U.setTop { g with stack := rest }).pushFrame (.throwing q))) := by
  obtain ⟨mk, methM, cM, hnamed, hmethM, -, -, -, -, -, -, hsigM⟩ := Cond.codeWith_spec hcode
  have hstatic : methM.isStatic = true := Cond.static_spec hnamed hmethM hstat
  obtain ⟨kP, hkP, -⟩ := className_of_methodNamed hnamed
  have hinitP : kP.init = .initialized := Cond.initialized_spec (findClass_of_methodNamed hnamed) hkP hinit
  obtain ⟨vm₁, X₁, hstep₁⟩ := X.invokestatic hexec hown hlink hnamed hmethM hstatic hkP hinitP hy (g := g) hg (argsL := argsL) (rest := rest) (hlen _ hsigM) hstack hdg
  rcases hK m meth c ⟨T.setVm vm₁, locs, cells, slots⟩ { g with stack := rest } (.invokestatic index) mk argsL.toArray X₁ hg hsize hdg hW (X₁.named hnamed) (hpre vm₁ X₁.warmed) with ⟨v, B, X', hpost, hsteps⟩ | ⟨q, B, X', hpost, hsteps⟩
  · exact Or.inl ⟨v, vm₁, B, X₁.warmed, X', hpost, fun target h => hstep₁ _ fun acts => by rw [doInvoke_state]; exact hsteps.trans h⟩
  · exact Or.inr ⟨q, vm₁, B, X₁.warmed, X', hpost, hstep₁ _ fun acts => by rw [doInvoke_state]; exact hsteps⟩
theorem vx_callVW (X : Stand p l e R s m args below meth c T locs cells slots) (hexec : p.tables.exec = Jvm.exec) {own C : String} {index : Nat} {y : MethodName} {bytes : ByteArray} {maxL : Nat} {ret : Option FieldType} {hh : List (Nat × Nat × Nat × Nat)}
    (hown : s.vm.findClass own = some m.cls) (hlink : (Cond.methodLink own index y).before args s = true) (hinst : (Cond.instanceMethod y).before args s = true) (hsel : (Cond.selects C y y).before args s = true)
    (hcode : (Cond.codeWith y bytes maxL ret hh).before args s = true) (hy : y.cls ≠ "java/lang/invoke/MethodHandle" ∧ y.cls ≠ "java/lang/invoke/VarHandle")
    {W9 : Nat} {Pre : Pt → Array Value → Prop} {Post : Pt → Array Value → Option Value → Pt → Prop} (hK : Back l R p e below s args y 3 W9 Pre Post)
    {b : Addr} {cellB : Cell} (hcell : T.heap[b]? = some cellB) (hobj : cellB.vm.isStatics = false) (hcls : s.vm.findClass C = some cellB.cls)
    {g : JFrame} (hg : g.method = m) (hsize : g.locals.size = c.maxLocals) {argsL rest : List Value} (hlen : ∀ sig, parseMethodDescriptor y.desc = some sig → argsL.length = sig.parameters.length)
    (hstack : g.stack = argsL.reverse ++ .ref b :: rest) (hW : 2 * g.monitorRoom + (rest.map fun v => v.category).sum ≤ W9) (hdg : decode c.code g.pc = .ok (.invokevirtual index, 3))
    (hpre : ∀ vm₁, s.WarmedH vm₁ → Pre ⟨T.setVm vm₁, locs, cells, slots⟩ (Value.ref b :: argsL).toArray) :
    ∃ (v : Option Value) (vm₁ : Vm) (B : Pt), s.WarmedH vm₁ ∧ Stand p l e R s m args below meth c B.U B.locs B.cells B.slots ∧ Post ⟨T.setVm vm₁, locs, cells, slots⟩ (Value.ref b :: argsL).toArray v B ∧
      ∀ target, Steps p.tables e below (B.U.setTop { g with pc := g.pc + 3, stack := v.toList ++ rest }) target → Steps p.tables e below (T.setTop g) target := by
  obtain ⟨mk, methM, hnamed, hmethM, hstM, habM⟩ := Cond.instanceMethod_spec hinst
  obtain ⟨m8, methM', cM, hn8, hmethM', -, -, -, -, -, -, hsigM⟩ := Cond.codeWith_spec hcode
  cases Option.some.inj (hn8.symm.trans hnamed)
  cases hmethM.symm.trans hmethM'
  obtain ⟨c2, r2, m2, q1, q2, q3, q4, kP, hkP, hkPi⟩ := Cond.selects_spec hsel
  cases hcls.symm.trans q1
  cases (State.methodFound?_of_named hnamed hy).symm.trans q2
  cases hnamed.symm.trans q3
  have hselP : selectMethod e.platform s.vm cellB.cls mk = .method mk := by rw [Launch.admits_selectMethod X.admits]; exact q4
  obtain ⟨vm₁, X₁, hstep₁⟩ := X.invokevirtual hexec hown hlink hnamed hmethM hstM hkP hkPi hy (a := b) (cell := cellB) hcell
    (fun z h => by rw [h] at hobj; cases hobj) hselP hmethM habM hkP hkPi (g := g) hg (argsL := argsL) (rest := rest) (hlen _ hsigM) hstack hdg
  obtain ⟨v, B, X', hpost, hsteps⟩ := hK m meth c ⟨T.setVm vm₁, locs, cells, slots⟩ { g with stack := rest } (.invokevirtual index) mk (Value.ref b :: argsL).toArray X₁ hg hsize hdg hW (X₁.named hnamed) (hpre vm₁ X₁.warmed)
  exact ⟨v, vm₁, B, X₁.warmed, X', hpost, fun target h => hstep₁ _ fun acts => by rw [doInvoke_state]; exact hsteps.trans h⟩
abbrev vx_CVW (R : Room) (s : State) (args : Array Value) (own C : String) (index : Nat) (y : MethodName) (bytes : ByteArray) (maxL : Nat) (ret : Option FieldType) (hh : List (Nat × Nat × Nat × Nat)) (ws : List Cond) (rm : Room) (mc ms n : Nat) : Prop :=
  (rm.cells = mc ∧ rm.slots = ms ∧ rm.frames + 1 ≤ R.frames ∧ 8 + (maxL + 11) + rm.locals ≤ R.locals ∧ (∀ w ∈ ws, ∀ (a' : Array Value) (U : State), s.WarmedH U.vm → w.before a' U = true) ∧ Cond.codeWith y bytes maxL ret hh ∈ ws) ∧
  (Cond.codeWith y bytes maxL ret hh).before args s = true ∧ (Cond.initialized y.cls).before args s = true ∧ (y.cls ≠ "java/lang/invoke/MethodHandle" ∧ y.cls ≠ "java/lang/invoke/VarHandle") ∧
  (∀ sig, parseMethodDescriptor y.desc = some sig → n = sig.parameters.length) ∧ (Cond.methodLink own index y).before args s = true ∧ (Cond.instanceMethod y).before args s = true ∧ (Cond.selects C y y).before args s = true
theorem vx_cwVW {own C : String} {index maxL mc ms : Nat} {y : MethodName} {bytes : ByteArray} {ret : Option FieldType} {hh : List (Nat × Nat × Nat × Nat)} {Ts ws ws' : List Cond} {rm : Room} (n : Nat) (ht : ∀ w ∈ Ts, w.before args s = true) (hT : GoodIn Ts (wsV own index C y ws)) (hw : ws = Cond.codeWith y bytes maxL ret hh :: ws') (hrc : rm.cells = mc) (hrs : rm.slots = ms)
    (hd : y.cls = C ∧ y.cls ≠ "java/lang/invoke/MethodHandle" ∧ y.cls ≠ "java/lang/invoke/VarHandle" ∧ (parseMethodDescriptor y.desc).map (fun d => d.parameters.length) = some n) (hR : rm.frames + 1 ≤ R.frames ∧ 8 + (maxL + 11) + rm.locals ≤ R.locals) :
    vx_CVW R s args own C index y bytes maxL ret hh ws rm mc ms n := by
  obtain ⟨hC, hd⟩ := hd
  subst hC
  have ok : ∀ w ∈ wsV own index y.cls y ws, w.before args s = true := fun w h => ht w (hT w h).1
  have hG : GoodIn Ts ws := fun w h => hT w (by unfold wsV; exact List.mem_append_right _ h)
  have hc : Cond.codeWith y bytes maxL ret hh ∈ ws := by rw [hw]; exact List.mem_cons_self
  refine ⟨⟨hrc, hrs, hR.1, hR.2, pay_in ht hG, hc⟩, ht _ (hG _ hc).1, ok _ (by simp [wsV]), ⟨hd.1, hd.2.1⟩, fun sig h => ?_, ok _ (by simp [wsV]), ok _ (by simp [wsV]), ok _ (by simp [wsV])⟩
  have h2 := hd.2.2
  rw [h] at h2
  exact (Option.some.inj h2).symm
theorem vx_runVW {y : MethodName} {bytes cc : ByteArray} {maxL nL mc ms n index : Nat} {ret : Option FieldType} {hh : List (Nat × Nat × Nat × Nat)} {ws : List Cond} {rm : Room} {Pc : Array Value → State → Prop} {Qc : Array Value → State → Outcome → State → Prop} {free : Addr → Prop} {Ts : List Cond} {own C : String} {b : Addr} {As rest : List Value} {g : JFrame}
    (S : CallFix p m c cc nL s args Ts own) (hM : Met l y ws rm Pc Qc mc ms free) (cw : vx_CVW R s args own C index y bytes maxL ret hh ws rm mc ms n) (hp : PreV s H C b Pc As)
    (hg : g.method = m) (hn : As.length = n) (hsize : g.locals.size = nL) (hstack : g.stack = As.reverse ++ .ref b :: rest) (hW : 2 * g.monitorRoom + (rest.map fun v => v.category).sum ≤ 8) (hdg : decode cc g.pc = .ok (.invokevirtual index, 3)) (hf : cells + mc ≤ R.cells ∧ slots + ms ≤ R.slots) :
    va_Run p l e R s m args below meth c H locs cells slots mc ms g rest (Qc (Value.ref b :: As).toArray) free := by
  obtain ⟨⟨hrc, hrs, hfr, hlo, hws, hcw⟩, hcode, hini, hy, hlen, hl, hin, hse⟩ := cw
  have hK : Back l R p e below s args y 3 8 (PreOf R mc ms Pc) (PostOf Qc mc ms free) := va_backW (hh := hh) (bytes := bytes) (maxL := maxL) (ret := ret) hM hp.1 hrc hrs hfr hlo hws hcw (fun a' U hW => word_at hW (Or.inl (by first | rfl | simp [Cond.onTables, Cond.keeps, Cond.steady])) hini)
  obtain ⟨hx, hb, hml, ho, -⟩ := S
  obtain ⟨-, ⟨cellB, hcB, hoB, hclB⟩, hPc⟩ := hp
  intro T hT X
  obtain ⟨v, vm₁, ⟨U', l2, c2, s2⟩, hW₁, X', ⟨g', mk, t, L, e1, e2, hq, h1, hL, h2, h3⟩, st⟩ := vx_callVW X hx (C := C) (hh := hh) (bytes := bytes) (maxL := maxL) (ret := ret) ho hl hin hse hcode hy hK (by rw [hT]; exact hcB) hoB hclB hg (hsize.trans hml.symm) (argsL := As) (rest := rest) (fun sig h => hn.trans (hlen sig h)) hstack hW (by rw [hb]; exact hdg)
    (fun vm₁ hW₁ => ⟨hf.1, hf.2, hPc (T.setVm vm₁) hT hW₁⟩)
  dsimp only [Pt.U, Pt.locs, Pt.cells, Pt.slots] at X' e1 e2 h1 h2 h3 st
  subst h1; subst h2; subst h3
  exact ⟨v, (T.setVm vm₁).calling g' mk (Value.ref b :: As).toArray, t, U', L, hT, X', hL, e1, e2, hq, st⟩
section
variable {y : MethodName} {bytes cc : ByteArray} {maxL nL mc ms n index : Nat} {ret : Option FieldType} {ws : List Cond} {rm : Room} {Pc : Array Value → State → Prop} {Qc : Array Value → State → Outcome → State → Prop} {XC : String → State → State → Prop} {free : Addr → Prop} {Ts : List Cond} {own C : String} {b : Addr} {As rest : List Value} {g : JFrame}
theorem vx_runVX {hh : List (Nat × Nat × Nat × Nat)} (S : CallFix p m c cc nL s args Ts own) (hM : vx_Met l y ws rm Pc Qc XC mc ms free) (cw : vx_CVW R s args own C index y bytes maxL ret hh ws rm mc ms n) (hp : PreV s H C b Pc As)
    (hg : g.method = m) (hn : As.length = n) (hsize : g.locals.size = nL) (hstack : g.stack = As.reverse ++ .ref b :: rest) (hW : 2 * g.monitorRoom + (rest.map fun v => v.category).sum ≤ 8) (hdg : decode cc g.pc = .ok (.invokevirtual index, 3)) (hf : cells + mc ≤ R.cells ∧ slots + ms ≤ R.slots) :
    vx_Run p l e R s m args below meth c H locs cells slots mc ms g rest (Qc (Value.ref b :: As).toArray) XC free := by
  obtain ⟨⟨hrc, hrs, hfr, hlo, hws, hcw⟩, hcode, hini, hy, hlen, hl, hin, hse⟩ := cw
  have hK : vx_Back l R p e below s args y 3 8 (PreOf R mc ms Pc) (PostOf Qc mc ms free) (vx_Post XC mc ms free) := vx_backW (hh := hh) (bytes := bytes) (maxL := maxL) (ret := ret) hM hp.1 hrc hrs hfr hlo hws hcw (fun a' U hW => word_at hW (Or.inl (by first | rfl | simp [Cond.onTables, Cond.keeps, Cond.steady])) hini)
  obtain ⟨hx, hb, hml, ho, -⟩ := S
  obtain ⟨-, ⟨cellB, hcB, hoB, hclB⟩, hPc⟩ := hp
  intro T hT X
  rcases vx_callVX X hx (C := C) (hh := hh) (bytes := bytes) (maxL := maxL) (ret := ret) ho hl hin hse hcode hy hK (by rw [hT]; exact hcB) hoB hclB hg (hsize.trans hml.symm) (argsL := As) (rest := rest) (fun sig h => hn.trans (hlen sig h)) hstack hW (by rw [hb]; exact hdg)
    (fun vm₁ hW₁ => ⟨hf.1, hf.2, hPc (T.setVm vm₁) hT hW₁⟩) with ⟨v, vm₁, ⟨U', l2, c2, s2⟩, hW₁, X', ⟨g', mk, t, L, e1, e2, hq, h1, hL, h2, h3⟩, st⟩ | ⟨q, vm₁, ⟨U', l2, c2, s2⟩, hW₁, X', ⟨g', mk, t, L, E, ce, e1, e2, hq, hce, hcv, hcl, h1, hL, h2, h3⟩, st⟩
  · dsimp only [Pt.U, Pt.locs, Pt.cells, Pt.slots] at X' e1 e2 h1 h2 h3 st
    subst h1; subst h2; subst h3
    exact Or.inl ⟨v, (T.setVm vm₁).calling g' mk (Value.ref b :: As).toArray, t, U', L, hT, X', hL, e1, e2, hq, st⟩
  · dsimp only [Pt.U, Pt.locs, Pt.cells, Pt.slots] at X' e1 e2 h1 h2 h3 st hcl
    subst h1; subst h2; subst h3
    exact Or.inr ⟨q, (T.setVm vm₁).calling g' mk (Value.ref b :: As).toArray, t, U', L, E, ce, hT, X', hL, e1, e2, hq, hce, hcv, vx_cls hW₁ hcl, st⟩
theorem vx_runSX {hh : List (Nat × Nat × Nat × Nat)} (S : CallFix p m c cc nL s args Ts own) (hM : vx_Met l y ws rm Pc Qc XC mc ms free) (cw : vx_CSW R s args own index y bytes maxL ret hh ws rm mc ms n) (hp : PreS s H Pc As)
    (hg : g.method = m) (hn : As.length = n) (hsize : g.locals.size = nL) (hstack : g.stack = As.reverse ++ rest) (hW : 2 * g.monitorRoom + (rest.map fun v => v.category).sum ≤ 8) (hdg : decode cc g.pc = .ok (.invokestatic index, 3)) (hf : cells + mc ≤ R.cells ∧ slots + ms ≤ R.slots) :
    vx_Run p l e R s m args below meth c H locs cells slots mc ms g rest (Qc As.toArray) XC free := by
  obtain ⟨⟨hrc, hrs, hfr, hlo, hws, hcw⟩, hcode, hini, hy, hlen, hl, hstt⟩ := cw
  have hK : vx_Back l R p e below s args y 3 8 (PreOf R mc ms Pc) (PostOf Qc mc ms free) (vx_Post XC mc ms free) := vx_backW (hh := hh) (bytes := bytes) (maxL := maxL) (ret := ret) hM hp.1 hrc hrs hfr hlo hws hcw (fun a' U hW => word_at hW (Or.inl (by first | rfl | simp [Cond.onTables, Cond.keeps, Cond.steady])) hini)
  obtain ⟨hx, hb, hml, ho, -⟩ := S
  intro T hT X
  rcases vx_callSX X hx (hh := hh) (bytes := bytes) (maxL := maxL) (ret := ret) ho hl hstt hini hcode hy hK hg (hsize.trans hml.symm) (argsL := As) (rest := rest) (fun sig h => hn.trans (hlen sig h)) hstack hW (by rw [hb]; exact hdg)
    (fun vm₁ hW₁ => ⟨hf.1, hf.2, hp.2 (T.setVm vm₁) hT hW₁⟩) with ⟨v, vm₁, ⟨U', l2, c2, s2⟩, hW₁, X', ⟨g', mk, t, L, e1, e2, hq, h1, hL, h2, h3⟩, st⟩ | ⟨q, vm₁, ⟨U', l2, c2, s2⟩, hW₁, X', ⟨g', mk, t, L, E, ce, e1, e2, hq, hce, hcv, hcl, h1, hL, h2, h3⟩, st⟩
  · dsimp only [Pt.U, Pt.locs, Pt.cells, Pt.slots] at X' e1 e2 h1 h2 h3 st
    subst h1; subst h2; subst h3
    exact Or.inl ⟨v, (T.setVm vm₁).calling g' mk As.toArray, t, U', L, hT, X', hL, e1, e2, hq, st⟩
  · dsimp only [Pt.U, Pt.locs, Pt.cells, Pt.slots] at X' e1 e2 h1 h2 h3 st hcl
    subst h1; subst h2; subst h3
    exact Or.inr ⟨q, (T.setVm vm₁).calling g' mk As.toArray, t, U', L, E, ce, hT, X', hL, e1, e2, hq, hce, hcv, vx_cls hW₁ hcl, st⟩
end
end VXH
theorem vx_ofWH {l : Launch} {y : MethodName} {ws ws' : List Cond} {rm : Room} {Pc : Array Value → State → Prop} {Qc : Array Value → State → Outcome → State → Prop} {XC : String → State → State → Prop} {mc ms : Nat} {free : Addr → Prop} {cc : ByteArray} {maxL : Nat} {ret : Option FieldType} {hh : List (Nat × Nat × Nat × Nat)}
    (hy : plainName y.cls = true) (hw : ws = Cond.codeWith y cc maxL ret hh :: ws')
    (body : ∀ p e s m args below meth c s₁, BodyLoose p l y (headSpec ws rm) cc maxL ret e s m args below meth c s₁ → c.maxLocals = maxL → Pc args s →
      W p l e (headSpec ws rm).room s m args below meth c s.heap [] 0 0 (vx_MQ below Qc XC args s mc ms free) (entryFrame m args maxL)) : vx_Met l y ws rm Pc Qc XC mc ms free := by
  refine MetFree.of_bodyS (code := cc) (maxLocals := maxL) (ret := ret) hy ?_ ?_
  · intro args s m h hn
    obtain ⟨m9, meth, c, hn9, h1, h2, h3, h4, -, h5, h6, -⟩ := Cond.codeWith_spec (atoms_spec (ws := ws) h _ (by rw [hw]; exact List.mem_cons_self))
    cases hn.symm.trans hn9
    exact ⟨meth, c, h1, h2, h3, h4, h5, h6⟩
  · intro p e s m args below meth c s₁ B hml hP _
    have hh0 : s₁.heap = s.heap := by rw [B.state]; rfl
    obtain ⟨t, a1, o, b1, b2, b3⟩ := body p e s m args below meth c s₁ B hml hP s₁ hh0 (Stand.of_body B)
    exact ⟨t, o, a1, b1, b2, b3⟩
/-! ===== END ===== -/
end
section
-- ===== PART A: goes FIRST, ahead of the names: the tables' words, and 'selects' of the private methods out of them =====
/-- a private method of a class that the tables say can be made, by its rows of tables_1 -/
def lw_okq (q : MethodName × Nat) : Prop := (q.1.cls ≠ "java/lang/invoke/MethodHandle" ∧ q.1.cls ≠ "java/lang/invoke/VarHandle") ∧ Cond.instantiable q.1.cls q.2 ∈ tables_1 ∧ Cond.privateMethod q.1 ∈ tables_1 ∧ Cond.instanceMethod q.1 ∈ tables_1
theorem lw_p0 : lw_okq (⟨"NoticeBook", "lotAt", "(I)LNoticeBook$Lot;"⟩, 8) := ⟨⟨by decide +kernel, by decide +kernel⟩, List.mem_of_getElem? (i := 12) (by decide +kernel), List.mem_of_getElem? (i := 61) (by decide +kernel), List.mem_of_getElem? (i := 62) (by decide +kernel)⟩
theorem lw_p1 : lw_okq (⟨"java/lang/Throwable", "fillInStackTrace", "(I)Ljava/lang/Throwable;"⟩, 6) := ⟨⟨by decide +kernel, by decide +kernel⟩, List.mem_of_getElem? (i := 112) (by decide +kernel), List.mem_of_getElem? (i := 110) (by decide +kernel), List.mem_of_getElem? (i := 111) (by decide +kernel)⟩
theorem lw_p2 : lw_okq (⟨"NoticeBook", "enter", "(LNoticeBook$Lot;)I"⟩, 8) := ⟨⟨by decide +kernel, by decide +kernel⟩, List.mem_of_getElem? (i := 12) (by decide +kernel), List.mem_of_getElem? (i := 227) (by decide +kernel), List.mem_of_getElem? (i := 228) (by decide +kernel)⟩
theorem lw_p3 : lw_okq (⟨"NoticeBook", "beginTerm", "(LNoticeBook$Lot;)V"⟩, 8) := ⟨⟨by decide +kernel, by decide +kernel⟩, List.mem_of_getElem? (i := 12) (by decide +kernel), List.mem_of_getElem? (i := 254) (by decide +kernel), List.mem_of_getElem? (i := 255) (by decide +kernel)⟩
theorem lw_p4 : lw_okq (⟨"NoticeBook", "demandLot", "(I)LNoticeBook$Lot;"⟩, 8) := ⟨⟨by decide +kernel, by decide +kernel⟩, List.mem_of_getElem? (i := 12) (by decide +kernel), List.mem_of_getElem? (i := 265) (by decide +kernel), List.mem_of_getElem? (i := 266) (by decide +kernel)⟩
theorem lw_p5 : lw_okq (⟨"NoticeBook$Lot", "isByTerm", "()Z"⟩, 10) := ⟨⟨by decide +kernel, by decide +kernel⟩, List.mem_of_getElem? (i := 180) (by decide +kernel), List.mem_of_getElem? (i := 270) (by decide +kernel), List.mem_of_getElem? (i := 271) (by decide +kernel)⟩
theorem lw_p6 : lw_okq (⟨"NoticeBook", "demandNotice", "(I)LNoticeBook$Lot;"⟩, 8) := ⟨⟨by decide +kernel, by decide +kernel⟩, List.mem_of_getElem? (i := 12) (by decide +kernel), List.mem_of_getElem? (i := 282) (by decide +kernel), List.mem_of_getElem? (i := 283) (by decide +kernel)⟩
theorem lw_p7 : lw_okq (⟨"NoticeBook", "payOut", "(LNoticeBook$Lot;I)I"⟩, 8) := ⟨⟨by decide +kernel, by decide +kernel⟩, List.mem_of_getElem? (i := 12) (by decide +kernel), List.mem_of_getElem? (i := 295) (by decide +kernel), List.mem_of_getElem? (i := 296) (by decide +kernel)⟩
theorem lw_p8 : lw_okq (⟨"NoticeBook", "notePaid", "(II)V"⟩, 8) := ⟨⟨by decide +kernel, by decide +kernel⟩, List.mem_of_getElem? (i := 12) (by decide +kernel), List.mem_of_getElem? (i := 299) (by decide +kernel), List.mem_of_getElem? (i := 300) (by decide +kernel)⟩
theorem lw_p9 : lw_okq (⟨"NoticeBook", "payInterest", "(LNoticeBook$Lot;)I"⟩, 8) := ⟨⟨by decide +kernel, by decide +kernel⟩, List.mem_of_getElem? (i := 12) (by decide +kernel), List.mem_of_getElem? (i := 303) (by decide +kernel), List.mem_of_getElem? (i := 304) (by decide +kernel)⟩
theorem lw_p10 : lw_okq (⟨"NoticeBook$Lot", "drawWholeCents", "()I"⟩, 10) := ⟨⟨by decide +kernel, by decide +kernel⟩, List.mem_of_getElem? (i := 180) (by decide +kernel), List.mem_of_getElem? (i := 307) (by decide +kernel), List.mem_of_getElem? (i := 308) (by decide +kernel)⟩
theorem lw_p11 : lw_okq (⟨"NoticeBook", "lose", "(LNoticeBook$Lot;J)V"⟩, 8) := ⟨⟨by decide +kernel, by decide +kernel⟩, List.mem_of_getElem? (i := 12) (by decide +kernel), List.mem_of_getElem? (i := 312) (by decide +kernel), List.mem_of_getElem? (i := 313) (by decide +kernel)⟩
theorem lw_p12 : lw_okq (⟨"NoticeBook", "unfrozenOf", "(I)I"⟩, 8) := ⟨⟨by decide +kernel, by decide +kernel⟩, List.mem_of_getElem? (i := 12) (by decide +kernel), List.mem_of_getElem? (i := 324) (by decide +kernel), List.mem_of_getElem? (i := 325) (by decide +kernel)⟩
theorem lw_p13 : lw_okq (⟨"NoticeBook", "noticeLotAt", "(II)LNoticeBook$Lot;"⟩, 8) := ⟨⟨by decide +kernel, by decide +kernel⟩, List.mem_of_getElem? (i := 12) (by decide +kernel), List.mem_of_getElem? (i := 328) (by decide +kernel), List.mem_of_getElem? (i := 329) (by decide +kernel)⟩
theorem lw_p14 : lw_okq (⟨"NoticeBook$Lot", "unfrozen", "()I"⟩, 10) := ⟨⟨by decide +kernel, by decide +kernel⟩, List.mem_of_getElem? (i := 180) (by decide +kernel), List.mem_of_getElem? (i := 332) (by decide +kernel), List.mem_of_getElem? (i := 333) (by decide +kernel)⟩
theorem lw_p15 : lw_okq (⟨"NoticeBook", "noteParts", "(I)V"⟩, 8) := ⟨⟨by decide +kernel, by decide +kernel⟩, List.mem_of_getElem? (i := 12) (by decide +kernel), List.mem_of_getElem? (i := 337) (by decide +kernel), List.mem_of_getElem? (i := 338) (by decide +kernel)⟩
def lw_privs_1 : List (MethodName × Nat) := [(⟨"NoticeBook", "lotAt", "(I)LNoticeBook$Lot;"⟩, 8), (⟨"java/lang/Throwable", "fillInStackTrace", "(I)Ljava/lang/Throwable;"⟩, 6), (⟨"NoticeBook", "enter", "(LNoticeBook$Lot;)I"⟩, 8), (⟨"NoticeBook", "beginTerm", "(LNoticeBook$Lot;)V"⟩, 8), (⟨"NoticeBook", "demandLot", "(I)LNoticeBook$Lot;"⟩, 8), (⟨"NoticeBook$Lot", "isByTerm", "()Z"⟩, 10), (⟨"NoticeBook", "demandNotice", "(I)LNoticeBook$Lot;"⟩, 8), (⟨"NoticeBook", "payOut", "(LNoticeBook$Lot;I)I"⟩, 8), (⟨"NoticeBook", "notePaid", "(II)V"⟩, 8), (⟨"NoticeBook", "payInterest", "(LNoticeBook$Lot;)I"⟩, 8), (⟨"NoticeBook$Lot", "drawWholeCents", "()I"⟩, 10), (⟨"NoticeBook", "lose", "(LNoticeBook$Lot;J)V"⟩, 8), (⟨"NoticeBook", "unfrozenOf", "(I)I"⟩, 8), (⟨"NoticeBook", "noticeLotAt", "(II)LNoticeBook$Lot;"⟩, 8), (⟨"NoticeBook$Lot", "unfrozen", "()I"⟩, 10), (⟨"NoticeBook", "noteParts", "(I)V"⟩, 8)]
theorem lw_r1 : ∀ q ∈ lw_privs_1, lw_okq q := List.forall_mem_cons.mpr ⟨lw_p0, List.forall_mem_cons.mpr ⟨lw_p1, List.forall_mem_cons.mpr ⟨lw_p2, List.forall_mem_cons.mpr ⟨lw_p3, List.forall_mem_cons.mpr ⟨lw_p4, List.forall_mem_cons.mpr ⟨lw_p5, List.forall_mem_cons.mpr ⟨lw_p6, List.forall_mem_cons.mpr ⟨lw_p7, List.forall_mem_cons.mpr ⟨lw_p8, List.forall_mem_cons.mpr ⟨lw_p9, List.forall_mem_cons.mpr ⟨lw_p10, List.forall_mem_cons.mpr ⟨lw_p11, List.forall_mem_cons.mpr ⟨lw_p12, List.forall_mem_cons.mpr ⟨lw_p13, List.forall_mem_cons.mpr ⟨lw_p14, List.forall_mem_cons.mpr ⟨lw_p15, fun _ h => absurd h List.not_mem_nil⟩⟩⟩⟩⟩⟩⟩⟩⟩⟩⟩⟩⟩⟩⟩⟩
theorem lw_p16 : lw_okq (⟨"NoticeBook", "totalOf", "(I)I"⟩, 8) := ⟨⟨by decide +kernel, by decide +kernel⟩, List.mem_of_getElem? (i := 12) (by decide +kernel), List.mem_of_getElem? (i := 341) (by decide +kernel), List.mem_of_getElem? (i := 342) (by decide +kernel)⟩
theorem lw_p17 : lw_okq (⟨"NoticeBook", "partsOfCents", "(III)J"⟩, 8) := ⟨⟨by decide +kernel, by decide +kernel⟩, List.mem_of_getElem? (i := 12) (by decide +kernel), List.mem_of_getElem? (i := 345) (by decide +kernel), List.mem_of_getElem? (i := 346) (by decide +kernel)⟩
theorem lw_p18 : lw_okq (⟨"NoticeBook", "partsByBands", "(I)J"⟩, 8) := ⟨⟨by decide +kernel, by decide +kernel⟩, List.mem_of_getElem? (i := 12) (by decide +kernel), List.mem_of_getElem? (i := 349) (by decide +kernel), List.mem_of_getElem? (i := 350) (by decide +kernel)⟩
theorem lw_p19 : lw_okq (⟨"NoticeBook", "rateByWholeSum", "(I)I"⟩, 8) := ⟨⟨by decide +kernel, by decide +kernel⟩, List.mem_of_getElem? (i := 12) (by decide +kernel), List.mem_of_getElem? (i := 358) (by decide +kernel), List.mem_of_getElem? (i := 359) (by decide +kernel)⟩
theorem lw_p20 : lw_okq (⟨"NoticeBook", "leastHarmful", "(I)LNoticeBook$Lot;"⟩, 8) := ⟨⟨by decide +kernel, by decide +kernel⟩, List.mem_of_getElem? (i := 12) (by decide +kernel), List.mem_of_getElem? (i := 362) (by decide +kernel), List.mem_of_getElem? (i := 363) (by decide +kernel)⟩
theorem lw_p21 : lw_okq (⟨"NoticeBook", "earnOneDay", "()V"⟩, 8) := ⟨⟨by decide +kernel, by decide +kernel⟩, List.mem_of_getElem? (i := 12) (by decide +kernel), List.mem_of_getElem? (i := 413) (by decide +kernel), List.mem_of_getElem? (i := 414) (by decide +kernel)⟩
theorem lw_p22 : lw_okq (⟨"NoticeBook", "beginDay", "()I"⟩, 8) := ⟨⟨by decide +kernel, by decide +kernel⟩, List.mem_of_getElem? (i := 12) (by decide +kernel), List.mem_of_getElem? (i := 417) (by decide +kernel), List.mem_of_getElem? (i := 418) (by decide +kernel)⟩
theorem lw_p23 : lw_okq (⟨"NoticeBook", "endTerm", "(LNoticeBook$Lot;)V"⟩, 8) := ⟨⟨by decide +kernel, by decide +kernel⟩, List.mem_of_getElem? (i := 12) (by decide +kernel), List.mem_of_getElem? (i := 421) (by decide +kernel), List.mem_of_getElem? (i := 422) (by decide +kernel)⟩
theorem lw_p24 : lw_okq (⟨"NoticeBookModel", "open", "(II)I"⟩, 23) := ⟨⟨by decide +kernel, by decide +kernel⟩, List.mem_of_getElem? (i := 488) (by decide +kernel), List.mem_of_getElem? (i := 592) (by decide +kernel), List.mem_of_getElem? (i := 593) (by decide +kernel)⟩
theorem lw_p25 : lw_okq (⟨"NoticeBookModel", "beginTerm", "(I)V"⟩, 23) := ⟨⟨by decide +kernel, by decide +kernel⟩, List.mem_of_getElem? (i := 488) (by decide +kernel), List.mem_of_getElem? (i := 600) (by decide +kernel), List.mem_of_getElem? (i := 601) (by decide +kernel)⟩
theorem lw_p26 : lw_okq (⟨"NoticeBookModel", "isLot", "(I)Z"⟩, 23) := ⟨⟨by decide +kernel, by decide +kernel⟩, List.mem_of_getElem? (i := 488) (by decide +kernel), List.mem_of_getElem? (i := 608) (by decide +kernel), List.mem_of_getElem? (i := 609) (by decide +kernel)⟩
theorem lw_p27 : lw_okq (⟨"NoticeBookModel", "end", "(I)I"⟩, 23) := ⟨⟨by decide +kernel, by decide +kernel⟩, List.mem_of_getElem? (i := 488) (by decide +kernel), List.mem_of_getElem? (i := 620) (by decide +kernel), List.mem_of_getElem? (i := 621) (by decide +kernel)⟩
theorem lw_p28 : lw_okq (⟨"NoticeBookModel", "takeInterest", "(I)I"⟩, 23) := ⟨⟨by decide +kernel, by decide +kernel⟩, List.mem_of_getElem? (i := 488) (by decide +kernel), List.mem_of_getElem? (i := 624) (by decide +kernel), List.mem_of_getElem? (i := 625) (by decide +kernel)⟩
theorem lw_p29 : lw_okq (⟨"NoticeBookModel", "pay", "(II)I"⟩, 23) := ⟨⟨by decide +kernel, by decide +kernel⟩, List.mem_of_getElem? (i := 488) (by decide +kernel), List.mem_of_getElem? (i := 629) (by decide +kernel), List.mem_of_getElem? (i := 630) (by decide +kernel)⟩
theorem lw_p30 : lw_okq (⟨"NoticeBookModel", "isNotice", "(II)Z"⟩, 23) := ⟨⟨by decide +kernel, by decide +kernel⟩, List.mem_of_getElem? (i := 488) (by decide +kernel), List.mem_of_getElem? (i := 638) (by decide +kernel), List.mem_of_getElem? (i := 639) (by decide +kernel)⟩
theorem lw_p31 : lw_okq (⟨"NoticeBookModel", "partsNow", "(I)J"⟩, 23) := ⟨⟨by decide +kernel, by decide +kernel⟩, List.mem_of_getElem? (i := 488) (by decide +kernel), List.mem_of_getElem? (i := 642) (by decide +kernel), List.mem_of_getElem? (i := 643) (by decide +kernel)⟩
def lw_privs_2 : List (MethodName × Nat) := [(⟨"NoticeBook", "totalOf", "(I)I"⟩, 8), (⟨"NoticeBook", "partsOfCents", "(III)J"⟩, 8), (⟨"NoticeBook", "partsByBands", "(I)J"⟩, 8), (⟨"NoticeBook", "rateByWholeSum", "(I)I"⟩, 8), (⟨"NoticeBook", "leastHarmful", "(I)LNoticeBook$Lot;"⟩, 8), (⟨"NoticeBook", "earnOneDay", "()V"⟩, 8), (⟨"NoticeBook", "beginDay", "()I"⟩, 8), (⟨"NoticeBook", "endTerm", "(LNoticeBook$Lot;)V"⟩, 8), (⟨"NoticeBookModel", "open", "(II)I"⟩, 23), (⟨"NoticeBookModel", "beginTerm", "(I)V"⟩, 23), (⟨"NoticeBookModel", "isLot", "(I)Z"⟩, 23), (⟨"NoticeBookModel", "end", "(I)I"⟩, 23), (⟨"NoticeBookModel", "takeInterest", "(I)I"⟩, 23), (⟨"NoticeBookModel", "pay", "(II)I"⟩, 23), (⟨"NoticeBookModel", "isNotice", "(II)Z"⟩, 23), (⟨"NoticeBookModel", "partsNow", "(I)J"⟩, 23)]
theorem lw_r2 : ∀ q ∈ lw_privs_2, lw_okq q := List.forall_mem_cons.mpr ⟨lw_p16, List.forall_mem_cons.mpr ⟨lw_p17, List.forall_mem_cons.mpr ⟨lw_p18, List.forall_mem_cons.mpr ⟨lw_p19, List.forall_mem_cons.mpr ⟨lw_p20, List.forall_mem_cons.mpr ⟨lw_p21, List.forall_mem_cons.mpr ⟨lw_p22, List.forall_mem_cons.mpr ⟨lw_p23, List.forall_mem_cons.mpr ⟨lw_p24, List.forall_mem_cons.mpr ⟨lw_p25, List.forall_mem_cons.mpr ⟨lw_p26, List.forall_mem_cons.mpr ⟨lw_p27, List.forall_mem_cons.mpr ⟨lw_p28, List.forall_mem_cons.mpr ⟨lw_p29, List.forall_mem_cons.mpr ⟨lw_p30, List.forall_mem_cons.mpr ⟨lw_p31, fun _ h => absurd h List.not_mem_nil⟩⟩⟩⟩⟩⟩⟩⟩⟩⟩⟩⟩⟩⟩⟩⟩
theorem lw_p32 : lw_okq (⟨"NoticeBookModel", "sumBelow", "(II)I"⟩, 23) := ⟨⟨by decide +kernel, by decide +kernel⟩, List.mem_of_getElem? (i := 488) (by decide +kernel), List.mem_of_getElem? (i := 646) (by decide +kernel), List.mem_of_getElem? (i := 647) (by decide +kernel)⟩
theorem lw_p33 : lw_okq (⟨"NoticeBookModel", "rateFor", "(I)I"⟩, 23) := ⟨⟨by decide +kernel, by decide +kernel⟩, List.mem_of_getElem? (i := 488) (by decide +kernel), List.mem_of_getElem? (i := 650) (by decide +kernel), List.mem_of_getElem? (i := 651) (by decide +kernel)⟩
theorem lw_p34 : lw_okq (⟨"NoticeBookModel", "partsOf", "(I)J"⟩, 23) := ⟨⟨by decide +kernel, by decide +kernel⟩, List.mem_of_getElem? (i := 488) (by decide +kernel), List.mem_of_getElem? (i := 656) (by decide +kernel), List.mem_of_getElem? (i := 657) (by decide +kernel)⟩
theorem lw_p35 : lw_okq (⟨"NoticeBookModel", "nextFor", "(I)I"⟩, 23) := ⟨⟨by decide +kernel, by decide +kernel⟩, List.mem_of_getElem? (i := 488) (by decide +kernel), List.mem_of_getElem? (i := 662) (by decide +kernel), List.mem_of_getElem? (i := 663) (by decide +kernel)⟩
theorem lw_p36 : lw_okq (⟨"NoticeBookModel", "endTerm", "(I)V"⟩, 23) := ⟨⟨by decide +kernel, by decide +kernel⟩, List.mem_of_getElem? (i := 488) (by decide +kernel), List.mem_of_getElem? (i := 684) (by decide +kernel), List.mem_of_getElem? (i := 685) (by decide +kernel)⟩
theorem lw_p37 : lw_okq (⟨"NoticeBookModel", "asksFor", "(I)Z"⟩, 23) := ⟨⟨by decide +kernel, by decide +kernel⟩, List.mem_of_getElem? (i := 488) (by decide +kernel), List.mem_of_getElem? (i := 700) (by decide +kernel), List.mem_of_getElem? (i := 701) (by decide +kernel)⟩
def lw_privs_3 : List (MethodName × Nat) := [(⟨"NoticeBookModel", "sumBelow", "(II)I"⟩, 23), (⟨"NoticeBookModel", "rateFor", "(I)I"⟩, 23), (⟨"NoticeBookModel", "partsOf", "(I)J"⟩, 23), (⟨"NoticeBookModel", "nextFor", "(I)I"⟩, 23), (⟨"NoticeBookModel", "endTerm", "(I)V"⟩, 23), (⟨"NoticeBookModel", "asksFor", "(I)Z"⟩, 23)]
theorem lw_r3 : ∀ q ∈ lw_privs_3, lw_okq q := List.forall_mem_cons.mpr ⟨lw_p32, List.forall_mem_cons.mpr ⟨lw_p33, List.forall_mem_cons.mpr ⟨lw_p34, List.forall_mem_cons.mpr ⟨lw_p35, List.forall_mem_cons.mpr ⟨lw_p36, List.forall_mem_cons.mpr ⟨lw_p37, fun _ h => absurd h List.not_mem_nil⟩⟩⟩⟩⟩⟩
def lw_privs : List (MethodName × Nat) := lw_privs_1 ++ (lw_privs_2 ++ (lw_privs_3))
def lw_tbl : List Cond := k2_sels lw_privs ++ tables_1
theorem lw_privs_ok : ∀ q ∈ lw_privs, lw_okq q := by
  show ∀ q ∈ lw_privs_1 ++ (lw_privs_2 ++ (lw_privs_3)), lw_okq q
  exact List.forall_mem_append.mpr ⟨lw_r1, List.forall_mem_append.mpr ⟨lw_r2, lw_r3⟩⟩
def RX0 : String := "NoticeBook$Lot"
def TX0 : u_T := fun k => match k with
  | 0 => ("NoticeBook$Lot", "customer", "I", true)
  | 1 => ("NoticeBook$Lot", "termDays", "I", true)
  | 2 => ("NoticeBook$Lot", "principal", "I", false)
  | 3 => ("NoticeBook$Lot", "earned", "J", false)
  | 4 => ("NoticeBook$Lot", "parts", "J", false)
  | 5 => ("NoticeBook$Lot", "frozenCents", "I", false)
  | 6 => ("NoticeBook$Lot", "takeFrom", "I", false)
  | 7 => ("NoticeBook$Lot", "end", "I", false)
  | 8 => ("NoticeBook$Lot", "instruction", "I", false)
  | _ => ("NoticeBook$Lot", "renewedOn", "I", false)
def tyX0 : Nat → FieldType := fun k => match k with
  | 0 => .int
  | 1 => .int
  | 2 => .int
  | 3 => .long
  | 4 => .long
  | 5 => .int
  | 6 => .int
  | 7 => .int
  | 8 => .int
  | _ => .int
abbrev wsX00 : List Cond := u_ws RX0 TX0 10
theorem nmX0 : ∀ a, a < 10 → ∀ b, b < 10 → a ≠ b → (TX0 a).2.1 ≠ (TX0 b).2.1 := by decide +kernel
theorem tyX0_ok : ∀ k, k < 10 → parseFieldDescriptor (TX0 k).2.2.1 = some (tyX0 k) := by decide +kernel
abbrev cX0_init : ByteArray := prog_2_method_1_code
def yX0_init : MethodName := ⟨RX0, "<init>", "(III)V"⟩
abbrev cX0_isByTerm : ByteArray := prog_2_method_2_code
def yX0_isByTerm : MethodName := ⟨RX0, "isByTerm", "()Z"⟩
abbrev cX0_unfrozen : ByteArray := prog_2_method_3_code
def yX0_unfrozen : MethodName := ⟨RX0, "unfrozen", "()I"⟩
abbrev cX0_drawWholeCents : ByteArray := prog_2_method_4_code
def yX0_drawWholeCents : MethodName := ⟨RX0, "drawWholeCents", "()I"⟩
def RX1 : String := "NoticeBook"
def TX1 : u_T := fun k => match k with
  | 0 => ("NoticeBook", "rates", "[I", true)
  | 1 => ("NoticeBook", "paidCents", "[J", true)
  | 2 => ("NoticeBook", "lostParts", "[J", true)
  | 3 => ("NoticeBook", "book", "[LNoticeBook$Lot;", true)
  | 4 => ("NoticeBook", "tiersByBands", "Z", false)
  | 5 => ("NoticeBook", "termRate", "I", false)
  | 6 => ("NoticeBook", "lotsMade", "I", false)
  | _ => ("NoticeBook", "day", "I", false)
def tyX1 : Nat → FieldType := fun k => match k with
  | 0 => .array .int
  | 1 => .array .long
  | 2 => .array .long
  | 3 => .array (.object "NoticeBook$Lot")
  | 4 => .boolean
  | 5 => .int
  | 6 => .int
  | _ => .int
abbrev wsX10 : List Cond := u_ws RX1 TX1 8
theorem nmX1 : ∀ a, a < 8 → ∀ b, b < 8 → a ≠ b → (TX1 a).2.1 ≠ (TX1 b).2.1 := by decide +kernel
theorem tyX1_ok : ∀ k, k < 8 → parseFieldDescriptor (TX1 k).2.2.1 = some (tyX1 k) := by decide +kernel
abbrev cX1_init : ByteArray := prog_1_method_1_code
def yX1_init : MethodName := ⟨RX1, "<init>", "()V"⟩
abbrev cX1_setRate : ByteArray := prog_1_method_2_code
def yX1_setRate : MethodName := ⟨RX1, "setRate", "(II)I"⟩
abbrev cX1_setByBands : ByteArray := prog_1_method_3_code
def yX1_setByBands : MethodName := ⟨RX1, "setByBands", "(Z)Z"⟩
abbrev cX1_setTermRate : ByteArray := prog_1_method_4_code
def yX1_setTermRate : MethodName := ⟨RX1, "setTermRate", "(I)I"⟩
abbrev cX1_deposit : ByteArray := prog_1_method_5_code
def yX1_deposit : MethodName := ⟨RX1, "deposit", "(II)I"⟩
abbrev cX1_depositTerm : ByteArray := prog_1_method_6_code
def yX1_depositTerm : MethodName := ⟨RX1, "depositTerm", "(IIII)I"⟩
abbrev cX1_give : ByteArray := prog_1_method_7_code
def yX1_give : MethodName := ⟨RX1, "give", "(II)I"⟩
abbrev cX1_withdraw : ByteArray := prog_1_method_8_code
def yX1_withdraw : MethodName := ⟨RX1, "withdraw", "(I)I"⟩
abbrev cX1_take : ByteArray := prog_1_method_9_code
def yX1_take : MethodName := ⟨RX1, "take", "(I)I"⟩
abbrev cX1_early : ByteArray := prog_1_method_10_code
def yX1_early : MethodName := ⟨RX1, "early", "(II)I"⟩
abbrev cX1_instruct : ByteArray := prog_1_method_11_code
def yX1_instruct : MethodName := ⟨RX1, "instruct", "(II)I"⟩
abbrev cX1_letGo : ByteArray := prog_1_method_12_code
def yX1_letGo : MethodName := ⟨RX1, "letGo", "(I)I"⟩
abbrev cX1_join : ByteArray := prog_1_method_13_code
def yX1_join : MethodName := ⟨RX1, "join", "(II)I"⟩
abbrev cX1_pass : ByteArray := prog_1_method_14_code
def yX1_pass : MethodName := ⟨RX1, "pass", "(I)I"⟩
abbrev cX1_today : ByteArray := prog_1_method_15_code
def yX1_today : MethodName := ⟨RX1, "today", "()I"⟩
abbrev cX1_lots : ByteArray := prog_1_method_16_code
def yX1_lots : MethodName := ⟨RX1, "lots", "()I"⟩
abbrev cX1_principal : ByteArray := prog_1_method_17_code
def yX1_principal : MethodName := ⟨RX1, "principal", "(I)I"⟩
abbrev cX1_earned : ByteArray := prog_1_method_18_code
def yX1_earned : MethodName := ⟨RX1, "earned", "(I)J"⟩
abbrev cX1_partsOfDay : ByteArray := prog_1_method_19_code
def yX1_partsOfDay : MethodName := ⟨RX1, "partsOfDay", "(I)J"⟩
abbrev cX1_frozen : ByteArray := prog_1_method_20_code
def yX1_frozen : MethodName := ⟨RX1, "frozen", "(I)I"⟩
abbrev cX1_endOf : ByteArray := prog_1_method_21_code
def yX1_endOf : MethodName := ⟨RX1, "endOf", "(I)I"⟩
abbrev cX1_total : ByteArray := prog_1_method_22_code
def yX1_total : MethodName := ⟨RX1, "total", "(I)I"⟩
abbrev cX1_partsByTotal : ByteArray := prog_1_method_23_code
def yX1_partsByTotal : MethodName := ⟨RX1, "partsByTotal", "(I)J"⟩
abbrev cX1_paid : ByteArray := prog_1_method_24_code
def yX1_paid : MethodName := ⟨RX1, "paid", "(I)J"⟩
abbrev cX1_lost : ByteArray := prog_1_method_25_code
def yX1_lost : MethodName := ⟨RX1, "lost", "(I)J"⟩
abbrev cX1_demandCustomer : ByteArray := prog_1_method_26_code
def yX1_demandCustomer : MethodName := ⟨RX1, "demandCustomer", "(I)V"⟩
abbrev cX1_demandRange : ByteArray := prog_1_method_27_code
def yX1_demandRange : MethodName := ⟨RX1, "demandRange", "(III)V"⟩
abbrev cX1_demandLot : ByteArray := prog_1_method_28_code
def yX1_demandLot : MethodName := ⟨RX1, "demandLot", "(I)LNoticeBook$Lot;"⟩
abbrev cX1_demandNotice : ByteArray := prog_1_method_29_code
def yX1_demandNotice : MethodName := ⟨RX1, "demandNotice", "(I)LNoticeBook$Lot;"⟩
abbrev cX1_canJoin : ByteArray := prog_1_method_30_code
def yX1_canJoin : MethodName := ⟨RX1, "canJoin", "(LNoticeBook$Lot;LNoticeBook$Lot;)Z"⟩
abbrev cX1_lotAt : ByteArray := prog_1_method_31_code
def yX1_lotAt : MethodName := ⟨RX1, "lotAt", "(I)LNoticeBook$Lot;"⟩
abbrev cX1_noticeLotAt : ByteArray := prog_1_method_32_code
def yX1_noticeLotAt : MethodName := ⟨RX1, "noticeLotAt", "(II)LNoticeBook$Lot;"⟩
abbrev cX1_totalOf : ByteArray := prog_1_method_33_code
def yX1_totalOf : MethodName := ⟨RX1, "totalOf", "(I)I"⟩
abbrev cX1_unfrozenOf : ByteArray := prog_1_method_34_code
def yX1_unfrozenOf : MethodName := ⟨RX1, "unfrozenOf", "(I)I"⟩
abbrev cX1_leastHarmful : ByteArray := prog_1_method_35_code
def yX1_leastHarmful : MethodName := ⟨RX1, "leastHarmful", "(I)LNoticeBook$Lot;"⟩
abbrev cX1_harmsNoMore : ByteArray := prog_1_method_36_code
def yX1_harmsNoMore : MethodName := ⟨RX1, "harmsNoMore", "(LNoticeBook$Lot;LNoticeBook$Lot;)Z"⟩
abbrev cX1_noteParts : ByteArray := prog_1_method_37_code
def yX1_noteParts : MethodName := ⟨RX1, "noteParts", "(I)V"⟩
abbrev cX1_partsOfCents : ByteArray := prog_1_method_38_code
def yX1_partsOfCents : MethodName := ⟨RX1, "partsOfCents", "(III)J"⟩
abbrev cX1_partsByBands : ByteArray := prog_1_method_39_code
def yX1_partsByBands : MethodName := ⟨RX1, "partsByBands", "(I)J"⟩
abbrev cX1_rateByWholeSum : ByteArray := prog_1_method_40_code
def yX1_rateByWholeSum : MethodName := ⟨RX1, "rateByWholeSum", "(I)I"⟩
abbrev cX1_payOut : ByteArray := prog_1_method_41_code
def yX1_payOut : MethodName := ⟨RX1, "payOut", "(LNoticeBook$Lot;I)I"⟩
abbrev cX1_payInterest : ByteArray := prog_1_method_42_code
def yX1_payInterest : MethodName := ⟨RX1, "payInterest", "(LNoticeBook$Lot;)I"⟩
abbrev cX1_notePaid : ByteArray := prog_1_method_43_code
def yX1_notePaid : MethodName := ⟨RX1, "notePaid", "(II)V"⟩
abbrev cX1_lose : ByteArray := prog_1_method_44_code
def yX1_lose : MethodName := ⟨RX1, "lose", "(LNoticeBook$Lot;J)V"⟩
abbrev cX1_lossByEarly : ByteArray := prog_1_method_45_code
def yX1_lossByEarly : MethodName := ⟨RX1, "lossByEarly", "(LNoticeBook$Lot;I)J"⟩
abbrev cX1_enter : ByteArray := prog_1_method_46_code
def yX1_enter : MethodName := ⟨RX1, "enter", "(LNoticeBook$Lot;)I"⟩
abbrev cX1_beginTerm : ByteArray := prog_1_method_47_code
def yX1_beginTerm : MethodName := ⟨RX1, "beginTerm", "(LNoticeBook$Lot;)V"⟩
abbrev cX1_earnOneDay : ByteArray := prog_1_method_48_code
def yX1_earnOneDay : MethodName := ⟨RX1, "earnOneDay", "()V"⟩
abbrev cX1_beginDay : ByteArray := prog_1_method_49_code
def yX1_beginDay : MethodName := ⟨RX1, "beginDay", "()I"⟩
abbrev cX1_endTerm : ByteArray := prog_1_method_50_code
def yX1_endTerm : MethodName := ⟨RX1, "endTerm", "(LNoticeBook$Lot;)V"⟩
def RX2 : String := "NoticeBookModel"
def TX2 : u_T := fun k => match k with
  | 0 => ("NoticeBookModel", "rates", "[I", true)
  | 1 => ("NoticeBookModel", "isByBands", "Z", false)
  | 2 => ("NoticeBookModel", "termRate", "I", false)
  | 3 => ("NoticeBookModel", "lotMany", "I", false)
  | 4 => ("NoticeBookModel", "isThere", "[Z", true)
  | 5 => ("NoticeBookModel", "isTerm", "[Z", true)
  | 6 => ("NoticeBookModel", "owners", "[I", true)
  | 7 => ("NoticeBookModel", "principals", "[I", true)
  | 8 => ("NoticeBookModel", "earnings", "[J", true)
  | 9 => ("NoticeBookModel", "frozenOf", "[I", true)
  | 10 => ("NoticeBookModel", "noticeDays", "[I", true)
  | 11 => ("NoticeBookModel", "termParts", "[J", true)
  | 12 => ("NoticeBookModel", "lengths", "[I", true)
  | 13 => ("NoticeBookModel", "ends", "[I", true)
  | 14 => ("NoticeBookModel", "instructions", "[I", true)
  | 15 => ("NoticeBookModel", "begun", "[I", true)
  | 16 => ("NoticeBookModel", "paidTo", "[J", true)
  | 17 => ("NoticeBookModel", "lostBy", "[J", true)
  | 18 => ("NoticeBookModel", "now", "I", false)
  | 19 => ("NoticeBookModel", "thrown", "I", false)
  | 20 => ("NoticeBookModel", "partsAhead", "[J", true)
  | 21 => ("NoticeBookModel", "principalsAhead", "[I", true)
  | _ => ("NoticeBookModel", "isDone", "[Z", true)
def tyX2 : Nat → FieldType := fun k => match k with
  | 0 => .array .int
  | 1 => .boolean
  | 2 => .int
  | 3 => .int
  | 4 => .array .boolean
  | 5 => .array .boolean
  | 6 => .array .int
  | 7 => .array .int
  | 8 => .array .long
  | 9 => .array .int
  | 10 => .array .int
  | 11 => .array .long
  | 12 => .array .int
  | 13 => .array .int
  | 14 => .array .int
  | 15 => .array .int
  | 16 => .array .long
  | 17 => .array .long
  | 18 => .int
  | 19 => .int
  | 20 => .array .long
  | 21 => .array .int
  | _ => .array .boolean
abbrev wsX20 : List Cond := u_ws RX2 TX2 23
theorem nmX2 : ∀ a, a < 23 → ∀ b, b < 23 → a ≠ b → (TX2 a).2.1 ≠ (TX2 b).2.1 := by decide +kernel
theorem tyX2_ok : ∀ k, k < 23 → parseFieldDescriptor (TX2 k).2.2.1 = some (tyX2 k) := by decide +kernel
abbrev cX2_init : ByteArray := prog_4_method_1_code
def yX2_init : MethodName := ⟨RX2, "<init>", "()V"⟩
abbrev cX2_thrown : ByteArray := prog_4_method_2_code
def yX2_thrown : MethodName := ⟨RX2, "thrown", "()I"⟩
abbrev cX2_in : ByteArray := prog_4_method_3_code
def yX2_in : MethodName := ⟨RX2, "in", "(III)Z"⟩
abbrev cX2_isCustomer : ByteArray := prog_4_method_4_code
def yX2_isCustomer : MethodName := ⟨RX2, "isCustomer", "(I)Z"⟩
abbrev cX2_isLot : ByteArray := prog_4_method_5_code
def yX2_isLot : MethodName := ⟨RX2, "isLot", "(I)Z"⟩
abbrev cX2_setRate : ByteArray := prog_4_method_6_code
def yX2_setRate : MethodName := ⟨RX2, "setRate", "(II)I"⟩
abbrev cX2_setByBands : ByteArray := prog_4_method_7_code
def yX2_setByBands : MethodName := ⟨RX2, "setByBands", "(Z)Z"⟩
abbrev cX2_setTermRate : ByteArray := prog_4_method_8_code
def yX2_setTermRate : MethodName := ⟨RX2, "setTermRate", "(I)I"⟩
abbrev cX2_isNotice : ByteArray := prog_4_method_9_code
def yX2_isNotice : MethodName := ⟨RX2, "isNotice", "(II)Z"⟩
abbrev cX2_sumBelow : ByteArray := prog_4_method_10_code
def yX2_sumBelow : MethodName := ⟨RX2, "sumBelow", "(II)I"⟩
abbrev cX2_partsOf : ByteArray := prog_4_method_11_code
def yX2_partsOf : MethodName := ⟨RX2, "partsOf", "(I)J"⟩
abbrev cX2_rateFor : ByteArray := prog_4_method_12_code
def yX2_rateFor : MethodName := ⟨RX2, "rateFor", "(I)I"⟩
abbrev cX2_partsNow : ByteArray := prog_4_method_13_code
def yX2_partsNow : MethodName := ⟨RX2, "partsNow", "(I)J"⟩
abbrev cX2_takeInterest : ByteArray := prog_4_method_14_code
def yX2_takeInterest : MethodName := ⟨RX2, "takeInterest", "(I)I"⟩
abbrev cX2_end : ByteArray := prog_4_method_15_code
def yX2_end : MethodName := ⟨RX2, "end", "(I)I"⟩
abbrev cX2_pay : ByteArray := prog_4_method_16_code
def yX2_pay : MethodName := ⟨RX2, "pay", "(II)I"⟩
abbrev cX2_open : ByteArray := prog_4_method_17_code
def yX2_open : MethodName := ⟨RX2, "open", "(II)I"⟩
abbrev cX2_deposit : ByteArray := prog_4_method_18_code
def yX2_deposit : MethodName := ⟨RX2, "deposit", "(II)I"⟩
abbrev cX2_beginTerm : ByteArray := prog_4_method_19_code
def yX2_beginTerm : MethodName := ⟨RX2, "beginTerm", "(I)V"⟩
abbrev cX2_depositTerm : ByteArray := prog_4_method_20_code
def yX2_depositTerm : MethodName := ⟨RX2, "depositTerm", "(IIII)I"⟩
abbrev cX2_give : ByteArray := prog_4_method_21_code
def yX2_give : MethodName := ⟨RX2, "give", "(II)I"⟩
abbrev cX2_withdraw : ByteArray := prog_4_method_22_code
def yX2_withdraw : MethodName := ⟨RX2, "withdraw", "(I)I"⟩
abbrev cX2_take : ByteArray := prog_4_method_23_code
def yX2_take : MethodName := ⟨RX2, "take", "(I)I"⟩
abbrev cX2_nextFor : ByteArray := prog_4_method_24_code
def yX2_nextFor : MethodName := ⟨RX2, "nextFor", "(I)I"⟩
abbrev cX2_early : ByteArray := prog_4_method_25_code
def yX2_early : MethodName := ⟨RX2, "early", "(II)I"⟩
abbrev cX2_instruct : ByteArray := prog_4_method_26_code
def yX2_instruct : MethodName := ⟨RX2, "instruct", "(II)I"⟩
abbrev cX2_letGo : ByteArray := prog_4_method_27_code
def yX2_letGo : MethodName := ⟨RX2, "letGo", "(I)I"⟩
abbrev cX2_join : ByteArray := prog_4_method_28_code
def yX2_join : MethodName := ⟨RX2, "join", "(II)I"⟩
abbrev cX2_endTerm : ByteArray := prog_4_method_29_code
def yX2_endTerm : MethodName := ⟨RX2, "endTerm", "(I)V"⟩
abbrev cX2_pass : ByteArray := prog_4_method_30_code
def yX2_pass : MethodName := ⟨RX2, "pass", "(I)I"⟩
abbrev cX2_today : ByteArray := prog_4_method_31_code
def yX2_today : MethodName := ⟨RX2, "today", "()I"⟩
abbrev cX2_lots : ByteArray := prog_4_method_32_code
def yX2_lots : MethodName := ⟨RX2, "lots", "()I"⟩
abbrev cX2_asksFor : ByteArray := prog_4_method_33_code
def yX2_asksFor : MethodName := ⟨RX2, "asksFor", "(I)Z"⟩
abbrev cX2_principal : ByteArray := prog_4_method_34_code
def yX2_principal : MethodName := ⟨RX2, "principal", "(I)I"⟩
abbrev cX2_earned : ByteArray := prog_4_method_35_code
def yX2_earned : MethodName := ⟨RX2, "earned", "(I)J"⟩
abbrev cX2_partsOfDay : ByteArray := prog_4_method_36_code
def yX2_partsOfDay : MethodName := ⟨RX2, "partsOfDay", "(I)J"⟩
abbrev cX2_frozen : ByteArray := prog_4_method_37_code
def yX2_frozen : MethodName := ⟨RX2, "frozen", "(I)I"⟩
abbrev cX2_endOf : ByteArray := prog_4_method_38_code
def yX2_endOf : MethodName := ⟨RX2, "endOf", "(I)I"⟩
abbrev cX2_total : ByteArray := prog_4_method_39_code
def yX2_total : MethodName := ⟨RX2, "total", "(I)I"⟩
abbrev cX2_partsByTotal : ByteArray := prog_4_method_40_code
def yX2_partsByTotal : MethodName := ⟨RX2, "partsByTotal", "(I)J"⟩
abbrev cX2_paid : ByteArray := prog_4_method_41_code
def yX2_paid : MethodName := ⟨RX2, "paid", "(I)J"⟩
abbrev cX2_lost : ByteArray := prog_4_method_42_code
def yX2_lost : MethodName := ⟨RX2, "lost", "(I)J"⟩
def RJ9 : String := "java/lang/Math"
def TJ9 : u_T := fun k => match k with
  | _ => ("", "", "", false)
def tyJ9 : Nat → FieldType := fun k => match k with
  | _ => .int
abbrev wsJ90 : List Cond := u_ws RJ9 TJ9 0
theorem nmJ9 : ∀ a, a < 0 → ∀ b, b < 0 → a ≠ b → (TJ9 a).2.1 ≠ (TJ9 b).2.1 := by decide +kernel
theorem tyJ9_ok : ∀ k, k < 0 → parseFieldDescriptor (TJ9 k).2.2.1 = some (tyJ9 k) := by decide +kernel
abbrev cJ9_min_7cf53 : ByteArray := prog_9_method_69_code
def yJ9_min_7cf53 : MethodName := ⟨RJ9, "min", "(II)I"⟩
abbrev cJ9_min_f86c9 : ByteArray := prog_9_method_70_code
def yJ9_min_f86c9 : MethodName := ⟨RJ9, "min", "(JJ)J"⟩
def RJ0 : String := "java/lang/String"
def TJ0 : u_T := fun k => match k with
  | _ => ("", "", "", false)
def tyJ0 : Nat → FieldType := fun k => match k with
  | _ => .int
abbrev wsJ00 : List Cond := u_ws RJ0 TJ0 0
theorem nmJ0 : ∀ a, a < 0 → ∀ b, b < 0 → a ≠ b → (TJ0 a).2.1 ≠ (TJ0 b).2.1 := by decide +kernel
theorem tyJ0_ok : ∀ k, k < 0 → parseFieldDescriptor (TJ0 k).2.2.1 = some (tyJ0 k) := by decide +kernel
def RL : String := "NoticeBookLaw"
abbrev cL_setRate : ByteArray := method_3_code
def yL_setRate : MethodName := ⟨RL, "setRate", "(LNoticeBook;II[J)I"⟩
abbrev cL_setTermRate : ByteArray := method_4_code
def yL_setTermRate : MethodName := ⟨RL, "setTermRate", "(LNoticeBook;I[J)I"⟩
abbrev cL_deposit : ByteArray := method_5_code
def yL_deposit : MethodName := ⟨RL, "deposit", "(LNoticeBook;II[J)I"⟩
abbrev cL_depositTerm : ByteArray := method_6_code
def yL_depositTerm : MethodName := ⟨RL, "depositTerm", "(LNoticeBook;IIII[J)I"⟩
abbrev cL_give : ByteArray := method_7_code
def yL_give : MethodName := ⟨RL, "give", "(LNoticeBook;II[J)I"⟩
abbrev cL_withdraw : ByteArray := method_8_code
def yL_withdraw : MethodName := ⟨RL, "withdraw", "(LNoticeBook;I[J)I"⟩
abbrev cL_take : ByteArray := method_9_code
def yL_take : MethodName := ⟨RL, "take", "(LNoticeBook;I[J)I"⟩
abbrev cL_early : ByteArray := method_10_code
def yL_early : MethodName := ⟨RL, "early", "(LNoticeBook;II[J)I"⟩
abbrev cL_instruct : ByteArray := method_11_code
def yL_instruct : MethodName := ⟨RL, "instruct", "(LNoticeBook;II[J)I"⟩
abbrev cL_letGo : ByteArray := method_12_code
def yL_letGo : MethodName := ⟨RL, "letGo", "(LNoticeBook;I[J)I"⟩
abbrev cL_join : ByteArray := method_13_code
def yL_join : MethodName := ⟨RL, "join", "(LNoticeBook;II[J)I"⟩
abbrev cL_pass : ByteArray := method_14_code
def yL_pass : MethodName := ⟨RL, "pass", "(LNoticeBook;I[J)I"⟩
abbrev cL_principal : ByteArray := method_15_code
def yL_principal : MethodName := ⟨RL, "principal", "(LNoticeBook;I[J)I"⟩
abbrev cL_earned : ByteArray := method_16_code
def yL_earned : MethodName := ⟨RL, "earned", "(LNoticeBook;I[J)I"⟩
abbrev cL_partsOfDay : ByteArray := method_17_code
def yL_partsOfDay : MethodName := ⟨RL, "partsOfDay", "(LNoticeBook;I[J)I"⟩
abbrev cL_frozen : ByteArray := method_18_code
def yL_frozen : MethodName := ⟨RL, "frozen", "(LNoticeBook;I[J)I"⟩
abbrev cL_endOf : ByteArray := method_19_code
def yL_endOf : MethodName := ⟨RL, "endOf", "(LNoticeBook;I[J)I"⟩
abbrev cL_total : ByteArray := method_20_code
def yL_total : MethodName := ⟨RL, "total", "(LNoticeBook;I[J)I"⟩
abbrev cL_partsByTotal : ByteArray := method_21_code
def yL_partsByTotal : MethodName := ⟨RL, "partsByTotal", "(LNoticeBook;I[J)I"⟩
abbrev cL_paid : ByteArray := method_22_code
def yL_paid : MethodName := ⟨RL, "paid", "(LNoticeBook;I[J)I"⟩
abbrev cL_lost : ByteArray := method_23_code
def yL_lost : MethodName := ⟨RL, "lost", "(LNoticeBook;I[J)I"⟩
abbrev cL_law : ByteArray := code
def yL_law : MethodName := ⟨RL, "law", "([I)Z"⟩
abbrev vwCl : List vw_C := [(RX0, TX0, 10), (RX1, TX1, 8), (RX2, TX2, 23)]
end
section
theorem dX0_init_0 : decode cX0_init 0 = .ok (.aload_n 0, 1) := by decide +kernel
theorem dX0_init_1 : decode cX0_init 1 = .ok (.invokespecial 3, 3) := by decide +kernel
theorem dX0_init_4 : decode cX0_init 4 = .ok (.aload_n 0, 1) := by decide +kernel
theorem dX0_init_5 : decode cX0_init 5 = .ok (.lconst 0, 1) := by decide +kernel
theorem dX0_init_6 : decode cX0_init 6 = .ok (.putfield 9, 3) := by decide +kernel
theorem dX0_init_9 : decode cX0_init 9 = .ok (.aload_n 0, 1) := by decide +kernel
theorem dX0_init_10 : decode cX0_init 10 = .ok (.lconst 0, 1) := by decide +kernel
theorem dX0_init_11 : decode cX0_init 11 = .ok (.putfield 15, 3) := by decide +kernel
theorem dX0_init_14 : decode cX0_init 14 = .ok (.aload_n 0, 1) := by decide +kernel
theorem dX0_init_15 : decode cX0_init 15 = .ok (.iconst 0, 1) := by decide +kernel
theorem dX0_init_16 : decode cX0_init 16 = .ok (.putfield 18, 3) := by decide +kernel
theorem dX0_init_19 : decode cX0_init 19 = .ok (.aload_n 0, 1) := by decide +kernel
theorem dX0_init_20 : decode cX0_init 20 = .ok (.iconst 0, 1) := by decide +kernel
theorem dX0_init_21 : decode cX0_init 21 = .ok (.putfield 22, 3) := by decide +kernel
theorem dX0_init_24 : decode cX0_init 24 = .ok (.aload_n 0, 1) := by decide +kernel
theorem dX0_init_25 : decode cX0_init 25 = .ok (.iconst (-1), 1) := by decide +kernel
theorem dX0_init_26 : decode cX0_init 26 = .ok (.putfield 25, 3) := by decide +kernel
theorem dX0_init_29 : decode cX0_init 29 = .ok (.aload_n 0, 1) := by decide +kernel
theorem dX0_init_30 : decode cX0_init 30 = .ok (.iconst 0, 1) := by decide +kernel
theorem dX0_init_31 : decode cX0_init 31 = .ok (.putfield 28, 3) := by decide +kernel
theorem dX0_init_34 : decode cX0_init 34 = .ok (.aload_n 0, 1) := by decide +kernel
theorem dX0_init_35 : decode cX0_init 35 = .ok (.iconst (-1), 1) := by decide +kernel
theorem dX0_init_36 : decode cX0_init 36 = .ok (.putfield 31, 3) := by decide +kernel
theorem dX0_init_39 : decode cX0_init 39 = .ok (.aload_n 0, 1) := by decide +kernel
theorem dX0_init_40 : decode cX0_init 40 = .ok (.iload_n 1, 1) := by decide +kernel
theorem dX0_init_41 : decode cX0_init 41 = .ok (.putfield 34, 3) := by decide +kernel
theorem dX0_init_44 : decode cX0_init 44 = .ok (.aload_n 0, 1) := by decide +kernel
theorem dX0_init_45 : decode cX0_init 45 = .ok (.iload_n 2, 1) := by decide +kernel
theorem dX0_init_46 : decode cX0_init 46 = .ok (.putfield 37, 3) := by decide +kernel
theorem dX0_init_49 : decode cX0_init 49 = .ok (.aload_n 0, 1) := by decide +kernel
theorem dX0_init_50 : decode cX0_init 50 = .ok (.iload_n 3, 1) := by decide +kernel
theorem dX0_init_51 : decode cX0_init 51 = .ok (.putfield 40, 3) := by decide +kernel
theorem dX0_init_54 : decode cX0_init 54 = .ok (.return_, 1) := by decide +kernel
theorem dX0_isByTerm_0 : decode cX0_isByTerm 0 = .ok (.aload_n 0, 1) := by decide +kernel
theorem dX0_isByTerm_1 : decode cX0_isByTerm 1 = .ok (.getfield 40, 3) := by decide +kernel
theorem dX0_isByTerm_4 : decode cX0_isByTerm 4 = .ok (.ifCond .le 7, 3) := by decide +kernel
theorem dX0_isByTerm_7 : decode cX0_isByTerm 7 = .ok (.iconst 1, 1) := by decide +kernel
theorem dX0_isByTerm_8 : decode cX0_isByTerm 8 = .ok (.goto 4, 3) := by decide +kernel
theorem dX0_isByTerm_11 : decode cX0_isByTerm 11 = .ok (.iconst 0, 1) := by decide +kernel
theorem dX0_isByTerm_12 : decode cX0_isByTerm 12 = .ok (.ireturn, 1) := by decide +kernel
theorem dX0_unfrozen_0 : decode cX0_unfrozen 0 = .ok (.aload_n 0, 1) := by decide +kernel
theorem dX0_unfrozen_1 : decode cX0_unfrozen 1 = .ok (.getfield 37, 3) := by decide +kernel
theorem dX0_unfrozen_4 : decode cX0_unfrozen 4 = .ok (.aload_n 0, 1) := by decide +kernel
theorem dX0_unfrozen_5 : decode cX0_unfrozen 5 = .ok (.getfield 18, 3) := by decide +kernel
theorem dX0_unfrozen_8 : decode cX0_unfrozen 8 = .ok (.isub, 1) := by decide +kernel
theorem dX0_unfrozen_9 : decode cX0_unfrozen 9 = .ok (.ireturn, 1) := by decide +kernel
theorem dX0_drawWholeCents_0 : decode cX0_drawWholeCents 0 = .ok (.aload_n 0, 1) := by decide +kernel
theorem dX0_drawWholeCents_1 : decode cX0_drawWholeCents 1 = .ok (.getfield 9, 3) := by decide +kernel
theorem dX0_drawWholeCents_4 : decode cX0_drawWholeCents 4 = .ok (.ldc2_w 43, 3) := by decide +kernel
theorem dX0_drawWholeCents_7 : decode cX0_drawWholeCents 7 = .ok (.ldiv, 1) := by decide +kernel
theorem dX0_drawWholeCents_8 : decode cX0_drawWholeCents 8 = .ok (.l2i, 1) := by decide +kernel
theorem dX0_drawWholeCents_9 : decode cX0_drawWholeCents 9 = .ok (.istore_n 1, 1) := by decide +kernel
theorem dX0_drawWholeCents_10 : decode cX0_drawWholeCents 10 = .ok (.aload_n 0, 1) := by decide +kernel
theorem dX0_drawWholeCents_11 : decode cX0_drawWholeCents 11 = .ok (.aload_n 0, 1) := by decide +kernel
theorem dX0_drawWholeCents_12 : decode cX0_drawWholeCents 12 = .ok (.getfield 9, 3) := by decide +kernel
theorem dX0_drawWholeCents_15 : decode cX0_drawWholeCents 15 = .ok (.ldc2_w 43, 3) := by decide +kernel
theorem dX0_drawWholeCents_18 : decode cX0_drawWholeCents 18 = .ok (.lrem, 1) := by decide +kernel
theorem dX0_drawWholeCents_19 : decode cX0_drawWholeCents 19 = .ok (.putfield 9, 3) := by decide +kernel
theorem dX0_drawWholeCents_22 : decode cX0_drawWholeCents 22 = .ok (.iload_n 1, 1) := by decide +kernel
theorem dX0_drawWholeCents_23 : decode cX0_drawWholeCents 23 = .ok (.ireturn, 1) := by decide +kernel
theorem dJ9_min_7cf53_0 : decode cJ9_min_7cf53 0 = .ok (.iload_n 0, 1) := by decide +kernel
theorem dJ9_min_7cf53_1 : decode cJ9_min_7cf53 1 = .ok (.iload_n 1, 1) := by decide +kernel
theorem dJ9_min_7cf53_2 : decode cJ9_min_7cf53 2 = .ok (.if_icmp .gt 7, 3) := by decide +kernel
theorem dJ9_min_7cf53_5 : decode cJ9_min_7cf53 5 = .ok (.iload_n 0, 1) := by decide +kernel
theorem dJ9_min_7cf53_6 : decode cJ9_min_7cf53 6 = .ok (.goto 4, 3) := by decide +kernel
theorem dJ9_min_7cf53_9 : decode cJ9_min_7cf53 9 = .ok (.iload_n 1, 1) := by decide +kernel
theorem dJ9_min_7cf53_10 : decode cJ9_min_7cf53 10 = .ok (.ireturn, 1) := by decide +kernel
theorem dJ9_min_f86c9_0 : decode cJ9_min_f86c9 0 = .ok (.lload_n 0, 1) := by decide +kernel
theorem dJ9_min_f86c9_1 : decode cJ9_min_f86c9 1 = .ok (.lload_n 2, 1) := by decide +kernel
theorem dJ9_min_f86c9_2 : decode cJ9_min_f86c9 2 = .ok (.lcmp, 1) := by decide +kernel
theorem dJ9_min_f86c9_3 : decode cJ9_min_f86c9 3 = .ok (.ifCond .gt 7, 3) := by decide +kernel
theorem dJ9_min_f86c9_6 : decode cJ9_min_f86c9 6 = .ok (.lload_n 0, 1) := by decide +kernel
theorem dJ9_min_f86c9_7 : decode cJ9_min_f86c9 7 = .ok (.goto 4, 3) := by decide +kernel
theorem dJ9_min_f86c9_10 : decode cJ9_min_f86c9 10 = .ok (.lload_n 2, 1) := by decide +kernel
theorem dJ9_min_f86c9_11 : decode cJ9_min_f86c9 11 = .ok (.lreturn, 1) := by decide +kernel
theorem dX1_init_0 : decode cX1_init 0 = .ok (.aload_n 0, 1) := by decide +kernel
theorem dX1_init_1 : decode cX1_init 1 = .ok (.invokespecial 1, 3) := by decide +kernel
theorem dX1_init_4 : decode cX1_init 4 = .ok (.aload_n 0, 1) := by decide +kernel
theorem dX1_init_5 : decode cX1_init 5 = .ok (.iconst 3, 1) := by decide +kernel
theorem dX1_init_6 : decode cX1_init 6 = .ok (.newarray .int, 2) := by decide +kernel
theorem dX1_init_8 : decode cX1_init 8 = .ok (.dup, 1) := by decide +kernel
theorem dX1_init_9 : decode cX1_init 9 = .ok (.iconst 0, 1) := by decide +kernel
theorem dX1_init_10 : decode cX1_init 10 = .ok (.bipush 100, 2) := by decide +kernel
theorem dX1_init_12 : decode cX1_init 12 = .ok (.iastore, 1) := by decide +kernel
theorem dX1_init_13 : decode cX1_init 13 = .ok (.dup, 1) := by decide +kernel
theorem dX1_init_14 : decode cX1_init 14 = .ok (.iconst 1, 1) := by decide +kernel
theorem dX1_init_15 : decode cX1_init 15 = .ok (.sipush 200, 3) := by decide +kernel
theorem dX1_init_18 : decode cX1_init 18 = .ok (.iastore, 1) := by decide +kernel
theorem dX1_init_19 : decode cX1_init 19 = .ok (.dup, 1) := by decide +kernel
theorem dX1_init_20 : decode cX1_init 20 = .ok (.iconst 2, 1) := by decide +kernel
theorem dX1_init_21 : decode cX1_init 21 = .ok (.sipush 300, 3) := by decide +kernel
theorem dX1_init_24 : decode cX1_init 24 = .ok (.iastore, 1) := by decide +kernel
theorem dX1_init_25 : decode cX1_init 25 = .ok (.putfield 7, 3) := by decide +kernel
theorem dX1_init_28 : decode cX1_init 28 = .ok (.aload_n 0, 1) := by decide +kernel
theorem dX1_init_29 : decode cX1_init 29 = .ok (.iconst 4, 1) := by decide +kernel
theorem dX1_init_30 : decode cX1_init 30 = .ok (.newarray .long, 2) := by decide +kernel
theorem dX1_init_32 : decode cX1_init 32 = .ok (.putfield 13, 3) := by decide +kernel
theorem dX1_init_35 : decode cX1_init 35 = .ok (.aload_n 0, 1) := by decide +kernel
theorem dX1_init_36 : decode cX1_init 36 = .ok (.iconst 4, 1) := by decide +kernel
theorem dX1_init_37 : decode cX1_init 37 = .ok (.newarray .long, 2) := by decide +kernel
theorem dX1_init_39 : decode cX1_init 39 = .ok (.putfield 17, 3) := by decide +kernel
theorem dX1_init_42 : decode cX1_init 42 = .ok (.aload_n 0, 1) := by decide +kernel
theorem dX1_init_43 : decode cX1_init 43 = .ok (.bipush 40, 2) := by decide +kernel
theorem dX1_init_45 : decode cX1_init 45 = .ok (.anewarray 20, 3) := by decide +kernel
theorem dX1_init_48 : decode cX1_init 48 = .ok (.putfield 22, 3) := by decide +kernel
theorem dX1_init_51 : decode cX1_init 51 = .ok (.aload_n 0, 1) := by decide +kernel
theorem dX1_init_52 : decode cX1_init 52 = .ok (.iconst 0, 1) := by decide +kernel
theorem dX1_init_53 : decode cX1_init 53 = .ok (.putfield 26, 3) := by decide +kernel
theorem dX1_init_56 : decode cX1_init 56 = .ok (.aload_n 0, 1) := by decide +kernel
theorem dX1_init_57 : decode cX1_init 57 = .ok (.sipush 250, 3) := by decide +kernel
theorem dX1_init_60 : decode cX1_init 60 = .ok (.putfield 30, 3) := by decide +kernel
theorem dX1_init_63 : decode cX1_init 63 = .ok (.aload_n 0, 1) := by decide +kernel
theorem dX1_init_64 : decode cX1_init 64 = .ok (.iconst 0, 1) := by decide +kernel
theorem dX1_init_65 : decode cX1_init 65 = .ok (.putfield 34, 3) := by decide +kernel
theorem dX1_init_68 : decode cX1_init 68 = .ok (.aload_n 0, 1) := by decide +kernel
theorem dX1_init_69 : decode cX1_init 69 = .ok (.iconst 0, 1) := by decide +kernel
theorem dX1_init_70 : decode cX1_init 70 = .ok (.putfield 37, 3) := by decide +kernel
theorem dX1_init_73 : decode cX1_init 73 = .ok (.return_, 1) := by decide +kernel
theorem dX1_setRate_0 : decode cX1_setRate 0 = .ok (.iload_n 1, 1) := by decide +kernel
theorem dX1_setRate_1 : decode cX1_setRate 1 = .ok (.ifCond .lt 12, 3) := by decide +kernel
theorem dX1_setRate_4 : decode cX1_setRate 4 = .ok (.iload_n 1, 1) := by decide +kernel
theorem dX1_setRate_5 : decode cX1_setRate 5 = .ok (.aload_n 0, 1) := by decide +kernel
theorem dX1_setRate_6 : decode cX1_setRate 6 = .ok (.getfield 7, 3) := by decide +kernel
theorem dX1_setRate_9 : decode cX1_setRate 9 = .ok (.arraylength, 1) := by decide +kernel
theorem dX1_setRate_10 : decode cX1_setRate 10 = .ok (.if_icmp .lt 13, 3) := by decide +kernel
theorem dX1_setRate_13 : decode cX1_setRate 13 = .ok (.new 40, 3) := by decide +kernel
theorem dX1_setRate_16 : decode cX1_setRate 16 = .ok (.dup, 1) := by decide +kernel
theorem dX1_setRate_17 : decode cX1_setRate 17 = .ok (.ldc 42, 2) := by decide +kernel
theorem dX1_setRate_19 : decode cX1_setRate 19 = .ok (.invokespecial 44, 3) := by decide +kernel
theorem dX1_setRate_22 : decode cX1_setRate 22 = .ok (.athrow, 1) := by decide +kernel
theorem dX1_setRate_23 : decode cX1_setRate 23 = .ok (.iload_n 2, 1) := by decide +kernel
theorem dX1_setRate_24 : decode cX1_setRate 24 = .ok (.iconst 0, 1) := by decide +kernel
theorem dX1_setRate_25 : decode cX1_setRate 25 = .ok (.sipush 2000, 3) := by decide +kernel
theorem dX1_setRate_28 : decode cX1_setRate 28 = .ok (.invokestatic 47, 3) := by decide +kernel
theorem dX1_setRate_31 : decode cX1_setRate 31 = .ok (.aload_n 0, 1) := by decide +kernel
theorem dX1_setRate_32 : decode cX1_setRate 32 = .ok (.getfield 7, 3) := by decide +kernel
theorem dX1_setRate_35 : decode cX1_setRate 35 = .ok (.iload_n 1, 1) := by decide +kernel
theorem dX1_setRate_36 : decode cX1_setRate 36 = .ok (.iaload, 1) := by decide +kernel
theorem dX1_setRate_37 : decode cX1_setRate 37 = .ok (.istore_n 3, 1) := by decide +kernel
theorem dX1_setRate_38 : decode cX1_setRate 38 = .ok (.aload_n 0, 1) := by decide +kernel
theorem dX1_setRate_39 : decode cX1_setRate 39 = .ok (.getfield 7, 3) := by decide +kernel
theorem dX1_setRate_42 : decode cX1_setRate 42 = .ok (.iload_n 1, 1) := by decide +kernel
theorem dX1_setRate_43 : decode cX1_setRate 43 = .ok (.iload_n 2, 1) := by decide +kernel
theorem dX1_setRate_44 : decode cX1_setRate 44 = .ok (.iastore, 1) := by decide +kernel
theorem dX1_setRate_45 : decode cX1_setRate 45 = .ok (.iload_n 3, 1) := by decide +kernel
theorem dX1_setRate_46 : decode cX1_setRate 46 = .ok (.ireturn, 1) := by decide +kernel
theorem dX1_setByBands_0 : decode cX1_setByBands 0 = .ok (.aload_n 0, 1) := by decide +kernel
theorem dX1_setByBands_1 : decode cX1_setByBands 1 = .ok (.getfield 26, 3) := by decide +kernel
theorem dX1_setByBands_4 : decode cX1_setByBands 4 = .ok (.istore_n 2, 1) := by decide +kernel
theorem dX1_setByBands_5 : decode cX1_setByBands 5 = .ok (.aload_n 0, 1) := by decide +kernel
theorem dX1_setByBands_6 : decode cX1_setByBands 6 = .ok (.iload_n 1, 1) := by decide +kernel
theorem dX1_setByBands_7 : decode cX1_setByBands 7 = .ok (.putfield 26, 3) := by decide +kernel
theorem dX1_setByBands_10 : decode cX1_setByBands 10 = .ok (.iload_n 2, 1) := by decide +kernel
theorem dX1_setByBands_11 : decode cX1_setByBands 11 = .ok (.ireturn, 1) := by decide +kernel
theorem dX1_setTermRate_0 : decode cX1_setTermRate 0 = .ok (.iload_n 1, 1) := by decide +kernel
theorem dX1_setTermRate_1 : decode cX1_setTermRate 1 = .ok (.iconst 0, 1) := by decide +kernel
theorem dX1_setTermRate_2 : decode cX1_setTermRate 2 = .ok (.sipush 2000, 3) := by decide +kernel
theorem dX1_setTermRate_5 : decode cX1_setTermRate 5 = .ok (.invokestatic 47, 3) := by decide +kernel
theorem dX1_setTermRate_8 : decode cX1_setTermRate 8 = .ok (.aload_n 0, 1) := by decide +kernel
theorem dX1_setTermRate_9 : decode cX1_setTermRate 9 = .ok (.getfield 30, 3) := by decide +kernel
theorem dX1_setTermRate_12 : decode cX1_setTermRate 12 = .ok (.istore_n 2, 1) := by decide +kernel
theorem dX1_setTermRate_13 : decode cX1_setTermRate 13 = .ok (.aload_n 0, 1) := by decide +kernel
theorem dX1_setTermRate_14 : decode cX1_setTermRate 14 = .ok (.iload_n 1, 1) := by decide +kernel
theorem dX1_setTermRate_15 : decode cX1_setTermRate 15 = .ok (.putfield 30, 3) := by decide +kernel
theorem dX1_setTermRate_18 : decode cX1_setTermRate 18 = .ok (.iload_n 2, 1) := by decide +kernel
theorem dX1_setTermRate_19 : decode cX1_setTermRate 19 = .ok (.ireturn, 1) := by decide +kernel
theorem dX1_deposit_0 : decode cX1_deposit 0 = .ok (.iload_n 1, 1) := by decide +kernel
theorem dX1_deposit_1 : decode cX1_deposit 1 = .ok (.invokestatic 51, 3) := by decide +kernel
theorem dX1_deposit_4 : decode cX1_deposit 4 = .ok (.iload_n 2, 1) := by decide +kernel
theorem dX1_deposit_5 : decode cX1_deposit 5 = .ok (.iconst 1, 1) := by decide +kernel
theorem dX1_deposit_6 : decode cX1_deposit 6 = .ok (.ldc 55, 2) := by decide +kernel
theorem dX1_deposit_8 : decode cX1_deposit 8 = .ok (.invokestatic 47, 3) := by decide +kernel
theorem dX1_deposit_11 : decode cX1_deposit 11 = .ok (.aload_n 0, 1) := by decide +kernel
theorem dX1_deposit_12 : decode cX1_deposit 12 = .ok (.new 20, 3) := by decide +kernel
theorem dX1_deposit_15 : decode cX1_deposit 15 = .ok (.dup, 1) := by decide +kernel
theorem dX1_deposit_16 : decode cX1_deposit 16 = .ok (.iload_n 1, 1) := by decide +kernel
theorem dX1_deposit_17 : decode cX1_deposit 17 = .ok (.iload_n 2, 1) := by decide +kernel
theorem dX1_deposit_18 : decode cX1_deposit 18 = .ok (.iconst 0, 1) := by decide +kernel
theorem dX1_deposit_19 : decode cX1_deposit 19 = .ok (.invokespecial 56, 3) := by decide +kernel
theorem dX1_deposit_22 : decode cX1_deposit 22 = .ok (.invokevirtual 58, 3) := by decide +kernel
theorem dX1_deposit_25 : decode cX1_deposit 25 = .ok (.ireturn, 1) := by decide +kernel
theorem dX1_depositTerm_0 : decode cX1_depositTerm 0 = .ok (.iload_n 1, 1) := by decide +kernel
theorem dX1_depositTerm_1 : decode cX1_depositTerm 1 = .ok (.invokestatic 51, 3) := by decide +kernel
theorem dX1_depositTerm_4 : decode cX1_depositTerm 4 = .ok (.iload_n 2, 1) := by decide +kernel
theorem dX1_depositTerm_5 : decode cX1_depositTerm 5 = .ok (.iconst 1, 1) := by decide +kernel
theorem dX1_depositTerm_6 : decode cX1_depositTerm 6 = .ok (.ldc 55, 2) := by decide +kernel
theorem dX1_depositTerm_8 : decode cX1_depositTerm 8 = .ok (.invokestatic 47, 3) := by decide +kernel
theorem dX1_depositTerm_11 : decode cX1_depositTerm 11 = .ok (.iload_n 3, 1) := by decide +kernel
theorem dX1_depositTerm_12 : decode cX1_depositTerm 12 = .ok (.iconst 1, 1) := by decide +kernel
theorem dX1_depositTerm_13 : decode cX1_depositTerm 13 = .ok (.sipush 400, 3) := by decide +kernel
theorem dX1_depositTerm_16 : decode cX1_depositTerm 16 = .ok (.invokestatic 47, 3) := by decide +kernel
theorem dX1_depositTerm_19 : decode cX1_depositTerm 19 = .ok (.iload 4, 2) := by decide +kernel
theorem dX1_depositTerm_21 : decode cX1_depositTerm 21 = .ok (.iconst 0, 1) := by decide +kernel
theorem dX1_depositTerm_22 : decode cX1_depositTerm 22 = .ok (.iconst 2, 1) := by decide +kernel
theorem dX1_depositTerm_23 : decode cX1_depositTerm 23 = .ok (.invokestatic 47, 3) := by decide +kernel
theorem dX1_depositTerm_26 : decode cX1_depositTerm 26 = .ok (.new 20, 3) := by decide +kernel
theorem dX1_depositTerm_29 : decode cX1_depositTerm 29 = .ok (.dup, 1) := by decide +kernel
theorem dX1_depositTerm_30 : decode cX1_depositTerm 30 = .ok (.iload_n 1, 1) := by decide +kernel
theorem dX1_depositTerm_31 : decode cX1_depositTerm 31 = .ok (.iload_n 2, 1) := by decide +kernel
theorem dX1_depositTerm_32 : decode cX1_depositTerm 32 = .ok (.iload_n 3, 1) := by decide +kernel
theorem dX1_depositTerm_33 : decode cX1_depositTerm 33 = .ok (.invokespecial 56, 3) := by decide +kernel
theorem dX1_depositTerm_36 : decode cX1_depositTerm 36 = .ok (.astore 5, 2) := by decide +kernel
theorem dX1_depositTerm_38 : decode cX1_depositTerm 38 = .ok (.aload 5, 2) := by decide +kernel
theorem dX1_depositTerm_40 : decode cX1_depositTerm 40 = .ok (.iload 4, 2) := by decide +kernel
theorem dX1_depositTerm_42 : decode cX1_depositTerm 42 = .ok (.putfield 62, 3) := by decide +kernel
theorem dX1_depositTerm_45 : decode cX1_depositTerm 45 = .ok (.aload_n 0, 1) := by decide +kernel
theorem dX1_depositTerm_46 : decode cX1_depositTerm 46 = .ok (.aload 5, 2) := by decide +kernel
theorem dX1_depositTerm_48 : decode cX1_depositTerm 48 = .ok (.invokevirtual 65, 3) := by decide +kernel
theorem dX1_depositTerm_51 : decode cX1_depositTerm 51 = .ok (.aload_n 0, 1) := by decide +kernel
theorem dX1_depositTerm_52 : decode cX1_depositTerm 52 = .ok (.aload 5, 2) := by decide +kernel
theorem dX1_depositTerm_54 : decode cX1_depositTerm 54 = .ok (.invokevirtual 58, 3) := by decide +kernel
theorem dX1_depositTerm_57 : decode cX1_depositTerm 57 = .ok (.ireturn, 1) := by decide +kernel
theorem dX1_give_0 : decode cX1_give 0 = .ok (.aload_n 0, 1) := by decide +kernel
theorem dX1_give_1 : decode cX1_give 1 = .ok (.iload_n 1, 1) := by decide +kernel
theorem dX1_give_2 : decode cX1_give 2 = .ok (.invokevirtual 69, 3) := by decide +kernel
theorem dX1_give_5 : decode cX1_give 5 = .ok (.astore_n 3, 1) := by decide +kernel
theorem dX1_give_6 : decode cX1_give 6 = .ok (.iload_n 2, 1) := by decide +kernel
theorem dX1_give_7 : decode cX1_give 7 = .ok (.iconst 1, 1) := by decide +kernel
theorem dX1_give_8 : decode cX1_give 8 = .ok (.aload_n 3, 1) := by decide +kernel
theorem dX1_give_9 : decode cX1_give 9 = .ok (.getfield 73, 3) := by decide +kernel
theorem dX1_give_12 : decode cX1_give 12 = .ok (.invokestatic 47, 3) := by decide +kernel
theorem dX1_give_15 : decode cX1_give 15 = .ok (.aload_n 3, 1) := by decide +kernel
theorem dX1_give_16 : decode cX1_give 16 = .ok (.invokevirtual 76, 3) := by decide +kernel
theorem dX1_give_19 : decode cX1_give 19 = .ok (.ifCond .ne 10, 3) := by decide +kernel
theorem dX1_give_22 : decode cX1_give 22 = .ok (.aload_n 3, 1) := by decide +kernel
theorem dX1_give_23 : decode cX1_give 23 = .ok (.getfield 80, 3) := by decide +kernel
theorem dX1_give_26 : decode cX1_give 26 = .ok (.ifCond .le 13, 3) := by decide +kernel
theorem dX1_give_29 : decode cX1_give 29 = .ok (.new 83, 3) := by decide +kernel
theorem dX1_give_32 : decode cX1_give 32 = .ok (.dup, 1) := by decide +kernel
theorem dX1_give_33 : decode cX1_give 33 = .ok (.ldc 85, 2) := by decide +kernel
theorem dX1_give_35 : decode cX1_give 35 = .ok (.invokespecial 87, 3) := by decide +kernel
theorem dX1_give_38 : decode cX1_give 38 = .ok (.athrow, 1) := by decide +kernel
theorem dX1_give_39 : decode cX1_give 39 = .ok (.aload_n 3, 1) := by decide +kernel
theorem dX1_give_40 : decode cX1_give 40 = .ok (.iload_n 2, 1) := by decide +kernel
theorem dX1_give_41 : decode cX1_give 41 = .ok (.putfield 80, 3) := by decide +kernel
theorem dX1_give_44 : decode cX1_give 44 = .ok (.aload_n 3, 1) := by decide +kernel
theorem dX1_give_45 : decode cX1_give 45 = .ok (.aload_n 0, 1) := by decide +kernel
theorem dX1_give_46 : decode cX1_give 46 = .ok (.getfield 37, 3) := by decide +kernel
theorem dX1_give_49 : decode cX1_give 49 = .ok (.bipush 32, 2) := by decide +kernel
theorem dX1_give_51 : decode cX1_give 51 = .ok (.iadd, 1) := by decide +kernel
theorem dX1_give_52 : decode cX1_give 52 = .ok (.putfield 88, 3) := by decide +kernel
theorem dX1_give_55 : decode cX1_give 55 = .ok (.aload_n 3, 1) := by decide +kernel
theorem dX1_give_56 : decode cX1_give 56 = .ok (.getfield 88, 3) := by decide +kernel
theorem dX1_give_59 : decode cX1_give 59 = .ok (.ireturn, 1) := by decide +kernel
theorem dX1_withdraw_0 : decode cX1_withdraw 0 = .ok (.aload_n 0, 1) := by decide +kernel
theorem dX1_withdraw_1 : decode cX1_withdraw 1 = .ok (.iload_n 1, 1) := by decide +kernel
theorem dX1_withdraw_2 : decode cX1_withdraw 2 = .ok (.invokevirtual 91, 3) := by decide +kernel
theorem dX1_withdraw_5 : decode cX1_withdraw 5 = .ok (.astore_n 2, 1) := by decide +kernel
theorem dX1_withdraw_6 : decode cX1_withdraw 6 = .ok (.aload_n 2, 1) := by decide +kernel
theorem dX1_withdraw_7 : decode cX1_withdraw 7 = .ok (.getfield 80, 3) := by decide +kernel
theorem dX1_withdraw_10 : decode cX1_withdraw 10 = .ok (.istore_n 3, 1) := by decide +kernel
theorem dX1_withdraw_11 : decode cX1_withdraw 11 = .ok (.aload_n 2, 1) := by decide +kernel
theorem dX1_withdraw_12 : decode cX1_withdraw 12 = .ok (.iconst 0, 1) := by decide +kernel
theorem dX1_withdraw_13 : decode cX1_withdraw 13 = .ok (.putfield 80, 3) := by decide +kernel
theorem dX1_withdraw_16 : decode cX1_withdraw 16 = .ok (.iload_n 3, 1) := by decide +kernel
theorem dX1_withdraw_17 : decode cX1_withdraw 17 = .ok (.ireturn, 1) := by decide +kernel
theorem dX1_take_0 : decode cX1_take 0 = .ok (.aload_n 0, 1) := by decide +kernel
theorem dX1_take_1 : decode cX1_take 1 = .ok (.iload_n 1, 1) := by decide +kernel
theorem dX1_take_2 : decode cX1_take 2 = .ok (.invokevirtual 91, 3) := by decide +kernel
theorem dX1_take_5 : decode cX1_take 5 = .ok (.astore_n 2, 1) := by decide +kernel
theorem dX1_take_6 : decode cX1_take 6 = .ok (.aload_n 0, 1) := by decide +kernel
theorem dX1_take_7 : decode cX1_take 7 = .ok (.getfield 37, 3) := by decide +kernel
theorem dX1_take_10 : decode cX1_take 10 = .ok (.aload_n 2, 1) := by decide +kernel
theorem dX1_take_11 : decode cX1_take 11 = .ok (.getfield 88, 3) := by decide +kernel
theorem dX1_take_14 : decode cX1_take 14 = .ok (.if_icmp .ge 13, 3) := by decide +kernel
theorem dX1_take_17 : decode cX1_take 17 = .ok (.new 83, 3) := by decide +kernel
theorem dX1_take_20 : decode cX1_take 20 = .ok (.dup, 1) := by decide +kernel
theorem dX1_take_21 : decode cX1_take 21 = .ok (.ldc 94, 2) := by decide +kernel
theorem dX1_take_23 : decode cX1_take 23 = .ok (.invokespecial 87, 3) := by decide +kernel
theorem dX1_take_26 : decode cX1_take 26 = .ok (.athrow, 1) := by decide +kernel
theorem dX1_take_27 : decode cX1_take 27 = .ok (.aload_n 2, 1) := by decide +kernel
theorem dX1_take_28 : decode cX1_take 28 = .ok (.getfield 80, 3) := by decide +kernel
theorem dX1_take_31 : decode cX1_take 31 = .ok (.istore_n 3, 1) := by decide +kernel
theorem dX1_take_32 : decode cX1_take 32 = .ok (.aload_n 2, 1) := by decide +kernel
theorem dX1_take_33 : decode cX1_take 33 = .ok (.iconst 0, 1) := by decide +kernel
theorem dX1_take_34 : decode cX1_take 34 = .ok (.putfield 80, 3) := by decide +kernel
theorem dX1_take_37 : decode cX1_take 37 = .ok (.aload_n 0, 1) := by decide +kernel
theorem dX1_take_38 : decode cX1_take 38 = .ok (.aload_n 2, 1) := by decide +kernel
theorem dX1_take_39 : decode cX1_take 39 = .ok (.iload_n 3, 1) := by decide +kernel
theorem dX1_take_40 : decode cX1_take 40 = .ok (.invokevirtual 96, 3) := by decide +kernel
theorem dX1_take_43 : decode cX1_take 43 = .ok (.ireturn, 1) := by decide +kernel
theorem dX1_early_0 : decode cX1_early 0 = .ok (.iload_n 1, 1) := by decide +kernel
theorem dX1_early_1 : decode cX1_early 1 = .ok (.invokestatic 51, 3) := by decide +kernel
theorem dX1_early_4 : decode cX1_early 4 = .ok (.iload_n 2, 1) := by decide +kernel
theorem dX1_early_5 : decode cX1_early 5 = .ok (.iconst 1, 1) := by decide +kernel
theorem dX1_early_6 : decode cX1_early 6 = .ok (.ldc 100, 2) := by decide +kernel
theorem dX1_early_8 : decode cX1_early 8 = .ok (.invokestatic 47, 3) := by decide +kernel
theorem dX1_early_11 : decode cX1_early 11 = .ok (.aload_n 0, 1) := by decide +kernel
theorem dX1_early_12 : decode cX1_early 12 = .ok (.iload_n 1, 1) := by decide +kernel
theorem dX1_early_13 : decode cX1_early 13 = .ok (.invokevirtual 101, 3) := by decide +kernel
theorem dX1_early_16 : decode cX1_early 16 = .ok (.iload_n 2, 1) := by decide +kernel
theorem dX1_early_17 : decode cX1_early 17 = .ok (.if_icmp .ge 13, 3) := by decide +kernel
theorem dX1_early_20 : decode cX1_early 20 = .ok (.new 83, 3) := by decide +kernel
theorem dX1_early_23 : decode cX1_early 23 = .ok (.dup, 1) := by decide +kernel
theorem dX1_early_24 : decode cX1_early 24 = .ok (.ldc 105, 2) := by decide +kernel
theorem dX1_early_26 : decode cX1_early 26 = .ok (.invokespecial 87, 3) := by decide +kernel
theorem dX1_early_29 : decode cX1_early 29 = .ok (.athrow, 1) := by decide +kernel
theorem dX1_early_30 : decode cX1_early 30 = .ok (.aload_n 0, 1) := by decide +kernel
theorem dX1_early_31 : decode cX1_early 31 = .ok (.iload_n 1, 1) := by decide +kernel
theorem dX1_early_32 : decode cX1_early 32 = .ok (.invokevirtual 107, 3) := by decide +kernel
theorem dX1_early_35 : decode cX1_early 35 = .ok (.iload_n 2, 1) := by decide +kernel
theorem dX1_early_36 : decode cX1_early 36 = .ok (.istore_n 3, 1) := by decide +kernel
theorem dX1_early_37 : decode cX1_early 37 = .ok (.iconst 0, 1) := by decide +kernel
theorem dX1_early_38 : decode cX1_early 38 = .ok (.istore 4, 2) := by decide +kernel
theorem dX1_early_40 : decode cX1_early 40 = .ok (.iconst 0, 1) := by decide +kernel
theorem dX1_early_41 : decode cX1_early 41 = .ok (.istore 5, 2) := by decide +kernel
theorem dX1_early_43 : decode cX1_early 43 = .ok (.iload 5, 2) := by decide +kernel
theorem dX1_early_45 : decode cX1_early 45 = .ok (.aload_n 0, 1) := by decide +kernel
theorem dX1_early_46 : decode cX1_early 46 = .ok (.getfield 34, 3) := by decide +kernel
theorem dX1_early_49 : decode cX1_early 49 = .ok (.if_icmp .ge 70, 3) := by decide +kernel
theorem dX1_early_52 : decode cX1_early 52 = .ok (.iload_n 3, 1) := by decide +kernel
theorem dX1_early_53 : decode cX1_early 53 = .ok (.ifCond .le 66, 3) := by decide +kernel
theorem dX1_early_56 : decode cX1_early 56 = .ok (.aload_n 0, 1) := by decide +kernel
theorem dX1_early_57 : decode cX1_early 57 = .ok (.iload_n 1, 1) := by decide +kernel
theorem dX1_early_58 : decode cX1_early 58 = .ok (.invokevirtual 110, 3) := by decide +kernel
theorem dX1_early_61 : decode cX1_early 61 = .ok (.astore 6, 2) := by decide +kernel
theorem dX1_early_63 : decode cX1_early 63 = .ok (.aload 6, 2) := by decide +kernel
theorem dX1_early_65 : decode cX1_early 65 = .ok (.ifnonnull 6, 3) := by decide +kernel
theorem dX1_early_68 : decode cX1_early 68 = .ok (.goto 51, 3) := by decide +kernel
theorem dX1_early_71 : decode cX1_early 71 = .ok (.iload_n 3, 1) := by decide +kernel
theorem dX1_early_72 : decode cX1_early 72 = .ok (.aload 6, 2) := by decide +kernel
theorem dX1_early_74 : decode cX1_early 74 = .ok (.invokevirtual 113, 3) := by decide +kernel
theorem dX1_early_77 : decode cX1_early 77 = .ok (.invokestatic 117, 3) := by decide +kernel
theorem dX1_early_80 : decode cX1_early 80 = .ok (.istore 7, 2) := by decide +kernel
theorem dX1_early_82 : decode cX1_early 82 = .ok (.aload_n 0, 1) := by decide +kernel
theorem dX1_early_83 : decode cX1_early 83 = .ok (.aload 6, 2) := by decide +kernel
theorem dX1_early_85 : decode cX1_early 85 = .ok (.aload 6, 2) := by decide +kernel
theorem dX1_early_87 : decode cX1_early 87 = .ok (.iload 7, 2) := by decide +kernel
theorem dX1_early_89 : decode cX1_early 89 = .ok (.invokestatic 123, 3) := by decide +kernel
theorem dX1_early_92 : decode cX1_early 92 = .ok (.invokevirtual 127, 3) := by decide +kernel
theorem dX1_early_95 : decode cX1_early 95 = .ok (.iload 4, 2) := by decide +kernel
theorem dX1_early_97 : decode cX1_early 97 = .ok (.aload_n 0, 1) := by decide +kernel
theorem dX1_early_98 : decode cX1_early 98 = .ok (.aload 6, 2) := by decide +kernel
theorem dX1_early_100 : decode cX1_early 100 = .ok (.iload 7, 2) := by decide +kernel
theorem dX1_early_102 : decode cX1_early 102 = .ok (.invokevirtual 96, 3) := by decide +kernel
theorem dX1_early_105 : decode cX1_early 105 = .ok (.iadd, 1) := by decide +kernel
theorem dX1_early_106 : decode cX1_early 106 = .ok (.istore 4, 2) := by decide +kernel
theorem dX1_early_108 : decode cX1_early 108 = .ok (.iload_n 3, 1) := by decide +kernel
theorem dX1_early_109 : decode cX1_early 109 = .ok (.iload 7, 2) := by decide +kernel
theorem dX1_early_111 : decode cX1_early 111 = .ok (.isub, 1) := by decide +kernel
theorem dX1_early_112 : decode cX1_early 112 = .ok (.istore_n 3, 1) := by decide +kernel
theorem dX1_early_113 : decode cX1_early 113 = .ok (.iinc 5 1, 3) := by decide +kernel
theorem dX1_early_116 : decode cX1_early 116 = .ok (.goto (-73), 3) := by decide +kernel
theorem dX1_early_119 : decode cX1_early 119 = .ok (.iload 4, 2) := by decide +kernel
theorem dX1_early_121 : decode cX1_early 121 = .ok (.ireturn, 1) := by decide +kernel
theorem dX1_instruct_0 : decode cX1_instruct 0 = .ok (.aload_n 0, 1) := by decide +kernel
theorem dX1_instruct_1 : decode cX1_instruct 1 = .ok (.iload_n 1, 1) := by decide +kernel
theorem dX1_instruct_2 : decode cX1_instruct 2 = .ok (.invokevirtual 69, 3) := by decide +kernel
theorem dX1_instruct_5 : decode cX1_instruct 5 = .ok (.astore_n 3, 1) := by decide +kernel
theorem dX1_instruct_6 : decode cX1_instruct 6 = .ok (.iload_n 2, 1) := by decide +kernel
theorem dX1_instruct_7 : decode cX1_instruct 7 = .ok (.iconst 0, 1) := by decide +kernel
theorem dX1_instruct_8 : decode cX1_instruct 8 = .ok (.iconst 2, 1) := by decide +kernel
theorem dX1_instruct_9 : decode cX1_instruct 9 = .ok (.invokestatic 47, 3) := by decide +kernel
theorem dX1_instruct_12 : decode cX1_instruct 12 = .ok (.aload_n 3, 1) := by decide +kernel
theorem dX1_instruct_13 : decode cX1_instruct 13 = .ok (.invokevirtual 76, 3) := by decide +kernel
theorem dX1_instruct_16 : decode cX1_instruct 16 = .ok (.ifCond .ne 13, 3) := by decide +kernel
theorem dX1_instruct_19 : decode cX1_instruct 19 = .ok (.new 83, 3) := by decide +kernel
theorem dX1_instruct_22 : decode cX1_instruct 22 = .ok (.dup, 1) := by decide +kernel
theorem dX1_instruct_23 : decode cX1_instruct 23 = .ok (.ldc 131, 2) := by decide +kernel
theorem dX1_instruct_25 : decode cX1_instruct 25 = .ok (.invokespecial 87, 3) := by decide +kernel
theorem dX1_instruct_28 : decode cX1_instruct 28 = .ok (.athrow, 1) := by decide +kernel
theorem dX1_instruct_29 : decode cX1_instruct 29 = .ok (.aload_n 3, 1) := by decide +kernel
theorem dX1_instruct_30 : decode cX1_instruct 30 = .ok (.getfield 62, 3) := by decide +kernel
theorem dX1_instruct_33 : decode cX1_instruct 33 = .ok (.istore 4, 2) := by decide +kernel
theorem dX1_instruct_35 : decode cX1_instruct 35 = .ok (.aload_n 3, 1) := by decide +kernel
theorem dX1_instruct_36 : decode cX1_instruct 36 = .ok (.iload_n 2, 1) := by decide +kernel
theorem dX1_instruct_37 : decode cX1_instruct 37 = .ok (.putfield 62, 3) := by decide +kernel
theorem dX1_instruct_40 : decode cX1_instruct 40 = .ok (.iload 4, 2) := by decide +kernel
theorem dX1_instruct_42 : decode cX1_instruct 42 = .ok (.ireturn, 1) := by decide +kernel
theorem dX1_letGo_0 : decode cX1_letGo 0 = .ok (.aload_n 0, 1) := by decide +kernel
theorem dX1_letGo_1 : decode cX1_letGo 1 = .ok (.iload_n 1, 1) := by decide +kernel
theorem dX1_letGo_2 : decode cX1_letGo 2 = .ok (.invokevirtual 69, 3) := by decide +kernel
theorem dX1_letGo_5 : decode cX1_letGo 5 = .ok (.astore_n 2, 1) := by decide +kernel
theorem dX1_letGo_6 : decode cX1_letGo 6 = .ok (.aload_n 2, 1) := by decide +kernel
theorem dX1_letGo_7 : decode cX1_letGo 7 = .ok (.getfield 133, 3) := by decide +kernel
theorem dX1_letGo_10 : decode cX1_letGo 10 = .ok (.iconst (-1), 1) := by decide +kernel
theorem dX1_letGo_11 : decode cX1_letGo 11 = .ok (.if_icmp .eq 17, 3) := by decide +kernel
theorem dX1_letGo_14 : decode cX1_letGo 14 = .ok (.aload_n 0, 1) := by decide +kernel
theorem dX1_letGo_15 : decode cX1_letGo 15 = .ok (.getfield 37, 3) := by decide +kernel
theorem dX1_letGo_18 : decode cX1_letGo 18 = .ok (.aload_n 2, 1) := by decide +kernel
theorem dX1_letGo_19 : decode cX1_letGo 19 = .ok (.getfield 133, 3) := by decide +kernel
theorem dX1_letGo_22 : decode cX1_letGo 22 = .ok (.isub, 1) := by decide +kernel
theorem dX1_letGo_23 : decode cX1_letGo 23 = .ok (.bipush 7, 2) := by decide +kernel
theorem dX1_letGo_25 : decode cX1_letGo 25 = .ok (.if_icmp .lt 13, 3) := by decide +kernel
theorem dX1_letGo_28 : decode cX1_letGo 28 = .ok (.new 83, 3) := by decide +kernel
theorem dX1_letGo_31 : decode cX1_letGo 31 = .ok (.dup, 1) := by decide +kernel
theorem dX1_letGo_32 : decode cX1_letGo 32 = .ok (.ldc 136, 2) := by decide +kernel
theorem dX1_letGo_34 : decode cX1_letGo 34 = .ok (.invokespecial 87, 3) := by decide +kernel
theorem dX1_letGo_37 : decode cX1_letGo 37 = .ok (.athrow, 1) := by decide +kernel
theorem dX1_letGo_38 : decode cX1_letGo 38 = .ok (.aload_n 0, 1) := by decide +kernel
theorem dX1_letGo_39 : decode cX1_letGo 39 = .ok (.aload_n 2, 1) := by decide +kernel
theorem dX1_letGo_40 : decode cX1_letGo 40 = .ok (.aload_n 2, 1) := by decide +kernel
theorem dX1_letGo_41 : decode cX1_letGo 41 = .ok (.getfield 138, 3) := by decide +kernel
theorem dX1_letGo_44 : decode cX1_letGo 44 = .ok (.invokevirtual 127, 3) := by decide +kernel
theorem dX1_letGo_47 : decode cX1_letGo 47 = .ok (.aload_n 0, 1) := by decide +kernel
theorem dX1_letGo_48 : decode cX1_letGo 48 = .ok (.aload_n 2, 1) := by decide +kernel
theorem dX1_letGo_49 : decode cX1_letGo 49 = .ok (.aload_n 2, 1) := by decide +kernel
theorem dX1_letGo_50 : decode cX1_letGo 50 = .ok (.getfield 73, 3) := by decide +kernel
theorem dX1_letGo_53 : decode cX1_letGo 53 = .ok (.invokevirtual 96, 3) := by decide +kernel
theorem dX1_letGo_56 : decode cX1_letGo 56 = .ok (.ireturn, 1) := by decide +kernel
theorem dX1_join_0 : decode cX1_join 0 = .ok (.aload_n 0, 1) := by decide +kernel
theorem dX1_join_1 : decode cX1_join 1 = .ok (.iload_n 1, 1) := by decide +kernel
theorem dX1_join_2 : decode cX1_join 2 = .ok (.invokevirtual 69, 3) := by decide +kernel
theorem dX1_join_5 : decode cX1_join 5 = .ok (.astore_n 3, 1) := by decide +kernel
theorem dX1_join_6 : decode cX1_join 6 = .ok (.aload_n 0, 1) := by decide +kernel
theorem dX1_join_7 : decode cX1_join 7 = .ok (.iload_n 2, 1) := by decide +kernel
theorem dX1_join_8 : decode cX1_join 8 = .ok (.invokevirtual 69, 3) := by decide +kernel
theorem dX1_join_11 : decode cX1_join 11 = .ok (.astore 4, 2) := by decide +kernel
theorem dX1_join_13 : decode cX1_join 13 = .ok (.iload_n 1, 1) := by decide +kernel
theorem dX1_join_14 : decode cX1_join 14 = .ok (.iload_n 2, 1) := by decide +kernel
theorem dX1_join_15 : decode cX1_join 15 = .ok (.if_icmp .ne 13, 3) := by decide +kernel
theorem dX1_join_18 : decode cX1_join 18 = .ok (.new 142, 3) := by decide +kernel
theorem dX1_join_21 : decode cX1_join 21 = .ok (.dup, 1) := by decide +kernel
theorem dX1_join_22 : decode cX1_join 22 = .ok (.ldc 144, 2) := by decide +kernel
theorem dX1_join_24 : decode cX1_join 24 = .ok (.invokespecial 146, 3) := by decide +kernel
theorem dX1_join_27 : decode cX1_join 27 = .ok (.athrow, 1) := by decide +kernel
theorem dX1_join_28 : decode cX1_join 28 = .ok (.aload_n 3, 1) := by decide +kernel
theorem dX1_join_29 : decode cX1_join 29 = .ok (.aload 4, 2) := by decide +kernel
theorem dX1_join_31 : decode cX1_join 31 = .ok (.invokestatic 147, 3) := by decide +kernel
theorem dX1_join_34 : decode cX1_join 34 = .ok (.ifCond .ne 13, 3) := by decide +kernel
theorem dX1_join_37 : decode cX1_join 37 = .ok (.new 83, 3) := by decide +kernel
theorem dX1_join_40 : decode cX1_join 40 = .ok (.dup, 1) := by decide +kernel
theorem dX1_join_41 : decode cX1_join 41 = .ok (.ldc 151, 2) := by decide +kernel
theorem dX1_join_43 : decode cX1_join 43 = .ok (.invokespecial 87, 3) := by decide +kernel
theorem dX1_join_46 : decode cX1_join 46 = .ok (.athrow, 1) := by decide +kernel
theorem dX1_join_47 : decode cX1_join 47 = .ok (.aload_n 3, 1) := by decide +kernel
theorem dX1_join_48 : decode cX1_join 48 = .ok (.dup, 1) := by decide +kernel
theorem dX1_join_49 : decode cX1_join 49 = .ok (.getfield 73, 3) := by decide +kernel
theorem dX1_join_52 : decode cX1_join 52 = .ok (.aload 4, 2) := by decide +kernel
theorem dX1_join_54 : decode cX1_join 54 = .ok (.getfield 73, 3) := by decide +kernel
theorem dX1_join_57 : decode cX1_join 57 = .ok (.iadd, 1) := by decide +kernel
theorem dX1_join_58 : decode cX1_join 58 = .ok (.putfield 73, 3) := by decide +kernel
theorem dX1_join_61 : decode cX1_join 61 = .ok (.aload_n 3, 1) := by decide +kernel
theorem dX1_join_62 : decode cX1_join 62 = .ok (.dup, 1) := by decide +kernel
theorem dX1_join_63 : decode cX1_join 63 = .ok (.getfield 138, 3) := by decide +kernel
theorem dX1_join_66 : decode cX1_join 66 = .ok (.aload 4, 2) := by decide +kernel
theorem dX1_join_68 : decode cX1_join 68 = .ok (.getfield 138, 3) := by decide +kernel
theorem dX1_join_71 : decode cX1_join 71 = .ok (.ladd, 1) := by decide +kernel
theorem dX1_join_72 : decode cX1_join 72 = .ok (.putfield 138, 3) := by decide +kernel
theorem dX1_join_75 : decode cX1_join 75 = .ok (.aload_n 3, 1) := by decide +kernel
theorem dX1_join_76 : decode cX1_join 76 = .ok (.dup, 1) := by decide +kernel
theorem dX1_join_77 : decode cX1_join 77 = .ok (.getfield 153, 3) := by decide +kernel
theorem dX1_join_80 : decode cX1_join 80 = .ok (.aload 4, 2) := by decide +kernel
theorem dX1_join_82 : decode cX1_join 82 = .ok (.getfield 153, 3) := by decide +kernel
theorem dX1_join_85 : decode cX1_join 85 = .ok (.ladd, 1) := by decide +kernel
theorem dX1_join_86 : decode cX1_join 86 = .ok (.putfield 153, 3) := by decide +kernel
theorem dX1_join_89 : decode cX1_join 89 = .ok (.aload_n 3, 1) := by decide +kernel
theorem dX1_join_90 : decode cX1_join 90 = .ok (.iconst (-1), 1) := by decide +kernel
theorem dX1_join_91 : decode cX1_join 91 = .ok (.putfield 133, 3) := by decide +kernel
theorem dX1_join_94 : decode cX1_join 94 = .ok (.aload 4, 2) := by decide +kernel
theorem dX1_join_96 : decode cX1_join 96 = .ok (.iconst 0, 1) := by decide +kernel
theorem dX1_join_97 : decode cX1_join 97 = .ok (.putfield 73, 3) := by decide +kernel
theorem dX1_join_100 : decode cX1_join 100 = .ok (.aload_n 3, 1) := by decide +kernel
theorem dX1_join_101 : decode cX1_join 101 = .ok (.getfield 73, 3) := by decide +kernel
theorem dX1_join_104 : decode cX1_join 104 = .ok (.ireturn, 1) := by decide +kernel
theorem dX1_pass_0 : decode cX1_pass 0 = .ok (.iload_n 1, 1) := by decide +kernel
theorem dX1_pass_1 : decode cX1_pass 1 = .ok (.iconst 1, 1) := by decide +kernel
theorem dX1_pass_2 : decode cX1_pass 2 = .ok (.bipush 100, 2) := by decide +kernel
theorem dX1_pass_4 : decode cX1_pass 4 = .ok (.invokestatic 47, 3) := by decide +kernel
theorem dX1_pass_7 : decode cX1_pass 7 = .ok (.aload_n 0, 1) := by decide +kernel
theorem dX1_pass_8 : decode cX1_pass 8 = .ok (.getfield 37, 3) := by decide +kernel
theorem dX1_pass_11 : decode cX1_pass 11 = .ok (.iload_n 1, 1) := by decide +kernel
theorem dX1_pass_12 : decode cX1_pass 12 = .ok (.iadd, 1) := by decide +kernel
theorem dX1_pass_13 : decode cX1_pass 13 = .ok (.sipush 3000, 3) := by decide +kernel
theorem dX1_pass_16 : decode cX1_pass 16 = .ok (.if_icmp .le 13, 3) := by decide +kernel
theorem dX1_pass_19 : decode cX1_pass 19 = .ok (.new 83, 3) := by decide +kernel
theorem dX1_pass_22 : decode cX1_pass 22 = .ok (.dup, 1) := by decide +kernel
theorem dX1_pass_23 : decode cX1_pass 23 = .ok (.ldc 156, 2) := by decide +kernel
theorem dX1_pass_25 : decode cX1_pass 25 = .ok (.invokespecial 87, 3) := by decide +kernel
theorem dX1_pass_28 : decode cX1_pass 28 = .ok (.athrow, 1) := by decide +kernel
theorem dX1_pass_29 : decode cX1_pass 29 = .ok (.iconst 0, 1) := by decide +kernel
theorem dX1_pass_30 : decode cX1_pass 30 = .ok (.istore_n 2, 1) := by decide +kernel
theorem dX1_pass_31 : decode cX1_pass 31 = .ok (.iload_n 2, 1) := by decide +kernel
theorem dX1_pass_32 : decode cX1_pass 32 = .ok (.iconst 4, 1) := by decide +kernel
theorem dX1_pass_33 : decode cX1_pass 33 = .ok (.if_icmp .ge 14, 3) := by decide +kernel
theorem dX1_pass_36 : decode cX1_pass 36 = .ok (.aload_n 0, 1) := by decide +kernel
theorem dX1_pass_37 : decode cX1_pass 37 = .ok (.iload_n 2, 1) := by decide +kernel
theorem dX1_pass_38 : decode cX1_pass 38 = .ok (.invokevirtual 107, 3) := by decide +kernel
theorem dX1_pass_41 : decode cX1_pass 41 = .ok (.iinc 2 1, 3) := by decide +kernel
theorem dX1_pass_44 : decode cX1_pass 44 = .ok (.goto (-13), 3) := by decide +kernel
theorem dX1_pass_47 : decode cX1_pass 47 = .ok (.iconst 0, 1) := by decide +kernel
theorem dX1_pass_48 : decode cX1_pass 48 = .ok (.istore_n 2, 1) := by decide +kernel
theorem dX1_pass_49 : decode cX1_pass 49 = .ok (.iconst 0, 1) := by decide +kernel
theorem dX1_pass_50 : decode cX1_pass 50 = .ok (.istore_n 3, 1) := by decide +kernel
theorem dX1_pass_51 : decode cX1_pass 51 = .ok (.iload_n 3, 1) := by decide +kernel
theorem dX1_pass_52 : decode cX1_pass 52 = .ok (.iload_n 1, 1) := by decide +kernel
theorem dX1_pass_53 : decode cX1_pass 53 = .ok (.if_icmp .ge 30, 3) := by decide +kernel
theorem dX1_pass_56 : decode cX1_pass 56 = .ok (.aload_n 0, 1) := by decide +kernel
theorem dX1_pass_57 : decode cX1_pass 57 = .ok (.invokevirtual 158, 3) := by decide +kernel
theorem dX1_pass_60 : decode cX1_pass 60 = .ok (.aload_n 0, 1) := by decide +kernel
theorem dX1_pass_61 : decode cX1_pass 61 = .ok (.dup, 1) := by decide +kernel
theorem dX1_pass_62 : decode cX1_pass 62 = .ok (.getfield 37, 3) := by decide +kernel
theorem dX1_pass_65 : decode cX1_pass 65 = .ok (.iconst 1, 1) := by decide +kernel
theorem dX1_pass_66 : decode cX1_pass 66 = .ok (.iadd, 1) := by decide +kernel
theorem dX1_pass_67 : decode cX1_pass 67 = .ok (.putfield 37, 3) := by decide +kernel
theorem dX1_pass_70 : decode cX1_pass 70 = .ok (.iload_n 2, 1) := by decide +kernel
theorem dX1_pass_71 : decode cX1_pass 71 = .ok (.aload_n 0, 1) := by decide +kernel
theorem dX1_pass_72 : decode cX1_pass 72 = .ok (.invokevirtual 161, 3) := by decide +kernel
theorem dX1_pass_75 : decode cX1_pass 75 = .ok (.iadd, 1) := by decide +kernel
theorem dX1_pass_76 : decode cX1_pass 76 = .ok (.istore_n 2, 1) := by decide +kernel
theorem dX1_pass_77 : decode cX1_pass 77 = .ok (.iinc 3 1, 3) := by decide +kernel
theorem dX1_pass_80 : decode cX1_pass 80 = .ok (.goto (-29), 3) := by decide +kernel
theorem dX1_pass_83 : decode cX1_pass 83 = .ok (.iload_n 2, 1) := by decide +kernel
theorem dX1_pass_84 : decode cX1_pass 84 = .ok (.ireturn, 1) := by decide +kernel
theorem dX1_today_0 : decode cX1_today 0 = .ok (.aload_n 0, 1) := by decide +kernel
theorem dX1_today_1 : decode cX1_today 1 = .ok (.getfield 37, 3) := by decide +kernel
theorem dX1_today_4 : decode cX1_today 4 = .ok (.ireturn, 1) := by decide +kernel
theorem dX1_lots_0 : decode cX1_lots 0 = .ok (.iconst 0, 1) := by decide +kernel
theorem dX1_lots_1 : decode cX1_lots 1 = .ok (.istore_n 1, 1) := by decide +kernel
theorem dX1_lots_2 : decode cX1_lots 2 = .ok (.iconst 0, 1) := by decide +kernel
theorem dX1_lots_3 : decode cX1_lots 3 = .ok (.istore_n 2, 1) := by decide +kernel
theorem dX1_lots_4 : decode cX1_lots 4 = .ok (.iload_n 2, 1) := by decide +kernel
theorem dX1_lots_5 : decode cX1_lots 5 = .ok (.aload_n 0, 1) := by decide +kernel
theorem dX1_lots_6 : decode cX1_lots 6 = .ok (.getfield 34, 3) := by decide +kernel
theorem dX1_lots_9 : decode cX1_lots 9 = .ok (.if_icmp .ge 20, 3) := by decide +kernel
theorem dX1_lots_12 : decode cX1_lots 12 = .ok (.aload_n 0, 1) := by decide +kernel
theorem dX1_lots_13 : decode cX1_lots 13 = .ok (.iload_n 2, 1) := by decide +kernel
theorem dX1_lots_14 : decode cX1_lots 14 = .ok (.invokevirtual 164, 3) := by decide +kernel
theorem dX1_lots_17 : decode cX1_lots 17 = .ok (.ifnull 6, 3) := by decide +kernel
theorem dX1_lots_20 : decode cX1_lots 20 = .ok (.iinc 1 1, 3) := by decide +kernel
theorem dX1_lots_23 : decode cX1_lots 23 = .ok (.iinc 2 1, 3) := by decide +kernel
theorem dX1_lots_26 : decode cX1_lots 26 = .ok (.goto (-22), 3) := by decide +kernel
theorem dX1_lots_29 : decode cX1_lots 29 = .ok (.iload_n 1, 1) := by decide +kernel
theorem dX1_lots_30 : decode cX1_lots 30 = .ok (.ireturn, 1) := by decide +kernel
theorem dX1_principal_0 : decode cX1_principal 0 = .ok (.aload_n 0, 1) := by decide +kernel
theorem dX1_principal_1 : decode cX1_principal 1 = .ok (.iload_n 1, 1) := by decide +kernel
theorem dX1_principal_2 : decode cX1_principal 2 = .ok (.invokevirtual 69, 3) := by decide +kernel
theorem dX1_principal_5 : decode cX1_principal 5 = .ok (.getfield 73, 3) := by decide +kernel
theorem dX1_principal_8 : decode cX1_principal 8 = .ok (.ireturn, 1) := by decide +kernel
theorem dX1_earned_0 : decode cX1_earned 0 = .ok (.aload_n 0, 1) := by decide +kernel
theorem dX1_earned_1 : decode cX1_earned 1 = .ok (.iload_n 1, 1) := by decide +kernel
theorem dX1_earned_2 : decode cX1_earned 2 = .ok (.invokevirtual 69, 3) := by decide +kernel
theorem dX1_earned_5 : decode cX1_earned 5 = .ok (.getfield 138, 3) := by decide +kernel
theorem dX1_earned_8 : decode cX1_earned 8 = .ok (.lreturn, 1) := by decide +kernel
theorem dX1_partsOfDay_0 : decode cX1_partsOfDay 0 = .ok (.aload_n 0, 1) := by decide +kernel
theorem dX1_partsOfDay_1 : decode cX1_partsOfDay 1 = .ok (.iload_n 1, 1) := by decide +kernel
theorem dX1_partsOfDay_2 : decode cX1_partsOfDay 2 = .ok (.invokevirtual 69, 3) := by decide +kernel
theorem dX1_partsOfDay_5 : decode cX1_partsOfDay 5 = .ok (.astore_n 2, 1) := by decide +kernel
theorem dX1_partsOfDay_6 : decode cX1_partsOfDay 6 = .ok (.aload_n 0, 1) := by decide +kernel
theorem dX1_partsOfDay_7 : decode cX1_partsOfDay 7 = .ok (.aload_n 2, 1) := by decide +kernel
theorem dX1_partsOfDay_8 : decode cX1_partsOfDay 8 = .ok (.getfield 167, 3) := by decide +kernel
theorem dX1_partsOfDay_11 : decode cX1_partsOfDay 11 = .ok (.invokevirtual 107, 3) := by decide +kernel
theorem dX1_partsOfDay_14 : decode cX1_partsOfDay 14 = .ok (.aload_n 2, 1) := by decide +kernel
theorem dX1_partsOfDay_15 : decode cX1_partsOfDay 15 = .ok (.getfield 153, 3) := by decide +kernel
theorem dX1_partsOfDay_18 : decode cX1_partsOfDay 18 = .ok (.lreturn, 1) := by decide +kernel
theorem dX1_frozen_0 : decode cX1_frozen 0 = .ok (.aload_n 0, 1) := by decide +kernel
theorem dX1_frozen_1 : decode cX1_frozen 1 = .ok (.iload_n 1, 1) := by decide +kernel
theorem dX1_frozen_2 : decode cX1_frozen 2 = .ok (.invokevirtual 69, 3) := by decide +kernel
theorem dX1_frozen_5 : decode cX1_frozen 5 = .ok (.getfield 80, 3) := by decide +kernel
theorem dX1_frozen_8 : decode cX1_frozen 8 = .ok (.ireturn, 1) := by decide +kernel
theorem dX1_endOf_0 : decode cX1_endOf 0 = .ok (.aload_n 0, 1) := by decide +kernel
theorem dX1_endOf_1 : decode cX1_endOf 1 = .ok (.iload_n 1, 1) := by decide +kernel
theorem dX1_endOf_2 : decode cX1_endOf 2 = .ok (.invokevirtual 69, 3) := by decide +kernel
theorem dX1_endOf_5 : decode cX1_endOf 5 = .ok (.getfield 170, 3) := by decide +kernel
theorem dX1_endOf_8 : decode cX1_endOf 8 = .ok (.ireturn, 1) := by decide +kernel
theorem dX1_total_0 : decode cX1_total 0 = .ok (.iload_n 1, 1) := by decide +kernel
theorem dX1_total_1 : decode cX1_total 1 = .ok (.invokestatic 51, 3) := by decide +kernel
theorem dX1_total_4 : decode cX1_total 4 = .ok (.aload_n 0, 1) := by decide +kernel
theorem dX1_total_5 : decode cX1_total 5 = .ok (.iload_n 1, 1) := by decide +kernel
theorem dX1_total_6 : decode cX1_total 6 = .ok (.invokevirtual 173, 3) := by decide +kernel
theorem dX1_total_9 : decode cX1_total 9 = .ok (.ireturn, 1) := by decide +kernel
theorem dX1_partsByTotal_0 : decode cX1_partsByTotal 0 = .ok (.iload_n 1, 1) := by decide +kernel
theorem dX1_partsByTotal_1 : decode cX1_partsByTotal 1 = .ok (.invokestatic 51, 3) := by decide +kernel
theorem dX1_partsByTotal_4 : decode cX1_partsByTotal 4 = .ok (.aload_n 0, 1) := by decide +kernel
theorem dX1_partsByTotal_5 : decode cX1_partsByTotal 5 = .ok (.iload_n 1, 1) := by decide +kernel
theorem dX1_partsByTotal_6 : decode cX1_partsByTotal 6 = .ok (.invokevirtual 173, 3) := by decide +kernel
theorem dX1_partsByTotal_9 : decode cX1_partsByTotal 9 = .ok (.istore_n 2, 1) := by decide +kernel
theorem dX1_partsByTotal_10 : decode cX1_partsByTotal 10 = .ok (.aload_n 0, 1) := by decide +kernel
theorem dX1_partsByTotal_11 : decode cX1_partsByTotal 11 = .ok (.iconst 0, 1) := by decide +kernel
theorem dX1_partsByTotal_12 : decode cX1_partsByTotal 12 = .ok (.iload_n 2, 1) := by decide +kernel
theorem dX1_partsByTotal_13 : decode cX1_partsByTotal 13 = .ok (.iload_n 2, 1) := by decide +kernel
theorem dX1_partsByTotal_14 : decode cX1_partsByTotal 14 = .ok (.invokevirtual 176, 3) := by decide +kernel
theorem dX1_partsByTotal_17 : decode cX1_partsByTotal 17 = .ok (.lreturn, 1) := by decide +kernel
theorem dX1_paid_0 : decode cX1_paid 0 = .ok (.iload_n 1, 1) := by decide +kernel
theorem dX1_paid_1 : decode cX1_paid 1 = .ok (.invokestatic 51, 3) := by decide +kernel
theorem dX1_paid_4 : decode cX1_paid 4 = .ok (.aload_n 0, 1) := by decide +kernel
theorem dX1_paid_5 : decode cX1_paid 5 = .ok (.getfield 13, 3) := by decide +kernel
theorem dX1_paid_8 : decode cX1_paid 8 = .ok (.iload_n 1, 1) := by decide +kernel
theorem dX1_paid_9 : decode cX1_paid 9 = .ok (.laload, 1) := by decide +kernel
theorem dX1_paid_10 : decode cX1_paid 10 = .ok (.lreturn, 1) := by decide +kernel
theorem dX1_lost_0 : decode cX1_lost 0 = .ok (.iload_n 1, 1) := by decide +kernel
theorem dX1_lost_1 : decode cX1_lost 1 = .ok (.invokestatic 51, 3) := by decide +kernel
theorem dX1_lost_4 : decode cX1_lost 4 = .ok (.aload_n 0, 1) := by decide +kernel
theorem dX1_lost_5 : decode cX1_lost 5 = .ok (.getfield 17, 3) := by decide +kernel
theorem dX1_lost_8 : decode cX1_lost 8 = .ok (.iload_n 1, 1) := by decide +kernel
theorem dX1_lost_9 : decode cX1_lost 9 = .ok (.laload, 1) := by decide +kernel
theorem dX1_lost_10 : decode cX1_lost 10 = .ok (.lreturn, 1) := by decide +kernel
theorem dX1_demandCustomer_0 : decode cX1_demandCustomer 0 = .ok (.iload_n 0, 1) := by decide +kernel
theorem dX1_demandCustomer_1 : decode cX1_demandCustomer 1 = .ok (.ifCond .lt 8, 3) := by decide +kernel
theorem dX1_demandCustomer_4 : decode cX1_demandCustomer 4 = .ok (.iload_n 0, 1) := by decide +kernel
theorem dX1_demandCustomer_5 : decode cX1_demandCustomer 5 = .ok (.iconst 4, 1) := by decide +kernel
theorem dX1_demandCustomer_6 : decode cX1_demandCustomer 6 = .ok (.if_icmp .lt 13, 3) := by decide +kernel
theorem dX1_demandCustomer_9 : decode cX1_demandCustomer 9 = .ok (.new 40, 3) := by decide +kernel
theorem dX1_demandCustomer_12 : decode cX1_demandCustomer 12 = .ok (.dup, 1) := by decide +kernel
theorem dX1_demandCustomer_13 : decode cX1_demandCustomer 13 = .ok (.ldc 180, 2) := by decide +kernel
theorem dX1_demandCustomer_15 : decode cX1_demandCustomer 15 = .ok (.invokespecial 44, 3) := by decide +kernel
theorem dX1_demandCustomer_18 : decode cX1_demandCustomer 18 = .ok (.athrow, 1) := by decide +kernel
theorem dX1_demandCustomer_19 : decode cX1_demandCustomer 19 = .ok (.return_, 1) := by decide +kernel
theorem dX1_demandRange_0 : decode cX1_demandRange 0 = .ok (.iload_n 0, 1) := by decide +kernel
theorem dX1_demandRange_1 : decode cX1_demandRange 1 = .ok (.iload_n 1, 1) := by decide +kernel
theorem dX1_demandRange_2 : decode cX1_demandRange 2 = .ok (.if_icmp .lt 8, 3) := by decide +kernel
theorem dX1_demandRange_5 : decode cX1_demandRange 5 = .ok (.iload_n 0, 1) := by decide +kernel
theorem dX1_demandRange_6 : decode cX1_demandRange 6 = .ok (.iload_n 2, 1) := by decide +kernel
theorem dX1_demandRange_7 : decode cX1_demandRange 7 = .ok (.if_icmp .le 13, 3) := by decide +kernel
theorem dX1_demandRange_10 : decode cX1_demandRange 10 = .ok (.new 142, 3) := by decide +kernel
theorem dX1_demandRange_13 : decode cX1_demandRange 13 = .ok (.dup, 1) := by decide +kernel
theorem dX1_demandRange_14 : decode cX1_demandRange 14 = .ok (.ldc 182, 2) := by decide +kernel
theorem dX1_demandRange_16 : decode cX1_demandRange 16 = .ok (.invokespecial 146, 3) := by decide +kernel
theorem dX1_demandRange_19 : decode cX1_demandRange 19 = .ok (.athrow, 1) := by decide +kernel
theorem dX1_demandRange_20 : decode cX1_demandRange 20 = .ok (.return_, 1) := by decide +kernel
theorem dX1_demandLot_0 : decode cX1_demandLot 0 = .ok (.aload_n 0, 1) := by decide +kernel
theorem dX1_demandLot_1 : decode cX1_demandLot 1 = .ok (.iload_n 1, 1) := by decide +kernel
theorem dX1_demandLot_2 : decode cX1_demandLot 2 = .ok (.invokevirtual 164, 3) := by decide +kernel
theorem dX1_demandLot_5 : decode cX1_demandLot 5 = .ok (.astore_n 2, 1) := by decide +kernel
theorem dX1_demandLot_6 : decode cX1_demandLot 6 = .ok (.aload_n 2, 1) := by decide +kernel
theorem dX1_demandLot_7 : decode cX1_demandLot 7 = .ok (.ifnonnull 13, 3) := by decide +kernel
theorem dX1_demandLot_10 : decode cX1_demandLot 10 = .ok (.new 40, 3) := by decide +kernel
theorem dX1_demandLot_13 : decode cX1_demandLot 13 = .ok (.dup, 1) := by decide +kernel
theorem dX1_demandLot_14 : decode cX1_demandLot 14 = .ok (.ldc 184, 2) := by decide +kernel
theorem dX1_demandLot_16 : decode cX1_demandLot 16 = .ok (.invokespecial 44, 3) := by decide +kernel
theorem dX1_demandLot_19 : decode cX1_demandLot 19 = .ok (.athrow, 1) := by decide +kernel
theorem dX1_demandLot_20 : decode cX1_demandLot 20 = .ok (.aload_n 2, 1) := by decide +kernel
theorem dX1_demandLot_21 : decode cX1_demandLot 21 = .ok (.areturn, 1) := by decide +kernel
theorem dX1_demandNotice_0 : decode cX1_demandNotice 0 = .ok (.aload_n 0, 1) := by decide +kernel
theorem dX1_demandNotice_1 : decode cX1_demandNotice 1 = .ok (.iload_n 1, 1) := by decide +kernel
theorem dX1_demandNotice_2 : decode cX1_demandNotice 2 = .ok (.invokevirtual 69, 3) := by decide +kernel
theorem dX1_demandNotice_5 : decode cX1_demandNotice 5 = .ok (.astore_n 2, 1) := by decide +kernel
theorem dX1_demandNotice_6 : decode cX1_demandNotice 6 = .ok (.aload_n 2, 1) := by decide +kernel
theorem dX1_demandNotice_7 : decode cX1_demandNotice 7 = .ok (.getfield 80, 3) := by decide +kernel
theorem dX1_demandNotice_10 : decode cX1_demandNotice 10 = .ok (.ifCond .ne 13, 3) := by decide +kernel
theorem dX1_demandNotice_13 : decode cX1_demandNotice 13 = .ok (.new 83, 3) := by decide +kernel
theorem dX1_demandNotice_16 : decode cX1_demandNotice 16 = .ok (.dup, 1) := by decide +kernel
theorem dX1_demandNotice_17 : decode cX1_demandNotice 17 = .ok (.ldc 186, 2) := by decide +kernel
theorem dX1_demandNotice_19 : decode cX1_demandNotice 19 = .ok (.invokespecial 87, 3) := by decide +kernel
theorem dX1_demandNotice_22 : decode cX1_demandNotice 22 = .ok (.athrow, 1) := by decide +kernel
theorem dX1_demandNotice_23 : decode cX1_demandNotice 23 = .ok (.aload_n 2, 1) := by decide +kernel
theorem dX1_demandNotice_24 : decode cX1_demandNotice 24 = .ok (.areturn, 1) := by decide +kernel
theorem dX1_canJoin_0 : decode cX1_canJoin 0 = .ok (.aload_n 0, 1) := by decide +kernel
theorem dX1_canJoin_1 : decode cX1_canJoin 1 = .ok (.invokevirtual 76, 3) := by decide +kernel
theorem dX1_canJoin_4 : decode cX1_canJoin 4 = .ok (.ifCond .eq 54, 3) := by decide +kernel
theorem dX1_canJoin_7 : decode cX1_canJoin 7 = .ok (.aload_n 1, 1) := by decide +kernel
theorem dX1_canJoin_8 : decode cX1_canJoin 8 = .ok (.invokevirtual 76, 3) := by decide +kernel
theorem dX1_canJoin_11 : decode cX1_canJoin 11 = .ok (.ifCond .eq 47, 3) := by decide +kernel
theorem dX1_canJoin_14 : decode cX1_canJoin 14 = .ok (.aload_n 0, 1) := by decide +kernel
theorem dX1_canJoin_15 : decode cX1_canJoin 15 = .ok (.getfield 167, 3) := by decide +kernel
theorem dX1_canJoin_18 : decode cX1_canJoin 18 = .ok (.aload_n 1, 1) := by decide +kernel
theorem dX1_canJoin_19 : decode cX1_canJoin 19 = .ok (.getfield 167, 3) := by decide +kernel
theorem dX1_canJoin_22 : decode cX1_canJoin 22 = .ok (.if_icmp .ne 36, 3) := by decide +kernel
theorem dX1_canJoin_25 : decode cX1_canJoin 25 = .ok (.aload_n 0, 1) := by decide +kernel
theorem dX1_canJoin_26 : decode cX1_canJoin 26 = .ok (.getfield 170, 3) := by decide +kernel
theorem dX1_canJoin_29 : decode cX1_canJoin 29 = .ok (.aload_n 1, 1) := by decide +kernel
theorem dX1_canJoin_30 : decode cX1_canJoin 30 = .ok (.getfield 170, 3) := by decide +kernel
theorem dX1_canJoin_33 : decode cX1_canJoin 33 = .ok (.if_icmp .ne 25, 3) := by decide +kernel
theorem dX1_canJoin_36 : decode cX1_canJoin 36 = .ok (.aload_n 0, 1) := by decide +kernel
theorem dX1_canJoin_37 : decode cX1_canJoin 37 = .ok (.getfield 73, 3) := by decide +kernel
theorem dX1_canJoin_40 : decode cX1_canJoin 40 = .ok (.i2l, 1) := by decide +kernel
theorem dX1_canJoin_41 : decode cX1_canJoin 41 = .ok (.aload_n 1, 1) := by decide +kernel
theorem dX1_canJoin_42 : decode cX1_canJoin 42 = .ok (.getfield 73, 3) := by decide +kernel
theorem dX1_canJoin_45 : decode cX1_canJoin 45 = .ok (.i2l, 1) := by decide +kernel
theorem dX1_canJoin_46 : decode cX1_canJoin 46 = .ok (.ladd, 1) := by decide +kernel
theorem dX1_canJoin_47 : decode cX1_canJoin 47 = .ok (.ldc2_w 188, 3) := by decide +kernel
theorem dX1_canJoin_50 : decode cX1_canJoin 50 = .ok (.lcmp, 1) := by decide +kernel
theorem dX1_canJoin_51 : decode cX1_canJoin 51 = .ok (.ifCond .gt 7, 3) := by decide +kernel
theorem dX1_canJoin_54 : decode cX1_canJoin 54 = .ok (.iconst 1, 1) := by decide +kernel
theorem dX1_canJoin_55 : decode cX1_canJoin 55 = .ok (.goto 4, 3) := by decide +kernel
theorem dX1_canJoin_58 : decode cX1_canJoin 58 = .ok (.iconst 0, 1) := by decide +kernel
theorem dX1_canJoin_59 : decode cX1_canJoin 59 = .ok (.ireturn, 1) := by decide +kernel
theorem dX1_lotAt_0 : decode cX1_lotAt 0 = .ok (.iload_n 1, 1) := by decide +kernel
theorem dX1_lotAt_1 : decode cX1_lotAt 1 = .ok (.ifCond .lt 12, 3) := by decide +kernel
theorem dX1_lotAt_4 : decode cX1_lotAt 4 = .ok (.iload_n 1, 1) := by decide +kernel
theorem dX1_lotAt_5 : decode cX1_lotAt 5 = .ok (.aload_n 0, 1) := by decide +kernel
theorem dX1_lotAt_6 : decode cX1_lotAt 6 = .ok (.getfield 22, 3) := by decide +kernel
theorem dX1_lotAt_9 : decode cX1_lotAt 9 = .ok (.arraylength, 1) := by decide +kernel
theorem dX1_lotAt_10 : decode cX1_lotAt 10 = .ok (.if_icmp .lt 5, 3) := by decide +kernel
theorem dX1_lotAt_13 : decode cX1_lotAt 13 = .ok (.aconst_null, 1) := by decide +kernel
theorem dX1_lotAt_14 : decode cX1_lotAt 14 = .ok (.areturn, 1) := by decide +kernel
theorem dX1_lotAt_15 : decode cX1_lotAt 15 = .ok (.aload_n 0, 1) := by decide +kernel
theorem dX1_lotAt_16 : decode cX1_lotAt 16 = .ok (.getfield 22, 3) := by decide +kernel
theorem dX1_lotAt_19 : decode cX1_lotAt 19 = .ok (.iload_n 1, 1) := by decide +kernel
theorem dX1_lotAt_20 : decode cX1_lotAt 20 = .ok (.aaload, 1) := by decide +kernel
theorem dX1_lotAt_21 : decode cX1_lotAt 21 = .ok (.astore_n 2, 1) := by decide +kernel
theorem dX1_lotAt_22 : decode cX1_lotAt 22 = .ok (.aload_n 2, 1) := by decide +kernel
theorem dX1_lotAt_23 : decode cX1_lotAt 23 = .ok (.ifnull 14, 3) := by decide +kernel
theorem dX1_lotAt_26 : decode cX1_lotAt 26 = .ok (.aload_n 2, 1) := by decide +kernel
theorem dX1_lotAt_27 : decode cX1_lotAt 27 = .ok (.getfield 73, 3) := by decide +kernel
theorem dX1_lotAt_30 : decode cX1_lotAt 30 = .ok (.ifCond .le 7, 3) := by decide +kernel
theorem dX1_lotAt_33 : decode cX1_lotAt 33 = .ok (.aload_n 2, 1) := by decide +kernel
theorem dX1_lotAt_34 : decode cX1_lotAt 34 = .ok (.goto 4, 3) := by decide +kernel
theorem dX1_lotAt_37 : decode cX1_lotAt 37 = .ok (.aconst_null, 1) := by decide +kernel
theorem dX1_lotAt_38 : decode cX1_lotAt 38 = .ok (.areturn, 1) := by decide +kernel
theorem dX1_noticeLotAt_0 : decode cX1_noticeLotAt 0 = .ok (.aload_n 0, 1) := by decide +kernel
theorem dX1_noticeLotAt_1 : decode cX1_noticeLotAt 1 = .ok (.iload_n 1, 1) := by decide +kernel
theorem dX1_noticeLotAt_2 : decode cX1_noticeLotAt 2 = .ok (.invokevirtual 164, 3) := by decide +kernel
theorem dX1_noticeLotAt_5 : decode cX1_noticeLotAt 5 = .ok (.astore_n 3, 1) := by decide +kernel
theorem dX1_noticeLotAt_6 : decode cX1_noticeLotAt 6 = .ok (.aload_n 3, 1) := by decide +kernel
theorem dX1_noticeLotAt_7 : decode cX1_noticeLotAt 7 = .ok (.ifnull 22, 3) := by decide +kernel
theorem dX1_noticeLotAt_10 : decode cX1_noticeLotAt 10 = .ok (.aload_n 3, 1) := by decide +kernel
theorem dX1_noticeLotAt_11 : decode cX1_noticeLotAt 11 = .ok (.invokevirtual 76, 3) := by decide +kernel
theorem dX1_noticeLotAt_14 : decode cX1_noticeLotAt 14 = .ok (.ifCond .ne 15, 3) := by decide +kernel
theorem dX1_noticeLotAt_17 : decode cX1_noticeLotAt 17 = .ok (.aload_n 3, 1) := by decide +kernel
theorem dX1_noticeLotAt_18 : decode cX1_noticeLotAt 18 = .ok (.getfield 167, 3) := by decide +kernel
theorem dX1_noticeLotAt_21 : decode cX1_noticeLotAt 21 = .ok (.iload_n 2, 1) := by decide +kernel
theorem dX1_noticeLotAt_22 : decode cX1_noticeLotAt 22 = .ok (.if_icmp .ne 7, 3) := by decide +kernel
theorem dX1_noticeLotAt_25 : decode cX1_noticeLotAt 25 = .ok (.aload_n 3, 1) := by decide +kernel
theorem dX1_noticeLotAt_26 : decode cX1_noticeLotAt 26 = .ok (.goto 4, 3) := by decide +kernel
theorem dX1_noticeLotAt_29 : decode cX1_noticeLotAt 29 = .ok (.aconst_null, 1) := by decide +kernel
theorem dX1_noticeLotAt_30 : decode cX1_noticeLotAt 30 = .ok (.areturn, 1) := by decide +kernel
theorem dX1_totalOf_0 : decode cX1_totalOf 0 = .ok (.iconst 0, 1) := by decide +kernel
theorem dX1_totalOf_1 : decode cX1_totalOf 1 = .ok (.istore_n 2, 1) := by decide +kernel
theorem dX1_totalOf_2 : decode cX1_totalOf 2 = .ok (.iconst 0, 1) := by decide +kernel
theorem dX1_totalOf_3 : decode cX1_totalOf 3 = .ok (.istore_n 3, 1) := by decide +kernel
theorem dX1_totalOf_4 : decode cX1_totalOf 4 = .ok (.iload_n 3, 1) := by decide +kernel
theorem dX1_totalOf_5 : decode cX1_totalOf 5 = .ok (.aload_n 0, 1) := by decide +kernel
theorem dX1_totalOf_6 : decode cX1_totalOf 6 = .ok (.getfield 34, 3) := by decide +kernel
theorem dX1_totalOf_9 : decode cX1_totalOf 9 = .ok (.if_icmp .ge 30, 3) := by decide +kernel
theorem dX1_totalOf_12 : decode cX1_totalOf 12 = .ok (.aload_n 0, 1) := by decide +kernel
theorem dX1_totalOf_13 : decode cX1_totalOf 13 = .ok (.iload_n 3, 1) := by decide +kernel
theorem dX1_totalOf_14 : decode cX1_totalOf 14 = .ok (.iload_n 1, 1) := by decide +kernel
theorem dX1_totalOf_15 : decode cX1_totalOf 15 = .ok (.invokevirtual 190, 3) := by decide +kernel
theorem dX1_totalOf_18 : decode cX1_totalOf 18 = .ok (.astore 4, 2) := by decide +kernel
theorem dX1_totalOf_20 : decode cX1_totalOf 20 = .ok (.aload 4, 2) := by decide +kernel
theorem dX1_totalOf_22 : decode cX1_totalOf 22 = .ok (.ifnull 11, 3) := by decide +kernel
theorem dX1_totalOf_25 : decode cX1_totalOf 25 = .ok (.iload_n 2, 1) := by decide +kernel
theorem dX1_totalOf_26 : decode cX1_totalOf 26 = .ok (.aload 4, 2) := by decide +kernel
theorem dX1_totalOf_28 : decode cX1_totalOf 28 = .ok (.getfield 73, 3) := by decide +kernel
theorem dX1_totalOf_31 : decode cX1_totalOf 31 = .ok (.iadd, 1) := by decide +kernel
theorem dX1_totalOf_32 : decode cX1_totalOf 32 = .ok (.istore_n 2, 1) := by decide +kernel
theorem dX1_totalOf_33 : decode cX1_totalOf 33 = .ok (.iinc 3 1, 3) := by decide +kernel
theorem dX1_totalOf_36 : decode cX1_totalOf 36 = .ok (.goto (-32), 3) := by decide +kernel
theorem dX1_totalOf_39 : decode cX1_totalOf 39 = .ok (.iload_n 2, 1) := by decide +kernel
theorem dX1_totalOf_40 : decode cX1_totalOf 40 = .ok (.ireturn, 1) := by decide +kernel
theorem dX1_unfrozenOf_0 : decode cX1_unfrozenOf 0 = .ok (.iconst 0, 1) := by decide +kernel
theorem dX1_unfrozenOf_1 : decode cX1_unfrozenOf 1 = .ok (.istore_n 2, 1) := by decide +kernel
theorem dX1_unfrozenOf_2 : decode cX1_unfrozenOf 2 = .ok (.iconst 0, 1) := by decide +kernel
theorem dX1_unfrozenOf_3 : decode cX1_unfrozenOf 3 = .ok (.istore_n 3, 1) := by decide +kernel
theorem dX1_unfrozenOf_4 : decode cX1_unfrozenOf 4 = .ok (.iload_n 3, 1) := by decide +kernel
theorem dX1_unfrozenOf_5 : decode cX1_unfrozenOf 5 = .ok (.aload_n 0, 1) := by decide +kernel
theorem dX1_unfrozenOf_6 : decode cX1_unfrozenOf 6 = .ok (.getfield 34, 3) := by decide +kernel
theorem dX1_unfrozenOf_9 : decode cX1_unfrozenOf 9 = .ok (.if_icmp .ge 30, 3) := by decide +kernel
theorem dX1_unfrozenOf_12 : decode cX1_unfrozenOf 12 = .ok (.aload_n 0, 1) := by decide +kernel
theorem dX1_unfrozenOf_13 : decode cX1_unfrozenOf 13 = .ok (.iload_n 3, 1) := by decide +kernel
theorem dX1_unfrozenOf_14 : decode cX1_unfrozenOf 14 = .ok (.iload_n 1, 1) := by decide +kernel
theorem dX1_unfrozenOf_15 : decode cX1_unfrozenOf 15 = .ok (.invokevirtual 190, 3) := by decide +kernel
theorem dX1_unfrozenOf_18 : decode cX1_unfrozenOf 18 = .ok (.astore 4, 2) := by decide +kernel
theorem dX1_unfrozenOf_20 : decode cX1_unfrozenOf 20 = .ok (.aload 4, 2) := by decide +kernel
theorem dX1_unfrozenOf_22 : decode cX1_unfrozenOf 22 = .ok (.ifnull 11, 3) := by decide +kernel
theorem dX1_unfrozenOf_25 : decode cX1_unfrozenOf 25 = .ok (.iload_n 2, 1) := by decide +kernel
theorem dX1_unfrozenOf_26 : decode cX1_unfrozenOf 26 = .ok (.aload 4, 2) := by decide +kernel
theorem dX1_unfrozenOf_28 : decode cX1_unfrozenOf 28 = .ok (.invokevirtual 113, 3) := by decide +kernel
theorem dX1_unfrozenOf_31 : decode cX1_unfrozenOf 31 = .ok (.iadd, 1) := by decide +kernel
theorem dX1_unfrozenOf_32 : decode cX1_unfrozenOf 32 = .ok (.istore_n 2, 1) := by decide +kernel
theorem dX1_unfrozenOf_33 : decode cX1_unfrozenOf 33 = .ok (.iinc 3 1, 3) := by decide +kernel
theorem dX1_unfrozenOf_36 : decode cX1_unfrozenOf 36 = .ok (.goto (-32), 3) := by decide +kernel
theorem dX1_unfrozenOf_39 : decode cX1_unfrozenOf 39 = .ok (.iload_n 2, 1) := by decide +kernel
theorem dX1_unfrozenOf_40 : decode cX1_unfrozenOf 40 = .ok (.ireturn, 1) := by decide +kernel
theorem dX1_leastHarmful_0 : decode cX1_leastHarmful 0 = .ok (.aconst_null, 1) := by decide +kernel
theorem dX1_leastHarmful_1 : decode cX1_leastHarmful 1 = .ok (.astore_n 2, 1) := by decide +kernel
theorem dX1_leastHarmful_2 : decode cX1_leastHarmful 2 = .ok (.iconst 0, 1) := by decide +kernel
theorem dX1_leastHarmful_3 : decode cX1_leastHarmful 3 = .ok (.istore_n 3, 1) := by decide +kernel
theorem dX1_leastHarmful_4 : decode cX1_leastHarmful 4 = .ok (.iload_n 3, 1) := by decide +kernel
theorem dX1_leastHarmful_5 : decode cX1_leastHarmful 5 = .ok (.aload_n 0, 1) := by decide +kernel
theorem dX1_leastHarmful_6 : decode cX1_leastHarmful 6 = .ok (.getfield 34, 3) := by decide +kernel
theorem dX1_leastHarmful_9 : decode cX1_leastHarmful 9 = .ok (.if_icmp .ge 46, 3) := by decide +kernel
theorem dX1_leastHarmful_12 : decode cX1_leastHarmful 12 = .ok (.aload_n 0, 1) := by decide +kernel
theorem dX1_leastHarmful_13 : decode cX1_leastHarmful 13 = .ok (.iload_n 3, 1) := by decide +kernel
theorem dX1_leastHarmful_14 : decode cX1_leastHarmful 14 = .ok (.iload_n 1, 1) := by decide +kernel
theorem dX1_leastHarmful_15 : decode cX1_leastHarmful 15 = .ok (.invokevirtual 190, 3) := by decide +kernel
theorem dX1_leastHarmful_18 : decode cX1_leastHarmful 18 = .ok (.astore 4, 2) := by decide +kernel
theorem dX1_leastHarmful_20 : decode cX1_leastHarmful 20 = .ok (.aload 4, 2) := by decide +kernel
theorem dX1_leastHarmful_22 : decode cX1_leastHarmful 22 = .ok (.ifnull 27, 3) := by decide +kernel
theorem dX1_leastHarmful_25 : decode cX1_leastHarmful 25 = .ok (.aload 4, 2) := by decide +kernel
theorem dX1_leastHarmful_27 : decode cX1_leastHarmful 27 = .ok (.invokevirtual 113, 3) := by decide +kernel
theorem dX1_leastHarmful_30 : decode cX1_leastHarmful 30 = .ok (.ifCond .le 19, 3) := by decide +kernel
theorem dX1_leastHarmful_33 : decode cX1_leastHarmful 33 = .ok (.aload_n 2, 1) := by decide +kernel
theorem dX1_leastHarmful_34 : decode cX1_leastHarmful 34 = .ok (.ifnull 12, 3) := by decide +kernel
theorem dX1_leastHarmful_37 : decode cX1_leastHarmful 37 = .ok (.aload 4, 2) := by decide +kernel
theorem dX1_leastHarmful_39 : decode cX1_leastHarmful 39 = .ok (.aload_n 2, 1) := by decide +kernel
theorem dX1_leastHarmful_40 : decode cX1_leastHarmful 40 = .ok (.invokestatic 194, 3) := by decide +kernel
theorem dX1_leastHarmful_43 : decode cX1_leastHarmful 43 = .ok (.ifCond .eq 6, 3) := by decide +kernel
theorem dX1_leastHarmful_46 : decode cX1_leastHarmful 46 = .ok (.aload 4, 2) := by decide +kernel
theorem dX1_leastHarmful_48 : decode cX1_leastHarmful 48 = .ok (.astore_n 2, 1) := by decide +kernel
theorem dX1_leastHarmful_49 : decode cX1_leastHarmful 49 = .ok (.iinc 3 1, 3) := by decide +kernel
theorem dX1_leastHarmful_52 : decode cX1_leastHarmful 52 = .ok (.goto (-48), 3) := by decide +kernel
theorem dX1_leastHarmful_55 : decode cX1_leastHarmful 55 = .ok (.aload_n 2, 1) := by decide +kernel
theorem dX1_leastHarmful_56 : decode cX1_leastHarmful 56 = .ok (.areturn, 1) := by decide +kernel
theorem dX1_harmsNoMore_0 : decode cX1_harmsNoMore 0 = .ok (.aload_n 0, 1) := by decide +kernel
theorem dX1_harmsNoMore_1 : decode cX1_harmsNoMore 1 = .ok (.getfield 153, 3) := by decide +kernel
theorem dX1_harmsNoMore_4 : decode cX1_harmsNoMore 4 = .ok (.aload_n 1, 1) := by decide +kernel
theorem dX1_harmsNoMore_5 : decode cX1_harmsNoMore 5 = .ok (.getfield 73, 3) := by decide +kernel
theorem dX1_harmsNoMore_8 : decode cX1_harmsNoMore 8 = .ok (.i2l, 1) := by decide +kernel
theorem dX1_harmsNoMore_9 : decode cX1_harmsNoMore 9 = .ok (.lmul, 1) := by decide +kernel
theorem dX1_harmsNoMore_10 : decode cX1_harmsNoMore 10 = .ok (.aload_n 1, 1) := by decide +kernel
theorem dX1_harmsNoMore_11 : decode cX1_harmsNoMore 11 = .ok (.getfield 153, 3) := by decide +kernel
theorem dX1_harmsNoMore_14 : decode cX1_harmsNoMore 14 = .ok (.aload_n 0, 1) := by decide +kernel
theorem dX1_harmsNoMore_15 : decode cX1_harmsNoMore 15 = .ok (.getfield 73, 3) := by decide +kernel
theorem dX1_harmsNoMore_18 : decode cX1_harmsNoMore 18 = .ok (.i2l, 1) := by decide +kernel
theorem dX1_harmsNoMore_19 : decode cX1_harmsNoMore 19 = .ok (.lmul, 1) := by decide +kernel
theorem dX1_harmsNoMore_20 : decode cX1_harmsNoMore 20 = .ok (.lcmp, 1) := by decide +kernel
theorem dX1_harmsNoMore_21 : decode cX1_harmsNoMore 21 = .ok (.ifCond .gt 7, 3) := by decide +kernel
theorem dX1_harmsNoMore_24 : decode cX1_harmsNoMore 24 = .ok (.iconst 1, 1) := by decide +kernel
theorem dX1_harmsNoMore_25 : decode cX1_harmsNoMore 25 = .ok (.goto 4, 3) := by decide +kernel
theorem dX1_harmsNoMore_28 : decode cX1_harmsNoMore 28 = .ok (.iconst 0, 1) := by decide +kernel
theorem dX1_harmsNoMore_29 : decode cX1_harmsNoMore 29 = .ok (.ireturn, 1) := by decide +kernel
theorem dX1_noteParts_0 : decode cX1_noteParts 0 = .ok (.aload_n 0, 1) := by decide +kernel
theorem dX1_noteParts_1 : decode cX1_noteParts 1 = .ok (.iload_n 1, 1) := by decide +kernel
theorem dX1_noteParts_2 : decode cX1_noteParts 2 = .ok (.invokevirtual 173, 3) := by decide +kernel
theorem dX1_noteParts_5 : decode cX1_noteParts 5 = .ok (.istore_n 2, 1) := by decide +kernel
theorem dX1_noteParts_6 : decode cX1_noteParts 6 = .ok (.iconst 0, 1) := by decide +kernel
theorem dX1_noteParts_7 : decode cX1_noteParts 7 = .ok (.istore_n 3, 1) := by decide +kernel
theorem dX1_noteParts_8 : decode cX1_noteParts 8 = .ok (.iconst 0, 1) := by decide +kernel
theorem dX1_noteParts_9 : decode cX1_noteParts 9 = .ok (.istore 4, 2) := by decide +kernel
theorem dX1_noteParts_11 : decode cX1_noteParts 11 = .ok (.iload 4, 2) := by decide +kernel
theorem dX1_noteParts_13 : decode cX1_noteParts 13 = .ok (.aload_n 0, 1) := by decide +kernel
theorem dX1_noteParts_14 : decode cX1_noteParts 14 = .ok (.getfield 34, 3) := by decide +kernel
theorem dX1_noteParts_17 : decode cX1_noteParts 17 = .ok (.if_icmp .ge 48, 3) := by decide +kernel
theorem dX1_noteParts_20 : decode cX1_noteParts 20 = .ok (.aload_n 0, 1) := by decide +kernel
theorem dX1_noteParts_21 : decode cX1_noteParts 21 = .ok (.iload 4, 2) := by decide +kernel
theorem dX1_noteParts_23 : decode cX1_noteParts 23 = .ok (.iload_n 1, 1) := by decide +kernel
theorem dX1_noteParts_24 : decode cX1_noteParts 24 = .ok (.invokevirtual 190, 3) := by decide +kernel
theorem dX1_noteParts_27 : decode cX1_noteParts 27 = .ok (.astore 5, 2) := by decide +kernel
theorem dX1_noteParts_29 : decode cX1_noteParts 29 = .ok (.aload 5, 2) := by decide +kernel
theorem dX1_noteParts_31 : decode cX1_noteParts 31 = .ok (.ifnull 28, 3) := by decide +kernel
theorem dX1_noteParts_34 : decode cX1_noteParts 34 = .ok (.iload_n 3, 1) := by decide +kernel
theorem dX1_noteParts_35 : decode cX1_noteParts 35 = .ok (.aload 5, 2) := by decide +kernel
theorem dX1_noteParts_37 : decode cX1_noteParts 37 = .ok (.getfield 73, 3) := by decide +kernel
theorem dX1_noteParts_40 : decode cX1_noteParts 40 = .ok (.iadd, 1) := by decide +kernel
theorem dX1_noteParts_41 : decode cX1_noteParts 41 = .ok (.istore 6, 2) := by decide +kernel
theorem dX1_noteParts_43 : decode cX1_noteParts 43 = .ok (.aload 5, 2) := by decide +kernel
theorem dX1_noteParts_45 : decode cX1_noteParts 45 = .ok (.aload_n 0, 1) := by decide +kernel
theorem dX1_noteParts_46 : decode cX1_noteParts 46 = .ok (.iload_n 3, 1) := by decide +kernel
theorem dX1_noteParts_47 : decode cX1_noteParts 47 = .ok (.iload 6, 2) := by decide +kernel
theorem dX1_noteParts_49 : decode cX1_noteParts 49 = .ok (.iload_n 2, 1) := by decide +kernel
theorem dX1_noteParts_50 : decode cX1_noteParts 50 = .ok (.invokevirtual 176, 3) := by decide +kernel
theorem dX1_noteParts_53 : decode cX1_noteParts 53 = .ok (.putfield 153, 3) := by decide +kernel
theorem dX1_noteParts_56 : decode cX1_noteParts 56 = .ok (.iload 6, 2) := by decide +kernel
theorem dX1_noteParts_58 : decode cX1_noteParts 58 = .ok (.istore_n 3, 1) := by decide +kernel
theorem dX1_noteParts_59 : decode cX1_noteParts 59 = .ok (.iinc 4 1, 3) := by decide +kernel
theorem dX1_noteParts_62 : decode cX1_noteParts 62 = .ok (.goto (-51), 3) := by decide +kernel
theorem dX1_noteParts_65 : decode cX1_noteParts 65 = .ok (.return_, 1) := by decide +kernel
theorem dX1_partsOfCents_0 : decode cX1_partsOfCents 0 = .ok (.aload_n 0, 1) := by decide +kernel
theorem dX1_partsOfCents_1 : decode cX1_partsOfCents 1 = .ok (.getfield 26, 3) := by decide +kernel
theorem dX1_partsOfCents_4 : decode cX1_partsOfCents 4 = .ok (.ifCond .eq 15, 3) := by decide +kernel
theorem dX1_partsOfCents_7 : decode cX1_partsOfCents 7 = .ok (.aload_n 0, 1) := by decide +kernel
theorem dX1_partsOfCents_8 : decode cX1_partsOfCents 8 = .ok (.iload_n 2, 1) := by decide +kernel
theorem dX1_partsOfCents_9 : decode cX1_partsOfCents 9 = .ok (.invokevirtual 197, 3) := by decide +kernel
theorem dX1_partsOfCents_12 : decode cX1_partsOfCents 12 = .ok (.aload_n 0, 1) := by decide +kernel
theorem dX1_partsOfCents_13 : decode cX1_partsOfCents 13 = .ok (.iload_n 1, 1) := by decide +kernel
theorem dX1_partsOfCents_14 : decode cX1_partsOfCents 14 = .ok (.invokevirtual 197, 3) := by decide +kernel
theorem dX1_partsOfCents_17 : decode cX1_partsOfCents 17 = .ok (.lsub, 1) := by decide +kernel
theorem dX1_partsOfCents_18 : decode cX1_partsOfCents 18 = .ok (.lreturn, 1) := by decide +kernel
theorem dX1_partsOfCents_19 : decode cX1_partsOfCents 19 = .ok (.iload_n 2, 1) := by decide +kernel
theorem dX1_partsOfCents_20 : decode cX1_partsOfCents 20 = .ok (.iload_n 1, 1) := by decide +kernel
theorem dX1_partsOfCents_21 : decode cX1_partsOfCents 21 = .ok (.isub, 1) := by decide +kernel
theorem dX1_partsOfCents_22 : decode cX1_partsOfCents 22 = .ok (.i2l, 1) := by decide +kernel
theorem dX1_partsOfCents_23 : decode cX1_partsOfCents 23 = .ok (.aload_n 0, 1) := by decide +kernel
theorem dX1_partsOfCents_24 : decode cX1_partsOfCents 24 = .ok (.iload_n 3, 1) := by decide +kernel
theorem dX1_partsOfCents_25 : decode cX1_partsOfCents 25 = .ok (.invokevirtual 201, 3) := by decide +kernel
theorem dX1_partsOfCents_28 : decode cX1_partsOfCents 28 = .ok (.i2l, 1) := by decide +kernel
theorem dX1_partsOfCents_29 : decode cX1_partsOfCents 29 = .ok (.lmul, 1) := by decide +kernel
theorem dX1_partsOfCents_30 : decode cX1_partsOfCents 30 = .ok (.lreturn, 1) := by decide +kernel
theorem dX1_partsByBands_0 : decode cX1_partsByBands 0 = .ok (.iload_n 1, 1) := by decide +kernel
theorem dX1_partsByBands_1 : decode cX1_partsByBands 1 = .ok (.ldc 204, 2) := by decide +kernel
theorem dX1_partsByBands_3 : decode cX1_partsByBands 3 = .ok (.invokestatic 117, 3) := by decide +kernel
theorem dX1_partsByBands_6 : decode cX1_partsByBands 6 = .ok (.istore_n 2, 1) := by decide +kernel
theorem dX1_partsByBands_7 : decode cX1_partsByBands 7 = .ok (.iload_n 1, 1) := by decide +kernel
theorem dX1_partsByBands_8 : decode cX1_partsByBands 8 = .ok (.ldc 205, 2) := by decide +kernel
theorem dX1_partsByBands_10 : decode cX1_partsByBands 10 = .ok (.invokestatic 117, 3) := by decide +kernel
theorem dX1_partsByBands_13 : decode cX1_partsByBands 13 = .ok (.iload_n 2, 1) := by decide +kernel
theorem dX1_partsByBands_14 : decode cX1_partsByBands 14 = .ok (.isub, 1) := by decide +kernel
theorem dX1_partsByBands_15 : decode cX1_partsByBands 15 = .ok (.istore_n 3, 1) := by decide +kernel
theorem dX1_partsByBands_16 : decode cX1_partsByBands 16 = .ok (.iload_n 1, 1) := by decide +kernel
theorem dX1_partsByBands_17 : decode cX1_partsByBands 17 = .ok (.iload_n 2, 1) := by decide +kernel
theorem dX1_partsByBands_18 : decode cX1_partsByBands 18 = .ok (.isub, 1) := by decide +kernel
theorem dX1_partsByBands_19 : decode cX1_partsByBands 19 = .ok (.iload_n 3, 1) := by decide +kernel
theorem dX1_partsByBands_20 : decode cX1_partsByBands 20 = .ok (.isub, 1) := by decide +kernel
theorem dX1_partsByBands_21 : decode cX1_partsByBands 21 = .ok (.istore 4, 2) := by decide +kernel
theorem dX1_partsByBands_23 : decode cX1_partsByBands 23 = .ok (.iload_n 2, 1) := by decide +kernel
theorem dX1_partsByBands_24 : decode cX1_partsByBands 24 = .ok (.i2l, 1) := by decide +kernel
theorem dX1_partsByBands_25 : decode cX1_partsByBands 25 = .ok (.aload_n 0, 1) := by decide +kernel
theorem dX1_partsByBands_26 : decode cX1_partsByBands 26 = .ok (.getfield 7, 3) := by decide +kernel
theorem dX1_partsByBands_29 : decode cX1_partsByBands 29 = .ok (.iconst 0, 1) := by decide +kernel
theorem dX1_partsByBands_30 : decode cX1_partsByBands 30 = .ok (.iaload, 1) := by decide +kernel
theorem dX1_partsByBands_31 : decode cX1_partsByBands 31 = .ok (.i2l, 1) := by decide +kernel
theorem dX1_partsByBands_32 : decode cX1_partsByBands 32 = .ok (.lmul, 1) := by decide +kernel
theorem dX1_partsByBands_33 : decode cX1_partsByBands 33 = .ok (.iload_n 3, 1) := by decide +kernel
theorem dX1_partsByBands_34 : decode cX1_partsByBands 34 = .ok (.i2l, 1) := by decide +kernel
theorem dX1_partsByBands_35 : decode cX1_partsByBands 35 = .ok (.aload_n 0, 1) := by decide +kernel
theorem dX1_partsByBands_36 : decode cX1_partsByBands 36 = .ok (.getfield 7, 3) := by decide +kernel
theorem dX1_partsByBands_39 : decode cX1_partsByBands 39 = .ok (.iconst 1, 1) := by decide +kernel
theorem dX1_partsByBands_40 : decode cX1_partsByBands 40 = .ok (.iaload, 1) := by decide +kernel
theorem dX1_partsByBands_41 : decode cX1_partsByBands 41 = .ok (.i2l, 1) := by decide +kernel
theorem dX1_partsByBands_42 : decode cX1_partsByBands 42 = .ok (.lmul, 1) := by decide +kernel
theorem dX1_partsByBands_43 : decode cX1_partsByBands 43 = .ok (.ladd, 1) := by decide +kernel
theorem dX1_partsByBands_44 : decode cX1_partsByBands 44 = .ok (.iload 4, 2) := by decide +kernel
theorem dX1_partsByBands_46 : decode cX1_partsByBands 46 = .ok (.i2l, 1) := by decide +kernel
theorem dX1_partsByBands_47 : decode cX1_partsByBands 47 = .ok (.aload_n 0, 1) := by decide +kernel
theorem dX1_partsByBands_48 : decode cX1_partsByBands 48 = .ok (.getfield 7, 3) := by decide +kernel
theorem dX1_partsByBands_51 : decode cX1_partsByBands 51 = .ok (.iconst 2, 1) := by decide +kernel
theorem dX1_partsByBands_52 : decode cX1_partsByBands 52 = .ok (.iaload, 1) := by decide +kernel
theorem dX1_partsByBands_53 : decode cX1_partsByBands 53 = .ok (.i2l, 1) := by decide +kernel
theorem dX1_partsByBands_54 : decode cX1_partsByBands 54 = .ok (.lmul, 1) := by decide +kernel
theorem dX1_partsByBands_55 : decode cX1_partsByBands 55 = .ok (.ladd, 1) := by decide +kernel
theorem dX1_partsByBands_56 : decode cX1_partsByBands 56 = .ok (.lreturn, 1) := by decide +kernel
theorem dX1_rateByWholeSum_0 : decode cX1_rateByWholeSum 0 = .ok (.iload_n 1, 1) := by decide +kernel
theorem dX1_rateByWholeSum_1 : decode cX1_rateByWholeSum 1 = .ok (.iconst 1, 1) := by decide +kernel
theorem dX1_rateByWholeSum_2 : decode cX1_rateByWholeSum 2 = .ok (.isub, 1) := by decide +kernel
theorem dX1_rateByWholeSum_3 : decode cX1_rateByWholeSum 3 = .ok (.istore_n 2, 1) := by decide +kernel
theorem dX1_rateByWholeSum_4 : decode cX1_rateByWholeSum 4 = .ok (.iload_n 2, 1) := by decide +kernel
theorem dX1_rateByWholeSum_5 : decode cX1_rateByWholeSum 5 = .ok (.ldc 204, 2) := by decide +kernel
theorem dX1_rateByWholeSum_7 : decode cX1_rateByWholeSum 7 = .ok (.if_icmp .ge 10, 3) := by decide +kernel
theorem dX1_rateByWholeSum_10 : decode cX1_rateByWholeSum 10 = .ok (.aload_n 0, 1) := by decide +kernel
theorem dX1_rateByWholeSum_11 : decode cX1_rateByWholeSum 11 = .ok (.getfield 7, 3) := by decide +kernel
theorem dX1_rateByWholeSum_14 : decode cX1_rateByWholeSum 14 = .ok (.iconst 0, 1) := by decide +kernel
theorem dX1_rateByWholeSum_15 : decode cX1_rateByWholeSum 15 = .ok (.iaload, 1) := by decide +kernel
theorem dX1_rateByWholeSum_16 : decode cX1_rateByWholeSum 16 = .ok (.ireturn, 1) := by decide +kernel
theorem dX1_rateByWholeSum_17 : decode cX1_rateByWholeSum 17 = .ok (.iload_n 2, 1) := by decide +kernel
theorem dX1_rateByWholeSum_18 : decode cX1_rateByWholeSum 18 = .ok (.ldc 205, 2) := by decide +kernel
theorem dX1_rateByWholeSum_20 : decode cX1_rateByWholeSum 20 = .ok (.if_icmp .ge 12, 3) := by decide +kernel
theorem dX1_rateByWholeSum_23 : decode cX1_rateByWholeSum 23 = .ok (.aload_n 0, 1) := by decide +kernel
theorem dX1_rateByWholeSum_24 : decode cX1_rateByWholeSum 24 = .ok (.getfield 7, 3) := by decide +kernel
theorem dX1_rateByWholeSum_27 : decode cX1_rateByWholeSum 27 = .ok (.iconst 1, 1) := by decide +kernel
theorem dX1_rateByWholeSum_28 : decode cX1_rateByWholeSum 28 = .ok (.iaload, 1) := by decide +kernel
theorem dX1_rateByWholeSum_29 : decode cX1_rateByWholeSum 29 = .ok (.goto 9, 3) := by decide +kernel
theorem dX1_rateByWholeSum_32 : decode cX1_rateByWholeSum 32 = .ok (.aload_n 0, 1) := by decide +kernel
theorem dX1_rateByWholeSum_33 : decode cX1_rateByWholeSum 33 = .ok (.getfield 7, 3) := by decide +kernel
theorem dX1_rateByWholeSum_36 : decode cX1_rateByWholeSum 36 = .ok (.iconst 2, 1) := by decide +kernel
theorem dX1_rateByWholeSum_37 : decode cX1_rateByWholeSum 37 = .ok (.iaload, 1) := by decide +kernel
theorem dX1_rateByWholeSum_38 : decode cX1_rateByWholeSum 38 = .ok (.ireturn, 1) := by decide +kernel
theorem dX1_payOut_0 : decode cX1_payOut 0 = .ok (.aload_n 1, 1) := by decide +kernel
theorem dX1_payOut_1 : decode cX1_payOut 1 = .ok (.dup, 1) := by decide +kernel
theorem dX1_payOut_2 : decode cX1_payOut 2 = .ok (.getfield 73, 3) := by decide +kernel
theorem dX1_payOut_5 : decode cX1_payOut 5 = .ok (.iload_n 2, 1) := by decide +kernel
theorem dX1_payOut_6 : decode cX1_payOut 6 = .ok (.isub, 1) := by decide +kernel
theorem dX1_payOut_7 : decode cX1_payOut 7 = .ok (.putfield 73, 3) := by decide +kernel
theorem dX1_payOut_10 : decode cX1_payOut 10 = .ok (.aload_n 0, 1) := by decide +kernel
theorem dX1_payOut_11 : decode cX1_payOut 11 = .ok (.aload_n 1, 1) := by decide +kernel
theorem dX1_payOut_12 : decode cX1_payOut 12 = .ok (.getfield 167, 3) := by decide +kernel
theorem dX1_payOut_15 : decode cX1_payOut 15 = .ok (.iload_n 2, 1) := by decide +kernel
theorem dX1_payOut_16 : decode cX1_payOut 16 = .ok (.invokevirtual 206, 3) := by decide +kernel
theorem dX1_payOut_19 : decode cX1_payOut 19 = .ok (.aload_n 1, 1) := by decide +kernel
theorem dX1_payOut_20 : decode cX1_payOut 20 = .ok (.getfield 73, 3) := by decide +kernel
theorem dX1_payOut_23 : decode cX1_payOut 23 = .ok (.ifCond .le 5, 3) := by decide +kernel
theorem dX1_payOut_26 : decode cX1_payOut 26 = .ok (.iload_n 2, 1) := by decide +kernel
theorem dX1_payOut_27 : decode cX1_payOut 27 = .ok (.ireturn, 1) := by decide +kernel
theorem dX1_payOut_28 : decode cX1_payOut 28 = .ok (.aload_n 0, 1) := by decide +kernel
theorem dX1_payOut_29 : decode cX1_payOut 29 = .ok (.aload_n 1, 1) := by decide +kernel
theorem dX1_payOut_30 : decode cX1_payOut 30 = .ok (.invokevirtual 210, 3) := by decide +kernel
theorem dX1_payOut_33 : decode cX1_payOut 33 = .ok (.istore_n 3, 1) := by decide +kernel
theorem dX1_payOut_34 : decode cX1_payOut 34 = .ok (.aload_n 0, 1) := by decide +kernel
theorem dX1_payOut_35 : decode cX1_payOut 35 = .ok (.aload_n 1, 1) := by decide +kernel
theorem dX1_payOut_36 : decode cX1_payOut 36 = .ok (.aload_n 1, 1) := by decide +kernel
theorem dX1_payOut_37 : decode cX1_payOut 37 = .ok (.getfield 138, 3) := by decide +kernel
theorem dX1_payOut_40 : decode cX1_payOut 40 = .ok (.invokevirtual 127, 3) := by decide +kernel
theorem dX1_payOut_43 : decode cX1_payOut 43 = .ok (.iload_n 2, 1) := by decide +kernel
theorem dX1_payOut_44 : decode cX1_payOut 44 = .ok (.iload_n 3, 1) := by decide +kernel
theorem dX1_payOut_45 : decode cX1_payOut 45 = .ok (.iadd, 1) := by decide +kernel
theorem dX1_payOut_46 : decode cX1_payOut 46 = .ok (.ireturn, 1) := by decide +kernel
theorem dX1_payInterest_0 : decode cX1_payInterest 0 = .ok (.aload_n 1, 1) := by decide +kernel
theorem dX1_payInterest_1 : decode cX1_payInterest 1 = .ok (.invokevirtual 213, 3) := by decide +kernel
theorem dX1_payInterest_4 : decode cX1_payInterest 4 = .ok (.istore_n 2, 1) := by decide +kernel
theorem dX1_payInterest_5 : decode cX1_payInterest 5 = .ok (.aload_n 0, 1) := by decide +kernel
theorem dX1_payInterest_6 : decode cX1_payInterest 6 = .ok (.aload_n 1, 1) := by decide +kernel
theorem dX1_payInterest_7 : decode cX1_payInterest 7 = .ok (.getfield 167, 3) := by decide +kernel
theorem dX1_payInterest_10 : decode cX1_payInterest 10 = .ok (.iload_n 2, 1) := by decide +kernel
theorem dX1_payInterest_11 : decode cX1_payInterest 11 = .ok (.invokevirtual 206, 3) := by decide +kernel
theorem dX1_payInterest_14 : decode cX1_payInterest 14 = .ok (.iload_n 2, 1) := by decide +kernel
theorem dX1_payInterest_15 : decode cX1_payInterest 15 = .ok (.ireturn, 1) := by decide +kernel
theorem dX1_notePaid_0 : decode cX1_notePaid 0 = .ok (.iload_n 1, 1) := by decide +kernel
theorem dX1_notePaid_1 : decode cX1_notePaid 1 = .ok (.ifCond .lt 23, 3) := by decide +kernel
theorem dX1_notePaid_4 : decode cX1_notePaid 4 = .ok (.iload_n 1, 1) := by decide +kernel
theorem dX1_notePaid_5 : decode cX1_notePaid 5 = .ok (.aload_n 0, 1) := by decide +kernel
theorem dX1_notePaid_6 : decode cX1_notePaid 6 = .ok (.getfield 13, 3) := by decide +kernel
theorem dX1_notePaid_9 : decode cX1_notePaid 9 = .ok (.arraylength, 1) := by decide +kernel
theorem dX1_notePaid_10 : decode cX1_notePaid 10 = .ok (.if_icmp .ge 14, 3) := by decide +kernel
theorem dX1_notePaid_13 : decode cX1_notePaid 13 = .ok (.aload_n 0, 1) := by decide +kernel
theorem dX1_notePaid_14 : decode cX1_notePaid 14 = .ok (.getfield 13, 3) := by decide +kernel
theorem dX1_notePaid_17 : decode cX1_notePaid 17 = .ok (.iload_n 1, 1) := by decide +kernel
theorem dX1_notePaid_18 : decode cX1_notePaid 18 = .ok (.dup2, 1) := by decide +kernel
theorem dX1_notePaid_19 : decode cX1_notePaid 19 = .ok (.laload, 1) := by decide +kernel
theorem dX1_notePaid_20 : decode cX1_notePaid 20 = .ok (.iload_n 2, 1) := by decide +kernel
theorem dX1_notePaid_21 : decode cX1_notePaid 21 = .ok (.i2l, 1) := by decide +kernel
theorem dX1_notePaid_22 : decode cX1_notePaid 22 = .ok (.ladd, 1) := by decide +kernel
theorem dX1_notePaid_23 : decode cX1_notePaid 23 = .ok (.lastore, 1) := by decide +kernel
theorem dX1_notePaid_24 : decode cX1_notePaid 24 = .ok (.return_, 1) := by decide +kernel
theorem dX1_lose_0 : decode cX1_lose 0 = .ok (.aload_n 1, 1) := by decide +kernel
theorem dX1_lose_1 : decode cX1_lose 1 = .ok (.dup, 1) := by decide +kernel
theorem dX1_lose_2 : decode cX1_lose 2 = .ok (.getfield 138, 3) := by decide +kernel
theorem dX1_lose_5 : decode cX1_lose 5 = .ok (.lload_n 2, 1) := by decide +kernel
theorem dX1_lose_6 : decode cX1_lose 6 = .ok (.lsub, 1) := by decide +kernel
theorem dX1_lose_7 : decode cX1_lose 7 = .ok (.putfield 138, 3) := by decide +kernel
theorem dX1_lose_10 : decode cX1_lose 10 = .ok (.aload_n 1, 1) := by decide +kernel
theorem dX1_lose_11 : decode cX1_lose 11 = .ok (.getfield 167, 3) := by decide +kernel
theorem dX1_lose_14 : decode cX1_lose 14 = .ok (.istore 4, 2) := by decide +kernel
theorem dX1_lose_16 : decode cX1_lose 16 = .ok (.iload 4, 2) := by decide +kernel
theorem dX1_lose_18 : decode cX1_lose 18 = .ok (.ifCond .lt 24, 3) := by decide +kernel
theorem dX1_lose_21 : decode cX1_lose 21 = .ok (.iload 4, 2) := by decide +kernel
theorem dX1_lose_23 : decode cX1_lose 23 = .ok (.aload_n 0, 1) := by decide +kernel
theorem dX1_lose_24 : decode cX1_lose 24 = .ok (.getfield 17, 3) := by decide +kernel
theorem dX1_lose_27 : decode cX1_lose 27 = .ok (.arraylength, 1) := by decide +kernel
theorem dX1_lose_28 : decode cX1_lose 28 = .ok (.if_icmp .ge 14, 3) := by decide +kernel
theorem dX1_lose_31 : decode cX1_lose 31 = .ok (.aload_n 0, 1) := by decide +kernel
theorem dX1_lose_32 : decode cX1_lose 32 = .ok (.getfield 17, 3) := by decide +kernel
theorem dX1_lose_35 : decode cX1_lose 35 = .ok (.iload 4, 2) := by decide +kernel
theorem dX1_lose_37 : decode cX1_lose 37 = .ok (.dup2, 1) := by decide +kernel
theorem dX1_lose_38 : decode cX1_lose 38 = .ok (.laload, 1) := by decide +kernel
theorem dX1_lose_39 : decode cX1_lose 39 = .ok (.lload_n 2, 1) := by decide +kernel
theorem dX1_lose_40 : decode cX1_lose 40 = .ok (.ladd, 1) := by decide +kernel
theorem dX1_lose_41 : decode cX1_lose 41 = .ok (.lastore, 1) := by decide +kernel
theorem dX1_lose_42 : decode cX1_lose 42 = .ok (.return_, 1) := by decide +kernel
theorem dX1_lossByEarly_0 : decode cX1_lossByEarly 0 = .ok (.aload_n 0, 1) := by decide +kernel
theorem dX1_lossByEarly_1 : decode cX1_lossByEarly 1 = .ok (.getfield 73, 3) := by decide +kernel
theorem dX1_lossByEarly_4 : decode cX1_lossByEarly 4 = .ok (.ifCond .gt 5, 3) := by decide +kernel
theorem dX1_lossByEarly_7 : decode cX1_lossByEarly 7 = .ok (.lconst 0, 1) := by decide +kernel
theorem dX1_lossByEarly_8 : decode cX1_lossByEarly 8 = .ok (.lreturn, 1) := by decide +kernel
theorem dX1_lossByEarly_9 : decode cX1_lossByEarly 9 = .ok (.ldc2_w 216, 3) := by decide +kernel
theorem dX1_lossByEarly_12 : decode cX1_lossByEarly 12 = .ok (.aload_n 0, 1) := by decide +kernel
theorem dX1_lossByEarly_13 : decode cX1_lossByEarly 13 = .ok (.getfield 153, 3) := by decide +kernel
theorem dX1_lossByEarly_16 : decode cX1_lossByEarly 16 = .ok (.lmul, 1) := by decide +kernel
theorem dX1_lossByEarly_17 : decode cX1_lossByEarly 17 = .ok (.iload_n 1, 1) := by decide +kernel
theorem dX1_lossByEarly_18 : decode cX1_lossByEarly 18 = .ok (.i2l, 1) := by decide +kernel
theorem dX1_lossByEarly_19 : decode cX1_lossByEarly 19 = .ok (.lmul, 1) := by decide +kernel
theorem dX1_lossByEarly_20 : decode cX1_lossByEarly 20 = .ok (.aload_n 0, 1) := by decide +kernel
theorem dX1_lossByEarly_21 : decode cX1_lossByEarly 21 = .ok (.getfield 73, 3) := by decide +kernel
theorem dX1_lossByEarly_24 : decode cX1_lossByEarly 24 = .ok (.i2l, 1) := by decide +kernel
theorem dX1_lossByEarly_25 : decode cX1_lossByEarly 25 = .ok (.ldiv, 1) := by decide +kernel
theorem dX1_lossByEarly_26 : decode cX1_lossByEarly 26 = .ok (.lstore_n 2, 1) := by decide +kernel
theorem dX1_lossByEarly_27 : decode cX1_lossByEarly 27 = .ok (.lload_n 2, 1) := by decide +kernel
theorem dX1_lossByEarly_28 : decode cX1_lossByEarly 28 = .ok (.aload_n 0, 1) := by decide +kernel
theorem dX1_lossByEarly_29 : decode cX1_lossByEarly 29 = .ok (.getfield 138, 3) := by decide +kernel
theorem dX1_lossByEarly_32 : decode cX1_lossByEarly 32 = .ok (.invokestatic 218, 3) := by decide +kernel
theorem dX1_lossByEarly_35 : decode cX1_lossByEarly 35 = .ok (.lreturn, 1) := by decide +kernel
theorem dX1_enter_0 : decode cX1_enter 0 = .ok (.aload_n 0, 1) := by decide +kernel
theorem dX1_enter_1 : decode cX1_enter 1 = .ok (.getfield 34, 3) := by decide +kernel
theorem dX1_enter_4 : decode cX1_enter 4 = .ok (.istore_n 2, 1) := by decide +kernel
theorem dX1_enter_5 : decode cX1_enter 5 = .ok (.iload_n 2, 1) := by decide +kernel
theorem dX1_enter_6 : decode cX1_enter 6 = .ok (.ifCond .lt 12, 3) := by decide +kernel
theorem dX1_enter_9 : decode cX1_enter 9 = .ok (.iload_n 2, 1) := by decide +kernel
theorem dX1_enter_10 : decode cX1_enter 10 = .ok (.aload_n 0, 1) := by decide +kernel
theorem dX1_enter_11 : decode cX1_enter 11 = .ok (.getfield 22, 3) := by decide +kernel
theorem dX1_enter_14 : decode cX1_enter 14 = .ok (.arraylength, 1) := by decide +kernel
theorem dX1_enter_15 : decode cX1_enter 15 = .ok (.if_icmp .lt 13, 3) := by decide +kernel
theorem dX1_enter_18 : decode cX1_enter 18 = .ok (.new 83, 3) := by decide +kernel
theorem dX1_enter_21 : decode cX1_enter 21 = .ok (.dup, 1) := by decide +kernel
theorem dX1_enter_22 : decode cX1_enter 22 = .ok (.ldc 221, 2) := by decide +kernel
theorem dX1_enter_24 : decode cX1_enter 24 = .ok (.invokespecial 87, 3) := by decide +kernel
theorem dX1_enter_27 : decode cX1_enter 27 = .ok (.athrow, 1) := by decide +kernel
theorem dX1_enter_28 : decode cX1_enter 28 = .ok (.aload_n 0, 1) := by decide +kernel
theorem dX1_enter_29 : decode cX1_enter 29 = .ok (.getfield 22, 3) := by decide +kernel
theorem dX1_enter_32 : decode cX1_enter 32 = .ok (.iload_n 2, 1) := by decide +kernel
theorem dX1_enter_33 : decode cX1_enter 33 = .ok (.aload_n 1, 1) := by decide +kernel
theorem dX1_enter_34 : decode cX1_enter 34 = .ok (.aastore, 1) := by decide +kernel
theorem dX1_enter_35 : decode cX1_enter 35 = .ok (.aload_n 0, 1) := by decide +kernel
theorem dX1_enter_36 : decode cX1_enter 36 = .ok (.dup, 1) := by decide +kernel
theorem dX1_enter_37 : decode cX1_enter 37 = .ok (.getfield 34, 3) := by decide +kernel
theorem dX1_enter_40 : decode cX1_enter 40 = .ok (.iconst 1, 1) := by decide +kernel
theorem dX1_enter_41 : decode cX1_enter 41 = .ok (.iadd, 1) := by decide +kernel
theorem dX1_enter_42 : decode cX1_enter 42 = .ok (.putfield 34, 3) := by decide +kernel
theorem dX1_enter_45 : decode cX1_enter 45 = .ok (.iload_n 2, 1) := by decide +kernel
theorem dX1_enter_46 : decode cX1_enter 46 = .ok (.ireturn, 1) := by decide +kernel
theorem dX1_beginTerm_0 : decode cX1_beginTerm 0 = .ok (.aload_n 1, 1) := by decide +kernel
theorem dX1_beginTerm_1 : decode cX1_beginTerm 1 = .ok (.aload_n 1, 1) := by decide +kernel
theorem dX1_beginTerm_2 : decode cX1_beginTerm 2 = .ok (.getfield 73, 3) := by decide +kernel
theorem dX1_beginTerm_5 : decode cX1_beginTerm 5 = .ok (.i2l, 1) := by decide +kernel
theorem dX1_beginTerm_6 : decode cX1_beginTerm 6 = .ok (.aload_n 0, 1) := by decide +kernel
theorem dX1_beginTerm_7 : decode cX1_beginTerm 7 = .ok (.getfield 30, 3) := by decide +kernel
theorem dX1_beginTerm_10 : decode cX1_beginTerm 10 = .ok (.i2l, 1) := by decide +kernel
theorem dX1_beginTerm_11 : decode cX1_beginTerm 11 = .ok (.lmul, 1) := by decide +kernel
theorem dX1_beginTerm_12 : decode cX1_beginTerm 12 = .ok (.putfield 153, 3) := by decide +kernel
theorem dX1_beginTerm_15 : decode cX1_beginTerm 15 = .ok (.aload_n 1, 1) := by decide +kernel
theorem dX1_beginTerm_16 : decode cX1_beginTerm 16 = .ok (.aload_n 0, 1) := by decide +kernel
theorem dX1_beginTerm_17 : decode cX1_beginTerm 17 = .ok (.getfield 37, 3) := by decide +kernel
theorem dX1_beginTerm_20 : decode cX1_beginTerm 20 = .ok (.aload_n 1, 1) := by decide +kernel
theorem dX1_beginTerm_21 : decode cX1_beginTerm 21 = .ok (.getfield 223, 3) := by decide +kernel
theorem dX1_beginTerm_24 : decode cX1_beginTerm 24 = .ok (.iadd, 1) := by decide +kernel
theorem dX1_beginTerm_25 : decode cX1_beginTerm 25 = .ok (.putfield 170, 3) := by decide +kernel
theorem dX1_beginTerm_28 : decode cX1_beginTerm 28 = .ok (.return_, 1) := by decide +kernel
theorem dX1_earnOneDay_0 : decode cX1_earnOneDay 0 = .ok (.iconst 0, 1) := by decide +kernel
theorem dX1_earnOneDay_1 : decode cX1_earnOneDay 1 = .ok (.istore_n 1, 1) := by decide +kernel
theorem dX1_earnOneDay_2 : decode cX1_earnOneDay 2 = .ok (.iload_n 1, 1) := by decide +kernel
theorem dX1_earnOneDay_3 : decode cX1_earnOneDay 3 = .ok (.aload_n 0, 1) := by decide +kernel
theorem dX1_earnOneDay_4 : decode cX1_earnOneDay 4 = .ok (.getfield 34, 3) := by decide +kernel
theorem dX1_earnOneDay_7 : decode cX1_earnOneDay 7 = .ok (.if_icmp .ge 32, 3) := by decide +kernel
theorem dX1_earnOneDay_10 : decode cX1_earnOneDay 10 = .ok (.aload_n 0, 1) := by decide +kernel
theorem dX1_earnOneDay_11 : decode cX1_earnOneDay 11 = .ok (.iload_n 1, 1) := by decide +kernel
theorem dX1_earnOneDay_12 : decode cX1_earnOneDay 12 = .ok (.invokevirtual 164, 3) := by decide +kernel
theorem dX1_earnOneDay_15 : decode cX1_earnOneDay 15 = .ok (.astore_n 2, 1) := by decide +kernel
theorem dX1_earnOneDay_16 : decode cX1_earnOneDay 16 = .ok (.aload_n 2, 1) := by decide +kernel
theorem dX1_earnOneDay_17 : decode cX1_earnOneDay 17 = .ok (.ifnull 16, 3) := by decide +kernel
theorem dX1_earnOneDay_20 : decode cX1_earnOneDay 20 = .ok (.aload_n 2, 1) := by decide +kernel
theorem dX1_earnOneDay_21 : decode cX1_earnOneDay 21 = .ok (.dup, 1) := by decide +kernel
theorem dX1_earnOneDay_22 : decode cX1_earnOneDay 22 = .ok (.getfield 138, 3) := by decide +kernel
theorem dX1_earnOneDay_25 : decode cX1_earnOneDay 25 = .ok (.aload_n 2, 1) := by decide +kernel
theorem dX1_earnOneDay_26 : decode cX1_earnOneDay 26 = .ok (.getfield 153, 3) := by decide +kernel
theorem dX1_earnOneDay_29 : decode cX1_earnOneDay 29 = .ok (.ladd, 1) := by decide +kernel
theorem dX1_earnOneDay_30 : decode cX1_earnOneDay 30 = .ok (.putfield 138, 3) := by decide +kernel
theorem dX1_earnOneDay_33 : decode cX1_earnOneDay 33 = .ok (.iinc 1 1, 3) := by decide +kernel
theorem dX1_earnOneDay_36 : decode cX1_earnOneDay 36 = .ok (.goto (-34), 3) := by decide +kernel
theorem dX1_earnOneDay_39 : decode cX1_earnOneDay 39 = .ok (.return_, 1) := by decide +kernel
theorem dX1_beginDay_0 : decode cX1_beginDay 0 = .ok (.iconst 0, 1) := by decide +kernel
theorem dX1_beginDay_1 : decode cX1_beginDay 1 = .ok (.istore_n 1, 1) := by decide +kernel
theorem dX1_beginDay_2 : decode cX1_beginDay 2 = .ok (.iconst 0, 1) := by decide +kernel
theorem dX1_beginDay_3 : decode cX1_beginDay 3 = .ok (.istore_n 2, 1) := by decide +kernel
theorem dX1_beginDay_4 : decode cX1_beginDay 4 = .ok (.iload_n 2, 1) := by decide +kernel
theorem dX1_beginDay_5 : decode cX1_beginDay 5 = .ok (.aload_n 0, 1) := by decide +kernel
theorem dX1_beginDay_6 : decode cX1_beginDay 6 = .ok (.getfield 34, 3) := by decide +kernel
theorem dX1_beginDay_9 : decode cX1_beginDay 9 = .ok (.if_icmp .ge 57, 3) := by decide +kernel
theorem dX1_beginDay_12 : decode cX1_beginDay 12 = .ok (.aload_n 0, 1) := by decide +kernel
theorem dX1_beginDay_13 : decode cX1_beginDay 13 = .ok (.iload_n 2, 1) := by decide +kernel
theorem dX1_beginDay_14 : decode cX1_beginDay 14 = .ok (.invokevirtual 164, 3) := by decide +kernel
theorem dX1_beginDay_17 : decode cX1_beginDay 17 = .ok (.astore_n 3, 1) := by decide +kernel
theorem dX1_beginDay_18 : decode cX1_beginDay 18 = .ok (.aload_n 3, 1) := by decide +kernel
theorem dX1_beginDay_19 : decode cX1_beginDay 19 = .ok (.ifnull 41, 3) := by decide +kernel
theorem dX1_beginDay_22 : decode cX1_beginDay 22 = .ok (.aload_n 0, 1) := by decide +kernel
theorem dX1_beginDay_23 : decode cX1_beginDay 23 = .ok (.getfield 37, 3) := by decide +kernel
theorem dX1_beginDay_26 : decode cX1_beginDay 26 = .ok (.aload_n 3, 1) := by decide +kernel
theorem dX1_beginDay_27 : decode cX1_beginDay 27 = .ok (.getfield 88, 3) := by decide +kernel
theorem dX1_beginDay_30 : decode cX1_beginDay 30 = .ok (.bipush 7, 2) := by decide +kernel
theorem dX1_beginDay_32 : decode cX1_beginDay 32 = .ok (.iadd, 1) := by decide +kernel
theorem dX1_beginDay_33 : decode cX1_beginDay 33 = .ok (.if_icmp .lt 8, 3) := by decide +kernel
theorem dX1_beginDay_36 : decode cX1_beginDay 36 = .ok (.aload_n 3, 1) := by decide +kernel
theorem dX1_beginDay_37 : decode cX1_beginDay 37 = .ok (.iconst 0, 1) := by decide +kernel
theorem dX1_beginDay_38 : decode cX1_beginDay 38 = .ok (.putfield 80, 3) := by decide +kernel
theorem dX1_beginDay_41 : decode cX1_beginDay 41 = .ok (.aload_n 3, 1) := by decide +kernel
theorem dX1_beginDay_42 : decode cX1_beginDay 42 = .ok (.getfield 170, 3) := by decide +kernel
theorem dX1_beginDay_45 : decode cX1_beginDay 45 = .ok (.aload_n 0, 1) := by decide +kernel
theorem dX1_beginDay_46 : decode cX1_beginDay 46 = .ok (.getfield 37, 3) := by decide +kernel
theorem dX1_beginDay_49 : decode cX1_beginDay 49 = .ok (.if_icmp .ne 11, 3) := by decide +kernel
theorem dX1_beginDay_52 : decode cX1_beginDay 52 = .ok (.aload_n 0, 1) := by decide +kernel
theorem dX1_beginDay_53 : decode cX1_beginDay 53 = .ok (.aload_n 3, 1) := by decide +kernel
theorem dX1_beginDay_54 : decode cX1_beginDay 54 = .ok (.invokevirtual 226, 3) := by decide +kernel
theorem dX1_beginDay_57 : decode cX1_beginDay 57 = .ok (.iinc 1 1, 3) := by decide +kernel
theorem dX1_beginDay_60 : decode cX1_beginDay 60 = .ok (.iinc 2 1, 3) := by decide +kernel
theorem dX1_beginDay_63 : decode cX1_beginDay 63 = .ok (.goto (-59), 3) := by decide +kernel
theorem dX1_beginDay_66 : decode cX1_beginDay 66 = .ok (.iload_n 1, 1) := by decide +kernel
theorem dX1_beginDay_67 : decode cX1_beginDay 67 = .ok (.ireturn, 1) := by decide +kernel
theorem dX1_endTerm_0 : decode cX1_endTerm 0 = .ok (.aload_n 1, 1) := by decide +kernel
theorem dX1_endTerm_1 : decode cX1_endTerm 1 = .ok (.getfield 62, 3) := by decide +kernel
theorem dX1_endTerm_4 : decode cX1_endTerm 4 = .ok (.ifCond .ne 14, 3) := by decide +kernel
theorem dX1_endTerm_7 : decode cX1_endTerm 7 = .ok (.aload_n 0, 1) := by decide +kernel
theorem dX1_endTerm_8 : decode cX1_endTerm 8 = .ok (.aload_n 1, 1) := by decide +kernel
theorem dX1_endTerm_9 : decode cX1_endTerm 9 = .ok (.aload_n 1, 1) := by decide +kernel
theorem dX1_endTerm_10 : decode cX1_endTerm 10 = .ok (.getfield 73, 3) := by decide +kernel
theorem dX1_endTerm_13 : decode cX1_endTerm 13 = .ok (.invokevirtual 96, 3) := by decide +kernel
theorem dX1_endTerm_16 : decode cX1_endTerm 16 = .ok (.pop, 1) := by decide +kernel
theorem dX1_endTerm_17 : decode cX1_endTerm 17 = .ok (.return_, 1) := by decide +kernel
theorem dX1_endTerm_18 : decode cX1_endTerm 18 = .ok (.aload_n 1, 1) := by decide +kernel
theorem dX1_endTerm_19 : decode cX1_endTerm 19 = .ok (.getfield 62, 3) := by decide +kernel
theorem dX1_endTerm_22 : decode cX1_endTerm 22 = .ok (.iconst 1, 1) := by decide +kernel
theorem dX1_endTerm_23 : decode cX1_endTerm 23 = .ok (.if_icmp .ne 12, 3) := by decide +kernel
theorem dX1_endTerm_26 : decode cX1_endTerm 26 = .ok (.aload_n 0, 1) := by decide +kernel
theorem dX1_endTerm_27 : decode cX1_endTerm 27 = .ok (.aload_n 1, 1) := by decide +kernel
theorem dX1_endTerm_28 : decode cX1_endTerm 28 = .ok (.invokevirtual 210, 3) := by decide +kernel
theorem dX1_endTerm_31 : decode cX1_endTerm 31 = .ok (.pop, 1) := by decide +kernel
theorem dX1_endTerm_32 : decode cX1_endTerm 32 = .ok (.goto 16, 3) := by decide +kernel
theorem dX1_endTerm_35 : decode cX1_endTerm 35 = .ok (.aload_n 1, 1) := by decide +kernel
theorem dX1_endTerm_36 : decode cX1_endTerm 36 = .ok (.dup, 1) := by decide +kernel
theorem dX1_endTerm_37 : decode cX1_endTerm 37 = .ok (.getfield 73, 3) := by decide +kernel
theorem dX1_endTerm_40 : decode cX1_endTerm 40 = .ok (.aload_n 1, 1) := by decide +kernel
theorem dX1_endTerm_41 : decode cX1_endTerm 41 = .ok (.invokevirtual 213, 3) := by decide +kernel
theorem dX1_endTerm_44 : decode cX1_endTerm 44 = .ok (.iadd, 1) := by decide +kernel
theorem dX1_endTerm_45 : decode cX1_endTerm 45 = .ok (.putfield 73, 3) := by decide +kernel
theorem dX1_endTerm_48 : decode cX1_endTerm 48 = .ok (.aload_n 0, 1) := by decide +kernel
theorem dX1_endTerm_49 : decode cX1_endTerm 49 = .ok (.aload_n 1, 1) := by decide +kernel
theorem dX1_endTerm_50 : decode cX1_endTerm 50 = .ok (.invokevirtual 65, 3) := by decide +kernel
theorem dX1_endTerm_53 : decode cX1_endTerm 53 = .ok (.aload_n 1, 1) := by decide +kernel
theorem dX1_endTerm_54 : decode cX1_endTerm 54 = .ok (.aload_n 0, 1) := by decide +kernel
theorem dX1_endTerm_55 : decode cX1_endTerm 55 = .ok (.getfield 37, 3) := by decide +kernel
theorem dX1_endTerm_58 : decode cX1_endTerm 58 = .ok (.putfield 133, 3) := by decide +kernel
theorem dX1_endTerm_61 : decode cX1_endTerm 61 = .ok (.return_, 1) := by decide +kernel
end
section
theorem dX2_init_0 : decode cX2_init 0 = .ok (.aload_n 0, 1) := by decide +kernel
theorem dX2_init_1 : decode cX2_init 1 = .ok (.invokespecial 1, 3) := by decide +kernel
theorem dX2_init_4 : decode cX2_init 4 = .ok (.aload_n 0, 1) := by decide +kernel
theorem dX2_init_5 : decode cX2_init 5 = .ok (.iconst 3, 1) := by decide +kernel
theorem dX2_init_6 : decode cX2_init 6 = .ok (.newarray .int, 2) := by decide +kernel
theorem dX2_init_8 : decode cX2_init 8 = .ok (.putfield 7, 3) := by decide +kernel
theorem dX2_init_11 : decode cX2_init 11 = .ok (.aload_n 0, 1) := by decide +kernel
theorem dX2_init_12 : decode cX2_init 12 = .ok (.bipush 40, 2) := by decide +kernel
theorem dX2_init_14 : decode cX2_init 14 = .ok (.newarray .boolean, 2) := by decide +kernel
theorem dX2_init_16 : decode cX2_init 16 = .ok (.putfield 13, 3) := by decide +kernel
theorem dX2_init_19 : decode cX2_init 19 = .ok (.aload_n 0, 1) := by decide +kernel
theorem dX2_init_20 : decode cX2_init 20 = .ok (.bipush 40, 2) := by decide +kernel
theorem dX2_init_22 : decode cX2_init 22 = .ok (.newarray .boolean, 2) := by decide +kernel
theorem dX2_init_24 : decode cX2_init 24 = .ok (.putfield 17, 3) := by decide +kernel
theorem dX2_init_27 : decode cX2_init 27 = .ok (.aload_n 0, 1) := by decide +kernel
theorem dX2_init_28 : decode cX2_init 28 = .ok (.bipush 40, 2) := by decide +kernel
theorem dX2_init_30 : decode cX2_init 30 = .ok (.newarray .int, 2) := by decide +kernel
theorem dX2_init_32 : decode cX2_init 32 = .ok (.putfield 20, 3) := by decide +kernel
theorem dX2_init_35 : decode cX2_init 35 = .ok (.aload_n 0, 1) := by decide +kernel
theorem dX2_init_36 : decode cX2_init 36 = .ok (.bipush 40, 2) := by decide +kernel
theorem dX2_init_38 : decode cX2_init 38 = .ok (.newarray .int, 2) := by decide +kernel
theorem dX2_init_40 : decode cX2_init 40 = .ok (.putfield 23, 3) := by decide +kernel
theorem dX2_init_43 : decode cX2_init 43 = .ok (.aload_n 0, 1) := by decide +kernel
theorem dX2_init_44 : decode cX2_init 44 = .ok (.bipush 40, 2) := by decide +kernel
theorem dX2_init_46 : decode cX2_init 46 = .ok (.newarray .long, 2) := by decide +kernel
theorem dX2_init_48 : decode cX2_init 48 = .ok (.putfield 26, 3) := by decide +kernel
theorem dX2_init_51 : decode cX2_init 51 = .ok (.aload_n 0, 1) := by decide +kernel
theorem dX2_init_52 : decode cX2_init 52 = .ok (.bipush 40, 2) := by decide +kernel
theorem dX2_init_54 : decode cX2_init 54 = .ok (.newarray .int, 2) := by decide +kernel
theorem dX2_init_56 : decode cX2_init 56 = .ok (.putfield 30, 3) := by decide +kernel
theorem dX2_init_59 : decode cX2_init 59 = .ok (.aload_n 0, 1) := by decide +kernel
theorem dX2_init_60 : decode cX2_init 60 = .ok (.bipush 40, 2) := by decide +kernel
theorem dX2_init_62 : decode cX2_init 62 = .ok (.newarray .int, 2) := by decide +kernel
theorem dX2_init_64 : decode cX2_init 64 = .ok (.putfield 33, 3) := by decide +kernel
theorem dX2_init_67 : decode cX2_init 67 = .ok (.aload_n 0, 1) := by decide +kernel
theorem dX2_init_68 : decode cX2_init 68 = .ok (.bipush 40, 2) := by decide +kernel
theorem dX2_init_70 : decode cX2_init 70 = .ok (.newarray .long, 2) := by decide +kernel
theorem dX2_init_72 : decode cX2_init 72 = .ok (.putfield 36, 3) := by decide +kernel
theorem dX2_init_75 : decode cX2_init 75 = .ok (.aload_n 0, 1) := by decide +kernel
theorem dX2_init_76 : decode cX2_init 76 = .ok (.bipush 40, 2) := by decide +kernel
theorem dX2_init_78 : decode cX2_init 78 = .ok (.newarray .int, 2) := by decide +kernel
theorem dX2_init_80 : decode cX2_init 80 = .ok (.putfield 39, 3) := by decide +kernel
theorem dX2_init_83 : decode cX2_init 83 = .ok (.aload_n 0, 1) := by decide +kernel
theorem dX2_init_84 : decode cX2_init 84 = .ok (.bipush 40, 2) := by decide +kernel
theorem dX2_init_86 : decode cX2_init 86 = .ok (.newarray .int, 2) := by decide +kernel
theorem dX2_init_88 : decode cX2_init 88 = .ok (.putfield 42, 3) := by decide +kernel
theorem dX2_init_91 : decode cX2_init 91 = .ok (.aload_n 0, 1) := by decide +kernel
theorem dX2_init_92 : decode cX2_init 92 = .ok (.bipush 40, 2) := by decide +kernel
theorem dX2_init_94 : decode cX2_init 94 = .ok (.newarray .int, 2) := by decide +kernel
theorem dX2_init_96 : decode cX2_init 96 = .ok (.putfield 45, 3) := by decide +kernel
theorem dX2_init_99 : decode cX2_init 99 = .ok (.aload_n 0, 1) := by decide +kernel
theorem dX2_init_100 : decode cX2_init 100 = .ok (.bipush 40, 2) := by decide +kernel
theorem dX2_init_102 : decode cX2_init 102 = .ok (.newarray .int, 2) := by decide +kernel
theorem dX2_init_104 : decode cX2_init 104 = .ok (.putfield 48, 3) := by decide +kernel
theorem dX2_init_107 : decode cX2_init 107 = .ok (.aload_n 0, 1) := by decide +kernel
theorem dX2_init_108 : decode cX2_init 108 = .ok (.iconst 4, 1) := by decide +kernel
theorem dX2_init_109 : decode cX2_init 109 = .ok (.newarray .long, 2) := by decide +kernel
theorem dX2_init_111 : decode cX2_init 111 = .ok (.putfield 51, 3) := by decide +kernel
theorem dX2_init_114 : decode cX2_init 114 = .ok (.aload_n 0, 1) := by decide +kernel
theorem dX2_init_115 : decode cX2_init 115 = .ok (.iconst 4, 1) := by decide +kernel
theorem dX2_init_116 : decode cX2_init 116 = .ok (.newarray .long, 2) := by decide +kernel
theorem dX2_init_118 : decode cX2_init 118 = .ok (.putfield 54, 3) := by decide +kernel
theorem dX2_init_121 : decode cX2_init 121 = .ok (.aload_n 0, 1) := by decide +kernel
theorem dX2_init_122 : decode cX2_init 122 = .ok (.bipush 40, 2) := by decide +kernel
theorem dX2_init_124 : decode cX2_init 124 = .ok (.newarray .long, 2) := by decide +kernel
theorem dX2_init_126 : decode cX2_init 126 = .ok (.putfield 57, 3) := by decide +kernel
theorem dX2_init_129 : decode cX2_init 129 = .ok (.aload_n 0, 1) := by decide +kernel
theorem dX2_init_130 : decode cX2_init 130 = .ok (.bipush 40, 2) := by decide +kernel
theorem dX2_init_132 : decode cX2_init 132 = .ok (.newarray .int, 2) := by decide +kernel
theorem dX2_init_134 : decode cX2_init 134 = .ok (.putfield 60, 3) := by decide +kernel
theorem dX2_init_137 : decode cX2_init 137 = .ok (.aload_n 0, 1) := by decide +kernel
theorem dX2_init_138 : decode cX2_init 138 = .ok (.bipush 40, 2) := by decide +kernel
theorem dX2_init_140 : decode cX2_init 140 = .ok (.newarray .boolean, 2) := by decide +kernel
theorem dX2_init_142 : decode cX2_init 142 = .ok (.putfield 63, 3) := by decide +kernel
theorem dX2_init_145 : decode cX2_init 145 = .ok (.aload_n 0, 1) := by decide +kernel
theorem dX2_init_146 : decode cX2_init 146 = .ok (.getfield 7, 3) := by decide +kernel
theorem dX2_init_149 : decode cX2_init 149 = .ok (.iconst 0, 1) := by decide +kernel
theorem dX2_init_150 : decode cX2_init 150 = .ok (.bipush 100, 2) := by decide +kernel
theorem dX2_init_152 : decode cX2_init 152 = .ok (.iastore, 1) := by decide +kernel
theorem dX2_init_153 : decode cX2_init 153 = .ok (.aload_n 0, 1) := by decide +kernel
theorem dX2_init_154 : decode cX2_init 154 = .ok (.getfield 7, 3) := by decide +kernel
theorem dX2_init_157 : decode cX2_init 157 = .ok (.iconst 1, 1) := by decide +kernel
theorem dX2_init_158 : decode cX2_init 158 = .ok (.sipush 200, 3) := by decide +kernel
theorem dX2_init_161 : decode cX2_init 161 = .ok (.iastore, 1) := by decide +kernel
theorem dX2_init_162 : decode cX2_init 162 = .ok (.aload_n 0, 1) := by decide +kernel
theorem dX2_init_163 : decode cX2_init 163 = .ok (.getfield 7, 3) := by decide +kernel
theorem dX2_init_166 : decode cX2_init 166 = .ok (.iconst 2, 1) := by decide +kernel
theorem dX2_init_167 : decode cX2_init 167 = .ok (.sipush 300, 3) := by decide +kernel
theorem dX2_init_170 : decode cX2_init 170 = .ok (.iastore, 1) := by decide +kernel
theorem dX2_init_171 : decode cX2_init 171 = .ok (.aload_n 0, 1) := by decide +kernel
theorem dX2_init_172 : decode cX2_init 172 = .ok (.sipush 250, 3) := by decide +kernel
theorem dX2_init_175 : decode cX2_init 175 = .ok (.putfield 66, 3) := by decide +kernel
theorem dX2_init_178 : decode cX2_init 178 = .ok (.return_, 1) := by decide +kernel
theorem dX2_thrown_0 : decode cX2_thrown 0 = .ok (.aload_n 0, 1) := by decide +kernel
theorem dX2_thrown_1 : decode cX2_thrown 1 = .ok (.getfield 70, 3) := by decide +kernel
theorem dX2_thrown_4 : decode cX2_thrown 4 = .ok (.ireturn, 1) := by decide +kernel
theorem dX2_in_0 : decode cX2_in 0 = .ok (.iload_n 0, 1) := by decide +kernel
theorem dX2_in_1 : decode cX2_in 1 = .ok (.iload_n 1, 1) := by decide +kernel
theorem dX2_in_2 : decode cX2_in 2 = .ok (.if_icmp .lt 12, 3) := by decide +kernel
theorem dX2_in_5 : decode cX2_in 5 = .ok (.iload_n 0, 1) := by decide +kernel
theorem dX2_in_6 : decode cX2_in 6 = .ok (.iload_n 2, 1) := by decide +kernel
theorem dX2_in_7 : decode cX2_in 7 = .ok (.if_icmp .gt 7, 3) := by decide +kernel
theorem dX2_in_10 : decode cX2_in 10 = .ok (.iconst 1, 1) := by decide +kernel
theorem dX2_in_11 : decode cX2_in 11 = .ok (.goto 4, 3) := by decide +kernel
theorem dX2_in_14 : decode cX2_in 14 = .ok (.iconst 0, 1) := by decide +kernel
theorem dX2_in_15 : decode cX2_in 15 = .ok (.ireturn, 1) := by decide +kernel
theorem dX2_isCustomer_0 : decode cX2_isCustomer 0 = .ok (.iload_n 0, 1) := by decide +kernel
theorem dX2_isCustomer_1 : decode cX2_isCustomer 1 = .ok (.iconst 0, 1) := by decide +kernel
theorem dX2_isCustomer_2 : decode cX2_isCustomer 2 = .ok (.iconst 3, 1) := by decide +kernel
theorem dX2_isCustomer_3 : decode cX2_isCustomer 3 = .ok (.invokestatic 73, 3) := by decide +kernel
theorem dX2_isCustomer_6 : decode cX2_isCustomer 6 = .ok (.ireturn, 1) := by decide +kernel
theorem dX2_isLot_0 : decode cX2_isLot 0 = .ok (.iload_n 1, 1) := by decide +kernel
theorem dX2_isLot_1 : decode cX2_isLot 1 = .ok (.iconst 0, 1) := by decide +kernel
theorem dX2_isLot_2 : decode cX2_isLot 2 = .ok (.aload_n 0, 1) := by decide +kernel
theorem dX2_isLot_3 : decode cX2_isLot 3 = .ok (.getfield 77, 3) := by decide +kernel
theorem dX2_isLot_6 : decode cX2_isLot 6 = .ok (.iconst 1, 1) := by decide +kernel
theorem dX2_isLot_7 : decode cX2_isLot 7 = .ok (.isub, 1) := by decide +kernel
theorem dX2_isLot_8 : decode cX2_isLot 8 = .ok (.invokestatic 73, 3) := by decide +kernel
theorem dX2_isLot_11 : decode cX2_isLot 11 = .ok (.ifCond .eq 16, 3) := by decide +kernel
theorem dX2_isLot_14 : decode cX2_isLot 14 = .ok (.aload_n 0, 1) := by decide +kernel
theorem dX2_isLot_15 : decode cX2_isLot 15 = .ok (.getfield 13, 3) := by decide +kernel
theorem dX2_isLot_18 : decode cX2_isLot 18 = .ok (.iload_n 1, 1) := by decide +kernel
theorem dX2_isLot_19 : decode cX2_isLot 19 = .ok (.baload, 1) := by decide +kernel
theorem dX2_isLot_20 : decode cX2_isLot 20 = .ok (.ifCond .eq 7, 3) := by decide +kernel
theorem dX2_isLot_23 : decode cX2_isLot 23 = .ok (.iconst 1, 1) := by decide +kernel
theorem dX2_isLot_24 : decode cX2_isLot 24 = .ok (.goto 4, 3) := by decide +kernel
theorem dX2_isLot_27 : decode cX2_isLot 27 = .ok (.iconst 0, 1) := by decide +kernel
theorem dX2_isLot_28 : decode cX2_isLot 28 = .ok (.ireturn, 1) := by decide +kernel
theorem dX2_setRate_0 : decode cX2_setRate 0 = .ok (.aload_n 0, 1) := by decide +kernel
theorem dX2_setRate_1 : decode cX2_setRate 1 = .ok (.iload_n 1, 1) := by decide +kernel
theorem dX2_setRate_2 : decode cX2_setRate 2 = .ok (.iconst 0, 1) := by decide +kernel
theorem dX2_setRate_3 : decode cX2_setRate 3 = .ok (.iconst 2, 1) := by decide +kernel
theorem dX2_setRate_4 : decode cX2_setRate 4 = .ok (.invokestatic 73, 3) := by decide +kernel
theorem dX2_setRate_7 : decode cX2_setRate 7 = .ok (.ifCond .ne 7, 3) := by decide +kernel
theorem dX2_setRate_10 : decode cX2_setRate 10 = .ok (.iconst 1, 1) := by decide +kernel
theorem dX2_setRate_11 : decode cX2_setRate 11 = .ok (.goto 19, 3) := by decide +kernel
theorem dX2_setRate_14 : decode cX2_setRate 14 = .ok (.iload_n 2, 1) := by decide +kernel
theorem dX2_setRate_15 : decode cX2_setRate 15 = .ok (.iconst 0, 1) := by decide +kernel
theorem dX2_setRate_16 : decode cX2_setRate 16 = .ok (.sipush 2000, 3) := by decide +kernel
theorem dX2_setRate_19 : decode cX2_setRate 19 = .ok (.invokestatic 73, 3) := by decide +kernel
theorem dX2_setRate_22 : decode cX2_setRate 22 = .ok (.ifCond .ne 7, 3) := by decide +kernel
theorem dX2_setRate_25 : decode cX2_setRate 25 = .ok (.iconst 2, 1) := by decide +kernel
theorem dX2_setRate_26 : decode cX2_setRate 26 = .ok (.goto 4, 3) := by decide +kernel
theorem dX2_setRate_29 : decode cX2_setRate 29 = .ok (.iconst 0, 1) := by decide +kernel
theorem dX2_setRate_30 : decode cX2_setRate 30 = .ok (.putfield 70, 3) := by decide +kernel
theorem dX2_setRate_33 : decode cX2_setRate 33 = .ok (.aload_n 0, 1) := by decide +kernel
theorem dX2_setRate_34 : decode cX2_setRate 34 = .ok (.getfield 70, 3) := by decide +kernel
theorem dX2_setRate_37 : decode cX2_setRate 37 = .ok (.ifCond .le 5, 3) := by decide +kernel
theorem dX2_setRate_40 : decode cX2_setRate 40 = .ok (.iconst 0, 1) := by decide +kernel
theorem dX2_setRate_41 : decode cX2_setRate 41 = .ok (.ireturn, 1) := by decide +kernel
theorem dX2_setRate_42 : decode cX2_setRate 42 = .ok (.aload_n 0, 1) := by decide +kernel
theorem dX2_setRate_43 : decode cX2_setRate 43 = .ok (.getfield 7, 3) := by decide +kernel
theorem dX2_setRate_46 : decode cX2_setRate 46 = .ok (.iload_n 1, 1) := by decide +kernel
theorem dX2_setRate_47 : decode cX2_setRate 47 = .ok (.iaload, 1) := by decide +kernel
theorem dX2_setRate_48 : decode cX2_setRate 48 = .ok (.istore_n 3, 1) := by decide +kernel
theorem dX2_setRate_49 : decode cX2_setRate 49 = .ok (.aload_n 0, 1) := by decide +kernel
theorem dX2_setRate_50 : decode cX2_setRate 50 = .ok (.getfield 7, 3) := by decide +kernel
theorem dX2_setRate_53 : decode cX2_setRate 53 = .ok (.iload_n 1, 1) := by decide +kernel
theorem dX2_setRate_54 : decode cX2_setRate 54 = .ok (.iload_n 2, 1) := by decide +kernel
theorem dX2_setRate_55 : decode cX2_setRate 55 = .ok (.iastore, 1) := by decide +kernel
theorem dX2_setRate_56 : decode cX2_setRate 56 = .ok (.iload_n 3, 1) := by decide +kernel
theorem dX2_setRate_57 : decode cX2_setRate 57 = .ok (.ireturn, 1) := by decide +kernel
theorem dX2_setByBands_0 : decode cX2_setByBands 0 = .ok (.aload_n 0, 1) := by decide +kernel
theorem dX2_setByBands_1 : decode cX2_setByBands 1 = .ok (.iconst 0, 1) := by decide +kernel
theorem dX2_setByBands_2 : decode cX2_setByBands 2 = .ok (.putfield 70, 3) := by decide +kernel
theorem dX2_setByBands_5 : decode cX2_setByBands 5 = .ok (.aload_n 0, 1) := by decide +kernel
theorem dX2_setByBands_6 : decode cX2_setByBands 6 = .ok (.getfield 80, 3) := by decide +kernel
theorem dX2_setByBands_9 : decode cX2_setByBands 9 = .ok (.istore_n 2, 1) := by decide +kernel
theorem dX2_setByBands_10 : decode cX2_setByBands 10 = .ok (.aload_n 0, 1) := by decide +kernel
theorem dX2_setByBands_11 : decode cX2_setByBands 11 = .ok (.iload_n 1, 1) := by decide +kernel
theorem dX2_setByBands_12 : decode cX2_setByBands 12 = .ok (.putfield 80, 3) := by decide +kernel
theorem dX2_setByBands_15 : decode cX2_setByBands 15 = .ok (.iload_n 2, 1) := by decide +kernel
theorem dX2_setByBands_16 : decode cX2_setByBands 16 = .ok (.ireturn, 1) := by decide +kernel
theorem dX2_setTermRate_0 : decode cX2_setTermRate 0 = .ok (.aload_n 0, 1) := by decide +kernel
theorem dX2_setTermRate_1 : decode cX2_setTermRate 1 = .ok (.iload_n 1, 1) := by decide +kernel
theorem dX2_setTermRate_2 : decode cX2_setTermRate 2 = .ok (.iconst 0, 1) := by decide +kernel
theorem dX2_setTermRate_3 : decode cX2_setTermRate 3 = .ok (.sipush 2000, 3) := by decide +kernel
theorem dX2_setTermRate_6 : decode cX2_setTermRate 6 = .ok (.invokestatic 73, 3) := by decide +kernel
theorem dX2_setTermRate_9 : decode cX2_setTermRate 9 = .ok (.ifCond .eq 7, 3) := by decide +kernel
theorem dX2_setTermRate_12 : decode cX2_setTermRate 12 = .ok (.iconst 0, 1) := by decide +kernel
theorem dX2_setTermRate_13 : decode cX2_setTermRate 13 = .ok (.goto 4, 3) := by decide +kernel
theorem dX2_setTermRate_16 : decode cX2_setTermRate 16 = .ok (.iconst 1, 1) := by decide +kernel
theorem dX2_setTermRate_17 : decode cX2_setTermRate 17 = .ok (.putfield 70, 3) := by decide +kernel
theorem dX2_setTermRate_20 : decode cX2_setTermRate 20 = .ok (.aload_n 0, 1) := by decide +kernel
theorem dX2_setTermRate_21 : decode cX2_setTermRate 21 = .ok (.getfield 70, 3) := by decide +kernel
theorem dX2_setTermRate_24 : decode cX2_setTermRate 24 = .ok (.ifCond .le 5, 3) := by decide +kernel
theorem dX2_setTermRate_27 : decode cX2_setTermRate 27 = .ok (.iconst 0, 1) := by decide +kernel
theorem dX2_setTermRate_28 : decode cX2_setTermRate 28 = .ok (.ireturn, 1) := by decide +kernel
theorem dX2_setTermRate_29 : decode cX2_setTermRate 29 = .ok (.aload_n 0, 1) := by decide +kernel
theorem dX2_setTermRate_30 : decode cX2_setTermRate 30 = .ok (.getfield 66, 3) := by decide +kernel
theorem dX2_setTermRate_33 : decode cX2_setTermRate 33 = .ok (.istore_n 2, 1) := by decide +kernel
theorem dX2_setTermRate_34 : decode cX2_setTermRate 34 = .ok (.aload_n 0, 1) := by decide +kernel
theorem dX2_setTermRate_35 : decode cX2_setTermRate 35 = .ok (.iload_n 1, 1) := by decide +kernel
theorem dX2_setTermRate_36 : decode cX2_setTermRate 36 = .ok (.putfield 66, 3) := by decide +kernel
theorem dX2_setTermRate_39 : decode cX2_setTermRate 39 = .ok (.iload_n 2, 1) := by decide +kernel
theorem dX2_setTermRate_40 : decode cX2_setTermRate 40 = .ok (.ireturn, 1) := by decide +kernel
theorem dX2_isNotice_0 : decode cX2_isNotice 0 = .ok (.aload_n 0, 1) := by decide +kernel
theorem dX2_isNotice_1 : decode cX2_isNotice 1 = .ok (.getfield 13, 3) := by decide +kernel
theorem dX2_isNotice_4 : decode cX2_isNotice 4 = .ok (.iload_n 1, 1) := by decide +kernel
theorem dX2_isNotice_5 : decode cX2_isNotice 5 = .ok (.baload, 1) := by decide +kernel
theorem dX2_isNotice_6 : decode cX2_isNotice 6 = .ok (.ifCond .eq 26, 3) := by decide +kernel
theorem dX2_isNotice_9 : decode cX2_isNotice 9 = .ok (.aload_n 0, 1) := by decide +kernel
theorem dX2_isNotice_10 : decode cX2_isNotice 10 = .ok (.getfield 17, 3) := by decide +kernel
theorem dX2_isNotice_13 : decode cX2_isNotice 13 = .ok (.iload_n 1, 1) := by decide +kernel
theorem dX2_isNotice_14 : decode cX2_isNotice 14 = .ok (.baload, 1) := by decide +kernel
theorem dX2_isNotice_15 : decode cX2_isNotice 15 = .ok (.ifCond .ne 17, 3) := by decide +kernel
theorem dX2_isNotice_18 : decode cX2_isNotice 18 = .ok (.aload_n 0, 1) := by decide +kernel
theorem dX2_isNotice_19 : decode cX2_isNotice 19 = .ok (.getfield 20, 3) := by decide +kernel
theorem dX2_isNotice_22 : decode cX2_isNotice 22 = .ok (.iload_n 1, 1) := by decide +kernel
theorem dX2_isNotice_23 : decode cX2_isNotice 23 = .ok (.iaload, 1) := by decide +kernel
theorem dX2_isNotice_24 : decode cX2_isNotice 24 = .ok (.iload_n 2, 1) := by decide +kernel
theorem dX2_isNotice_25 : decode cX2_isNotice 25 = .ok (.if_icmp .ne 7, 3) := by decide +kernel
theorem dX2_isNotice_28 : decode cX2_isNotice 28 = .ok (.iconst 1, 1) := by decide +kernel
theorem dX2_isNotice_29 : decode cX2_isNotice 29 = .ok (.goto 4, 3) := by decide +kernel
theorem dX2_isNotice_32 : decode cX2_isNotice 32 = .ok (.iconst 0, 1) := by decide +kernel
theorem dX2_isNotice_33 : decode cX2_isNotice 33 = .ok (.ireturn, 1) := by decide +kernel
theorem dX2_sumBelow_0 : decode cX2_sumBelow 0 = .ok (.iconst 0, 1) := by decide +kernel
theorem dX2_sumBelow_1 : decode cX2_sumBelow 1 = .ok (.istore_n 3, 1) := by decide +kernel
theorem dX2_sumBelow_2 : decode cX2_sumBelow 2 = .ok (.iconst 0, 1) := by decide +kernel
theorem dX2_sumBelow_3 : decode cX2_sumBelow 3 = .ok (.istore 4, 2) := by decide +kernel
theorem dX2_sumBelow_5 : decode cX2_sumBelow 5 = .ok (.iload 4, 2) := by decide +kernel
theorem dX2_sumBelow_7 : decode cX2_sumBelow 7 = .ok (.iload_n 2, 1) := by decide +kernel
theorem dX2_sumBelow_8 : decode cX2_sumBelow 8 = .ok (.if_icmp .ge 33, 3) := by decide +kernel
theorem dX2_sumBelow_11 : decode cX2_sumBelow 11 = .ok (.iload_n 3, 1) := by decide +kernel
theorem dX2_sumBelow_12 : decode cX2_sumBelow 12 = .ok (.aload_n 0, 1) := by decide +kernel
theorem dX2_sumBelow_13 : decode cX2_sumBelow 13 = .ok (.iload 4, 2) := by decide +kernel
theorem dX2_sumBelow_15 : decode cX2_sumBelow 15 = .ok (.iload_n 1, 1) := by decide +kernel
theorem dX2_sumBelow_16 : decode cX2_sumBelow 16 = .ok (.invokevirtual 84, 3) := by decide +kernel
theorem dX2_sumBelow_19 : decode cX2_sumBelow 19 = .ok (.ifCond .eq 13, 3) := by decide +kernel
theorem dX2_sumBelow_22 : decode cX2_sumBelow 22 = .ok (.aload_n 0, 1) := by decide +kernel
theorem dX2_sumBelow_23 : decode cX2_sumBelow 23 = .ok (.getfield 23, 3) := by decide +kernel
theorem dX2_sumBelow_26 : decode cX2_sumBelow 26 = .ok (.iload 4, 2) := by decide +kernel
theorem dX2_sumBelow_28 : decode cX2_sumBelow 28 = .ok (.iaload, 1) := by decide +kernel
theorem dX2_sumBelow_29 : decode cX2_sumBelow 29 = .ok (.goto 4, 3) := by decide +kernel
theorem dX2_sumBelow_32 : decode cX2_sumBelow 32 = .ok (.iconst 0, 1) := by decide +kernel
theorem dX2_sumBelow_33 : decode cX2_sumBelow 33 = .ok (.iadd, 1) := by decide +kernel
theorem dX2_sumBelow_34 : decode cX2_sumBelow 34 = .ok (.istore_n 3, 1) := by decide +kernel
theorem dX2_sumBelow_35 : decode cX2_sumBelow 35 = .ok (.iinc 4 1, 3) := by decide +kernel
theorem dX2_sumBelow_38 : decode cX2_sumBelow 38 = .ok (.goto (-33), 3) := by decide +kernel
theorem dX2_sumBelow_41 : decode cX2_sumBelow 41 = .ok (.iload_n 3, 1) := by decide +kernel
theorem dX2_sumBelow_42 : decode cX2_sumBelow 42 = .ok (.ireturn, 1) := by decide +kernel
theorem dX2_partsOf_0 : decode cX2_partsOf 0 = .ok (.iload_n 1, 1) := by decide +kernel
theorem dX2_partsOf_1 : decode cX2_partsOf 1 = .ok (.ldc 88, 2) := by decide +kernel
theorem dX2_partsOf_3 : decode cX2_partsOf 3 = .ok (.if_icmp .ge 8, 3) := by decide +kernel
theorem dX2_partsOf_6 : decode cX2_partsOf 6 = .ok (.iload_n 1, 1) := by decide +kernel
theorem dX2_partsOf_7 : decode cX2_partsOf 7 = .ok (.i2l, 1) := by decide +kernel
theorem dX2_partsOf_8 : decode cX2_partsOf 8 = .ok (.goto 6, 3) := by decide +kernel
theorem dX2_partsOf_11 : decode cX2_partsOf 11 = .ok (.ldc2_w 89, 3) := by decide +kernel
theorem dX2_partsOf_14 : decode cX2_partsOf 14 = .ok (.lstore_n 2, 1) := by decide +kernel
theorem dX2_partsOf_15 : decode cX2_partsOf 15 = .ok (.iload_n 1, 1) := by decide +kernel
theorem dX2_partsOf_16 : decode cX2_partsOf 16 = .ok (.ldc 91, 2) := by decide +kernel
theorem dX2_partsOf_18 : decode cX2_partsOf 18 = .ok (.if_icmp .ge 10, 3) := by decide +kernel
theorem dX2_partsOf_21 : decode cX2_partsOf 21 = .ok (.iload_n 1, 1) := by decide +kernel
theorem dX2_partsOf_22 : decode cX2_partsOf 22 = .ok (.i2l, 1) := by decide +kernel
theorem dX2_partsOf_23 : decode cX2_partsOf 23 = .ok (.lload_n 2, 1) := by decide +kernel
theorem dX2_partsOf_24 : decode cX2_partsOf 24 = .ok (.lsub, 1) := by decide +kernel
theorem dX2_partsOf_25 : decode cX2_partsOf 25 = .ok (.goto 6, 3) := by decide +kernel
theorem dX2_partsOf_28 : decode cX2_partsOf 28 = .ok (.ldc2_w 92, 3) := by decide +kernel
theorem dX2_partsOf_31 : decode cX2_partsOf 31 = .ok (.lstore 4, 2) := by decide +kernel
theorem dX2_partsOf_33 : decode cX2_partsOf 33 = .ok (.lload_n 2, 1) := by decide +kernel
theorem dX2_partsOf_34 : decode cX2_partsOf 34 = .ok (.aload_n 0, 1) := by decide +kernel
theorem dX2_partsOf_35 : decode cX2_partsOf 35 = .ok (.getfield 7, 3) := by decide +kernel
theorem dX2_partsOf_38 : decode cX2_partsOf 38 = .ok (.iconst 0, 1) := by decide +kernel
theorem dX2_partsOf_39 : decode cX2_partsOf 39 = .ok (.iaload, 1) := by decide +kernel
theorem dX2_partsOf_40 : decode cX2_partsOf 40 = .ok (.i2l, 1) := by decide +kernel
theorem dX2_partsOf_41 : decode cX2_partsOf 41 = .ok (.lmul, 1) := by decide +kernel
theorem dX2_partsOf_42 : decode cX2_partsOf 42 = .ok (.lload 4, 2) := by decide +kernel
theorem dX2_partsOf_44 : decode cX2_partsOf 44 = .ok (.aload_n 0, 1) := by decide +kernel
theorem dX2_partsOf_45 : decode cX2_partsOf 45 = .ok (.getfield 7, 3) := by decide +kernel
theorem dX2_partsOf_48 : decode cX2_partsOf 48 = .ok (.iconst 1, 1) := by decide +kernel
theorem dX2_partsOf_49 : decode cX2_partsOf 49 = .ok (.iaload, 1) := by decide +kernel
theorem dX2_partsOf_50 : decode cX2_partsOf 50 = .ok (.i2l, 1) := by decide +kernel
theorem dX2_partsOf_51 : decode cX2_partsOf 51 = .ok (.lmul, 1) := by decide +kernel
theorem dX2_partsOf_52 : decode cX2_partsOf 52 = .ok (.ladd, 1) := by decide +kernel
theorem dX2_partsOf_53 : decode cX2_partsOf 53 = .ok (.iload_n 1, 1) := by decide +kernel
theorem dX2_partsOf_54 : decode cX2_partsOf 54 = .ok (.i2l, 1) := by decide +kernel
theorem dX2_partsOf_55 : decode cX2_partsOf 55 = .ok (.lload_n 2, 1) := by decide +kernel
theorem dX2_partsOf_56 : decode cX2_partsOf 56 = .ok (.lsub, 1) := by decide +kernel
theorem dX2_partsOf_57 : decode cX2_partsOf 57 = .ok (.lload 4, 2) := by decide +kernel
theorem dX2_partsOf_59 : decode cX2_partsOf 59 = .ok (.lsub, 1) := by decide +kernel
theorem dX2_partsOf_60 : decode cX2_partsOf 60 = .ok (.aload_n 0, 1) := by decide +kernel
theorem dX2_partsOf_61 : decode cX2_partsOf 61 = .ok (.getfield 7, 3) := by decide +kernel
theorem dX2_partsOf_64 : decode cX2_partsOf 64 = .ok (.iconst 2, 1) := by decide +kernel
theorem dX2_partsOf_65 : decode cX2_partsOf 65 = .ok (.iaload, 1) := by decide +kernel
theorem dX2_partsOf_66 : decode cX2_partsOf 66 = .ok (.i2l, 1) := by decide +kernel
theorem dX2_partsOf_67 : decode cX2_partsOf 67 = .ok (.lmul, 1) := by decide +kernel
theorem dX2_partsOf_68 : decode cX2_partsOf 68 = .ok (.ladd, 1) := by decide +kernel
theorem dX2_partsOf_69 : decode cX2_partsOf 69 = .ok (.lreturn, 1) := by decide +kernel
theorem dX2_rateFor_0 : decode cX2_rateFor 0 = .ok (.iload_n 1, 1) := by decide +kernel
theorem dX2_rateFor_1 : decode cX2_rateFor 1 = .ok (.ldc 88, 2) := by decide +kernel
theorem dX2_rateFor_3 : decode cX2_rateFor 3 = .ok (.if_icmp .gt 12, 3) := by decide +kernel
theorem dX2_rateFor_6 : decode cX2_rateFor 6 = .ok (.aload_n 0, 1) := by decide +kernel
theorem dX2_rateFor_7 : decode cX2_rateFor 7 = .ok (.getfield 7, 3) := by decide +kernel
theorem dX2_rateFor_10 : decode cX2_rateFor 10 = .ok (.iconst 0, 1) := by decide +kernel
theorem dX2_rateFor_11 : decode cX2_rateFor 11 = .ok (.iaload, 1) := by decide +kernel
theorem dX2_rateFor_12 : decode cX2_rateFor 12 = .ok (.goto 24, 3) := by decide +kernel
theorem dX2_rateFor_15 : decode cX2_rateFor 15 = .ok (.iload_n 1, 1) := by decide +kernel
theorem dX2_rateFor_16 : decode cX2_rateFor 16 = .ok (.ldc 91, 2) := by decide +kernel
theorem dX2_rateFor_18 : decode cX2_rateFor 18 = .ok (.if_icmp .gt 12, 3) := by decide +kernel
theorem dX2_rateFor_21 : decode cX2_rateFor 21 = .ok (.aload_n 0, 1) := by decide +kernel
theorem dX2_rateFor_22 : decode cX2_rateFor 22 = .ok (.getfield 7, 3) := by decide +kernel
theorem dX2_rateFor_25 : decode cX2_rateFor 25 = .ok (.iconst 1, 1) := by decide +kernel
theorem dX2_rateFor_26 : decode cX2_rateFor 26 = .ok (.iaload, 1) := by decide +kernel
theorem dX2_rateFor_27 : decode cX2_rateFor 27 = .ok (.goto 9, 3) := by decide +kernel
theorem dX2_rateFor_30 : decode cX2_rateFor 30 = .ok (.aload_n 0, 1) := by decide +kernel
theorem dX2_rateFor_31 : decode cX2_rateFor 31 = .ok (.getfield 7, 3) := by decide +kernel
theorem dX2_rateFor_34 : decode cX2_rateFor 34 = .ok (.iconst 2, 1) := by decide +kernel
theorem dX2_rateFor_35 : decode cX2_rateFor 35 = .ok (.iaload, 1) := by decide +kernel
theorem dX2_rateFor_36 : decode cX2_rateFor 36 = .ok (.ireturn, 1) := by decide +kernel
theorem dX2_partsNow_0 : decode cX2_partsNow 0 = .ok (.aload_n 0, 1) := by decide +kernel
theorem dX2_partsNow_1 : decode cX2_partsNow 1 = .ok (.getfield 17, 3) := by decide +kernel
theorem dX2_partsNow_4 : decode cX2_partsNow 4 = .ok (.iload_n 1, 1) := by decide +kernel
theorem dX2_partsNow_5 : decode cX2_partsNow 5 = .ok (.baload, 1) := by decide +kernel
theorem dX2_partsNow_6 : decode cX2_partsNow 6 = .ok (.ifCond .eq 10, 3) := by decide +kernel
theorem dX2_partsNow_9 : decode cX2_partsNow 9 = .ok (.aload_n 0, 1) := by decide +kernel
theorem dX2_partsNow_10 : decode cX2_partsNow 10 = .ok (.getfield 36, 3) := by decide +kernel
theorem dX2_partsNow_13 : decode cX2_partsNow 13 = .ok (.iload_n 1, 1) := by decide +kernel
theorem dX2_partsNow_14 : decode cX2_partsNow 14 = .ok (.laload, 1) := by decide +kernel
theorem dX2_partsNow_15 : decode cX2_partsNow 15 = .ok (.lreturn, 1) := by decide +kernel
theorem dX2_partsNow_16 : decode cX2_partsNow 16 = .ok (.aload_n 0, 1) := by decide +kernel
theorem dX2_partsNow_17 : decode cX2_partsNow 17 = .ok (.getfield 80, 3) := by decide +kernel
theorem dX2_partsNow_20 : decode cX2_partsNow 20 = .ok (.ifCond .ne 31, 3) := by decide +kernel
theorem dX2_partsNow_23 : decode cX2_partsNow 23 = .ok (.aload_n 0, 1) := by decide +kernel
theorem dX2_partsNow_24 : decode cX2_partsNow 24 = .ok (.getfield 23, 3) := by decide +kernel
theorem dX2_partsNow_27 : decode cX2_partsNow 27 = .ok (.iload_n 1, 1) := by decide +kernel
theorem dX2_partsNow_28 : decode cX2_partsNow 28 = .ok (.iaload, 1) := by decide +kernel
theorem dX2_partsNow_29 : decode cX2_partsNow 29 = .ok (.i2l, 1) := by decide +kernel
theorem dX2_partsNow_30 : decode cX2_partsNow 30 = .ok (.aload_n 0, 1) := by decide +kernel
theorem dX2_partsNow_31 : decode cX2_partsNow 31 = .ok (.aload_n 0, 1) := by decide +kernel
theorem dX2_partsNow_32 : decode cX2_partsNow 32 = .ok (.aload_n 0, 1) := by decide +kernel
theorem dX2_partsNow_33 : decode cX2_partsNow 33 = .ok (.getfield 20, 3) := by decide +kernel
theorem dX2_partsNow_36 : decode cX2_partsNow 36 = .ok (.iload_n 1, 1) := by decide +kernel
theorem dX2_partsNow_37 : decode cX2_partsNow 37 = .ok (.iaload, 1) := by decide +kernel
theorem dX2_partsNow_38 : decode cX2_partsNow 38 = .ok (.aload_n 0, 1) := by decide +kernel
theorem dX2_partsNow_39 : decode cX2_partsNow 39 = .ok (.getfield 77, 3) := by decide +kernel
theorem dX2_partsNow_42 : decode cX2_partsNow 42 = .ok (.invokevirtual 94, 3) := by decide +kernel
theorem dX2_partsNow_45 : decode cX2_partsNow 45 = .ok (.invokevirtual 98, 3) := by decide +kernel
theorem dX2_partsNow_48 : decode cX2_partsNow 48 = .ok (.i2l, 1) := by decide +kernel
theorem dX2_partsNow_49 : decode cX2_partsNow 49 = .ok (.lmul, 1) := by decide +kernel
theorem dX2_partsNow_50 : decode cX2_partsNow 50 = .ok (.lreturn, 1) := by decide +kernel
theorem dX2_partsNow_51 : decode cX2_partsNow 51 = .ok (.aload_n 0, 1) := by decide +kernel
theorem dX2_partsNow_52 : decode cX2_partsNow 52 = .ok (.aload_n 0, 1) := by decide +kernel
theorem dX2_partsNow_53 : decode cX2_partsNow 53 = .ok (.getfield 20, 3) := by decide +kernel
theorem dX2_partsNow_56 : decode cX2_partsNow 56 = .ok (.iload_n 1, 1) := by decide +kernel
theorem dX2_partsNow_57 : decode cX2_partsNow 57 = .ok (.iaload, 1) := by decide +kernel
theorem dX2_partsNow_58 : decode cX2_partsNow 58 = .ok (.iload_n 1, 1) := by decide +kernel
theorem dX2_partsNow_59 : decode cX2_partsNow 59 = .ok (.invokevirtual 94, 3) := by decide +kernel
theorem dX2_partsNow_62 : decode cX2_partsNow 62 = .ok (.istore_n 2, 1) := by decide +kernel
theorem dX2_partsNow_63 : decode cX2_partsNow 63 = .ok (.aload_n 0, 1) := by decide +kernel
theorem dX2_partsNow_64 : decode cX2_partsNow 64 = .ok (.iload_n 2, 1) := by decide +kernel
theorem dX2_partsNow_65 : decode cX2_partsNow 65 = .ok (.aload_n 0, 1) := by decide +kernel
theorem dX2_partsNow_66 : decode cX2_partsNow 66 = .ok (.getfield 23, 3) := by decide +kernel
theorem dX2_partsNow_69 : decode cX2_partsNow 69 = .ok (.iload_n 1, 1) := by decide +kernel
theorem dX2_partsNow_70 : decode cX2_partsNow 70 = .ok (.iaload, 1) := by decide +kernel
theorem dX2_partsNow_71 : decode cX2_partsNow 71 = .ok (.iadd, 1) := by decide +kernel
theorem dX2_partsNow_72 : decode cX2_partsNow 72 = .ok (.invokevirtual 102, 3) := by decide +kernel
theorem dX2_partsNow_75 : decode cX2_partsNow 75 = .ok (.aload_n 0, 1) := by decide +kernel
theorem dX2_partsNow_76 : decode cX2_partsNow 76 = .ok (.iload_n 2, 1) := by decide +kernel
theorem dX2_partsNow_77 : decode cX2_partsNow 77 = .ok (.invokevirtual 102, 3) := by decide +kernel
theorem dX2_partsNow_80 : decode cX2_partsNow 80 = .ok (.lsub, 1) := by decide +kernel
theorem dX2_partsNow_81 : decode cX2_partsNow 81 = .ok (.lreturn, 1) := by decide +kernel
theorem dX2_takeInterest_0 : decode cX2_takeInterest 0 = .ok (.aload_n 0, 1) := by decide +kernel
theorem dX2_takeInterest_1 : decode cX2_takeInterest 1 = .ok (.getfield 26, 3) := by decide +kernel
theorem dX2_takeInterest_4 : decode cX2_takeInterest 4 = .ok (.iload_n 1, 1) := by decide +kernel
theorem dX2_takeInterest_5 : decode cX2_takeInterest 5 = .ok (.laload, 1) := by decide +kernel
theorem dX2_takeInterest_6 : decode cX2_takeInterest 6 = .ok (.ldc2_w 106, 3) := by decide +kernel
theorem dX2_takeInterest_9 : decode cX2_takeInterest 9 = .ok (.ldiv, 1) := by decide +kernel
theorem dX2_takeInterest_10 : decode cX2_takeInterest 10 = .ok (.l2i, 1) := by decide +kernel
theorem dX2_takeInterest_11 : decode cX2_takeInterest 11 = .ok (.istore_n 2, 1) := by decide +kernel
theorem dX2_takeInterest_12 : decode cX2_takeInterest 12 = .ok (.aload_n 0, 1) := by decide +kernel
theorem dX2_takeInterest_13 : decode cX2_takeInterest 13 = .ok (.getfield 26, 3) := by decide +kernel
theorem dX2_takeInterest_16 : decode cX2_takeInterest 16 = .ok (.iload_n 1, 1) := by decide +kernel
theorem dX2_takeInterest_17 : decode cX2_takeInterest 17 = .ok (.dup2, 1) := by decide +kernel
theorem dX2_takeInterest_18 : decode cX2_takeInterest 18 = .ok (.laload, 1) := by decide +kernel
theorem dX2_takeInterest_19 : decode cX2_takeInterest 19 = .ok (.ldc2_w 106, 3) := by decide +kernel
theorem dX2_takeInterest_22 : decode cX2_takeInterest 22 = .ok (.lrem, 1) := by decide +kernel
theorem dX2_takeInterest_23 : decode cX2_takeInterest 23 = .ok (.lastore, 1) := by decide +kernel
theorem dX2_takeInterest_24 : decode cX2_takeInterest 24 = .ok (.iload_n 2, 1) := by decide +kernel
theorem dX2_takeInterest_25 : decode cX2_takeInterest 25 = .ok (.ireturn, 1) := by decide +kernel
theorem dX2_end_0 : decode cX2_end 0 = .ok (.aload_n 0, 1) := by decide +kernel
theorem dX2_end_1 : decode cX2_end 1 = .ok (.iload_n 1, 1) := by decide +kernel
theorem dX2_end_2 : decode cX2_end 2 = .ok (.invokevirtual 108, 3) := by decide +kernel
theorem dX2_end_5 : decode cX2_end 5 = .ok (.istore_n 2, 1) := by decide +kernel
theorem dX2_end_6 : decode cX2_end 6 = .ok (.aload_n 0, 1) := by decide +kernel
theorem dX2_end_7 : decode cX2_end 7 = .ok (.getfield 54, 3) := by decide +kernel
theorem dX2_end_10 : decode cX2_end 10 = .ok (.aload_n 0, 1) := by decide +kernel
theorem dX2_end_11 : decode cX2_end 11 = .ok (.getfield 20, 3) := by decide +kernel
theorem dX2_end_14 : decode cX2_end 14 = .ok (.iload_n 1, 1) := by decide +kernel
theorem dX2_end_15 : decode cX2_end 15 = .ok (.iaload, 1) := by decide +kernel
theorem dX2_end_16 : decode cX2_end 16 = .ok (.dup2, 1) := by decide +kernel
theorem dX2_end_17 : decode cX2_end 17 = .ok (.laload, 1) := by decide +kernel
theorem dX2_end_18 : decode cX2_end 18 = .ok (.aload_n 0, 1) := by decide +kernel
theorem dX2_end_19 : decode cX2_end 19 = .ok (.getfield 26, 3) := by decide +kernel
theorem dX2_end_22 : decode cX2_end 22 = .ok (.iload_n 1, 1) := by decide +kernel
theorem dX2_end_23 : decode cX2_end 23 = .ok (.laload, 1) := by decide +kernel
theorem dX2_end_24 : decode cX2_end 24 = .ok (.ladd, 1) := by decide +kernel
theorem dX2_end_25 : decode cX2_end 25 = .ok (.lastore, 1) := by decide +kernel
theorem dX2_end_26 : decode cX2_end 26 = .ok (.aload_n 0, 1) := by decide +kernel
theorem dX2_end_27 : decode cX2_end 27 = .ok (.getfield 13, 3) := by decide +kernel
theorem dX2_end_30 : decode cX2_end 30 = .ok (.iload_n 1, 1) := by decide +kernel
theorem dX2_end_31 : decode cX2_end 31 = .ok (.iconst 0, 1) := by decide +kernel
theorem dX2_end_32 : decode cX2_end 32 = .ok (.bastore, 1) := by decide +kernel
theorem dX2_end_33 : decode cX2_end 33 = .ok (.iload_n 2, 1) := by decide +kernel
theorem dX2_end_34 : decode cX2_end 34 = .ok (.ireturn, 1) := by decide +kernel
theorem dX2_pay_0 : decode cX2_pay 0 = .ok (.aload_n 0, 1) := by decide +kernel
theorem dX2_pay_1 : decode cX2_pay 1 = .ok (.getfield 51, 3) := by decide +kernel
theorem dX2_pay_4 : decode cX2_pay 4 = .ok (.iload_n 1, 1) := by decide +kernel
theorem dX2_pay_5 : decode cX2_pay 5 = .ok (.dup2, 1) := by decide +kernel
theorem dX2_pay_6 : decode cX2_pay 6 = .ok (.laload, 1) := by decide +kernel
theorem dX2_pay_7 : decode cX2_pay 7 = .ok (.iload_n 2, 1) := by decide +kernel
theorem dX2_pay_8 : decode cX2_pay 8 = .ok (.i2l, 1) := by decide +kernel
theorem dX2_pay_9 : decode cX2_pay 9 = .ok (.ladd, 1) := by decide +kernel
theorem dX2_pay_10 : decode cX2_pay 10 = .ok (.lastore, 1) := by decide +kernel
theorem dX2_pay_11 : decode cX2_pay 11 = .ok (.iload_n 2, 1) := by decide +kernel
theorem dX2_pay_12 : decode cX2_pay 12 = .ok (.ireturn, 1) := by decide +kernel
theorem dX2_open_0 : decode cX2_open 0 = .ok (.aload_n 0, 1) := by decide +kernel
theorem dX2_open_1 : decode cX2_open 1 = .ok (.getfield 77, 3) := by decide +kernel
theorem dX2_open_4 : decode cX2_open 4 = .ok (.istore_n 3, 1) := by decide +kernel
theorem dX2_open_5 : decode cX2_open 5 = .ok (.aload_n 0, 1) := by decide +kernel
theorem dX2_open_6 : decode cX2_open 6 = .ok (.dup, 1) := by decide +kernel
theorem dX2_open_7 : decode cX2_open 7 = .ok (.getfield 77, 3) := by decide +kernel
theorem dX2_open_10 : decode cX2_open 10 = .ok (.iconst 1, 1) := by decide +kernel
theorem dX2_open_11 : decode cX2_open 11 = .ok (.iadd, 1) := by decide +kernel
theorem dX2_open_12 : decode cX2_open 12 = .ok (.putfield 77, 3) := by decide +kernel
theorem dX2_open_15 : decode cX2_open 15 = .ok (.aload_n 0, 1) := by decide +kernel
theorem dX2_open_16 : decode cX2_open 16 = .ok (.getfield 13, 3) := by decide +kernel
theorem dX2_open_19 : decode cX2_open 19 = .ok (.iload_n 3, 1) := by decide +kernel
theorem dX2_open_20 : decode cX2_open 20 = .ok (.iconst 1, 1) := by decide +kernel
theorem dX2_open_21 : decode cX2_open 21 = .ok (.bastore, 1) := by decide +kernel
theorem dX2_open_22 : decode cX2_open 22 = .ok (.aload_n 0, 1) := by decide +kernel
theorem dX2_open_23 : decode cX2_open 23 = .ok (.getfield 17, 3) := by decide +kernel
theorem dX2_open_26 : decode cX2_open 26 = .ok (.iload_n 3, 1) := by decide +kernel
theorem dX2_open_27 : decode cX2_open 27 = .ok (.iconst 0, 1) := by decide +kernel
theorem dX2_open_28 : decode cX2_open 28 = .ok (.bastore, 1) := by decide +kernel
theorem dX2_open_29 : decode cX2_open 29 = .ok (.aload_n 0, 1) := by decide +kernel
theorem dX2_open_30 : decode cX2_open 30 = .ok (.getfield 20, 3) := by decide +kernel
theorem dX2_open_33 : decode cX2_open 33 = .ok (.iload_n 3, 1) := by decide +kernel
theorem dX2_open_34 : decode cX2_open 34 = .ok (.iload_n 1, 1) := by decide +kernel
theorem dX2_open_35 : decode cX2_open 35 = .ok (.iastore, 1) := by decide +kernel
theorem dX2_open_36 : decode cX2_open 36 = .ok (.aload_n 0, 1) := by decide +kernel
theorem dX2_open_37 : decode cX2_open 37 = .ok (.getfield 23, 3) := by decide +kernel
theorem dX2_open_40 : decode cX2_open 40 = .ok (.iload_n 3, 1) := by decide +kernel
theorem dX2_open_41 : decode cX2_open 41 = .ok (.iload_n 2, 1) := by decide +kernel
theorem dX2_open_42 : decode cX2_open 42 = .ok (.iastore, 1) := by decide +kernel
theorem dX2_open_43 : decode cX2_open 43 = .ok (.aload_n 0, 1) := by decide +kernel
theorem dX2_open_44 : decode cX2_open 44 = .ok (.getfield 26, 3) := by decide +kernel
theorem dX2_open_47 : decode cX2_open 47 = .ok (.iload_n 3, 1) := by decide +kernel
theorem dX2_open_48 : decode cX2_open 48 = .ok (.lconst 0, 1) := by decide +kernel
theorem dX2_open_49 : decode cX2_open 49 = .ok (.lastore, 1) := by decide +kernel
theorem dX2_open_50 : decode cX2_open 50 = .ok (.aload_n 0, 1) := by decide +kernel
theorem dX2_open_51 : decode cX2_open 51 = .ok (.getfield 30, 3) := by decide +kernel
theorem dX2_open_54 : decode cX2_open 54 = .ok (.iload_n 3, 1) := by decide +kernel
theorem dX2_open_55 : decode cX2_open 55 = .ok (.iconst 0, 1) := by decide +kernel
theorem dX2_open_56 : decode cX2_open 56 = .ok (.iastore, 1) := by decide +kernel
theorem dX2_open_57 : decode cX2_open 57 = .ok (.aload_n 0, 1) := by decide +kernel
theorem dX2_open_58 : decode cX2_open 58 = .ok (.getfield 48, 3) := by decide +kernel
theorem dX2_open_61 : decode cX2_open 61 = .ok (.iload_n 3, 1) := by decide +kernel
theorem dX2_open_62 : decode cX2_open 62 = .ok (.iconst (-1), 1) := by decide +kernel
theorem dX2_open_63 : decode cX2_open 63 = .ok (.iastore, 1) := by decide +kernel
theorem dX2_open_64 : decode cX2_open 64 = .ok (.iload_n 3, 1) := by decide +kernel
theorem dX2_open_65 : decode cX2_open 65 = .ok (.ireturn, 1) := by decide +kernel
theorem dX2_deposit_0 : decode cX2_deposit 0 = .ok (.aload_n 0, 1) := by decide +kernel
theorem dX2_deposit_1 : decode cX2_deposit 1 = .ok (.iload_n 1, 1) := by decide +kernel
theorem dX2_deposit_2 : decode cX2_deposit 2 = .ok (.invokestatic 111, 3) := by decide +kernel
theorem dX2_deposit_5 : decode cX2_deposit 5 = .ok (.ifCond .ne 7, 3) := by decide +kernel
theorem dX2_deposit_8 : decode cX2_deposit 8 = .ok (.iconst 1, 1) := by decide +kernel
theorem dX2_deposit_9 : decode cX2_deposit 9 = .ok (.goto 31, 3) := by decide +kernel
theorem dX2_deposit_12 : decode cX2_deposit 12 = .ok (.iload_n 2, 1) := by decide +kernel
theorem dX2_deposit_13 : decode cX2_deposit 13 = .ok (.iconst 1, 1) := by decide +kernel
theorem dX2_deposit_14 : decode cX2_deposit 14 = .ok (.ldc 115, 2) := by decide +kernel
theorem dX2_deposit_16 : decode cX2_deposit 16 = .ok (.invokestatic 73, 3) := by decide +kernel
theorem dX2_deposit_19 : decode cX2_deposit 19 = .ok (.ifCond .ne 7, 3) := by decide +kernel
theorem dX2_deposit_22 : decode cX2_deposit 22 = .ok (.iconst 2, 1) := by decide +kernel
theorem dX2_deposit_23 : decode cX2_deposit 23 = .ok (.goto 17, 3) := by decide +kernel
theorem dX2_deposit_26 : decode cX2_deposit 26 = .ok (.aload_n 0, 1) := by decide +kernel
theorem dX2_deposit_27 : decode cX2_deposit 27 = .ok (.getfield 77, 3) := by decide +kernel
theorem dX2_deposit_30 : decode cX2_deposit 30 = .ok (.bipush 40, 2) := by decide +kernel
theorem dX2_deposit_32 : decode cX2_deposit 32 = .ok (.if_icmp .ne 7, 3) := by decide +kernel
theorem dX2_deposit_35 : decode cX2_deposit 35 = .ok (.iconst 3, 1) := by decide +kernel
theorem dX2_deposit_36 : decode cX2_deposit 36 = .ok (.goto 4, 3) := by decide +kernel
theorem dX2_deposit_39 : decode cX2_deposit 39 = .ok (.iconst 0, 1) := by decide +kernel
theorem dX2_deposit_40 : decode cX2_deposit 40 = .ok (.putfield 70, 3) := by decide +kernel
theorem dX2_deposit_43 : decode cX2_deposit 43 = .ok (.aload_n 0, 1) := by decide +kernel
theorem dX2_deposit_44 : decode cX2_deposit 44 = .ok (.getfield 70, 3) := by decide +kernel
theorem dX2_deposit_47 : decode cX2_deposit 47 = .ok (.ifCond .ne 12, 3) := by decide +kernel
theorem dX2_deposit_50 : decode cX2_deposit 50 = .ok (.aload_n 0, 1) := by decide +kernel
theorem dX2_deposit_51 : decode cX2_deposit 51 = .ok (.iload_n 1, 1) := by decide +kernel
theorem dX2_deposit_52 : decode cX2_deposit 52 = .ok (.iload_n 2, 1) := by decide +kernel
theorem dX2_deposit_53 : decode cX2_deposit 53 = .ok (.invokevirtual 116, 3) := by decide +kernel
theorem dX2_deposit_56 : decode cX2_deposit 56 = .ok (.goto 4, 3) := by decide +kernel
theorem dX2_deposit_59 : decode cX2_deposit 59 = .ok (.iconst 0, 1) := by decide +kernel
theorem dX2_deposit_60 : decode cX2_deposit 60 = .ok (.ireturn, 1) := by decide +kernel
theorem dX2_beginTerm_0 : decode cX2_beginTerm 0 = .ok (.aload_n 0, 1) := by decide +kernel
theorem dX2_beginTerm_1 : decode cX2_beginTerm 1 = .ok (.getfield 42, 3) := by decide +kernel
theorem dX2_beginTerm_4 : decode cX2_beginTerm 4 = .ok (.iload_n 1, 1) := by decide +kernel
theorem dX2_beginTerm_5 : decode cX2_beginTerm 5 = .ok (.aload_n 0, 1) := by decide +kernel
theorem dX2_beginTerm_6 : decode cX2_beginTerm 6 = .ok (.getfield 119, 3) := by decide +kernel
theorem dX2_beginTerm_9 : decode cX2_beginTerm 9 = .ok (.aload_n 0, 1) := by decide +kernel
theorem dX2_beginTerm_10 : decode cX2_beginTerm 10 = .ok (.getfield 39, 3) := by decide +kernel
theorem dX2_beginTerm_13 : decode cX2_beginTerm 13 = .ok (.iload_n 1, 1) := by decide +kernel
theorem dX2_beginTerm_14 : decode cX2_beginTerm 14 = .ok (.iaload, 1) := by decide +kernel
theorem dX2_beginTerm_15 : decode cX2_beginTerm 15 = .ok (.iadd, 1) := by decide +kernel
theorem dX2_beginTerm_16 : decode cX2_beginTerm 16 = .ok (.iastore, 1) := by decide +kernel
theorem dX2_beginTerm_17 : decode cX2_beginTerm 17 = .ok (.aload_n 0, 1) := by decide +kernel
theorem dX2_beginTerm_18 : decode cX2_beginTerm 18 = .ok (.getfield 36, 3) := by decide +kernel
theorem dX2_beginTerm_21 : decode cX2_beginTerm 21 = .ok (.iload_n 1, 1) := by decide +kernel
theorem dX2_beginTerm_22 : decode cX2_beginTerm 22 = .ok (.aload_n 0, 1) := by decide +kernel
theorem dX2_beginTerm_23 : decode cX2_beginTerm 23 = .ok (.getfield 23, 3) := by decide +kernel
theorem dX2_beginTerm_26 : decode cX2_beginTerm 26 = .ok (.iload_n 1, 1) := by decide +kernel
theorem dX2_beginTerm_27 : decode cX2_beginTerm 27 = .ok (.iaload, 1) := by decide +kernel
theorem dX2_beginTerm_28 : decode cX2_beginTerm 28 = .ok (.i2l, 1) := by decide +kernel
theorem dX2_beginTerm_29 : decode cX2_beginTerm 29 = .ok (.aload_n 0, 1) := by decide +kernel
theorem dX2_beginTerm_30 : decode cX2_beginTerm 30 = .ok (.getfield 66, 3) := by decide +kernel
theorem dX2_beginTerm_33 : decode cX2_beginTerm 33 = .ok (.i2l, 1) := by decide +kernel
theorem dX2_beginTerm_34 : decode cX2_beginTerm 34 = .ok (.lmul, 1) := by decide +kernel
theorem dX2_beginTerm_35 : decode cX2_beginTerm 35 = .ok (.lastore, 1) := by decide +kernel
theorem dX2_beginTerm_36 : decode cX2_beginTerm 36 = .ok (.return_, 1) := by decide +kernel
theorem dX2_depositTerm_0 : decode cX2_depositTerm 0 = .ok (.aload_n 0, 1) := by decide +kernel
theorem dX2_depositTerm_1 : decode cX2_depositTerm 1 = .ok (.iload_n 1, 1) := by decide +kernel
theorem dX2_depositTerm_2 : decode cX2_depositTerm 2 = .ok (.invokestatic 111, 3) := by decide +kernel
theorem dX2_depositTerm_5 : decode cX2_depositTerm 5 = .ok (.ifCond .ne 7, 3) := by decide +kernel
theorem dX2_depositTerm_8 : decode cX2_depositTerm 8 = .ok (.iconst 1, 1) := by decide +kernel
theorem dX2_depositTerm_9 : decode cX2_depositTerm 9 = .ok (.goto 52, 3) := by decide +kernel
theorem dX2_depositTerm_12 : decode cX2_depositTerm 12 = .ok (.iload_n 2, 1) := by decide +kernel
theorem dX2_depositTerm_13 : decode cX2_depositTerm 13 = .ok (.iconst 1, 1) := by decide +kernel
theorem dX2_depositTerm_14 : decode cX2_depositTerm 14 = .ok (.ldc 115, 2) := by decide +kernel
theorem dX2_depositTerm_16 : decode cX2_depositTerm 16 = .ok (.invokestatic 73, 3) := by decide +kernel
theorem dX2_depositTerm_19 : decode cX2_depositTerm 19 = .ok (.ifCond .eq 24, 3) := by decide +kernel
theorem dX2_depositTerm_22 : decode cX2_depositTerm 22 = .ok (.iload_n 3, 1) := by decide +kernel
theorem dX2_depositTerm_23 : decode cX2_depositTerm 23 = .ok (.iconst 1, 1) := by decide +kernel
theorem dX2_depositTerm_24 : decode cX2_depositTerm 24 = .ok (.sipush 400, 3) := by decide +kernel
theorem dX2_depositTerm_27 : decode cX2_depositTerm 27 = .ok (.invokestatic 73, 3) := by decide +kernel
theorem dX2_depositTerm_30 : decode cX2_depositTerm 30 = .ok (.ifCond .eq 13, 3) := by decide +kernel
theorem dX2_depositTerm_33 : decode cX2_depositTerm 33 = .ok (.iload 4, 2) := by decide +kernel
theorem dX2_depositTerm_35 : decode cX2_depositTerm 35 = .ok (.iconst 0, 1) := by decide +kernel
theorem dX2_depositTerm_36 : decode cX2_depositTerm 36 = .ok (.iconst 2, 1) := by decide +kernel
theorem dX2_depositTerm_37 : decode cX2_depositTerm 37 = .ok (.invokestatic 73, 3) := by decide +kernel
theorem dX2_depositTerm_40 : decode cX2_depositTerm 40 = .ok (.ifCond .ne 7, 3) := by decide +kernel
theorem dX2_depositTerm_43 : decode cX2_depositTerm 43 = .ok (.iconst 2, 1) := by decide +kernel
theorem dX2_depositTerm_44 : decode cX2_depositTerm 44 = .ok (.goto 17, 3) := by decide +kernel
theorem dX2_depositTerm_47 : decode cX2_depositTerm 47 = .ok (.aload_n 0, 1) := by decide +kernel
theorem dX2_depositTerm_48 : decode cX2_depositTerm 48 = .ok (.getfield 77, 3) := by decide +kernel
theorem dX2_depositTerm_51 : decode cX2_depositTerm 51 = .ok (.bipush 40, 2) := by decide +kernel
theorem dX2_depositTerm_53 : decode cX2_depositTerm 53 = .ok (.if_icmp .ne 7, 3) := by decide +kernel
theorem dX2_depositTerm_56 : decode cX2_depositTerm 56 = .ok (.iconst 3, 1) := by decide +kernel
theorem dX2_depositTerm_57 : decode cX2_depositTerm 57 = .ok (.goto 4, 3) := by decide +kernel
theorem dX2_depositTerm_60 : decode cX2_depositTerm 60 = .ok (.iconst 0, 1) := by decide +kernel
theorem dX2_depositTerm_61 : decode cX2_depositTerm 61 = .ok (.putfield 70, 3) := by decide +kernel
theorem dX2_depositTerm_64 : decode cX2_depositTerm 64 = .ok (.aload_n 0, 1) := by decide +kernel
theorem dX2_depositTerm_65 : decode cX2_depositTerm 65 = .ok (.getfield 70, 3) := by decide +kernel
theorem dX2_depositTerm_68 : decode cX2_depositTerm 68 = .ok (.ifCond .le 5, 3) := by decide +kernel
theorem dX2_depositTerm_71 : decode cX2_depositTerm 71 = .ok (.iconst 0, 1) := by decide +kernel
theorem dX2_depositTerm_72 : decode cX2_depositTerm 72 = .ok (.ireturn, 1) := by decide +kernel
theorem dX2_depositTerm_73 : decode cX2_depositTerm 73 = .ok (.aload_n 0, 1) := by decide +kernel
theorem dX2_depositTerm_74 : decode cX2_depositTerm 74 = .ok (.iload_n 1, 1) := by decide +kernel
theorem dX2_depositTerm_75 : decode cX2_depositTerm 75 = .ok (.iload_n 2, 1) := by decide +kernel
theorem dX2_depositTerm_76 : decode cX2_depositTerm 76 = .ok (.invokevirtual 116, 3) := by decide +kernel
theorem dX2_depositTerm_79 : decode cX2_depositTerm 79 = .ok (.istore 5, 2) := by decide +kernel
theorem dX2_depositTerm_81 : decode cX2_depositTerm 81 = .ok (.aload_n 0, 1) := by decide +kernel
theorem dX2_depositTerm_82 : decode cX2_depositTerm 82 = .ok (.getfield 17, 3) := by decide +kernel
theorem dX2_depositTerm_85 : decode cX2_depositTerm 85 = .ok (.iload 5, 2) := by decide +kernel
theorem dX2_depositTerm_87 : decode cX2_depositTerm 87 = .ok (.iconst 1, 1) := by decide +kernel
theorem dX2_depositTerm_88 : decode cX2_depositTerm 88 = .ok (.bastore, 1) := by decide +kernel
theorem dX2_depositTerm_89 : decode cX2_depositTerm 89 = .ok (.aload_n 0, 1) := by decide +kernel
theorem dX2_depositTerm_90 : decode cX2_depositTerm 90 = .ok (.getfield 39, 3) := by decide +kernel
theorem dX2_depositTerm_93 : decode cX2_depositTerm 93 = .ok (.iload 5, 2) := by decide +kernel
theorem dX2_depositTerm_95 : decode cX2_depositTerm 95 = .ok (.iload_n 3, 1) := by decide +kernel
theorem dX2_depositTerm_96 : decode cX2_depositTerm 96 = .ok (.iastore, 1) := by decide +kernel
theorem dX2_depositTerm_97 : decode cX2_depositTerm 97 = .ok (.aload_n 0, 1) := by decide +kernel
theorem dX2_depositTerm_98 : decode cX2_depositTerm 98 = .ok (.getfield 45, 3) := by decide +kernel
theorem dX2_depositTerm_101 : decode cX2_depositTerm 101 = .ok (.iload 5, 2) := by decide +kernel
theorem dX2_depositTerm_103 : decode cX2_depositTerm 103 = .ok (.iload 4, 2) := by decide +kernel
theorem dX2_depositTerm_105 : decode cX2_depositTerm 105 = .ok (.iastore, 1) := by decide +kernel
theorem dX2_depositTerm_106 : decode cX2_depositTerm 106 = .ok (.aload_n 0, 1) := by decide +kernel
theorem dX2_depositTerm_107 : decode cX2_depositTerm 107 = .ok (.iload 5, 2) := by decide +kernel
theorem dX2_depositTerm_109 : decode cX2_depositTerm 109 = .ok (.invokevirtual 122, 3) := by decide +kernel
theorem dX2_depositTerm_112 : decode cX2_depositTerm 112 = .ok (.iload 5, 2) := by decide +kernel
theorem dX2_depositTerm_114 : decode cX2_depositTerm 114 = .ok (.ireturn, 1) := by decide +kernel
theorem dX2_give_0 : decode cX2_give 0 = .ok (.aload_n 0, 1) := by decide +kernel
theorem dX2_give_1 : decode cX2_give 1 = .ok (.aload_n 0, 1) := by decide +kernel
theorem dX2_give_2 : decode cX2_give 2 = .ok (.iload_n 1, 1) := by decide +kernel
theorem dX2_give_3 : decode cX2_give 3 = .ok (.invokevirtual 126, 3) := by decide +kernel
theorem dX2_give_6 : decode cX2_give 6 = .ok (.ifCond .ne 7, 3) := by decide +kernel
theorem dX2_give_9 : decode cX2_give 9 = .ok (.iconst 1, 1) := by decide +kernel
theorem dX2_give_10 : decode cX2_give 10 = .ok (.goto 44, 3) := by decide +kernel
theorem dX2_give_13 : decode cX2_give 13 = .ok (.iload_n 2, 1) := by decide +kernel
theorem dX2_give_14 : decode cX2_give 14 = .ok (.iconst 1, 1) := by decide +kernel
theorem dX2_give_15 : decode cX2_give 15 = .ok (.aload_n 0, 1) := by decide +kernel
theorem dX2_give_16 : decode cX2_give 16 = .ok (.getfield 23, 3) := by decide +kernel
theorem dX2_give_19 : decode cX2_give 19 = .ok (.iload_n 1, 1) := by decide +kernel
theorem dX2_give_20 : decode cX2_give 20 = .ok (.iaload, 1) := by decide +kernel
theorem dX2_give_21 : decode cX2_give 21 = .ok (.invokestatic 73, 3) := by decide +kernel
theorem dX2_give_24 : decode cX2_give 24 = .ok (.ifCond .ne 7, 3) := by decide +kernel
theorem dX2_give_27 : decode cX2_give 27 = .ok (.iconst 2, 1) := by decide +kernel
theorem dX2_give_28 : decode cX2_give 28 = .ok (.goto 26, 3) := by decide +kernel
theorem dX2_give_31 : decode cX2_give 31 = .ok (.aload_n 0, 1) := by decide +kernel
theorem dX2_give_32 : decode cX2_give 32 = .ok (.getfield 17, 3) := by decide +kernel
theorem dX2_give_35 : decode cX2_give 35 = .ok (.iload_n 1, 1) := by decide +kernel
theorem dX2_give_36 : decode cX2_give 36 = .ok (.baload, 1) := by decide +kernel
theorem dX2_give_37 : decode cX2_give 37 = .ok (.ifCond .ne 12, 3) := by decide +kernel
theorem dX2_give_40 : decode cX2_give 40 = .ok (.aload_n 0, 1) := by decide +kernel
theorem dX2_give_41 : decode cX2_give 41 = .ok (.getfield 30, 3) := by decide +kernel
theorem dX2_give_44 : decode cX2_give 44 = .ok (.iload_n 1, 1) := by decide +kernel
theorem dX2_give_45 : decode cX2_give 45 = .ok (.iaload, 1) := by decide +kernel
theorem dX2_give_46 : decode cX2_give 46 = .ok (.ifCond .le 7, 3) := by decide +kernel
theorem dX2_give_49 : decode cX2_give 49 = .ok (.iconst 3, 1) := by decide +kernel
theorem dX2_give_50 : decode cX2_give 50 = .ok (.goto 4, 3) := by decide +kernel
theorem dX2_give_53 : decode cX2_give 53 = .ok (.iconst 0, 1) := by decide +kernel
theorem dX2_give_54 : decode cX2_give 54 = .ok (.putfield 70, 3) := by decide +kernel
theorem dX2_give_57 : decode cX2_give 57 = .ok (.aload_n 0, 1) := by decide +kernel
theorem dX2_give_58 : decode cX2_give 58 = .ok (.getfield 70, 3) := by decide +kernel
theorem dX2_give_61 : decode cX2_give 61 = .ok (.ifCond .le 5, 3) := by decide +kernel
theorem dX2_give_64 : decode cX2_give 64 = .ok (.iconst 0, 1) := by decide +kernel
theorem dX2_give_65 : decode cX2_give 65 = .ok (.ireturn, 1) := by decide +kernel
theorem dX2_give_66 : decode cX2_give 66 = .ok (.aload_n 0, 1) := by decide +kernel
theorem dX2_give_67 : decode cX2_give 67 = .ok (.getfield 30, 3) := by decide +kernel
theorem dX2_give_70 : decode cX2_give 70 = .ok (.iload_n 1, 1) := by decide +kernel
theorem dX2_give_71 : decode cX2_give 71 = .ok (.iload_n 2, 1) := by decide +kernel
theorem dX2_give_72 : decode cX2_give 72 = .ok (.iastore, 1) := by decide +kernel
theorem dX2_give_73 : decode cX2_give 73 = .ok (.aload_n 0, 1) := by decide +kernel
theorem dX2_give_74 : decode cX2_give 74 = .ok (.getfield 33, 3) := by decide +kernel
theorem dX2_give_77 : decode cX2_give 77 = .ok (.iload_n 1, 1) := by decide +kernel
theorem dX2_give_78 : decode cX2_give 78 = .ok (.aload_n 0, 1) := by decide +kernel
theorem dX2_give_79 : decode cX2_give 79 = .ok (.getfield 119, 3) := by decide +kernel
theorem dX2_give_82 : decode cX2_give 82 = .ok (.iastore, 1) := by decide +kernel
theorem dX2_give_83 : decode cX2_give 83 = .ok (.aload_n 0, 1) := by decide +kernel
theorem dX2_give_84 : decode cX2_give 84 = .ok (.getfield 119, 3) := by decide +kernel
theorem dX2_give_87 : decode cX2_give 87 = .ok (.bipush 32, 2) := by decide +kernel
theorem dX2_give_89 : decode cX2_give 89 = .ok (.iadd, 1) := by decide +kernel
theorem dX2_give_90 : decode cX2_give 90 = .ok (.ireturn, 1) := by decide +kernel
theorem dX2_withdraw_0 : decode cX2_withdraw 0 = .ok (.aload_n 0, 1) := by decide +kernel
theorem dX2_withdraw_1 : decode cX2_withdraw 1 = .ok (.aload_n 0, 1) := by decide +kernel
theorem dX2_withdraw_2 : decode cX2_withdraw 2 = .ok (.iload_n 1, 1) := by decide +kernel
theorem dX2_withdraw_3 : decode cX2_withdraw 3 = .ok (.invokevirtual 126, 3) := by decide +kernel
theorem dX2_withdraw_6 : decode cX2_withdraw 6 = .ok (.ifCond .ne 7, 3) := by decide +kernel
theorem dX2_withdraw_9 : decode cX2_withdraw 9 = .ok (.iconst 1, 1) := by decide +kernel
theorem dX2_withdraw_10 : decode cX2_withdraw 10 = .ok (.goto 26, 3) := by decide +kernel
theorem dX2_withdraw_13 : decode cX2_withdraw 13 = .ok (.aload_n 0, 1) := by decide +kernel
theorem dX2_withdraw_14 : decode cX2_withdraw 14 = .ok (.getfield 17, 3) := by decide +kernel
theorem dX2_withdraw_17 : decode cX2_withdraw 17 = .ok (.iload_n 1, 1) := by decide +kernel
theorem dX2_withdraw_18 : decode cX2_withdraw 18 = .ok (.baload, 1) := by decide +kernel
theorem dX2_withdraw_19 : decode cX2_withdraw 19 = .ok (.ifCond .ne 12, 3) := by decide +kernel
theorem dX2_withdraw_22 : decode cX2_withdraw 22 = .ok (.aload_n 0, 1) := by decide +kernel
theorem dX2_withdraw_23 : decode cX2_withdraw 23 = .ok (.getfield 30, 3) := by decide +kernel
theorem dX2_withdraw_26 : decode cX2_withdraw 26 = .ok (.iload_n 1, 1) := by decide +kernel
theorem dX2_withdraw_27 : decode cX2_withdraw 27 = .ok (.iaload, 1) := by decide +kernel
theorem dX2_withdraw_28 : decode cX2_withdraw 28 = .ok (.ifCond .ne 7, 3) := by decide +kernel
theorem dX2_withdraw_31 : decode cX2_withdraw 31 = .ok (.iconst 2, 1) := by decide +kernel
theorem dX2_withdraw_32 : decode cX2_withdraw 32 = .ok (.goto 4, 3) := by decide +kernel
theorem dX2_withdraw_35 : decode cX2_withdraw 35 = .ok (.iconst 0, 1) := by decide +kernel
theorem dX2_withdraw_36 : decode cX2_withdraw 36 = .ok (.putfield 70, 3) := by decide +kernel
theorem dX2_withdraw_39 : decode cX2_withdraw 39 = .ok (.aload_n 0, 1) := by decide +kernel
theorem dX2_withdraw_40 : decode cX2_withdraw 40 = .ok (.getfield 70, 3) := by decide +kernel
theorem dX2_withdraw_43 : decode cX2_withdraw 43 = .ok (.ifCond .le 5, 3) := by decide +kernel
theorem dX2_withdraw_46 : decode cX2_withdraw 46 = .ok (.iconst 0, 1) := by decide +kernel
theorem dX2_withdraw_47 : decode cX2_withdraw 47 = .ok (.ireturn, 1) := by decide +kernel
theorem dX2_withdraw_48 : decode cX2_withdraw 48 = .ok (.aload_n 0, 1) := by decide +kernel
theorem dX2_withdraw_49 : decode cX2_withdraw 49 = .ok (.getfield 30, 3) := by decide +kernel
theorem dX2_withdraw_52 : decode cX2_withdraw 52 = .ok (.iload_n 1, 1) := by decide +kernel
theorem dX2_withdraw_53 : decode cX2_withdraw 53 = .ok (.iaload, 1) := by decide +kernel
theorem dX2_withdraw_54 : decode cX2_withdraw 54 = .ok (.istore_n 2, 1) := by decide +kernel
theorem dX2_withdraw_55 : decode cX2_withdraw 55 = .ok (.aload_n 0, 1) := by decide +kernel
theorem dX2_withdraw_56 : decode cX2_withdraw 56 = .ok (.getfield 30, 3) := by decide +kernel
theorem dX2_withdraw_59 : decode cX2_withdraw 59 = .ok (.iload_n 1, 1) := by decide +kernel
theorem dX2_withdraw_60 : decode cX2_withdraw 60 = .ok (.iconst 0, 1) := by decide +kernel
theorem dX2_withdraw_61 : decode cX2_withdraw 61 = .ok (.iastore, 1) := by decide +kernel
theorem dX2_withdraw_62 : decode cX2_withdraw 62 = .ok (.iload_n 2, 1) := by decide +kernel
theorem dX2_withdraw_63 : decode cX2_withdraw 63 = .ok (.ireturn, 1) := by decide +kernel
theorem dX2_take_0 : decode cX2_take 0 = .ok (.aload_n 0, 1) := by decide +kernel
theorem dX2_take_1 : decode cX2_take 1 = .ok (.aload_n 0, 1) := by decide +kernel
theorem dX2_take_2 : decode cX2_take 2 = .ok (.iload_n 1, 1) := by decide +kernel
theorem dX2_take_3 : decode cX2_take 3 = .ok (.invokevirtual 126, 3) := by decide +kernel
theorem dX2_take_6 : decode cX2_take 6 = .ok (.ifCond .ne 7, 3) := by decide +kernel
theorem dX2_take_9 : decode cX2_take 9 = .ok (.iconst 1, 1) := by decide +kernel
theorem dX2_take_10 : decode cX2_take 10 = .ok (.goto 42, 3) := by decide +kernel
theorem dX2_take_13 : decode cX2_take 13 = .ok (.aload_n 0, 1) := by decide +kernel
theorem dX2_take_14 : decode cX2_take 14 = .ok (.getfield 17, 3) := by decide +kernel
theorem dX2_take_17 : decode cX2_take 17 = .ok (.iload_n 1, 1) := by decide +kernel
theorem dX2_take_18 : decode cX2_take 18 = .ok (.baload, 1) := by decide +kernel
theorem dX2_take_19 : decode cX2_take 19 = .ok (.ifCond .ne 28, 3) := by decide +kernel
theorem dX2_take_22 : decode cX2_take 22 = .ok (.aload_n 0, 1) := by decide +kernel
theorem dX2_take_23 : decode cX2_take 23 = .ok (.getfield 30, 3) := by decide +kernel
theorem dX2_take_26 : decode cX2_take 26 = .ok (.iload_n 1, 1) := by decide +kernel
theorem dX2_take_27 : decode cX2_take 27 = .ok (.iaload, 1) := by decide +kernel
theorem dX2_take_28 : decode cX2_take 28 = .ok (.ifCond .eq 19, 3) := by decide +kernel
theorem dX2_take_31 : decode cX2_take 31 = .ok (.aload_n 0, 1) := by decide +kernel
theorem dX2_take_32 : decode cX2_take 32 = .ok (.getfield 119, 3) := by decide +kernel
theorem dX2_take_35 : decode cX2_take 35 = .ok (.aload_n 0, 1) := by decide +kernel
theorem dX2_take_36 : decode cX2_take 36 = .ok (.getfield 33, 3) := by decide +kernel
theorem dX2_take_39 : decode cX2_take 39 = .ok (.iload_n 1, 1) := by decide +kernel
theorem dX2_take_40 : decode cX2_take 40 = .ok (.iaload, 1) := by decide +kernel
theorem dX2_take_41 : decode cX2_take 41 = .ok (.bipush 32, 2) := by decide +kernel
theorem dX2_take_43 : decode cX2_take 43 = .ok (.iadd, 1) := by decide +kernel
theorem dX2_take_44 : decode cX2_take 44 = .ok (.if_icmp .ge 7, 3) := by decide +kernel
theorem dX2_take_47 : decode cX2_take 47 = .ok (.iconst 2, 1) := by decide +kernel
theorem dX2_take_48 : decode cX2_take 48 = .ok (.goto 4, 3) := by decide +kernel
theorem dX2_take_51 : decode cX2_take 51 = .ok (.iconst 0, 1) := by decide +kernel
theorem dX2_take_52 : decode cX2_take 52 = .ok (.putfield 70, 3) := by decide +kernel
theorem dX2_take_55 : decode cX2_take 55 = .ok (.aload_n 0, 1) := by decide +kernel
theorem dX2_take_56 : decode cX2_take 56 = .ok (.getfield 70, 3) := by decide +kernel
theorem dX2_take_59 : decode cX2_take 59 = .ok (.ifCond .le 5, 3) := by decide +kernel
theorem dX2_take_62 : decode cX2_take 62 = .ok (.iconst 0, 1) := by decide +kernel
theorem dX2_take_63 : decode cX2_take 63 = .ok (.ireturn, 1) := by decide +kernel
theorem dX2_take_64 : decode cX2_take 64 = .ok (.aload_n 0, 1) := by decide +kernel
theorem dX2_take_65 : decode cX2_take 65 = .ok (.getfield 30, 3) := by decide +kernel
theorem dX2_take_68 : decode cX2_take 68 = .ok (.iload_n 1, 1) := by decide +kernel
theorem dX2_take_69 : decode cX2_take 69 = .ok (.iaload, 1) := by decide +kernel
theorem dX2_take_70 : decode cX2_take 70 = .ok (.istore_n 2, 1) := by decide +kernel
theorem dX2_take_71 : decode cX2_take 71 = .ok (.aload_n 0, 1) := by decide +kernel
theorem dX2_take_72 : decode cX2_take 72 = .ok (.getfield 23, 3) := by decide +kernel
theorem dX2_take_75 : decode cX2_take 75 = .ok (.iload_n 1, 1) := by decide +kernel
theorem dX2_take_76 : decode cX2_take 76 = .ok (.dup2, 1) := by decide +kernel
theorem dX2_take_77 : decode cX2_take 77 = .ok (.iaload, 1) := by decide +kernel
theorem dX2_take_78 : decode cX2_take 78 = .ok (.iload_n 2, 1) := by decide +kernel
theorem dX2_take_79 : decode cX2_take 79 = .ok (.isub, 1) := by decide +kernel
theorem dX2_take_80 : decode cX2_take 80 = .ok (.iastore, 1) := by decide +kernel
theorem dX2_take_81 : decode cX2_take 81 = .ok (.aload_n 0, 1) := by decide +kernel
theorem dX2_take_82 : decode cX2_take 82 = .ok (.getfield 30, 3) := by decide +kernel
theorem dX2_take_85 : decode cX2_take 85 = .ok (.iload_n 1, 1) := by decide +kernel
theorem dX2_take_86 : decode cX2_take 86 = .ok (.iconst 0, 1) := by decide +kernel
theorem dX2_take_87 : decode cX2_take 87 = .ok (.iastore, 1) := by decide +kernel
theorem dX2_take_88 : decode cX2_take 88 = .ok (.aload_n 0, 1) := by decide +kernel
theorem dX2_take_89 : decode cX2_take 89 = .ok (.getfield 23, 3) := by decide +kernel
theorem dX2_take_92 : decode cX2_take 92 = .ok (.iload_n 1, 1) := by decide +kernel
theorem dX2_take_93 : decode cX2_take 93 = .ok (.iaload, 1) := by decide +kernel
theorem dX2_take_94 : decode cX2_take 94 = .ok (.ifCond .ne 11, 3) := by decide +kernel
theorem dX2_take_97 : decode cX2_take 97 = .ok (.iload_n 2, 1) := by decide +kernel
theorem dX2_take_98 : decode cX2_take 98 = .ok (.aload_n 0, 1) := by decide +kernel
theorem dX2_take_99 : decode cX2_take 99 = .ok (.iload_n 1, 1) := by decide +kernel
theorem dX2_take_100 : decode cX2_take 100 = .ok (.invokevirtual 129, 3) := by decide +kernel
theorem dX2_take_103 : decode cX2_take 103 = .ok (.iadd, 1) := by decide +kernel
theorem dX2_take_104 : decode cX2_take 104 = .ok (.istore_n 2, 1) := by decide +kernel
theorem dX2_take_105 : decode cX2_take 105 = .ok (.aload_n 0, 1) := by decide +kernel
theorem dX2_take_106 : decode cX2_take 106 = .ok (.aload_n 0, 1) := by decide +kernel
theorem dX2_take_107 : decode cX2_take 107 = .ok (.getfield 20, 3) := by decide +kernel
theorem dX2_take_110 : decode cX2_take 110 = .ok (.iload_n 1, 1) := by decide +kernel
theorem dX2_take_111 : decode cX2_take 111 = .ok (.iaload, 1) := by decide +kernel
theorem dX2_take_112 : decode cX2_take 112 = .ok (.iload_n 2, 1) := by decide +kernel
theorem dX2_take_113 : decode cX2_take 113 = .ok (.invokevirtual 132, 3) := by decide +kernel
theorem dX2_take_116 : decode cX2_take 116 = .ok (.ireturn, 1) := by decide +kernel
theorem dX2_nextFor_0 : decode cX2_nextFor 0 = .ok (.iconst (-1), 1) := by decide +kernel
theorem dX2_nextFor_1 : decode cX2_nextFor 1 = .ok (.istore_n 2, 1) := by decide +kernel
theorem dX2_nextFor_2 : decode cX2_nextFor 2 = .ok (.iconst 0, 1) := by decide +kernel
theorem dX2_nextFor_3 : decode cX2_nextFor 3 = .ok (.istore_n 3, 1) := by decide +kernel
theorem dX2_nextFor_4 : decode cX2_nextFor 4 = .ok (.iload_n 3, 1) := by decide +kernel
theorem dX2_nextFor_5 : decode cX2_nextFor 5 = .ok (.aload_n 0, 1) := by decide +kernel
theorem dX2_nextFor_6 : decode cX2_nextFor 6 = .ok (.getfield 77, 3) := by decide +kernel
theorem dX2_nextFor_9 : decode cX2_nextFor 9 = .ok (.if_icmp .ge 82, 3) := by decide +kernel
theorem dX2_nextFor_12 : decode cX2_nextFor 12 = .ok (.aload_n 0, 1) := by decide +kernel
theorem dX2_nextFor_13 : decode cX2_nextFor 13 = .ok (.iload_n 3, 1) := by decide +kernel
theorem dX2_nextFor_14 : decode cX2_nextFor 14 = .ok (.iload_n 1, 1) := by decide +kernel
theorem dX2_nextFor_15 : decode cX2_nextFor 15 = .ok (.invokevirtual 84, 3) := by decide +kernel
theorem dX2_nextFor_18 : decode cX2_nextFor 18 = .ok (.ifCond .eq 67, 3) := by decide +kernel
theorem dX2_nextFor_21 : decode cX2_nextFor 21 = .ok (.aload_n 0, 1) := by decide +kernel
theorem dX2_nextFor_22 : decode cX2_nextFor 22 = .ok (.getfield 63, 3) := by decide +kernel
theorem dX2_nextFor_25 : decode cX2_nextFor 25 = .ok (.iload_n 3, 1) := by decide +kernel
theorem dX2_nextFor_26 : decode cX2_nextFor 26 = .ok (.baload, 1) := by decide +kernel
theorem dX2_nextFor_27 : decode cX2_nextFor 27 = .ok (.ifCond .ne 58, 3) := by decide +kernel
theorem dX2_nextFor_30 : decode cX2_nextFor 30 = .ok (.iload_n 2, 1) := by decide +kernel
theorem dX2_nextFor_31 : decode cX2_nextFor 31 = .ok (.iconst (-1), 1) := by decide +kernel
theorem dX2_nextFor_32 : decode cX2_nextFor 32 = .ok (.if_icmp .eq 35, 3) := by decide +kernel
theorem dX2_nextFor_35 : decode cX2_nextFor 35 = .ok (.aload_n 0, 1) := by decide +kernel
theorem dX2_nextFor_36 : decode cX2_nextFor 36 = .ok (.getfield 57, 3) := by decide +kernel
theorem dX2_nextFor_39 : decode cX2_nextFor 39 = .ok (.iload_n 3, 1) := by decide +kernel
theorem dX2_nextFor_40 : decode cX2_nextFor 40 = .ok (.laload, 1) := by decide +kernel
theorem dX2_nextFor_41 : decode cX2_nextFor 41 = .ok (.aload_n 0, 1) := by decide +kernel
theorem dX2_nextFor_42 : decode cX2_nextFor 42 = .ok (.getfield 60, 3) := by decide +kernel
theorem dX2_nextFor_45 : decode cX2_nextFor 45 = .ok (.iload_n 2, 1) := by decide +kernel
theorem dX2_nextFor_46 : decode cX2_nextFor 46 = .ok (.iaload, 1) := by decide +kernel
theorem dX2_nextFor_47 : decode cX2_nextFor 47 = .ok (.i2l, 1) := by decide +kernel
theorem dX2_nextFor_48 : decode cX2_nextFor 48 = .ok (.lmul, 1) := by decide +kernel
theorem dX2_nextFor_49 : decode cX2_nextFor 49 = .ok (.aload_n 0, 1) := by decide +kernel
theorem dX2_nextFor_50 : decode cX2_nextFor 50 = .ok (.getfield 57, 3) := by decide +kernel
theorem dX2_nextFor_53 : decode cX2_nextFor 53 = .ok (.iload_n 2, 1) := by decide +kernel
theorem dX2_nextFor_54 : decode cX2_nextFor 54 = .ok (.laload, 1) := by decide +kernel
theorem dX2_nextFor_55 : decode cX2_nextFor 55 = .ok (.aload_n 0, 1) := by decide +kernel
theorem dX2_nextFor_56 : decode cX2_nextFor 56 = .ok (.getfield 60, 3) := by decide +kernel
theorem dX2_nextFor_59 : decode cX2_nextFor 59 = .ok (.iload_n 3, 1) := by decide +kernel
theorem dX2_nextFor_60 : decode cX2_nextFor 60 = .ok (.iaload, 1) := by decide +kernel
theorem dX2_nextFor_61 : decode cX2_nextFor 61 = .ok (.i2l, 1) := by decide +kernel
theorem dX2_nextFor_62 : decode cX2_nextFor 62 = .ok (.lmul, 1) := by decide +kernel
theorem dX2_nextFor_63 : decode cX2_nextFor 63 = .ok (.lcmp, 1) := by decide +kernel
theorem dX2_nextFor_64 : decode cX2_nextFor 64 = .ok (.ifCond .gt 7, 3) := by decide +kernel
theorem dX2_nextFor_67 : decode cX2_nextFor 67 = .ok (.iconst 1, 1) := by decide +kernel
theorem dX2_nextFor_68 : decode cX2_nextFor 68 = .ok (.goto 4, 3) := by decide +kernel
theorem dX2_nextFor_71 : decode cX2_nextFor 71 = .ok (.iconst 0, 1) := by decide +kernel
theorem dX2_nextFor_72 : decode cX2_nextFor 72 = .ok (.istore 4, 2) := by decide +kernel
theorem dX2_nextFor_74 : decode cX2_nextFor 74 = .ok (.iload 4, 2) := by decide +kernel
theorem dX2_nextFor_76 : decode cX2_nextFor 76 = .ok (.ifCond .eq 7, 3) := by decide +kernel
theorem dX2_nextFor_79 : decode cX2_nextFor 79 = .ok (.iload_n 3, 1) := by decide +kernel
theorem dX2_nextFor_80 : decode cX2_nextFor 80 = .ok (.goto 4, 3) := by decide +kernel
theorem dX2_nextFor_83 : decode cX2_nextFor 83 = .ok (.iload_n 2, 1) := by decide +kernel
theorem dX2_nextFor_84 : decode cX2_nextFor 84 = .ok (.istore_n 2, 1) := by decide +kernel
theorem dX2_nextFor_85 : decode cX2_nextFor 85 = .ok (.iinc 3 1, 3) := by decide +kernel
theorem dX2_nextFor_88 : decode cX2_nextFor 88 = .ok (.goto (-84), 3) := by decide +kernel
theorem dX2_nextFor_91 : decode cX2_nextFor 91 = .ok (.iload_n 2, 1) := by decide +kernel
theorem dX2_nextFor_92 : decode cX2_nextFor 92 = .ok (.ireturn, 1) := by decide +kernel
theorem dX2_early_0 : decode cX2_early 0 = .ok (.aload_n 0, 1) := by decide +kernel
theorem dX2_early_1 : decode cX2_early 1 = .ok (.iload_n 1, 1) := by decide +kernel
theorem dX2_early_2 : decode cX2_early 2 = .ok (.invokestatic 111, 3) := by decide +kernel
theorem dX2_early_5 : decode cX2_early 5 = .ok (.ifCond .ne 7, 3) := by decide +kernel
theorem dX2_early_8 : decode cX2_early 8 = .ok (.iconst 1, 1) := by decide +kernel
theorem dX2_early_9 : decode cX2_early 9 = .ok (.goto 18, 3) := by decide +kernel
theorem dX2_early_12 : decode cX2_early 12 = .ok (.iload_n 2, 1) := by decide +kernel
theorem dX2_early_13 : decode cX2_early 13 = .ok (.iconst 1, 1) := by decide +kernel
theorem dX2_early_14 : decode cX2_early 14 = .ok (.ldc 135, 2) := by decide +kernel
theorem dX2_early_16 : decode cX2_early 16 = .ok (.invokestatic 73, 3) := by decide +kernel
theorem dX2_early_19 : decode cX2_early 19 = .ok (.ifCond .ne 7, 3) := by decide +kernel
theorem dX2_early_22 : decode cX2_early 22 = .ok (.iconst 2, 1) := by decide +kernel
theorem dX2_early_23 : decode cX2_early 23 = .ok (.goto 4, 3) := by decide +kernel
theorem dX2_early_26 : decode cX2_early 26 = .ok (.iconst 0, 1) := by decide +kernel
theorem dX2_early_27 : decode cX2_early 27 = .ok (.putfield 70, 3) := by decide +kernel
theorem dX2_early_30 : decode cX2_early 30 = .ok (.iconst 0, 1) := by decide +kernel
theorem dX2_early_31 : decode cX2_early 31 = .ok (.istore_n 3, 1) := by decide +kernel
theorem dX2_early_32 : decode cX2_early 32 = .ok (.iconst 0, 1) := by decide +kernel
theorem dX2_early_33 : decode cX2_early 33 = .ok (.istore 4, 2) := by decide +kernel
theorem dX2_early_35 : decode cX2_early 35 = .ok (.iload 4, 2) := by decide +kernel
theorem dX2_early_37 : decode cX2_early 37 = .ok (.aload_n 0, 1) := by decide +kernel
theorem dX2_early_38 : decode cX2_early 38 = .ok (.getfield 77, 3) := by decide +kernel
theorem dX2_early_41 : decode cX2_early 41 = .ok (.if_icmp .ge 48, 3) := by decide +kernel
theorem dX2_early_44 : decode cX2_early 44 = .ok (.aload_n 0, 1) := by decide +kernel
theorem dX2_early_45 : decode cX2_early 45 = .ok (.getfield 70, 3) := by decide +kernel
theorem dX2_early_48 : decode cX2_early 48 = .ok (.ifCond .ne 41, 3) := by decide +kernel
theorem dX2_early_51 : decode cX2_early 51 = .ok (.iload_n 3, 1) := by decide +kernel
theorem dX2_early_52 : decode cX2_early 52 = .ok (.aload_n 0, 1) := by decide +kernel
theorem dX2_early_53 : decode cX2_early 53 = .ok (.iload 4, 2) := by decide +kernel
theorem dX2_early_55 : decode cX2_early 55 = .ok (.iload_n 1, 1) := by decide +kernel
theorem dX2_early_56 : decode cX2_early 56 = .ok (.invokevirtual 84, 3) := by decide +kernel
theorem dX2_early_59 : decode cX2_early 59 = .ok (.ifCond .eq 21, 3) := by decide +kernel
theorem dX2_early_62 : decode cX2_early 62 = .ok (.aload_n 0, 1) := by decide +kernel
theorem dX2_early_63 : decode cX2_early 63 = .ok (.getfield 23, 3) := by decide +kernel
theorem dX2_early_66 : decode cX2_early 66 = .ok (.iload 4, 2) := by decide +kernel
theorem dX2_early_68 : decode cX2_early 68 = .ok (.iaload, 1) := by decide +kernel
theorem dX2_early_69 : decode cX2_early 69 = .ok (.aload_n 0, 1) := by decide +kernel
theorem dX2_early_70 : decode cX2_early 70 = .ok (.getfield 30, 3) := by decide +kernel
theorem dX2_early_73 : decode cX2_early 73 = .ok (.iload 4, 2) := by decide +kernel
theorem dX2_early_75 : decode cX2_early 75 = .ok (.iaload, 1) := by decide +kernel
theorem dX2_early_76 : decode cX2_early 76 = .ok (.isub, 1) := by decide +kernel
theorem dX2_early_77 : decode cX2_early 77 = .ok (.goto 4, 3) := by decide +kernel
theorem dX2_early_80 : decode cX2_early 80 = .ok (.iconst 0, 1) := by decide +kernel
theorem dX2_early_81 : decode cX2_early 81 = .ok (.iadd, 1) := by decide +kernel
theorem dX2_early_82 : decode cX2_early 82 = .ok (.istore_n 3, 1) := by decide +kernel
theorem dX2_early_83 : decode cX2_early 83 = .ok (.iinc 4 1, 3) := by decide +kernel
theorem dX2_early_86 : decode cX2_early 86 = .ok (.goto (-51), 3) := by decide +kernel
theorem dX2_early_89 : decode cX2_early 89 = .ok (.aload_n 0, 1) := by decide +kernel
theorem dX2_early_90 : decode cX2_early 90 = .ok (.aload_n 0, 1) := by decide +kernel
theorem dX2_early_91 : decode cX2_early 91 = .ok (.getfield 70, 3) := by decide +kernel
theorem dX2_early_94 : decode cX2_early 94 = .ok (.ifCond .ne 12, 3) := by decide +kernel
theorem dX2_early_97 : decode cX2_early 97 = .ok (.iload_n 3, 1) := by decide +kernel
theorem dX2_early_98 : decode cX2_early 98 = .ok (.iload_n 2, 1) := by decide +kernel
theorem dX2_early_99 : decode cX2_early 99 = .ok (.if_icmp .ge 7, 3) := by decide +kernel
theorem dX2_early_102 : decode cX2_early 102 = .ok (.iconst 3, 1) := by decide +kernel
theorem dX2_early_103 : decode cX2_early 103 = .ok (.goto 7, 3) := by decide +kernel
theorem dX2_early_106 : decode cX2_early 106 = .ok (.aload_n 0, 1) := by decide +kernel
theorem dX2_early_107 : decode cX2_early 107 = .ok (.getfield 70, 3) := by decide +kernel
theorem dX2_early_110 : decode cX2_early 110 = .ok (.putfield 70, 3) := by decide +kernel
theorem dX2_early_113 : decode cX2_early 113 = .ok (.aload_n 0, 1) := by decide +kernel
theorem dX2_early_114 : decode cX2_early 114 = .ok (.getfield 70, 3) := by decide +kernel
theorem dX2_early_117 : decode cX2_early 117 = .ok (.ifCond .le 5, 3) := by decide +kernel
theorem dX2_early_120 : decode cX2_early 120 = .ok (.iconst 0, 1) := by decide +kernel
theorem dX2_early_121 : decode cX2_early 121 = .ok (.ireturn, 1) := by decide +kernel
theorem dX2_early_122 : decode cX2_early 122 = .ok (.iconst 0, 1) := by decide +kernel
theorem dX2_early_123 : decode cX2_early 123 = .ok (.istore 4, 2) := by decide +kernel
theorem dX2_early_125 : decode cX2_early 125 = .ok (.iload 4, 2) := by decide +kernel
theorem dX2_early_127 : decode cX2_early 127 = .ok (.aload_n 0, 1) := by decide +kernel
theorem dX2_early_128 : decode cX2_early 128 = .ok (.getfield 77, 3) := by decide +kernel
theorem dX2_early_131 : decode cX2_early 131 = .ok (.if_icmp .ge 58, 3) := by decide +kernel
theorem dX2_early_134 : decode cX2_early 134 = .ok (.aload_n 0, 1) := by decide +kernel
theorem dX2_early_135 : decode cX2_early 135 = .ok (.getfield 63, 3) := by decide +kernel
theorem dX2_early_138 : decode cX2_early 138 = .ok (.iload 4, 2) := by decide +kernel
theorem dX2_early_140 : decode cX2_early 140 = .ok (.iconst 0, 1) := by decide +kernel
theorem dX2_early_141 : decode cX2_early 141 = .ok (.bastore, 1) := by decide +kernel
theorem dX2_early_142 : decode cX2_early 142 = .ok (.aload_n 0, 1) := by decide +kernel
theorem dX2_early_143 : decode cX2_early 143 = .ok (.getfield 57, 3) := by decide +kernel
theorem dX2_early_146 : decode cX2_early 146 = .ok (.iload 4, 2) := by decide +kernel
theorem dX2_early_148 : decode cX2_early 148 = .ok (.aload_n 0, 1) := by decide +kernel
theorem dX2_early_149 : decode cX2_early 149 = .ok (.getfield 13, 3) := by decide +kernel
theorem dX2_early_152 : decode cX2_early 152 = .ok (.iload 4, 2) := by decide +kernel
theorem dX2_early_154 : decode cX2_early 154 = .ok (.baload, 1) := by decide +kernel
theorem dX2_early_155 : decode cX2_early 155 = .ok (.ifCond .eq 12, 3) := by decide +kernel
theorem dX2_early_158 : decode cX2_early 158 = .ok (.aload_n 0, 1) := by decide +kernel
theorem dX2_early_159 : decode cX2_early 159 = .ok (.iload 4, 2) := by decide +kernel
theorem dX2_early_161 : decode cX2_early 161 = .ok (.invokevirtual 136, 3) := by decide +kernel
theorem dX2_early_164 : decode cX2_early 164 = .ok (.goto 4, 3) := by decide +kernel
theorem dX2_early_167 : decode cX2_early 167 = .ok (.lconst 0, 1) := by decide +kernel
theorem dX2_early_168 : decode cX2_early 168 = .ok (.lastore, 1) := by decide +kernel
theorem dX2_early_169 : decode cX2_early 169 = .ok (.aload_n 0, 1) := by decide +kernel
theorem dX2_early_170 : decode cX2_early 170 = .ok (.getfield 60, 3) := by decide +kernel
theorem dX2_early_173 : decode cX2_early 173 = .ok (.iload 4, 2) := by decide +kernel
theorem dX2_early_175 : decode cX2_early 175 = .ok (.aload_n 0, 1) := by decide +kernel
theorem dX2_early_176 : decode cX2_early 176 = .ok (.getfield 23, 3) := by decide +kernel
theorem dX2_early_179 : decode cX2_early 179 = .ok (.iload 4, 2) := by decide +kernel
theorem dX2_early_181 : decode cX2_early 181 = .ok (.iaload, 1) := by decide +kernel
theorem dX2_early_182 : decode cX2_early 182 = .ok (.iastore, 1) := by decide +kernel
theorem dX2_early_183 : decode cX2_early 183 = .ok (.iinc 4 1, 3) := by decide +kernel
theorem dX2_early_186 : decode cX2_early 186 = .ok (.goto (-61), 3) := by decide +kernel
theorem dX2_early_189 : decode cX2_early 189 = .ok (.iload_n 2, 1) := by decide +kernel
theorem dX2_early_190 : decode cX2_early 190 = .ok (.istore 4, 2) := by decide +kernel
theorem dX2_early_192 : decode cX2_early 192 = .ok (.iload_n 2, 1) := by decide +kernel
theorem dX2_early_193 : decode cX2_early 193 = .ok (.istore 5, 2) := by decide +kernel
theorem dX2_early_195 : decode cX2_early 195 = .ok (.iload 4, 2) := by decide +kernel
theorem dX2_early_197 : decode cX2_early 197 = .ok (.ifCond .le 170, 3) := by decide +kernel
theorem dX2_early_200 : decode cX2_early 200 = .ok (.aload_n 0, 1) := by decide +kernel
theorem dX2_early_201 : decode cX2_early 201 = .ok (.iload_n 1, 1) := by decide +kernel
theorem dX2_early_202 : decode cX2_early 202 = .ok (.invokevirtual 139, 3) := by decide +kernel
theorem dX2_early_205 : decode cX2_early 205 = .ok (.istore 6, 2) := by decide +kernel
theorem dX2_early_207 : decode cX2_early 207 = .ok (.aload_n 0, 1) := by decide +kernel
theorem dX2_early_208 : decode cX2_early 208 = .ok (.getfield 23, 3) := by decide +kernel
theorem dX2_early_211 : decode cX2_early 211 = .ok (.iload 6, 2) := by decide +kernel
theorem dX2_early_213 : decode cX2_early 213 = .ok (.iaload, 1) := by decide +kernel
theorem dX2_early_214 : decode cX2_early 214 = .ok (.aload_n 0, 1) := by decide +kernel
theorem dX2_early_215 : decode cX2_early 215 = .ok (.getfield 30, 3) := by decide +kernel
theorem dX2_early_218 : decode cX2_early 218 = .ok (.iload 6, 2) := by decide +kernel
theorem dX2_early_220 : decode cX2_early 220 = .ok (.iaload, 1) := by decide +kernel
theorem dX2_early_221 : decode cX2_early 221 = .ok (.isub, 1) := by decide +kernel
theorem dX2_early_222 : decode cX2_early 222 = .ok (.istore 7, 2) := by decide +kernel
theorem dX2_early_224 : decode cX2_early 224 = .ok (.iload 7, 2) := by decide +kernel
theorem dX2_early_226 : decode cX2_early 226 = .ok (.iload 4, 2) := by decide +kernel
theorem dX2_early_228 : decode cX2_early 228 = .ok (.if_icmp .ge 8, 3) := by decide +kernel
theorem dX2_early_231 : decode cX2_early 231 = .ok (.iload 7, 2) := by decide +kernel
theorem dX2_early_233 : decode cX2_early 233 = .ok (.goto 5, 3) := by decide +kernel
theorem dX2_early_236 : decode cX2_early 236 = .ok (.iload 4, 2) := by decide +kernel
theorem dX2_early_238 : decode cX2_early 238 = .ok (.istore 8, 2) := by decide +kernel
theorem dX2_early_240 : decode cX2_early 240 = .ok (.ldc2_w 142, 3) := by decide +kernel
theorem dX2_early_243 : decode cX2_early 243 = .ok (.aload_n 0, 1) := by decide +kernel
theorem dX2_early_244 : decode cX2_early 244 = .ok (.getfield 57, 3) := by decide +kernel
theorem dX2_early_247 : decode cX2_early 247 = .ok (.iload 6, 2) := by decide +kernel
theorem dX2_early_249 : decode cX2_early 249 = .ok (.laload, 1) := by decide +kernel
theorem dX2_early_250 : decode cX2_early 250 = .ok (.lmul, 1) := by decide +kernel
theorem dX2_early_251 : decode cX2_early 251 = .ok (.iload 8, 2) := by decide +kernel
theorem dX2_early_253 : decode cX2_early 253 = .ok (.i2l, 1) := by decide +kernel
theorem dX2_early_254 : decode cX2_early 254 = .ok (.lmul, 1) := by decide +kernel
theorem dX2_early_255 : decode cX2_early 255 = .ok (.aload_n 0, 1) := by decide +kernel
theorem dX2_early_256 : decode cX2_early 256 = .ok (.getfield 60, 3) := by decide +kernel
theorem dX2_early_259 : decode cX2_early 259 = .ok (.iload 6, 2) := by decide +kernel
theorem dX2_early_261 : decode cX2_early 261 = .ok (.iaload, 1) := by decide +kernel
theorem dX2_early_262 : decode cX2_early 262 = .ok (.i2l, 1) := by decide +kernel
theorem dX2_early_263 : decode cX2_early 263 = .ok (.ldiv, 1) := by decide +kernel
theorem dX2_early_264 : decode cX2_early 264 = .ok (.lstore 9, 2) := by decide +kernel
theorem dX2_early_266 : decode cX2_early 266 = .ok (.lload 9, 2) := by decide +kernel
theorem dX2_early_268 : decode cX2_early 268 = .ok (.aload_n 0, 1) := by decide +kernel
theorem dX2_early_269 : decode cX2_early 269 = .ok (.getfield 26, 3) := by decide +kernel
theorem dX2_early_272 : decode cX2_early 272 = .ok (.iload 6, 2) := by decide +kernel
theorem dX2_early_274 : decode cX2_early 274 = .ok (.laload, 1) := by decide +kernel
theorem dX2_early_275 : decode cX2_early 275 = .ok (.lcmp, 1) := by decide +kernel
theorem dX2_early_276 : decode cX2_early 276 = .ok (.ifCond .le 13, 3) := by decide +kernel
theorem dX2_early_279 : decode cX2_early 279 = .ok (.aload_n 0, 1) := by decide +kernel
theorem dX2_early_280 : decode cX2_early 280 = .ok (.getfield 26, 3) := by decide +kernel
theorem dX2_early_283 : decode cX2_early 283 = .ok (.iload 6, 2) := by decide +kernel
theorem dX2_early_285 : decode cX2_early 285 = .ok (.laload, 1) := by decide +kernel
theorem dX2_early_286 : decode cX2_early 286 = .ok (.goto 5, 3) := by decide +kernel
theorem dX2_early_289 : decode cX2_early 289 = .ok (.lload 9, 2) := by decide +kernel
theorem dX2_early_291 : decode cX2_early 291 = .ok (.lstore 9, 2) := by decide +kernel
theorem dX2_early_293 : decode cX2_early 293 = .ok (.aload_n 0, 1) := by decide +kernel
theorem dX2_early_294 : decode cX2_early 294 = .ok (.getfield 26, 3) := by decide +kernel
theorem dX2_early_297 : decode cX2_early 297 = .ok (.iload 6, 2) := by decide +kernel
theorem dX2_early_299 : decode cX2_early 299 = .ok (.dup2, 1) := by decide +kernel
theorem dX2_early_300 : decode cX2_early 300 = .ok (.laload, 1) := by decide +kernel
theorem dX2_early_301 : decode cX2_early 301 = .ok (.lload 9, 2) := by decide +kernel
theorem dX2_early_303 : decode cX2_early 303 = .ok (.lsub, 1) := by decide +kernel
theorem dX2_early_304 : decode cX2_early 304 = .ok (.lastore, 1) := by decide +kernel
theorem dX2_early_305 : decode cX2_early 305 = .ok (.aload_n 0, 1) := by decide +kernel
theorem dX2_early_306 : decode cX2_early 306 = .ok (.getfield 54, 3) := by decide +kernel
theorem dX2_early_309 : decode cX2_early 309 = .ok (.iload_n 1, 1) := by decide +kernel
theorem dX2_early_310 : decode cX2_early 310 = .ok (.dup2, 1) := by decide +kernel
theorem dX2_early_311 : decode cX2_early 311 = .ok (.laload, 1) := by decide +kernel
theorem dX2_early_312 : decode cX2_early 312 = .ok (.lload 9, 2) := by decide +kernel
theorem dX2_early_314 : decode cX2_early 314 = .ok (.ladd, 1) := by decide +kernel
theorem dX2_early_315 : decode cX2_early 315 = .ok (.lastore, 1) := by decide +kernel
theorem dX2_early_316 : decode cX2_early 316 = .ok (.aload_n 0, 1) := by decide +kernel
theorem dX2_early_317 : decode cX2_early 317 = .ok (.getfield 23, 3) := by decide +kernel
theorem dX2_early_320 : decode cX2_early 320 = .ok (.iload 6, 2) := by decide +kernel
theorem dX2_early_322 : decode cX2_early 322 = .ok (.dup2, 1) := by decide +kernel
theorem dX2_early_323 : decode cX2_early 323 = .ok (.iaload, 1) := by decide +kernel
theorem dX2_early_324 : decode cX2_early 324 = .ok (.iload 8, 2) := by decide +kernel
theorem dX2_early_326 : decode cX2_early 326 = .ok (.isub, 1) := by decide +kernel
theorem dX2_early_327 : decode cX2_early 327 = .ok (.iastore, 1) := by decide +kernel
theorem dX2_early_328 : decode cX2_early 328 = .ok (.iload 4, 2) := by decide +kernel
theorem dX2_early_330 : decode cX2_early 330 = .ok (.iload 8, 2) := by decide +kernel
theorem dX2_early_332 : decode cX2_early 332 = .ok (.isub, 1) := by decide +kernel
theorem dX2_early_333 : decode cX2_early 333 = .ok (.istore 4, 2) := by decide +kernel
theorem dX2_early_335 : decode cX2_early 335 = .ok (.aload_n 0, 1) := by decide +kernel
theorem dX2_early_336 : decode cX2_early 336 = .ok (.getfield 63, 3) := by decide +kernel
theorem dX2_early_339 : decode cX2_early 339 = .ok (.iload 6, 2) := by decide +kernel
theorem dX2_early_341 : decode cX2_early 341 = .ok (.iconst 1, 1) := by decide +kernel
theorem dX2_early_342 : decode cX2_early 342 = .ok (.bastore, 1) := by decide +kernel
theorem dX2_early_343 : decode cX2_early 343 = .ok (.aload_n 0, 1) := by decide +kernel
theorem dX2_early_344 : decode cX2_early 344 = .ok (.getfield 23, 3) := by decide +kernel
theorem dX2_early_347 : decode cX2_early 347 = .ok (.iload 6, 2) := by decide +kernel
theorem dX2_early_349 : decode cX2_early 349 = .ok (.iaload, 1) := by decide +kernel
theorem dX2_early_350 : decode cX2_early 350 = .ok (.ifCond .ne 14, 3) := by decide +kernel
theorem dX2_early_353 : decode cX2_early 353 = .ok (.iload 5, 2) := by decide +kernel
theorem dX2_early_355 : decode cX2_early 355 = .ok (.aload_n 0, 1) := by decide +kernel
theorem dX2_early_356 : decode cX2_early 356 = .ok (.iload 6, 2) := by decide +kernel
theorem dX2_early_358 : decode cX2_early 358 = .ok (.invokevirtual 129, 3) := by decide +kernel
theorem dX2_early_361 : decode cX2_early 361 = .ok (.iadd, 1) := by decide +kernel
theorem dX2_early_362 : decode cX2_early 362 = .ok (.istore 5, 2) := by decide +kernel
theorem dX2_early_364 : decode cX2_early 364 = .ok (.goto (-169), 3) := by decide +kernel
theorem dX2_early_367 : decode cX2_early 367 = .ok (.aload_n 0, 1) := by decide +kernel
theorem dX2_early_368 : decode cX2_early 368 = .ok (.iload_n 1, 1) := by decide +kernel
theorem dX2_early_369 : decode cX2_early 369 = .ok (.iload 5, 2) := by decide +kernel
theorem dX2_early_371 : decode cX2_early 371 = .ok (.invokevirtual 132, 3) := by decide +kernel
theorem dX2_early_374 : decode cX2_early 374 = .ok (.ireturn, 1) := by decide +kernel
theorem dX2_instruct_0 : decode cX2_instruct 0 = .ok (.aload_n 0, 1) := by decide +kernel
theorem dX2_instruct_1 : decode cX2_instruct 1 = .ok (.aload_n 0, 1) := by decide +kernel
theorem dX2_instruct_2 : decode cX2_instruct 2 = .ok (.iload_n 1, 1) := by decide +kernel
theorem dX2_instruct_3 : decode cX2_instruct 3 = .ok (.invokevirtual 126, 3) := by decide +kernel
theorem dX2_instruct_6 : decode cX2_instruct 6 = .ok (.ifCond .ne 7, 3) := by decide +kernel
theorem dX2_instruct_9 : decode cX2_instruct 9 = .ok (.iconst 1, 1) := by decide +kernel
theorem dX2_instruct_10 : decode cX2_instruct 10 = .ok (.goto 30, 3) := by decide +kernel
theorem dX2_instruct_13 : decode cX2_instruct 13 = .ok (.iload_n 2, 1) := by decide +kernel
theorem dX2_instruct_14 : decode cX2_instruct 14 = .ok (.iconst 0, 1) := by decide +kernel
theorem dX2_instruct_15 : decode cX2_instruct 15 = .ok (.iconst 2, 1) := by decide +kernel
theorem dX2_instruct_16 : decode cX2_instruct 16 = .ok (.invokestatic 73, 3) := by decide +kernel
theorem dX2_instruct_19 : decode cX2_instruct 19 = .ok (.ifCond .ne 7, 3) := by decide +kernel
theorem dX2_instruct_22 : decode cX2_instruct 22 = .ok (.iconst 2, 1) := by decide +kernel
theorem dX2_instruct_23 : decode cX2_instruct 23 = .ok (.goto 17, 3) := by decide +kernel
theorem dX2_instruct_26 : decode cX2_instruct 26 = .ok (.aload_n 0, 1) := by decide +kernel
theorem dX2_instruct_27 : decode cX2_instruct 27 = .ok (.getfield 17, 3) := by decide +kernel
theorem dX2_instruct_30 : decode cX2_instruct 30 = .ok (.iload_n 1, 1) := by decide +kernel
theorem dX2_instruct_31 : decode cX2_instruct 31 = .ok (.baload, 1) := by decide +kernel
theorem dX2_instruct_32 : decode cX2_instruct 32 = .ok (.ifCond .ne 7, 3) := by decide +kernel
theorem dX2_instruct_35 : decode cX2_instruct 35 = .ok (.iconst 3, 1) := by decide +kernel
theorem dX2_instruct_36 : decode cX2_instruct 36 = .ok (.goto 4, 3) := by decide +kernel
theorem dX2_instruct_39 : decode cX2_instruct 39 = .ok (.iconst 0, 1) := by decide +kernel
theorem dX2_instruct_40 : decode cX2_instruct 40 = .ok (.putfield 70, 3) := by decide +kernel
theorem dX2_instruct_43 : decode cX2_instruct 43 = .ok (.aload_n 0, 1) := by decide +kernel
theorem dX2_instruct_44 : decode cX2_instruct 44 = .ok (.getfield 70, 3) := by decide +kernel
theorem dX2_instruct_47 : decode cX2_instruct 47 = .ok (.ifCond .le 5, 3) := by decide +kernel
theorem dX2_instruct_50 : decode cX2_instruct 50 = .ok (.iconst 0, 1) := by decide +kernel
theorem dX2_instruct_51 : decode cX2_instruct 51 = .ok (.ireturn, 1) := by decide +kernel
theorem dX2_instruct_52 : decode cX2_instruct 52 = .ok (.aload_n 0, 1) := by decide +kernel
theorem dX2_instruct_53 : decode cX2_instruct 53 = .ok (.getfield 45, 3) := by decide +kernel
theorem dX2_instruct_56 : decode cX2_instruct 56 = .ok (.iload_n 1, 1) := by decide +kernel
theorem dX2_instruct_57 : decode cX2_instruct 57 = .ok (.iaload, 1) := by decide +kernel
theorem dX2_instruct_58 : decode cX2_instruct 58 = .ok (.istore_n 3, 1) := by decide +kernel
theorem dX2_instruct_59 : decode cX2_instruct 59 = .ok (.aload_n 0, 1) := by decide +kernel
theorem dX2_instruct_60 : decode cX2_instruct 60 = .ok (.getfield 45, 3) := by decide +kernel
theorem dX2_instruct_63 : decode cX2_instruct 63 = .ok (.iload_n 1, 1) := by decide +kernel
theorem dX2_instruct_64 : decode cX2_instruct 64 = .ok (.iload_n 2, 1) := by decide +kernel
theorem dX2_instruct_65 : decode cX2_instruct 65 = .ok (.iastore, 1) := by decide +kernel
theorem dX2_instruct_66 : decode cX2_instruct 66 = .ok (.iload_n 3, 1) := by decide +kernel
theorem dX2_instruct_67 : decode cX2_instruct 67 = .ok (.ireturn, 1) := by decide +kernel
theorem dX2_letGo_0 : decode cX2_letGo 0 = .ok (.aload_n 0, 1) := by decide +kernel
theorem dX2_letGo_1 : decode cX2_letGo 1 = .ok (.aload_n 0, 1) := by decide +kernel
theorem dX2_letGo_2 : decode cX2_letGo 2 = .ok (.iload_n 1, 1) := by decide +kernel
theorem dX2_letGo_3 : decode cX2_letGo 3 = .ok (.invokevirtual 126, 3) := by decide +kernel
theorem dX2_letGo_6 : decode cX2_letGo 6 = .ok (.ifCond .ne 7, 3) := by decide +kernel
theorem dX2_letGo_9 : decode cX2_letGo 9 = .ok (.iconst 1, 1) := by decide +kernel
theorem dX2_letGo_10 : decode cX2_letGo 10 = .ok (.goto 43, 3) := by decide +kernel
theorem dX2_letGo_13 : decode cX2_letGo 13 = .ok (.aload_n 0, 1) := by decide +kernel
theorem dX2_letGo_14 : decode cX2_letGo 14 = .ok (.getfield 17, 3) := by decide +kernel
theorem dX2_letGo_17 : decode cX2_letGo 17 = .ok (.iload_n 1, 1) := by decide +kernel
theorem dX2_letGo_18 : decode cX2_letGo 18 = .ok (.baload, 1) := by decide +kernel
theorem dX2_letGo_19 : decode cX2_letGo 19 = .ok (.ifCond .eq 29, 3) := by decide +kernel
theorem dX2_letGo_22 : decode cX2_letGo 22 = .ok (.aload_n 0, 1) := by decide +kernel
theorem dX2_letGo_23 : decode cX2_letGo 23 = .ok (.getfield 48, 3) := by decide +kernel
theorem dX2_letGo_26 : decode cX2_letGo 26 = .ok (.iload_n 1, 1) := by decide +kernel
theorem dX2_letGo_27 : decode cX2_letGo 27 = .ok (.iaload, 1) := by decide +kernel
theorem dX2_letGo_28 : decode cX2_letGo 28 = .ok (.iconst (-1), 1) := by decide +kernel
theorem dX2_letGo_29 : decode cX2_letGo 29 = .ok (.if_icmp .eq 19, 3) := by decide +kernel
theorem dX2_letGo_32 : decode cX2_letGo 32 = .ok (.aload_n 0, 1) := by decide +kernel
theorem dX2_letGo_33 : decode cX2_letGo 33 = .ok (.getfield 48, 3) := by decide +kernel
theorem dX2_letGo_36 : decode cX2_letGo 36 = .ok (.iload_n 1, 1) := by decide +kernel
theorem dX2_letGo_37 : decode cX2_letGo 37 = .ok (.iaload, 1) := by decide +kernel
theorem dX2_letGo_38 : decode cX2_letGo 38 = .ok (.aload_n 0, 1) := by decide +kernel
theorem dX2_letGo_39 : decode cX2_letGo 39 = .ok (.getfield 119, 3) := by decide +kernel
theorem dX2_letGo_42 : decode cX2_letGo 42 = .ok (.bipush 6, 2) := by decide +kernel
theorem dX2_letGo_44 : decode cX2_letGo 44 = .ok (.isub, 1) := by decide +kernel
theorem dX2_letGo_45 : decode cX2_letGo 45 = .ok (.if_icmp .ge 7, 3) := by decide +kernel
theorem dX2_letGo_48 : decode cX2_letGo 48 = .ok (.iconst 2, 1) := by decide +kernel
theorem dX2_letGo_49 : decode cX2_letGo 49 = .ok (.goto 4, 3) := by decide +kernel
theorem dX2_letGo_52 : decode cX2_letGo 52 = .ok (.iconst 0, 1) := by decide +kernel
theorem dX2_letGo_53 : decode cX2_letGo 53 = .ok (.putfield 70, 3) := by decide +kernel
theorem dX2_letGo_56 : decode cX2_letGo 56 = .ok (.aload_n 0, 1) := by decide +kernel
theorem dX2_letGo_57 : decode cX2_letGo 57 = .ok (.getfield 70, 3) := by decide +kernel
theorem dX2_letGo_60 : decode cX2_letGo 60 = .ok (.ifCond .le 5, 3) := by decide +kernel
theorem dX2_letGo_63 : decode cX2_letGo 63 = .ok (.iconst 0, 1) := by decide +kernel
theorem dX2_letGo_64 : decode cX2_letGo 64 = .ok (.ireturn, 1) := by decide +kernel
theorem dX2_letGo_65 : decode cX2_letGo 65 = .ok (.aload_n 0, 1) := by decide +kernel
theorem dX2_letGo_66 : decode cX2_letGo 66 = .ok (.getfield 54, 3) := by decide +kernel
theorem dX2_letGo_69 : decode cX2_letGo 69 = .ok (.aload_n 0, 1) := by decide +kernel
theorem dX2_letGo_70 : decode cX2_letGo 70 = .ok (.getfield 20, 3) := by decide +kernel
theorem dX2_letGo_73 : decode cX2_letGo 73 = .ok (.iload_n 1, 1) := by decide +kernel
theorem dX2_letGo_74 : decode cX2_letGo 74 = .ok (.iaload, 1) := by decide +kernel
theorem dX2_letGo_75 : decode cX2_letGo 75 = .ok (.dup2, 1) := by decide +kernel
theorem dX2_letGo_76 : decode cX2_letGo 76 = .ok (.laload, 1) := by decide +kernel
theorem dX2_letGo_77 : decode cX2_letGo 77 = .ok (.aload_n 0, 1) := by decide +kernel
theorem dX2_letGo_78 : decode cX2_letGo 78 = .ok (.getfield 26, 3) := by decide +kernel
theorem dX2_letGo_81 : decode cX2_letGo 81 = .ok (.iload_n 1, 1) := by decide +kernel
theorem dX2_letGo_82 : decode cX2_letGo 82 = .ok (.laload, 1) := by decide +kernel
theorem dX2_letGo_83 : decode cX2_letGo 83 = .ok (.ladd, 1) := by decide +kernel
theorem dX2_letGo_84 : decode cX2_letGo 84 = .ok (.lastore, 1) := by decide +kernel
theorem dX2_letGo_85 : decode cX2_letGo 85 = .ok (.aload_n 0, 1) := by decide +kernel
theorem dX2_letGo_86 : decode cX2_letGo 86 = .ok (.getfield 13, 3) := by decide +kernel
theorem dX2_letGo_89 : decode cX2_letGo 89 = .ok (.iload_n 1, 1) := by decide +kernel
theorem dX2_letGo_90 : decode cX2_letGo 90 = .ok (.iconst 0, 1) := by decide +kernel
theorem dX2_letGo_91 : decode cX2_letGo 91 = .ok (.bastore, 1) := by decide +kernel
theorem dX2_letGo_92 : decode cX2_letGo 92 = .ok (.aload_n 0, 1) := by decide +kernel
theorem dX2_letGo_93 : decode cX2_letGo 93 = .ok (.aload_n 0, 1) := by decide +kernel
theorem dX2_letGo_94 : decode cX2_letGo 94 = .ok (.getfield 20, 3) := by decide +kernel
theorem dX2_letGo_97 : decode cX2_letGo 97 = .ok (.iload_n 1, 1) := by decide +kernel
theorem dX2_letGo_98 : decode cX2_letGo 98 = .ok (.iaload, 1) := by decide +kernel
theorem dX2_letGo_99 : decode cX2_letGo 99 = .ok (.aload_n 0, 1) := by decide +kernel
theorem dX2_letGo_100 : decode cX2_letGo 100 = .ok (.getfield 23, 3) := by decide +kernel
theorem dX2_letGo_103 : decode cX2_letGo 103 = .ok (.iload_n 1, 1) := by decide +kernel
theorem dX2_letGo_104 : decode cX2_letGo 104 = .ok (.iaload, 1) := by decide +kernel
theorem dX2_letGo_105 : decode cX2_letGo 105 = .ok (.invokevirtual 132, 3) := by decide +kernel
theorem dX2_letGo_108 : decode cX2_letGo 108 = .ok (.ireturn, 1) := by decide +kernel
theorem dX2_join_0 : decode cX2_join 0 = .ok (.aload_n 0, 1) := by decide +kernel
theorem dX2_join_1 : decode cX2_join 1 = .ok (.aload_n 0, 1) := by decide +kernel
theorem dX2_join_2 : decode cX2_join 2 = .ok (.iload_n 1, 1) := by decide +kernel
theorem dX2_join_3 : decode cX2_join 3 = .ok (.invokevirtual 126, 3) := by decide +kernel
theorem dX2_join_6 : decode cX2_join 6 = .ok (.ifCond .eq 11, 3) := by decide +kernel
theorem dX2_join_9 : decode cX2_join 9 = .ok (.aload_n 0, 1) := by decide +kernel
theorem dX2_join_10 : decode cX2_join 10 = .ok (.iload_n 2, 1) := by decide +kernel
theorem dX2_join_11 : decode cX2_join 11 = .ok (.invokevirtual 126, 3) := by decide +kernel
theorem dX2_join_14 : decode cX2_join 14 = .ok (.ifCond .ne 7, 3) := by decide +kernel
theorem dX2_join_17 : decode cX2_join 17 = .ok (.iconst 1, 1) := by decide +kernel
theorem dX2_join_18 : decode cX2_join 18 = .ok (.goto 13, 3) := by decide +kernel
theorem dX2_join_21 : decode cX2_join 21 = .ok (.iload_n 1, 1) := by decide +kernel
theorem dX2_join_22 : decode cX2_join 22 = .ok (.iload_n 2, 1) := by decide +kernel
theorem dX2_join_23 : decode cX2_join 23 = .ok (.if_icmp .ne 7, 3) := by decide +kernel
theorem dX2_join_26 : decode cX2_join 26 = .ok (.iconst 2, 1) := by decide +kernel
theorem dX2_join_27 : decode cX2_join 27 = .ok (.goto 4, 3) := by decide +kernel
theorem dX2_join_30 : decode cX2_join 30 = .ok (.iconst 0, 1) := by decide +kernel
theorem dX2_join_31 : decode cX2_join 31 = .ok (.putfield 70, 3) := by decide +kernel
theorem dX2_join_34 : decode cX2_join 34 = .ok (.aload_n 0, 1) := by decide +kernel
theorem dX2_join_35 : decode cX2_join 35 = .ok (.getfield 70, 3) := by decide +kernel
theorem dX2_join_38 : decode cX2_join 38 = .ok (.ifCond .ne 92, 3) := by decide +kernel
theorem dX2_join_41 : decode cX2_join 41 = .ok (.aload_n 0, 1) := by decide +kernel
theorem dX2_join_42 : decode cX2_join 42 = .ok (.getfield 17, 3) := by decide +kernel
theorem dX2_join_45 : decode cX2_join 45 = .ok (.iload_n 1, 1) := by decide +kernel
theorem dX2_join_46 : decode cX2_join 46 = .ok (.baload, 1) := by decide +kernel
theorem dX2_join_47 : decode cX2_join 47 = .ok (.ifCond .eq 46, 3) := by decide +kernel
theorem dX2_join_50 : decode cX2_join 50 = .ok (.aload_n 0, 1) := by decide +kernel
theorem dX2_join_51 : decode cX2_join 51 = .ok (.getfield 17, 3) := by decide +kernel
theorem dX2_join_54 : decode cX2_join 54 = .ok (.iload_n 2, 1) := by decide +kernel
theorem dX2_join_55 : decode cX2_join 55 = .ok (.baload, 1) := by decide +kernel
theorem dX2_join_56 : decode cX2_join 56 = .ok (.ifCond .eq 37, 3) := by decide +kernel
theorem dX2_join_59 : decode cX2_join 59 = .ok (.aload_n 0, 1) := by decide +kernel
theorem dX2_join_60 : decode cX2_join 60 = .ok (.getfield 20, 3) := by decide +kernel
theorem dX2_join_63 : decode cX2_join 63 = .ok (.iload_n 1, 1) := by decide +kernel
theorem dX2_join_64 : decode cX2_join 64 = .ok (.iaload, 1) := by decide +kernel
theorem dX2_join_65 : decode cX2_join 65 = .ok (.aload_n 0, 1) := by decide +kernel
theorem dX2_join_66 : decode cX2_join 66 = .ok (.getfield 20, 3) := by decide +kernel
theorem dX2_join_69 : decode cX2_join 69 = .ok (.iload_n 2, 1) := by decide +kernel
theorem dX2_join_70 : decode cX2_join 70 = .ok (.iaload, 1) := by decide +kernel
theorem dX2_join_71 : decode cX2_join 71 = .ok (.if_icmp .ne 22, 3) := by decide +kernel
theorem dX2_join_74 : decode cX2_join 74 = .ok (.aload_n 0, 1) := by decide +kernel
theorem dX2_join_75 : decode cX2_join 75 = .ok (.getfield 42, 3) := by decide +kernel
theorem dX2_join_78 : decode cX2_join 78 = .ok (.iload_n 1, 1) := by decide +kernel
theorem dX2_join_79 : decode cX2_join 79 = .ok (.iaload, 1) := by decide +kernel
theorem dX2_join_80 : decode cX2_join 80 = .ok (.aload_n 0, 1) := by decide +kernel
theorem dX2_join_81 : decode cX2_join 81 = .ok (.getfield 42, 3) := by decide +kernel
theorem dX2_join_84 : decode cX2_join 84 = .ok (.iload_n 2, 1) := by decide +kernel
theorem dX2_join_85 : decode cX2_join 85 = .ok (.iaload, 1) := by decide +kernel
theorem dX2_join_86 : decode cX2_join 86 = .ok (.if_icmp .ne 7, 3) := by decide +kernel
theorem dX2_join_89 : decode cX2_join 89 = .ok (.iconst 1, 1) := by decide +kernel
theorem dX2_join_90 : decode cX2_join 90 = .ok (.goto 4, 3) := by decide +kernel
theorem dX2_join_93 : decode cX2_join 93 = .ok (.iconst 0, 1) := by decide +kernel
theorem dX2_join_94 : decode cX2_join 94 = .ok (.istore_n 3, 1) := by decide +kernel
theorem dX2_join_95 : decode cX2_join 95 = .ok (.aload_n 0, 1) := by decide +kernel
theorem dX2_join_96 : decode cX2_join 96 = .ok (.iload_n 3, 1) := by decide +kernel
theorem dX2_join_97 : decode cX2_join 97 = .ok (.ifCond .eq 25, 3) := by decide +kernel
theorem dX2_join_100 : decode cX2_join 100 = .ok (.aload_n 0, 1) := by decide +kernel
theorem dX2_join_101 : decode cX2_join 101 = .ok (.getfield 23, 3) := by decide +kernel
theorem dX2_join_104 : decode cX2_join 104 = .ok (.iload_n 1, 1) := by decide +kernel
theorem dX2_join_105 : decode cX2_join 105 = .ok (.iaload, 1) := by decide +kernel
theorem dX2_join_106 : decode cX2_join 106 = .ok (.i2l, 1) := by decide +kernel
theorem dX2_join_107 : decode cX2_join 107 = .ok (.aload_n 0, 1) := by decide +kernel
theorem dX2_join_108 : decode cX2_join 108 = .ok (.getfield 23, 3) := by decide +kernel
theorem dX2_join_111 : decode cX2_join 111 = .ok (.iload_n 2, 1) := by decide +kernel
theorem dX2_join_112 : decode cX2_join 112 = .ok (.iaload, 1) := by decide +kernel
theorem dX2_join_113 : decode cX2_join 113 = .ok (.i2l, 1) := by decide +kernel
theorem dX2_join_114 : decode cX2_join 114 = .ok (.ladd, 1) := by decide +kernel
theorem dX2_join_115 : decode cX2_join 115 = .ok (.ldc2_w 144, 3) := by decide +kernel
theorem dX2_join_118 : decode cX2_join 118 = .ok (.lcmp, 1) := by decide +kernel
theorem dX2_join_119 : decode cX2_join 119 = .ok (.ifCond .le 7, 3) := by decide +kernel
theorem dX2_join_122 : decode cX2_join 122 = .ok (.iconst 3, 1) := by decide +kernel
theorem dX2_join_123 : decode cX2_join 123 = .ok (.goto 4, 3) := by decide +kernel
theorem dX2_join_126 : decode cX2_join 126 = .ok (.iconst 0, 1) := by decide +kernel
theorem dX2_join_127 : decode cX2_join 127 = .ok (.putfield 70, 3) := by decide +kernel
theorem dX2_join_130 : decode cX2_join 130 = .ok (.aload_n 0, 1) := by decide +kernel
theorem dX2_join_131 : decode cX2_join 131 = .ok (.getfield 70, 3) := by decide +kernel
theorem dX2_join_134 : decode cX2_join 134 = .ok (.ifCond .le 5, 3) := by decide +kernel
theorem dX2_join_137 : decode cX2_join 137 = .ok (.iconst 0, 1) := by decide +kernel
theorem dX2_join_138 : decode cX2_join 138 = .ok (.ireturn, 1) := by decide +kernel
theorem dX2_join_139 : decode cX2_join 139 = .ok (.aload_n 0, 1) := by decide +kernel
theorem dX2_join_140 : decode cX2_join 140 = .ok (.getfield 23, 3) := by decide +kernel
theorem dX2_join_143 : decode cX2_join 143 = .ok (.iload_n 1, 1) := by decide +kernel
theorem dX2_join_144 : decode cX2_join 144 = .ok (.dup2, 1) := by decide +kernel
theorem dX2_join_145 : decode cX2_join 145 = .ok (.iaload, 1) := by decide +kernel
theorem dX2_join_146 : decode cX2_join 146 = .ok (.aload_n 0, 1) := by decide +kernel
theorem dX2_join_147 : decode cX2_join 147 = .ok (.getfield 23, 3) := by decide +kernel
theorem dX2_join_150 : decode cX2_join 150 = .ok (.iload_n 2, 1) := by decide +kernel
theorem dX2_join_151 : decode cX2_join 151 = .ok (.iaload, 1) := by decide +kernel
theorem dX2_join_152 : decode cX2_join 152 = .ok (.iadd, 1) := by decide +kernel
theorem dX2_join_153 : decode cX2_join 153 = .ok (.iastore, 1) := by decide +kernel
theorem dX2_join_154 : decode cX2_join 154 = .ok (.aload_n 0, 1) := by decide +kernel
theorem dX2_join_155 : decode cX2_join 155 = .ok (.getfield 26, 3) := by decide +kernel
theorem dX2_join_158 : decode cX2_join 158 = .ok (.iload_n 1, 1) := by decide +kernel
theorem dX2_join_159 : decode cX2_join 159 = .ok (.dup2, 1) := by decide +kernel
theorem dX2_join_160 : decode cX2_join 160 = .ok (.laload, 1) := by decide +kernel
theorem dX2_join_161 : decode cX2_join 161 = .ok (.aload_n 0, 1) := by decide +kernel
theorem dX2_join_162 : decode cX2_join 162 = .ok (.getfield 26, 3) := by decide +kernel
theorem dX2_join_165 : decode cX2_join 165 = .ok (.iload_n 2, 1) := by decide +kernel
theorem dX2_join_166 : decode cX2_join 166 = .ok (.laload, 1) := by decide +kernel
theorem dX2_join_167 : decode cX2_join 167 = .ok (.ladd, 1) := by decide +kernel
theorem dX2_join_168 : decode cX2_join 168 = .ok (.lastore, 1) := by decide +kernel
theorem dX2_join_169 : decode cX2_join 169 = .ok (.aload_n 0, 1) := by decide +kernel
theorem dX2_join_170 : decode cX2_join 170 = .ok (.getfield 36, 3) := by decide +kernel
theorem dX2_join_173 : decode cX2_join 173 = .ok (.iload_n 1, 1) := by decide +kernel
theorem dX2_join_174 : decode cX2_join 174 = .ok (.dup2, 1) := by decide +kernel
theorem dX2_join_175 : decode cX2_join 175 = .ok (.laload, 1) := by decide +kernel
theorem dX2_join_176 : decode cX2_join 176 = .ok (.aload_n 0, 1) := by decide +kernel
theorem dX2_join_177 : decode cX2_join 177 = .ok (.getfield 36, 3) := by decide +kernel
theorem dX2_join_180 : decode cX2_join 180 = .ok (.iload_n 2, 1) := by decide +kernel
theorem dX2_join_181 : decode cX2_join 181 = .ok (.laload, 1) := by decide +kernel
theorem dX2_join_182 : decode cX2_join 182 = .ok (.ladd, 1) := by decide +kernel
theorem dX2_join_183 : decode cX2_join 183 = .ok (.lastore, 1) := by decide +kernel
theorem dX2_join_184 : decode cX2_join 184 = .ok (.aload_n 0, 1) := by decide +kernel
theorem dX2_join_185 : decode cX2_join 185 = .ok (.getfield 48, 3) := by decide +kernel
theorem dX2_join_188 : decode cX2_join 188 = .ok (.iload_n 1, 1) := by decide +kernel
theorem dX2_join_189 : decode cX2_join 189 = .ok (.iconst (-1), 1) := by decide +kernel
theorem dX2_join_190 : decode cX2_join 190 = .ok (.iastore, 1) := by decide +kernel
theorem dX2_join_191 : decode cX2_join 191 = .ok (.aload_n 0, 1) := by decide +kernel
theorem dX2_join_192 : decode cX2_join 192 = .ok (.getfield 13, 3) := by decide +kernel
theorem dX2_join_195 : decode cX2_join 195 = .ok (.iload_n 2, 1) := by decide +kernel
theorem dX2_join_196 : decode cX2_join 196 = .ok (.iconst 0, 1) := by decide +kernel
theorem dX2_join_197 : decode cX2_join 197 = .ok (.bastore, 1) := by decide +kernel
theorem dX2_join_198 : decode cX2_join 198 = .ok (.aload_n 0, 1) := by decide +kernel
theorem dX2_join_199 : decode cX2_join 199 = .ok (.getfield 23, 3) := by decide +kernel
theorem dX2_join_202 : decode cX2_join 202 = .ok (.iload_n 1, 1) := by decide +kernel
theorem dX2_join_203 : decode cX2_join 203 = .ok (.iaload, 1) := by decide +kernel
theorem dX2_join_204 : decode cX2_join 204 = .ok (.ireturn, 1) := by decide +kernel
theorem dX2_endTerm_0 : decode cX2_endTerm 0 = .ok (.aload_n 0, 1) := by decide +kernel
theorem dX2_endTerm_1 : decode cX2_endTerm 1 = .ok (.getfield 45, 3) := by decide +kernel
theorem dX2_endTerm_4 : decode cX2_endTerm 4 = .ok (.iload_n 1, 1) := by decide +kernel
theorem dX2_endTerm_5 : decode cX2_endTerm 5 = .ok (.iaload, 1) := by decide +kernel
theorem dX2_endTerm_6 : decode cX2_endTerm 6 = .ok (.ifCond .ne 38, 3) := by decide +kernel
theorem dX2_endTerm_9 : decode cX2_endTerm 9 = .ok (.aload_n 0, 1) := by decide +kernel
theorem dX2_endTerm_10 : decode cX2_endTerm 10 = .ok (.getfield 23, 3) := by decide +kernel
theorem dX2_endTerm_13 : decode cX2_endTerm 13 = .ok (.iload_n 1, 1) := by decide +kernel
theorem dX2_endTerm_14 : decode cX2_endTerm 14 = .ok (.iaload, 1) := by decide +kernel
theorem dX2_endTerm_15 : decode cX2_endTerm 15 = .ok (.istore_n 2, 1) := by decide +kernel
theorem dX2_endTerm_16 : decode cX2_endTerm 16 = .ok (.aload_n 0, 1) := by decide +kernel
theorem dX2_endTerm_17 : decode cX2_endTerm 17 = .ok (.iload_n 1, 1) := by decide +kernel
theorem dX2_endTerm_18 : decode cX2_endTerm 18 = .ok (.invokevirtual 129, 3) := by decide +kernel
theorem dX2_endTerm_21 : decode cX2_endTerm 21 = .ok (.istore_n 3, 1) := by decide +kernel
theorem dX2_endTerm_22 : decode cX2_endTerm 22 = .ok (.aload_n 0, 1) := by decide +kernel
theorem dX2_endTerm_23 : decode cX2_endTerm 23 = .ok (.getfield 51, 3) := by decide +kernel
theorem dX2_endTerm_26 : decode cX2_endTerm 26 = .ok (.aload_n 0, 1) := by decide +kernel
theorem dX2_endTerm_27 : decode cX2_endTerm 27 = .ok (.getfield 20, 3) := by decide +kernel
theorem dX2_endTerm_30 : decode cX2_endTerm 30 = .ok (.iload_n 1, 1) := by decide +kernel
theorem dX2_endTerm_31 : decode cX2_endTerm 31 = .ok (.iaload, 1) := by decide +kernel
theorem dX2_endTerm_32 : decode cX2_endTerm 32 = .ok (.dup2, 1) := by decide +kernel
theorem dX2_endTerm_33 : decode cX2_endTerm 33 = .ok (.laload, 1) := by decide +kernel
theorem dX2_endTerm_34 : decode cX2_endTerm 34 = .ok (.iload_n 2, 1) := by decide +kernel
theorem dX2_endTerm_35 : decode cX2_endTerm 35 = .ok (.i2l, 1) := by decide +kernel
theorem dX2_endTerm_36 : decode cX2_endTerm 36 = .ok (.iload_n 3, 1) := by decide +kernel
theorem dX2_endTerm_37 : decode cX2_endTerm 37 = .ok (.i2l, 1) := by decide +kernel
theorem dX2_endTerm_38 : decode cX2_endTerm 38 = .ok (.ladd, 1) := by decide +kernel
theorem dX2_endTerm_39 : decode cX2_endTerm 39 = .ok (.ladd, 1) := by decide +kernel
theorem dX2_endTerm_40 : decode cX2_endTerm 40 = .ok (.lastore, 1) := by decide +kernel
theorem dX2_endTerm_41 : decode cX2_endTerm 41 = .ok (.goto 59, 3) := by decide +kernel
theorem dX2_endTerm_44 : decode cX2_endTerm 44 = .ok (.aload_n 0, 1) := by decide +kernel
theorem dX2_endTerm_45 : decode cX2_endTerm 45 = .ok (.iload_n 1, 1) := by decide +kernel
theorem dX2_endTerm_46 : decode cX2_endTerm 46 = .ok (.invokevirtual 108, 3) := by decide +kernel
theorem dX2_endTerm_49 : decode cX2_endTerm 49 = .ok (.istore_n 2, 1) := by decide +kernel
theorem dX2_endTerm_50 : decode cX2_endTerm 50 = .ok (.aload_n 0, 1) := by decide +kernel
theorem dX2_endTerm_51 : decode cX2_endTerm 51 = .ok (.getfield 45, 3) := by decide +kernel
theorem dX2_endTerm_54 : decode cX2_endTerm 54 = .ok (.iload_n 1, 1) := by decide +kernel
theorem dX2_endTerm_55 : decode cX2_endTerm 55 = .ok (.iaload, 1) := by decide +kernel
theorem dX2_endTerm_56 : decode cX2_endTerm 56 = .ok (.iconst 1, 1) := by decide +kernel
theorem dX2_endTerm_57 : decode cX2_endTerm 57 = .ok (.if_icmp .ne 18, 3) := by decide +kernel
theorem dX2_endTerm_60 : decode cX2_endTerm 60 = .ok (.aload_n 0, 1) := by decide +kernel
theorem dX2_endTerm_61 : decode cX2_endTerm 61 = .ok (.aload_n 0, 1) := by decide +kernel
theorem dX2_endTerm_62 : decode cX2_endTerm 62 = .ok (.getfield 20, 3) := by decide +kernel
theorem dX2_endTerm_65 : decode cX2_endTerm 65 = .ok (.iload_n 1, 1) := by decide +kernel
theorem dX2_endTerm_66 : decode cX2_endTerm 66 = .ok (.iaload, 1) := by decide +kernel
theorem dX2_endTerm_67 : decode cX2_endTerm 67 = .ok (.iload_n 2, 1) := by decide +kernel
theorem dX2_endTerm_68 : decode cX2_endTerm 68 = .ok (.invokevirtual 132, 3) := by decide +kernel
theorem dX2_endTerm_71 : decode cX2_endTerm 71 = .ok (.pop, 1) := by decide +kernel
theorem dX2_endTerm_72 : decode cX2_endTerm 72 = .ok (.goto 13, 3) := by decide +kernel
theorem dX2_endTerm_75 : decode cX2_endTerm 75 = .ok (.aload_n 0, 1) := by decide +kernel
theorem dX2_endTerm_76 : decode cX2_endTerm 76 = .ok (.getfield 23, 3) := by decide +kernel
theorem dX2_endTerm_79 : decode cX2_endTerm 79 = .ok (.iload_n 1, 1) := by decide +kernel
theorem dX2_endTerm_80 : decode cX2_endTerm 80 = .ok (.dup2, 1) := by decide +kernel
theorem dX2_endTerm_81 : decode cX2_endTerm 81 = .ok (.iaload, 1) := by decide +kernel
theorem dX2_endTerm_82 : decode cX2_endTerm 82 = .ok (.iload_n 2, 1) := by decide +kernel
theorem dX2_endTerm_83 : decode cX2_endTerm 83 = .ok (.iadd, 1) := by decide +kernel
theorem dX2_endTerm_84 : decode cX2_endTerm 84 = .ok (.iastore, 1) := by decide +kernel
theorem dX2_endTerm_85 : decode cX2_endTerm 85 = .ok (.aload_n 0, 1) := by decide +kernel
theorem dX2_endTerm_86 : decode cX2_endTerm 86 = .ok (.iload_n 1, 1) := by decide +kernel
theorem dX2_endTerm_87 : decode cX2_endTerm 87 = .ok (.invokevirtual 122, 3) := by decide +kernel
theorem dX2_endTerm_90 : decode cX2_endTerm 90 = .ok (.aload_n 0, 1) := by decide +kernel
theorem dX2_endTerm_91 : decode cX2_endTerm 91 = .ok (.getfield 48, 3) := by decide +kernel
theorem dX2_endTerm_94 : decode cX2_endTerm 94 = .ok (.iload_n 1, 1) := by decide +kernel
theorem dX2_endTerm_95 : decode cX2_endTerm 95 = .ok (.aload_n 0, 1) := by decide +kernel
theorem dX2_endTerm_96 : decode cX2_endTerm 96 = .ok (.getfield 119, 3) := by decide +kernel
theorem dX2_endTerm_99 : decode cX2_endTerm 99 = .ok (.iastore, 1) := by decide +kernel
theorem dX2_endTerm_100 : decode cX2_endTerm 100 = .ok (.return_, 1) := by decide +kernel
theorem dX2_pass_0 : decode cX2_pass 0 = .ok (.aload_n 0, 1) := by decide +kernel
theorem dX2_pass_1 : decode cX2_pass 1 = .ok (.iload_n 1, 1) := by decide +kernel
theorem dX2_pass_2 : decode cX2_pass 2 = .ok (.iconst 1, 1) := by decide +kernel
theorem dX2_pass_3 : decode cX2_pass 3 = .ok (.bipush 100, 2) := by decide +kernel
theorem dX2_pass_5 : decode cX2_pass 5 = .ok (.invokestatic 73, 3) := by decide +kernel
theorem dX2_pass_8 : decode cX2_pass 8 = .ok (.ifCond .ne 7, 3) := by decide +kernel
theorem dX2_pass_11 : decode cX2_pass 11 = .ok (.iconst 1, 1) := by decide +kernel
theorem dX2_pass_12 : decode cX2_pass 12 = .ok (.goto 20, 3) := by decide +kernel
theorem dX2_pass_15 : decode cX2_pass 15 = .ok (.aload_n 0, 1) := by decide +kernel
theorem dX2_pass_16 : decode cX2_pass 16 = .ok (.getfield 119, 3) := by decide +kernel
theorem dX2_pass_19 : decode cX2_pass 19 = .ok (.iload_n 1, 1) := by decide +kernel
theorem dX2_pass_20 : decode cX2_pass 20 = .ok (.iadd, 1) := by decide +kernel
theorem dX2_pass_21 : decode cX2_pass 21 = .ok (.sipush 3000, 3) := by decide +kernel
theorem dX2_pass_24 : decode cX2_pass 24 = .ok (.if_icmp .le 7, 3) := by decide +kernel
theorem dX2_pass_27 : decode cX2_pass 27 = .ok (.iconst 2, 1) := by decide +kernel
theorem dX2_pass_28 : decode cX2_pass 28 = .ok (.goto 4, 3) := by decide +kernel
theorem dX2_pass_31 : decode cX2_pass 31 = .ok (.iconst 0, 1) := by decide +kernel
theorem dX2_pass_32 : decode cX2_pass 32 = .ok (.putfield 70, 3) := by decide +kernel
theorem dX2_pass_35 : decode cX2_pass 35 = .ok (.iconst 0, 1) := by decide +kernel
theorem dX2_pass_36 : decode cX2_pass 36 = .ok (.istore_n 2, 1) := by decide +kernel
theorem dX2_pass_37 : decode cX2_pass 37 = .ok (.iconst 0, 1) := by decide +kernel
theorem dX2_pass_38 : decode cX2_pass 38 = .ok (.istore_n 3, 1) := by decide +kernel
theorem dX2_pass_39 : decode cX2_pass 39 = .ok (.iload_n 3, 1) := by decide +kernel
theorem dX2_pass_40 : decode cX2_pass 40 = .ok (.iload_n 1, 1) := by decide +kernel
theorem dX2_pass_41 : decode cX2_pass 41 = .ok (.if_icmp .ge 196, 3) := by decide +kernel
theorem dX2_pass_44 : decode cX2_pass 44 = .ok (.aload_n 0, 1) := by decide +kernel
theorem dX2_pass_45 : decode cX2_pass 45 = .ok (.getfield 70, 3) := by decide +kernel
theorem dX2_pass_48 : decode cX2_pass 48 = .ok (.ifCond .ne 189, 3) := by decide +kernel
theorem dX2_pass_51 : decode cX2_pass 51 = .ok (.iconst 0, 1) := by decide +kernel
theorem dX2_pass_52 : decode cX2_pass 52 = .ok (.istore 4, 2) := by decide +kernel
theorem dX2_pass_54 : decode cX2_pass 54 = .ok (.iload 4, 2) := by decide +kernel
theorem dX2_pass_56 : decode cX2_pass 56 = .ok (.aload_n 0, 1) := by decide +kernel
theorem dX2_pass_57 : decode cX2_pass 57 = .ok (.getfield 77, 3) := by decide +kernel
theorem dX2_pass_60 : decode cX2_pass 60 = .ok (.if_icmp .ge 39, 3) := by decide +kernel
theorem dX2_pass_63 : decode cX2_pass 63 = .ok (.aload_n 0, 1) := by decide +kernel
theorem dX2_pass_64 : decode cX2_pass 64 = .ok (.getfield 26, 3) := by decide +kernel
theorem dX2_pass_67 : decode cX2_pass 67 = .ok (.iload 4, 2) := by decide +kernel
theorem dX2_pass_69 : decode cX2_pass 69 = .ok (.dup2, 1) := by decide +kernel
theorem dX2_pass_70 : decode cX2_pass 70 = .ok (.laload, 1) := by decide +kernel
theorem dX2_pass_71 : decode cX2_pass 71 = .ok (.aload_n 0, 1) := by decide +kernel
theorem dX2_pass_72 : decode cX2_pass 72 = .ok (.getfield 13, 3) := by decide +kernel
theorem dX2_pass_75 : decode cX2_pass 75 = .ok (.iload 4, 2) := by decide +kernel
theorem dX2_pass_77 : decode cX2_pass 77 = .ok (.baload, 1) := by decide +kernel
theorem dX2_pass_78 : decode cX2_pass 78 = .ok (.ifCond .eq 12, 3) := by decide +kernel
theorem dX2_pass_81 : decode cX2_pass 81 = .ok (.aload_n 0, 1) := by decide +kernel
theorem dX2_pass_82 : decode cX2_pass 82 = .ok (.iload 4, 2) := by decide +kernel
theorem dX2_pass_84 : decode cX2_pass 84 = .ok (.invokevirtual 136, 3) := by decide +kernel
theorem dX2_pass_87 : decode cX2_pass 87 = .ok (.goto 4, 3) := by decide +kernel
theorem dX2_pass_90 : decode cX2_pass 90 = .ok (.lconst 0, 1) := by decide +kernel
theorem dX2_pass_91 : decode cX2_pass 91 = .ok (.ladd, 1) := by decide +kernel
theorem dX2_pass_92 : decode cX2_pass 92 = .ok (.lastore, 1) := by decide +kernel
theorem dX2_pass_93 : decode cX2_pass 93 = .ok (.iinc 4 1, 3) := by decide +kernel
theorem dX2_pass_96 : decode cX2_pass 96 = .ok (.goto (-42), 3) := by decide +kernel
theorem dX2_pass_99 : decode cX2_pass 99 = .ok (.aload_n 0, 1) := by decide +kernel
theorem dX2_pass_100 : decode cX2_pass 100 = .ok (.dup, 1) := by decide +kernel
theorem dX2_pass_101 : decode cX2_pass 101 = .ok (.getfield 119, 3) := by decide +kernel
theorem dX2_pass_104 : decode cX2_pass 104 = .ok (.iconst 1, 1) := by decide +kernel
theorem dX2_pass_105 : decode cX2_pass 105 = .ok (.iadd, 1) := by decide +kernel
theorem dX2_pass_106 : decode cX2_pass 106 = .ok (.putfield 119, 3) := by decide +kernel
theorem dX2_pass_109 : decode cX2_pass 109 = .ok (.iconst 0, 1) := by decide +kernel
theorem dX2_pass_110 : decode cX2_pass 110 = .ok (.istore 4, 2) := by decide +kernel
theorem dX2_pass_112 : decode cX2_pass 112 = .ok (.iload 4, 2) := by decide +kernel
theorem dX2_pass_114 : decode cX2_pass 114 = .ok (.aload_n 0, 1) := by decide +kernel
theorem dX2_pass_115 : decode cX2_pass 115 = .ok (.getfield 77, 3) := by decide +kernel
theorem dX2_pass_118 : decode cX2_pass 118 = .ok (.if_icmp .ge 113, 3) := by decide +kernel
theorem dX2_pass_121 : decode cX2_pass 121 = .ok (.aload_n 0, 1) := by decide +kernel
theorem dX2_pass_122 : decode cX2_pass 122 = .ok (.getfield 13, 3) := by decide +kernel
theorem dX2_pass_125 : decode cX2_pass 125 = .ok (.iload 4, 2) := by decide +kernel
theorem dX2_pass_127 : decode cX2_pass 127 = .ok (.baload, 1) := by decide +kernel
theorem dX2_pass_128 : decode cX2_pass 128 = .ok (.ifCond .eq 54, 3) := by decide +kernel
theorem dX2_pass_131 : decode cX2_pass 131 = .ok (.aload_n 0, 1) := by decide +kernel
theorem dX2_pass_132 : decode cX2_pass 132 = .ok (.getfield 17, 3) := by decide +kernel
theorem dX2_pass_135 : decode cX2_pass 135 = .ok (.iload 4, 2) := by decide +kernel
theorem dX2_pass_137 : decode cX2_pass 137 = .ok (.baload, 1) := by decide +kernel
theorem dX2_pass_138 : decode cX2_pass 138 = .ok (.ifCond .ne 44, 3) := by decide +kernel
theorem dX2_pass_141 : decode cX2_pass 141 = .ok (.aload_n 0, 1) := by decide +kernel
theorem dX2_pass_142 : decode cX2_pass 142 = .ok (.getfield 30, 3) := by decide +kernel
theorem dX2_pass_145 : decode cX2_pass 145 = .ok (.iload 4, 2) := by decide +kernel
theorem dX2_pass_147 : decode cX2_pass 147 = .ok (.iaload, 1) := by decide +kernel
theorem dX2_pass_148 : decode cX2_pass 148 = .ok (.ifCond .le 34, 3) := by decide +kernel
theorem dX2_pass_151 : decode cX2_pass 151 = .ok (.aload_n 0, 1) := by decide +kernel
theorem dX2_pass_152 : decode cX2_pass 152 = .ok (.getfield 119, 3) := by decide +kernel
theorem dX2_pass_155 : decode cX2_pass 155 = .ok (.aload_n 0, 1) := by decide +kernel
theorem dX2_pass_156 : decode cX2_pass 156 = .ok (.getfield 33, 3) := by decide +kernel
theorem dX2_pass_159 : decode cX2_pass 159 = .ok (.iload 4, 2) := by decide +kernel
theorem dX2_pass_161 : decode cX2_pass 161 = .ok (.iaload, 1) := by decide +kernel
theorem dX2_pass_162 : decode cX2_pass 162 = .ok (.bipush 32, 2) := by decide +kernel
theorem dX2_pass_164 : decode cX2_pass 164 = .ok (.iadd, 1) := by decide +kernel
theorem dX2_pass_165 : decode cX2_pass 165 = .ok (.bipush 7, 2) := by decide +kernel
theorem dX2_pass_167 : decode cX2_pass 167 = .ok (.iadd, 1) := by decide +kernel
theorem dX2_pass_168 : decode cX2_pass 168 = .ok (.if_icmp .ne 14, 3) := by decide +kernel
theorem dX2_pass_171 : decode cX2_pass 171 = .ok (.aload_n 0, 1) := by decide +kernel
theorem dX2_pass_172 : decode cX2_pass 172 = .ok (.getfield 30, 3) := by decide +kernel
theorem dX2_pass_175 : decode cX2_pass 175 = .ok (.iload 4, 2) := by decide +kernel
theorem dX2_pass_177 : decode cX2_pass 177 = .ok (.iconst 0, 1) := by decide +kernel
theorem dX2_pass_178 : decode cX2_pass 178 = .ok (.iastore, 1) := by decide +kernel
theorem dX2_pass_179 : decode cX2_pass 179 = .ok (.goto 46, 3) := by decide +kernel
theorem dX2_pass_182 : decode cX2_pass 182 = .ok (.aload_n 0, 1) := by decide +kernel
theorem dX2_pass_183 : decode cX2_pass 183 = .ok (.getfield 13, 3) := by decide +kernel
theorem dX2_pass_186 : decode cX2_pass 186 = .ok (.iload 4, 2) := by decide +kernel
theorem dX2_pass_188 : decode cX2_pass 188 = .ok (.baload, 1) := by decide +kernel
theorem dX2_pass_189 : decode cX2_pass 189 = .ok (.ifCond .eq 36, 3) := by decide +kernel
theorem dX2_pass_192 : decode cX2_pass 192 = .ok (.aload_n 0, 1) := by decide +kernel
theorem dX2_pass_193 : decode cX2_pass 193 = .ok (.getfield 17, 3) := by decide +kernel
theorem dX2_pass_196 : decode cX2_pass 196 = .ok (.iload 4, 2) := by decide +kernel
theorem dX2_pass_198 : decode cX2_pass 198 = .ok (.baload, 1) := by decide +kernel
theorem dX2_pass_199 : decode cX2_pass 199 = .ok (.ifCond .eq 26, 3) := by decide +kernel
theorem dX2_pass_202 : decode cX2_pass 202 = .ok (.aload_n 0, 1) := by decide +kernel
theorem dX2_pass_203 : decode cX2_pass 203 = .ok (.getfield 42, 3) := by decide +kernel
theorem dX2_pass_206 : decode cX2_pass 206 = .ok (.iload 4, 2) := by decide +kernel
theorem dX2_pass_208 : decode cX2_pass 208 = .ok (.iaload, 1) := by decide +kernel
theorem dX2_pass_209 : decode cX2_pass 209 = .ok (.aload_n 0, 1) := by decide +kernel
theorem dX2_pass_210 : decode cX2_pass 210 = .ok (.getfield 119, 3) := by decide +kernel
theorem dX2_pass_213 : decode cX2_pass 213 = .ok (.if_icmp .ne 12, 3) := by decide +kernel
theorem dX2_pass_216 : decode cX2_pass 216 = .ok (.aload_n 0, 1) := by decide +kernel
theorem dX2_pass_217 : decode cX2_pass 217 = .ok (.iload 4, 2) := by decide +kernel
theorem dX2_pass_219 : decode cX2_pass 219 = .ok (.invokevirtual 146, 3) := by decide +kernel
theorem dX2_pass_222 : decode cX2_pass 222 = .ok (.iinc 2 1, 3) := by decide +kernel
theorem dX2_pass_225 : decode cX2_pass 225 = .ok (.iinc 4 1, 3) := by decide +kernel
theorem dX2_pass_228 : decode cX2_pass 228 = .ok (.goto (-116), 3) := by decide +kernel
theorem dX2_pass_231 : decode cX2_pass 231 = .ok (.iinc 3 1, 3) := by decide +kernel
theorem dX2_pass_234 : decode cX2_pass 234 = .ok (.goto (-195), 3) := by decide +kernel
theorem dX2_pass_237 : decode cX2_pass 237 = .ok (.iload_n 2, 1) := by decide +kernel
theorem dX2_pass_238 : decode cX2_pass 238 = .ok (.ireturn, 1) := by decide +kernel
theorem dX2_today_0 : decode cX2_today 0 = .ok (.aload_n 0, 1) := by decide +kernel
theorem dX2_today_1 : decode cX2_today 1 = .ok (.iconst 0, 1) := by decide +kernel
theorem dX2_today_2 : decode cX2_today 2 = .ok (.putfield 70, 3) := by decide +kernel
theorem dX2_today_5 : decode cX2_today 5 = .ok (.aload_n 0, 1) := by decide +kernel
theorem dX2_today_6 : decode cX2_today 6 = .ok (.getfield 119, 3) := by decide +kernel
theorem dX2_today_9 : decode cX2_today 9 = .ok (.ireturn, 1) := by decide +kernel
theorem dX2_lots_0 : decode cX2_lots 0 = .ok (.aload_n 0, 1) := by decide +kernel
theorem dX2_lots_1 : decode cX2_lots 1 = .ok (.iconst 0, 1) := by decide +kernel
theorem dX2_lots_2 : decode cX2_lots 2 = .ok (.putfield 70, 3) := by decide +kernel
theorem dX2_lots_5 : decode cX2_lots 5 = .ok (.iconst 0, 1) := by decide +kernel
theorem dX2_lots_6 : decode cX2_lots 6 = .ok (.istore_n 1, 1) := by decide +kernel
theorem dX2_lots_7 : decode cX2_lots 7 = .ok (.iconst 0, 1) := by decide +kernel
theorem dX2_lots_8 : decode cX2_lots 8 = .ok (.istore_n 2, 1) := by decide +kernel
theorem dX2_lots_9 : decode cX2_lots 9 = .ok (.iload_n 2, 1) := by decide +kernel
theorem dX2_lots_10 : decode cX2_lots 10 = .ok (.aload_n 0, 1) := by decide +kernel
theorem dX2_lots_11 : decode cX2_lots 11 = .ok (.getfield 77, 3) := by decide +kernel
theorem dX2_lots_14 : decode cX2_lots 14 = .ok (.if_icmp .ge 26, 3) := by decide +kernel
theorem dX2_lots_17 : decode cX2_lots 17 = .ok (.iload_n 1, 1) := by decide +kernel
theorem dX2_lots_18 : decode cX2_lots 18 = .ok (.aload_n 0, 1) := by decide +kernel
theorem dX2_lots_19 : decode cX2_lots 19 = .ok (.getfield 13, 3) := by decide +kernel
theorem dX2_lots_22 : decode cX2_lots 22 = .ok (.iload_n 2, 1) := by decide +kernel
theorem dX2_lots_23 : decode cX2_lots 23 = .ok (.baload, 1) := by decide +kernel
theorem dX2_lots_24 : decode cX2_lots 24 = .ok (.ifCond .eq 7, 3) := by decide +kernel
theorem dX2_lots_27 : decode cX2_lots 27 = .ok (.iconst 1, 1) := by decide +kernel
theorem dX2_lots_28 : decode cX2_lots 28 = .ok (.goto 4, 3) := by decide +kernel
theorem dX2_lots_31 : decode cX2_lots 31 = .ok (.iconst 0, 1) := by decide +kernel
theorem dX2_lots_32 : decode cX2_lots 32 = .ok (.iadd, 1) := by decide +kernel
theorem dX2_lots_33 : decode cX2_lots 33 = .ok (.istore_n 1, 1) := by decide +kernel
theorem dX2_lots_34 : decode cX2_lots 34 = .ok (.iinc 2 1, 3) := by decide +kernel
theorem dX2_lots_37 : decode cX2_lots 37 = .ok (.goto (-28), 3) := by decide +kernel
theorem dX2_lots_40 : decode cX2_lots 40 = .ok (.iload_n 1, 1) := by decide +kernel
theorem dX2_lots_41 : decode cX2_lots 41 = .ok (.ireturn, 1) := by decide +kernel
theorem dX2_asksFor_0 : decode cX2_asksFor 0 = .ok (.aload_n 0, 1) := by decide +kernel
theorem dX2_asksFor_1 : decode cX2_asksFor 1 = .ok (.aload_n 0, 1) := by decide +kernel
theorem dX2_asksFor_2 : decode cX2_asksFor 2 = .ok (.iload_n 1, 1) := by decide +kernel
theorem dX2_asksFor_3 : decode cX2_asksFor 3 = .ok (.invokevirtual 126, 3) := by decide +kernel
theorem dX2_asksFor_6 : decode cX2_asksFor 6 = .ok (.ifCond .eq 7, 3) := by decide +kernel
theorem dX2_asksFor_9 : decode cX2_asksFor 9 = .ok (.iconst 0, 1) := by decide +kernel
theorem dX2_asksFor_10 : decode cX2_asksFor 10 = .ok (.goto 4, 3) := by decide +kernel
theorem dX2_asksFor_13 : decode cX2_asksFor 13 = .ok (.iconst 1, 1) := by decide +kernel
theorem dX2_asksFor_14 : decode cX2_asksFor 14 = .ok (.putfield 70, 3) := by decide +kernel
theorem dX2_asksFor_17 : decode cX2_asksFor 17 = .ok (.aload_n 0, 1) := by decide +kernel
theorem dX2_asksFor_18 : decode cX2_asksFor 18 = .ok (.getfield 70, 3) := by decide +kernel
theorem dX2_asksFor_21 : decode cX2_asksFor 21 = .ok (.ifCond .ne 7, 3) := by decide +kernel
theorem dX2_asksFor_24 : decode cX2_asksFor 24 = .ok (.iconst 1, 1) := by decide +kernel
theorem dX2_asksFor_25 : decode cX2_asksFor 25 = .ok (.goto 4, 3) := by decide +kernel
theorem dX2_asksFor_28 : decode cX2_asksFor 28 = .ok (.iconst 0, 1) := by decide +kernel
theorem dX2_asksFor_29 : decode cX2_asksFor 29 = .ok (.ireturn, 1) := by decide +kernel
theorem dX2_principal_0 : decode cX2_principal 0 = .ok (.aload_n 0, 1) := by decide +kernel
theorem dX2_principal_1 : decode cX2_principal 1 = .ok (.iload_n 1, 1) := by decide +kernel
theorem dX2_principal_2 : decode cX2_principal 2 = .ok (.invokevirtual 149, 3) := by decide +kernel
theorem dX2_principal_5 : decode cX2_principal 5 = .ok (.ifCond .eq 12, 3) := by decide +kernel
theorem dX2_principal_8 : decode cX2_principal 8 = .ok (.aload_n 0, 1) := by decide +kernel
theorem dX2_principal_9 : decode cX2_principal 9 = .ok (.getfield 23, 3) := by decide +kernel
theorem dX2_principal_12 : decode cX2_principal 12 = .ok (.iload_n 1, 1) := by decide +kernel
theorem dX2_principal_13 : decode cX2_principal 13 = .ok (.iaload, 1) := by decide +kernel
theorem dX2_principal_14 : decode cX2_principal 14 = .ok (.goto 4, 3) := by decide +kernel
theorem dX2_principal_17 : decode cX2_principal 17 = .ok (.iconst 0, 1) := by decide +kernel
theorem dX2_principal_18 : decode cX2_principal 18 = .ok (.ireturn, 1) := by decide +kernel
theorem dX2_earned_0 : decode cX2_earned 0 = .ok (.aload_n 0, 1) := by decide +kernel
theorem dX2_earned_1 : decode cX2_earned 1 = .ok (.iload_n 1, 1) := by decide +kernel
theorem dX2_earned_2 : decode cX2_earned 2 = .ok (.invokevirtual 149, 3) := by decide +kernel
theorem dX2_earned_5 : decode cX2_earned 5 = .ok (.ifCond .eq 12, 3) := by decide +kernel
theorem dX2_earned_8 : decode cX2_earned 8 = .ok (.aload_n 0, 1) := by decide +kernel
theorem dX2_earned_9 : decode cX2_earned 9 = .ok (.getfield 26, 3) := by decide +kernel
theorem dX2_earned_12 : decode cX2_earned 12 = .ok (.iload_n 1, 1) := by decide +kernel
theorem dX2_earned_13 : decode cX2_earned 13 = .ok (.laload, 1) := by decide +kernel
theorem dX2_earned_14 : decode cX2_earned 14 = .ok (.goto 4, 3) := by decide +kernel
theorem dX2_earned_17 : decode cX2_earned 17 = .ok (.lconst 0, 1) := by decide +kernel
theorem dX2_earned_18 : decode cX2_earned 18 = .ok (.lreturn, 1) := by decide +kernel
theorem dX2_partsOfDay_0 : decode cX2_partsOfDay 0 = .ok (.aload_n 0, 1) := by decide +kernel
theorem dX2_partsOfDay_1 : decode cX2_partsOfDay 1 = .ok (.iload_n 1, 1) := by decide +kernel
theorem dX2_partsOfDay_2 : decode cX2_partsOfDay 2 = .ok (.invokevirtual 149, 3) := by decide +kernel
theorem dX2_partsOfDay_5 : decode cX2_partsOfDay 5 = .ok (.ifCond .eq 11, 3) := by decide +kernel
theorem dX2_partsOfDay_8 : decode cX2_partsOfDay 8 = .ok (.aload_n 0, 1) := by decide +kernel
theorem dX2_partsOfDay_9 : decode cX2_partsOfDay 9 = .ok (.iload_n 1, 1) := by decide +kernel
theorem dX2_partsOfDay_10 : decode cX2_partsOfDay 10 = .ok (.invokevirtual 136, 3) := by decide +kernel
theorem dX2_partsOfDay_13 : decode cX2_partsOfDay 13 = .ok (.goto 4, 3) := by decide +kernel
theorem dX2_partsOfDay_16 : decode cX2_partsOfDay 16 = .ok (.lconst 0, 1) := by decide +kernel
theorem dX2_partsOfDay_17 : decode cX2_partsOfDay 17 = .ok (.lreturn, 1) := by decide +kernel
theorem dX2_frozen_0 : decode cX2_frozen 0 = .ok (.aload_n 0, 1) := by decide +kernel
theorem dX2_frozen_1 : decode cX2_frozen 1 = .ok (.iload_n 1, 1) := by decide +kernel
theorem dX2_frozen_2 : decode cX2_frozen 2 = .ok (.invokevirtual 149, 3) := by decide +kernel
theorem dX2_frozen_5 : decode cX2_frozen 5 = .ok (.ifCond .eq 21, 3) := by decide +kernel
theorem dX2_frozen_8 : decode cX2_frozen 8 = .ok (.aload_n 0, 1) := by decide +kernel
theorem dX2_frozen_9 : decode cX2_frozen 9 = .ok (.getfield 17, 3) := by decide +kernel
theorem dX2_frozen_12 : decode cX2_frozen 12 = .ok (.iload_n 1, 1) := by decide +kernel
theorem dX2_frozen_13 : decode cX2_frozen 13 = .ok (.baload, 1) := by decide +kernel
theorem dX2_frozen_14 : decode cX2_frozen 14 = .ok (.ifCond .ne 12, 3) := by decide +kernel
theorem dX2_frozen_17 : decode cX2_frozen 17 = .ok (.aload_n 0, 1) := by decide +kernel
theorem dX2_frozen_18 : decode cX2_frozen 18 = .ok (.getfield 30, 3) := by decide +kernel
theorem dX2_frozen_21 : decode cX2_frozen 21 = .ok (.iload_n 1, 1) := by decide +kernel
theorem dX2_frozen_22 : decode cX2_frozen 22 = .ok (.iaload, 1) := by decide +kernel
theorem dX2_frozen_23 : decode cX2_frozen 23 = .ok (.goto 4, 3) := by decide +kernel
theorem dX2_frozen_26 : decode cX2_frozen 26 = .ok (.iconst 0, 1) := by decide +kernel
theorem dX2_frozen_27 : decode cX2_frozen 27 = .ok (.ireturn, 1) := by decide +kernel
theorem dX2_endOf_0 : decode cX2_endOf 0 = .ok (.aload_n 0, 1) := by decide +kernel
theorem dX2_endOf_1 : decode cX2_endOf 1 = .ok (.iload_n 1, 1) := by decide +kernel
theorem dX2_endOf_2 : decode cX2_endOf 2 = .ok (.invokevirtual 149, 3) := by decide +kernel
theorem dX2_endOf_5 : decode cX2_endOf 5 = .ok (.ifCond .ne 7, 3) := by decide +kernel
theorem dX2_endOf_8 : decode cX2_endOf 8 = .ok (.iconst 0, 1) := by decide +kernel
theorem dX2_endOf_9 : decode cX2_endOf 9 = .ok (.goto 22, 3) := by decide +kernel
theorem dX2_endOf_12 : decode cX2_endOf 12 = .ok (.aload_n 0, 1) := by decide +kernel
theorem dX2_endOf_13 : decode cX2_endOf 13 = .ok (.getfield 17, 3) := by decide +kernel
theorem dX2_endOf_16 : decode cX2_endOf 16 = .ok (.iload_n 1, 1) := by decide +kernel
theorem dX2_endOf_17 : decode cX2_endOf 17 = .ok (.baload, 1) := by decide +kernel
theorem dX2_endOf_18 : decode cX2_endOf 18 = .ok (.ifCond .eq 12, 3) := by decide +kernel
theorem dX2_endOf_21 : decode cX2_endOf 21 = .ok (.aload_n 0, 1) := by decide +kernel
theorem dX2_endOf_22 : decode cX2_endOf 22 = .ok (.getfield 42, 3) := by decide +kernel
theorem dX2_endOf_25 : decode cX2_endOf 25 = .ok (.iload_n 1, 1) := by decide +kernel
theorem dX2_endOf_26 : decode cX2_endOf 26 = .ok (.iaload, 1) := by decide +kernel
theorem dX2_endOf_27 : decode cX2_endOf 27 = .ok (.goto 4, 3) := by decide +kernel
theorem dX2_endOf_30 : decode cX2_endOf 30 = .ok (.iconst (-1), 1) := by decide +kernel
theorem dX2_endOf_31 : decode cX2_endOf 31 = .ok (.ireturn, 1) := by decide +kernel
theorem dX2_total_0 : decode cX2_total 0 = .ok (.aload_n 0, 1) := by decide +kernel
theorem dX2_total_1 : decode cX2_total 1 = .ok (.iload_n 1, 1) := by decide +kernel
theorem dX2_total_2 : decode cX2_total 2 = .ok (.invokestatic 111, 3) := by decide +kernel
theorem dX2_total_5 : decode cX2_total 5 = .ok (.ifCond .eq 7, 3) := by decide +kernel
theorem dX2_total_8 : decode cX2_total 8 = .ok (.iconst 0, 1) := by decide +kernel
theorem dX2_total_9 : decode cX2_total 9 = .ok (.goto 4, 3) := by decide +kernel
theorem dX2_total_12 : decode cX2_total 12 = .ok (.iconst 1, 1) := by decide +kernel
theorem dX2_total_13 : decode cX2_total 13 = .ok (.putfield 70, 3) := by decide +kernel
theorem dX2_total_16 : decode cX2_total 16 = .ok (.aload_n 0, 1) := by decide +kernel
theorem dX2_total_17 : decode cX2_total 17 = .ok (.getfield 70, 3) := by decide +kernel
theorem dX2_total_20 : decode cX2_total 20 = .ok (.ifCond .ne 15, 3) := by decide +kernel
theorem dX2_total_23 : decode cX2_total 23 = .ok (.aload_n 0, 1) := by decide +kernel
theorem dX2_total_24 : decode cX2_total 24 = .ok (.iload_n 1, 1) := by decide +kernel
theorem dX2_total_25 : decode cX2_total 25 = .ok (.aload_n 0, 1) := by decide +kernel
theorem dX2_total_26 : decode cX2_total 26 = .ok (.getfield 77, 3) := by decide +kernel
theorem dX2_total_29 : decode cX2_total 29 = .ok (.invokevirtual 94, 3) := by decide +kernel
theorem dX2_total_32 : decode cX2_total 32 = .ok (.goto 4, 3) := by decide +kernel
theorem dX2_total_35 : decode cX2_total 35 = .ok (.iconst 0, 1) := by decide +kernel
theorem dX2_total_36 : decode cX2_total 36 = .ok (.ireturn, 1) := by decide +kernel
theorem dX2_partsByTotal_0 : decode cX2_partsByTotal 0 = .ok (.aload_n 0, 1) := by decide +kernel
theorem dX2_partsByTotal_1 : decode cX2_partsByTotal 1 = .ok (.iload_n 1, 1) := by decide +kernel
theorem dX2_partsByTotal_2 : decode cX2_partsByTotal 2 = .ok (.invokestatic 111, 3) := by decide +kernel
theorem dX2_partsByTotal_5 : decode cX2_partsByTotal 5 = .ok (.ifCond .eq 7, 3) := by decide +kernel
theorem dX2_partsByTotal_8 : decode cX2_partsByTotal 8 = .ok (.iconst 0, 1) := by decide +kernel
theorem dX2_partsByTotal_9 : decode cX2_partsByTotal 9 = .ok (.goto 4, 3) := by decide +kernel
theorem dX2_partsByTotal_12 : decode cX2_partsByTotal 12 = .ok (.iconst 1, 1) := by decide +kernel
theorem dX2_partsByTotal_13 : decode cX2_partsByTotal 13 = .ok (.putfield 70, 3) := by decide +kernel
theorem dX2_partsByTotal_16 : decode cX2_partsByTotal 16 = .ok (.aload_n 0, 1) := by decide +kernel
theorem dX2_partsByTotal_17 : decode cX2_partsByTotal 17 = .ok (.getfield 70, 3) := by decide +kernel
theorem dX2_partsByTotal_20 : decode cX2_partsByTotal 20 = .ok (.ifCond .ne 15, 3) := by decide +kernel
theorem dX2_partsByTotal_23 : decode cX2_partsByTotal 23 = .ok (.aload_n 0, 1) := by decide +kernel
theorem dX2_partsByTotal_24 : decode cX2_partsByTotal 24 = .ok (.iload_n 1, 1) := by decide +kernel
theorem dX2_partsByTotal_25 : decode cX2_partsByTotal 25 = .ok (.aload_n 0, 1) := by decide +kernel
theorem dX2_partsByTotal_26 : decode cX2_partsByTotal 26 = .ok (.getfield 77, 3) := by decide +kernel
theorem dX2_partsByTotal_29 : decode cX2_partsByTotal 29 = .ok (.invokevirtual 94, 3) := by decide +kernel
theorem dX2_partsByTotal_32 : decode cX2_partsByTotal 32 = .ok (.goto 4, 3) := by decide +kernel
theorem dX2_partsByTotal_35 : decode cX2_partsByTotal 35 = .ok (.iconst 0, 1) := by decide +kernel
theorem dX2_partsByTotal_36 : decode cX2_partsByTotal 36 = .ok (.istore_n 2, 1) := by decide +kernel
theorem dX2_partsByTotal_37 : decode cX2_partsByTotal 37 = .ok (.aload_n 0, 1) := by decide +kernel
theorem dX2_partsByTotal_38 : decode cX2_partsByTotal 38 = .ok (.getfield 80, 3) := by decide +kernel
theorem dX2_partsByTotal_41 : decode cX2_partsByTotal 41 = .ok (.ifCond .eq 11, 3) := by decide +kernel
theorem dX2_partsByTotal_44 : decode cX2_partsByTotal 44 = .ok (.aload_n 0, 1) := by decide +kernel
theorem dX2_partsByTotal_45 : decode cX2_partsByTotal 45 = .ok (.iload_n 2, 1) := by decide +kernel
theorem dX2_partsByTotal_46 : decode cX2_partsByTotal 46 = .ok (.invokevirtual 102, 3) := by decide +kernel
theorem dX2_partsByTotal_49 : decode cX2_partsByTotal 49 = .ok (.goto 12, 3) := by decide +kernel
theorem dX2_partsByTotal_52 : decode cX2_partsByTotal 52 = .ok (.iload_n 2, 1) := by decide +kernel
theorem dX2_partsByTotal_53 : decode cX2_partsByTotal 53 = .ok (.i2l, 1) := by decide +kernel
theorem dX2_partsByTotal_54 : decode cX2_partsByTotal 54 = .ok (.aload_n 0, 1) := by decide +kernel
theorem dX2_partsByTotal_55 : decode cX2_partsByTotal 55 = .ok (.iload_n 2, 1) := by decide +kernel
theorem dX2_partsByTotal_56 : decode cX2_partsByTotal 56 = .ok (.invokevirtual 98, 3) := by decide +kernel
theorem dX2_partsByTotal_59 : decode cX2_partsByTotal 59 = .ok (.i2l, 1) := by decide +kernel
theorem dX2_partsByTotal_60 : decode cX2_partsByTotal 60 = .ok (.lmul, 1) := by decide +kernel
theorem dX2_partsByTotal_61 : decode cX2_partsByTotal 61 = .ok (.lreturn, 1) := by decide +kernel
theorem dX2_paid_0 : decode cX2_paid 0 = .ok (.aload_n 0, 1) := by decide +kernel
theorem dX2_paid_1 : decode cX2_paid 1 = .ok (.iload_n 1, 1) := by decide +kernel
theorem dX2_paid_2 : decode cX2_paid 2 = .ok (.invokestatic 111, 3) := by decide +kernel
theorem dX2_paid_5 : decode cX2_paid 5 = .ok (.ifCond .eq 7, 3) := by decide +kernel
theorem dX2_paid_8 : decode cX2_paid 8 = .ok (.iconst 0, 1) := by decide +kernel
theorem dX2_paid_9 : decode cX2_paid 9 = .ok (.goto 4, 3) := by decide +kernel
theorem dX2_paid_12 : decode cX2_paid 12 = .ok (.iconst 1, 1) := by decide +kernel
theorem dX2_paid_13 : decode cX2_paid 13 = .ok (.putfield 70, 3) := by decide +kernel
theorem dX2_paid_16 : decode cX2_paid 16 = .ok (.aload_n 0, 1) := by decide +kernel
theorem dX2_paid_17 : decode cX2_paid 17 = .ok (.getfield 70, 3) := by decide +kernel
theorem dX2_paid_20 : decode cX2_paid 20 = .ok (.ifCond .ne 12, 3) := by decide +kernel
theorem dX2_paid_23 : decode cX2_paid 23 = .ok (.aload_n 0, 1) := by decide +kernel
theorem dX2_paid_24 : decode cX2_paid 24 = .ok (.getfield 51, 3) := by decide +kernel
theorem dX2_paid_27 : decode cX2_paid 27 = .ok (.iload_n 1, 1) := by decide +kernel
theorem dX2_paid_28 : decode cX2_paid 28 = .ok (.laload, 1) := by decide +kernel
theorem dX2_paid_29 : decode cX2_paid 29 = .ok (.goto 4, 3) := by decide +kernel
theorem dX2_paid_32 : decode cX2_paid 32 = .ok (.lconst 0, 1) := by decide +kernel
theorem dX2_paid_33 : decode cX2_paid 33 = .ok (.lreturn, 1) := by decide +kernel
theorem dX2_lost_0 : decode cX2_lost 0 = .ok (.aload_n 0, 1) := by decide +kernel
theorem dX2_lost_1 : decode cX2_lost 1 = .ok (.iload_n 1, 1) := by decide +kernel
theorem dX2_lost_2 : decode cX2_lost 2 = .ok (.invokestatic 111, 3) := by decide +kernel
theorem dX2_lost_5 : decode cX2_lost 5 = .ok (.ifCond .eq 7, 3) := by decide +kernel
theorem dX2_lost_8 : decode cX2_lost 8 = .ok (.iconst 0, 1) := by decide +kernel
theorem dX2_lost_9 : decode cX2_lost 9 = .ok (.goto 4, 3) := by decide +kernel
theorem dX2_lost_12 : decode cX2_lost 12 = .ok (.iconst 1, 1) := by decide +kernel
theorem dX2_lost_13 : decode cX2_lost 13 = .ok (.putfield 70, 3) := by decide +kernel
theorem dX2_lost_16 : decode cX2_lost 16 = .ok (.aload_n 0, 1) := by decide +kernel
theorem dX2_lost_17 : decode cX2_lost 17 = .ok (.getfield 70, 3) := by decide +kernel
theorem dX2_lost_20 : decode cX2_lost 20 = .ok (.ifCond .ne 12, 3) := by decide +kernel
theorem dX2_lost_23 : decode cX2_lost 23 = .ok (.aload_n 0, 1) := by decide +kernel
theorem dX2_lost_24 : decode cX2_lost 24 = .ok (.getfield 54, 3) := by decide +kernel
theorem dX2_lost_27 : decode cX2_lost 27 = .ok (.iload_n 1, 1) := by decide +kernel
theorem dX2_lost_28 : decode cX2_lost 28 = .ok (.laload, 1) := by decide +kernel
theorem dX2_lost_29 : decode cX2_lost 29 = .ok (.goto 4, 3) := by decide +kernel
theorem dX2_lost_32 : decode cX2_lost 32 = .ok (.lconst 0, 1) := by decide +kernel
theorem dX2_lost_33 : decode cX2_lost 33 = .ok (.lreturn, 1) := by decide +kernel
end
section
theorem dL_setRate_0 : decode cL_setRate 0 = .ok (.aload_n 3, 1) := by decide +kernel
theorem dL_setRate_1 : decode cL_setRate 1 = .ok (.iconst 0, 1) := by decide +kernel
theorem dL_setRate_2 : decode cL_setRate 2 = .ok (.aload_n 0, 1) := by decide +kernel
theorem dL_setRate_3 : decode cL_setRate 3 = .ok (.iload_n 1, 1) := by decide +kernel
theorem dL_setRate_4 : decode cL_setRate 4 = .ok (.iload_n 2, 1) := by decide +kernel
theorem dL_setRate_5 : decode cL_setRate 5 = .ok (.invokevirtual 7, 3) := by decide +kernel
theorem dL_setRate_8 : decode cL_setRate 8 = .ok (.i2l, 1) := by decide +kernel
theorem dL_setRate_9 : decode cL_setRate 9 = .ok (.lastore, 1) := by decide +kernel
theorem dL_setRate_10 : decode cL_setRate 10 = .ok (.goto 11, 3) := by decide +kernel
theorem dL_setRate_13 : decode cL_setRate 13 = .ok (.astore 4, 2) := by decide +kernel
theorem dL_setRate_15 : decode cL_setRate 15 = .ok (.iconst 1, 1) := by decide +kernel
theorem dL_setRate_16 : decode cL_setRate 16 = .ok (.ireturn, 1) := by decide +kernel
theorem dL_setRate_17 : decode cL_setRate 17 = .ok (.astore 4, 2) := by decide +kernel
theorem dL_setRate_19 : decode cL_setRate 19 = .ok (.iconst 2, 1) := by decide +kernel
theorem dL_setRate_20 : decode cL_setRate 20 = .ok (.ireturn, 1) := by decide +kernel
theorem dL_setRate_21 : decode cL_setRate 21 = .ok (.iconst 0, 1) := by decide +kernel
theorem dL_setRate_22 : decode cL_setRate 22 = .ok (.ireturn, 1) := by decide +kernel
theorem dL_setTermRate_0 : decode cL_setTermRate 0 = .ok (.aload_n 2, 1) := by decide +kernel
theorem dL_setTermRate_1 : decode cL_setTermRate 1 = .ok (.iconst 0, 1) := by decide +kernel
theorem dL_setTermRate_2 : decode cL_setTermRate 2 = .ok (.aload_n 0, 1) := by decide +kernel
theorem dL_setTermRate_3 : decode cL_setTermRate 3 = .ok (.iload_n 1, 1) := by decide +kernel
theorem dL_setTermRate_4 : decode cL_setTermRate 4 = .ok (.invokevirtual 17, 3) := by decide +kernel
theorem dL_setTermRate_7 : decode cL_setTermRate 7 = .ok (.i2l, 1) := by decide +kernel
theorem dL_setTermRate_8 : decode cL_setTermRate 8 = .ok (.lastore, 1) := by decide +kernel
theorem dL_setTermRate_9 : decode cL_setTermRate 9 = .ok (.goto 6, 3) := by decide +kernel
theorem dL_setTermRate_12 : decode cL_setTermRate 12 = .ok (.astore_n 3, 1) := by decide +kernel
theorem dL_setTermRate_13 : decode cL_setTermRate 13 = .ok (.iconst 1, 1) := by decide +kernel
theorem dL_setTermRate_14 : decode cL_setTermRate 14 = .ok (.ireturn, 1) := by decide +kernel
theorem dL_setTermRate_15 : decode cL_setTermRate 15 = .ok (.iconst 0, 1) := by decide +kernel
theorem dL_setTermRate_16 : decode cL_setTermRate 16 = .ok (.ireturn, 1) := by decide +kernel
theorem dL_deposit_0 : decode cL_deposit 0 = .ok (.aload_n 3, 1) := by decide +kernel
theorem dL_deposit_1 : decode cL_deposit 1 = .ok (.iconst 0, 1) := by decide +kernel
theorem dL_deposit_2 : decode cL_deposit 2 = .ok (.aload_n 0, 1) := by decide +kernel
theorem dL_deposit_3 : decode cL_deposit 3 = .ok (.iload_n 1, 1) := by decide +kernel
theorem dL_deposit_4 : decode cL_deposit 4 = .ok (.iload_n 2, 1) := by decide +kernel
theorem dL_deposit_5 : decode cL_deposit 5 = .ok (.invokevirtual 21, 3) := by decide +kernel
theorem dL_deposit_8 : decode cL_deposit 8 = .ok (.i2l, 1) := by decide +kernel
theorem dL_deposit_9 : decode cL_deposit 9 = .ok (.lastore, 1) := by decide +kernel
theorem dL_deposit_10 : decode cL_deposit 10 = .ok (.goto 15, 3) := by decide +kernel
theorem dL_deposit_13 : decode cL_deposit 13 = .ok (.astore 4, 2) := by decide +kernel
theorem dL_deposit_15 : decode cL_deposit 15 = .ok (.iconst 1, 1) := by decide +kernel
theorem dL_deposit_16 : decode cL_deposit 16 = .ok (.ireturn, 1) := by decide +kernel
theorem dL_deposit_17 : decode cL_deposit 17 = .ok (.astore 4, 2) := by decide +kernel
theorem dL_deposit_19 : decode cL_deposit 19 = .ok (.iconst 2, 1) := by decide +kernel
theorem dL_deposit_20 : decode cL_deposit 20 = .ok (.ireturn, 1) := by decide +kernel
theorem dL_deposit_21 : decode cL_deposit 21 = .ok (.astore 4, 2) := by decide +kernel
theorem dL_deposit_23 : decode cL_deposit 23 = .ok (.iconst 3, 1) := by decide +kernel
theorem dL_deposit_24 : decode cL_deposit 24 = .ok (.ireturn, 1) := by decide +kernel
theorem dL_deposit_25 : decode cL_deposit 25 = .ok (.iconst 0, 1) := by decide +kernel
theorem dL_deposit_26 : decode cL_deposit 26 = .ok (.ireturn, 1) := by decide +kernel
theorem dL_depositTerm_0 : decode cL_depositTerm 0 = .ok (.aload 5, 2) := by decide +kernel
theorem dL_depositTerm_2 : decode cL_depositTerm 2 = .ok (.iconst 0, 1) := by decide +kernel
theorem dL_depositTerm_3 : decode cL_depositTerm 3 = .ok (.aload_n 0, 1) := by decide +kernel
theorem dL_depositTerm_4 : decode cL_depositTerm 4 = .ok (.iload_n 1, 1) := by decide +kernel
theorem dL_depositTerm_5 : decode cL_depositTerm 5 = .ok (.iload_n 2, 1) := by decide +kernel
theorem dL_depositTerm_6 : decode cL_depositTerm 6 = .ok (.iload_n 3, 1) := by decide +kernel
theorem dL_depositTerm_7 : decode cL_depositTerm 7 = .ok (.iload 4, 2) := by decide +kernel
theorem dL_depositTerm_9 : decode cL_depositTerm 9 = .ok (.invokevirtual 26, 3) := by decide +kernel
theorem dL_depositTerm_12 : decode cL_depositTerm 12 = .ok (.i2l, 1) := by decide +kernel
theorem dL_depositTerm_13 : decode cL_depositTerm 13 = .ok (.lastore, 1) := by decide +kernel
theorem dL_depositTerm_14 : decode cL_depositTerm 14 = .ok (.goto 15, 3) := by decide +kernel
theorem dL_depositTerm_17 : decode cL_depositTerm 17 = .ok (.astore 6, 2) := by decide +kernel
theorem dL_depositTerm_19 : decode cL_depositTerm 19 = .ok (.iconst 1, 1) := by decide +kernel
theorem dL_depositTerm_20 : decode cL_depositTerm 20 = .ok (.ireturn, 1) := by decide +kernel
theorem dL_depositTerm_21 : decode cL_depositTerm 21 = .ok (.astore 6, 2) := by decide +kernel
theorem dL_depositTerm_23 : decode cL_depositTerm 23 = .ok (.iconst 2, 1) := by decide +kernel
theorem dL_depositTerm_24 : decode cL_depositTerm 24 = .ok (.ireturn, 1) := by decide +kernel
theorem dL_depositTerm_25 : decode cL_depositTerm 25 = .ok (.astore 6, 2) := by decide +kernel
theorem dL_depositTerm_27 : decode cL_depositTerm 27 = .ok (.iconst 3, 1) := by decide +kernel
theorem dL_depositTerm_28 : decode cL_depositTerm 28 = .ok (.ireturn, 1) := by decide +kernel
theorem dL_depositTerm_29 : decode cL_depositTerm 29 = .ok (.iconst 0, 1) := by decide +kernel
theorem dL_depositTerm_30 : decode cL_depositTerm 30 = .ok (.ireturn, 1) := by decide +kernel
theorem dL_give_0 : decode cL_give 0 = .ok (.aload_n 3, 1) := by decide +kernel
theorem dL_give_1 : decode cL_give 1 = .ok (.iconst 0, 1) := by decide +kernel
theorem dL_give_2 : decode cL_give 2 = .ok (.aload_n 0, 1) := by decide +kernel
theorem dL_give_3 : decode cL_give 3 = .ok (.iload_n 1, 1) := by decide +kernel
theorem dL_give_4 : decode cL_give 4 = .ok (.iload_n 2, 1) := by decide +kernel
theorem dL_give_5 : decode cL_give 5 = .ok (.invokevirtual 30, 3) := by decide +kernel
theorem dL_give_8 : decode cL_give 8 = .ok (.i2l, 1) := by decide +kernel
theorem dL_give_9 : decode cL_give 9 = .ok (.lastore, 1) := by decide +kernel
theorem dL_give_10 : decode cL_give 10 = .ok (.goto 15, 3) := by decide +kernel
theorem dL_give_13 : decode cL_give 13 = .ok (.astore 4, 2) := by decide +kernel
theorem dL_give_15 : decode cL_give 15 = .ok (.iconst 1, 1) := by decide +kernel
theorem dL_give_16 : decode cL_give 16 = .ok (.ireturn, 1) := by decide +kernel
theorem dL_give_17 : decode cL_give 17 = .ok (.astore 4, 2) := by decide +kernel
theorem dL_give_19 : decode cL_give 19 = .ok (.iconst 2, 1) := by decide +kernel
theorem dL_give_20 : decode cL_give 20 = .ok (.ireturn, 1) := by decide +kernel
theorem dL_give_21 : decode cL_give 21 = .ok (.astore 4, 2) := by decide +kernel
theorem dL_give_23 : decode cL_give 23 = .ok (.iconst 3, 1) := by decide +kernel
theorem dL_give_24 : decode cL_give 24 = .ok (.ireturn, 1) := by decide +kernel
theorem dL_give_25 : decode cL_give 25 = .ok (.iconst 0, 1) := by decide +kernel
theorem dL_give_26 : decode cL_give 26 = .ok (.ireturn, 1) := by decide +kernel
theorem dL_withdraw_0 : decode cL_withdraw 0 = .ok (.aload_n 2, 1) := by decide +kernel
theorem dL_withdraw_1 : decode cL_withdraw 1 = .ok (.iconst 0, 1) := by decide +kernel
theorem dL_withdraw_2 : decode cL_withdraw 2 = .ok (.aload_n 0, 1) := by decide +kernel
theorem dL_withdraw_3 : decode cL_withdraw 3 = .ok (.iload_n 1, 1) := by decide +kernel
theorem dL_withdraw_4 : decode cL_withdraw 4 = .ok (.invokevirtual 33, 3) := by decide +kernel
theorem dL_withdraw_7 : decode cL_withdraw 7 = .ok (.i2l, 1) := by decide +kernel
theorem dL_withdraw_8 : decode cL_withdraw 8 = .ok (.lastore, 1) := by decide +kernel
theorem dL_withdraw_9 : decode cL_withdraw 9 = .ok (.goto 9, 3) := by decide +kernel
theorem dL_withdraw_12 : decode cL_withdraw 12 = .ok (.astore_n 3, 1) := by decide +kernel
theorem dL_withdraw_13 : decode cL_withdraw 13 = .ok (.iconst 1, 1) := by decide +kernel
theorem dL_withdraw_14 : decode cL_withdraw 14 = .ok (.ireturn, 1) := by decide +kernel
theorem dL_withdraw_15 : decode cL_withdraw 15 = .ok (.astore_n 3, 1) := by decide +kernel
theorem dL_withdraw_16 : decode cL_withdraw 16 = .ok (.iconst 2, 1) := by decide +kernel
theorem dL_withdraw_17 : decode cL_withdraw 17 = .ok (.ireturn, 1) := by decide +kernel
theorem dL_withdraw_18 : decode cL_withdraw 18 = .ok (.iconst 0, 1) := by decide +kernel
theorem dL_withdraw_19 : decode cL_withdraw 19 = .ok (.ireturn, 1) := by decide +kernel
theorem dL_take_0 : decode cL_take 0 = .ok (.aload_n 2, 1) := by decide +kernel
theorem dL_take_1 : decode cL_take 1 = .ok (.iconst 0, 1) := by decide +kernel
theorem dL_take_2 : decode cL_take 2 = .ok (.aload_n 0, 1) := by decide +kernel
theorem dL_take_3 : decode cL_take 3 = .ok (.iload_n 1, 1) := by decide +kernel
theorem dL_take_4 : decode cL_take 4 = .ok (.invokevirtual 36, 3) := by decide +kernel
theorem dL_take_7 : decode cL_take 7 = .ok (.i2l, 1) := by decide +kernel
theorem dL_take_8 : decode cL_take 8 = .ok (.lastore, 1) := by decide +kernel
theorem dL_take_9 : decode cL_take 9 = .ok (.goto 9, 3) := by decide +kernel
theorem dL_take_12 : decode cL_take 12 = .ok (.astore_n 3, 1) := by decide +kernel
theorem dL_take_13 : decode cL_take 13 = .ok (.iconst 1, 1) := by decide +kernel
theorem dL_take_14 : decode cL_take 14 = .ok (.ireturn, 1) := by decide +kernel
theorem dL_take_15 : decode cL_take 15 = .ok (.astore_n 3, 1) := by decide +kernel
theorem dL_take_16 : decode cL_take 16 = .ok (.iconst 2, 1) := by decide +kernel
theorem dL_take_17 : decode cL_take 17 = .ok (.ireturn, 1) := by decide +kernel
theorem dL_take_18 : decode cL_take 18 = .ok (.iconst 0, 1) := by decide +kernel
theorem dL_take_19 : decode cL_take 19 = .ok (.ireturn, 1) := by decide +kernel
theorem dL_early_0 : decode cL_early 0 = .ok (.aload_n 3, 1) := by decide +kernel
theorem dL_early_1 : decode cL_early 1 = .ok (.iconst 0, 1) := by decide +kernel
theorem dL_early_2 : decode cL_early 2 = .ok (.aload_n 0, 1) := by decide +kernel
theorem dL_early_3 : decode cL_early 3 = .ok (.iload_n 1, 1) := by decide +kernel
theorem dL_early_4 : decode cL_early 4 = .ok (.iload_n 2, 1) := by decide +kernel
theorem dL_early_5 : decode cL_early 5 = .ok (.invokevirtual 39, 3) := by decide +kernel
theorem dL_early_8 : decode cL_early 8 = .ok (.i2l, 1) := by decide +kernel
theorem dL_early_9 : decode cL_early 9 = .ok (.lastore, 1) := by decide +kernel
theorem dL_early_10 : decode cL_early 10 = .ok (.goto 15, 3) := by decide +kernel
theorem dL_early_13 : decode cL_early 13 = .ok (.astore 4, 2) := by decide +kernel
theorem dL_early_15 : decode cL_early 15 = .ok (.iconst 1, 1) := by decide +kernel
theorem dL_early_16 : decode cL_early 16 = .ok (.ireturn, 1) := by decide +kernel
theorem dL_early_17 : decode cL_early 17 = .ok (.astore 4, 2) := by decide +kernel
theorem dL_early_19 : decode cL_early 19 = .ok (.iconst 2, 1) := by decide +kernel
theorem dL_early_20 : decode cL_early 20 = .ok (.ireturn, 1) := by decide +kernel
theorem dL_early_21 : decode cL_early 21 = .ok (.astore 4, 2) := by decide +kernel
theorem dL_early_23 : decode cL_early 23 = .ok (.iconst 3, 1) := by decide +kernel
theorem dL_early_24 : decode cL_early 24 = .ok (.ireturn, 1) := by decide +kernel
theorem dL_early_25 : decode cL_early 25 = .ok (.iconst 0, 1) := by decide +kernel
theorem dL_early_26 : decode cL_early 26 = .ok (.ireturn, 1) := by decide +kernel
theorem dL_instruct_0 : decode cL_instruct 0 = .ok (.aload_n 3, 1) := by decide +kernel
theorem dL_instruct_1 : decode cL_instruct 1 = .ok (.iconst 0, 1) := by decide +kernel
theorem dL_instruct_2 : decode cL_instruct 2 = .ok (.aload_n 0, 1) := by decide +kernel
theorem dL_instruct_3 : decode cL_instruct 3 = .ok (.iload_n 1, 1) := by decide +kernel
theorem dL_instruct_4 : decode cL_instruct 4 = .ok (.iload_n 2, 1) := by decide +kernel
theorem dL_instruct_5 : decode cL_instruct 5 = .ok (.invokevirtual 42, 3) := by decide +kernel
theorem dL_instruct_8 : decode cL_instruct 8 = .ok (.i2l, 1) := by decide +kernel
theorem dL_instruct_9 : decode cL_instruct 9 = .ok (.lastore, 1) := by decide +kernel
theorem dL_instruct_10 : decode cL_instruct 10 = .ok (.goto 15, 3) := by decide +kernel
theorem dL_instruct_13 : decode cL_instruct 13 = .ok (.astore 4, 2) := by decide +kernel
theorem dL_instruct_15 : decode cL_instruct 15 = .ok (.iconst 1, 1) := by decide +kernel
theorem dL_instruct_16 : decode cL_instruct 16 = .ok (.ireturn, 1) := by decide +kernel
theorem dL_instruct_17 : decode cL_instruct 17 = .ok (.astore 4, 2) := by decide +kernel
theorem dL_instruct_19 : decode cL_instruct 19 = .ok (.iconst 2, 1) := by decide +kernel
theorem dL_instruct_20 : decode cL_instruct 20 = .ok (.ireturn, 1) := by decide +kernel
theorem dL_instruct_21 : decode cL_instruct 21 = .ok (.astore 4, 2) := by decide +kernel
theorem dL_instruct_23 : decode cL_instruct 23 = .ok (.iconst 3, 1) := by decide +kernel
theorem dL_instruct_24 : decode cL_instruct 24 = .ok (.ireturn, 1) := by decide +kernel
theorem dL_instruct_25 : decode cL_instruct 25 = .ok (.iconst 0, 1) := by decide +kernel
theorem dL_instruct_26 : decode cL_instruct 26 = .ok (.ireturn, 1) := by decide +kernel
theorem dL_letGo_0 : decode cL_letGo 0 = .ok (.aload_n 2, 1) := by decide +kernel
theorem dL_letGo_1 : decode cL_letGo 1 = .ok (.iconst 0, 1) := by decide +kernel
theorem dL_letGo_2 : decode cL_letGo 2 = .ok (.aload_n 0, 1) := by decide +kernel
theorem dL_letGo_3 : decode cL_letGo 3 = .ok (.iload_n 1, 1) := by decide +kernel
theorem dL_letGo_4 : decode cL_letGo 4 = .ok (.invokevirtual 45, 3) := by decide +kernel
theorem dL_letGo_7 : decode cL_letGo 7 = .ok (.i2l, 1) := by decide +kernel
theorem dL_letGo_8 : decode cL_letGo 8 = .ok (.lastore, 1) := by decide +kernel
theorem dL_letGo_9 : decode cL_letGo 9 = .ok (.goto 9, 3) := by decide +kernel
theorem dL_letGo_12 : decode cL_letGo 12 = .ok (.astore_n 3, 1) := by decide +kernel
theorem dL_letGo_13 : decode cL_letGo 13 = .ok (.iconst 1, 1) := by decide +kernel
theorem dL_letGo_14 : decode cL_letGo 14 = .ok (.ireturn, 1) := by decide +kernel
theorem dL_letGo_15 : decode cL_letGo 15 = .ok (.astore_n 3, 1) := by decide +kernel
theorem dL_letGo_16 : decode cL_letGo 16 = .ok (.iconst 2, 1) := by decide +kernel
theorem dL_letGo_17 : decode cL_letGo 17 = .ok (.ireturn, 1) := by decide +kernel
theorem dL_letGo_18 : decode cL_letGo 18 = .ok (.iconst 0, 1) := by decide +kernel
theorem dL_letGo_19 : decode cL_letGo 19 = .ok (.ireturn, 1) := by decide +kernel
theorem dL_join_0 : decode cL_join 0 = .ok (.aload_n 3, 1) := by decide +kernel
theorem dL_join_1 : decode cL_join 1 = .ok (.iconst 0, 1) := by decide +kernel
theorem dL_join_2 : decode cL_join 2 = .ok (.aload_n 0, 1) := by decide +kernel
theorem dL_join_3 : decode cL_join 3 = .ok (.iload_n 1, 1) := by decide +kernel
theorem dL_join_4 : decode cL_join 4 = .ok (.iload_n 2, 1) := by decide +kernel
theorem dL_join_5 : decode cL_join 5 = .ok (.invokevirtual 48, 3) := by decide +kernel
theorem dL_join_8 : decode cL_join 8 = .ok (.i2l, 1) := by decide +kernel
theorem dL_join_9 : decode cL_join 9 = .ok (.lastore, 1) := by decide +kernel
theorem dL_join_10 : decode cL_join 10 = .ok (.goto 15, 3) := by decide +kernel
theorem dL_join_13 : decode cL_join 13 = .ok (.astore 4, 2) := by decide +kernel
theorem dL_join_15 : decode cL_join 15 = .ok (.iconst 1, 1) := by decide +kernel
theorem dL_join_16 : decode cL_join 16 = .ok (.ireturn, 1) := by decide +kernel
theorem dL_join_17 : decode cL_join 17 = .ok (.astore 4, 2) := by decide +kernel
theorem dL_join_19 : decode cL_join 19 = .ok (.iconst 2, 1) := by decide +kernel
theorem dL_join_20 : decode cL_join 20 = .ok (.ireturn, 1) := by decide +kernel
theorem dL_join_21 : decode cL_join 21 = .ok (.astore 4, 2) := by decide +kernel
theorem dL_join_23 : decode cL_join 23 = .ok (.iconst 3, 1) := by decide +kernel
theorem dL_join_24 : decode cL_join 24 = .ok (.ireturn, 1) := by decide +kernel
theorem dL_join_25 : decode cL_join 25 = .ok (.iconst 0, 1) := by decide +kernel
theorem dL_join_26 : decode cL_join 26 = .ok (.ireturn, 1) := by decide +kernel
theorem dL_pass_0 : decode cL_pass 0 = .ok (.aload_n 2, 1) := by decide +kernel
theorem dL_pass_1 : decode cL_pass 1 = .ok (.iconst 0, 1) := by decide +kernel
theorem dL_pass_2 : decode cL_pass 2 = .ok (.aload_n 0, 1) := by decide +kernel
theorem dL_pass_3 : decode cL_pass 3 = .ok (.iload_n 1, 1) := by decide +kernel
theorem dL_pass_4 : decode cL_pass 4 = .ok (.invokevirtual 51, 3) := by decide +kernel
theorem dL_pass_7 : decode cL_pass 7 = .ok (.i2l, 1) := by decide +kernel
theorem dL_pass_8 : decode cL_pass 8 = .ok (.lastore, 1) := by decide +kernel
theorem dL_pass_9 : decode cL_pass 9 = .ok (.goto 9, 3) := by decide +kernel
theorem dL_pass_12 : decode cL_pass 12 = .ok (.astore_n 3, 1) := by decide +kernel
theorem dL_pass_13 : decode cL_pass 13 = .ok (.iconst 1, 1) := by decide +kernel
theorem dL_pass_14 : decode cL_pass 14 = .ok (.ireturn, 1) := by decide +kernel
theorem dL_pass_15 : decode cL_pass 15 = .ok (.astore_n 3, 1) := by decide +kernel
theorem dL_pass_16 : decode cL_pass 16 = .ok (.iconst 2, 1) := by decide +kernel
theorem dL_pass_17 : decode cL_pass 17 = .ok (.ireturn, 1) := by decide +kernel
theorem dL_pass_18 : decode cL_pass 18 = .ok (.iconst 0, 1) := by decide +kernel
theorem dL_pass_19 : decode cL_pass 19 = .ok (.ireturn, 1) := by decide +kernel
theorem dL_principal_0 : decode cL_principal 0 = .ok (.aload_n 2, 1) := by decide +kernel
theorem dL_principal_1 : decode cL_principal 1 = .ok (.iconst 0, 1) := by decide +kernel
theorem dL_principal_2 : decode cL_principal 2 = .ok (.aload_n 0, 1) := by decide +kernel
theorem dL_principal_3 : decode cL_principal 3 = .ok (.iload_n 1, 1) := by decide +kernel
theorem dL_principal_4 : decode cL_principal 4 = .ok (.invokevirtual 54, 3) := by decide +kernel
theorem dL_principal_7 : decode cL_principal 7 = .ok (.i2l, 1) := by decide +kernel
theorem dL_principal_8 : decode cL_principal 8 = .ok (.lastore, 1) := by decide +kernel
theorem dL_principal_9 : decode cL_principal 9 = .ok (.goto 6, 3) := by decide +kernel
theorem dL_principal_12 : decode cL_principal 12 = .ok (.astore_n 3, 1) := by decide +kernel
theorem dL_principal_13 : decode cL_principal 13 = .ok (.iconst 1, 1) := by decide +kernel
theorem dL_principal_14 : decode cL_principal 14 = .ok (.ireturn, 1) := by decide +kernel
theorem dL_principal_15 : decode cL_principal 15 = .ok (.iconst 0, 1) := by decide +kernel
theorem dL_principal_16 : decode cL_principal 16 = .ok (.ireturn, 1) := by decide +kernel
theorem dL_earned_0 : decode cL_earned 0 = .ok (.aload_n 2, 1) := by decide +kernel
theorem dL_earned_1 : decode cL_earned 1 = .ok (.iconst 0, 1) := by decide +kernel
theorem dL_earned_2 : decode cL_earned 2 = .ok (.aload_n 0, 1) := by decide +kernel
theorem dL_earned_3 : decode cL_earned 3 = .ok (.iload_n 1, 1) := by decide +kernel
theorem dL_earned_4 : decode cL_earned 4 = .ok (.invokevirtual 57, 3) := by decide +kernel
theorem dL_earned_7 : decode cL_earned 7 = .ok (.lastore, 1) := by decide +kernel
theorem dL_earned_8 : decode cL_earned 8 = .ok (.goto 6, 3) := by decide +kernel
theorem dL_earned_11 : decode cL_earned 11 = .ok (.astore_n 3, 1) := by decide +kernel
theorem dL_earned_12 : decode cL_earned 12 = .ok (.iconst 1, 1) := by decide +kernel
theorem dL_earned_13 : decode cL_earned 13 = .ok (.ireturn, 1) := by decide +kernel
theorem dL_earned_14 : decode cL_earned 14 = .ok (.iconst 0, 1) := by decide +kernel
theorem dL_earned_15 : decode cL_earned 15 = .ok (.ireturn, 1) := by decide +kernel
theorem dL_partsOfDay_0 : decode cL_partsOfDay 0 = .ok (.aload_n 2, 1) := by decide +kernel
theorem dL_partsOfDay_1 : decode cL_partsOfDay 1 = .ok (.iconst 0, 1) := by decide +kernel
theorem dL_partsOfDay_2 : decode cL_partsOfDay 2 = .ok (.aload_n 0, 1) := by decide +kernel
theorem dL_partsOfDay_3 : decode cL_partsOfDay 3 = .ok (.iload_n 1, 1) := by decide +kernel
theorem dL_partsOfDay_4 : decode cL_partsOfDay 4 = .ok (.invokevirtual 61, 3) := by decide +kernel
theorem dL_partsOfDay_7 : decode cL_partsOfDay 7 = .ok (.lastore, 1) := by decide +kernel
theorem dL_partsOfDay_8 : decode cL_partsOfDay 8 = .ok (.goto 6, 3) := by decide +kernel
theorem dL_partsOfDay_11 : decode cL_partsOfDay 11 = .ok (.astore_n 3, 1) := by decide +kernel
theorem dL_partsOfDay_12 : decode cL_partsOfDay 12 = .ok (.iconst 1, 1) := by decide +kernel
theorem dL_partsOfDay_13 : decode cL_partsOfDay 13 = .ok (.ireturn, 1) := by decide +kernel
theorem dL_partsOfDay_14 : decode cL_partsOfDay 14 = .ok (.iconst 0, 1) := by decide +kernel
theorem dL_partsOfDay_15 : decode cL_partsOfDay 15 = .ok (.ireturn, 1) := by decide +kernel
theorem dL_frozen_0 : decode cL_frozen 0 = .ok (.aload_n 2, 1) := by decide +kernel
theorem dL_frozen_1 : decode cL_frozen 1 = .ok (.iconst 0, 1) := by decide +kernel
theorem dL_frozen_2 : decode cL_frozen 2 = .ok (.aload_n 0, 1) := by decide +kernel
theorem dL_frozen_3 : decode cL_frozen 3 = .ok (.iload_n 1, 1) := by decide +kernel
theorem dL_frozen_4 : decode cL_frozen 4 = .ok (.invokevirtual 64, 3) := by decide +kernel
theorem dL_frozen_7 : decode cL_frozen 7 = .ok (.i2l, 1) := by decide +kernel
theorem dL_frozen_8 : decode cL_frozen 8 = .ok (.lastore, 1) := by decide +kernel
theorem dL_frozen_9 : decode cL_frozen 9 = .ok (.goto 6, 3) := by decide +kernel
theorem dL_frozen_12 : decode cL_frozen 12 = .ok (.astore_n 3, 1) := by decide +kernel
theorem dL_frozen_13 : decode cL_frozen 13 = .ok (.iconst 1, 1) := by decide +kernel
theorem dL_frozen_14 : decode cL_frozen 14 = .ok (.ireturn, 1) := by decide +kernel
theorem dL_frozen_15 : decode cL_frozen 15 = .ok (.iconst 0, 1) := by decide +kernel
theorem dL_frozen_16 : decode cL_frozen 16 = .ok (.ireturn, 1) := by decide +kernel
theorem dL_endOf_0 : decode cL_endOf 0 = .ok (.aload_n 2, 1) := by decide +kernel
theorem dL_endOf_1 : decode cL_endOf 1 = .ok (.iconst 0, 1) := by decide +kernel
theorem dL_endOf_2 : decode cL_endOf 2 = .ok (.aload_n 0, 1) := by decide +kernel
theorem dL_endOf_3 : decode cL_endOf 3 = .ok (.iload_n 1, 1) := by decide +kernel
theorem dL_endOf_4 : decode cL_endOf 4 = .ok (.invokevirtual 67, 3) := by decide +kernel
theorem dL_endOf_7 : decode cL_endOf 7 = .ok (.i2l, 1) := by decide +kernel
theorem dL_endOf_8 : decode cL_endOf 8 = .ok (.lastore, 1) := by decide +kernel
theorem dL_endOf_9 : decode cL_endOf 9 = .ok (.goto 6, 3) := by decide +kernel
theorem dL_endOf_12 : decode cL_endOf 12 = .ok (.astore_n 3, 1) := by decide +kernel
theorem dL_endOf_13 : decode cL_endOf 13 = .ok (.iconst 1, 1) := by decide +kernel
theorem dL_endOf_14 : decode cL_endOf 14 = .ok (.ireturn, 1) := by decide +kernel
theorem dL_endOf_15 : decode cL_endOf 15 = .ok (.iconst 0, 1) := by decide +kernel
theorem dL_endOf_16 : decode cL_endOf 16 = .ok (.ireturn, 1) := by decide +kernel
theorem dL_total_0 : decode cL_total 0 = .ok (.aload_n 2, 1) := by decide +kernel
theorem dL_total_1 : decode cL_total 1 = .ok (.iconst 0, 1) := by decide +kernel
theorem dL_total_2 : decode cL_total 2 = .ok (.aload_n 0, 1) := by decide +kernel
theorem dL_total_3 : decode cL_total 3 = .ok (.iload_n 1, 1) := by decide +kernel
theorem dL_total_4 : decode cL_total 4 = .ok (.invokevirtual 70, 3) := by decide +kernel
theorem dL_total_7 : decode cL_total 7 = .ok (.i2l, 1) := by decide +kernel
theorem dL_total_8 : decode cL_total 8 = .ok (.lastore, 1) := by decide +kernel
theorem dL_total_9 : decode cL_total 9 = .ok (.goto 6, 3) := by decide +kernel
theorem dL_total_12 : decode cL_total 12 = .ok (.astore_n 3, 1) := by decide +kernel
theorem dL_total_13 : decode cL_total 13 = .ok (.iconst 1, 1) := by decide +kernel
theorem dL_total_14 : decode cL_total 14 = .ok (.ireturn, 1) := by decide +kernel
theorem dL_total_15 : decode cL_total 15 = .ok (.iconst 0, 1) := by decide +kernel
theorem dL_total_16 : decode cL_total 16 = .ok (.ireturn, 1) := by decide +kernel
theorem dL_partsByTotal_0 : decode cL_partsByTotal 0 = .ok (.aload_n 2, 1) := by decide +kernel
theorem dL_partsByTotal_1 : decode cL_partsByTotal 1 = .ok (.iconst 0, 1) := by decide +kernel
theorem dL_partsByTotal_2 : decode cL_partsByTotal 2 = .ok (.aload_n 0, 1) := by decide +kernel
theorem dL_partsByTotal_3 : decode cL_partsByTotal 3 = .ok (.iload_n 1, 1) := by decide +kernel
theorem dL_partsByTotal_4 : decode cL_partsByTotal 4 = .ok (.invokevirtual 73, 3) := by decide +kernel
theorem dL_partsByTotal_7 : decode cL_partsByTotal 7 = .ok (.lastore, 1) := by decide +kernel
theorem dL_partsByTotal_8 : decode cL_partsByTotal 8 = .ok (.goto 6, 3) := by decide +kernel
theorem dL_partsByTotal_11 : decode cL_partsByTotal 11 = .ok (.astore_n 3, 1) := by decide +kernel
theorem dL_partsByTotal_12 : decode cL_partsByTotal 12 = .ok (.iconst 1, 1) := by decide +kernel
theorem dL_partsByTotal_13 : decode cL_partsByTotal 13 = .ok (.ireturn, 1) := by decide +kernel
theorem dL_partsByTotal_14 : decode cL_partsByTotal 14 = .ok (.iconst 0, 1) := by decide +kernel
theorem dL_partsByTotal_15 : decode cL_partsByTotal 15 = .ok (.ireturn, 1) := by decide +kernel
theorem dL_paid_0 : decode cL_paid 0 = .ok (.aload_n 2, 1) := by decide +kernel
theorem dL_paid_1 : decode cL_paid 1 = .ok (.iconst 0, 1) := by decide +kernel
theorem dL_paid_2 : decode cL_paid 2 = .ok (.aload_n 0, 1) := by decide +kernel
theorem dL_paid_3 : decode cL_paid 3 = .ok (.iload_n 1, 1) := by decide +kernel
theorem dL_paid_4 : decode cL_paid 4 = .ok (.invokevirtual 76, 3) := by decide +kernel
theorem dL_paid_7 : decode cL_paid 7 = .ok (.lastore, 1) := by decide +kernel
theorem dL_paid_8 : decode cL_paid 8 = .ok (.goto 6, 3) := by decide +kernel
theorem dL_paid_11 : decode cL_paid 11 = .ok (.astore_n 3, 1) := by decide +kernel
theorem dL_paid_12 : decode cL_paid 12 = .ok (.iconst 1, 1) := by decide +kernel
theorem dL_paid_13 : decode cL_paid 13 = .ok (.ireturn, 1) := by decide +kernel
theorem dL_paid_14 : decode cL_paid 14 = .ok (.iconst 0, 1) := by decide +kernel
theorem dL_paid_15 : decode cL_paid 15 = .ok (.ireturn, 1) := by decide +kernel
theorem dL_lost_0 : decode cL_lost 0 = .ok (.aload_n 2, 1) := by decide +kernel
theorem dL_lost_1 : decode cL_lost 1 = .ok (.iconst 0, 1) := by decide +kernel
theorem dL_lost_2 : decode cL_lost 2 = .ok (.aload_n 0, 1) := by decide +kernel
theorem dL_lost_3 : decode cL_lost 3 = .ok (.iload_n 1, 1) := by decide +kernel
theorem dL_lost_4 : decode cL_lost 4 = .ok (.invokevirtual 79, 3) := by decide +kernel
theorem dL_lost_7 : decode cL_lost 7 = .ok (.lastore, 1) := by decide +kernel
theorem dL_lost_8 : decode cL_lost 8 = .ok (.goto 6, 3) := by decide +kernel
theorem dL_lost_11 : decode cL_lost 11 = .ok (.astore_n 3, 1) := by decide +kernel
theorem dL_lost_12 : decode cL_lost 12 = .ok (.iconst 1, 1) := by decide +kernel
theorem dL_lost_13 : decode cL_lost 13 = .ok (.ireturn, 1) := by decide +kernel
theorem dL_lost_14 : decode cL_lost 14 = .ok (.iconst 0, 1) := by decide +kernel
theorem dL_lost_15 : decode cL_lost 15 = .ok (.ireturn, 1) := by decide +kernel
end
section
theorem dL_law_0 : decode cL_law 0 = .ok (.new 8, 3) := by decide +kernel
theorem dL_law_3 : decode cL_law 3 = .ok (.dup, 1) := by decide +kernel
theorem dL_law_4 : decode cL_law 4 = .ok (.invokespecial 82, 3) := by decide +kernel
theorem dL_law_7 : decode cL_law 7 = .ok (.astore_n 1, 1) := by decide +kernel
theorem dL_law_8 : decode cL_law 8 = .ok (.new 83, 3) := by decide +kernel
theorem dL_law_11 : decode cL_law 11 = .ok (.dup, 1) := by decide +kernel
theorem dL_law_12 : decode cL_law 12 = .ok (.invokespecial 85, 3) := by decide +kernel
theorem dL_law_15 : decode cL_law 15 = .ok (.astore_n 2, 1) := by decide +kernel
theorem dL_law_16 : decode cL_law 16 = .ok (.iconst 1, 1) := by decide +kernel
theorem dL_law_17 : decode cL_law 17 = .ok (.newarray .long, 2) := by decide +kernel
theorem dL_law_19 : decode cL_law 19 = .ok (.astore_n 3, 1) := by decide +kernel
theorem dL_law_20 : decode cL_law 20 = .ok (.iconst 0, 1) := by decide +kernel
theorem dL_law_21 : decode cL_law 21 = .ok (.istore 4, 2) := by decide +kernel
theorem dL_law_23 : decode cL_law 23 = .ok (.iload 4, 2) := by decide +kernel
theorem dL_law_25 : decode cL_law 25 = .ok (.aload_n 0, 1) := by decide +kernel
theorem dL_law_26 : decode cL_law 26 = .ok (.arraylength, 1) := by decide +kernel
theorem dL_law_27 : decode cL_law 27 = .ok (.iconst 5, 1) := by decide +kernel
theorem dL_law_28 : decode cL_law 28 = .ok (.isub, 1) := by decide +kernel
theorem dL_law_29 : decode cL_law 29 = .ok (.if_icmp .gt 1471, 3) := by decide +kernel
theorem dL_law_32 : decode cL_law 32 = .ok (.aload_n 0, 1) := by decide +kernel
theorem dL_law_33 : decode cL_law 33 = .ok (.iload 4, 2) := by decide +kernel
theorem dL_law_35 : decode cL_law 35 = .ok (.iaload, 1) := by decide +kernel
theorem dL_law_36 : decode cL_law 36 = .ok (.bipush 31, 2) := by decide +kernel
theorem dL_law_38 : decode cL_law 38 = .ok (.iand, 1) := by decide +kernel
theorem dL_law_39 : decode cL_law 39 = .ok (.tableswitch 1455 0 23 #[109, 177, 218, 274, 342, 434, 502, 558, 614, 682, 750, 806, 874, 930, 943, 956, 1012, 1067, 1122, 1178, 1234, 1290, 1345, 1400], 109) := by decide +kernel
theorem dL_law_148 : decode cL_law 148 = .ok (.aload_n 1, 1) := by decide +kernel
theorem dL_law_149 : decode cL_law 149 = .ok (.aload_n 0, 1) := by decide +kernel
theorem dL_law_150 : decode cL_law 150 = .ok (.iload 4, 2) := by decide +kernel
theorem dL_law_152 : decode cL_law 152 = .ok (.iconst 1, 1) := by decide +kernel
theorem dL_law_153 : decode cL_law 153 = .ok (.iadd, 1) := by decide +kernel
theorem dL_law_154 : decode cL_law 154 = .ok (.iaload, 1) := by decide +kernel
theorem dL_law_155 : decode cL_law 155 = .ok (.aload_n 0, 1) := by decide +kernel
theorem dL_law_156 : decode cL_law 156 = .ok (.iload 4, 2) := by decide +kernel
theorem dL_law_158 : decode cL_law 158 = .ok (.iconst 2, 1) := by decide +kernel
theorem dL_law_159 : decode cL_law 159 = .ok (.iadd, 1) := by decide +kernel
theorem dL_law_160 : decode cL_law 160 = .ok (.iaload, 1) := by decide +kernel
theorem dL_law_161 : decode cL_law 161 = .ok (.aload_n 3, 1) := by decide +kernel
theorem dL_law_162 : decode cL_law 162 = .ok (.invokestatic 86, 3) := by decide +kernel
theorem dL_law_165 : decode cL_law 165 = .ok (.istore 5, 2) := by decide +kernel
theorem dL_law_167 : decode cL_law 167 = .ok (.aload_n 2, 1) := by decide +kernel
theorem dL_law_168 : decode cL_law 168 = .ok (.aload_n 0, 1) := by decide +kernel
theorem dL_law_169 : decode cL_law 169 = .ok (.iload 4, 2) := by decide +kernel
theorem dL_law_171 : decode cL_law 171 = .ok (.iconst 1, 1) := by decide +kernel
theorem dL_law_172 : decode cL_law 172 = .ok (.iadd, 1) := by decide +kernel
theorem dL_law_173 : decode cL_law 173 = .ok (.iaload, 1) := by decide +kernel
theorem dL_law_174 : decode cL_law 174 = .ok (.aload_n 0, 1) := by decide +kernel
theorem dL_law_175 : decode cL_law 175 = .ok (.iload 4, 2) := by decide +kernel
theorem dL_law_177 : decode cL_law 177 = .ok (.iconst 2, 1) := by decide +kernel
theorem dL_law_178 : decode cL_law 178 = .ok (.iadd, 1) := by decide +kernel
theorem dL_law_179 : decode cL_law 179 = .ok (.iaload, 1) := by decide +kernel
theorem dL_law_180 : decode cL_law 180 = .ok (.invokevirtual 91, 3) := by decide +kernel
theorem dL_law_183 : decode cL_law 183 = .ok (.istore 6, 2) := by decide +kernel
theorem dL_law_185 : decode cL_law 185 = .ok (.aload_n 2, 1) := by decide +kernel
theorem dL_law_186 : decode cL_law 186 = .ok (.invokevirtual 92, 3) := by decide +kernel
theorem dL_law_189 : decode cL_law 189 = .ok (.iload 5, 2) := by decide +kernel
theorem dL_law_191 : decode cL_law 191 = .ok (.if_icmp .eq 5, 3) := by decide +kernel
theorem dL_law_194 : decode cL_law 194 = .ok (.iconst 0, 1) := by decide +kernel
theorem dL_law_195 : decode cL_law 195 = .ok (.ireturn, 1) := by decide +kernel
theorem dL_law_196 : decode cL_law 196 = .ok (.iload 5, 2) := by decide +kernel
theorem dL_law_198 : decode cL_law 198 = .ok (.ifCond .ne 15, 3) := by decide +kernel
theorem dL_law_201 : decode cL_law 201 = .ok (.aload_n 3, 1) := by decide +kernel
theorem dL_law_202 : decode cL_law 202 = .ok (.iconst 0, 1) := by decide +kernel
theorem dL_law_203 : decode cL_law 203 = .ok (.laload, 1) := by decide +kernel
theorem dL_law_204 : decode cL_law 204 = .ok (.iload 6, 2) := by decide +kernel
theorem dL_law_206 : decode cL_law 206 = .ok (.i2l, 1) := by decide +kernel
theorem dL_law_207 : decode cL_law 207 = .ok (.lcmp, 1) := by decide +kernel
theorem dL_law_208 : decode cL_law 208 = .ok (.ifCond .eq 5, 3) := by decide +kernel
theorem dL_law_211 : decode cL_law 211 = .ok (.iconst 0, 1) := by decide +kernel
theorem dL_law_212 : decode cL_law 212 = .ok (.ireturn, 1) := by decide +kernel
theorem dL_law_213 : decode cL_law 213 = .ok (.goto 1281, 3) := by decide +kernel
theorem dL_law_216 : decode cL_law 216 = .ok (.aload_n 1, 1) := by decide +kernel
theorem dL_law_217 : decode cL_law 217 = .ok (.aload_n 0, 1) := by decide +kernel
theorem dL_law_218 : decode cL_law 218 = .ok (.iload 4, 2) := by decide +kernel
theorem dL_law_220 : decode cL_law 220 = .ok (.iconst 1, 1) := by decide +kernel
theorem dL_law_221 : decode cL_law 221 = .ok (.iadd, 1) := by decide +kernel
theorem dL_law_222 : decode cL_law 222 = .ok (.iaload, 1) := by decide +kernel
theorem dL_law_223 : decode cL_law 223 = .ok (.ifCond .eq 7, 3) := by decide +kernel
theorem dL_law_226 : decode cL_law 226 = .ok (.iconst 1, 1) := by decide +kernel
theorem dL_law_227 : decode cL_law 227 = .ok (.goto 4, 3) := by decide +kernel
theorem dL_law_230 : decode cL_law 230 = .ok (.iconst 0, 1) := by decide +kernel
theorem dL_law_231 : decode cL_law 231 = .ok (.invokevirtual 96, 3) := by decide +kernel
theorem dL_law_234 : decode cL_law 234 = .ok (.aload_n 2, 1) := by decide +kernel
theorem dL_law_235 : decode cL_law 235 = .ok (.aload_n 0, 1) := by decide +kernel
theorem dL_law_236 : decode cL_law 236 = .ok (.iload 4, 2) := by decide +kernel
theorem dL_law_238 : decode cL_law 238 = .ok (.iconst 1, 1) := by decide +kernel
theorem dL_law_239 : decode cL_law 239 = .ok (.iadd, 1) := by decide +kernel
theorem dL_law_240 : decode cL_law 240 = .ok (.iaload, 1) := by decide +kernel
theorem dL_law_241 : decode cL_law 241 = .ok (.ifCond .eq 7, 3) := by decide +kernel
theorem dL_law_244 : decode cL_law 244 = .ok (.iconst 1, 1) := by decide +kernel
theorem dL_law_245 : decode cL_law 245 = .ok (.goto 4, 3) := by decide +kernel
theorem dL_law_248 : decode cL_law 248 = .ok (.iconst 0, 1) := by decide +kernel
theorem dL_law_249 : decode cL_law 249 = .ok (.invokevirtual 100, 3) := by decide +kernel
theorem dL_law_252 : decode cL_law 252 = .ok (.if_icmp .eq 1242, 3) := by decide +kernel
theorem dL_law_255 : decode cL_law 255 = .ok (.iconst 0, 1) := by decide +kernel
theorem dL_law_256 : decode cL_law 256 = .ok (.ireturn, 1) := by decide +kernel
theorem dL_law_257 : decode cL_law 257 = .ok (.aload_n 1, 1) := by decide +kernel
theorem dL_law_258 : decode cL_law 258 = .ok (.aload_n 0, 1) := by decide +kernel
theorem dL_law_259 : decode cL_law 259 = .ok (.iload 4, 2) := by decide +kernel
theorem dL_law_261 : decode cL_law 261 = .ok (.iconst 1, 1) := by decide +kernel
theorem dL_law_262 : decode cL_law 262 = .ok (.iadd, 1) := by decide +kernel
theorem dL_law_263 : decode cL_law 263 = .ok (.iaload, 1) := by decide +kernel
theorem dL_law_264 : decode cL_law 264 = .ok (.aload_n 3, 1) := by decide +kernel
theorem dL_law_265 : decode cL_law 265 = .ok (.invokestatic 101, 3) := by decide +kernel
theorem dL_law_268 : decode cL_law 268 = .ok (.istore 5, 2) := by decide +kernel
theorem dL_law_270 : decode cL_law 270 = .ok (.aload_n 2, 1) := by decide +kernel
theorem dL_law_271 : decode cL_law 271 = .ok (.aload_n 0, 1) := by decide +kernel
theorem dL_law_272 : decode cL_law 272 = .ok (.iload 4, 2) := by decide +kernel
theorem dL_law_274 : decode cL_law 274 = .ok (.iconst 1, 1) := by decide +kernel
theorem dL_law_275 : decode cL_law 275 = .ok (.iadd, 1) := by decide +kernel
theorem dL_law_276 : decode cL_law 276 = .ok (.iaload, 1) := by decide +kernel
theorem dL_law_277 : decode cL_law 277 = .ok (.invokevirtual 104, 3) := by decide +kernel
theorem dL_law_280 : decode cL_law 280 = .ok (.istore 6, 2) := by decide +kernel
theorem dL_law_282 : decode cL_law 282 = .ok (.aload_n 2, 1) := by decide +kernel
theorem dL_law_283 : decode cL_law 283 = .ok (.invokevirtual 92, 3) := by decide +kernel
theorem dL_law_286 : decode cL_law 286 = .ok (.iload 5, 2) := by decide +kernel
theorem dL_law_288 : decode cL_law 288 = .ok (.if_icmp .eq 5, 3) := by decide +kernel
theorem dL_law_291 : decode cL_law 291 = .ok (.iconst 0, 1) := by decide +kernel
theorem dL_law_292 : decode cL_law 292 = .ok (.ireturn, 1) := by decide +kernel
theorem dL_law_293 : decode cL_law 293 = .ok (.iload 5, 2) := by decide +kernel
theorem dL_law_295 : decode cL_law 295 = .ok (.ifCond .ne 15, 3) := by decide +kernel
theorem dL_law_298 : decode cL_law 298 = .ok (.aload_n 3, 1) := by decide +kernel
theorem dL_law_299 : decode cL_law 299 = .ok (.iconst 0, 1) := by decide +kernel
theorem dL_law_300 : decode cL_law 300 = .ok (.laload, 1) := by decide +kernel
theorem dL_law_301 : decode cL_law 301 = .ok (.iload 6, 2) := by decide +kernel
theorem dL_law_303 : decode cL_law 303 = .ok (.i2l, 1) := by decide +kernel
theorem dL_law_304 : decode cL_law 304 = .ok (.lcmp, 1) := by decide +kernel
theorem dL_law_305 : decode cL_law 305 = .ok (.ifCond .eq 5, 3) := by decide +kernel
theorem dL_law_308 : decode cL_law 308 = .ok (.iconst 0, 1) := by decide +kernel
theorem dL_law_309 : decode cL_law 309 = .ok (.ireturn, 1) := by decide +kernel
theorem dL_law_310 : decode cL_law 310 = .ok (.goto 1184, 3) := by decide +kernel
theorem dL_law_313 : decode cL_law 313 = .ok (.aload_n 1, 1) := by decide +kernel
theorem dL_law_314 : decode cL_law 314 = .ok (.aload_n 0, 1) := by decide +kernel
theorem dL_law_315 : decode cL_law 315 = .ok (.iload 4, 2) := by decide +kernel
theorem dL_law_317 : decode cL_law 317 = .ok (.iconst 1, 1) := by decide +kernel
theorem dL_law_318 : decode cL_law 318 = .ok (.iadd, 1) := by decide +kernel
theorem dL_law_319 : decode cL_law 319 = .ok (.iaload, 1) := by decide +kernel
theorem dL_law_320 : decode cL_law 320 = .ok (.aload_n 0, 1) := by decide +kernel
theorem dL_law_321 : decode cL_law 321 = .ok (.iload 4, 2) := by decide +kernel
theorem dL_law_323 : decode cL_law 323 = .ok (.iconst 2, 1) := by decide +kernel
theorem dL_law_324 : decode cL_law 324 = .ok (.iadd, 1) := by decide +kernel
theorem dL_law_325 : decode cL_law 325 = .ok (.iaload, 1) := by decide +kernel
theorem dL_law_326 : decode cL_law 326 = .ok (.aload_n 3, 1) := by decide +kernel
theorem dL_law_327 : decode cL_law 327 = .ok (.invokestatic 105, 3) := by decide +kernel
theorem dL_law_330 : decode cL_law 330 = .ok (.istore 5, 2) := by decide +kernel
theorem dL_law_332 : decode cL_law 332 = .ok (.aload_n 2, 1) := by decide +kernel
theorem dL_law_333 : decode cL_law 333 = .ok (.aload_n 0, 1) := by decide +kernel
theorem dL_law_334 : decode cL_law 334 = .ok (.iload 4, 2) := by decide +kernel
theorem dL_law_336 : decode cL_law 336 = .ok (.iconst 1, 1) := by decide +kernel
theorem dL_law_337 : decode cL_law 337 = .ok (.iadd, 1) := by decide +kernel
theorem dL_law_338 : decode cL_law 338 = .ok (.iaload, 1) := by decide +kernel
theorem dL_law_339 : decode cL_law 339 = .ok (.aload_n 0, 1) := by decide +kernel
theorem dL_law_340 : decode cL_law 340 = .ok (.iload 4, 2) := by decide +kernel
theorem dL_law_342 : decode cL_law 342 = .ok (.iconst 2, 1) := by decide +kernel
theorem dL_law_343 : decode cL_law 343 = .ok (.iadd, 1) := by decide +kernel
theorem dL_law_344 : decode cL_law 344 = .ok (.iaload, 1) := by decide +kernel
theorem dL_law_345 : decode cL_law 345 = .ok (.invokevirtual 107, 3) := by decide +kernel
theorem dL_law_348 : decode cL_law 348 = .ok (.istore 6, 2) := by decide +kernel
theorem dL_law_350 : decode cL_law 350 = .ok (.aload_n 2, 1) := by decide +kernel
theorem dL_law_351 : decode cL_law 351 = .ok (.invokevirtual 92, 3) := by decide +kernel
theorem dL_law_354 : decode cL_law 354 = .ok (.iload 5, 2) := by decide +kernel
theorem dL_law_356 : decode cL_law 356 = .ok (.if_icmp .eq 5, 3) := by decide +kernel
theorem dL_law_359 : decode cL_law 359 = .ok (.iconst 0, 1) := by decide +kernel
theorem dL_law_360 : decode cL_law 360 = .ok (.ireturn, 1) := by decide +kernel
theorem dL_law_361 : decode cL_law 361 = .ok (.iload 5, 2) := by decide +kernel
theorem dL_law_363 : decode cL_law 363 = .ok (.ifCond .ne 15, 3) := by decide +kernel
theorem dL_law_366 : decode cL_law 366 = .ok (.aload_n 3, 1) := by decide +kernel
theorem dL_law_367 : decode cL_law 367 = .ok (.iconst 0, 1) := by decide +kernel
theorem dL_law_368 : decode cL_law 368 = .ok (.laload, 1) := by decide +kernel
theorem dL_law_369 : decode cL_law 369 = .ok (.iload 6, 2) := by decide +kernel
theorem dL_law_371 : decode cL_law 371 = .ok (.i2l, 1) := by decide +kernel
theorem dL_law_372 : decode cL_law 372 = .ok (.lcmp, 1) := by decide +kernel
theorem dL_law_373 : decode cL_law 373 = .ok (.ifCond .eq 5, 3) := by decide +kernel
theorem dL_law_376 : decode cL_law 376 = .ok (.iconst 0, 1) := by decide +kernel
theorem dL_law_377 : decode cL_law 377 = .ok (.ireturn, 1) := by decide +kernel
theorem dL_law_378 : decode cL_law 378 = .ok (.goto 1116, 3) := by decide +kernel
theorem dL_law_381 : decode cL_law 381 = .ok (.aload_n 1, 1) := by decide +kernel
theorem dL_law_382 : decode cL_law 382 = .ok (.aload_n 0, 1) := by decide +kernel
theorem dL_law_383 : decode cL_law 383 = .ok (.iload 4, 2) := by decide +kernel
theorem dL_law_385 : decode cL_law 385 = .ok (.iconst 1, 1) := by decide +kernel
theorem dL_law_386 : decode cL_law 386 = .ok (.iadd, 1) := by decide +kernel
theorem dL_law_387 : decode cL_law 387 = .ok (.iaload, 1) := by decide +kernel
theorem dL_law_388 : decode cL_law 388 = .ok (.aload_n 0, 1) := by decide +kernel
theorem dL_law_389 : decode cL_law 389 = .ok (.iload 4, 2) := by decide +kernel
theorem dL_law_391 : decode cL_law 391 = .ok (.iconst 2, 1) := by decide +kernel
theorem dL_law_392 : decode cL_law 392 = .ok (.iadd, 1) := by decide +kernel
theorem dL_law_393 : decode cL_law 393 = .ok (.iaload, 1) := by decide +kernel
theorem dL_law_394 : decode cL_law 394 = .ok (.aload_n 0, 1) := by decide +kernel
theorem dL_law_395 : decode cL_law 395 = .ok (.iload 4, 2) := by decide +kernel
theorem dL_law_397 : decode cL_law 397 = .ok (.iconst 3, 1) := by decide +kernel
theorem dL_law_398 : decode cL_law 398 = .ok (.iadd, 1) := by decide +kernel
theorem dL_law_399 : decode cL_law 399 = .ok (.iaload, 1) := by decide +kernel
theorem dL_law_400 : decode cL_law 400 = .ok (.aload_n 0, 1) := by decide +kernel
theorem dL_law_401 : decode cL_law 401 = .ok (.iload 4, 2) := by decide +kernel
theorem dL_law_403 : decode cL_law 403 = .ok (.iconst 4, 1) := by decide +kernel
theorem dL_law_404 : decode cL_law 404 = .ok (.iadd, 1) := by decide +kernel
theorem dL_law_405 : decode cL_law 405 = .ok (.iaload, 1) := by decide +kernel
theorem dL_law_406 : decode cL_law 406 = .ok (.aload_n 3, 1) := by decide +kernel
theorem dL_law_407 : decode cL_law 407 = .ok (.invokestatic 108, 3) := by decide +kernel
theorem dL_law_410 : decode cL_law 410 = .ok (.istore 5, 2) := by decide +kernel
theorem dL_law_412 : decode cL_law 412 = .ok (.aload_n 2, 1) := by decide +kernel
theorem dL_law_413 : decode cL_law 413 = .ok (.aload_n 0, 1) := by decide +kernel
theorem dL_law_414 : decode cL_law 414 = .ok (.iload 4, 2) := by decide +kernel
theorem dL_law_416 : decode cL_law 416 = .ok (.iconst 1, 1) := by decide +kernel
theorem dL_law_417 : decode cL_law 417 = .ok (.iadd, 1) := by decide +kernel
theorem dL_law_418 : decode cL_law 418 = .ok (.iaload, 1) := by decide +kernel
theorem dL_law_419 : decode cL_law 419 = .ok (.aload_n 0, 1) := by decide +kernel
theorem dL_law_420 : decode cL_law 420 = .ok (.iload 4, 2) := by decide +kernel
theorem dL_law_422 : decode cL_law 422 = .ok (.iconst 2, 1) := by decide +kernel
theorem dL_law_423 : decode cL_law 423 = .ok (.iadd, 1) := by decide +kernel
theorem dL_law_424 : decode cL_law 424 = .ok (.iaload, 1) := by decide +kernel
theorem dL_law_425 : decode cL_law 425 = .ok (.aload_n 0, 1) := by decide +kernel
theorem dL_law_426 : decode cL_law 426 = .ok (.iload 4, 2) := by decide +kernel
theorem dL_law_428 : decode cL_law 428 = .ok (.iconst 3, 1) := by decide +kernel
theorem dL_law_429 : decode cL_law 429 = .ok (.iadd, 1) := by decide +kernel
theorem dL_law_430 : decode cL_law 430 = .ok (.iaload, 1) := by decide +kernel
theorem dL_law_431 : decode cL_law 431 = .ok (.aload_n 0, 1) := by decide +kernel
theorem dL_law_432 : decode cL_law 432 = .ok (.iload 4, 2) := by decide +kernel
theorem dL_law_434 : decode cL_law 434 = .ok (.iconst 4, 1) := by decide +kernel
theorem dL_law_435 : decode cL_law 435 = .ok (.iadd, 1) := by decide +kernel
theorem dL_law_436 : decode cL_law 436 = .ok (.iaload, 1) := by decide +kernel
theorem dL_law_437 : decode cL_law 437 = .ok (.invokevirtual 111, 3) := by decide +kernel
theorem dL_law_440 : decode cL_law 440 = .ok (.istore 6, 2) := by decide +kernel
theorem dL_law_442 : decode cL_law 442 = .ok (.aload_n 2, 1) := by decide +kernel
theorem dL_law_443 : decode cL_law 443 = .ok (.invokevirtual 92, 3) := by decide +kernel
theorem dL_law_446 : decode cL_law 446 = .ok (.iload 5, 2) := by decide +kernel
theorem dL_law_448 : decode cL_law 448 = .ok (.if_icmp .eq 5, 3) := by decide +kernel
theorem dL_law_451 : decode cL_law 451 = .ok (.iconst 0, 1) := by decide +kernel
theorem dL_law_452 : decode cL_law 452 = .ok (.ireturn, 1) := by decide +kernel
theorem dL_law_453 : decode cL_law 453 = .ok (.iload 5, 2) := by decide +kernel
theorem dL_law_455 : decode cL_law 455 = .ok (.ifCond .ne 15, 3) := by decide +kernel
theorem dL_law_458 : decode cL_law 458 = .ok (.aload_n 3, 1) := by decide +kernel
theorem dL_law_459 : decode cL_law 459 = .ok (.iconst 0, 1) := by decide +kernel
theorem dL_law_460 : decode cL_law 460 = .ok (.laload, 1) := by decide +kernel
theorem dL_law_461 : decode cL_law 461 = .ok (.iload 6, 2) := by decide +kernel
theorem dL_law_463 : decode cL_law 463 = .ok (.i2l, 1) := by decide +kernel
theorem dL_law_464 : decode cL_law 464 = .ok (.lcmp, 1) := by decide +kernel
theorem dL_law_465 : decode cL_law 465 = .ok (.ifCond .eq 5, 3) := by decide +kernel
theorem dL_law_468 : decode cL_law 468 = .ok (.iconst 0, 1) := by decide +kernel
theorem dL_law_469 : decode cL_law 469 = .ok (.ireturn, 1) := by decide +kernel
theorem dL_law_470 : decode cL_law 470 = .ok (.goto 1024, 3) := by decide +kernel
theorem dL_law_473 : decode cL_law 473 = .ok (.aload_n 1, 1) := by decide +kernel
theorem dL_law_474 : decode cL_law 474 = .ok (.aload_n 0, 1) := by decide +kernel
theorem dL_law_475 : decode cL_law 475 = .ok (.iload 4, 2) := by decide +kernel
theorem dL_law_477 : decode cL_law 477 = .ok (.iconst 1, 1) := by decide +kernel
theorem dL_law_478 : decode cL_law 478 = .ok (.iadd, 1) := by decide +kernel
theorem dL_law_479 : decode cL_law 479 = .ok (.iaload, 1) := by decide +kernel
theorem dL_law_480 : decode cL_law 480 = .ok (.aload_n 0, 1) := by decide +kernel
theorem dL_law_481 : decode cL_law 481 = .ok (.iload 4, 2) := by decide +kernel
theorem dL_law_483 : decode cL_law 483 = .ok (.iconst 2, 1) := by decide +kernel
theorem dL_law_484 : decode cL_law 484 = .ok (.iadd, 1) := by decide +kernel
theorem dL_law_485 : decode cL_law 485 = .ok (.iaload, 1) := by decide +kernel
theorem dL_law_486 : decode cL_law 486 = .ok (.aload_n 3, 1) := by decide +kernel
theorem dL_law_487 : decode cL_law 487 = .ok (.invokestatic 112, 3) := by decide +kernel
theorem dL_law_490 : decode cL_law 490 = .ok (.istore 5, 2) := by decide +kernel
theorem dL_law_492 : decode cL_law 492 = .ok (.aload_n 2, 1) := by decide +kernel
theorem dL_law_493 : decode cL_law 493 = .ok (.aload_n 0, 1) := by decide +kernel
theorem dL_law_494 : decode cL_law 494 = .ok (.iload 4, 2) := by decide +kernel
theorem dL_law_496 : decode cL_law 496 = .ok (.iconst 1, 1) := by decide +kernel
theorem dL_law_497 : decode cL_law 497 = .ok (.iadd, 1) := by decide +kernel
theorem dL_law_498 : decode cL_law 498 = .ok (.iaload, 1) := by decide +kernel
theorem dL_law_499 : decode cL_law 499 = .ok (.aload_n 0, 1) := by decide +kernel
theorem dL_law_500 : decode cL_law 500 = .ok (.iload 4, 2) := by decide +kernel
theorem dL_law_502 : decode cL_law 502 = .ok (.iconst 2, 1) := by decide +kernel
theorem dL_law_503 : decode cL_law 503 = .ok (.iadd, 1) := by decide +kernel
theorem dL_law_504 : decode cL_law 504 = .ok (.iaload, 1) := by decide +kernel
theorem dL_law_505 : decode cL_law 505 = .ok (.invokevirtual 114, 3) := by decide +kernel
theorem dL_law_508 : decode cL_law 508 = .ok (.istore 6, 2) := by decide +kernel
theorem dL_law_510 : decode cL_law 510 = .ok (.aload_n 2, 1) := by decide +kernel
theorem dL_law_511 : decode cL_law 511 = .ok (.invokevirtual 92, 3) := by decide +kernel
theorem dL_law_514 : decode cL_law 514 = .ok (.iload 5, 2) := by decide +kernel
theorem dL_law_516 : decode cL_law 516 = .ok (.if_icmp .eq 5, 3) := by decide +kernel
theorem dL_law_519 : decode cL_law 519 = .ok (.iconst 0, 1) := by decide +kernel
theorem dL_law_520 : decode cL_law 520 = .ok (.ireturn, 1) := by decide +kernel
theorem dL_law_521 : decode cL_law 521 = .ok (.iload 5, 2) := by decide +kernel
theorem dL_law_523 : decode cL_law 523 = .ok (.ifCond .ne 15, 3) := by decide +kernel
theorem dL_law_526 : decode cL_law 526 = .ok (.aload_n 3, 1) := by decide +kernel
theorem dL_law_527 : decode cL_law 527 = .ok (.iconst 0, 1) := by decide +kernel
theorem dL_law_528 : decode cL_law 528 = .ok (.laload, 1) := by decide +kernel
theorem dL_law_529 : decode cL_law 529 = .ok (.iload 6, 2) := by decide +kernel
theorem dL_law_531 : decode cL_law 531 = .ok (.i2l, 1) := by decide +kernel
theorem dL_law_532 : decode cL_law 532 = .ok (.lcmp, 1) := by decide +kernel
theorem dL_law_533 : decode cL_law 533 = .ok (.ifCond .eq 5, 3) := by decide +kernel
theorem dL_law_536 : decode cL_law 536 = .ok (.iconst 0, 1) := by decide +kernel
theorem dL_law_537 : decode cL_law 537 = .ok (.ireturn, 1) := by decide +kernel
theorem dL_law_538 : decode cL_law 538 = .ok (.goto 956, 3) := by decide +kernel
theorem dL_law_541 : decode cL_law 541 = .ok (.aload_n 1, 1) := by decide +kernel
theorem dL_law_542 : decode cL_law 542 = .ok (.aload_n 0, 1) := by decide +kernel
theorem dL_law_543 : decode cL_law 543 = .ok (.iload 4, 2) := by decide +kernel
theorem dL_law_545 : decode cL_law 545 = .ok (.iconst 1, 1) := by decide +kernel
theorem dL_law_546 : decode cL_law 546 = .ok (.iadd, 1) := by decide +kernel
theorem dL_law_547 : decode cL_law 547 = .ok (.iaload, 1) := by decide +kernel
theorem dL_law_548 : decode cL_law 548 = .ok (.aload_n 3, 1) := by decide +kernel
theorem dL_law_549 : decode cL_law 549 = .ok (.invokestatic 115, 3) := by decide +kernel
theorem dL_law_552 : decode cL_law 552 = .ok (.istore 5, 2) := by decide +kernel
theorem dL_law_554 : decode cL_law 554 = .ok (.aload_n 2, 1) := by decide +kernel
theorem dL_law_555 : decode cL_law 555 = .ok (.aload_n 0, 1) := by decide +kernel
theorem dL_law_556 : decode cL_law 556 = .ok (.iload 4, 2) := by decide +kernel
theorem dL_law_558 : decode cL_law 558 = .ok (.iconst 1, 1) := by decide +kernel
theorem dL_law_559 : decode cL_law 559 = .ok (.iadd, 1) := by decide +kernel
theorem dL_law_560 : decode cL_law 560 = .ok (.iaload, 1) := by decide +kernel
theorem dL_law_561 : decode cL_law 561 = .ok (.invokevirtual 117, 3) := by decide +kernel
theorem dL_law_564 : decode cL_law 564 = .ok (.istore 6, 2) := by decide +kernel
theorem dL_law_566 : decode cL_law 566 = .ok (.aload_n 2, 1) := by decide +kernel
theorem dL_law_567 : decode cL_law 567 = .ok (.invokevirtual 92, 3) := by decide +kernel
theorem dL_law_570 : decode cL_law 570 = .ok (.iload 5, 2) := by decide +kernel
theorem dL_law_572 : decode cL_law 572 = .ok (.if_icmp .eq 5, 3) := by decide +kernel
theorem dL_law_575 : decode cL_law 575 = .ok (.iconst 0, 1) := by decide +kernel
theorem dL_law_576 : decode cL_law 576 = .ok (.ireturn, 1) := by decide +kernel
theorem dL_law_577 : decode cL_law 577 = .ok (.iload 5, 2) := by decide +kernel
theorem dL_law_579 : decode cL_law 579 = .ok (.ifCond .ne 15, 3) := by decide +kernel
theorem dL_law_582 : decode cL_law 582 = .ok (.aload_n 3, 1) := by decide +kernel
theorem dL_law_583 : decode cL_law 583 = .ok (.iconst 0, 1) := by decide +kernel
theorem dL_law_584 : decode cL_law 584 = .ok (.laload, 1) := by decide +kernel
theorem dL_law_585 : decode cL_law 585 = .ok (.iload 6, 2) := by decide +kernel
theorem dL_law_587 : decode cL_law 587 = .ok (.i2l, 1) := by decide +kernel
theorem dL_law_588 : decode cL_law 588 = .ok (.lcmp, 1) := by decide +kernel
theorem dL_law_589 : decode cL_law 589 = .ok (.ifCond .eq 5, 3) := by decide +kernel
theorem dL_law_592 : decode cL_law 592 = .ok (.iconst 0, 1) := by decide +kernel
theorem dL_law_593 : decode cL_law 593 = .ok (.ireturn, 1) := by decide +kernel
theorem dL_law_594 : decode cL_law 594 = .ok (.goto 900, 3) := by decide +kernel
theorem dL_law_597 : decode cL_law 597 = .ok (.aload_n 1, 1) := by decide +kernel
theorem dL_law_598 : decode cL_law 598 = .ok (.aload_n 0, 1) := by decide +kernel
theorem dL_law_599 : decode cL_law 599 = .ok (.iload 4, 2) := by decide +kernel
theorem dL_law_601 : decode cL_law 601 = .ok (.iconst 1, 1) := by decide +kernel
theorem dL_law_602 : decode cL_law 602 = .ok (.iadd, 1) := by decide +kernel
theorem dL_law_603 : decode cL_law 603 = .ok (.iaload, 1) := by decide +kernel
theorem dL_law_604 : decode cL_law 604 = .ok (.aload_n 3, 1) := by decide +kernel
theorem dL_law_605 : decode cL_law 605 = .ok (.invokestatic 118, 3) := by decide +kernel
theorem dL_law_608 : decode cL_law 608 = .ok (.istore 5, 2) := by decide +kernel
theorem dL_law_610 : decode cL_law 610 = .ok (.aload_n 2, 1) := by decide +kernel
theorem dL_law_611 : decode cL_law 611 = .ok (.aload_n 0, 1) := by decide +kernel
theorem dL_law_612 : decode cL_law 612 = .ok (.iload 4, 2) := by decide +kernel
theorem dL_law_614 : decode cL_law 614 = .ok (.iconst 1, 1) := by decide +kernel
theorem dL_law_615 : decode cL_law 615 = .ok (.iadd, 1) := by decide +kernel
theorem dL_law_616 : decode cL_law 616 = .ok (.iaload, 1) := by decide +kernel
theorem dL_law_617 : decode cL_law 617 = .ok (.invokevirtual 120, 3) := by decide +kernel
theorem dL_law_620 : decode cL_law 620 = .ok (.istore 6, 2) := by decide +kernel
theorem dL_law_622 : decode cL_law 622 = .ok (.aload_n 2, 1) := by decide +kernel
theorem dL_law_623 : decode cL_law 623 = .ok (.invokevirtual 92, 3) := by decide +kernel
theorem dL_law_626 : decode cL_law 626 = .ok (.iload 5, 2) := by decide +kernel
theorem dL_law_628 : decode cL_law 628 = .ok (.if_icmp .eq 5, 3) := by decide +kernel
theorem dL_law_631 : decode cL_law 631 = .ok (.iconst 0, 1) := by decide +kernel
theorem dL_law_632 : decode cL_law 632 = .ok (.ireturn, 1) := by decide +kernel
theorem dL_law_633 : decode cL_law 633 = .ok (.iload 5, 2) := by decide +kernel
theorem dL_law_635 : decode cL_law 635 = .ok (.ifCond .ne 15, 3) := by decide +kernel
theorem dL_law_638 : decode cL_law 638 = .ok (.aload_n 3, 1) := by decide +kernel
theorem dL_law_639 : decode cL_law 639 = .ok (.iconst 0, 1) := by decide +kernel
theorem dL_law_640 : decode cL_law 640 = .ok (.laload, 1) := by decide +kernel
theorem dL_law_641 : decode cL_law 641 = .ok (.iload 6, 2) := by decide +kernel
theorem dL_law_643 : decode cL_law 643 = .ok (.i2l, 1) := by decide +kernel
theorem dL_law_644 : decode cL_law 644 = .ok (.lcmp, 1) := by decide +kernel
theorem dL_law_645 : decode cL_law 645 = .ok (.ifCond .eq 5, 3) := by decide +kernel
theorem dL_law_648 : decode cL_law 648 = .ok (.iconst 0, 1) := by decide +kernel
theorem dL_law_649 : decode cL_law 649 = .ok (.ireturn, 1) := by decide +kernel
theorem dL_law_650 : decode cL_law 650 = .ok (.goto 844, 3) := by decide +kernel
theorem dL_law_653 : decode cL_law 653 = .ok (.aload_n 1, 1) := by decide +kernel
theorem dL_law_654 : decode cL_law 654 = .ok (.aload_n 0, 1) := by decide +kernel
theorem dL_law_655 : decode cL_law 655 = .ok (.iload 4, 2) := by decide +kernel
theorem dL_law_657 : decode cL_law 657 = .ok (.iconst 1, 1) := by decide +kernel
theorem dL_law_658 : decode cL_law 658 = .ok (.iadd, 1) := by decide +kernel
theorem dL_law_659 : decode cL_law 659 = .ok (.iaload, 1) := by decide +kernel
theorem dL_law_660 : decode cL_law 660 = .ok (.aload_n 0, 1) := by decide +kernel
theorem dL_law_661 : decode cL_law 661 = .ok (.iload 4, 2) := by decide +kernel
theorem dL_law_663 : decode cL_law 663 = .ok (.iconst 2, 1) := by decide +kernel
theorem dL_law_664 : decode cL_law 664 = .ok (.iadd, 1) := by decide +kernel
theorem dL_law_665 : decode cL_law 665 = .ok (.iaload, 1) := by decide +kernel
theorem dL_law_666 : decode cL_law 666 = .ok (.aload_n 3, 1) := by decide +kernel
theorem dL_law_667 : decode cL_law 667 = .ok (.invokestatic 121, 3) := by decide +kernel
theorem dL_law_670 : decode cL_law 670 = .ok (.istore 5, 2) := by decide +kernel
theorem dL_law_672 : decode cL_law 672 = .ok (.aload_n 2, 1) := by decide +kernel
theorem dL_law_673 : decode cL_law 673 = .ok (.aload_n 0, 1) := by decide +kernel
theorem dL_law_674 : decode cL_law 674 = .ok (.iload 4, 2) := by decide +kernel
theorem dL_law_676 : decode cL_law 676 = .ok (.iconst 1, 1) := by decide +kernel
theorem dL_law_677 : decode cL_law 677 = .ok (.iadd, 1) := by decide +kernel
theorem dL_law_678 : decode cL_law 678 = .ok (.iaload, 1) := by decide +kernel
theorem dL_law_679 : decode cL_law 679 = .ok (.aload_n 0, 1) := by decide +kernel
theorem dL_law_680 : decode cL_law 680 = .ok (.iload 4, 2) := by decide +kernel
theorem dL_law_682 : decode cL_law 682 = .ok (.iconst 2, 1) := by decide +kernel
theorem dL_law_683 : decode cL_law 683 = .ok (.iadd, 1) := by decide +kernel
theorem dL_law_684 : decode cL_law 684 = .ok (.iaload, 1) := by decide +kernel
theorem dL_law_685 : decode cL_law 685 = .ok (.invokevirtual 123, 3) := by decide +kernel
theorem dL_law_688 : decode cL_law 688 = .ok (.istore 6, 2) := by decide +kernel
theorem dL_law_690 : decode cL_law 690 = .ok (.aload_n 2, 1) := by decide +kernel
theorem dL_law_691 : decode cL_law 691 = .ok (.invokevirtual 92, 3) := by decide +kernel
theorem dL_law_694 : decode cL_law 694 = .ok (.iload 5, 2) := by decide +kernel
theorem dL_law_696 : decode cL_law 696 = .ok (.if_icmp .eq 5, 3) := by decide +kernel
theorem dL_law_699 : decode cL_law 699 = .ok (.iconst 0, 1) := by decide +kernel
theorem dL_law_700 : decode cL_law 700 = .ok (.ireturn, 1) := by decide +kernel
theorem dL_law_701 : decode cL_law 701 = .ok (.iload 5, 2) := by decide +kernel
theorem dL_law_703 : decode cL_law 703 = .ok (.ifCond .ne 15, 3) := by decide +kernel
theorem dL_law_706 : decode cL_law 706 = .ok (.aload_n 3, 1) := by decide +kernel
theorem dL_law_707 : decode cL_law 707 = .ok (.iconst 0, 1) := by decide +kernel
theorem dL_law_708 : decode cL_law 708 = .ok (.laload, 1) := by decide +kernel
theorem dL_law_709 : decode cL_law 709 = .ok (.iload 6, 2) := by decide +kernel
theorem dL_law_711 : decode cL_law 711 = .ok (.i2l, 1) := by decide +kernel
theorem dL_law_712 : decode cL_law 712 = .ok (.lcmp, 1) := by decide +kernel
theorem dL_law_713 : decode cL_law 713 = .ok (.ifCond .eq 5, 3) := by decide +kernel
theorem dL_law_716 : decode cL_law 716 = .ok (.iconst 0, 1) := by decide +kernel
theorem dL_law_717 : decode cL_law 717 = .ok (.ireturn, 1) := by decide +kernel
theorem dL_law_718 : decode cL_law 718 = .ok (.goto 776, 3) := by decide +kernel
theorem dL_law_721 : decode cL_law 721 = .ok (.aload_n 1, 1) := by decide +kernel
theorem dL_law_722 : decode cL_law 722 = .ok (.aload_n 0, 1) := by decide +kernel
theorem dL_law_723 : decode cL_law 723 = .ok (.iload 4, 2) := by decide +kernel
theorem dL_law_725 : decode cL_law 725 = .ok (.iconst 1, 1) := by decide +kernel
theorem dL_law_726 : decode cL_law 726 = .ok (.iadd, 1) := by decide +kernel
theorem dL_law_727 : decode cL_law 727 = .ok (.iaload, 1) := by decide +kernel
theorem dL_law_728 : decode cL_law 728 = .ok (.aload_n 0, 1) := by decide +kernel
theorem dL_law_729 : decode cL_law 729 = .ok (.iload 4, 2) := by decide +kernel
theorem dL_law_731 : decode cL_law 731 = .ok (.iconst 2, 1) := by decide +kernel
theorem dL_law_732 : decode cL_law 732 = .ok (.iadd, 1) := by decide +kernel
theorem dL_law_733 : decode cL_law 733 = .ok (.iaload, 1) := by decide +kernel
theorem dL_law_734 : decode cL_law 734 = .ok (.aload_n 3, 1) := by decide +kernel
theorem dL_law_735 : decode cL_law 735 = .ok (.invokestatic 124, 3) := by decide +kernel
theorem dL_law_738 : decode cL_law 738 = .ok (.istore 5, 2) := by decide +kernel
theorem dL_law_740 : decode cL_law 740 = .ok (.aload_n 2, 1) := by decide +kernel
theorem dL_law_741 : decode cL_law 741 = .ok (.aload_n 0, 1) := by decide +kernel
theorem dL_law_742 : decode cL_law 742 = .ok (.iload 4, 2) := by decide +kernel
theorem dL_law_744 : decode cL_law 744 = .ok (.iconst 1, 1) := by decide +kernel
theorem dL_law_745 : decode cL_law 745 = .ok (.iadd, 1) := by decide +kernel
theorem dL_law_746 : decode cL_law 746 = .ok (.iaload, 1) := by decide +kernel
theorem dL_law_747 : decode cL_law 747 = .ok (.aload_n 0, 1) := by decide +kernel
theorem dL_law_748 : decode cL_law 748 = .ok (.iload 4, 2) := by decide +kernel
theorem dL_law_750 : decode cL_law 750 = .ok (.iconst 2, 1) := by decide +kernel
theorem dL_law_751 : decode cL_law 751 = .ok (.iadd, 1) := by decide +kernel
theorem dL_law_752 : decode cL_law 752 = .ok (.iaload, 1) := by decide +kernel
theorem dL_law_753 : decode cL_law 753 = .ok (.invokevirtual 126, 3) := by decide +kernel
theorem dL_law_756 : decode cL_law 756 = .ok (.istore 6, 2) := by decide +kernel
theorem dL_law_758 : decode cL_law 758 = .ok (.aload_n 2, 1) := by decide +kernel
theorem dL_law_759 : decode cL_law 759 = .ok (.invokevirtual 92, 3) := by decide +kernel
theorem dL_law_762 : decode cL_law 762 = .ok (.iload 5, 2) := by decide +kernel
theorem dL_law_764 : decode cL_law 764 = .ok (.if_icmp .eq 5, 3) := by decide +kernel
theorem dL_law_767 : decode cL_law 767 = .ok (.iconst 0, 1) := by decide +kernel
theorem dL_law_768 : decode cL_law 768 = .ok (.ireturn, 1) := by decide +kernel
theorem dL_law_769 : decode cL_law 769 = .ok (.iload 5, 2) := by decide +kernel
theorem dL_law_771 : decode cL_law 771 = .ok (.ifCond .ne 15, 3) := by decide +kernel
theorem dL_law_774 : decode cL_law 774 = .ok (.aload_n 3, 1) := by decide +kernel
theorem dL_law_775 : decode cL_law 775 = .ok (.iconst 0, 1) := by decide +kernel
theorem dL_law_776 : decode cL_law 776 = .ok (.laload, 1) := by decide +kernel
theorem dL_law_777 : decode cL_law 777 = .ok (.iload 6, 2) := by decide +kernel
theorem dL_law_779 : decode cL_law 779 = .ok (.i2l, 1) := by decide +kernel
theorem dL_law_780 : decode cL_law 780 = .ok (.lcmp, 1) := by decide +kernel
theorem dL_law_781 : decode cL_law 781 = .ok (.ifCond .eq 5, 3) := by decide +kernel
theorem dL_law_784 : decode cL_law 784 = .ok (.iconst 0, 1) := by decide +kernel
theorem dL_law_785 : decode cL_law 785 = .ok (.ireturn, 1) := by decide +kernel
theorem dL_law_786 : decode cL_law 786 = .ok (.goto 708, 3) := by decide +kernel
theorem dL_law_789 : decode cL_law 789 = .ok (.aload_n 1, 1) := by decide +kernel
theorem dL_law_790 : decode cL_law 790 = .ok (.aload_n 0, 1) := by decide +kernel
theorem dL_law_791 : decode cL_law 791 = .ok (.iload 4, 2) := by decide +kernel
theorem dL_law_793 : decode cL_law 793 = .ok (.iconst 1, 1) := by decide +kernel
theorem dL_law_794 : decode cL_law 794 = .ok (.iadd, 1) := by decide +kernel
theorem dL_law_795 : decode cL_law 795 = .ok (.iaload, 1) := by decide +kernel
theorem dL_law_796 : decode cL_law 796 = .ok (.aload_n 3, 1) := by decide +kernel
theorem dL_law_797 : decode cL_law 797 = .ok (.invokestatic 127, 3) := by decide +kernel
theorem dL_law_800 : decode cL_law 800 = .ok (.istore 5, 2) := by decide +kernel
theorem dL_law_802 : decode cL_law 802 = .ok (.aload_n 2, 1) := by decide +kernel
theorem dL_law_803 : decode cL_law 803 = .ok (.aload_n 0, 1) := by decide +kernel
theorem dL_law_804 : decode cL_law 804 = .ok (.iload 4, 2) := by decide +kernel
theorem dL_law_806 : decode cL_law 806 = .ok (.iconst 1, 1) := by decide +kernel
theorem dL_law_807 : decode cL_law 807 = .ok (.iadd, 1) := by decide +kernel
theorem dL_law_808 : decode cL_law 808 = .ok (.iaload, 1) := by decide +kernel
theorem dL_law_809 : decode cL_law 809 = .ok (.invokevirtual 129, 3) := by decide +kernel
theorem dL_law_812 : decode cL_law 812 = .ok (.istore 6, 2) := by decide +kernel
theorem dL_law_814 : decode cL_law 814 = .ok (.aload_n 2, 1) := by decide +kernel
theorem dL_law_815 : decode cL_law 815 = .ok (.invokevirtual 92, 3) := by decide +kernel
theorem dL_law_818 : decode cL_law 818 = .ok (.iload 5, 2) := by decide +kernel
theorem dL_law_820 : decode cL_law 820 = .ok (.if_icmp .eq 5, 3) := by decide +kernel
theorem dL_law_823 : decode cL_law 823 = .ok (.iconst 0, 1) := by decide +kernel
theorem dL_law_824 : decode cL_law 824 = .ok (.ireturn, 1) := by decide +kernel
theorem dL_law_825 : decode cL_law 825 = .ok (.iload 5, 2) := by decide +kernel
theorem dL_law_827 : decode cL_law 827 = .ok (.ifCond .ne 15, 3) := by decide +kernel
theorem dL_law_830 : decode cL_law 830 = .ok (.aload_n 3, 1) := by decide +kernel
theorem dL_law_831 : decode cL_law 831 = .ok (.iconst 0, 1) := by decide +kernel
theorem dL_law_832 : decode cL_law 832 = .ok (.laload, 1) := by decide +kernel
theorem dL_law_833 : decode cL_law 833 = .ok (.iload 6, 2) := by decide +kernel
theorem dL_law_835 : decode cL_law 835 = .ok (.i2l, 1) := by decide +kernel
theorem dL_law_836 : decode cL_law 836 = .ok (.lcmp, 1) := by decide +kernel
theorem dL_law_837 : decode cL_law 837 = .ok (.ifCond .eq 5, 3) := by decide +kernel
theorem dL_law_840 : decode cL_law 840 = .ok (.iconst 0, 1) := by decide +kernel
theorem dL_law_841 : decode cL_law 841 = .ok (.ireturn, 1) := by decide +kernel
theorem dL_law_842 : decode cL_law 842 = .ok (.goto 652, 3) := by decide +kernel
theorem dL_law_845 : decode cL_law 845 = .ok (.aload_n 1, 1) := by decide +kernel
theorem dL_law_846 : decode cL_law 846 = .ok (.aload_n 0, 1) := by decide +kernel
theorem dL_law_847 : decode cL_law 847 = .ok (.iload 4, 2) := by decide +kernel
theorem dL_law_849 : decode cL_law 849 = .ok (.iconst 1, 1) := by decide +kernel
theorem dL_law_850 : decode cL_law 850 = .ok (.iadd, 1) := by decide +kernel
theorem dL_law_851 : decode cL_law 851 = .ok (.iaload, 1) := by decide +kernel
theorem dL_law_852 : decode cL_law 852 = .ok (.aload_n 0, 1) := by decide +kernel
theorem dL_law_853 : decode cL_law 853 = .ok (.iload 4, 2) := by decide +kernel
theorem dL_law_855 : decode cL_law 855 = .ok (.iconst 2, 1) := by decide +kernel
theorem dL_law_856 : decode cL_law 856 = .ok (.iadd, 1) := by decide +kernel
theorem dL_law_857 : decode cL_law 857 = .ok (.iaload, 1) := by decide +kernel
theorem dL_law_858 : decode cL_law 858 = .ok (.aload_n 3, 1) := by decide +kernel
theorem dL_law_859 : decode cL_law 859 = .ok (.invokestatic 130, 3) := by decide +kernel
theorem dL_law_862 : decode cL_law 862 = .ok (.istore 5, 2) := by decide +kernel
theorem dL_law_864 : decode cL_law 864 = .ok (.aload_n 2, 1) := by decide +kernel
theorem dL_law_865 : decode cL_law 865 = .ok (.aload_n 0, 1) := by decide +kernel
theorem dL_law_866 : decode cL_law 866 = .ok (.iload 4, 2) := by decide +kernel
theorem dL_law_868 : decode cL_law 868 = .ok (.iconst 1, 1) := by decide +kernel
theorem dL_law_869 : decode cL_law 869 = .ok (.iadd, 1) := by decide +kernel
theorem dL_law_870 : decode cL_law 870 = .ok (.iaload, 1) := by decide +kernel
theorem dL_law_871 : decode cL_law 871 = .ok (.aload_n 0, 1) := by decide +kernel
theorem dL_law_872 : decode cL_law 872 = .ok (.iload 4, 2) := by decide +kernel
theorem dL_law_874 : decode cL_law 874 = .ok (.iconst 2, 1) := by decide +kernel
theorem dL_law_875 : decode cL_law 875 = .ok (.iadd, 1) := by decide +kernel
theorem dL_law_876 : decode cL_law 876 = .ok (.iaload, 1) := by decide +kernel
theorem dL_law_877 : decode cL_law 877 = .ok (.invokevirtual 132, 3) := by decide +kernel
theorem dL_law_880 : decode cL_law 880 = .ok (.istore 6, 2) := by decide +kernel
theorem dL_law_882 : decode cL_law 882 = .ok (.aload_n 2, 1) := by decide +kernel
theorem dL_law_883 : decode cL_law 883 = .ok (.invokevirtual 92, 3) := by decide +kernel
theorem dL_law_886 : decode cL_law 886 = .ok (.iload 5, 2) := by decide +kernel
theorem dL_law_888 : decode cL_law 888 = .ok (.if_icmp .eq 5, 3) := by decide +kernel
theorem dL_law_891 : decode cL_law 891 = .ok (.iconst 0, 1) := by decide +kernel
theorem dL_law_892 : decode cL_law 892 = .ok (.ireturn, 1) := by decide +kernel
theorem dL_law_893 : decode cL_law 893 = .ok (.iload 5, 2) := by decide +kernel
theorem dL_law_895 : decode cL_law 895 = .ok (.ifCond .ne 15, 3) := by decide +kernel
theorem dL_law_898 : decode cL_law 898 = .ok (.aload_n 3, 1) := by decide +kernel
theorem dL_law_899 : decode cL_law 899 = .ok (.iconst 0, 1) := by decide +kernel
theorem dL_law_900 : decode cL_law 900 = .ok (.laload, 1) := by decide +kernel
theorem dL_law_901 : decode cL_law 901 = .ok (.iload 6, 2) := by decide +kernel
theorem dL_law_903 : decode cL_law 903 = .ok (.i2l, 1) := by decide +kernel
theorem dL_law_904 : decode cL_law 904 = .ok (.lcmp, 1) := by decide +kernel
theorem dL_law_905 : decode cL_law 905 = .ok (.ifCond .eq 5, 3) := by decide +kernel
theorem dL_law_908 : decode cL_law 908 = .ok (.iconst 0, 1) := by decide +kernel
theorem dL_law_909 : decode cL_law 909 = .ok (.ireturn, 1) := by decide +kernel
theorem dL_law_910 : decode cL_law 910 = .ok (.goto 584, 3) := by decide +kernel
theorem dL_law_913 : decode cL_law 913 = .ok (.aload_n 1, 1) := by decide +kernel
theorem dL_law_914 : decode cL_law 914 = .ok (.aload_n 0, 1) := by decide +kernel
theorem dL_law_915 : decode cL_law 915 = .ok (.iload 4, 2) := by decide +kernel
theorem dL_law_917 : decode cL_law 917 = .ok (.iconst 1, 1) := by decide +kernel
theorem dL_law_918 : decode cL_law 918 = .ok (.iadd, 1) := by decide +kernel
theorem dL_law_919 : decode cL_law 919 = .ok (.iaload, 1) := by decide +kernel
theorem dL_law_920 : decode cL_law 920 = .ok (.aload_n 3, 1) := by decide +kernel
theorem dL_law_921 : decode cL_law 921 = .ok (.invokestatic 133, 3) := by decide +kernel
theorem dL_law_924 : decode cL_law 924 = .ok (.istore 5, 2) := by decide +kernel
theorem dL_law_926 : decode cL_law 926 = .ok (.aload_n 2, 1) := by decide +kernel
theorem dL_law_927 : decode cL_law 927 = .ok (.aload_n 0, 1) := by decide +kernel
theorem dL_law_928 : decode cL_law 928 = .ok (.iload 4, 2) := by decide +kernel
theorem dL_law_930 : decode cL_law 930 = .ok (.iconst 1, 1) := by decide +kernel
theorem dL_law_931 : decode cL_law 931 = .ok (.iadd, 1) := by decide +kernel
theorem dL_law_932 : decode cL_law 932 = .ok (.iaload, 1) := by decide +kernel
theorem dL_law_933 : decode cL_law 933 = .ok (.invokevirtual 135, 3) := by decide +kernel
theorem dL_law_936 : decode cL_law 936 = .ok (.istore 6, 2) := by decide +kernel
theorem dL_law_938 : decode cL_law 938 = .ok (.aload_n 2, 1) := by decide +kernel
theorem dL_law_939 : decode cL_law 939 = .ok (.invokevirtual 92, 3) := by decide +kernel
theorem dL_law_942 : decode cL_law 942 = .ok (.iload 5, 2) := by decide +kernel
theorem dL_law_944 : decode cL_law 944 = .ok (.if_icmp .eq 5, 3) := by decide +kernel
theorem dL_law_947 : decode cL_law 947 = .ok (.iconst 0, 1) := by decide +kernel
theorem dL_law_948 : decode cL_law 948 = .ok (.ireturn, 1) := by decide +kernel
theorem dL_law_949 : decode cL_law 949 = .ok (.iload 5, 2) := by decide +kernel
theorem dL_law_951 : decode cL_law 951 = .ok (.ifCond .ne 15, 3) := by decide +kernel
theorem dL_law_954 : decode cL_law 954 = .ok (.aload_n 3, 1) := by decide +kernel
theorem dL_law_955 : decode cL_law 955 = .ok (.iconst 0, 1) := by decide +kernel
theorem dL_law_956 : decode cL_law 956 = .ok (.laload, 1) := by decide +kernel
theorem dL_law_957 : decode cL_law 957 = .ok (.iload 6, 2) := by decide +kernel
theorem dL_law_959 : decode cL_law 959 = .ok (.i2l, 1) := by decide +kernel
theorem dL_law_960 : decode cL_law 960 = .ok (.lcmp, 1) := by decide +kernel
theorem dL_law_961 : decode cL_law 961 = .ok (.ifCond .eq 5, 3) := by decide +kernel
theorem dL_law_964 : decode cL_law 964 = .ok (.iconst 0, 1) := by decide +kernel
theorem dL_law_965 : decode cL_law 965 = .ok (.ireturn, 1) := by decide +kernel
theorem dL_law_966 : decode cL_law 966 = .ok (.goto 528, 3) := by decide +kernel
theorem dL_law_969 : decode cL_law 969 = .ok (.aload_n 1, 1) := by decide +kernel
theorem dL_law_970 : decode cL_law 970 = .ok (.invokevirtual 136, 3) := by decide +kernel
theorem dL_law_973 : decode cL_law 973 = .ok (.aload_n 2, 1) := by decide +kernel
theorem dL_law_974 : decode cL_law 974 = .ok (.invokevirtual 139, 3) := by decide +kernel
theorem dL_law_977 : decode cL_law 977 = .ok (.if_icmp .eq 517, 3) := by decide +kernel
theorem dL_law_980 : decode cL_law 980 = .ok (.iconst 0, 1) := by decide +kernel
theorem dL_law_981 : decode cL_law 981 = .ok (.ireturn, 1) := by decide +kernel
theorem dL_law_982 : decode cL_law 982 = .ok (.aload_n 1, 1) := by decide +kernel
theorem dL_law_983 : decode cL_law 983 = .ok (.invokevirtual 140, 3) := by decide +kernel
theorem dL_law_986 : decode cL_law 986 = .ok (.aload_n 2, 1) := by decide +kernel
theorem dL_law_987 : decode cL_law 987 = .ok (.invokevirtual 143, 3) := by decide +kernel
theorem dL_law_990 : decode cL_law 990 = .ok (.if_icmp .eq 504, 3) := by decide +kernel
theorem dL_law_993 : decode cL_law 993 = .ok (.iconst 0, 1) := by decide +kernel
theorem dL_law_994 : decode cL_law 994 = .ok (.ireturn, 1) := by decide +kernel
theorem dL_law_995 : decode cL_law 995 = .ok (.aload_n 1, 1) := by decide +kernel
theorem dL_law_996 : decode cL_law 996 = .ok (.aload_n 0, 1) := by decide +kernel
theorem dL_law_997 : decode cL_law 997 = .ok (.iload 4, 2) := by decide +kernel
theorem dL_law_999 : decode cL_law 999 = .ok (.iconst 1, 1) := by decide +kernel
theorem dL_law_1000 : decode cL_law 1000 = .ok (.iadd, 1) := by decide +kernel
theorem dL_law_1001 : decode cL_law 1001 = .ok (.iaload, 1) := by decide +kernel
theorem dL_law_1002 : decode cL_law 1002 = .ok (.aload_n 3, 1) := by decide +kernel
theorem dL_law_1003 : decode cL_law 1003 = .ok (.invokestatic 144, 3) := by decide +kernel
theorem dL_law_1006 : decode cL_law 1006 = .ok (.istore 5, 2) := by decide +kernel
theorem dL_law_1008 : decode cL_law 1008 = .ok (.aload_n 2, 1) := by decide +kernel
theorem dL_law_1009 : decode cL_law 1009 = .ok (.aload_n 0, 1) := by decide +kernel
theorem dL_law_1010 : decode cL_law 1010 = .ok (.iload 4, 2) := by decide +kernel
theorem dL_law_1012 : decode cL_law 1012 = .ok (.iconst 1, 1) := by decide +kernel
theorem dL_law_1013 : decode cL_law 1013 = .ok (.iadd, 1) := by decide +kernel
theorem dL_law_1014 : decode cL_law 1014 = .ok (.iaload, 1) := by decide +kernel
theorem dL_law_1015 : decode cL_law 1015 = .ok (.invokevirtual 146, 3) := by decide +kernel
theorem dL_law_1018 : decode cL_law 1018 = .ok (.istore 6, 2) := by decide +kernel
theorem dL_law_1020 : decode cL_law 1020 = .ok (.aload_n 2, 1) := by decide +kernel
theorem dL_law_1021 : decode cL_law 1021 = .ok (.invokevirtual 92, 3) := by decide +kernel
theorem dL_law_1024 : decode cL_law 1024 = .ok (.iload 5, 2) := by decide +kernel
theorem dL_law_1026 : decode cL_law 1026 = .ok (.if_icmp .eq 5, 3) := by decide +kernel
theorem dL_law_1029 : decode cL_law 1029 = .ok (.iconst 0, 1) := by decide +kernel
theorem dL_law_1030 : decode cL_law 1030 = .ok (.ireturn, 1) := by decide +kernel
theorem dL_law_1031 : decode cL_law 1031 = .ok (.iload 5, 2) := by decide +kernel
theorem dL_law_1033 : decode cL_law 1033 = .ok (.ifCond .ne 15, 3) := by decide +kernel
theorem dL_law_1036 : decode cL_law 1036 = .ok (.aload_n 3, 1) := by decide +kernel
theorem dL_law_1037 : decode cL_law 1037 = .ok (.iconst 0, 1) := by decide +kernel
theorem dL_law_1038 : decode cL_law 1038 = .ok (.laload, 1) := by decide +kernel
theorem dL_law_1039 : decode cL_law 1039 = .ok (.iload 6, 2) := by decide +kernel
theorem dL_law_1041 : decode cL_law 1041 = .ok (.i2l, 1) := by decide +kernel
theorem dL_law_1042 : decode cL_law 1042 = .ok (.lcmp, 1) := by decide +kernel
theorem dL_law_1043 : decode cL_law 1043 = .ok (.ifCond .eq 5, 3) := by decide +kernel
theorem dL_law_1046 : decode cL_law 1046 = .ok (.iconst 0, 1) := by decide +kernel
theorem dL_law_1047 : decode cL_law 1047 = .ok (.ireturn, 1) := by decide +kernel
theorem dL_law_1048 : decode cL_law 1048 = .ok (.goto 446, 3) := by decide +kernel
theorem dL_law_1051 : decode cL_law 1051 = .ok (.aload_n 1, 1) := by decide +kernel
theorem dL_law_1052 : decode cL_law 1052 = .ok (.aload_n 0, 1) := by decide +kernel
theorem dL_law_1053 : decode cL_law 1053 = .ok (.iload 4, 2) := by decide +kernel
theorem dL_law_1055 : decode cL_law 1055 = .ok (.iconst 1, 1) := by decide +kernel
theorem dL_law_1056 : decode cL_law 1056 = .ok (.iadd, 1) := by decide +kernel
theorem dL_law_1057 : decode cL_law 1057 = .ok (.iaload, 1) := by decide +kernel
theorem dL_law_1058 : decode cL_law 1058 = .ok (.aload_n 3, 1) := by decide +kernel
theorem dL_law_1059 : decode cL_law 1059 = .ok (.invokestatic 147, 3) := by decide +kernel
theorem dL_law_1062 : decode cL_law 1062 = .ok (.istore 5, 2) := by decide +kernel
theorem dL_law_1064 : decode cL_law 1064 = .ok (.aload_n 2, 1) := by decide +kernel
theorem dL_law_1065 : decode cL_law 1065 = .ok (.aload_n 0, 1) := by decide +kernel
theorem dL_law_1066 : decode cL_law 1066 = .ok (.iload 4, 2) := by decide +kernel
theorem dL_law_1068 : decode cL_law 1068 = .ok (.iconst 1, 1) := by decide +kernel
theorem dL_law_1069 : decode cL_law 1069 = .ok (.iadd, 1) := by decide +kernel
theorem dL_law_1070 : decode cL_law 1070 = .ok (.iaload, 1) := by decide +kernel
theorem dL_law_1071 : decode cL_law 1071 = .ok (.invokevirtual 149, 3) := by decide +kernel
theorem dL_law_1074 : decode cL_law 1074 = .ok (.lstore 6, 2) := by decide +kernel
theorem dL_law_1076 : decode cL_law 1076 = .ok (.aload_n 2, 1) := by decide +kernel
theorem dL_law_1077 : decode cL_law 1077 = .ok (.invokevirtual 92, 3) := by decide +kernel
theorem dL_law_1080 : decode cL_law 1080 = .ok (.iload 5, 2) := by decide +kernel
theorem dL_law_1082 : decode cL_law 1082 = .ok (.if_icmp .eq 5, 3) := by decide +kernel
theorem dL_law_1085 : decode cL_law 1085 = .ok (.iconst 0, 1) := by decide +kernel
theorem dL_law_1086 : decode cL_law 1086 = .ok (.ireturn, 1) := by decide +kernel
theorem dL_law_1087 : decode cL_law 1087 = .ok (.iload 5, 2) := by decide +kernel
theorem dL_law_1089 : decode cL_law 1089 = .ok (.ifCond .ne 14, 3) := by decide +kernel
theorem dL_law_1092 : decode cL_law 1092 = .ok (.aload_n 3, 1) := by decide +kernel
theorem dL_law_1093 : decode cL_law 1093 = .ok (.iconst 0, 1) := by decide +kernel
theorem dL_law_1094 : decode cL_law 1094 = .ok (.laload, 1) := by decide +kernel
theorem dL_law_1095 : decode cL_law 1095 = .ok (.lload 6, 2) := by decide +kernel
theorem dL_law_1097 : decode cL_law 1097 = .ok (.lcmp, 1) := by decide +kernel
theorem dL_law_1098 : decode cL_law 1098 = .ok (.ifCond .eq 5, 3) := by decide +kernel
theorem dL_law_1101 : decode cL_law 1101 = .ok (.iconst 0, 1) := by decide +kernel
theorem dL_law_1102 : decode cL_law 1102 = .ok (.ireturn, 1) := by decide +kernel
theorem dL_law_1103 : decode cL_law 1103 = .ok (.goto 391, 3) := by decide +kernel
theorem dL_law_1106 : decode cL_law 1106 = .ok (.aload_n 1, 1) := by decide +kernel
theorem dL_law_1107 : decode cL_law 1107 = .ok (.aload_n 0, 1) := by decide +kernel
theorem dL_law_1108 : decode cL_law 1108 = .ok (.iload 4, 2) := by decide +kernel
theorem dL_law_1110 : decode cL_law 1110 = .ok (.iconst 1, 1) := by decide +kernel
theorem dL_law_1111 : decode cL_law 1111 = .ok (.iadd, 1) := by decide +kernel
theorem dL_law_1112 : decode cL_law 1112 = .ok (.iaload, 1) := by decide +kernel
theorem dL_law_1113 : decode cL_law 1113 = .ok (.aload_n 3, 1) := by decide +kernel
theorem dL_law_1114 : decode cL_law 1114 = .ok (.invokestatic 150, 3) := by decide +kernel
theorem dL_law_1117 : decode cL_law 1117 = .ok (.istore 5, 2) := by decide +kernel
theorem dL_law_1119 : decode cL_law 1119 = .ok (.aload_n 2, 1) := by decide +kernel
theorem dL_law_1120 : decode cL_law 1120 = .ok (.aload_n 0, 1) := by decide +kernel
theorem dL_law_1121 : decode cL_law 1121 = .ok (.iload 4, 2) := by decide +kernel
theorem dL_law_1123 : decode cL_law 1123 = .ok (.iconst 1, 1) := by decide +kernel
theorem dL_law_1124 : decode cL_law 1124 = .ok (.iadd, 1) := by decide +kernel
theorem dL_law_1125 : decode cL_law 1125 = .ok (.iaload, 1) := by decide +kernel
theorem dL_law_1126 : decode cL_law 1126 = .ok (.invokevirtual 152, 3) := by decide +kernel
theorem dL_law_1129 : decode cL_law 1129 = .ok (.lstore 6, 2) := by decide +kernel
theorem dL_law_1131 : decode cL_law 1131 = .ok (.aload_n 2, 1) := by decide +kernel
theorem dL_law_1132 : decode cL_law 1132 = .ok (.invokevirtual 92, 3) := by decide +kernel
theorem dL_law_1135 : decode cL_law 1135 = .ok (.iload 5, 2) := by decide +kernel
theorem dL_law_1137 : decode cL_law 1137 = .ok (.if_icmp .eq 5, 3) := by decide +kernel
theorem dL_law_1140 : decode cL_law 1140 = .ok (.iconst 0, 1) := by decide +kernel
theorem dL_law_1141 : decode cL_law 1141 = .ok (.ireturn, 1) := by decide +kernel
theorem dL_law_1142 : decode cL_law 1142 = .ok (.iload 5, 2) := by decide +kernel
theorem dL_law_1144 : decode cL_law 1144 = .ok (.ifCond .ne 14, 3) := by decide +kernel
theorem dL_law_1147 : decode cL_law 1147 = .ok (.aload_n 3, 1) := by decide +kernel
theorem dL_law_1148 : decode cL_law 1148 = .ok (.iconst 0, 1) := by decide +kernel
theorem dL_law_1149 : decode cL_law 1149 = .ok (.laload, 1) := by decide +kernel
theorem dL_law_1150 : decode cL_law 1150 = .ok (.lload 6, 2) := by decide +kernel
theorem dL_law_1152 : decode cL_law 1152 = .ok (.lcmp, 1) := by decide +kernel
theorem dL_law_1153 : decode cL_law 1153 = .ok (.ifCond .eq 5, 3) := by decide +kernel
theorem dL_law_1156 : decode cL_law 1156 = .ok (.iconst 0, 1) := by decide +kernel
theorem dL_law_1157 : decode cL_law 1157 = .ok (.ireturn, 1) := by decide +kernel
theorem dL_law_1158 : decode cL_law 1158 = .ok (.goto 336, 3) := by decide +kernel
theorem dL_law_1161 : decode cL_law 1161 = .ok (.aload_n 1, 1) := by decide +kernel
theorem dL_law_1162 : decode cL_law 1162 = .ok (.aload_n 0, 1) := by decide +kernel
theorem dL_law_1163 : decode cL_law 1163 = .ok (.iload 4, 2) := by decide +kernel
theorem dL_law_1165 : decode cL_law 1165 = .ok (.iconst 1, 1) := by decide +kernel
theorem dL_law_1166 : decode cL_law 1166 = .ok (.iadd, 1) := by decide +kernel
theorem dL_law_1167 : decode cL_law 1167 = .ok (.iaload, 1) := by decide +kernel
theorem dL_law_1168 : decode cL_law 1168 = .ok (.aload_n 3, 1) := by decide +kernel
theorem dL_law_1169 : decode cL_law 1169 = .ok (.invokestatic 153, 3) := by decide +kernel
theorem dL_law_1172 : decode cL_law 1172 = .ok (.istore 5, 2) := by decide +kernel
theorem dL_law_1174 : decode cL_law 1174 = .ok (.aload_n 2, 1) := by decide +kernel
theorem dL_law_1175 : decode cL_law 1175 = .ok (.aload_n 0, 1) := by decide +kernel
theorem dL_law_1176 : decode cL_law 1176 = .ok (.iload 4, 2) := by decide +kernel
theorem dL_law_1178 : decode cL_law 1178 = .ok (.iconst 1, 1) := by decide +kernel
theorem dL_law_1179 : decode cL_law 1179 = .ok (.iadd, 1) := by decide +kernel
theorem dL_law_1180 : decode cL_law 1180 = .ok (.iaload, 1) := by decide +kernel
theorem dL_law_1181 : decode cL_law 1181 = .ok (.invokevirtual 155, 3) := by decide +kernel
theorem dL_law_1184 : decode cL_law 1184 = .ok (.istore 6, 2) := by decide +kernel
theorem dL_law_1186 : decode cL_law 1186 = .ok (.aload_n 2, 1) := by decide +kernel
theorem dL_law_1187 : decode cL_law 1187 = .ok (.invokevirtual 92, 3) := by decide +kernel
theorem dL_law_1190 : decode cL_law 1190 = .ok (.iload 5, 2) := by decide +kernel
theorem dL_law_1192 : decode cL_law 1192 = .ok (.if_icmp .eq 5, 3) := by decide +kernel
theorem dL_law_1195 : decode cL_law 1195 = .ok (.iconst 0, 1) := by decide +kernel
theorem dL_law_1196 : decode cL_law 1196 = .ok (.ireturn, 1) := by decide +kernel
theorem dL_law_1197 : decode cL_law 1197 = .ok (.iload 5, 2) := by decide +kernel
theorem dL_law_1199 : decode cL_law 1199 = .ok (.ifCond .ne 15, 3) := by decide +kernel
theorem dL_law_1202 : decode cL_law 1202 = .ok (.aload_n 3, 1) := by decide +kernel
theorem dL_law_1203 : decode cL_law 1203 = .ok (.iconst 0, 1) := by decide +kernel
theorem dL_law_1204 : decode cL_law 1204 = .ok (.laload, 1) := by decide +kernel
theorem dL_law_1205 : decode cL_law 1205 = .ok (.iload 6, 2) := by decide +kernel
theorem dL_law_1207 : decode cL_law 1207 = .ok (.i2l, 1) := by decide +kernel
theorem dL_law_1208 : decode cL_law 1208 = .ok (.lcmp, 1) := by decide +kernel
theorem dL_law_1209 : decode cL_law 1209 = .ok (.ifCond .eq 5, 3) := by decide +kernel
theorem dL_law_1212 : decode cL_law 1212 = .ok (.iconst 0, 1) := by decide +kernel
theorem dL_law_1213 : decode cL_law 1213 = .ok (.ireturn, 1) := by decide +kernel
theorem dL_law_1214 : decode cL_law 1214 = .ok (.goto 280, 3) := by decide +kernel
theorem dL_law_1217 : decode cL_law 1217 = .ok (.aload_n 1, 1) := by decide +kernel
theorem dL_law_1218 : decode cL_law 1218 = .ok (.aload_n 0, 1) := by decide +kernel
theorem dL_law_1219 : decode cL_law 1219 = .ok (.iload 4, 2) := by decide +kernel
theorem dL_law_1221 : decode cL_law 1221 = .ok (.iconst 1, 1) := by decide +kernel
theorem dL_law_1222 : decode cL_law 1222 = .ok (.iadd, 1) := by decide +kernel
theorem dL_law_1223 : decode cL_law 1223 = .ok (.iaload, 1) := by decide +kernel
theorem dL_law_1224 : decode cL_law 1224 = .ok (.aload_n 3, 1) := by decide +kernel
theorem dL_law_1225 : decode cL_law 1225 = .ok (.invokestatic 156, 3) := by decide +kernel
theorem dL_law_1228 : decode cL_law 1228 = .ok (.istore 5, 2) := by decide +kernel
theorem dL_law_1230 : decode cL_law 1230 = .ok (.aload_n 2, 1) := by decide +kernel
theorem dL_law_1231 : decode cL_law 1231 = .ok (.aload_n 0, 1) := by decide +kernel
theorem dL_law_1232 : decode cL_law 1232 = .ok (.iload 4, 2) := by decide +kernel
theorem dL_law_1234 : decode cL_law 1234 = .ok (.iconst 1, 1) := by decide +kernel
theorem dL_law_1235 : decode cL_law 1235 = .ok (.iadd, 1) := by decide +kernel
theorem dL_law_1236 : decode cL_law 1236 = .ok (.iaload, 1) := by decide +kernel
theorem dL_law_1237 : decode cL_law 1237 = .ok (.invokevirtual 158, 3) := by decide +kernel
theorem dL_law_1240 : decode cL_law 1240 = .ok (.istore 6, 2) := by decide +kernel
theorem dL_law_1242 : decode cL_law 1242 = .ok (.aload_n 2, 1) := by decide +kernel
theorem dL_law_1243 : decode cL_law 1243 = .ok (.invokevirtual 92, 3) := by decide +kernel
theorem dL_law_1246 : decode cL_law 1246 = .ok (.iload 5, 2) := by decide +kernel
theorem dL_law_1248 : decode cL_law 1248 = .ok (.if_icmp .eq 5, 3) := by decide +kernel
theorem dL_law_1251 : decode cL_law 1251 = .ok (.iconst 0, 1) := by decide +kernel
theorem dL_law_1252 : decode cL_law 1252 = .ok (.ireturn, 1) := by decide +kernel
theorem dL_law_1253 : decode cL_law 1253 = .ok (.iload 5, 2) := by decide +kernel
theorem dL_law_1255 : decode cL_law 1255 = .ok (.ifCond .ne 15, 3) := by decide +kernel
theorem dL_law_1258 : decode cL_law 1258 = .ok (.aload_n 3, 1) := by decide +kernel
theorem dL_law_1259 : decode cL_law 1259 = .ok (.iconst 0, 1) := by decide +kernel
theorem dL_law_1260 : decode cL_law 1260 = .ok (.laload, 1) := by decide +kernel
theorem dL_law_1261 : decode cL_law 1261 = .ok (.iload 6, 2) := by decide +kernel
theorem dL_law_1263 : decode cL_law 1263 = .ok (.i2l, 1) := by decide +kernel
theorem dL_law_1264 : decode cL_law 1264 = .ok (.lcmp, 1) := by decide +kernel
theorem dL_law_1265 : decode cL_law 1265 = .ok (.ifCond .eq 5, 3) := by decide +kernel
theorem dL_law_1268 : decode cL_law 1268 = .ok (.iconst 0, 1) := by decide +kernel
theorem dL_law_1269 : decode cL_law 1269 = .ok (.ireturn, 1) := by decide +kernel
theorem dL_law_1270 : decode cL_law 1270 = .ok (.goto 224, 3) := by decide +kernel
theorem dL_law_1273 : decode cL_law 1273 = .ok (.aload_n 1, 1) := by decide +kernel
theorem dL_law_1274 : decode cL_law 1274 = .ok (.aload_n 0, 1) := by decide +kernel
theorem dL_law_1275 : decode cL_law 1275 = .ok (.iload 4, 2) := by decide +kernel
theorem dL_law_1277 : decode cL_law 1277 = .ok (.iconst 1, 1) := by decide +kernel
theorem dL_law_1278 : decode cL_law 1278 = .ok (.iadd, 1) := by decide +kernel
theorem dL_law_1279 : decode cL_law 1279 = .ok (.iaload, 1) := by decide +kernel
theorem dL_law_1280 : decode cL_law 1280 = .ok (.aload_n 3, 1) := by decide +kernel
theorem dL_law_1281 : decode cL_law 1281 = .ok (.invokestatic 159, 3) := by decide +kernel
theorem dL_law_1284 : decode cL_law 1284 = .ok (.istore 5, 2) := by decide +kernel
theorem dL_law_1286 : decode cL_law 1286 = .ok (.aload_n 2, 1) := by decide +kernel
theorem dL_law_1287 : decode cL_law 1287 = .ok (.aload_n 0, 1) := by decide +kernel
theorem dL_law_1288 : decode cL_law 1288 = .ok (.iload 4, 2) := by decide +kernel
theorem dL_law_1290 : decode cL_law 1290 = .ok (.iconst 1, 1) := by decide +kernel
theorem dL_law_1291 : decode cL_law 1291 = .ok (.iadd, 1) := by decide +kernel
theorem dL_law_1292 : decode cL_law 1292 = .ok (.iaload, 1) := by decide +kernel
theorem dL_law_1293 : decode cL_law 1293 = .ok (.invokevirtual 161, 3) := by decide +kernel
theorem dL_law_1296 : decode cL_law 1296 = .ok (.istore 6, 2) := by decide +kernel
theorem dL_law_1298 : decode cL_law 1298 = .ok (.aload_n 2, 1) := by decide +kernel
theorem dL_law_1299 : decode cL_law 1299 = .ok (.invokevirtual 92, 3) := by decide +kernel
theorem dL_law_1302 : decode cL_law 1302 = .ok (.iload 5, 2) := by decide +kernel
theorem dL_law_1304 : decode cL_law 1304 = .ok (.if_icmp .eq 5, 3) := by decide +kernel
theorem dL_law_1307 : decode cL_law 1307 = .ok (.iconst 0, 1) := by decide +kernel
theorem dL_law_1308 : decode cL_law 1308 = .ok (.ireturn, 1) := by decide +kernel
theorem dL_law_1309 : decode cL_law 1309 = .ok (.iload 5, 2) := by decide +kernel
theorem dL_law_1311 : decode cL_law 1311 = .ok (.ifCond .ne 15, 3) := by decide +kernel
theorem dL_law_1314 : decode cL_law 1314 = .ok (.aload_n 3, 1) := by decide +kernel
theorem dL_law_1315 : decode cL_law 1315 = .ok (.iconst 0, 1) := by decide +kernel
theorem dL_law_1316 : decode cL_law 1316 = .ok (.laload, 1) := by decide +kernel
theorem dL_law_1317 : decode cL_law 1317 = .ok (.iload 6, 2) := by decide +kernel
theorem dL_law_1319 : decode cL_law 1319 = .ok (.i2l, 1) := by decide +kernel
theorem dL_law_1320 : decode cL_law 1320 = .ok (.lcmp, 1) := by decide +kernel
theorem dL_law_1321 : decode cL_law 1321 = .ok (.ifCond .eq 5, 3) := by decide +kernel
theorem dL_law_1324 : decode cL_law 1324 = .ok (.iconst 0, 1) := by decide +kernel
theorem dL_law_1325 : decode cL_law 1325 = .ok (.ireturn, 1) := by decide +kernel
theorem dL_law_1326 : decode cL_law 1326 = .ok (.goto 168, 3) := by decide +kernel
theorem dL_law_1329 : decode cL_law 1329 = .ok (.aload_n 1, 1) := by decide +kernel
theorem dL_law_1330 : decode cL_law 1330 = .ok (.aload_n 0, 1) := by decide +kernel
theorem dL_law_1331 : decode cL_law 1331 = .ok (.iload 4, 2) := by decide +kernel
theorem dL_law_1333 : decode cL_law 1333 = .ok (.iconst 1, 1) := by decide +kernel
theorem dL_law_1334 : decode cL_law 1334 = .ok (.iadd, 1) := by decide +kernel
theorem dL_law_1335 : decode cL_law 1335 = .ok (.iaload, 1) := by decide +kernel
theorem dL_law_1336 : decode cL_law 1336 = .ok (.aload_n 3, 1) := by decide +kernel
theorem dL_law_1337 : decode cL_law 1337 = .ok (.invokestatic 162, 3) := by decide +kernel
theorem dL_law_1340 : decode cL_law 1340 = .ok (.istore 5, 2) := by decide +kernel
theorem dL_law_1342 : decode cL_law 1342 = .ok (.aload_n 2, 1) := by decide +kernel
theorem dL_law_1343 : decode cL_law 1343 = .ok (.aload_n 0, 1) := by decide +kernel
theorem dL_law_1344 : decode cL_law 1344 = .ok (.iload 4, 2) := by decide +kernel
theorem dL_law_1346 : decode cL_law 1346 = .ok (.iconst 1, 1) := by decide +kernel
theorem dL_law_1347 : decode cL_law 1347 = .ok (.iadd, 1) := by decide +kernel
theorem dL_law_1348 : decode cL_law 1348 = .ok (.iaload, 1) := by decide +kernel
theorem dL_law_1349 : decode cL_law 1349 = .ok (.invokevirtual 164, 3) := by decide +kernel
theorem dL_law_1352 : decode cL_law 1352 = .ok (.lstore 6, 2) := by decide +kernel
theorem dL_law_1354 : decode cL_law 1354 = .ok (.aload_n 2, 1) := by decide +kernel
theorem dL_law_1355 : decode cL_law 1355 = .ok (.invokevirtual 92, 3) := by decide +kernel
theorem dL_law_1358 : decode cL_law 1358 = .ok (.iload 5, 2) := by decide +kernel
theorem dL_law_1360 : decode cL_law 1360 = .ok (.if_icmp .eq 5, 3) := by decide +kernel
theorem dL_law_1363 : decode cL_law 1363 = .ok (.iconst 0, 1) := by decide +kernel
theorem dL_law_1364 : decode cL_law 1364 = .ok (.ireturn, 1) := by decide +kernel
theorem dL_law_1365 : decode cL_law 1365 = .ok (.iload 5, 2) := by decide +kernel
theorem dL_law_1367 : decode cL_law 1367 = .ok (.ifCond .ne 14, 3) := by decide +kernel
theorem dL_law_1370 : decode cL_law 1370 = .ok (.aload_n 3, 1) := by decide +kernel
theorem dL_law_1371 : decode cL_law 1371 = .ok (.iconst 0, 1) := by decide +kernel
theorem dL_law_1372 : decode cL_law 1372 = .ok (.laload, 1) := by decide +kernel
theorem dL_law_1373 : decode cL_law 1373 = .ok (.lload 6, 2) := by decide +kernel
theorem dL_law_1375 : decode cL_law 1375 = .ok (.lcmp, 1) := by decide +kernel
theorem dL_law_1376 : decode cL_law 1376 = .ok (.ifCond .eq 5, 3) := by decide +kernel
theorem dL_law_1379 : decode cL_law 1379 = .ok (.iconst 0, 1) := by decide +kernel
theorem dL_law_1380 : decode cL_law 1380 = .ok (.ireturn, 1) := by decide +kernel
theorem dL_law_1381 : decode cL_law 1381 = .ok (.goto 113, 3) := by decide +kernel
theorem dL_law_1384 : decode cL_law 1384 = .ok (.aload_n 1, 1) := by decide +kernel
theorem dL_law_1385 : decode cL_law 1385 = .ok (.aload_n 0, 1) := by decide +kernel
theorem dL_law_1386 : decode cL_law 1386 = .ok (.iload 4, 2) := by decide +kernel
theorem dL_law_1388 : decode cL_law 1388 = .ok (.iconst 1, 1) := by decide +kernel
theorem dL_law_1389 : decode cL_law 1389 = .ok (.iadd, 1) := by decide +kernel
theorem dL_law_1390 : decode cL_law 1390 = .ok (.iaload, 1) := by decide +kernel
theorem dL_law_1391 : decode cL_law 1391 = .ok (.aload_n 3, 1) := by decide +kernel
theorem dL_law_1392 : decode cL_law 1392 = .ok (.invokestatic 165, 3) := by decide +kernel
theorem dL_law_1395 : decode cL_law 1395 = .ok (.istore 5, 2) := by decide +kernel
theorem dL_law_1397 : decode cL_law 1397 = .ok (.aload_n 2, 1) := by decide +kernel
theorem dL_law_1398 : decode cL_law 1398 = .ok (.aload_n 0, 1) := by decide +kernel
theorem dL_law_1399 : decode cL_law 1399 = .ok (.iload 4, 2) := by decide +kernel
theorem dL_law_1401 : decode cL_law 1401 = .ok (.iconst 1, 1) := by decide +kernel
theorem dL_law_1402 : decode cL_law 1402 = .ok (.iadd, 1) := by decide +kernel
theorem dL_law_1403 : decode cL_law 1403 = .ok (.iaload, 1) := by decide +kernel
theorem dL_law_1404 : decode cL_law 1404 = .ok (.invokevirtual 167, 3) := by decide +kernel
theorem dL_law_1407 : decode cL_law 1407 = .ok (.lstore 6, 2) := by decide +kernel
theorem dL_law_1409 : decode cL_law 1409 = .ok (.aload_n 2, 1) := by decide +kernel
theorem dL_law_1410 : decode cL_law 1410 = .ok (.invokevirtual 92, 3) := by decide +kernel
theorem dL_law_1413 : decode cL_law 1413 = .ok (.iload 5, 2) := by decide +kernel
theorem dL_law_1415 : decode cL_law 1415 = .ok (.if_icmp .eq 5, 3) := by decide +kernel
theorem dL_law_1418 : decode cL_law 1418 = .ok (.iconst 0, 1) := by decide +kernel
theorem dL_law_1419 : decode cL_law 1419 = .ok (.ireturn, 1) := by decide +kernel
theorem dL_law_1420 : decode cL_law 1420 = .ok (.iload 5, 2) := by decide +kernel
theorem dL_law_1422 : decode cL_law 1422 = .ok (.ifCond .ne 14, 3) := by decide +kernel
theorem dL_law_1425 : decode cL_law 1425 = .ok (.aload_n 3, 1) := by decide +kernel
theorem dL_law_1426 : decode cL_law 1426 = .ok (.iconst 0, 1) := by decide +kernel
theorem dL_law_1427 : decode cL_law 1427 = .ok (.laload, 1) := by decide +kernel
theorem dL_law_1428 : decode cL_law 1428 = .ok (.lload 6, 2) := by decide +kernel
theorem dL_law_1430 : decode cL_law 1430 = .ok (.lcmp, 1) := by decide +kernel
theorem dL_law_1431 : decode cL_law 1431 = .ok (.ifCond .eq 5, 3) := by decide +kernel
theorem dL_law_1434 : decode cL_law 1434 = .ok (.iconst 0, 1) := by decide +kernel
theorem dL_law_1435 : decode cL_law 1435 = .ok (.ireturn, 1) := by decide +kernel
theorem dL_law_1436 : decode cL_law 1436 = .ok (.goto 58, 3) := by decide +kernel
theorem dL_law_1439 : decode cL_law 1439 = .ok (.aload_n 1, 1) := by decide +kernel
theorem dL_law_1440 : decode cL_law 1440 = .ok (.aload_n 0, 1) := by decide +kernel
theorem dL_law_1441 : decode cL_law 1441 = .ok (.iload 4, 2) := by decide +kernel
theorem dL_law_1443 : decode cL_law 1443 = .ok (.iconst 1, 1) := by decide +kernel
theorem dL_law_1444 : decode cL_law 1444 = .ok (.iadd, 1) := by decide +kernel
theorem dL_law_1445 : decode cL_law 1445 = .ok (.iaload, 1) := by decide +kernel
theorem dL_law_1446 : decode cL_law 1446 = .ok (.aload_n 3, 1) := by decide +kernel
theorem dL_law_1447 : decode cL_law 1447 = .ok (.invokestatic 168, 3) := by decide +kernel
theorem dL_law_1450 : decode cL_law 1450 = .ok (.istore 5, 2) := by decide +kernel
theorem dL_law_1452 : decode cL_law 1452 = .ok (.aload_n 2, 1) := by decide +kernel
theorem dL_law_1453 : decode cL_law 1453 = .ok (.aload_n 0, 1) := by decide +kernel
theorem dL_law_1454 : decode cL_law 1454 = .ok (.iload 4, 2) := by decide +kernel
theorem dL_law_1456 : decode cL_law 1456 = .ok (.iconst 1, 1) := by decide +kernel
theorem dL_law_1457 : decode cL_law 1457 = .ok (.iadd, 1) := by decide +kernel
theorem dL_law_1458 : decode cL_law 1458 = .ok (.iaload, 1) := by decide +kernel
theorem dL_law_1459 : decode cL_law 1459 = .ok (.invokevirtual 170, 3) := by decide +kernel
theorem dL_law_1462 : decode cL_law 1462 = .ok (.lstore 6, 2) := by decide +kernel
theorem dL_law_1464 : decode cL_law 1464 = .ok (.aload_n 2, 1) := by decide +kernel
theorem dL_law_1465 : decode cL_law 1465 = .ok (.invokevirtual 92, 3) := by decide +kernel
theorem dL_law_1468 : decode cL_law 1468 = .ok (.iload 5, 2) := by decide +kernel
theorem dL_law_1470 : decode cL_law 1470 = .ok (.if_icmp .eq 5, 3) := by decide +kernel
theorem dL_law_1473 : decode cL_law 1473 = .ok (.iconst 0, 1) := by decide +kernel
theorem dL_law_1474 : decode cL_law 1474 = .ok (.ireturn, 1) := by decide +kernel
theorem dL_law_1475 : decode cL_law 1475 = .ok (.iload 5, 2) := by decide +kernel
theorem dL_law_1477 : decode cL_law 1477 = .ok (.ifCond .ne 14, 3) := by decide +kernel
theorem dL_law_1480 : decode cL_law 1480 = .ok (.aload_n 3, 1) := by decide +kernel
theorem dL_law_1481 : decode cL_law 1481 = .ok (.iconst 0, 1) := by decide +kernel
theorem dL_law_1482 : decode cL_law 1482 = .ok (.laload, 1) := by decide +kernel
theorem dL_law_1483 : decode cL_law 1483 = .ok (.lload 6, 2) := by decide +kernel
theorem dL_law_1485 : decode cL_law 1485 = .ok (.lcmp, 1) := by decide +kernel
theorem dL_law_1486 : decode cL_law 1486 = .ok (.ifCond .eq 5, 3) := by decide +kernel
theorem dL_law_1489 : decode cL_law 1489 = .ok (.iconst 0, 1) := by decide +kernel
theorem dL_law_1490 : decode cL_law 1490 = .ok (.ireturn, 1) := by decide +kernel
theorem dL_law_1491 : decode cL_law 1491 = .ok (.goto 3, 3) := by decide +kernel
theorem dL_law_1494 : decode cL_law 1494 = .ok (.iinc 4 5, 3) := by decide +kernel
theorem dL_law_1497 : decode cL_law 1497 = .ok (.goto (-1474), 3) := by decide +kernel
theorem dL_law_1500 : decode cL_law 1500 = .ok (.iconst 1, 1) := by decide +kernel
theorem dL_law_1501 : decode cL_law 1501 = .ok (.ireturn, 1) := by decide +kernel
end
section
/-! The frame in which every method of this claim is walked: one list of words for all, one region of cells that may change (all that is newer than the law's start), one judgement Go. -/
/-- the tables' words that no warming of the tables takes away -/
def BIG : List Cond := lw_tbl.filter goodWord
theorem big_in {w : Cond} (i : Nat) (h : lw_tbl[i]? = some w) (g : goodWord w = true) : w ∈ BIG := List.mem_filter.mpr ⟨List.mem_of_getElem? h, g⟩
theorem big_good {w : Cond} (h : w ∈ BIG) : w ∈ BIG ∧ ((w.onTables && w.keeps) = true ∨ ∃ ty, w = .arrayClass ty) := ⟨h, good_of_word (List.mem_filter.mp h).2⟩
theorem gi_self : GoodIn BIG BIG := fun _ h => big_good h
theorem gi_cons {c : Cond} {L : List Cond} (h : c ∈ BIG) (g : GoodIn BIG L) : GoodIn BIG (c :: L) := fun w hw => (List.mem_cons.mp hw).elim (fun e => by rw [e]; exact big_good h) (g w)
def NESTW : List Cond := [.methodLinkNest RX1 56 yX0_init RX1, .fieldLinkNest RX1 167 RX0 "customer" "I" RX1, .fieldLinkNest RX1 223 RX0 "termDays" "I" RX1, .fieldLinkNest RX1 73 RX0 "principal" "I" RX1, .fieldLinkNest RX1 138 RX0 "earned" "J" RX1, .fieldLinkNest RX1 153 RX0 "parts" "J" RX1, .fieldLinkNest RX1 80 RX0 "frozenCents" "I" RX1, .fieldLinkNest RX1 88 RX0 "takeFrom" "I" RX1, .fieldLinkNest RX1 170 RX0 "end" "I" RX1, .fieldLinkNest RX1 62 RX0 "instruction" "I" RX1, .fieldLinkNest RX1 133 RX0 "renewedOn" "I" RX1, .methodLinkNest RX1 76 yX0_isByTerm RX1, .methodLinkNest RX1 213 yX0_drawWholeCents RX1, .methodLinkNest RX1 113 yX0_unfrozen RX1]
def STRS : List (Nat × String) := [(42, "no such band"), (182, "out of range"), (180, "no such customer"), (221, "there have been 40 lots"), (184, "no such lot"), (85, "not by NOTICE, or it has a notice"), (186, "no notice"), (94, "it cannot be taken yet"), (105, "less than that is not frozen"), (131, "not by TERM"), (136, "no days of grace"), (144, "both are the same lot"), (151, "these lots cannot be joined"), (156, "beyond the last day")]
def nb_I : String := "java/lang/IndexOutOfBoundsException"
def nb_A : String := "java/lang/IllegalArgumentException"
def nb_S : String := "java/lang/IllegalStateException"
def EXS : List String := [nb_I, nb_A, nb_S]
def SUPS : List String := ["java/lang/RuntimeException", "java/lang/Exception", Bundle.tN]
def NCS : List (String × String) := [(nb_A, nb_I), (nb_S, nb_I), (nb_I, nb_A), (nb_S, nb_A), (nb_I, nb_S), (nb_A, nb_S)]
def nb_isNest : Cond → Bool
  | .fieldLinkNest .. => true
  | .methodLinkNest .. => true
  | _ => false
theorem nest_all : ∀ w ∈ NESTW, nb_isNest w = true := by decide +kernel
theorem nest_warm {w : Cond} (h : nb_isNest w = true) {s U : State} (hW : s.WarmedH U.vm) (hZ : va_Nw w s) : va_Nw w U := by
  cases w <;> first | (simp [nb_isNest] at h; done) | exact va_Nw.warmF hW hZ | exact va_Nw.warmM hW hZ
theorem nest_tab {w : Cond} (h : nb_isNest w = true) : w.onTables = true := by
  cases w <;> first | rfl | (simp [nb_isNest] at h; done)
/-- the cells that any method here may change -/
def nA (N0 : Nat) : Nat → Prop := fun q => N0 ≤ q
/-- what a state must have beside the cells: the statics of Throwable, the nest mates' links, the texts, which classes are castable -/
def EnvOk (N0 : Nat) (U : State) : Prop :=
  vx_Zq Bundle.tN "UNASSIGNED_STACK" Bundle.steD (nA N0) U U.heap ∧ vx_Zq Bundle.tN "SUPPRESSED_SENTINEL" Bundle.listD (nA N0) U U.heap ∧ (∀ w ∈ NESTW, va_Nw w U) ∧ (∀ q ∈ STRS, ∃ sa : Nat, vk_R RX1 q.1 q.2 sa U) ∧ (∀ E ∈ EXS, va_Nw (.castable E E) U) ∧ (∀ q ∈ NCS, va_Nc q.1 q.2 U) ∧ va_AO RX0 U ∧ (∀ Z ∈ SUPS, va_Nw (.declares (Bundle.initS Z)) U)
theorem EnvOk.step {N0 : Nat} {s U : State} {locs : List Loc} (h : EnvOk N0 s) (hW : s.WarmedH U.vm) (hS : va_S (nA N0) s.heap U.heap locs) : EnvOk N0 U := by
  obtain ⟨h1, h2, h3, h4, h5, h6, h7, h8⟩ := h
  exact ⟨(h1.kept hS.2.1).moved hW.alike, (h2.kept hS.2.1).moved hW.alike, fun w hw => nest_warm (nest_all w hw) hW (h3 w hw), fun q hq => (h4 q hq).elim fun sa z => ⟨sa, vk_R.warm hW z⟩, fun E hE => va_Nw.warmC hW (h5 E hE), fun q hq => (h6 q hq).moved hW.alike, va_AO.moved hW.alike h7, fun Z hZ => va_Nw.warmD hW (h8 Z hZ)⟩
theorem EnvOk.blind {N0 : Nat} {U : State} {g : JFrame} {mk : MethodId} {a : Array Value} (h : EnvOk N0 U) : EnvOk N0 (U.calling g mk a) := by
  obtain ⟨h1, h2, h3, h4, h5, h6, h7, h8⟩ := h
  exact ⟨vx_Zq.moved (u := U) (U := U.calling g mk a) (Vm.Alike.refl U.vm) h1, vx_Zq.moved (u := U) (U := U.calling g mk a) (Vm.Alike.refl U.vm) h2, fun w hw => va_Nw.same (u := U) (U := U.calling g mk a) (nest_tab (nest_all w hw)) rfl (h3 w hw), fun q hq => (h4 q hq).elim fun sa z => ⟨sa, vk_R.same (u := U) (U := U.calling g mk a) rfl z⟩, fun E hE => va_Nw.same (u := U) (U := U.calling g mk a) rfl rfl (h5 E hE), fun q hq => va_Nc.moved (u := U) (U := U.calling g mk a) (Vm.Alike.refl U.vm) (h6 q hq), va_AO.moved (u := U) (U := U.calling g mk a) (Vm.Alike.refl U.vm) h7, fun Z hZ => va_Nw.same (u := U) (U := U.calling g mk a) rfl rfl (h8 Z hZ)⟩
/-- a method's start: the world w -/
def nPre (D : va_G) (tys : List (ClassId × FieldType)) (N0 : Nat) (w : va_W) (U : State) : Prop := N0 ≤ U.heap.size ∧ va_P D vwCl w U.heap ∧ va_K D vwCl tys U ∧ va_D (nA N0) w ∧ EnvOk N0 U
theorem nPre.blind {D : va_G} {tys : List (ClassId × FieldType)} {N0 : Nat} {w : va_W} {av : List Value} : FrameBlind (va_Pc av (nPre D tys N0 w)) := fun a U g mk h => by
  obtain ⟨h0, h1, h2, h3, h4, h5⟩ := h
  exact ⟨h0, h1, h2, va_K.moved (u := U) (U := U.calling g mk a) (Vm.Alike.refl U.vm) h3, h4, h5.blind⟩
/-- a method's end: what it answers, and the world then -/
def nQ (D : va_G) (N0 : Nat) (po : Option Value → va_W → Prop) : Array Value → State → Outcome → State → Prop := fun _ st oc t => (∃ (r : Option Value) (w' : va_W), oc = .returned r ∧ po r w' ∧ va_P D vwCl w' t.heap ∧ va_D (nA N0) w') ∧ va_F (nA N0) st t
/-- .. or what it throws -/
def nX (D : va_G) (N0 : Nat) (xp : String → va_W → Prop) : String → State → State → Prop := fun E st t => (∃ w' : va_W, xp E w' ∧ va_P D vwCl w' t.heap ∧ va_D (nA N0) w') ∧ va_F (nA N0) st t
/-- contracts: of a method that returns; of one that returns or throws; of one with a table of handlers -/
def Ct (l : Launch) (D : va_G) (tys : List (ClassId × FieldType)) (N0 : Nat) (y : MethodName) (cc : ByteArray) (mL : Nat) (ret : Option FieldType) (rm : Room) (av : List Value) (w : va_W) (po : Option Value → va_W → Prop) : Prop :=
  Met l y (.code y cc mL ret :: BIG) rm (va_Pc av (nPre D tys N0 w)) (nQ D N0 po) rm.cells rm.slots (nA N0)
def CtX (l : Launch) (D : va_G) (tys : List (ClassId × FieldType)) (N0 : Nat) (y : MethodName) (cc : ByteArray) (mL : Nat) (ret : Option FieldType) (rm : Room) (av : List Value) (w : va_W) (po : Option Value → va_W → Prop) (xp : String → va_W → Prop) : Prop :=
  vx_Met l y (.code y cc mL ret :: BIG) rm (va_Pc av (nPre D tys N0 w)) (nQ D N0 po) (nX D N0 xp) rm.cells rm.slots (nA N0)
def CtW (l : Launch) (D : va_G) (tys : List (ClassId × FieldType)) (N0 : Nat) (y : MethodName) (cc : ByteArray) (mL : Nat) (ret : Option FieldType) (hh : List (Nat × Nat × Nat × Nat)) (rm : Room) (av : List Value) (w : va_W) (po : Option Value → va_W → Prop) : Prop :=
  vx_Met l y (.codeWith y cc mL ret hh :: BIG) rm (va_Pc av (nPre D tys N0 w)) (nQ D N0 po) (nX D N0 (fun _ _ => False)) rm.cells rm.slots (nA N0)
/-- what holds in a method's body -/
def Cxt (p : Program) (s : State) (m : MethodId) (args : Array Value) (meth : Method) (c : Code) (D : va_G) (tys : List (ClassId × FieldType)) (N0 : Nat) (cc : ByteArray) (mL : Nat) (own : String) (ret : Option FieldType) (nm : String) : Prop :=
  p.tables.exec = Jvm.exec ∧ c.code = cc ∧ c.maxLocals = mL ∧ s.vm.findClass own = some m.cls ∧ (∀ w ∈ BIG, w.before args s = true) ∧ va_K D vwCl tys s ∧ N0 ≤ s.heap.size ∧ meth.locks = false ∧ meth.sig.returnType = ret ∧ EnvOk N0 s ∧ meth.name = nm
/-- from every heap that holds the world w, with these locals and this stack, the machine comes to Q -/
def Go (p : Program) (l : Launch) (e : Env) (R : Room) (s : State) (m : MethodId) (args : Array Value) (below : List Frame) (meth : Method) (c : Code) (D : va_G) (N0 mL : Nat) (Q : State → Prop) (w : va_W) (k n pc : Nat) (lo : List (Nat × Value)) (st : List Value) : Prop :=
  ∀ (H : Heap) (locs : List Loc) (ls : Array Slot), va_P D vwCl w H → va_D (nA N0) w → va_S (nA N0) s.heap H locs → lv_has ls mL lo → W p l e R s m args below meth c H locs k n Q (F0 m pc ls st)
/-- the same with an exception of the class E thrown at pc -/
def GoX (p : Program) (l : Launch) (e : Env) (R : Room) (s : State) (m : MethodId) (args : Array Value) (below : List Frame) (meth : Method) (c : Code) (D : va_G) (N0 mL : Nat) (Q : State → Prop) (w : va_W) (k n pc : Nat) (lo : List (Nat × Value)) (E : String) : Prop :=
  ∀ (H : Heap) (locs : List Loc) (ls : Array Slot) (rest : List Value) (q : Nat) (ce : Cell), va_P D vwCl w H → va_D (nA N0) w → va_S (nA N0) s.heap H locs → lv_has ls mL lo → H[q]? = some ce → ce.vm = .none → s.vm.findClass E = some ce.cls → vx_W p l e R s m args below meth c H locs k n Q (F0 m pc ls rest) q
section BODY
variable {l : Launch} {D : va_G} {tys : List (ClassId × FieldType)} {N0 : Nat}
theorem nb_S0 {s : State} : va_S (nA N0) s.heap s.heap [] := va_S.rf
theorem nb_hA {s : State} {q : Nat} (h : N0 ≤ s.heap.size) (hq : s.heap.size ≤ q) : nA N0 q := Nat.le_trans h hq
theorem ct_of {y : MethodName} {cc : ByteArray} {mL : Nat} {ret : Option FieldType} {rm : Room} {av : List Value} {w : va_W} {po : Option Value → va_W → Prop} (hy : plainName y.cls = true) (hn : (lg_sl av).length ≤ mL)
    (body : ∀ (p : Program) (e : Env) (s : State) (m : MethodId) (args : Array Value) (below : List Frame) (meth : Method) (c : Code), Cxt p s m args meth c D tys N0 cc mL y.cls ret y.name →
      Go p l e rm s m args below meth c D N0 mL (MQ below (nQ D N0 po) args s rm.cells rm.slots (nA N0)) w 0 0 0 (lv_args 0 av) []) : Ct l D tys N0 y cc mL ret rm av w po := by
  refine Met.ofW (cc := cc) (maxL := mL) (ret := ret) hy rfl ?_
  intro p e s m args below meth c s₁ B hml hv
  obtain ⟨rfl, hN, hP, hK, hD, hE⟩ := hv
  have hts := atoms_spec (ws := Cond.code y cc mL ret :: BIG) B.pre
  have hl := lv_entry av (n := mL) hn
  rw [lg_entry_eq]
  exact body p e s m _ below meth c ⟨B.exec, B.bytes, hml, findClass_of_methodNamed B.named, fun w hw => hts w (List.mem_cons_of_mem _ hw), hK, hN, B.notSynchronized, B.returns, hE, (name_of_methodNamed B.named B.method).1⟩ s.heap [] _ hP hD nb_S0 hl
theorem ctx_of {y : MethodName} {cc : ByteArray} {mL : Nat} {ret : Option FieldType} {rm : Room} {av : List Value} {w : va_W} {po : Option Value → va_W → Prop} {xp : String → va_W → Prop} (hy : plainName y.cls = true) (hn : (lg_sl av).length ≤ mL)
    (body : ∀ (p : Program) (e : Env) (s : State) (m : MethodId) (args : Array Value) (below : List Frame) (meth : Method) (c : Code), Cxt p s m args meth c D tys N0 cc mL y.cls ret y.name → (∀ x ∈ c.exceptionTable.toList, False) →
      Go p l e rm s m args below meth c D N0 mL (vx_MQ below (nQ D N0 po) (nX D N0 xp) args s rm.cells rm.slots (nA N0)) w 0 0 0 (lv_args 0 av) []) : CtX l D tys N0 y cc mL ret rm av w po xp := by
  refine vx_ofW (cc := cc) (maxL := mL) (ret := ret) hy rfl ?_
  intro p e s m args below meth c s₁ B hml ht hv
  obtain ⟨rfl, hN, hP, hK, hD, hE⟩ := hv
  have hts := atoms_spec (ws := Cond.code y cc mL ret :: BIG) B.pre
  have hl := lv_entry av (n := mL) hn
  rw [lg_entry_eq]
  exact body p e s m _ below meth c ⟨B.exec, B.bytes, hml, findClass_of_methodNamed B.named, fun w hw => hts w (List.mem_cons_of_mem _ hw), hK, hN, B.notSynchronized, B.returns, hE, (name_of_methodNamed B.named B.method).1⟩ ht s.heap [] _ hP hD nb_S0 hl
theorem ctw_of {y : MethodName} {cc : ByteArray} {mL : Nat} {ret : Option FieldType} {hh : List (Nat × Nat × Nat × Nat)} {rm : Room} {av : List Value} {w : va_W} {po : Option Value → va_W → Prop} (hy : plainName y.cls = true) (hn : (lg_sl av).length ≤ mL)
    (body : ∀ (p : Program) (e : Env) (s : State) (m : MethodId) (args : Array Value) (below : List Frame) (meth : Method) (c : Code), Cxt p s m args meth c D tys N0 cc mL y.cls ret y.name → c.exceptionTable.toList = tableOf hh →
      Go p l e rm s m args below meth c D N0 mL (vx_MQ below (nQ D N0 po) (nX D N0 (fun _ _ => False)) args s rm.cells rm.slots (nA N0)) w 0 0 0 (lv_args 0 av) []) : CtW l D tys N0 y cc mL ret hh rm av w po := by
  refine vx_ofWH (cc := cc) (maxL := mL) (ret := ret) (hh := hh) hy rfl ?_
  intro p e s m args below meth c s₁ B hml hv
  obtain ⟨rfl, hN, hP, hK, hD, hE⟩ := hv
  have hts := atoms_spec (ws := Cond.codeWith y cc mL ret hh :: BIG) B.pre
  have hl := lv_entry av (n := mL) hn
  rw [lg_entry_eq]
  exact body p e s m _ below meth c ⟨B.exec, B.bytes, hml, findClass_of_methodNamed B.named, fun w hw => hts w (List.mem_cons_of_mem _ hw), hK, hN, B.notSynchronized, B.returns, hE, (name_of_methodNamed B.named B.method).1⟩ (vx_table (x := y) B (hts _ List.mem_cons_self)) s.heap [] _ hP hD nb_S0 hl
end BODY
section ROWS
variable {p : Program} {l : Launch} {e : Env} {R : Room} {s : State} {m : MethodId} {args : Array Value} {below : List Frame} {meth : Method} {c : Code} {D : va_G} {tys : List (ClassId × FieldType)} {N0 mL : Nat} {cc : ByteArray} {own nm : String} {ret : Option FieldType} {Q : State → Prop} {w : va_W} {k n pc : Nat} {lo lo' : List (Nat × Value)} {st : List Value}
theorem go_iconst (C : Cxt p s m args meth c D tys N0 cc mL own ret nm) {z : Int} {v : Int32} (d : decode cc pc = .ok (.iconst z, 1)) (hv : Int32.ofInt z = v) (g : Go p l e R s m args below meth c D N0 mL Q (w) (k) (n) (pc + 1) (lo) (.int v :: st)) : Go p l e R s m args below meth c D N0 mL Q (w) (k) (n) (pc) (lo) (st) := fun H locs ls hP hD hS hl => lv_iconst C.1 C.2.1 d hv (g H locs ls hP hD hS hl)
theorem go_bipush (C : Cxt p s m args meth c D tys N0 cc mL own ret nm) {z : Int} {v : Int32} (d : decode cc pc = .ok (.bipush z, 2)) (hv : (Int8.ofInt z).toInt32 = v) (g : Go p l e R s m args below meth c D N0 mL Q (w) (k) (n) (pc + 2) (lo) (.int v :: st)) : Go p l e R s m args below meth c D N0 mL Q (w) (k) (n) (pc) (lo) (st) := fun H locs ls hP hD hS hl => lv_bipush C.1 C.2.1 d hv (g H locs ls hP hD hS hl)
theorem go_sipush (C : Cxt p s m args meth c D tys N0 cc mL own ret nm) {z : Int} {v : Int32} (d : decode cc pc = .ok (.sipush z, 3)) (hv : (Int16.ofInt z).toInt32 = v) (g : Go p l e R s m args below meth c D N0 mL Q (w) (k) (n) (pc + 3) (lo) (.int v :: st)) : Go p l e R s m args below meth c D N0 mL Q (w) (k) (n) (pc) (lo) (st) := fun H locs ls hP hD hS hl => lv_sipush C.1 C.2.1 d hv (g H locs ls hP hD hS hl)
theorem go_lconst (C : Cxt p s m args meth c D tys N0 cc mL own ret nm) {z : Fin 2} {v : Int64} (d : decode cc pc = .ok (.lconst z, 1)) (hv : Int64.ofNat (z : Nat) = v) (g : Go p l e R s m args below meth c D N0 mL Q (w) (k) (n) (pc + 1) (lo) (.long v :: st)) : Go p l e R s m args below meth c D N0 mL Q (w) (k) (n) (pc) (lo) (st) := fun H locs ls hP hD hS hl => lv_lconst C.1 C.2.1 d hv (g H locs ls hP hD hS hl)
theorem go_ldc (C : Cxt p s m args meth c D tys N0 cc mL own ret nm) {i : Nat} {v : Int32} (hc : Cond.constant own i v ∈ BIG) (d : decode cc pc = .ok (.ldc i, 2)) (g : Go p l e R s m args below meth c D N0 mL Q (w) (k) (n) (pc + 2) (lo) (.int v :: st)) : Go p l e R s m args below meth c D N0 mL Q (w) (k) (n) (pc) (lo) (st) := fun H locs ls hP hD hS hl => lv_ldc C.1 C.2.1 C.2.2.2.1 (C.2.2.2.2.1 _ hc) d (g H locs ls hP hD hS hl)
theorem go_ldc2 (C : Cxt p s m args meth c D tys N0 cc mL own ret nm) {i : Nat} {v : Int64} (hc : Cond.constantLong own i v ∈ BIG) (d : decode cc pc = .ok (.ldc2_w i, 3)) (g : Go p l e R s m args below meth c D N0 mL Q (w) (k) (n) (pc + 3) (lo) (.long v :: st)) : Go p l e R s m args below meth c D N0 mL Q (w) (k) (n) (pc) (lo) (st) := fun H locs ls hP hD hS hl => lv_ldc2 C.1 C.2.1 C.2.2.2.1 (C.2.2.2.2.1 _ hc) d (g H locs ls hP hD hS hl)
theorem go_iload_n (C : Cxt p s m args meth c D tys N0 cc mL own ret nm) {z : Fin 4} {i : Nat} {x : Int32} (j : Nat) (d : decode cc pc = .ok (.iload_n z, 1)) (hi : (z : Nat) = i) (h : lo[j]? = some (i, .int x)) (g : Go p l e R s m args below meth c D N0 mL Q (w) (k) (n) (pc + 1) (lo) (.int x :: st)) : Go p l e R s m args below meth c D N0 mL Q (w) (k) (n) (pc) (lo) (st) := fun H locs ls hP hD hS hl => lv_iload_n C.1 C.2.1 d hi (lv_at hl j h) (g H locs ls hP hD hS hl)
theorem go_iload (C : Cxt p s m args meth c D tys N0 cc mL own ret nm) {i : Nat} {x : Int32} (j : Nat) (d : decode cc pc = .ok (.iload i, 2)) (h : lo[j]? = some (i, .int x)) (g : Go p l e R s m args below meth c D N0 mL Q (w) (k) (n) (pc + 2) (lo) (.int x :: st)) : Go p l e R s m args below meth c D N0 mL Q (w) (k) (n) (pc) (lo) (st) := fun H locs ls hP hD hS hl => lv_iload C.1 C.2.1 d (lv_at hl j h) (g H locs ls hP hD hS hl)
theorem go_lload_n (C : Cxt p s m args meth c D tys N0 cc mL own ret nm) {z : Fin 4} {i : Nat} {x : Int64} (j : Nat) (d : decode cc pc = .ok (.lload_n z, 1)) (hi : (z : Nat) = i) (h : lo[j]? = some (i, .long x)) (g : Go p l e R s m args below meth c D N0 mL Q (w) (k) (n) (pc + 1) (lo) (.long x :: st)) : Go p l e R s m args below meth c D N0 mL Q (w) (k) (n) (pc) (lo) (st) := fun H locs ls hP hD hS hl => lv_lload_n C.1 C.2.1 d hi (lv_at hl j h) (g H locs ls hP hD hS hl)
theorem go_lload (C : Cxt p s m args meth c D tys N0 cc mL own ret nm) {i : Nat} {x : Int64} (j : Nat) (d : decode cc pc = .ok (.lload i, 2)) (h : lo[j]? = some (i, .long x)) (g : Go p l e R s m args below meth c D N0 mL Q (w) (k) (n) (pc + 2) (lo) (.long x :: st)) : Go p l e R s m args below meth c D N0 mL Q (w) (k) (n) (pc) (lo) (st) := fun H locs ls hP hD hS hl => lv_lload C.1 C.2.1 d (lv_at hl j h) (g H locs ls hP hD hS hl)
theorem go_aload_n (C : Cxt p s m args meth c D tys N0 cc mL own ret nm) {z : Fin 4} {i : Nat} {x : Nat} (j : Nat) (d : decode cc pc = .ok (.aload_n z, 1)) (hi : (z : Nat) = i) (h : lo[j]? = some (i, .ref x)) (g : Go p l e R s m args below meth c D N0 mL Q (w) (k) (n) (pc + 1) (lo) (.ref x :: st)) : Go p l e R s m args below meth c D N0 mL Q (w) (k) (n) (pc) (lo) (st) := fun H locs ls hP hD hS hl => lv_aload_n C.1 C.2.1 d hi (lv_at hl j h) (g H locs ls hP hD hS hl)
theorem go_aload (C : Cxt p s m args meth c D tys N0 cc mL own ret nm) {i : Nat} {x : Nat} (j : Nat) (d : decode cc pc = .ok (.aload i, 2)) (h : lo[j]? = some (i, .ref x)) (g : Go p l e R s m args below meth c D N0 mL Q (w) (k) (n) (pc + 2) (lo) (.ref x :: st)) : Go p l e R s m args below meth c D N0 mL Q (w) (k) (n) (pc) (lo) (st) := fun H locs ls hP hD hS hl => lv_aload C.1 C.2.1 d (lv_at hl j h) (g H locs ls hP hD hS hl)
theorem go_aload_nq (C : Cxt p s m args meth c D tys N0 cc mL own ret nm) {z : Fin 4} {i : Nat} {x : Option Nat} (j : Nat) (d : decode cc pc = .ok (.aload_n z, 1)) (hi : (z : Nat) = i) (h : lo[j]? = some (i, va_rf x)) (g : Go p l e R s m args below meth c D N0 mL Q (w) (k) (n) (pc + 1) (lo) (va_rf x :: st)) : Go p l e R s m args below meth c D N0 mL Q (w) (k) (n) (pc) (lo) (st) := by
  cases x with
  | none => exact fun H locs ls hP hD hS hl => lv_aload_nN C.1 C.2.1 d hi (lv_at hl j h) (g H locs ls hP hD hS hl)
  | some x => exact go_aload_n C j d hi h g
theorem go_aloadq (C : Cxt p s m args meth c D tys N0 cc mL own ret nm) {i : Nat} {x : Option Nat} (j : Nat) (d : decode cc pc = .ok (.aload i, 2)) (h : lo[j]? = some (i, va_rf x)) (g : Go p l e R s m args below meth c D N0 mL Q (w) (k) (n) (pc + 2) (lo) (va_rf x :: st)) : Go p l e R s m args below meth c D N0 mL Q (w) (k) (n) (pc) (lo) (st) := by
  cases x with
  | none => exact fun H locs ls hP hD hS hl => lv_aloadN C.1 C.2.1 d (lv_at hl j h) (g H locs ls hP hD hS hl)
  | some x => exact go_aload C j d h g
theorem go_istore_n (C : Cxt p s m args meth c D tys N0 cc mL own ret nm) {z : Fin 4} {i : Nat} {x : Int32} (d : decode cc pc = .ok (.istore_n z, 1)) (hi : (z : Nat) = i) (hn : i < mL) (h : (i, Value.int x) :: lo.filter (fun q => !(q.1 == i) && !(q.1 + 1 == i && q.2.category == 2)) = lo') (g : Go p l e R s m args below meth c D N0 mL Q (w) (k) (n) (pc + 1) (lo') (st)) : Go p l e R s m args below meth c D N0 mL Q (w) (k) (n) (pc) (lo) (.int x :: st) := fun H locs ls hP hD hS hl => lv_istore_n C.1 C.2.1 d hi hl hn h (fun ls2 hl2 => g H locs ls2 hP hD hS hl2)
theorem go_istore (C : Cxt p s m args meth c D tys N0 cc mL own ret nm) {i : Nat} {x : Int32} (d : decode cc pc = .ok (.istore i, 2)) (hn : i < mL) (h : (i, Value.int x) :: lo.filter (fun q => !(q.1 == i) && !(q.1 + 1 == i && q.2.category == 2)) = lo') (g : Go p l e R s m args below meth c D N0 mL Q (w) (k) (n) (pc + 2) (lo') (st)) : Go p l e R s m args below meth c D N0 mL Q (w) (k) (n) (pc) (lo) (.int x :: st) := fun H locs ls hP hD hS hl => lv_istore C.1 C.2.1 d hl hn h (fun ls2 hl2 => g H locs ls2 hP hD hS hl2)
theorem go_lstore_n (C : Cxt p s m args meth c D tys N0 cc mL own ret nm) {z : Fin 4} {i : Nat} {x : Int64} (d : decode cc pc = .ok (.lstore_n z, 1)) (hi : (z : Nat) = i) (hn : i + 1 < mL) (h : (i, Value.long x) :: lo.filter (fun q => !(q.1 == i) && (!(q.1 == i + 1) && !(q.1 + 1 == i && q.2.category == 2))) = lo') (g : Go p l e R s m args below meth c D N0 mL Q (w) (k) (n) (pc + 1) (lo') (st)) : Go p l e R s m args below meth c D N0 mL Q (w) (k) (n) (pc) (lo) (.long x :: st) := fun H locs ls hP hD hS hl => lv_lstore_n C.1 C.2.1 d hi hl hn h (fun ls2 hl2 => g H locs ls2 hP hD hS hl2)
theorem go_lstore (C : Cxt p s m args meth c D tys N0 cc mL own ret nm) {i : Nat} {x : Int64} (d : decode cc pc = .ok (.lstore i, 2)) (hn : i + 1 < mL) (h : (i, Value.long x) :: lo.filter (fun q => !(q.1 == i) && (!(q.1 == i + 1) && !(q.1 + 1 == i && q.2.category == 2))) = lo') (g : Go p l e R s m args below meth c D N0 mL Q (w) (k) (n) (pc + 2) (lo') (st)) : Go p l e R s m args below meth c D N0 mL Q (w) (k) (n) (pc) (lo) (.long x :: st) := fun H locs ls hP hD hS hl => lv_lstore C.1 C.2.1 d hl hn h (fun ls2 hl2 => g H locs ls2 hP hD hS hl2)
theorem go_astore_n (C : Cxt p s m args meth c D tys N0 cc mL own ret nm) {z : Fin 4} {i : Nat} {x : Nat} (d : decode cc pc = .ok (.astore_n z, 1)) (hi : (z : Nat) = i) (hn : i < mL) (h : (i, Value.ref x) :: lo.filter (fun q => !(q.1 == i) && !(q.1 + 1 == i && q.2.category == 2)) = lo') (g : Go p l e R s m args below meth c D N0 mL Q (w) (k) (n) (pc + 1) (lo') (st)) : Go p l e R s m args below meth c D N0 mL Q (w) (k) (n) (pc) (lo) (.ref x :: st) := fun H locs ls hP hD hS hl => lv_astore_n C.1 C.2.1 d hi hl hn h (fun ls2 hl2 => g H locs ls2 hP hD hS hl2)
theorem go_astore (C : Cxt p s m args meth c D tys N0 cc mL own ret nm) {i : Nat} {x : Nat} (d : decode cc pc = .ok (.astore i, 2)) (hn : i < mL) (h : (i, Value.ref x) :: lo.filter (fun q => !(q.1 == i) && !(q.1 + 1 == i && q.2.category == 2)) = lo') (g : Go p l e R s m args below meth c D N0 mL Q (w) (k) (n) (pc + 2) (lo') (st)) : Go p l e R s m args below meth c D N0 mL Q (w) (k) (n) (pc) (lo) (.ref x :: st) := fun H locs ls hP hD hS hl => lv_astore C.1 C.2.1 d hl hn h (fun ls2 hl2 => g H locs ls2 hP hD hS hl2)
theorem go_astore_nq (C : Cxt p s m args meth c D tys N0 cc mL own ret nm) {z : Fin 4} {i : Nat} {x : Option Nat} (d : decode cc pc = .ok (.astore_n z, 1)) (hi : (z : Nat) = i) (hn : i < mL) (h : (i, va_rf x) :: lo.filter (fun q => !(q.1 == i) && !(q.1 + 1 == i && q.2.category == 2)) = lo') (g : Go p l e R s m args below meth c D N0 mL Q (w) (k) (n) (pc + 1) (lo') (st)) : Go p l e R s m args below meth c D N0 mL Q (w) (k) (n) (pc) (lo) (va_rf x :: st) := by
  cases x with
  | none => exact fun H locs ls hP hD hS hl => lv_astore_nN C.1 C.2.1 d hi hl hn h (fun ls2 hl2 => g H locs ls2 hP hD hS hl2)
  | some x => exact go_astore_n C d hi hn h g
theorem go_astoreq (C : Cxt p s m args meth c D tys N0 cc mL own ret nm) {i : Nat} {x : Option Nat} (d : decode cc pc = .ok (.astore i, 2)) (hn : i < mL) (h : (i, va_rf x) :: lo.filter (fun q => !(q.1 == i) && !(q.1 + 1 == i && q.2.category == 2)) = lo') (g : Go p l e R s m args below meth c D N0 mL Q (w) (k) (n) (pc + 2) (lo') (st)) : Go p l e R s m args below meth c D N0 mL Q (w) (k) (n) (pc) (lo) (va_rf x :: st) := by
  cases x with
  | none => exact fun H locs ls hP hD hS hl => lv_astoreN C.1 C.2.1 d hl hn h (fun ls2 hl2 => g H locs ls2 hP hD hS hl2)
  | some x => exact go_astore C d hn h g
theorem go_iinc (C : Cxt p s m args meth c D tys N0 cc mL own ret nm) {i : Nat} {z : Int} {x v : Int32} (j : Nat) (d : decode cc pc = .ok (.iinc i z, 3)) (hj : lo[j]? = some (i, .int x)) (hv : x + Int32.ofInt z = v) (hn : i < mL) (h : (i, Value.int v) :: lo.filter (fun q => !(q.1 == i) && !(q.1 + 1 == i && q.2.category == 2)) = lo') (g : Go p l e R s m args below meth c D N0 mL Q (w) (k) (n) (pc + 3) (lo') (st)) : Go p l e R s m args below meth c D N0 mL Q (w) (k) (n) (pc) (lo) (st) := fun H locs ls hP hD hS hl => lv_iinc C.1 C.2.1 d hl hj hv hn h (fun ls2 hl2 => g H locs ls2 hP hD hS hl2)
theorem go_lo (js : List Nat) (h : lv_pick lo js = lo') (g : Go p l e R s m args below meth c D N0 mL Q (w) (k) (n) (pc) (lo') (st)) : Go p l e R s m args below meth c D N0 mL Q (w) (k) (n) (pc) (lo) (st) := fun H locs ls hP hD hS hl => g H locs ls hP hD hS (lv_sub hl js h)
theorem go_iadd (C : Cxt p s m args meth c D tys N0 cc mL own ret nm) {x y : Int32} (d : decode cc pc = .ok (.iadd, 1)) (g : Go p l e R s m args below meth c D N0 mL Q (w) (k) (n) (pc + 1) (lo) (.int (x + y) :: st)) : Go p l e R s m args below meth c D N0 mL Q (w) (k) (n) (pc) (lo) (.int y :: .int x :: st) := fun H locs ls hP hD hS hl => lv_iadd C.1 C.2.1 d (g H locs ls hP hD hS hl)
theorem go_isub (C : Cxt p s m args meth c D tys N0 cc mL own ret nm) {x y : Int32} (d : decode cc pc = .ok (.isub, 1)) (g : Go p l e R s m args below meth c D N0 mL Q (w) (k) (n) (pc + 1) (lo) (.int (x - y) :: st)) : Go p l e R s m args below meth c D N0 mL Q (w) (k) (n) (pc) (lo) (.int y :: .int x :: st) := fun H locs ls hP hD hS hl => lv_isub C.1 C.2.1 d (g H locs ls hP hD hS hl)
theorem go_iand (C : Cxt p s m args meth c D tys N0 cc mL own ret nm) {x y : Int32} (d : decode cc pc = .ok (.iand, 1)) (g : Go p l e R s m args below meth c D N0 mL Q (w) (k) (n) (pc + 1) (lo) (.int (x &&& y) :: st)) : Go p l e R s m args below meth c D N0 mL Q (w) (k) (n) (pc) (lo) (.int y :: .int x :: st) := fun H locs ls hP hD hS hl => lv_iand C.1 C.2.1 d (g H locs ls hP hD hS hl)
theorem go_ladd (C : Cxt p s m args meth c D tys N0 cc mL own ret nm) {x y : Int64} (d : decode cc pc = .ok (.ladd, 1)) (g : Go p l e R s m args below meth c D N0 mL Q (w) (k) (n) (pc + 1) (lo) (.long (x + y) :: st)) : Go p l e R s m args below meth c D N0 mL Q (w) (k) (n) (pc) (lo) (.long y :: .long x :: st) := fun H locs ls hP hD hS hl => lv_ladd C.1 C.2.1 d (g H locs ls hP hD hS hl)
theorem go_lsub (C : Cxt p s m args meth c D tys N0 cc mL own ret nm) {x y : Int64} (d : decode cc pc = .ok (.lsub, 1)) (g : Go p l e R s m args below meth c D N0 mL Q (w) (k) (n) (pc + 1) (lo) (.long (x - y) :: st)) : Go p l e R s m args below meth c D N0 mL Q (w) (k) (n) (pc) (lo) (.long y :: .long x :: st) := fun H locs ls hP hD hS hl => lv_lsub C.1 C.2.1 d (g H locs ls hP hD hS hl)
theorem go_lmul (C : Cxt p s m args meth c D tys N0 cc mL own ret nm) {x y : Int64} (d : decode cc pc = .ok (.lmul, 1)) (g : Go p l e R s m args below meth c D N0 mL Q (w) (k) (n) (pc + 1) (lo) (.long (x * y) :: st)) : Go p l e R s m args below meth c D N0 mL Q (w) (k) (n) (pc) (lo) (.long y :: .long x :: st) := fun H locs ls hP hD hS hl => lv_lmul C.1 C.2.1 d (g H locs ls hP hD hS hl)
theorem go_ldiv (C : Cxt p s m args meth c D tys N0 cc mL own ret nm) {x y : Int64} (d : decode cc pc = .ok (.ldiv, 1)) (hne : ¬ y = 0) (g : Go p l e R s m args below meth c D N0 mL Q (w) (k) (n) (pc + 1) (lo) (.long (x / y) :: st)) : Go p l e R s m args below meth c D N0 mL Q (w) (k) (n) (pc) (lo) (.long y :: .long x :: st) := fun H locs ls hP hD hS hl => lv_ldiv C.1 C.2.1 d hne (g H locs ls hP hD hS hl)
theorem go_lrem (C : Cxt p s m args meth c D tys N0 cc mL own ret nm) {x y : Int64} (d : decode cc pc = .ok (.lrem, 1)) (hne : ¬ y = 0) (g : Go p l e R s m args below meth c D N0 mL Q (w) (k) (n) (pc + 1) (lo) (.long (x - x / y * y) :: st)) : Go p l e R s m args below meth c D N0 mL Q (w) (k) (n) (pc) (lo) (.long y :: .long x :: st) := fun H locs ls hP hD hS hl => lv_lrem C.1 C.2.1 d hne (g H locs ls hP hD hS hl)
theorem go_i2l (C : Cxt p s m args meth c D tys N0 cc mL own ret nm) {x : Int32} (d : decode cc pc = .ok (.i2l, 1)) (g : Go p l e R s m args below meth c D N0 mL Q (w) (k) (n) (pc + 1) (lo) (.long x.toInt64 :: st)) : Go p l e R s m args below meth c D N0 mL Q (w) (k) (n) (pc) (lo) (.int x :: st) := fun H locs ls hP hD hS hl => lv_i2l C.1 C.2.1 d rfl (g H locs ls hP hD hS hl)
theorem go_l2i (C : Cxt p s m args meth c D tys N0 cc mL own ret nm) {x : Int64} (d : decode cc pc = .ok (.l2i, 1)) (g : Go p l e R s m args below meth c D N0 mL Q (w) (k) (n) (pc + 1) (lo) (.int x.toInt32 :: st)) : Go p l e R s m args below meth c D N0 mL Q (w) (k) (n) (pc) (lo) (.long x :: st) := fun H locs ls hP hD hS hl => lv_l2i C.1 C.2.1 d rfl (g H locs ls hP hD hS hl)
theorem go_lcmp (C : Cxt p s m args meth c D tys N0 cc mL own ret nm) {x y : Int64} (d : decode cc pc = .ok (.lcmp, 1)) (g : Go p l e R s m args below meth c D N0 mL Q (w) (k) (n) (pc + 1) (lo) (.int (lg_cmp x y) :: st)) : Go p l e R s m args below meth c D N0 mL Q (w) (k) (n) (pc) (lo) (.long y :: .long x :: st) := fun H locs ls hP hD hS hl => W.lcmp C.1 C.2.1 d (g H locs ls hP hD hS hl)
theorem go_dup (C : Cxt p s m args meth c D tys N0 cc mL own ret nm) {v : Value} (d : decode cc pc = .ok (.dup, 1)) (hv : v.category = 1) (g : Go p l e R s m args below meth c D N0 mL Q (w) (k) (n) (pc + 1) (lo) (v :: v :: st)) : Go p l e R s m args below meth c D N0 mL Q (w) (k) (n) (pc) (lo) (v :: st) := fun H locs ls hP hD hS hl => lv_dup C.1 C.2.1 d hv (g H locs ls hP hD hS hl)
theorem go_pop (C : Cxt p s m args meth c D tys N0 cc mL own ret nm) {v : Value} (d : decode cc pc = .ok (.pop, 1)) (hv : v.category = 1) (g : Go p l e R s m args below meth c D N0 mL Q (w) (k) (n) (pc + 1) (lo) (st)) : Go p l e R s m args below meth c D N0 mL Q (w) (k) (n) (pc) (lo) (v :: st) := fun H locs ls hP hD hS hl => lv_pop C.1 C.2.1 d hv (g H locs ls hP hD hS hl)
theorem go_dup2 (C : Cxt p s m args meth c D tys N0 cc mL own ret nm) {v u : Value} (d : decode cc pc = .ok (.dup2, 1)) (hv : v.category = 1) (hu : u.category = 1) (g : Go p l e R s m args below meth c D N0 mL Q (w) (k) (n) (pc + 1) (lo) (v :: u :: v :: u :: st)) : Go p l e R s m args below meth c D N0 mL Q (w) (k) (n) (pc) (lo) (v :: u :: st) := fun H locs ls hP hD hS hl => lv_dup2_11 C.1 C.2.1 d hv hu (g H locs ls hP hD hS hl)
theorem go_null (C : Cxt p s m args meth c D tys N0 cc mL own ret nm) (d : decode cc pc = .ok (.aconst_null, 1)) (g : Go p l e R s m args below meth c D N0 mL Q (w) (k) (n) (pc + 1) (lo) (.null :: st)) : Go p l e R s m args below meth c D N0 mL Q (w) (k) (n) (pc) (lo) (st) := fun H locs ls hP hD hS hl => lv_null C.1 C.2.1 d (g H locs ls hP hD hS hl)
theorem go_goto (C : Cxt p s m args meth c D tys N0 cc mL own ret nm) {off : Int} {tgt : Nat} (d : decode cc pc = .ok (.goto off, 3)) (ht : (pc : Int) + off = (tgt : Int)) (g : Go p l e R s m args below meth c D N0 mL Q (w) (k) (n) (tgt) (lo) (st)) : Go p l e R s m args below meth c D N0 mL Q (w) (k) (n) (pc) (lo) (st) := fun H locs ls hP hD hS hl => lv_goto C.1 C.2.1 d ht (g H locs ls hP hD hS hl)
theorem go_if_eq (C : Cxt p s m args meth c D tys N0 cc mL own ret nm) {x : Int32} {off : Int} {tgt : Nat} (d : decode cc pc = .ok (.ifCond .eq off, 3)) (ht : (pc : Int) + off = (tgt : Int)) (gt : x = 0 → Go p l e R s m args below meth c D N0 mL Q (w) (k) (n) (tgt) (lo) (st)) (gf : ¬ x = 0 → Go p l e R s m args below meth c D N0 mL Q (w) (k) (n) (pc + 3) (lo) (st)) : Go p l e R s m args below meth c D N0 mL Q (w) (k) (n) (pc) (lo) (.int x :: st) := fun H locs ls hP hD hS hl => lv_if_eq C.1 C.2.1 d ht (fun z => gt z H locs ls hP hD hS hl) (fun z => gf z H locs ls hP hD hS hl)
theorem go_icmp_eq (C : Cxt p s m args meth c D tys N0 cc mL own ret nm) {x y : Int32} {off : Int} {tgt : Nat} (d : decode cc pc = .ok (.if_icmp .eq off, 3)) (ht : (pc : Int) + off = (tgt : Int)) (gt : x = y → Go p l e R s m args below meth c D N0 mL Q (w) (k) (n) (tgt) (lo) (st)) (gf : ¬ x = y → Go p l e R s m args below meth c D N0 mL Q (w) (k) (n) (pc + 3) (lo) (st)) : Go p l e R s m args below meth c D N0 mL Q (w) (k) (n) (pc) (lo) (.int y :: .int x :: st) := fun H locs ls hP hD hS hl => lv_icmp_eq C.1 C.2.1 d ht (fun z => gt z H locs ls hP hD hS hl) (fun z => gf z H locs ls hP hD hS hl)
theorem go_if_ne (C : Cxt p s m args meth c D tys N0 cc mL own ret nm) {x : Int32} {off : Int} {tgt : Nat} (d : decode cc pc = .ok (.ifCond .ne off, 3)) (ht : (pc : Int) + off = (tgt : Int)) (gt : ¬ x = 0 → Go p l e R s m args below meth c D N0 mL Q (w) (k) (n) (tgt) (lo) (st)) (gf : x = 0 → Go p l e R s m args below meth c D N0 mL Q (w) (k) (n) (pc + 3) (lo) (st)) : Go p l e R s m args below meth c D N0 mL Q (w) (k) (n) (pc) (lo) (.int x :: st) := fun H locs ls hP hD hS hl => lv_if_ne C.1 C.2.1 d ht (fun z => gt z H locs ls hP hD hS hl) (fun z => gf z H locs ls hP hD hS hl)
theorem go_icmp_ne (C : Cxt p s m args meth c D tys N0 cc mL own ret nm) {x y : Int32} {off : Int} {tgt : Nat} (d : decode cc pc = .ok (.if_icmp .ne off, 3)) (ht : (pc : Int) + off = (tgt : Int)) (gt : ¬ x = y → Go p l e R s m args below meth c D N0 mL Q (w) (k) (n) (tgt) (lo) (st)) (gf : x = y → Go p l e R s m args below meth c D N0 mL Q (w) (k) (n) (pc + 3) (lo) (st)) : Go p l e R s m args below meth c D N0 mL Q (w) (k) (n) (pc) (lo) (.int y :: .int x :: st) := fun H locs ls hP hD hS hl => lv_icmp_ne C.1 C.2.1 d ht (fun z => gt z H locs ls hP hD hS hl) (fun z => gf z H locs ls hP hD hS hl)
theorem go_if_lt (C : Cxt p s m args meth c D tys N0 cc mL own ret nm) {x : Int32} {off : Int} {tgt : Nat} (d : decode cc pc = .ok (.ifCond .lt off, 3)) (ht : (pc : Int) + off = (tgt : Int)) (gt : x < 0 → Go p l e R s m args below meth c D N0 mL Q (w) (k) (n) (tgt) (lo) (st)) (gf : ¬ x < 0 → Go p l e R s m args below meth c D N0 mL Q (w) (k) (n) (pc + 3) (lo) (st)) : Go p l e R s m args below meth c D N0 mL Q (w) (k) (n) (pc) (lo) (.int x :: st) := fun H locs ls hP hD hS hl => lv_if_lt C.1 C.2.1 d ht (fun z => gt z H locs ls hP hD hS hl) (fun z => gf z H locs ls hP hD hS hl)
theorem go_icmp_lt (C : Cxt p s m args meth c D tys N0 cc mL own ret nm) {x y : Int32} {off : Int} {tgt : Nat} (d : decode cc pc = .ok (.if_icmp .lt off, 3)) (ht : (pc : Int) + off = (tgt : Int)) (gt : x < y → Go p l e R s m args below meth c D N0 mL Q (w) (k) (n) (tgt) (lo) (st)) (gf : ¬ x < y → Go p l e R s m args below meth c D N0 mL Q (w) (k) (n) (pc + 3) (lo) (st)) : Go p l e R s m args below meth c D N0 mL Q (w) (k) (n) (pc) (lo) (.int y :: .int x :: st) := fun H locs ls hP hD hS hl => lv_icmp_lt C.1 C.2.1 d ht (fun z => gt z H locs ls hP hD hS hl) (fun z => gf z H locs ls hP hD hS hl)
theorem go_if_ge (C : Cxt p s m args meth c D tys N0 cc mL own ret nm) {x : Int32} {off : Int} {tgt : Nat} (d : decode cc pc = .ok (.ifCond .ge off, 3)) (ht : (pc : Int) + off = (tgt : Int)) (gt : 0 ≤ x → Go p l e R s m args below meth c D N0 mL Q (w) (k) (n) (tgt) (lo) (st)) (gf : ¬ 0 ≤ x → Go p l e R s m args below meth c D N0 mL Q (w) (k) (n) (pc + 3) (lo) (st)) : Go p l e R s m args below meth c D N0 mL Q (w) (k) (n) (pc) (lo) (.int x :: st) := fun H locs ls hP hD hS hl => lv_if_ge C.1 C.2.1 d ht (fun z => gt z H locs ls hP hD hS hl) (fun z => gf z H locs ls hP hD hS hl)
theorem go_icmp_ge (C : Cxt p s m args meth c D tys N0 cc mL own ret nm) {x y : Int32} {off : Int} {tgt : Nat} (d : decode cc pc = .ok (.if_icmp .ge off, 3)) (ht : (pc : Int) + off = (tgt : Int)) (gt : y ≤ x → Go p l e R s m args below meth c D N0 mL Q (w) (k) (n) (tgt) (lo) (st)) (gf : ¬ y ≤ x → Go p l e R s m args below meth c D N0 mL Q (w) (k) (n) (pc + 3) (lo) (st)) : Go p l e R s m args below meth c D N0 mL Q (w) (k) (n) (pc) (lo) (.int y :: .int x :: st) := fun H locs ls hP hD hS hl => lv_icmp_ge C.1 C.2.1 d ht (fun z => gt z H locs ls hP hD hS hl) (fun z => gf z H locs ls hP hD hS hl)
theorem go_if_gt (C : Cxt p s m args meth c D tys N0 cc mL own ret nm) {x : Int32} {off : Int} {tgt : Nat} (d : decode cc pc = .ok (.ifCond .gt off, 3)) (ht : (pc : Int) + off = (tgt : Int)) (gt : 0 < x → Go p l e R s m args below meth c D N0 mL Q (w) (k) (n) (tgt) (lo) (st)) (gf : ¬ 0 < x → Go p l e R s m args below meth c D N0 mL Q (w) (k) (n) (pc + 3) (lo) (st)) : Go p l e R s m args below meth c D N0 mL Q (w) (k) (n) (pc) (lo) (.int x :: st) := fun H locs ls hP hD hS hl => lv_if_gt C.1 C.2.1 d ht (fun z => gt z H locs ls hP hD hS hl) (fun z => gf z H locs ls hP hD hS hl)
theorem go_icmp_gt (C : Cxt p s m args meth c D tys N0 cc mL own ret nm) {x y : Int32} {off : Int} {tgt : Nat} (d : decode cc pc = .ok (.if_icmp .gt off, 3)) (ht : (pc : Int) + off = (tgt : Int)) (gt : y < x → Go p l e R s m args below meth c D N0 mL Q (w) (k) (n) (tgt) (lo) (st)) (gf : ¬ y < x → Go p l e R s m args below meth c D N0 mL Q (w) (k) (n) (pc + 3) (lo) (st)) : Go p l e R s m args below meth c D N0 mL Q (w) (k) (n) (pc) (lo) (.int y :: .int x :: st) := fun H locs ls hP hD hS hl => lv_icmp_gt C.1 C.2.1 d ht (fun z => gt z H locs ls hP hD hS hl) (fun z => gf z H locs ls hP hD hS hl)
theorem go_if_le (C : Cxt p s m args meth c D tys N0 cc mL own ret nm) {x : Int32} {off : Int} {tgt : Nat} (d : decode cc pc = .ok (.ifCond .le off, 3)) (ht : (pc : Int) + off = (tgt : Int)) (gt : x ≤ 0 → Go p l e R s m args below meth c D N0 mL Q (w) (k) (n) (tgt) (lo) (st)) (gf : ¬ x ≤ 0 → Go p l e R s m args below meth c D N0 mL Q (w) (k) (n) (pc + 3) (lo) (st)) : Go p l e R s m args below meth c D N0 mL Q (w) (k) (n) (pc) (lo) (.int x :: st) := fun H locs ls hP hD hS hl => lv_if_le C.1 C.2.1 d ht (fun z => gt z H locs ls hP hD hS hl) (fun z => gf z H locs ls hP hD hS hl)
theorem go_icmp_le (C : Cxt p s m args meth c D tys N0 cc mL own ret nm) {x y : Int32} {off : Int} {tgt : Nat} (d : decode cc pc = .ok (.if_icmp .le off, 3)) (ht : (pc : Int) + off = (tgt : Int)) (gt : x ≤ y → Go p l e R s m args below meth c D N0 mL Q (w) (k) (n) (tgt) (lo) (st)) (gf : ¬ x ≤ y → Go p l e R s m args below meth c D N0 mL Q (w) (k) (n) (pc + 3) (lo) (st)) : Go p l e R s m args below meth c D N0 mL Q (w) (k) (n) (pc) (lo) (.int y :: .int x :: st) := fun H locs ls hP hD hS hl => lv_icmp_le C.1 C.2.1 d ht (fun z => gt z H locs ls hP hD hS hl) (fun z => gf z H locs ls hP hD hS hl)
theorem go_ifnonnull (C : Cxt p s m args meth c D tys N0 cc mL own ret nm) {x : Nat} {off : Int} {tgt : Nat} (d : decode cc pc = .ok (.ifnonnull off, 3)) (ht : (pc : Int) + off = (tgt : Int)) (g : Go p l e R s m args below meth c D N0 mL Q (w) (k) (n) (tgt) (lo) (st)) : Go p l e R s m args below meth c D N0 mL Q (w) (k) (n) (pc) (lo) (.ref x :: st) := fun H locs ls hP hD hS hl => lv_ifnonnull C.1 C.2.1 d ht (g H locs ls hP hD hS hl)
theorem go_ifnull (C : Cxt p s m args meth c D tys N0 cc mL own ret nm) {x : Nat} {off : Int} (d : decode cc pc = .ok (.ifnull off, 3)) (g : Go p l e R s m args below meth c D N0 mL Q (w) (k) (n) (pc + 3) (lo) (st)) : Go p l e R s m args below meth c D N0 mL Q (w) (k) (n) (pc) (lo) (.ref x :: st) := fun H locs ls hP hD hS hl => lv_ifnull C.1 C.2.1 d (g H locs ls hP hD hS hl)
theorem go_ifnonnullN (C : Cxt p s m args meth c D tys N0 cc mL own ret nm) {off : Int} (d : decode cc pc = .ok (.ifnonnull off, 3)) (g : Go p l e R s m args below meth c D N0 mL Q (w) (k) (n) (pc + 3) (lo) (st)) : Go p l e R s m args below meth c D N0 mL Q (w) (k) (n) (pc) (lo) (.null :: st) := fun H locs ls hP hD hS hl => lv_ifnonnullN C.1 C.2.1 d (g H locs ls hP hD hS hl)
theorem go_ifnullN (C : Cxt p s m args meth c D tys N0 cc mL own ret nm) {off : Int} {tgt : Nat} (d : decode cc pc = .ok (.ifnull off, 3)) (ht : (pc : Int) + off = (tgt : Int)) (g : Go p l e R s m args below meth c D N0 mL Q (w) (k) (n) (tgt) (lo) (st)) : Go p l e R s m args below meth c D N0 mL Q (w) (k) (n) (pc) (lo) (.null :: st) := fun H locs ls hP hD hS hl => lv_ifnullN C.1 C.2.1 d ht (g H locs ls hP hD hS hl)
theorem go_switch (C : Cxt p s m args meth c D tys N0 cc mL own ret nm) {dflt lo9 hi : Int} {offs : Array Int} {len : Nat} {x : Int32} {off : Int} {tgt : Nat} (d : decode cc pc = .ok (.tableswitch dflt lo9 hi offs, len)) (h1 : ¬ x.toInt < lo9) (h2 : ¬ hi < x.toInt) (ho : offs[(x.toInt - lo9).toNat]? = some off) (ht : (pc : Int) + off = (tgt : Int)) (g : Go p l e R s m args below meth c D N0 mL Q (w) (k) (n) (tgt) (lo) (st)) : Go p l e R s m args below meth c D N0 mL Q (w) (k) (n) (pc) (lo) (.int x :: st) := fun H locs ls hP hD hS hl => lv_tableIn C.1 C.2.1 d h1 h2 ho ht (g H locs ls hP hD hS hl)
theorem go_switchOut (C : Cxt p s m args meth c D tys N0 cc mL own ret nm) {dflt lo9 hi : Int} {offs : Array Int} {len : Nat} {x : Int32} {tgt : Nat} (d : decode cc pc = .ok (.tableswitch dflt lo9 hi offs, len)) (h : x.toInt < lo9 ∨ hi < x.toInt) (ht : (pc : Int) + dflt = (tgt : Int)) (g : Go p l e R s m args below meth c D N0 mL Q (w) (k) (n) (tgt) (lo) (st)) : Go p l e R s m args below meth c D N0 mL Q (w) (k) (n) (pc) (lo) (.int x :: st) := fun H locs ls hP hD hS hl => lv_tableOut C.1 C.2.1 d h ht (g H locs ls hP hD hS hl)
theorem go_min (C : Cxt p s m args meth c D tys N0 cc mL own ret nm) {i : Nat} {x y : Int32} (h1 : Cond.methodLink own i Lib.Math.min.name ∈ BIG) (h2 : Cond.static Lib.Math.min.name ∈ BIG) (h3 : Cond.initialized "java/lang/Math" ∈ BIG) (h4 : Cond.code Lib.Math.min.name Lib.Math.min.code 2 (some .int) ∈ BIG) (hf : 1 ≤ R.frames) (hlo : (st.map fun v => v.category).sum + 13 ≤ R.locals) (hc : k ≤ R.cells) (hs : n ≤ R.slots) (d : decode cc pc = .ok (.invokestatic i, 3)) (g : Go p l e R s m args below meth c D N0 mL Q (w) (k) (n) (pc + 3) (lo) (.int (if y < x then y else x) :: st)) : Go p l e R s m args below meth c D N0 mL Q (w) (k) (n) (pc) (lo) (.int y :: .int x :: st) := fun H locs ls hP hD hS hl => va_mmin C.1 C.2.1 (C.2.2.1.trans hl.1.symm) C.2.2.2.1 (C.2.2.2.2.1 _ h1) (C.2.2.2.2.1 _ h2) (C.2.2.2.2.1 _ h3) (C.2.2.2.2.1 _ h4) hf hlo hc hs d (g H locs ls hP hD hS hl)
theorem go_minL (C : Cxt p s m args meth c D tys N0 cc mL own ret nm) {i : Nat} {x y : Int64} (h1 : Cond.methodLink own i Lib.MathLoose.min_long.x ∈ BIG) (h2 : Cond.static Lib.MathLoose.min_long.x ∈ BIG) (h3 : Cond.initialized "java/lang/Math" ∈ BIG) (h4 : Cond.code Lib.MathLoose.min_long.x Lib.MathLoose.min_long.code 4 (some .long) ∈ BIG) (hf : 1 ≤ R.frames) (hlo : (st.map fun v => v.category).sum + 15 ≤ R.locals) (hc : k ≤ R.cells) (hs : n ≤ R.slots) (d : decode cc pc = .ok (.invokestatic i, 3)) (g : Go p l e R s m args below meth c D N0 mL Q (w) (k) (n) (pc + 3) (lo) (.long (if y < x then y else x) :: st)) : Go p l e R s m args below meth c D N0 mL Q (w) (k) (n) (pc) (lo) (.long y :: .long x :: st) := fun H locs ls hP hD hS hl => va_mmin_long C.1 C.2.1 (C.2.2.1.trans hl.1.symm) C.2.2.2.1 (C.2.2.2.2.1 _ h1) (C.2.2.2.2.1 _ h2) (C.2.2.2.2.1 _ h3) (C.2.2.2.2.1 _ h4) hf hlo hc hs d (g H locs ls hP hD hS hl)
theorem go_widen {k2 n2 : Nat} (h1 : k ≤ k2) (h2 : n ≤ n2) (g : Go p l e R s m args below meth c D N0 mL Q (w) (k2) (n2) (pc) (lo) (st)) : Go p l e R s m args below meth c D N0 mL Q (w) (k) (n) (pc) (lo) (st) := fun H locs ls hP hD hS hl => W.widen h1 h2 (g H locs ls hP hD hS hl)
theorem go_w {w2 : va_W} (h : w = w2) (g : Go p l e R s m args below meth c D N0 mL Q (w2) (k) (n) (pc) (lo) (st)) : Go p l e R s m args below meth c D N0 mL Q (w) (k) (n) (pc) (lo) (st) := by subst h; exact g
theorem go_st {st2 : List Value} (h : st = st2) (g : Go p l e R s m args below meth c D N0 mL Q (w) (k) (n) (pc) (lo) (st2)) : Go p l e R s m args below meth c D N0 mL Q (w) (k) (n) (pc) (lo) (st) := by subst h; exact g
variable {po : Option Value → va_W → Prop} {xp : String → va_W → Prop} {mc ms : Nat}
theorem go_x (g : Go p l e R s m args below meth c D N0 mL (MQ below (nQ D N0 po) args s mc ms (nA N0)) (w) (k) (n) (pc) (lo) (st)) : Go p l e R s m args below meth c D N0 mL (vx_MQ below (nQ D N0 po) (nX D N0 xp) args s mc ms (nA N0)) (w) (k) (n) (pc) (lo) (st) := fun H locs ls hP hD hS hl => vx_ret (g H locs ls hP hD hS hl)
theorem nb_q {r : Option Value} {H : Heap} {locs : List Loc} (hp : po r w) (hP : va_P D vwCl w H) (hD : va_D (nA N0) w) (hS : va_S (nA N0) s.heap H locs) : ∀ t : State, t.heap = H → s.WarmedH t.vm → nQ D N0 po args s (.returned r) t := fun t ht _ => ⟨⟨r, w, rfl, hp, by rw [ht]; exact hP, hD⟩, hS.F ht⟩
theorem go_ireturn (C : Cxt p s m args meth c D tys N0 cc mL own ret nm) {v : Int32} (hr : ret = some .int) (d : decode cc pc = .ok (.ireturn, 1)) (hk : k ≤ mc) (hn : n ≤ ms) (hp : po (some (.int v)) w) : Go p l e R s m args below meth c D N0 mL (MQ below (nQ D N0 po) args s mc ms (nA N0)) (w) (k) (n) (pc) (lo) ([.int v]) := fun H locs ls hP hD hS hl => W.widen hk hn (W.iret C.1 C.2.1 (C.2.2.2.2.2.2.2.2.1.trans hr) (nb_q hp hP hD hS) hS.2.2 d C.2.2.2.2.2.2.2.1)
theorem go_zreturn (C : Cxt p s m args meth c D tys N0 cc mL own ret nm) {v : Int32} {ty : FieldType} (hr : ret = some ty) (hv : narrow ty (.int v) = .int v) (d : decode cc pc = .ok (.ireturn, 1)) (hk : k ≤ mc) (hn : n ≤ ms) (hp : po (some (.int v)) w) : Go p l e R s m args below meth c D N0 mL (MQ below (nQ D N0 po) args s mc ms (nA N0)) (w) (k) (n) (pc) (lo) ([.int v]) := fun H locs ls hP hD hS hl => W.widen hk hn (W.zret C.1 C.2.1 (C.2.2.2.2.2.2.2.2.1.trans hr) hv (nb_q hp hP hD hS) hS.2.2 d C.2.2.2.2.2.2.2.1)
theorem go_lreturn (C : Cxt p s m args meth c D tys N0 cc mL own ret nm) {v : Int64} (hr : ret = some .long) (d : decode cc pc = .ok (.lreturn, 1)) (hk : k ≤ mc) (hn : n ≤ ms) (hp : po (some (.long v)) w) : Go p l e R s m args below meth c D N0 mL (MQ below (nQ D N0 po) args s mc ms (nA N0)) (w) (k) (n) (pc) (lo) ([.long v]) := fun H locs ls hP hD hS hl => W.widen hk hn (W.lret C.1 C.2.1 (C.2.2.2.2.2.2.2.2.1.trans hr) (nb_q hp hP hD hS) hS.2.2 d C.2.2.2.2.2.2.2.1)
theorem go_return (C : Cxt p s m args meth c D tys N0 cc mL own ret nm) (hr : ret = none) (d : decode cc pc = .ok (.return_, 1)) (hk : k ≤ mc) (hn : n ≤ ms) (hp : po (none) w) : Go p l e R s m args below meth c D N0 mL (MQ below (nQ D N0 po) args s mc ms (nA N0)) (w) (k) (n) (pc) (lo) ([]) := fun H locs ls hP hD hS hl => W.widen hk hn (W.vret C.1 C.2.1 (C.2.2.2.2.2.2.2.2.1.trans hr) (nb_q hp hP hD hS) hS.2.2 d C.2.2.2.2.2.2.2.1)
theorem go_areturnq (C : Cxt p s m args meth c D tys N0 cc mL own ret nm) {x : Option Nat} {cn : String} (hr : ret = some (.object cn)) (d : decode cc pc = .ok (.areturn, 1)) (hk : k ≤ mc) (hn : n ≤ ms) (hp : po (some (va_rf x)) w) : Go p l e R s m args below meth c D N0 mL (MQ below (nQ D N0 po) args s mc ms (nA N0)) (w) (k) (n) (pc) (lo) ([va_rf x]) := fun H locs ls hP hD hS hl => W.widen hk hn (W.aret C.1 C.2.1 (C.2.2.2.2.2.2.2.2.1.trans hr) (Or.inl ⟨_, rfl⟩) (va_rf_or x) (nb_q hp hP hD hS) hS.2.2 d C.2.2.2.2.2.2.2.1)
end ROWS
end
section
/-! the words, each by its place -/
theorem bt_1 {w : Cond} (i : Nat) (h : tables_1_1[i]? = some w) (g : goodWord w = true) : w ∈ BIG := List.mem_filter.mpr ⟨List.mem_append_right _ (List.mem_append_left _ (List.mem_of_getElem? h)), g⟩
theorem bt_2 {w : Cond} (i : Nat) (h : tables_1_2[i]? = some w) (g : goodWord w = true) : w ∈ BIG := List.mem_filter.mpr ⟨List.mem_append_right _ (List.mem_append_right _ (List.mem_append_left _ (List.mem_of_getElem? h))), g⟩
theorem bt_3 {w : Cond} (i : Nat) (h : tables_1_3[i]? = some w) (g : goodWord w = true) : w ∈ BIG := List.mem_filter.mpr ⟨List.mem_append_right _ (List.mem_append_right _ (List.mem_append_right _ (List.mem_append_left _ (List.mem_of_getElem? h)))), g⟩
theorem bt_4 {w : Cond} (i : Nat) (h : tables_1_4[i]? = some w) (g : goodWord w = true) : w ∈ BIG := List.mem_filter.mpr ⟨List.mem_append_right _ (List.mem_append_right _ (List.mem_append_right _ (List.mem_append_right _ (List.mem_of_getElem? h)))), g⟩
theorem bt_s {q : MethodName × Nat} (h : q ∈ lw_privs) : Cond.selects q.1.cls q.1 q.1 ∈ BIG := List.mem_filter.mpr ⟨List.mem_append_left _ (List.mem_map.mpr ⟨q, h, rfl⟩), rfl⟩
theorem bz_NoticeBookLaw : Cond.initialized RL ∈ BIG := bt_1 0 (by decide +kernel) rfl
theorem bz_NoticeBook : Cond.initialized RX1 ∈ BIG := bt_1 1 (by decide +kernel) rfl
theorem bz_NoticeBookModel : Cond.initialized RX2 ∈ BIG := bt_1 2 (by decide +kernel) rfl
theorem bz_Throwable : Cond.initialized "java/lang/Throwable" ∈ BIG := bt_1 3 (by decide +kernel) rfl
theorem bz_Exception : Cond.initialized "java/lang/Exception" ∈ BIG := bt_1 4 (by decide +kernel) rfl
theorem bz_RuntimeException : Cond.initialized "java/lang/RuntimeException" ∈ BIG := bt_1 5 (by decide +kernel) rfl
theorem bz_IndexOutOfBoundsException : Cond.initialized nb_I ∈ BIG := bt_1 6 (by decide +kernel) rfl
theorem bz_IllegalArgumentException : Cond.initialized nb_A ∈ BIG := bt_1 7 (by decide +kernel) rfl
theorem bz_NoticeBook_Lot : Cond.initialized RX0 ∈ BIG := bt_1 8 (by decide +kernel) rfl
theorem bz_IllegalStateException : Cond.initialized nb_S ∈ BIG := bt_1 9 (by decide +kernel) rfl
theorem bz_Math : Cond.initialized "java/lang/Math" ∈ BIG := bt_1 10 (by decide +kernel) rfl
theorem bcl_RL_8 : Cond.classLink RL 8 RX1 ∈ BIG := bt_1 11 (by decide +kernel) rfl
theorem bin_RX1 : Cond.instantiable RX1 8 ∈ BIG := bt_1 12 (by decide +kernel) rfl
theorem bl_RL_82 : Cond.methodLink RL 82 yX1_init ∈ BIG := bt_1 13 (by decide +kernel) rfl
theorem bi_yX1_init : Cond.instanceMethod yX1_init ∈ BIG := bt_1 14 (by decide +kernel) rfl
theorem bc_yX1_init : Cond.code yX1_init cX1_init 1 none ∈ BIG := bt_1 15 rfl rfl
theorem bl_RX1_1 : Cond.methodLink RX1 1 objectInit ∈ BIG := bt_1 16 (by decide +kernel) rfl
theorem bi_objectInit : Cond.instanceMethod objectInit ∈ BIG := bt_1 17 (by decide +kernel) rfl
theorem bc_objectInit : Cond.code objectInit ⟨#[0xb1]⟩ 1 none ∈ BIG := bt_1 18 (by decide +kernel) rfl
theorem bcl_RX1_20 : Cond.classLink RX1 20 RX0 ∈ BIG := bt_1 19 (by decide +kernel) rfl
theorem bf_RX1_7 : Cond.fieldLink RX1 7 RX1 "rates" "[I" ∈ BIG := bt_1 21 (by decide +kernel) rfl
theorem bf_RX1_13 : Cond.fieldLink RX1 13 RX1 "paidCents" "[J" ∈ BIG := bt_1 22 (by decide +kernel) rfl
theorem bf_RX1_17 : Cond.fieldLink RX1 17 RX1 "lostParts" "[J" ∈ BIG := bt_1 23 (by decide +kernel) rfl
theorem bf_RX1_22 : Cond.fieldLink RX1 22 RX1 "book" "[LNoticeBook$Lot;" ∈ BIG := bt_1 24 (by decide +kernel) rfl
theorem bf_RX1_26 : Cond.fieldLink RX1 26 RX1 "tiersByBands" "Z" ∈ BIG := bt_1 25 (by decide +kernel) rfl
theorem bf_RX1_30 : Cond.fieldLink RX1 30 RX1 "termRate" "I" ∈ BIG := bt_1 26 (by decide +kernel) rfl
theorem bf_RX1_34 : Cond.fieldLink RX1 34 RX1 "lotsMade" "I" ∈ BIG := bt_1 27 (by decide +kernel) rfl
theorem bf_RX1_37 : Cond.fieldLink RX1 37 RX1 "day" "I" ∈ BIG := bt_1 28 (by decide +kernel) rfl
theorem ba_int : Cond.arrayClass .int ∈ BIG := bt_1 46 (by decide +kernel) rfl
theorem ba_long : Cond.arrayClass .long ∈ BIG := bt_1 47 (by decide +kernel) rfl
theorem bl_RL_96 : Cond.methodLink RL 96 yX1_setByBands ∈ BIG := bt_1 48 (by decide +kernel) rfl
theorem bi_yX1_setByBands : Cond.instanceMethod yX1_setByBands ∈ BIG := bt_1 49 (by decide +kernel) rfl
theorem bs_yX1_setByBands : Cond.selects RX1 yX1_setByBands yX1_setByBands ∈ BIG := bt_1 50 (by decide +kernel) rfl
theorem bc_yX1_setByBands : Cond.code yX1_setByBands cX1_setByBands 3 (some .boolean) ∈ BIG := bt_1 51 rfl rfl
theorem bl_RL_136 : Cond.methodLink RL 136 yX1_today ∈ BIG := bt_1 52 (by decide +kernel) rfl
theorem bi_yX1_today : Cond.instanceMethod yX1_today ∈ BIG := bt_1 53 (by decide +kernel) rfl
theorem bs_yX1_today : Cond.selects RX1 yX1_today yX1_today ∈ BIG := bt_1 54 (by decide +kernel) rfl
theorem bc_yX1_today : Cond.code yX1_today cX1_today 1 (some .int) ∈ BIG := bt_1 55 rfl rfl
theorem bl_RL_140 : Cond.methodLink RL 140 yX1_lots ∈ BIG := bt_1 56 (by decide +kernel) rfl
theorem bi_yX1_lots : Cond.instanceMethod yX1_lots ∈ BIG := bt_1 57 (by decide +kernel) rfl
theorem bs_yX1_lots : Cond.selects RX1 yX1_lots yX1_lots ∈ BIG := bt_1 58 (by decide +kernel) rfl
theorem bc_yX1_lots : Cond.code yX1_lots cX1_lots 3 (some .int) ∈ BIG := bt_1 59 rfl rfl
theorem bl_RX1_164 : Cond.methodLink RX1 164 yX1_lotAt ∈ BIG := bt_1 60 (by decide +kernel) rfl
theorem bi_yX1_lotAt : Cond.instanceMethod yX1_lotAt ∈ BIG := bt_1 62 (by decide +kernel) rfl
theorem bc_yX1_lotAt : Cond.code yX1_lotAt cX1_lotAt 3 (some (.object "NoticeBook$Lot")) ∈ BIG := bt_1 63 rfl rfl
theorem bl_RL_86 : Cond.methodLink RL 86 yL_setRate ∈ BIG := bt_1 64 (by decide +kernel) rfl
theorem bst_yL_setRate : Cond.static yL_setRate ∈ BIG := bt_1 65 (by decide +kernel) rfl
theorem bc_yL_setRate : Cond.codeWith yL_setRate cL_setRate 5 (some .int) [(0, 10, 13, 13), (0, 10, 17, 15)] ∈ BIG := bt_1 66 rfl rfl
theorem bcl_RL_13 : Cond.classLink RL 13 nb_I ∈ BIG := bt_1 67 (by decide +kernel) rfl
theorem bcl_RL_15 : Cond.classLink RL 15 nb_A ∈ BIG := bt_1 68 (by decide +kernel) rfl
theorem bl_RL_7 : Cond.methodLink RL 7 yX1_setRate ∈ BIG := bt_1 69 (by decide +kernel) rfl
theorem bi_yX1_setRate : Cond.instanceMethod yX1_setRate ∈ BIG := bt_1 70 (by decide +kernel) rfl
theorem bs_yX1_setRate : Cond.selects RX1 yX1_setRate yX1_setRate ∈ BIG := bt_1 71 (by decide +kernel) rfl
theorem bc_yX1_setRate : Cond.code yX1_setRate cX1_setRate 4 (some .int) ∈ BIG := bt_1 72 rfl rfl
theorem bcl_RX1_40 : Cond.classLink RX1 40 nb_I ∈ BIG := bt_1 73 (by decide +kernel) rfl
theorem ba_byte : Cond.arrayClass .byte ∈ BIG := bt_1 140 (by decide +kernel) rfl
theorem bl_RX1_47 : Cond.methodLink RX1 47 yX1_demandRange ∈ BIG := bt_1 141 (by decide +kernel) rfl
theorem bst_yX1_demandRange : Cond.static yX1_demandRange ∈ BIG := bt_1 142 (by decide +kernel) rfl
theorem bc_yX1_demandRange : Cond.code yX1_demandRange cX1_demandRange 3 none ∈ BIG := bt_1 143 rfl rfl
theorem bcl_RX1_142 : Cond.classLink RX1 142 nb_A ∈ BIG := bt_1 144 (by decide +kernel) rfl
theorem bl_RL_101 : Cond.methodLink RL 101 yL_setTermRate ∈ BIG := bt_1 160 (by decide +kernel) rfl
theorem bst_yL_setTermRate : Cond.static yL_setTermRate ∈ BIG := bt_1 161 (by decide +kernel) rfl
theorem bc_yL_setTermRate : Cond.codeWith yL_setTermRate cL_setTermRate 4 (some .int) [(0, 9, 12, 15)] ∈ BIG := bt_1 162 rfl rfl
theorem bl_RL_17 : Cond.methodLink RL 17 yX1_setTermRate ∈ BIG := bt_1 163 (by decide +kernel) rfl
theorem bi_yX1_setTermRate : Cond.instanceMethod yX1_setTermRate ∈ BIG := bt_1 164 (by decide +kernel) rfl
theorem bs_yX1_setTermRate : Cond.selects RX1 yX1_setTermRate yX1_setTermRate ∈ BIG := bt_1 165 (by decide +kernel) rfl
theorem bc_yX1_setTermRate : Cond.code yX1_setTermRate cX1_setTermRate 3 (some .int) ∈ BIG := bt_1 166 rfl rfl
theorem bl_RL_105 : Cond.methodLink RL 105 yL_deposit ∈ BIG := bt_1 167 (by decide +kernel) rfl
theorem bst_yL_deposit : Cond.static yL_deposit ∈ BIG := bt_1 168 (by decide +kernel) rfl
theorem bc_yL_deposit : Cond.codeWith yL_deposit cL_deposit 5 (some .int) [(0, 10, 13, 13), (0, 10, 17, 15), (0, 10, 21, 24)] ∈ BIG := bt_1 169 rfl rfl
theorem bcl_RL_24 : Cond.classLink RL 24 nb_S ∈ BIG := bt_1 170 (by decide +kernel) rfl
theorem bl_RL_21 : Cond.methodLink RL 21 yX1_deposit ∈ BIG := bt_1 171 (by decide +kernel) rfl
theorem bi_yX1_deposit : Cond.instanceMethod yX1_deposit ∈ BIG := bt_1 172 (by decide +kernel) rfl
theorem bs_yX1_deposit : Cond.selects RX1 yX1_deposit yX1_deposit ∈ BIG := bt_1 173 (by decide +kernel) rfl
theorem bc_yX1_deposit : Cond.code yX1_deposit cX1_deposit 3 (some .int) ∈ BIG := bt_1 174 rfl rfl
theorem bl_RX1_51 : Cond.methodLink RX1 51 yX1_demandCustomer ∈ BIG := bt_1 175 (by decide +kernel) rfl
theorem bst_yX1_demandCustomer : Cond.static yX1_demandCustomer ∈ BIG := bt_1 176 (by decide +kernel) rfl
theorem bc_yX1_demandCustomer : Cond.code yX1_demandCustomer cX1_demandCustomer 1 none ∈ BIG := bt_1 177 rfl rfl
theorem bk_RX1_55 : Cond.constant RX1 55 (10000000) ∈ BIG := bt_1 179 (by decide +kernel) rfl
theorem bin_RX0 : Cond.instantiable RX0 10 ∈ BIG := bt_1 180 (by decide +kernel) rfl
theorem bi_yX0_init : Cond.instanceMethod yX0_init ∈ BIG := bt_1 182 (by decide +kernel) rfl
theorem bc_yX0_init : Cond.code yX0_init cX0_init 4 none ∈ BIG := bt_1 183 rfl rfl
theorem bl_RX0_3 : Cond.methodLink RX0 3 objectInit ∈ BIG := bt_1 184 (by decide +kernel) rfl
theorem bf_RX0_34 : Cond.fieldLink RX0 34 RX0 "customer" "I" ∈ BIG := bt_1 185 (by decide +kernel) rfl
theorem bf_RX0_40 : Cond.fieldLink RX0 40 RX0 "termDays" "I" ∈ BIG := bt_1 187 (by decide +kernel) rfl
theorem bf_RX0_37 : Cond.fieldLink RX0 37 RX0 "principal" "I" ∈ BIG := bt_1 189 (by decide +kernel) rfl
theorem bf_RX0_9 : Cond.fieldLink RX0 9 RX0 "earned" "J" ∈ BIG := bt_1 191 (by decide +kernel) rfl
theorem bf_RX0_15 : Cond.fieldLink RX0 15 RX0 "parts" "J" ∈ BIG := bt_1 193 (by decide +kernel) rfl
theorem bf_RX0_18 : Cond.fieldLink RX0 18 RX0 "frozenCents" "I" ∈ BIG := bt_1 195 (by decide +kernel) rfl
theorem bf_RX0_22 : Cond.fieldLink RX0 22 RX0 "takeFrom" "I" ∈ BIG := bt_1 197 (by decide +kernel) rfl
theorem bf_RX0_25 : Cond.fieldLink RX0 25 RX0 "end" "I" ∈ BIG := bt_1 199 (by decide +kernel) rfl
theorem bf_RX0_28 : Cond.fieldLink RX0 28 RX0 "instruction" "I" ∈ BIG := bt_1 201 (by decide +kernel) rfl
theorem bf_RX0_31 : Cond.fieldLink RX0 31 RX0 "renewedOn" "I" ∈ BIG := bt_1 203 (by decide +kernel) rfl
theorem bl_RX1_58 : Cond.methodLink RX1 58 yX1_enter ∈ BIG := bt_1 226 (by decide +kernel) rfl
theorem bi_yX1_enter : Cond.instanceMethod yX1_enter ∈ BIG := bt_1 228 (by decide +kernel) rfl
theorem bc_yX1_enter : Cond.code yX1_enter cX1_enter 3 (some .int) ∈ BIG := bt_1 229 rfl rfl
theorem bcl_RX1_83 : Cond.classLink RX1 83 nb_S ∈ BIG := bt_1 230 (by decide +kernel) rfl
theorem bl_RL_108 : Cond.methodLink RL 108 yL_depositTerm ∈ BIG := bt_2 6 (by decide +kernel) rfl
theorem bst_yL_depositTerm : Cond.static yL_depositTerm ∈ BIG := bt_2 7 (by decide +kernel) rfl
theorem bc_yL_depositTerm : Cond.codeWith yL_depositTerm cL_depositTerm 7 (some .int) [(0, 14, 17, 13), (0, 14, 21, 15), (0, 14, 25, 24)] ∈ BIG := bt_2 8 rfl rfl
theorem bl_RL_26 : Cond.methodLink RL 26 yX1_depositTerm ∈ BIG := bt_2 9 (by decide +kernel) rfl
theorem bi_yX1_depositTerm : Cond.instanceMethod yX1_depositTerm ∈ BIG := bt_2 10 (by decide +kernel) rfl
theorem bs_yX1_depositTerm : Cond.selects RX1 yX1_depositTerm yX1_depositTerm ∈ BIG := bt_2 11 (by decide +kernel) rfl
theorem bc_yX1_depositTerm : Cond.code yX1_depositTerm cX1_depositTerm 6 (some .int) ∈ BIG := bt_2 12 rfl rfl
theorem bl_RX1_65 : Cond.methodLink RX1 65 yX1_beginTerm ∈ BIG := bt_2 13 (by decide +kernel) rfl
theorem bi_yX1_beginTerm : Cond.instanceMethod yX1_beginTerm ∈ BIG := bt_2 15 (by decide +kernel) rfl
theorem bc_yX1_beginTerm : Cond.code yX1_beginTerm cX1_beginTerm 2 none ∈ BIG := bt_2 16 rfl rfl
theorem bl_RL_112 : Cond.methodLink RL 112 yL_give ∈ BIG := bt_2 17 (by decide +kernel) rfl
theorem bst_yL_give : Cond.static yL_give ∈ BIG := bt_2 18 (by decide +kernel) rfl
theorem bc_yL_give : Cond.codeWith yL_give cL_give 5 (some .int) [(0, 10, 13, 13), (0, 10, 17, 15), (0, 10, 21, 24)] ∈ BIG := bt_2 19 rfl rfl
theorem bl_RL_30 : Cond.methodLink RL 30 yX1_give ∈ BIG := bt_2 20 (by decide +kernel) rfl
theorem bi_yX1_give : Cond.instanceMethod yX1_give ∈ BIG := bt_2 21 (by decide +kernel) rfl
theorem bs_yX1_give : Cond.selects RX1 yX1_give yX1_give ∈ BIG := bt_2 22 (by decide +kernel) rfl
theorem bc_yX1_give : Cond.code yX1_give cX1_give 4 (some .int) ∈ BIG := bt_2 23 rfl rfl
theorem bl_RX1_69 : Cond.methodLink RX1 69 yX1_demandLot ∈ BIG := bt_2 24 (by decide +kernel) rfl
theorem bi_yX1_demandLot : Cond.instanceMethod yX1_demandLot ∈ BIG := bt_2 26 (by decide +kernel) rfl
theorem bc_yX1_demandLot : Cond.code yX1_demandLot cX1_demandLot 3 (some (.object "NoticeBook$Lot")) ∈ BIG := bt_2 27 rfl rfl
theorem bi_yX0_isByTerm : Cond.instanceMethod yX0_isByTerm ∈ BIG := bt_2 31 (by decide +kernel) rfl
theorem bc_yX0_isByTerm : Cond.code yX0_isByTerm cX0_isByTerm 1 (some .boolean) ∈ BIG := bt_2 32 rfl rfl
theorem bl_RL_115 : Cond.methodLink RL 115 yL_withdraw ∈ BIG := bt_2 34 (by decide +kernel) rfl
theorem bst_yL_withdraw : Cond.static yL_withdraw ∈ BIG := bt_2 35 (by decide +kernel) rfl
theorem bc_yL_withdraw : Cond.codeWith yL_withdraw cL_withdraw 4 (some .int) [(0, 9, 12, 13), (0, 9, 15, 24)] ∈ BIG := bt_2 36 rfl rfl
theorem bl_RL_33 : Cond.methodLink RL 33 yX1_withdraw ∈ BIG := bt_2 37 (by decide +kernel) rfl
theorem bi_yX1_withdraw : Cond.instanceMethod yX1_withdraw ∈ BIG := bt_2 38 (by decide +kernel) rfl
theorem bs_yX1_withdraw : Cond.selects RX1 yX1_withdraw yX1_withdraw ∈ BIG := bt_2 39 (by decide +kernel) rfl
theorem bc_yX1_withdraw : Cond.code yX1_withdraw cX1_withdraw 4 (some .int) ∈ BIG := bt_2 40 rfl rfl
theorem bl_RX1_91 : Cond.methodLink RX1 91 yX1_demandNotice ∈ BIG := bt_2 41 (by decide +kernel) rfl
theorem bi_yX1_demandNotice : Cond.instanceMethod yX1_demandNotice ∈ BIG := bt_2 43 (by decide +kernel) rfl
theorem bc_yX1_demandNotice : Cond.code yX1_demandNotice cX1_demandNotice 3 (some (.object "NoticeBook$Lot")) ∈ BIG := bt_2 44 rfl rfl
theorem bl_RL_118 : Cond.methodLink RL 118 yL_take ∈ BIG := bt_2 46 (by decide +kernel) rfl
theorem bst_yL_take : Cond.static yL_take ∈ BIG := bt_2 47 (by decide +kernel) rfl
theorem bc_yL_take : Cond.codeWith yL_take cL_take 4 (some .int) [(0, 9, 12, 13), (0, 9, 15, 24)] ∈ BIG := bt_2 48 rfl rfl
theorem bl_RL_36 : Cond.methodLink RL 36 yX1_take ∈ BIG := bt_2 49 (by decide +kernel) rfl
theorem bi_yX1_take : Cond.instanceMethod yX1_take ∈ BIG := bt_2 50 (by decide +kernel) rfl
theorem bs_yX1_take : Cond.selects RX1 yX1_take yX1_take ∈ BIG := bt_2 51 (by decide +kernel) rfl
theorem bc_yX1_take : Cond.code yX1_take cX1_take 4 (some .int) ∈ BIG := bt_2 52 rfl rfl
theorem bl_RX1_96 : Cond.methodLink RX1 96 yX1_payOut ∈ BIG := bt_2 54 (by decide +kernel) rfl
theorem bi_yX1_payOut : Cond.instanceMethod yX1_payOut ∈ BIG := bt_2 56 (by decide +kernel) rfl
theorem bc_yX1_payOut : Cond.code yX1_payOut cX1_payOut 4 (some .int) ∈ BIG := bt_2 57 rfl rfl
theorem bl_RX1_206 : Cond.methodLink RX1 206 yX1_notePaid ∈ BIG := bt_2 58 (by decide +kernel) rfl
theorem bi_yX1_notePaid : Cond.instanceMethod yX1_notePaid ∈ BIG := bt_2 60 (by decide +kernel) rfl
theorem bc_yX1_notePaid : Cond.code yX1_notePaid cX1_notePaid 3 none ∈ BIG := bt_2 61 rfl rfl
theorem bl_RX1_210 : Cond.methodLink RX1 210 yX1_payInterest ∈ BIG := bt_2 62 (by decide +kernel) rfl
theorem bi_yX1_payInterest : Cond.instanceMethod yX1_payInterest ∈ BIG := bt_2 64 (by decide +kernel) rfl
theorem bc_yX1_payInterest : Cond.code yX1_payInterest cX1_payInterest 3 (some .int) ∈ BIG := bt_2 65 rfl rfl
theorem bi_yX0_drawWholeCents : Cond.instanceMethod yX0_drawWholeCents ∈ BIG := bt_2 68 (by decide +kernel) rfl
theorem bc_yX0_drawWholeCents : Cond.code yX0_drawWholeCents cX0_drawWholeCents 2 (some .int) ∈ BIG := bt_2 69 rfl rfl
theorem bk_RX0_43 : Cond.constantLong RX0 43 (3650000) ∈ BIG := bt_2 70 (by decide +kernel) rfl
theorem bl_RX1_127 : Cond.methodLink RX1 127 yX1_lose ∈ BIG := bt_2 71 (by decide +kernel) rfl
theorem bi_yX1_lose : Cond.instanceMethod yX1_lose ∈ BIG := bt_2 73 (by decide +kernel) rfl
theorem bc_yX1_lose : Cond.code yX1_lose cX1_lose 5 none ∈ BIG := bt_2 74 rfl rfl
theorem bl_RL_121 : Cond.methodLink RL 121 yL_early ∈ BIG := bt_2 75 (by decide +kernel) rfl
theorem bst_yL_early : Cond.static yL_early ∈ BIG := bt_2 76 (by decide +kernel) rfl
theorem bc_yL_early : Cond.codeWith yL_early cL_early 5 (some .int) [(0, 10, 13, 13), (0, 10, 17, 15), (0, 10, 21, 24)] ∈ BIG := bt_2 77 rfl rfl
theorem bl_RL_39 : Cond.methodLink RL 39 yX1_early ∈ BIG := bt_2 78 (by decide +kernel) rfl
theorem bi_yX1_early : Cond.instanceMethod yX1_early ∈ BIG := bt_2 79 (by decide +kernel) rfl
theorem bs_yX1_early : Cond.selects RX1 yX1_early yX1_early ∈ BIG := bt_2 80 (by decide +kernel) rfl
theorem bc_yX1_early : Cond.code yX1_early cX1_early 8 (some .int) ∈ BIG := bt_2 81 rfl rfl
theorem bk_RX1_100 : Cond.constant RX1 100 (100000000) ∈ BIG := bt_2 82 (by decide +kernel) rfl
theorem bl_RX1_101 : Cond.methodLink RX1 101 yX1_unfrozenOf ∈ BIG := bt_2 83 (by decide +kernel) rfl
theorem bi_yX1_unfrozenOf : Cond.instanceMethod yX1_unfrozenOf ∈ BIG := bt_2 85 (by decide +kernel) rfl
theorem bc_yX1_unfrozenOf : Cond.code yX1_unfrozenOf cX1_unfrozenOf 5 (some .int) ∈ BIG := bt_2 86 rfl rfl
theorem bl_RX1_190 : Cond.methodLink RX1 190 yX1_noticeLotAt ∈ BIG := bt_2 87 (by decide +kernel) rfl
theorem bi_yX1_noticeLotAt : Cond.instanceMethod yX1_noticeLotAt ∈ BIG := bt_2 89 (by decide +kernel) rfl
theorem bc_yX1_noticeLotAt : Cond.code yX1_noticeLotAt cX1_noticeLotAt 4 (some (.object "NoticeBook$Lot")) ∈ BIG := bt_2 90 rfl rfl
theorem bi_yX0_unfrozen : Cond.instanceMethod yX0_unfrozen ∈ BIG := bt_2 93 (by decide +kernel) rfl
theorem bc_yX0_unfrozen : Cond.code yX0_unfrozen cX0_unfrozen 1 (some .int) ∈ BIG := bt_2 94 rfl rfl
theorem bl_RX1_107 : Cond.methodLink RX1 107 yX1_noteParts ∈ BIG := bt_2 96 (by decide +kernel) rfl
theorem bi_yX1_noteParts : Cond.instanceMethod yX1_noteParts ∈ BIG := bt_2 98 (by decide +kernel) rfl
theorem bc_yX1_noteParts : Cond.code yX1_noteParts cX1_noteParts 7 none ∈ BIG := bt_2 99 rfl rfl
theorem bl_RX1_173 : Cond.methodLink RX1 173 yX1_totalOf ∈ BIG := bt_2 100 (by decide +kernel) rfl
theorem bi_yX1_totalOf : Cond.instanceMethod yX1_totalOf ∈ BIG := bt_2 102 (by decide +kernel) rfl
theorem bc_yX1_totalOf : Cond.code yX1_totalOf cX1_totalOf 5 (some .int) ∈ BIG := bt_2 103 rfl rfl
theorem bl_RX1_176 : Cond.methodLink RX1 176 yX1_partsOfCents ∈ BIG := bt_2 104 (by decide +kernel) rfl
theorem bi_yX1_partsOfCents : Cond.instanceMethod yX1_partsOfCents ∈ BIG := bt_2 106 (by decide +kernel) rfl
theorem bc_yX1_partsOfCents : Cond.code yX1_partsOfCents cX1_partsOfCents 4 (some .long) ∈ BIG := bt_2 107 rfl rfl
theorem bl_RX1_197 : Cond.methodLink RX1 197 yX1_partsByBands ∈ BIG := bt_2 108 (by decide +kernel) rfl
theorem bi_yX1_partsByBands : Cond.instanceMethod yX1_partsByBands ∈ BIG := bt_2 110 (by decide +kernel) rfl
theorem bc_yX1_partsByBands : Cond.code yX1_partsByBands cX1_partsByBands 5 (some .long) ∈ BIG := bt_2 111 rfl rfl
theorem bk_RX1_204 : Cond.constant RX1 204 (100000) ∈ BIG := bt_2 112 (by decide +kernel) rfl
theorem bl_RX1_117 : Cond.methodLink RX1 117 yJ9_min_7cf53 ∈ BIG := bt_2 113 (by decide +kernel) rfl
theorem bst_yJ9_min_7cf53 : Cond.static yJ9_min_7cf53 ∈ BIG := bt_2 114 (by decide +kernel) rfl
theorem bc_yJ9_min_7cf53 : Cond.code yJ9_min_7cf53 cJ9_min_7cf53 2 (some .int) ∈ BIG := bt_2 115 rfl rfl
theorem bk_RX1_205 : Cond.constant RX1 205 (1000000) ∈ BIG := bt_2 116 (by decide +kernel) rfl
theorem bl_RX1_201 : Cond.methodLink RX1 201 yX1_rateByWholeSum ∈ BIG := bt_2 117 (by decide +kernel) rfl
theorem bi_yX1_rateByWholeSum : Cond.instanceMethod yX1_rateByWholeSum ∈ BIG := bt_2 119 (by decide +kernel) rfl
theorem bc_yX1_rateByWholeSum : Cond.code yX1_rateByWholeSum cX1_rateByWholeSum 3 (some .int) ∈ BIG := bt_2 120 rfl rfl
theorem bl_RX1_110 : Cond.methodLink RX1 110 yX1_leastHarmful ∈ BIG := bt_2 121 (by decide +kernel) rfl
theorem bi_yX1_leastHarmful : Cond.instanceMethod yX1_leastHarmful ∈ BIG := bt_2 123 (by decide +kernel) rfl
theorem bc_yX1_leastHarmful : Cond.code yX1_leastHarmful cX1_leastHarmful 5 (some (.object "NoticeBook$Lot")) ∈ BIG := bt_2 124 rfl rfl
theorem bl_RX1_194 : Cond.methodLink RX1 194 yX1_harmsNoMore ∈ BIG := bt_2 125 (by decide +kernel) rfl
theorem bst_yX1_harmsNoMore : Cond.static yX1_harmsNoMore ∈ BIG := bt_2 126 (by decide +kernel) rfl
theorem bc_yX1_harmsNoMore : Cond.code yX1_harmsNoMore cX1_harmsNoMore 2 (some .boolean) ∈ BIG := bt_2 127 rfl rfl
theorem bl_RX1_123 : Cond.methodLink RX1 123 yX1_lossByEarly ∈ BIG := bt_2 128 (by decide +kernel) rfl
theorem bst_yX1_lossByEarly : Cond.static yX1_lossByEarly ∈ BIG := bt_2 129 (by decide +kernel) rfl
theorem bc_yX1_lossByEarly : Cond.code yX1_lossByEarly cX1_lossByEarly 4 (some .long) ∈ BIG := bt_2 130 rfl rfl
theorem bk_RX1_216 : Cond.constantLong RX1 216 (30) ∈ BIG := bt_2 131 (by decide +kernel) rfl
theorem bl_RX1_218 : Cond.methodLink RX1 218 yJ9_min_f86c9 ∈ BIG := bt_2 132 (by decide +kernel) rfl
theorem bst_yJ9_min_f86c9 : Cond.static yJ9_min_f86c9 ∈ BIG := bt_2 133 (by decide +kernel) rfl
theorem bc_yJ9_min_f86c9 : Cond.code yJ9_min_f86c9 cJ9_min_f86c9 4 (some .long) ∈ BIG := bt_2 134 rfl rfl
theorem bl_RL_124 : Cond.methodLink RL 124 yL_instruct ∈ BIG := bt_2 135 (by decide +kernel) rfl
theorem bst_yL_instruct : Cond.static yL_instruct ∈ BIG := bt_2 136 (by decide +kernel) rfl
theorem bc_yL_instruct : Cond.codeWith yL_instruct cL_instruct 5 (some .int) [(0, 10, 13, 13), (0, 10, 17, 15), (0, 10, 21, 24)] ∈ BIG := bt_2 137 rfl rfl
theorem bl_RL_42 : Cond.methodLink RL 42 yX1_instruct ∈ BIG := bt_2 138 (by decide +kernel) rfl
theorem bi_yX1_instruct : Cond.instanceMethod yX1_instruct ∈ BIG := bt_2 139 (by decide +kernel) rfl
theorem bs_yX1_instruct : Cond.selects RX1 yX1_instruct yX1_instruct ∈ BIG := bt_2 140 (by decide +kernel) rfl
theorem bc_yX1_instruct : Cond.code yX1_instruct cX1_instruct 5 (some .int) ∈ BIG := bt_2 141 rfl rfl
theorem bl_RL_127 : Cond.methodLink RL 127 yL_letGo ∈ BIG := bt_2 143 (by decide +kernel) rfl
theorem bst_yL_letGo : Cond.static yL_letGo ∈ BIG := bt_2 144 (by decide +kernel) rfl
theorem bc_yL_letGo : Cond.codeWith yL_letGo cL_letGo 4 (some .int) [(0, 9, 12, 13), (0, 9, 15, 24)] ∈ BIG := bt_2 145 rfl rfl
theorem bl_RL_45 : Cond.methodLink RL 45 yX1_letGo ∈ BIG := bt_2 146 (by decide +kernel) rfl
theorem bi_yX1_letGo : Cond.instanceMethod yX1_letGo ∈ BIG := bt_2 147 (by decide +kernel) rfl
theorem bs_yX1_letGo : Cond.selects RX1 yX1_letGo yX1_letGo ∈ BIG := bt_2 148 (by decide +kernel) rfl
theorem bc_yX1_letGo : Cond.code yX1_letGo cX1_letGo 3 (some .int) ∈ BIG := bt_2 149 rfl rfl
theorem bl_RL_130 : Cond.methodLink RL 130 yL_join ∈ BIG := bt_2 151 (by decide +kernel) rfl
theorem bst_yL_join : Cond.static yL_join ∈ BIG := bt_2 152 (by decide +kernel) rfl
theorem bc_yL_join : Cond.codeWith yL_join cL_join 5 (some .int) [(0, 10, 13, 13), (0, 10, 17, 15), (0, 10, 21, 24)] ∈ BIG := bt_2 153 rfl rfl
theorem bl_RL_48 : Cond.methodLink RL 48 yX1_join ∈ BIG := bt_2 154 (by decide +kernel) rfl
theorem bi_yX1_join : Cond.instanceMethod yX1_join ∈ BIG := bt_2 155 (by decide +kernel) rfl
theorem bs_yX1_join : Cond.selects RX1 yX1_join yX1_join ∈ BIG := bt_2 156 (by decide +kernel) rfl
theorem bc_yX1_join : Cond.code yX1_join cX1_join 5 (some .int) ∈ BIG := bt_2 157 rfl rfl
theorem bl_RX1_147 : Cond.methodLink RX1 147 yX1_canJoin ∈ BIG := bt_2 159 (by decide +kernel) rfl
theorem bst_yX1_canJoin : Cond.static yX1_canJoin ∈ BIG := bt_2 160 (by decide +kernel) rfl
theorem bc_yX1_canJoin : Cond.code yX1_canJoin cX1_canJoin 2 (some .boolean) ∈ BIG := bt_2 161 rfl rfl
theorem bk_RX1_188 : Cond.constantLong RX1 188 (100000000) ∈ BIG := bt_2 162 (by decide +kernel) rfl
theorem bl_RL_133 : Cond.methodLink RL 133 yL_pass ∈ BIG := bt_2 164 (by decide +kernel) rfl
theorem bst_yL_pass : Cond.static yL_pass ∈ BIG := bt_2 165 (by decide +kernel) rfl
theorem bc_yL_pass : Cond.codeWith yL_pass cL_pass 4 (some .int) [(0, 9, 12, 15), (0, 9, 15, 24)] ∈ BIG := bt_2 166 rfl rfl
theorem bl_RL_51 : Cond.methodLink RL 51 yX1_pass ∈ BIG := bt_2 167 (by decide +kernel) rfl
theorem bi_yX1_pass : Cond.instanceMethod yX1_pass ∈ BIG := bt_2 168 (by decide +kernel) rfl
theorem bs_yX1_pass : Cond.selects RX1 yX1_pass yX1_pass ∈ BIG := bt_2 169 (by decide +kernel) rfl
theorem bc_yX1_pass : Cond.code yX1_pass cX1_pass 4 (some .int) ∈ BIG := bt_2 170 rfl rfl
theorem bl_RX1_158 : Cond.methodLink RX1 158 yX1_earnOneDay ∈ BIG := bt_2 172 (by decide +kernel) rfl
theorem bi_yX1_earnOneDay : Cond.instanceMethod yX1_earnOneDay ∈ BIG := bt_2 174 (by decide +kernel) rfl
theorem bc_yX1_earnOneDay : Cond.code yX1_earnOneDay cX1_earnOneDay 3 none ∈ BIG := bt_2 175 rfl rfl
theorem bl_RX1_161 : Cond.methodLink RX1 161 yX1_beginDay ∈ BIG := bt_2 176 (by decide +kernel) rfl
theorem bi_yX1_beginDay : Cond.instanceMethod yX1_beginDay ∈ BIG := bt_2 178 (by decide +kernel) rfl
theorem bc_yX1_beginDay : Cond.code yX1_beginDay cX1_beginDay 4 (some .int) ∈ BIG := bt_2 179 rfl rfl
theorem bl_RX1_226 : Cond.methodLink RX1 226 yX1_endTerm ∈ BIG := bt_2 180 (by decide +kernel) rfl
theorem bi_yX1_endTerm : Cond.instanceMethod yX1_endTerm ∈ BIG := bt_2 182 (by decide +kernel) rfl
theorem bc_yX1_endTerm : Cond.code yX1_endTerm cX1_endTerm 2 none ∈ BIG := bt_2 183 rfl rfl
theorem bl_RL_144 : Cond.methodLink RL 144 yL_principal ∈ BIG := bt_2 184 (by decide +kernel) rfl
theorem bst_yL_principal : Cond.static yL_principal ∈ BIG := bt_2 185 (by decide +kernel) rfl
theorem bc_yL_principal : Cond.codeWith yL_principal cL_principal 4 (some .int) [(0, 9, 12, 13)] ∈ BIG := bt_2 186 rfl rfl
theorem bl_RL_54 : Cond.methodLink RL 54 yX1_principal ∈ BIG := bt_2 187 (by decide +kernel) rfl
theorem bi_yX1_principal : Cond.instanceMethod yX1_principal ∈ BIG := bt_2 188 (by decide +kernel) rfl
theorem bs_yX1_principal : Cond.selects RX1 yX1_principal yX1_principal ∈ BIG := bt_2 189 (by decide +kernel) rfl
theorem bc_yX1_principal : Cond.code yX1_principal cX1_principal 2 (some .int) ∈ BIG := bt_2 190 rfl rfl
theorem bl_RL_147 : Cond.methodLink RL 147 yL_earned ∈ BIG := bt_2 191 (by decide +kernel) rfl
theorem bst_yL_earned : Cond.static yL_earned ∈ BIG := bt_2 192 (by decide +kernel) rfl
theorem bc_yL_earned : Cond.codeWith yL_earned cL_earned 4 (some .int) [(0, 8, 11, 13)] ∈ BIG := bt_2 193 rfl rfl
theorem bl_RL_57 : Cond.methodLink RL 57 yX1_earned ∈ BIG := bt_2 194 (by decide +kernel) rfl
theorem bi_yX1_earned : Cond.instanceMethod yX1_earned ∈ BIG := bt_2 195 (by decide +kernel) rfl
theorem bs_yX1_earned : Cond.selects RX1 yX1_earned yX1_earned ∈ BIG := bt_2 196 (by decide +kernel) rfl
theorem bc_yX1_earned : Cond.code yX1_earned cX1_earned 2 (some .long) ∈ BIG := bt_2 197 rfl rfl
theorem bl_RL_150 : Cond.methodLink RL 150 yL_partsOfDay ∈ BIG := bt_2 198 (by decide +kernel) rfl
theorem bst_yL_partsOfDay : Cond.static yL_partsOfDay ∈ BIG := bt_2 199 (by decide +kernel) rfl
theorem bc_yL_partsOfDay : Cond.codeWith yL_partsOfDay cL_partsOfDay 4 (some .int) [(0, 8, 11, 13)] ∈ BIG := bt_2 200 rfl rfl
theorem bl_RL_61 : Cond.methodLink RL 61 yX1_partsOfDay ∈ BIG := bt_2 201 (by decide +kernel) rfl
theorem bi_yX1_partsOfDay : Cond.instanceMethod yX1_partsOfDay ∈ BIG := bt_2 202 (by decide +kernel) rfl
theorem bs_yX1_partsOfDay : Cond.selects RX1 yX1_partsOfDay yX1_partsOfDay ∈ BIG := bt_2 203 (by decide +kernel) rfl
theorem bc_yX1_partsOfDay : Cond.code yX1_partsOfDay cX1_partsOfDay 3 (some .long) ∈ BIG := bt_2 204 rfl rfl
theorem bl_RL_153 : Cond.methodLink RL 153 yL_frozen ∈ BIG := bt_2 205 (by decide +kernel) rfl
theorem bst_yL_frozen : Cond.static yL_frozen ∈ BIG := bt_2 206 (by decide +kernel) rfl
theorem bc_yL_frozen : Cond.codeWith yL_frozen cL_frozen 4 (some .int) [(0, 9, 12, 13)] ∈ BIG := bt_2 207 rfl rfl
theorem bl_RL_64 : Cond.methodLink RL 64 yX1_frozen ∈ BIG := bt_2 208 (by decide +kernel) rfl
theorem bi_yX1_frozen : Cond.instanceMethod yX1_frozen ∈ BIG := bt_2 209 (by decide +kernel) rfl
theorem bs_yX1_frozen : Cond.selects RX1 yX1_frozen yX1_frozen ∈ BIG := bt_2 210 (by decide +kernel) rfl
theorem bc_yX1_frozen : Cond.code yX1_frozen cX1_frozen 2 (some .int) ∈ BIG := bt_2 211 rfl rfl
theorem bl_RL_156 : Cond.methodLink RL 156 yL_endOf ∈ BIG := bt_2 212 (by decide +kernel) rfl
theorem bst_yL_endOf : Cond.static yL_endOf ∈ BIG := bt_2 213 (by decide +kernel) rfl
theorem bc_yL_endOf : Cond.codeWith yL_endOf cL_endOf 4 (some .int) [(0, 9, 12, 13)] ∈ BIG := bt_2 214 rfl rfl
theorem bl_RL_67 : Cond.methodLink RL 67 yX1_endOf ∈ BIG := bt_2 215 (by decide +kernel) rfl
theorem bi_yX1_endOf : Cond.instanceMethod yX1_endOf ∈ BIG := bt_2 216 (by decide +kernel) rfl
theorem bs_yX1_endOf : Cond.selects RX1 yX1_endOf yX1_endOf ∈ BIG := bt_2 217 (by decide +kernel) rfl
theorem bc_yX1_endOf : Cond.code yX1_endOf cX1_endOf 2 (some .int) ∈ BIG := bt_2 218 rfl rfl
theorem bl_RL_159 : Cond.methodLink RL 159 yL_total ∈ BIG := bt_2 219 (by decide +kernel) rfl
theorem bst_yL_total : Cond.static yL_total ∈ BIG := bt_2 220 (by decide +kernel) rfl
theorem bc_yL_total : Cond.codeWith yL_total cL_total 4 (some .int) [(0, 9, 12, 13)] ∈ BIG := bt_2 221 rfl rfl
theorem bl_RL_70 : Cond.methodLink RL 70 yX1_total ∈ BIG := bt_2 222 (by decide +kernel) rfl
theorem bi_yX1_total : Cond.instanceMethod yX1_total ∈ BIG := bt_2 223 (by decide +kernel) rfl
theorem bs_yX1_total : Cond.selects RX1 yX1_total yX1_total ∈ BIG := bt_2 224 (by decide +kernel) rfl
theorem bc_yX1_total : Cond.code yX1_total cX1_total 2 (some .int) ∈ BIG := bt_2 225 rfl rfl
theorem bl_RL_162 : Cond.methodLink RL 162 yL_partsByTotal ∈ BIG := bt_2 226 (by decide +kernel) rfl
theorem bst_yL_partsByTotal : Cond.static yL_partsByTotal ∈ BIG := bt_2 227 (by decide +kernel) rfl
theorem bc_yL_partsByTotal : Cond.codeWith yL_partsByTotal cL_partsByTotal 4 (some .int) [(0, 8, 11, 13)] ∈ BIG := bt_2 228 rfl rfl
theorem bl_RL_73 : Cond.methodLink RL 73 yX1_partsByTotal ∈ BIG := bt_2 229 (by decide +kernel) rfl
theorem bi_yX1_partsByTotal : Cond.instanceMethod yX1_partsByTotal ∈ BIG := bt_2 230 (by decide +kernel) rfl
theorem bs_yX1_partsByTotal : Cond.selects RX1 yX1_partsByTotal yX1_partsByTotal ∈ BIG := bt_2 231 (by decide +kernel) rfl
theorem bc_yX1_partsByTotal : Cond.code yX1_partsByTotal cX1_partsByTotal 3 (some .long) ∈ BIG := bt_2 232 rfl rfl
theorem bl_RL_165 : Cond.methodLink RL 165 yL_paid ∈ BIG := bt_2 233 (by decide +kernel) rfl
theorem bst_yL_paid : Cond.static yL_paid ∈ BIG := bt_2 234 (by decide +kernel) rfl
theorem bc_yL_paid : Cond.codeWith yL_paid cL_paid 4 (some .int) [(0, 8, 11, 13)] ∈ BIG := bt_2 235 rfl rfl
theorem bl_RL_76 : Cond.methodLink RL 76 yX1_paid ∈ BIG := bt_2 236 (by decide +kernel) rfl
theorem bi_yX1_paid : Cond.instanceMethod yX1_paid ∈ BIG := bt_2 237 (by decide +kernel) rfl
theorem bs_yX1_paid : Cond.selects RX1 yX1_paid yX1_paid ∈ BIG := bt_2 238 (by decide +kernel) rfl
theorem bc_yX1_paid : Cond.code yX1_paid cX1_paid 2 (some .long) ∈ BIG := bt_2 239 rfl rfl
theorem bl_RL_168 : Cond.methodLink RL 168 yL_lost ∈ BIG := bt_3 0 (by decide +kernel) rfl
theorem bst_yL_lost : Cond.static yL_lost ∈ BIG := bt_3 1 (by decide +kernel) rfl
theorem bc_yL_lost : Cond.codeWith yL_lost cL_lost 4 (some .int) [(0, 8, 11, 13)] ∈ BIG := bt_3 2 rfl rfl
theorem bl_RL_79 : Cond.methodLink RL 79 yX1_lost ∈ BIG := bt_3 3 (by decide +kernel) rfl
theorem bi_yX1_lost : Cond.instanceMethod yX1_lost ∈ BIG := bt_3 4 (by decide +kernel) rfl
theorem bs_yX1_lost : Cond.selects RX1 yX1_lost yX1_lost ∈ BIG := bt_3 5 (by decide +kernel) rfl
theorem bc_yX1_lost : Cond.code yX1_lost cX1_lost 2 (some .long) ∈ BIG := bt_3 6 rfl rfl
theorem bcl_RL_83 : Cond.classLink RL 83 RX2 ∈ BIG := bt_3 7 (by decide +kernel) rfl
theorem bin_RX2 : Cond.instantiable RX2 23 ∈ BIG := bt_3 8 (by decide +kernel) rfl
theorem bl_RL_85 : Cond.methodLink RL 85 yX2_init ∈ BIG := bt_3 9 (by decide +kernel) rfl
theorem bi_yX2_init : Cond.instanceMethod yX2_init ∈ BIG := bt_3 10 (by decide +kernel) rfl
theorem bc_yX2_init : Cond.code yX2_init cX2_init 1 none ∈ BIG := bt_3 11 rfl rfl
theorem bl_RX2_1 : Cond.methodLink RX2 1 objectInit ∈ BIG := bt_3 12 (by decide +kernel) rfl
theorem bf_RX2_7 : Cond.fieldLink RX2 7 RX2 "rates" "[I" ∈ BIG := bt_3 13 (by decide +kernel) rfl
theorem bf_RX2_80 : Cond.fieldLink RX2 80 RX2 "isByBands" "Z" ∈ BIG := bt_3 14 (by decide +kernel) rfl
theorem bf_RX2_66 : Cond.fieldLink RX2 66 RX2 "termRate" "I" ∈ BIG := bt_3 15 (by decide +kernel) rfl
theorem bf_RX2_77 : Cond.fieldLink RX2 77 RX2 "lotMany" "I" ∈ BIG := bt_3 16 (by decide +kernel) rfl
theorem bf_RX2_13 : Cond.fieldLink RX2 13 RX2 "isThere" "[Z" ∈ BIG := bt_3 17 (by decide +kernel) rfl
theorem bf_RX2_17 : Cond.fieldLink RX2 17 RX2 "isTerm" "[Z" ∈ BIG := bt_3 18 (by decide +kernel) rfl
theorem bf_RX2_20 : Cond.fieldLink RX2 20 RX2 "owners" "[I" ∈ BIG := bt_3 19 (by decide +kernel) rfl
theorem bf_RX2_23 : Cond.fieldLink RX2 23 RX2 "principals" "[I" ∈ BIG := bt_3 20 (by decide +kernel) rfl
theorem bf_RX2_26 : Cond.fieldLink RX2 26 RX2 "earnings" "[J" ∈ BIG := bt_3 21 (by decide +kernel) rfl
theorem bf_RX2_30 : Cond.fieldLink RX2 30 RX2 "frozenOf" "[I" ∈ BIG := bt_3 22 (by decide +kernel) rfl
theorem bf_RX2_33 : Cond.fieldLink RX2 33 RX2 "noticeDays" "[I" ∈ BIG := bt_3 23 (by decide +kernel) rfl
theorem bf_RX2_36 : Cond.fieldLink RX2 36 RX2 "termParts" "[J" ∈ BIG := bt_3 24 (by decide +kernel) rfl
theorem bf_RX2_39 : Cond.fieldLink RX2 39 RX2 "lengths" "[I" ∈ BIG := bt_3 25 (by decide +kernel) rfl
theorem bf_RX2_42 : Cond.fieldLink RX2 42 RX2 "ends" "[I" ∈ BIG := bt_3 26 (by decide +kernel) rfl
theorem bf_RX2_45 : Cond.fieldLink RX2 45 RX2 "instructions" "[I" ∈ BIG := bt_3 27 (by decide +kernel) rfl
theorem bf_RX2_48 : Cond.fieldLink RX2 48 RX2 "begun" "[I" ∈ BIG := bt_3 28 (by decide +kernel) rfl
theorem bf_RX2_51 : Cond.fieldLink RX2 51 RX2 "paidTo" "[J" ∈ BIG := bt_3 29 (by decide +kernel) rfl
theorem bf_RX2_54 : Cond.fieldLink RX2 54 RX2 "lostBy" "[J" ∈ BIG := bt_3 30 (by decide +kernel) rfl
theorem bf_RX2_119 : Cond.fieldLink RX2 119 RX2 "now" "I" ∈ BIG := bt_3 31 (by decide +kernel) rfl
theorem bf_RX2_70 : Cond.fieldLink RX2 70 RX2 "thrown" "I" ∈ BIG := bt_3 32 (by decide +kernel) rfl
theorem bf_RX2_57 : Cond.fieldLink RX2 57 RX2 "partsAhead" "[J" ∈ BIG := bt_3 33 (by decide +kernel) rfl
theorem bf_RX2_60 : Cond.fieldLink RX2 60 RX2 "principalsAhead" "[I" ∈ BIG := bt_3 34 (by decide +kernel) rfl
theorem bf_RX2_63 : Cond.fieldLink RX2 63 RX2 "isDone" "[Z" ∈ BIG := bt_3 35 (by decide +kernel) rfl
theorem ba_boolean : Cond.arrayClass .boolean ∈ BIG := bt_3 83 (by decide +kernel) rfl
theorem bl_RL_92 : Cond.methodLink RL 92 yX2_thrown ∈ BIG := bt_3 84 (by decide +kernel) rfl
theorem bi_yX2_thrown : Cond.instanceMethod yX2_thrown ∈ BIG := bt_3 85 (by decide +kernel) rfl
theorem bs_yX2_thrown : Cond.selects RX2 yX2_thrown yX2_thrown ∈ BIG := bt_3 86 (by decide +kernel) rfl
theorem bc_yX2_thrown : Cond.code yX2_thrown cX2_thrown 1 (some .int) ∈ BIG := bt_3 87 rfl rfl
theorem bl_RL_91 : Cond.methodLink RL 91 yX2_setRate ∈ BIG := bt_3 88 (by decide +kernel) rfl
theorem bi_yX2_setRate : Cond.instanceMethod yX2_setRate ∈ BIG := bt_3 89 (by decide +kernel) rfl
theorem bs_yX2_setRate : Cond.selects RX2 yX2_setRate yX2_setRate ∈ BIG := bt_3 90 (by decide +kernel) rfl
theorem bc_yX2_setRate : Cond.code yX2_setRate cX2_setRate 4 (some .int) ∈ BIG := bt_3 91 rfl rfl
theorem bl_RX2_73 : Cond.methodLink RX2 73 yX2_in ∈ BIG := bt_3 92 (by decide +kernel) rfl
theorem bst_yX2_in : Cond.static yX2_in ∈ BIG := bt_3 93 (by decide +kernel) rfl
theorem bc_yX2_in : Cond.code yX2_in cX2_in 3 (some .boolean) ∈ BIG := bt_3 94 rfl rfl
theorem bl_RL_100 : Cond.methodLink RL 100 yX2_setByBands ∈ BIG := bt_3 95 (by decide +kernel) rfl
theorem bi_yX2_setByBands : Cond.instanceMethod yX2_setByBands ∈ BIG := bt_3 96 (by decide +kernel) rfl
theorem bs_yX2_setByBands : Cond.selects RX2 yX2_setByBands yX2_setByBands ∈ BIG := bt_3 97 (by decide +kernel) rfl
theorem bc_yX2_setByBands : Cond.code yX2_setByBands cX2_setByBands 3 (some .boolean) ∈ BIG := bt_3 98 rfl rfl
theorem bl_RL_104 : Cond.methodLink RL 104 yX2_setTermRate ∈ BIG := bt_3 99 (by decide +kernel) rfl
theorem bi_yX2_setTermRate : Cond.instanceMethod yX2_setTermRate ∈ BIG := bt_3 100 (by decide +kernel) rfl
theorem bs_yX2_setTermRate : Cond.selects RX2 yX2_setTermRate yX2_setTermRate ∈ BIG := bt_3 101 (by decide +kernel) rfl
theorem bc_yX2_setTermRate : Cond.code yX2_setTermRate cX2_setTermRate 3 (some .int) ∈ BIG := bt_3 102 rfl rfl
theorem bl_RL_107 : Cond.methodLink RL 107 yX2_deposit ∈ BIG := bt_3 103 (by decide +kernel) rfl
theorem bi_yX2_deposit : Cond.instanceMethod yX2_deposit ∈ BIG := bt_3 104 (by decide +kernel) rfl
theorem bs_yX2_deposit : Cond.selects RX2 yX2_deposit yX2_deposit ∈ BIG := bt_3 105 (by decide +kernel) rfl
theorem bc_yX2_deposit : Cond.code yX2_deposit cX2_deposit 3 (some .int) ∈ BIG := bt_3 106 rfl rfl
theorem bl_RX2_111 : Cond.methodLink RX2 111 yX2_isCustomer ∈ BIG := bt_3 107 (by decide +kernel) rfl
theorem bst_yX2_isCustomer : Cond.static yX2_isCustomer ∈ BIG := bt_3 108 (by decide +kernel) rfl
theorem bc_yX2_isCustomer : Cond.code yX2_isCustomer cX2_isCustomer 1 (some .boolean) ∈ BIG := bt_3 109 rfl rfl
theorem bk_RX2_115 : Cond.constant RX2 115 (10000000) ∈ BIG := bt_3 110 (by decide +kernel) rfl
theorem bl_RX2_116 : Cond.methodLink RX2 116 yX2_open ∈ BIG := bt_3 111 (by decide +kernel) rfl
theorem bi_yX2_open : Cond.instanceMethod yX2_open ∈ BIG := bt_3 113 (by decide +kernel) rfl
theorem bc_yX2_open : Cond.code yX2_open cX2_open 4 (some .int) ∈ BIG := bt_3 114 rfl rfl
theorem bl_RL_111 : Cond.methodLink RL 111 yX2_depositTerm ∈ BIG := bt_3 115 (by decide +kernel) rfl
theorem bi_yX2_depositTerm : Cond.instanceMethod yX2_depositTerm ∈ BIG := bt_3 116 (by decide +kernel) rfl
theorem bs_yX2_depositTerm : Cond.selects RX2 yX2_depositTerm yX2_depositTerm ∈ BIG := bt_3 117 (by decide +kernel) rfl
theorem bc_yX2_depositTerm : Cond.code yX2_depositTerm cX2_depositTerm 6 (some .int) ∈ BIG := bt_3 118 rfl rfl
theorem bl_RX2_122 : Cond.methodLink RX2 122 yX2_beginTerm ∈ BIG := bt_3 119 (by decide +kernel) rfl
theorem bi_yX2_beginTerm : Cond.instanceMethod yX2_beginTerm ∈ BIG := bt_3 121 (by decide +kernel) rfl
theorem bc_yX2_beginTerm : Cond.code yX2_beginTerm cX2_beginTerm 2 none ∈ BIG := bt_3 122 rfl rfl
theorem bl_RL_114 : Cond.methodLink RL 114 yX2_give ∈ BIG := bt_3 123 (by decide +kernel) rfl
theorem bi_yX2_give : Cond.instanceMethod yX2_give ∈ BIG := bt_3 124 (by decide +kernel) rfl
theorem bs_yX2_give : Cond.selects RX2 yX2_give yX2_give ∈ BIG := bt_3 125 (by decide +kernel) rfl
theorem bc_yX2_give : Cond.code yX2_give cX2_give 3 (some .int) ∈ BIG := bt_3 126 rfl rfl
theorem bl_RX2_126 : Cond.methodLink RX2 126 yX2_isLot ∈ BIG := bt_3 127 (by decide +kernel) rfl
theorem bi_yX2_isLot : Cond.instanceMethod yX2_isLot ∈ BIG := bt_3 129 (by decide +kernel) rfl
theorem bc_yX2_isLot : Cond.code yX2_isLot cX2_isLot 2 (some .boolean) ∈ BIG := bt_3 130 rfl rfl
theorem bl_RL_117 : Cond.methodLink RL 117 yX2_withdraw ∈ BIG := bt_3 131 (by decide +kernel) rfl
theorem bi_yX2_withdraw : Cond.instanceMethod yX2_withdraw ∈ BIG := bt_3 132 (by decide +kernel) rfl
theorem bs_yX2_withdraw : Cond.selects RX2 yX2_withdraw yX2_withdraw ∈ BIG := bt_3 133 (by decide +kernel) rfl
theorem bc_yX2_withdraw : Cond.code yX2_withdraw cX2_withdraw 3 (some .int) ∈ BIG := bt_3 134 rfl rfl
theorem bl_RL_120 : Cond.methodLink RL 120 yX2_take ∈ BIG := bt_3 135 (by decide +kernel) rfl
theorem bi_yX2_take : Cond.instanceMethod yX2_take ∈ BIG := bt_3 136 (by decide +kernel) rfl
theorem bs_yX2_take : Cond.selects RX2 yX2_take yX2_take ∈ BIG := bt_3 137 (by decide +kernel) rfl
theorem bc_yX2_take : Cond.code yX2_take cX2_take 3 (some .int) ∈ BIG := bt_3 138 rfl rfl
theorem bl_RX2_129 : Cond.methodLink RX2 129 yX2_end ∈ BIG := bt_3 139 (by decide +kernel) rfl
theorem bi_yX2_end : Cond.instanceMethod yX2_end ∈ BIG := bt_3 141 (by decide +kernel) rfl
theorem bc_yX2_end : Cond.code yX2_end cX2_end 3 (some .int) ∈ BIG := bt_3 142 rfl rfl
theorem bl_RX2_108 : Cond.methodLink RX2 108 yX2_takeInterest ∈ BIG := bt_3 143 (by decide +kernel) rfl
theorem bi_yX2_takeInterest : Cond.instanceMethod yX2_takeInterest ∈ BIG := bt_3 145 (by decide +kernel) rfl
theorem bc_yX2_takeInterest : Cond.code yX2_takeInterest cX2_takeInterest 3 (some .int) ∈ BIG := bt_3 146 rfl rfl
theorem bk_RX2_106 : Cond.constantLong RX2 106 (3650000) ∈ BIG := bt_3 147 (by decide +kernel) rfl
theorem bl_RX2_132 : Cond.methodLink RX2 132 yX2_pay ∈ BIG := bt_3 148 (by decide +kernel) rfl
theorem bi_yX2_pay : Cond.instanceMethod yX2_pay ∈ BIG := bt_3 150 (by decide +kernel) rfl
theorem bc_yX2_pay : Cond.code yX2_pay cX2_pay 3 (some .int) ∈ BIG := bt_3 151 rfl rfl
theorem bl_RL_123 : Cond.methodLink RL 123 yX2_early ∈ BIG := bt_3 152 (by decide +kernel) rfl
theorem bi_yX2_early : Cond.instanceMethod yX2_early ∈ BIG := bt_3 153 (by decide +kernel) rfl
theorem bs_yX2_early : Cond.selects RX2 yX2_early yX2_early ∈ BIG := bt_3 154 (by decide +kernel) rfl
theorem bc_yX2_early : Cond.code yX2_early cX2_early 11 (some .int) ∈ BIG := bt_3 155 rfl rfl
theorem bk_RX2_135 : Cond.constant RX2 135 (100000000) ∈ BIG := bt_3 156 (by decide +kernel) rfl
theorem bl_RX2_84 : Cond.methodLink RX2 84 yX2_isNotice ∈ BIG := bt_3 157 (by decide +kernel) rfl
theorem bi_yX2_isNotice : Cond.instanceMethod yX2_isNotice ∈ BIG := bt_3 159 (by decide +kernel) rfl
theorem bc_yX2_isNotice : Cond.code yX2_isNotice cX2_isNotice 3 (some .boolean) ∈ BIG := bt_3 160 rfl rfl
theorem bl_RX2_136 : Cond.methodLink RX2 136 yX2_partsNow ∈ BIG := bt_3 161 (by decide +kernel) rfl
theorem bi_yX2_partsNow : Cond.instanceMethod yX2_partsNow ∈ BIG := bt_3 163 (by decide +kernel) rfl
theorem bc_yX2_partsNow : Cond.code yX2_partsNow cX2_partsNow 3 (some .long) ∈ BIG := bt_3 164 rfl rfl
theorem bl_RX2_94 : Cond.methodLink RX2 94 yX2_sumBelow ∈ BIG := bt_3 165 (by decide +kernel) rfl
theorem bi_yX2_sumBelow : Cond.instanceMethod yX2_sumBelow ∈ BIG := bt_3 167 (by decide +kernel) rfl
theorem bc_yX2_sumBelow : Cond.code yX2_sumBelow cX2_sumBelow 5 (some .int) ∈ BIG := bt_3 168 rfl rfl
theorem bl_RX2_98 : Cond.methodLink RX2 98 yX2_rateFor ∈ BIG := bt_3 169 (by decide +kernel) rfl
theorem bi_yX2_rateFor : Cond.instanceMethod yX2_rateFor ∈ BIG := bt_3 171 (by decide +kernel) rfl
theorem bc_yX2_rateFor : Cond.code yX2_rateFor cX2_rateFor 2 (some .int) ∈ BIG := bt_3 172 rfl rfl
theorem bk_RX2_88 : Cond.constant RX2 88 (100000) ∈ BIG := bt_3 173 (by decide +kernel) rfl
theorem bk_RX2_91 : Cond.constant RX2 91 (1000000) ∈ BIG := bt_3 174 (by decide +kernel) rfl
theorem bl_RX2_102 : Cond.methodLink RX2 102 yX2_partsOf ∈ BIG := bt_3 175 (by decide +kernel) rfl
theorem bi_yX2_partsOf : Cond.instanceMethod yX2_partsOf ∈ BIG := bt_3 177 (by decide +kernel) rfl
theorem bc_yX2_partsOf : Cond.code yX2_partsOf cX2_partsOf 6 (some .long) ∈ BIG := bt_3 178 rfl rfl
theorem bk_RX2_89 : Cond.constantLong RX2 89 (100000) ∈ BIG := bt_3 179 (by decide +kernel) rfl
theorem bk_RX2_92 : Cond.constantLong RX2 92 (900000) ∈ BIG := bt_3 180 (by decide +kernel) rfl
theorem bl_RX2_139 : Cond.methodLink RX2 139 yX2_nextFor ∈ BIG := bt_3 181 (by decide +kernel) rfl
theorem bi_yX2_nextFor : Cond.instanceMethod yX2_nextFor ∈ BIG := bt_3 183 (by decide +kernel) rfl
theorem bc_yX2_nextFor : Cond.code yX2_nextFor cX2_nextFor 5 (some .int) ∈ BIG := bt_3 184 rfl rfl
theorem bk_RX2_142 : Cond.constantLong RX2 142 (30) ∈ BIG := bt_3 185 (by decide +kernel) rfl
theorem bl_RL_126 : Cond.methodLink RL 126 yX2_instruct ∈ BIG := bt_3 186 (by decide +kernel) rfl
theorem bi_yX2_instruct : Cond.instanceMethod yX2_instruct ∈ BIG := bt_3 187 (by decide +kernel) rfl
theorem bs_yX2_instruct : Cond.selects RX2 yX2_instruct yX2_instruct ∈ BIG := bt_3 188 (by decide +kernel) rfl
theorem bc_yX2_instruct : Cond.code yX2_instruct cX2_instruct 4 (some .int) ∈ BIG := bt_3 189 rfl rfl
theorem bl_RL_129 : Cond.methodLink RL 129 yX2_letGo ∈ BIG := bt_3 190 (by decide +kernel) rfl
theorem bi_yX2_letGo : Cond.instanceMethod yX2_letGo ∈ BIG := bt_3 191 (by decide +kernel) rfl
theorem bs_yX2_letGo : Cond.selects RX2 yX2_letGo yX2_letGo ∈ BIG := bt_3 192 (by decide +kernel) rfl
theorem bc_yX2_letGo : Cond.code yX2_letGo cX2_letGo 2 (some .int) ∈ BIG := bt_3 193 rfl rfl
theorem bl_RL_132 : Cond.methodLink RL 132 yX2_join ∈ BIG := bt_3 194 (by decide +kernel) rfl
theorem bi_yX2_join : Cond.instanceMethod yX2_join ∈ BIG := bt_3 195 (by decide +kernel) rfl
theorem bs_yX2_join : Cond.selects RX2 yX2_join yX2_join ∈ BIG := bt_3 196 (by decide +kernel) rfl
theorem bc_yX2_join : Cond.code yX2_join cX2_join 4 (some .int) ∈ BIG := bt_3 197 rfl rfl
theorem bk_RX2_144 : Cond.constantLong RX2 144 (100000000) ∈ BIG := bt_3 198 (by decide +kernel) rfl
theorem bl_RL_135 : Cond.methodLink RL 135 yX2_pass ∈ BIG := bt_3 199 (by decide +kernel) rfl
theorem bi_yX2_pass : Cond.instanceMethod yX2_pass ∈ BIG := bt_3 200 (by decide +kernel) rfl
theorem bs_yX2_pass : Cond.selects RX2 yX2_pass yX2_pass ∈ BIG := bt_3 201 (by decide +kernel) rfl
theorem bc_yX2_pass : Cond.code yX2_pass cX2_pass 5 (some .int) ∈ BIG := bt_3 202 rfl rfl
theorem bl_RX2_146 : Cond.methodLink RX2 146 yX2_endTerm ∈ BIG := bt_3 203 (by decide +kernel) rfl
theorem bi_yX2_endTerm : Cond.instanceMethod yX2_endTerm ∈ BIG := bt_3 205 (by decide +kernel) rfl
theorem bc_yX2_endTerm : Cond.code yX2_endTerm cX2_endTerm 4 none ∈ BIG := bt_3 206 rfl rfl
theorem bl_RL_139 : Cond.methodLink RL 139 yX2_today ∈ BIG := bt_3 207 (by decide +kernel) rfl
theorem bi_yX2_today : Cond.instanceMethod yX2_today ∈ BIG := bt_3 208 (by decide +kernel) rfl
theorem bs_yX2_today : Cond.selects RX2 yX2_today yX2_today ∈ BIG := bt_3 209 (by decide +kernel) rfl
theorem bc_yX2_today : Cond.code yX2_today cX2_today 1 (some .int) ∈ BIG := bt_3 210 rfl rfl
theorem bl_RL_143 : Cond.methodLink RL 143 yX2_lots ∈ BIG := bt_3 211 (by decide +kernel) rfl
theorem bi_yX2_lots : Cond.instanceMethod yX2_lots ∈ BIG := bt_3 212 (by decide +kernel) rfl
theorem bs_yX2_lots : Cond.selects RX2 yX2_lots yX2_lots ∈ BIG := bt_3 213 (by decide +kernel) rfl
theorem bc_yX2_lots : Cond.code yX2_lots cX2_lots 3 (some .int) ∈ BIG := bt_3 214 rfl rfl
theorem bl_RL_146 : Cond.methodLink RL 146 yX2_principal ∈ BIG := bt_3 215 (by decide +kernel) rfl
theorem bi_yX2_principal : Cond.instanceMethod yX2_principal ∈ BIG := bt_3 216 (by decide +kernel) rfl
theorem bs_yX2_principal : Cond.selects RX2 yX2_principal yX2_principal ∈ BIG := bt_3 217 (by decide +kernel) rfl
theorem bc_yX2_principal : Cond.code yX2_principal cX2_principal 2 (some .int) ∈ BIG := bt_3 218 rfl rfl
theorem bl_RX2_149 : Cond.methodLink RX2 149 yX2_asksFor ∈ BIG := bt_3 219 (by decide +kernel) rfl
theorem bi_yX2_asksFor : Cond.instanceMethod yX2_asksFor ∈ BIG := bt_3 221 (by decide +kernel) rfl
theorem bc_yX2_asksFor : Cond.code yX2_asksFor cX2_asksFor 2 (some .boolean) ∈ BIG := bt_3 222 rfl rfl
theorem bl_RL_149 : Cond.methodLink RL 149 yX2_earned ∈ BIG := bt_3 223 (by decide +kernel) rfl
theorem bi_yX2_earned : Cond.instanceMethod yX2_earned ∈ BIG := bt_3 224 (by decide +kernel) rfl
theorem bs_yX2_earned : Cond.selects RX2 yX2_earned yX2_earned ∈ BIG := bt_3 225 (by decide +kernel) rfl
theorem bc_yX2_earned : Cond.code yX2_earned cX2_earned 2 (some .long) ∈ BIG := bt_3 226 rfl rfl
theorem bl_RL_152 : Cond.methodLink RL 152 yX2_partsOfDay ∈ BIG := bt_3 227 (by decide +kernel) rfl
theorem bi_yX2_partsOfDay : Cond.instanceMethod yX2_partsOfDay ∈ BIG := bt_3 228 (by decide +kernel) rfl
theorem bs_yX2_partsOfDay : Cond.selects RX2 yX2_partsOfDay yX2_partsOfDay ∈ BIG := bt_3 229 (by decide +kernel) rfl
theorem bc_yX2_partsOfDay : Cond.code yX2_partsOfDay cX2_partsOfDay 2 (some .long) ∈ BIG := bt_3 230 rfl rfl
theorem bl_RL_155 : Cond.methodLink RL 155 yX2_frozen ∈ BIG := bt_3 231 (by decide +kernel) rfl
theorem bi_yX2_frozen : Cond.instanceMethod yX2_frozen ∈ BIG := bt_3 232 (by decide +kernel) rfl
theorem bs_yX2_frozen : Cond.selects RX2 yX2_frozen yX2_frozen ∈ BIG := bt_3 233 (by decide +kernel) rfl
theorem bc_yX2_frozen : Cond.code yX2_frozen cX2_frozen 2 (some .int) ∈ BIG := bt_3 234 rfl rfl
theorem bl_RL_158 : Cond.methodLink RL 158 yX2_endOf ∈ BIG := bt_3 235 (by decide +kernel) rfl
theorem bi_yX2_endOf : Cond.instanceMethod yX2_endOf ∈ BIG := bt_3 236 (by decide +kernel) rfl
theorem bs_yX2_endOf : Cond.selects RX2 yX2_endOf yX2_endOf ∈ BIG := bt_3 237 (by decide +kernel) rfl
theorem bc_yX2_endOf : Cond.code yX2_endOf cX2_endOf 2 (some .int) ∈ BIG := bt_3 238 rfl rfl
theorem bl_RL_161 : Cond.methodLink RL 161 yX2_total ∈ BIG := bt_3 239 (by decide +kernel) rfl
theorem bi_yX2_total : Cond.instanceMethod yX2_total ∈ BIG := bt_4 0 (by decide +kernel) rfl
theorem bs_yX2_total : Cond.selects RX2 yX2_total yX2_total ∈ BIG := bt_4 1 (by decide +kernel) rfl
theorem bc_yX2_total : Cond.code yX2_total cX2_total 2 (some .int) ∈ BIG := bt_4 2 rfl rfl
theorem bl_RL_164 : Cond.methodLink RL 164 yX2_partsByTotal ∈ BIG := bt_4 3 (by decide +kernel) rfl
theorem bi_yX2_partsByTotal : Cond.instanceMethod yX2_partsByTotal ∈ BIG := bt_4 4 (by decide +kernel) rfl
theorem bs_yX2_partsByTotal : Cond.selects RX2 yX2_partsByTotal yX2_partsByTotal ∈ BIG := bt_4 5 (by decide +kernel) rfl
theorem bc_yX2_partsByTotal : Cond.code yX2_partsByTotal cX2_partsByTotal 3 (some .long) ∈ BIG := bt_4 6 rfl rfl
theorem bl_RL_167 : Cond.methodLink RL 167 yX2_paid ∈ BIG := bt_4 7 (by decide +kernel) rfl
theorem bi_yX2_paid : Cond.instanceMethod yX2_paid ∈ BIG := bt_4 8 (by decide +kernel) rfl
theorem bs_yX2_paid : Cond.selects RX2 yX2_paid yX2_paid ∈ BIG := bt_4 9 (by decide +kernel) rfl
theorem bc_yX2_paid : Cond.code yX2_paid cX2_paid 2 (some .long) ∈ BIG := bt_4 10 rfl rfl
theorem bl_RL_170 : Cond.methodLink RL 170 yX2_lost ∈ BIG := bt_4 11 (by decide +kernel) rfl
theorem bi_yX2_lost : Cond.instanceMethod yX2_lost ∈ BIG := bt_4 12 (by decide +kernel) rfl
theorem bs_yX2_lost : Cond.selects RX2 yX2_lost yX2_lost ∈ BIG := bt_4 13 (by decide +kernel) rfl
theorem bc_yX2_lost : Cond.code yX2_lost cX2_lost 2 (some .long) ∈ BIG := bt_4 14 rfl rfl
theorem bs_yX1_lotAt : Cond.selects RX1 yX1_lotAt yX1_lotAt ∈ BIG := bt_s (q := (yX1_lotAt, 8)) (show _ ∈ lw_privs_1 ++ (lw_privs_2 ++ lw_privs_3) from List.mem_append_left _ (List.mem_of_getElem? (i := 0) rfl))
theorem bs_yX1_enter : Cond.selects RX1 yX1_enter yX1_enter ∈ BIG := bt_s (q := (yX1_enter, 8)) (show _ ∈ lw_privs_1 ++ (lw_privs_2 ++ lw_privs_3) from List.mem_append_left _ (List.mem_of_getElem? (i := 2) rfl))
theorem bs_yX1_beginTerm : Cond.selects RX1 yX1_beginTerm yX1_beginTerm ∈ BIG := bt_s (q := (yX1_beginTerm, 8)) (show _ ∈ lw_privs_1 ++ (lw_privs_2 ++ lw_privs_3) from List.mem_append_left _ (List.mem_of_getElem? (i := 3) rfl))
theorem bs_yX1_demandLot : Cond.selects RX1 yX1_demandLot yX1_demandLot ∈ BIG := bt_s (q := (yX1_demandLot, 8)) (show _ ∈ lw_privs_1 ++ (lw_privs_2 ++ lw_privs_3) from List.mem_append_left _ (List.mem_of_getElem? (i := 4) rfl))
theorem bs_yX0_isByTerm : Cond.selects RX0 yX0_isByTerm yX0_isByTerm ∈ BIG := bt_s (q := (yX0_isByTerm, 10)) (show _ ∈ lw_privs_1 ++ (lw_privs_2 ++ lw_privs_3) from List.mem_append_left _ (List.mem_of_getElem? (i := 5) rfl))
theorem bs_yX1_demandNotice : Cond.selects RX1 yX1_demandNotice yX1_demandNotice ∈ BIG := bt_s (q := (yX1_demandNotice, 8)) (show _ ∈ lw_privs_1 ++ (lw_privs_2 ++ lw_privs_3) from List.mem_append_left _ (List.mem_of_getElem? (i := 6) rfl))
theorem bs_yX1_payOut : Cond.selects RX1 yX1_payOut yX1_payOut ∈ BIG := bt_s (q := (yX1_payOut, 8)) (show _ ∈ lw_privs_1 ++ (lw_privs_2 ++ lw_privs_3) from List.mem_append_left _ (List.mem_of_getElem? (i := 7) rfl))
theorem bs_yX1_notePaid : Cond.selects RX1 yX1_notePaid yX1_notePaid ∈ BIG := bt_s (q := (yX1_notePaid, 8)) (show _ ∈ lw_privs_1 ++ (lw_privs_2 ++ lw_privs_3) from List.mem_append_left _ (List.mem_of_getElem? (i := 8) rfl))
theorem bs_yX1_payInterest : Cond.selects RX1 yX1_payInterest yX1_payInterest ∈ BIG := bt_s (q := (yX1_payInterest, 8)) (show _ ∈ lw_privs_1 ++ (lw_privs_2 ++ lw_privs_3) from List.mem_append_left _ (List.mem_of_getElem? (i := 9) rfl))
theorem bs_yX0_drawWholeCents : Cond.selects RX0 yX0_drawWholeCents yX0_drawWholeCents ∈ BIG := bt_s (q := (yX0_drawWholeCents, 10)) (show _ ∈ lw_privs_1 ++ (lw_privs_2 ++ lw_privs_3) from List.mem_append_left _ (List.mem_of_getElem? (i := 10) rfl))
theorem bs_yX1_lose : Cond.selects RX1 yX1_lose yX1_lose ∈ BIG := bt_s (q := (yX1_lose, 8)) (show _ ∈ lw_privs_1 ++ (lw_privs_2 ++ lw_privs_3) from List.mem_append_left _ (List.mem_of_getElem? (i := 11) rfl))
theorem bs_yX1_unfrozenOf : Cond.selects RX1 yX1_unfrozenOf yX1_unfrozenOf ∈ BIG := bt_s (q := (yX1_unfrozenOf, 8)) (show _ ∈ lw_privs_1 ++ (lw_privs_2 ++ lw_privs_3) from List.mem_append_left _ (List.mem_of_getElem? (i := 12) rfl))
theorem bs_yX1_noticeLotAt : Cond.selects RX1 yX1_noticeLotAt yX1_noticeLotAt ∈ BIG := bt_s (q := (yX1_noticeLotAt, 8)) (show _ ∈ lw_privs_1 ++ (lw_privs_2 ++ lw_privs_3) from List.mem_append_left _ (List.mem_of_getElem? (i := 13) rfl))
theorem bs_yX0_unfrozen : Cond.selects RX0 yX0_unfrozen yX0_unfrozen ∈ BIG := bt_s (q := (yX0_unfrozen, 10)) (show _ ∈ lw_privs_1 ++ (lw_privs_2 ++ lw_privs_3) from List.mem_append_left _ (List.mem_of_getElem? (i := 14) rfl))
theorem bs_yX1_noteParts : Cond.selects RX1 yX1_noteParts yX1_noteParts ∈ BIG := bt_s (q := (yX1_noteParts, 8)) (show _ ∈ lw_privs_1 ++ (lw_privs_2 ++ lw_privs_3) from List.mem_append_left _ (List.mem_of_getElem? (i := 15) rfl))
theorem bs_yX1_totalOf : Cond.selects RX1 yX1_totalOf yX1_totalOf ∈ BIG := bt_s (q := (yX1_totalOf, 8)) (show _ ∈ lw_privs_1 ++ (lw_privs_2 ++ lw_privs_3) from List.mem_append_right _ (List.mem_append_left _ (List.mem_of_getElem? (i := 0) rfl)))
theorem bs_yX1_partsOfCents : Cond.selects RX1 yX1_partsOfCents yX1_partsOfCents ∈ BIG := bt_s (q := (yX1_partsOfCents, 8)) (show _ ∈ lw_privs_1 ++ (lw_privs_2 ++ lw_privs_3) from List.mem_append_right _ (List.mem_append_left _ (List.mem_of_getElem? (i := 1) rfl)))
theorem bs_yX1_partsByBands : Cond.selects RX1 yX1_partsByBands yX1_partsByBands ∈ BIG := bt_s (q := (yX1_partsByBands, 8)) (show _ ∈ lw_privs_1 ++ (lw_privs_2 ++ lw_privs_3) from List.mem_append_right _ (List.mem_append_left _ (List.mem_of_getElem? (i := 2) rfl)))
theorem bs_yX1_rateByWholeSum : Cond.selects RX1 yX1_rateByWholeSum yX1_rateByWholeSum ∈ BIG := bt_s (q := (yX1_rateByWholeSum, 8)) (show _ ∈ lw_privs_1 ++ (lw_privs_2 ++ lw_privs_3) from List.mem_append_right _ (List.mem_append_left _ (List.mem_of_getElem? (i := 3) rfl)))
theorem bs_yX1_leastHarmful : Cond.selects RX1 yX1_leastHarmful yX1_leastHarmful ∈ BIG := bt_s (q := (yX1_leastHarmful, 8)) (show _ ∈ lw_privs_1 ++ (lw_privs_2 ++ lw_privs_3) from List.mem_append_right _ (List.mem_append_left _ (List.mem_of_getElem? (i := 4) rfl)))
theorem bs_yX1_earnOneDay : Cond.selects RX1 yX1_earnOneDay yX1_earnOneDay ∈ BIG := bt_s (q := (yX1_earnOneDay, 8)) (show _ ∈ lw_privs_1 ++ (lw_privs_2 ++ lw_privs_3) from List.mem_append_right _ (List.mem_append_left _ (List.mem_of_getElem? (i := 5) rfl)))
theorem bs_yX1_beginDay : Cond.selects RX1 yX1_beginDay yX1_beginDay ∈ BIG := bt_s (q := (yX1_beginDay, 8)) (show _ ∈ lw_privs_1 ++ (lw_privs_2 ++ lw_privs_3) from List.mem_append_right _ (List.mem_append_left _ (List.mem_of_getElem? (i := 6) rfl)))
theorem bs_yX1_endTerm : Cond.selects RX1 yX1_endTerm yX1_endTerm ∈ BIG := bt_s (q := (yX1_endTerm, 8)) (show _ ∈ lw_privs_1 ++ (lw_privs_2 ++ lw_privs_3) from List.mem_append_right _ (List.mem_append_left _ (List.mem_of_getElem? (i := 7) rfl)))
theorem bs_yX2_open : Cond.selects RX2 yX2_open yX2_open ∈ BIG := bt_s (q := (yX2_open, 23)) (show _ ∈ lw_privs_1 ++ (lw_privs_2 ++ lw_privs_3) from List.mem_append_right _ (List.mem_append_left _ (List.mem_of_getElem? (i := 8) rfl)))
theorem bs_yX2_beginTerm : Cond.selects RX2 yX2_beginTerm yX2_beginTerm ∈ BIG := bt_s (q := (yX2_beginTerm, 23)) (show _ ∈ lw_privs_1 ++ (lw_privs_2 ++ lw_privs_3) from List.mem_append_right _ (List.mem_append_left _ (List.mem_of_getElem? (i := 9) rfl)))
theorem bs_yX2_isLot : Cond.selects RX2 yX2_isLot yX2_isLot ∈ BIG := bt_s (q := (yX2_isLot, 23)) (show _ ∈ lw_privs_1 ++ (lw_privs_2 ++ lw_privs_3) from List.mem_append_right _ (List.mem_append_left _ (List.mem_of_getElem? (i := 10) rfl)))
theorem bs_yX2_end : Cond.selects RX2 yX2_end yX2_end ∈ BIG := bt_s (q := (yX2_end, 23)) (show _ ∈ lw_privs_1 ++ (lw_privs_2 ++ lw_privs_3) from List.mem_append_right _ (List.mem_append_left _ (List.mem_of_getElem? (i := 11) rfl)))
theorem bs_yX2_takeInterest : Cond.selects RX2 yX2_takeInterest yX2_takeInterest ∈ BIG := bt_s (q := (yX2_takeInterest, 23)) (show _ ∈ lw_privs_1 ++ (lw_privs_2 ++ lw_privs_3) from List.mem_append_right _ (List.mem_append_left _ (List.mem_of_getElem? (i := 12) rfl)))
theorem bs_yX2_pay : Cond.selects RX2 yX2_pay yX2_pay ∈ BIG := bt_s (q := (yX2_pay, 23)) (show _ ∈ lw_privs_1 ++ (lw_privs_2 ++ lw_privs_3) from List.mem_append_right _ (List.mem_append_left _ (List.mem_of_getElem? (i := 13) rfl)))
theorem bs_yX2_isNotice : Cond.selects RX2 yX2_isNotice yX2_isNotice ∈ BIG := bt_s (q := (yX2_isNotice, 23)) (show _ ∈ lw_privs_1 ++ (lw_privs_2 ++ lw_privs_3) from List.mem_append_right _ (List.mem_append_left _ (List.mem_of_getElem? (i := 14) rfl)))
theorem bs_yX2_partsNow : Cond.selects RX2 yX2_partsNow yX2_partsNow ∈ BIG := bt_s (q := (yX2_partsNow, 23)) (show _ ∈ lw_privs_1 ++ (lw_privs_2 ++ lw_privs_3) from List.mem_append_right _ (List.mem_append_left _ (List.mem_of_getElem? (i := 15) rfl)))
theorem bs_yX2_sumBelow : Cond.selects RX2 yX2_sumBelow yX2_sumBelow ∈ BIG := bt_s (q := (yX2_sumBelow, 23)) (show _ ∈ lw_privs_1 ++ (lw_privs_2 ++ lw_privs_3) from List.mem_append_right _ (List.mem_append_right _ (List.mem_of_getElem? (i := 0) rfl)))
theorem bs_yX2_rateFor : Cond.selects RX2 yX2_rateFor yX2_rateFor ∈ BIG := bt_s (q := (yX2_rateFor, 23)) (show _ ∈ lw_privs_1 ++ (lw_privs_2 ++ lw_privs_3) from List.mem_append_right _ (List.mem_append_right _ (List.mem_of_getElem? (i := 1) rfl)))
theorem bs_yX2_partsOf : Cond.selects RX2 yX2_partsOf yX2_partsOf ∈ BIG := bt_s (q := (yX2_partsOf, 23)) (show _ ∈ lw_privs_1 ++ (lw_privs_2 ++ lw_privs_3) from List.mem_append_right _ (List.mem_append_right _ (List.mem_of_getElem? (i := 2) rfl)))
theorem bs_yX2_nextFor : Cond.selects RX2 yX2_nextFor yX2_nextFor ∈ BIG := bt_s (q := (yX2_nextFor, 23)) (show _ ∈ lw_privs_1 ++ (lw_privs_2 ++ lw_privs_3) from List.mem_append_right _ (List.mem_append_right _ (List.mem_of_getElem? (i := 3) rfl)))
theorem bs_yX2_endTerm : Cond.selects RX2 yX2_endTerm yX2_endTerm ∈ BIG := bt_s (q := (yX2_endTerm, 23)) (show _ ∈ lw_privs_1 ++ (lw_privs_2 ++ lw_privs_3) from List.mem_append_right _ (List.mem_append_right _ (List.mem_of_getElem? (i := 4) rfl)))
theorem bs_yX2_asksFor : Cond.selects RX2 yX2_asksFor yX2_asksFor ∈ BIG := bt_s (q := (yX2_asksFor, 23)) (show _ ∈ lw_privs_1 ++ (lw_privs_2 ++ lw_privs_3) from List.mem_append_right _ (List.mem_append_right _ (List.mem_of_getElem? (i := 5) rfl)))
theorem inX0 : ∀ w ∈ wsX00, w ∈ BIG := fun w h => List.mem_filter.mpr ⟨(show ∀ w ∈ wsX00, w ∈ lw_tbl by decide +kernel) w h, (show ∀ w ∈ wsX00, goodWord w = true by decide +kernel) w h⟩
theorem inX1 : ∀ w ∈ wsX10, w ∈ BIG := fun w h => List.mem_filter.mpr ⟨(show ∀ w ∈ wsX10, w ∈ lw_tbl by decide +kernel) w h, (show ∀ w ∈ wsX10, goodWord w = true by decide +kernel) w h⟩
theorem inX2 : ∀ w ∈ wsX20, w ∈ BIG := fun w h => List.mem_filter.mpr ⟨(show ∀ w ∈ wsX20, w ∈ lw_tbl by decide +kernel) w h, (show ∀ w ∈ wsX20, goodWord w = true by decide +kernel) w h⟩
end
section
/-! calls, throws, handlers, new cells, for the judgement Go -/
section CALLS
variable {p : Program} {l : Launch} {e : Env} {R : Room} {s : State} {m : MethodId} {args : Array Value} {below : List Frame} {meth : Method} {c : Code} {D : va_G} {tys : List (ClassId × FieldType)} {N0 mL : Nat} {cc : ByteArray} {own nm : String} {ret : Option FieldType} {Q : State → Prop} {w : va_W} {k n pc : Nat} {lo lo' : List (Nat × Value)} {st : List Value}
theorem nb_keep {H H1 : Heap} {locs L : List Loc} (hS : va_S (nA N0) s.heap H locs) (hz : H.size ≤ H1.size) (hk : ∀ q : Nat, q < H.size → ¬ nA N0 q → H1[q]? = H[q]?) (hL : ∀ q ∈ L, nA N0 q.base) : va_S (nA N0) s.heap H1 (locs ++ L) :=
  ⟨Nat.le_trans hS.1 hz, fun q h1 h2 => (hk q (Nat.lt_of_lt_of_le h1 hS.1) h2).trans (hS.2.1 q h1 h2), fun q hq => (List.mem_append.mp hq).elim (hS.2.2 q) (hL q)⟩
theorem go_run {mc ms : Nat} {rest : List Value} {po : Option Value → va_W → Prop} {a : Array Value} (hr : ∀ (H : Heap) (locs : List Loc) (ls : Array Slot), va_P D vwCl w H → va_D (nA N0) w → va_S (nA N0) s.heap H locs → lv_has ls mL lo → va_Run p l e R s m args below meth c H locs k n mc ms (F0 m pc ls st) rest (nQ D N0 po a) (nA N0))
    (kk : ∀ (r : Option Value) (w2 : va_W), po r w2 → Go p l e R s m args below meth c D N0 mL Q (w2) (k + mc) (n + ms) (pc + 3) (lo) (r.toList ++ rest)) : Go p l e R s m args below meth c D N0 mL Q (w) (k) (n) (pc) (lo) (st) := by
  intro H locs ls hP hD hS hl T hT X
  obtain ⟨v, st₀, t, T', L, h0, X', hL, e1, e2, ⟨⟨r, w2, hv, hp, hP2, hD2⟩, hz, hk⟩, stp⟩ := hr H locs ls hP hD hS hl T hT X
  cases hv
  rw [h0] at hz hk
  obtain ⟨t2, a1, b1⟩ := kk v w2 hp T'.heap (locs ++ L) ls (by rw [e1]; exact hP2) hD2 (nb_keep hS (by rw [e1]; exact hz) (fun q h1 h2 => by rw [e1]; exact hk q h1 h2) hL) hl T' rfl X'
  exact ⟨t2, stp t2 a1, b1⟩
theorem go_runX {mc ms : Nat} {rest : List Value} {po : Option Value → va_W → Prop} {xp : String → va_W → Prop} {a : Array Value} (hr : ∀ (H : Heap) (locs : List Loc) (ls : Array Slot), va_P D vwCl w H → va_D (nA N0) w → va_S (nA N0) s.heap H locs → lv_has ls mL lo → vx_Run p l e R s m args below meth c H locs k n mc ms (F0 m pc ls st) rest (nQ D N0 po a) (nX D N0 xp) (nA N0))
    (kx : ∀ (E : String) (w2 : va_W), xp E w2 → GoX p l e R s m args below meth c D N0 mL Q (w2) (k + mc) (n + ms) (pc) (lo) (E))
    (kk : ∀ (r : Option Value) (w2 : va_W), po r w2 → Go p l e R s m args below meth c D N0 mL Q (w2) (k + mc) (n + ms) (pc + 3) (lo) (r.toList ++ rest)) : Go p l e R s m args below meth c D N0 mL Q (w) (k) (n) (pc) (lo) (st) := by
  intro H locs ls hP hD hS hl T hT X
  rcases hr H locs ls hP hD hS hl T hT X with ⟨v, st₀, t, T', L, h0, X', hL, e1, e2, ⟨⟨r, w2, hv, hp, hP2, hD2⟩, hz, hk⟩, stp⟩ | ⟨q, st₀, t, T', L, E, ce, h0, X', hL, e1, e2, ⟨⟨w2, hp, hP2, hD2⟩, hz, hk⟩, hce, hcv, hcl, stp⟩
  · cases hv
    rw [h0] at hz hk
    obtain ⟨t2, a1, b1⟩ := kk v w2 hp T'.heap (locs ++ L) ls (by rw [e1]; exact hP2) hD2 (nb_keep hS (by rw [e1]; exact hz) (fun q h1 h2 => by rw [e1]; exact hk q h1 h2) hL) hl T' rfl X'
    exact ⟨t2, stp t2 a1, b1⟩
  · rw [h0] at hz hk
    obtain ⟨t2, a1, b1⟩ := kx E w2 hp T'.heap (locs ++ L) ls rest q ce (by rw [e1]; exact hP2) hD2 (nb_keep hS (by rw [e1]; exact hz) (fun q h1 h2 => by rw [e1]; exact hk q h1 h2) hL) hl (by rw [e1]; exact hce) hcv hcl T' rfl X'
    exact ⟨t2, stp.trans a1, b1⟩
theorem nb_pre (C : Cxt p s m args meth c D tys N0 cc mL own ret nm) {H : Heap} {locs : List Loc} {av : List Value} (hP : va_P D vwCl w H) (hD : va_D (nA N0) w) (hS : va_S (nA N0) s.heap H locs) : ∀ U : State, U.heap = H → s.WarmedH U.vm → va_Pc av (nPre D tys N0 w) av.toArray U := fun U hU hW => by
  subst hU
  exact ⟨rfl, Nat.le_trans C.2.2.2.2.2.2.1 hS.1, hP, va_K.moved hW.alike C.2.2.2.2.2.1, hD, C.2.2.2.2.2.2.2.2.2.1.step hW hS⟩
theorem go_callV (C : Cxt p s m args meth c D tys N0 cc mL own ret nm) {y : MethodName} {yc : ByteArray} {yL : Nat} {yr : Option FieldType} {rm : Room} {i : Nat} {po : Option Value → va_W → Prop} {As rest : List Value} {b qi ci : Nat} {fs : List Value} {r9 : vw_C} (hq : w[qi]? = some (b, .inr (ci, fs))) (hci : vwCl[ci]? = some r9) (hM : Ct l D tys N0 y yc yL yr rm (.ref b :: As) w po) (hy : y.cls = r9.1 ∧ y.cls ≠ "java/lang/invoke/MethodHandle" ∧ y.cls ≠ "java/lang/invoke/VarHandle") (h1 : Cond.methodLink own i y ∈ BIG) (h2 : Cond.instanceMethod y ∈ BIG) (h3 : Cond.selects r9.1 y y ∈ BIG) (h4 : Cond.initialized r9.1 ∈ BIG) (h5 : Cond.code y yc yL yr ∈ BIG) (hn : (parseMethodDescriptor y.desc).map (fun d => d.parameters.length) = some As.length) (hR : rm.frames + 1 ≤ R.frames ∧ 8 + (yL + 11) + rm.locals ≤ R.locals) (hcs : k + rm.cells ≤ R.cells ∧ n + rm.slots ≤ R.slots) (hcat : (rest.map fun v => v.category).sum ≤ 8) (d : decode cc pc = .ok (.invokevirtual i, 3))
    (kk : ∀ (r : Option Value) (w2 : va_W), po r w2 → Go p l e R s m args below meth c D N0 mL Q (w2) (k + rm.cells) (n + rm.slots) (pc + 3) (lo) (r.toList ++ rest)) (hst : st = As.reverse ++ .ref b :: rest) : Go p l e R s m args below meth c D N0 mL Q (w) (k) (n) (pc) (lo) (st) := by
  subst hst
  refine go_run (fun H locs ls hP hD hS hl => va_runV ⟨C.1, C.2.1, C.2.2.1, C.2.2.2.1, C.2.2.2.2.1⟩ hM (cwV As.length C.2.2.2.2.1 (gi_cons h1 (gi_cons h2 (gi_cons h3 (gi_cons h4 (gi_cons h5 gi_self))))) rfl rfl rfl ⟨hy.1, hy.2.1, hy.2.2, hn⟩ hR) ⟨nPre.blind, va_recv C.2.2.2.2.2.1 hP hci hq, nb_pre C hP hD hS⟩ rfl rfl hl.1 rfl (lv_room hcat) d hcs) kk
theorem go_callVX (C : Cxt p s m args meth c D tys N0 cc mL own ret nm) {y : MethodName} {yc : ByteArray} {yL : Nat} {yr : Option FieldType} {rm : Room} {i : Nat} {po : Option Value → va_W → Prop} {xp : String → va_W → Prop} {As rest : List Value} {b qi ci : Nat} {fs : List Value} {r9 : vw_C} (hq : w[qi]? = some (b, .inr (ci, fs))) (hci : vwCl[ci]? = some r9) (hM : CtX l D tys N0 y yc yL yr rm (.ref b :: As) w po xp) (hy : y.cls = r9.1 ∧ y.cls ≠ "java/lang/invoke/MethodHandle" ∧ y.cls ≠ "java/lang/invoke/VarHandle") (h1 : Cond.methodLink own i y ∈ BIG) (h2 : Cond.instanceMethod y ∈ BIG) (h3 : Cond.selects r9.1 y y ∈ BIG) (h4 : Cond.initialized r9.1 ∈ BIG) (h5 : Cond.code y yc yL yr ∈ BIG) (hn : (parseMethodDescriptor y.desc).map (fun d => d.parameters.length) = some As.length) (hR : rm.frames + 1 ≤ R.frames ∧ 8 + (yL + 11) + rm.locals ≤ R.locals) (hcs : k + rm.cells ≤ R.cells ∧ n + rm.slots ≤ R.slots) (hcat : (rest.map fun v => v.category).sum ≤ 8) (d : decode cc pc = .ok (.invokevirtual i, 3))
    (kx : ∀ (E : String) (w2 : va_W), xp E w2 → GoX p l e R s m args below meth c D N0 mL Q (w2) (k + rm.cells) (n + rm.slots) (pc) (lo) (E)) (kk : ∀ (r : Option Value) (w2 : va_W), po r w2 → Go p l e R s m args below meth c D N0 mL Q (w2) (k + rm.cells) (n + rm.slots) (pc + 3) (lo) (r.toList ++ rest)) (hst : st = As.reverse ++ .ref b :: rest) : Go p l e R s m args below meth c D N0 mL Q (w) (k) (n) (pc) (lo) (st) := by
  subst hst
  refine go_runX (fun H locs ls hP hD hS hl => vx_runV ⟨C.1, C.2.1, C.2.2.1, C.2.2.2.1, C.2.2.2.2.1⟩ hM (cwV As.length C.2.2.2.2.1 (gi_cons h1 (gi_cons h2 (gi_cons h3 (gi_cons h4 (gi_cons h5 gi_self))))) rfl rfl rfl ⟨hy.1, hy.2.1, hy.2.2, hn⟩ hR) ⟨nPre.blind, va_recv C.2.2.2.2.2.1 hP hci hq, nb_pre C hP hD hS⟩ rfl rfl hl.1 rfl (lv_room hcat) d hcs) kx kk
theorem go_callS (C : Cxt p s m args meth c D tys N0 cc mL own ret nm) {y : MethodName} {yc : ByteArray} {yL : Nat} {yr : Option FieldType} {rm : Room} {i : Nat} {po : Option Value → va_W → Prop} {As rest : List Value}  (hM : Ct l D tys N0 y yc yL yr rm (As) w po) (hy : y.cls = own ∧ y.cls ≠ "java/lang/invoke/MethodHandle" ∧ y.cls ≠ "java/lang/invoke/VarHandle") (h1 : Cond.methodLink own i y ∈ BIG) (h2 : Cond.static y ∈ BIG) (h4 : Cond.initialized own ∈ BIG) (h5 : Cond.code y yc yL yr ∈ BIG) (hn : (parseMethodDescriptor y.desc).map (fun d => d.parameters.length) = some As.length) (hR : rm.frames + 1 ≤ R.frames ∧ 8 + (yL + 11) + rm.locals ≤ R.locals) (hcs : k + rm.cells ≤ R.cells ∧ n + rm.slots ≤ R.slots) (hcat : (rest.map fun v => v.category).sum ≤ 8) (d : decode cc pc = .ok (.invokestatic i, 3))
    (kk : ∀ (r : Option Value) (w2 : va_W), po r w2 → Go p l e R s m args below meth c D N0 mL Q (w2) (k + rm.cells) (n + rm.slots) (pc + 3) (lo) (r.toList ++ rest)) (hst : st = As.reverse ++ rest) : Go p l e R s m args below meth c D N0 mL Q (w) (k) (n) (pc) (lo) (st) := by
  subst hst
  refine go_run (fun H locs ls hP hD hS hl => va_runS ⟨C.1, C.2.1, C.2.2.1, C.2.2.2.1, C.2.2.2.2.1⟩ hM (cwS As.length C.2.2.2.2.1 (gi_cons h1 (gi_cons h2 (gi_cons h4 (gi_cons h5 gi_self)))) rfl rfl rfl ⟨hy.1, hy.2.1, hy.2.2, hn⟩ hR) ⟨nPre.blind, nb_pre C hP hD hS⟩ rfl rfl hl.1 rfl (lv_room hcat) d hcs) kk
theorem go_callSX (C : Cxt p s m args meth c D tys N0 cc mL own ret nm) {y : MethodName} {yc : ByteArray} {yL : Nat} {yr : Option FieldType} {rm : Room} {i : Nat} {po : Option Value → va_W → Prop} {xp : String → va_W → Prop} {As rest : List Value}  (hM : CtX l D tys N0 y yc yL yr rm (As) w po xp) (hy : y.cls = own ∧ y.cls ≠ "java/lang/invoke/MethodHandle" ∧ y.cls ≠ "java/lang/invoke/VarHandle") (h1 : Cond.methodLink own i y ∈ BIG) (h2 : Cond.static y ∈ BIG) (h4 : Cond.initialized own ∈ BIG) (h5 : Cond.code y yc yL yr ∈ BIG) (hn : (parseMethodDescriptor y.desc).map (fun d => d.parameters.length) = some As.length) (hR : rm.frames + 1 ≤ R.frames ∧ 8 + (yL + 11) + rm.locals ≤ R.locals) (hcs : k + rm.cells ≤ R.cells ∧ n + rm.slots ≤ R.slots) (hcat : (rest.map fun v => v.category).sum ≤ 8) (d : decode cc pc = .ok (.invokestatic i, 3))
    (kx : ∀ (E : String) (w2 : va_W), xp E w2 → GoX p l e R s m args below meth c D N0 mL Q (w2) (k + rm.cells) (n + rm.slots) (pc) (lo) (E)) (kk : ∀ (r : Option Value) (w2 : va_W), po r w2 → Go p l e R s m args below meth c D N0 mL Q (w2) (k + rm.cells) (n + rm.slots) (pc + 3) (lo) (r.toList ++ rest)) (hst : st = As.reverse ++ rest) : Go p l e R s m args below meth c D N0 mL Q (w) (k) (n) (pc) (lo) (st) := by
  subst hst
  refine go_runX (fun H locs ls hP hD hS hl => vx_runS ⟨C.1, C.2.1, C.2.2.1, C.2.2.2.1, C.2.2.2.2.1⟩ hM (cwS As.length C.2.2.2.2.1 (gi_cons h1 (gi_cons h2 (gi_cons h4 (gi_cons h5 gi_self)))) rfl rfl rfl ⟨hy.1, hy.2.1, hy.2.2, hn⟩ hR) ⟨nPre.blind, nb_pre C hP hD hS⟩ rfl rfl hl.1 rfl (lv_room hcat) d hcs) kx kk
theorem go_callI (C : Cxt p s m args meth c D tys N0 cc mL own ret nm) {y : MethodName} {yc : ByteArray} {yL : Nat} {yr : Option FieldType} {rm : Room} {i : Nat} {po : Option Value → va_W → Prop} {As rest : List Value} {b : Nat} (hM : Ct l D tys N0 y yc yL yr rm (.ref b :: As) w po) (hy : y.name = "<init>" ∧ yr = none ∧ y.cls ≠ "java/lang/invoke/MethodHandle" ∧ y.cls ≠ "java/lang/invoke/VarHandle") (h1 : Cond.methodLink own i y ∈ BIG) (h2 : Cond.instanceMethod y ∈ BIG) (h4 : Cond.initialized y.cls ∈ BIG) (h5 : Cond.code y yc yL none ∈ BIG) (hn : (parseMethodDescriptor y.desc).map (fun d => d.parameters.length) = some As.length) (hR : rm.frames + 1 ≤ R.frames ∧ 8 + (yL + 11) + rm.locals ≤ R.locals) (hcs : k + rm.cells ≤ R.cells ∧ n + rm.slots ≤ R.slots) (hcat : (rest.map fun v => v.category).sum ≤ 8) (d : decode cc pc = .ok (.invokespecial i, 3))
    (kk : ∀ (r : Option Value) (w2 : va_W), po r w2 → Go p l e R s m args below meth c D N0 mL Q (w2) (k + rm.cells) (n + rm.slots) (pc + 3) (lo) (r.toList ++ rest)) (hst : st = As.reverse ++ .ref b :: rest) : Go p l e R s m args below meth c D N0 mL Q (w) (k) (n) (pc) (lo) (st) := by
  subst hst
  refine go_run (fun H locs ls hP hD hS hl => va_runI ⟨C.1, C.2.1, C.2.2.1, C.2.2.2.1, C.2.2.2.2.1⟩ (show Met l y (.code y yc yL none :: BIG) rm _ _ _ _ _ by obtain ⟨-, rfl, -⟩ := hy; exact hM) (cwI As.length C.2.2.2.2.1 (gi_cons h5 gi_self) rfl rfl rfl (C.2.2.2.2.1 _ h4) (C.2.2.2.2.1 _ h1) (C.2.2.2.2.1 _ h2) hy.1 ⟨hy.2.2.1, hy.2.2.2, hn⟩ hR) ⟨nPre.blind, nb_pre C hP hD hS⟩ rfl rfl hl.1 rfl (lv_room hcat) d hcs) kk
theorem go_callIN (C : Cxt p s m args meth c D tys N0 cc mL own ret nm) {y : MethodName} {yc : ByteArray} {yL : Nat} {yr : Option FieldType} {rm : Room} {i : Nat} {po : Option Value → va_W → Prop} {As rest : List Value} {b : Nat} (hM : Ct l D tys N0 y yc yL yr rm (.ref b :: As) w po) {host : String} (hy : y.name = "<init>" ∧ yr = none ∧ y.cls ≠ "java/lang/invoke/MethodHandle" ∧ y.cls ≠ "java/lang/invoke/VarHandle") (h1 : Cond.methodLinkNest own i y host ∈ NESTW) (h2 : Cond.instanceMethod y ∈ BIG) (h4 : Cond.initialized y.cls ∈ BIG) (h5 : Cond.code y yc yL none ∈ BIG) (hn : (parseMethodDescriptor y.desc).map (fun d => d.parameters.length) = some As.length) (hR : rm.frames + 1 ≤ R.frames ∧ 8 + (yL + 11) + rm.locals ≤ R.locals) (hcs : k + rm.cells ≤ R.cells ∧ n + rm.slots ≤ R.slots) (hcat : (rest.map fun v => v.category).sum ≤ 8) (d : decode cc pc = .ok (.invokespecial i, 3))
    (kk : ∀ (r : Option Value) (w2 : va_W), po r w2 → Go p l e R s m args below meth c D N0 mL Q (w2) (k + rm.cells) (n + rm.slots) (pc + 3) (lo) (r.toList ++ rest)) (hst : st = As.reverse ++ .ref b :: rest) : Go p l e R s m args below meth c D N0 mL Q (w) (k) (n) (pc) (lo) (st) := by
  subst hst
  refine go_run (fun H locs ls hP hD hS hl => va_runIN ⟨C.1, C.2.1, C.2.2.1, C.2.2.2.1, C.2.2.2.2.1⟩ (show Met l y (.code y yc yL none :: BIG) rm _ _ _ _ _ by obtain ⟨-, rfl, -⟩ := hy; exact hM) ⟨va_cnB As.length C.2.2.2.2.1 (gi_cons h5 gi_self) rfl rfl rfl (C.2.2.2.2.2.2.2.2.2.1.2.2.1 _ h1) (C.2.2.2.2.1 _ h4) ⟨hy.2.2.1, hy.2.2.2, hn⟩ hR, hy.1, C.2.2.2.2.1 _ h2⟩ ⟨nPre.blind, nb_pre C hP hD hS⟩ rfl rfl hl.1 rfl (lv_room hcat) d hcs) kk
theorem go_callVN (C : Cxt p s m args meth c D tys N0 cc mL own ret nm) {y : MethodName} {yc : ByteArray} {yL : Nat} {yr : Option FieldType} {rm : Room} {i : Nat} {po : Option Value → va_W → Prop} {As rest : List Value} {b qi ci : Nat} {fs : List Value} {r9 : vw_C} (hq : w[qi]? = some (b, .inr (ci, fs))) (hci : vwCl[ci]? = some r9) (hM : Ct l D tys N0 y yc yL yr rm (.ref b :: As) w po) {host : String} (hy : y.cls = r9.1 ∧ y.cls ≠ "java/lang/invoke/MethodHandle" ∧ y.cls ≠ "java/lang/invoke/VarHandle") (h1 : Cond.methodLinkNest own i y host ∈ NESTW) (h2 : Cond.instanceMethod y ∈ BIG) (h3 : Cond.selects r9.1 y y ∈ BIG) (h4 : Cond.initialized y.cls ∈ BIG) (h5 : Cond.code y yc yL yr ∈ BIG) (hn : (parseMethodDescriptor y.desc).map (fun d => d.parameters.length) = some As.length) (hR : rm.frames + 1 ≤ R.frames ∧ 8 + (yL + 11) + rm.locals ≤ R.locals) (hcs : k + rm.cells ≤ R.cells ∧ n + rm.slots ≤ R.slots) (hcat : (rest.map fun v => v.category).sum ≤ 8) (d : decode cc pc = .ok (.invokevirtual i, 3))
    (kk : ∀ (r : Option Value) (w2 : va_W), po r w2 → Go p l e R s m args below meth c D N0 mL Q (w2) (k + rm.cells) (n + rm.slots) (pc + 3) (lo) (r.toList ++ rest)) (hst : st = As.reverse ++ .ref b :: rest) : Go p l e R s m args below meth c D N0 mL Q (w) (k) (n) (pc) (lo) (st) := by
  subst hst
  refine go_run (fun H locs ls hP hD hS hl => va_runVN ⟨C.1, C.2.1, C.2.2.1, C.2.2.2.1, C.2.2.2.2.1⟩ hM ⟨va_cnB As.length C.2.2.2.2.1 (gi_cons h5 gi_self) rfl rfl rfl (C.2.2.2.2.2.2.2.2.2.1.2.2.1 _ h1) (C.2.2.2.2.1 _ h4) ⟨hy.2.1, hy.2.2, hn⟩ hR, C.2.2.2.2.1 _ h2, C.2.2.2.2.1 _ h3⟩ ⟨nPre.blind, va_recv C.2.2.2.2.2.1 hP hci hq, nb_pre C hP hD hS⟩ rfl rfl hl.1 rfl (lv_room hcat) d hcs) kk
theorem go_callW (C : Cxt p s m args meth c D tys N0 cc mL own ret nm) {y : MethodName} {yc : ByteArray} {yL : Nat} {yr : Option FieldType} {rm : Room} {i : Nat} {hh : List (Nat × Nat × Nat × Nat)} {po : Option Value → va_W → Prop} {As rest : List Value} (hM : CtW l D tys N0 y yc yL yr hh rm As w po) (hy : y.cls ≠ "java/lang/invoke/MethodHandle" ∧ y.cls ≠ "java/lang/invoke/VarHandle") (h1 : Cond.methodLink own i y ∈ BIG) (h2 : Cond.static y ∈ BIG) (h4 : Cond.initialized y.cls ∈ BIG) (h5 : Cond.codeWith y yc yL yr hh ∈ BIG) (hn : (parseMethodDescriptor y.desc).map (fun d => d.parameters.length) = some As.length) (hR : rm.frames + 1 ≤ R.frames ∧ 8 + (yL + 11) + rm.locals ≤ R.locals) (hcs : k + rm.cells ≤ R.cells ∧ n + rm.slots ≤ R.slots) (hcat : (rest.map fun v => v.category).sum ≤ 8) (d : decode cc pc = .ok (.invokestatic i, 3))
    (kk : ∀ (r : Option Value) (w2 : va_W), po r w2 → Go p l e R s m args below meth c D N0 mL Q (w2) (k + rm.cells) (n + rm.slots) (pc + 3) (lo) (r.toList ++ rest)) (hst : st = As.reverse ++ rest) : Go p l e R s m args below meth c D N0 mL Q (w) (k) (n) (pc) (lo) (st) := by
  subst hst
  refine go_runX (fun H locs ls hP hD hS hl => vx_runSX ⟨C.1, C.2.1, C.2.2.1, C.2.2.2.1, C.2.2.2.2.1⟩ hM (vx_cwSW As.length C.2.2.2.2.1 (gi_cons h1 (gi_cons h2 (gi_cons h4 (gi_cons h5 gi_self)))) rfl rfl rfl ⟨hy.1, hy.2, hn⟩ hR) ⟨nPre.blind, nb_pre C hP hD hS⟩ rfl rfl hl.1 rfl (lv_room hcat) d hcs) (fun E w2 z => z.elim) kk
variable {po : Option Value → va_W → Prop} {xp : String → va_W → Prop} {mc ms : Nat} {E : String}
theorem gox_out (C : Cxt p s m args meth c D tys N0 cc mL own ret nm) (ht : ∀ x ∈ c.exceptionTable.toList, False) (hx : xp E w) (hk : k ≤ mc) (hn : n ≤ ms) : GoX p l e R s m args below meth c D N0 mL (vx_MQ below (nQ D N0 po) (nX D N0 xp) args s mc ms (nA N0)) (w) (k) (n) (pc) (lo) (E) := fun H locs ls rest q ce hP hD hS hl hce hcv hcl => vx_out (fun x hx => (ht x hx).elim) C.2.2.2.2.2.2.2.1 hce hcv hcl (fun t ht _ => ⟨⟨w, hx, by rw [ht]; exact hP, hD⟩, hS.F ht⟩) hS.2.2 hk hn
theorem gox_catch (C : Cxt p s m args meth c D tys N0 cc mL own ret nm) (pre : List ExceptionTableEntry) (x : ExceptionTableEntry) (suf : List ExceptionTableEntry) (hsplit : c.exceptionTable.toList = pre ++ x :: suf) (hpass : ∀ z ∈ pre, covers z pc = false ∨ (z.catchType ≠ 0 ∧ ∃ nm9 : String, Cond.classLink own z.catchType nm9 ∈ BIG ∧ (E, nm9) ∈ NCS)) (hx : covers x pc = true) (h0 : x.catchType ≠ 0) (hlink : Cond.classLink own x.catchType E ∈ BIG) (hE : E ∈ EXS)
    (g : ∀ q : Nat, Go p l e R s m args below meth c D N0 mL Q (w) (k) (n) (x.handlerPc) (lo) ([.ref q])) : GoX p l e R s m args below meth c D N0 mL Q (w) (k) (n) (pc) (lo) (E) := fun H locs ls rest q ce hP hD hS hl hce hcv hcl =>
  vx_catch C.2.2.2.1 pre x suf hsplit (fun z hz => (hpass z hz).elim Or.inl (fun y => Or.inr ⟨y.1, y.2.elim fun nm9 y2 => ⟨nm9, C.2.2.2.2.1 _ y2.1, C.2.2.2.2.2.2.2.2.2.1.2.2.2.2.2.1 _ y2.2⟩⟩)) hx h0 (C.2.2.2.2.1 _ hlink) (va_Nw.use rfl (C.2.2.2.2.2.2.2.2.2.1.2.2.2.2.1 _ hE)) hce hcv hcl (g q H locs ls hP hD hS hl)
theorem nb_kept {H : Heap} {t : State} (hP : va_P D vwCl w H) (h2 : ∀ q : Nat, q < H.size → t.heap[q]? = H[q]?) : va_P D vwCl w t.heap := hP.kept fun k q hk => h2 q.1 ((hP k q hk).lt)
theorem go_throw (C : Cxt p s m args meth c D tys N0 cc mL own ret nm) (hlf : l.stackTraces = false) (ht : ∀ x ∈ c.exceptionTable.toList, False) {names : List String} {text : String} {ik is ic : Nat} (hown : own = RX1) (hE : E ∈ EXS) (hcls : Bundle.fit E = true) (hnames : ∀ n ∈ names, Bundle.fit n = true) (hk1 : Cond.classLink own ik E ∈ BIG) (hini : Cond.initialized E ∈ BIG) (hstr : (is, text) ∈ STRS)
    (hat : ∀ w9 ∈ (vx_atS own ic E names).filter goodWord, w9 ∈ BIG) (hat2 : ∀ w9 ∈ (vx_atS own ic E names).filter (fun w => !goodWord w), w9 ∈ Cond.castable E E :: SUPS.map (fun Z => Cond.declares (Bundle.initS Z))) (hgood : ∀ w9 ∈ Cond.classLink own ik E :: Cond.initialized E :: vx_atS own ic E names, vx_ot w9 = true)
    (d0 : decode cc pc = .ok (.new ik, 3)) (d3 : decode cc (pc + 3) = .ok (.dup, 1)) (d4 : decode cc (pc + 4) = .ok (.ldc is, 2)) (d6 : decode cc (pc + 6) = .ok (.invokespecial ic, 3)) (d9 : decode cc (pc + 9) = .ok (.athrow, 1))
    (hRf : names.length + 3 < R.frames) (hRl : (st.map fun v => v.category).sum + (13 * (names.length + 1) + 43) ≤ R.locals) (hRc : k + 1 ≤ R.cells) (hRs : n + 6 ≤ R.slots) (hx : xp E w) (hc : k + 1 ≤ mc) (hs : n + 6 ≤ ms) : Go p l e R s m args below meth c D N0 mL (vx_MQ below (nQ D N0 po) (nX D N0 xp) args s mc ms (nA N0)) (w) (k) (n) (pc) (lo) (st) := fun H locs ls hP hD hS hl => by
  have hEn := C.2.2.2.2.2.2.2.2.2.1
  obtain ⟨sa, hsa⟩ := hEn.2.2.2.1 _ hstr
  subst hown
  exact vx_throwS C.1 C.2.1 hlf (own := RX1) (cls := E) (text := text) (names := names) (ik := ik) (is := is) (ic := ic) (sa := sa) (A := nA N0) C.2.2.2.1 hcls hnames (C.2.2.2.2.1 _ hk1) (C.2.2.2.2.1 _ hini) hsa (vx_hat (fun w9 h => C.2.2.2.2.1 _ (hat w9 h)) hat2 (vx_c (va_Nw.use rfl (hEn.2.2.2.2.1 _ hE)) (fun w9 h => by obtain ⟨Z, hZ, rfl⟩ := List.mem_map.mp h; exact va_Nw.use rfl (hEn.2.2.2.2.2.2.2 Z hZ)))) hgood hEn.1 hEn.2.1 hS (hl.1.trans C.2.2.1.symm) d0 d3 d4 d6 d9 (fun x hx => (ht x hx).elim) hRf hRl hRc hRs C.2.2.2.2.2.2.2.1
    (fun t hA h1 h2 => ⟨⟨w, hx, nb_kept hP h2, hD⟩, Nat.le_trans hS.1 h1, fun q h3 h4 => (h2 q (Nat.lt_of_lt_of_le h3 hS.1)).trans (hS.2.1 q h3 h4)⟩) hS.2.2 hc hs
theorem go_new (C : Cxt p s m args meth c D tys N0 cc mL own ret nm) {Cn : String} {T : u_T} {N ci i : Nat} (ty : Nat → FieldType) (hin : ∀ w9 ∈ u_ws Cn T N, w9 ∈ BIG) (hty : ∀ k, k < N → parseFieldDescriptor (T k).2.2.1 = some (ty k)) (h1 : Cond.classLink own i Cn ∈ BIG) (h2 : Cond.instantiable Cn N ∈ BIG) (h3 : Cond.initialized Cn ∈ BIG) (hc : vwCl[ci]? = some (Cn, T, N)) {fs : List Value} (hfs : ∀ j, j < N → defaultValue (ty j) = vp_V fs j) (hcells : k + 1 ≤ R.cells) (hslots : n + N ≤ R.slots) (d : decode cc pc = .ok (.new i, 3))
    (g : ∀ q : Nat, Go p l e R s m args below meth c D N0 mL Q (w ++ [(q, .inr (ci, fs))]) (k + 1) (n + N) (pc + 3) (lo) (.ref q :: st)) : Go p l e R s m args below meth c D N0 mL Q (w) (k) (n) (pc) (lo) (st) := fun H locs ls hP hD hS hl =>
  va_new C.1 C.2.1 (own := own) (C := Cn) (T := T) (N := N) (ci := ci) C.2.2.2.2.1 hin ty hty C.2.2.2.1 (C.2.2.2.2.1 _ h1) (C.2.2.2.2.1 _ h2) (C.2.2.2.2.1 _ h3) C.2.2.2.2.2.1 hP hD hS (fun q hq => nb_hA C.2.2.2.2.2.2.1 hq) hc hfs hcells hslots d (fun q H1 hP1 hD1 hS1 => g q H1 locs ls hP1 hD1 hS1 hl)
theorem nb_cA {U : State} {cA cB : ClassId} {ty : FieldType} {t0 : Nat} (hK1 : va_K D vwCl (tys ++ [(cA, ty)]) U) (ht : tys[t0]? = some (cB, ty)) : cA = cB := by
  have h1 := (hK1.2 tys.length (cA, ty) (by rw [List.getElem?_append_right (Nat.le_refl _), Nat.sub_self]; rfl)).2
  have h2 := (hK1.2 t0 (cB, ty) (by rw [List.getElem?_append_left (List.getElem?_eq_some_iff.mp ht).1]; exact ht)).2
  cases ty with
  | object Cn =>
    obtain ⟨kA, comp, -, -, -, e1⟩ := h1
    obtain ⟨kB, comp2, -, -, -, e2⟩ := h2
    exact Option.some.inj (e1.symm.trans e2)
  | _ => exact Option.some.inj (Eq.trans (Eq.symm h1) h2)
theorem go_newarray (C : Cxt p s m args meth c D tys N0 cc mL own ret nm) {atype : ArrayType} {ty : FieldType} {z : Int32} {N9 t0 : Nat} {cA : ClassId} {a0 : vp_A} (harr : Cond.arrayClass ty ∈ BIG) (hty : newarray.typeOf atype = ty) (ht : tys[t0]? = some (cA, ty)) (ha : ∀ cB : ClassId, vp_cell cB a0 = arrV cB N9 (fun _ => defaultValue ty)) (hz : ¬ z < 0) (hN : z.toNatClampNeg = N9) (hby : N9 * componentBytes ty ≤ 536870912) (hcells : k + 1 ≤ R.cells) (hslots : n + N9 ≤ R.slots) (d : decode cc pc = .ok (.newarray atype, 2))
    (g : ∀ q : Nat, Go p l e R s m args below meth c D N0 mL Q (w ++ [(q, .inl (cA, a0))]) (k + 1) (n + N9) (pc + 2) (lo) (.ref q :: st)) : Go p l e R s m args below meth c D N0 mL Q (w) (k) (n) (pc) (lo) (.int z :: st) := fun H locs ls hP hD hS hl =>
  va_newa C.1 C.2.1 (by rw [hty]; exact C.2.2.2.2.1 _ harr) hty C.2.2.2.2.2.1 hP hD hS (fun q hq => nb_hA C.2.2.2.2.2.2.1 hq) ha hz hN hby hcells hslots d (fun q cB H1 hK1 hP1 hD1 hS1 => by
    have e := nb_cA hK1 ht
    subst e
    exact g q H1 locs ls hP1 hD1 hS1 hl)
theorem go_anewarray (C : Cxt p s m args meth c D tys N0 cc mL own ret nm) {i : Nat} {z : Int32} {N9 t0 : Nat} {cA : ClassId} (h1 : Cond.classLink own i RX0 ∈ BIG) (ht : tys[t0]? = some (cA, .object RX0)) (hz : ¬ z < 0) (hN : z.toNatClampNeg = N9) (hby : N9 * 4 ≤ 536870912) (hcells : k + 1 ≤ R.cells) (hslots : n + N9 ≤ R.slots) (d : decode cc pc = .ok (.anewarray i, 3))
    (g : ∀ q : Nat, Go p l e R s m args below meth c D N0 mL Q (w ++ [(q, .inl (cA, N9, .inr (.inr (.inr (.inr (fun _ => none))))))]) (k + 1) (n + N9) (pc + 3) (lo) (.ref q :: st)) : Go p l e R s m args below meth c D N0 mL Q (w) (k) (n) (pc) (lo) (.int z :: st) := fun H locs ls hP hD hS hl =>
  va_newq C.1 C.2.1 (own := own) (C := RX0) C.2.2.2.1 (C.2.2.2.2.1 _ h1) C.2.2.2.2.2.2.2.2.2.1.2.2.2.2.2.2.1 C.2.2.2.2.2.1 hP hD hS (fun q hq => nb_hA C.2.2.2.2.2.2.1 hq) hz hN hby hcells hslots d (fun q cB H1 hK1 hP1 hD1 hS1 => by
    have e := nb_cA hK1 ht
    subst e
    exact g q H1 locs ls hP1 hD1 hS1 hl)
theorem go_objInit (C : Cxt p s m args meth c D tys N0 cc mL own ret nm) {i q : Nat} (h1 : Cond.methodLink own i objectInit ∈ BIG) (h2 : Cond.instanceMethod objectInit ∈ BIG) (h3 : Cond.code objectInit ⟨#[0xb1]⟩ 1 none ∈ BIG) (hf : 1 ≤ R.frames) (hlo : (st.map fun v => v.category).sum + 12 ≤ R.locals) (d : decode cc pc = .ok (.invokespecial i, 3)) (g : Go p l e R s m args below meth c D N0 mL Q (w) (k) (n) (pc + 3) (lo) (st)) : Go p l e R s m args below meth c D N0 mL Q (w) (k) (n) (pc) (lo) (.ref q :: st) := fun H locs ls hP hD hS hl =>
  W.objInit C.1 C.2.1 C.2.2.2.1 (C.2.2.2.2.1 _ h1) (C.2.2.2.2.1 _ h2) (C.2.2.2.2.1 _ h3) rfl (by rw [C.2.2.1]; exact hl.1) rfl d hf (by show 2 * 0 + _ + 12 ≤ _; omega) (g H locs ls hP hD hS hl)
theorem go_get (C : Cxt p s m args meth c D tys N0 cc mL own ret nm) {Cn : String} {T : u_T} {N ci i a : Nat} {fs : List Value} (hin : ∀ w9 ∈ u_ws Cn T N, w9 ∈ BIG) (q0 : Nat) (he : w[q0]? = some (a, .inr (ci, fs))) (hc : vwCl[ci]? = some (Cn, T, N)) (f : Nat) (hf : f < N) (hlink : Cond.fieldLink own i (T f).1 (T f).2.1 (T f).2.2.1 ∈ BIG) {v : Value} (hv : fs[f]? = some v) (d : decode cc pc = .ok (.getfield i, 3)) (g : Go p l e R s m args below meth c D N0 mL Q (w) (k) (n) (pc + 3) (lo) (v :: st)) : Go p l e R s m args below meth c D N0 mL Q (w) (k) (n) (pc) (lo) (.ref a :: st) := fun H locs ls hP hD hS hl =>
  va_get C.1 C.2.1 (own := own) C.2.2.2.2.1 hin C.2.2.2.1 C.2.2.2.2.2.1 hP q0 he hc f hf (C.2.2.2.2.1 _ hlink) (fun _ h9 => h9) hv d (g H locs ls hP hD hS hl)
theorem go_getN (C : Cxt p s m args meth c D tys N0 cc mL own ret nm) {host : String} {Cn : String} {T : u_T} {N ci i a : Nat} {fs : List Value} (hin : ∀ w9 ∈ u_ws Cn T N, w9 ∈ BIG) (q0 : Nat) (he : w[q0]? = some (a, .inr (ci, fs))) (hc : vwCl[ci]? = some (Cn, T, N)) (f : Nat) (hf : f < N) (hlink : Cond.fieldLinkNest own i (T f).1 (T f).2.1 (T f).2.2.1 host ∈ NESTW) {v : Value} (hv : fs[f]? = some v) (d : decode cc pc = .ok (.getfield i, 3)) (g : Go p l e R s m args below meth c D N0 mL Q (w) (k) (n) (pc + 3) (lo) (v :: st)) : Go p l e R s m args below meth c D N0 mL Q (w) (k) (n) (pc) (lo) (.ref a :: st) := fun H locs ls hP hD hS hl =>
  va_getN C.1 C.2.1 (own := own) C.2.2.2.2.1 hin C.2.2.2.1 C.2.2.2.2.2.1 hP q0 he hc f hf (va_Nw.use rfl (C.2.2.2.2.2.2.2.2.2.1.2.2.1 _ hlink)) (fun _ h9 => h9) hv d (g H locs ls hP hD hS hl)
theorem go_put (C : Cxt p s m args meth c D tys N0 cc mL own ret nm) {Cn : String} {T : u_T} {N ci i a : Nat} {fs : List Value} (hin : ∀ w9 ∈ u_ws Cn T N, w9 ∈ BIG) (q0 : Nat) (he : w[q0]? = some (a, .inr (ci, fs))) (hc : vwCl[ci]? = some (Cn, T, N)) (f : Nat) (hf : f < N) (ty0 : Nat → FieldType) (hty : ∀ k, k < N → parseFieldDescriptor (T k).2.2.1 = some (ty0 k)) (hnm : ∀ a, a < N → ∀ b, b < N → a ≠ b → (T a).2.1 ≠ (T b).2.1) (hlink : Cond.fieldLink own i (T f).1 (T f).2.1 (T f).2.2.1 ∈ BIG) (hfin : (T f).2.2.2 = false) {ty : FieldType} {v : Value} (hd : parseFieldDescriptor (T f).2.2.1 = some ty) (hn : narrow ty v = v) (hfit : fits ty v = true) (hl9 : f < fs.length) (d : decode cc pc = .ok (.putfield i, 3)) (g : Go p l e R s m args below meth c D N0 mL Q (w.set q0 (a, .inr (ci, fs.set f v))) (k) (n) (pc + 3) (lo) (st)) : Go p l e R s m args below meth c D N0 mL Q (w) (k) (n) (pc) (lo) (v :: .ref a :: st) := fun H locs ls hP hD hS hl =>
  va_put C.1 C.2.1 (own := own) C.2.2.2.2.1 hin ty0 hty hnm C.2.2.2.1 C.2.2.2.2.2.1 hP hD hS q0 he hc f hf (C.2.2.2.2.1 _ hlink) (fun _ h9 => h9) hfin hd hn hfit hl9 d (fun H1 locs1 hP1 hD1 hS1 => g H1 locs1 ls hP1 hD1 hS1 hl)
theorem go_putF (C : Cxt p s m args meth c D tys N0 cc mL own ret nm) {Cn : String} {T : u_T} {N ci i a : Nat} {fs : List Value} (hin : ∀ w9 ∈ u_ws Cn T N, w9 ∈ BIG) (q0 : Nat) (he : w[q0]? = some (a, .inr (ci, fs))) (hc : vwCl[ci]? = some (Cn, T, N)) (f : Nat) (hf : f < N) (ty0 : Nat → FieldType) (hty : ∀ k, k < N → parseFieldDescriptor (T k).2.2.1 = some (ty0 k)) (hnm : ∀ a, a < N → ∀ b, b < N → a ≠ b → (T a).2.1 ≠ (T b).2.1) (hlink : Cond.fieldLink own i (T f).1 (T f).2.1 (T f).2.2.1 ∈ BIG) (hfin : (T f).2.2.2 = true) (hin2 : nm = "<init>") (hdecl : (T f).1 = own) {ty : FieldType} {v : Value} (hd : parseFieldDescriptor (T f).2.2.1 = some ty) (hn : narrow ty v = v) (hfit : fits ty v = true) (hl9 : f < fs.length) (d : decode cc pc = .ok (.putfield i, 3)) (g : Go p l e R s m args below meth c D N0 mL Q (w.set q0 (a, .inr (ci, fs.set f v))) (k) (n) (pc + 3) (lo) (st)) : Go p l e R s m args below meth c D N0 mL Q (w) (k) (n) (pc) (lo) (v :: .ref a :: st) := fun H locs ls hP hD hS hl =>
  va_putF C.1 C.2.1 (own := own) C.2.2.2.2.1 hin ty0 hty hnm C.2.2.2.1 C.2.2.2.2.2.1 hP hD hS q0 he hc f hf (C.2.2.2.2.1 _ hlink) (fun _ h9 => h9) hfin (C.2.2.2.2.2.2.2.2.2.2.trans hin2) hdecl hd hn hfit hl9 d (fun H1 locs1 hP1 hD1 hS1 => g H1 locs1 ls hP1 hD1 hS1 hl)
theorem go_putN (C : Cxt p s m args meth c D tys N0 cc mL own ret nm) {host : String} {Cn : String} {T : u_T} {N ci i a : Nat} {fs : List Value} (hin : ∀ w9 ∈ u_ws Cn T N, w9 ∈ BIG) (q0 : Nat) (he : w[q0]? = some (a, .inr (ci, fs))) (hc : vwCl[ci]? = some (Cn, T, N)) (f : Nat) (hf : f < N) (ty0 : Nat → FieldType) (hty : ∀ k, k < N → parseFieldDescriptor (T k).2.2.1 = some (ty0 k)) (hnm : ∀ a, a < N → ∀ b, b < N → a ≠ b → (T a).2.1 ≠ (T b).2.1) (hlink : Cond.fieldLinkNest own i (T f).1 (T f).2.1 (T f).2.2.1 host ∈ NESTW) (hfin : (T f).2.2.2 = false) {ty : FieldType} {v : Value} (hd : parseFieldDescriptor (T f).2.2.1 = some ty) (hn : narrow ty v = v) (hfit : fits ty v = true) (hl9 : f < fs.length) (d : decode cc pc = .ok (.putfield i, 3)) (g : Go p l e R s m args below meth c D N0 mL Q (w.set q0 (a, .inr (ci, fs.set f v))) (k) (n) (pc + 3) (lo) (st)) : Go p l e R s m args below meth c D N0 mL Q (w) (k) (n) (pc) (lo) (v :: .ref a :: st) := fun H locs ls hP hD hS hl =>
  va_putN C.1 C.2.1 (own := own) C.2.2.2.2.1 hin ty0 hty hnm C.2.2.2.1 C.2.2.2.2.2.1 hP hD hS q0 he hc f hf (va_Nw.use rfl (C.2.2.2.2.2.2.2.2.2.1.2.2.1 _ hlink)) (fun _ h9 => h9) hfin hd hn hfit hl9 d (fun H1 locs1 hP1 hD1 hS1 => g H1 locs1 ls hP1 hD1 hS1 hl)
theorem go_iald (C : Cxt p s m args meth c D tys N0 cc mL own ret nm) {a N9 : Nat} {cA : ClassId} {f : Nat → Int32} (q0 t0 : Nat) (ha : w[q0]? = some (a, .inl (cA, N9, .inl f))) (ht : tys[t0]? = some (cA, .int)) {z : Int32} (hin : vp_in z N9) (d : decode cc pc = .ok (.iaload, 1)) (g : Go p l e R s m args below meth c D N0 mL Q (w) (k) (n) (pc + 1) (lo) (.int (f z.toNatClampNeg) :: st)) : Go p l e R s m args below meth c D N0 mL Q (w) (k) (n) (pc) (lo) (.int z :: .ref a :: st) := fun H locs ls hP hD hS hl => va_iald C.1 C.2.1 C.2.2.2.2.2.1 hP q0 t0 ha ht hin d (g H locs ls hP hD hS hl)
theorem go_zald (C : Cxt p s m args meth c D tys N0 cc mL own ret nm) {a N9 : Nat} {cA : ClassId} {f : Nat → Int32} (q0 t0 : Nat) (ha : w[q0]? = some (a, .inl (cA, N9, .inl f))) (ht : tys[t0]? = some (cA, .boolean)) {z : Int32} (hin : vp_in z N9) (d : decode cc pc = .ok (.baload, 1)) (g : Go p l e R s m args below meth c D N0 mL Q (w) (k) (n) (pc + 1) (lo) (.int (f z.toNatClampNeg) :: st)) : Go p l e R s m args below meth c D N0 mL Q (w) (k) (n) (pc) (lo) (.int z :: .ref a :: st) := fun H locs ls hP hD hS hl => va_zald C.1 C.2.1 C.2.2.2.2.2.1 hP q0 t0 ha ht hin d (g H locs ls hP hD hS hl)
theorem go_lald (C : Cxt p s m args meth c D tys N0 cc mL own ret nm) {a N9 : Nat} {cA : ClassId} {f : Nat → Int64} (q0 t0 : Nat) (ha : w[q0]? = some (a, .inl (cA, N9, .inr (.inl f)))) (ht : tys[t0]? = some (cA, .long)) {z : Int32} (hin : vp_in z N9) (d : decode cc pc = .ok (.laload, 1)) (g : Go p l e R s m args below meth c D N0 mL Q (w) (k) (n) (pc + 1) (lo) (.long (f z.toNatClampNeg) :: st)) : Go p l e R s m args below meth c D N0 mL Q (w) (k) (n) (pc) (lo) (.int z :: .ref a :: st) := fun H locs ls hP hD hS hl => va_lald C.1 C.2.1 C.2.2.2.2.2.1 hP q0 t0 ha ht hin d (g H locs ls hP hD hS hl)
theorem go_aald (C : Cxt p s m args meth c D tys N0 cc mL own ret nm) {a N9 : Nat} {cA : ClassId} {Cn : String} {f : Nat → Option Nat} (q0 t0 : Nat) (ha : w[q0]? = some (a, .inl (cA, N9, .inr (.inr (.inr (.inr f)))))) (ht : tys[t0]? = some (cA, .object Cn)) {z : Int32} (hin : vp_in z N9) (d : decode cc pc = .ok (.aaload, 1)) (g : Go p l e R s m args below meth c D N0 mL Q (w) (k) (n) (pc + 1) (lo) (va_rf (f z.toNatClampNeg) :: st)) : Go p l e R s m args below meth c D N0 mL Q (w) (k) (n) (pc) (lo) (.int z :: .ref a :: st) := fun H locs ls hP hD hS hl => va_aldq C.1 C.2.1 C.2.2.2.2.2.1 hP q0 t0 ha ht hin d (g H locs ls hP hD hS hl)
theorem go_iast (C : Cxt p s m args meth c D tys N0 cc mL own ret nm) {a N9 : Nat} {cA : ClassId} {f : Nat → Int32} (q0 t0 : Nat) (ha : w[q0]? = some (a, .inl (cA, N9, .inl f))) (ht : tys[t0]? = some (cA, .int)) {z : Int32} {x : Int32} (hin : vp_in z N9) (d : decode cc pc = .ok (.iastore, 1)) (g : Go p l e R s m args below meth c D N0 mL Q (w.set q0 (a, .inl (cA, N9, .inl (upd f z.toNatClampNeg x)))) (k) (n) (pc + 1) (lo) (st)) : Go p l e R s m args below meth c D N0 mL Q (w) (k) (n) (pc) (lo) (.int x :: .int z :: .ref a :: st) := fun H locs ls hP hD hS hl => va_iast C.1 C.2.1 C.2.2.2.2.2.1 hP hD hS q0 t0 ha ht hin d (fun H1 locs1 hP1 hD1 hS1 => g H1 locs1 ls hP1 hD1 hS1 hl)
theorem go_zast (C : Cxt p s m args meth c D tys N0 cc mL own ret nm) {a N9 : Nat} {cA : ClassId} {f : Nat → Int32} (q0 t0 : Nat) (ha : w[q0]? = some (a, .inl (cA, N9, .inl f))) (ht : tys[t0]? = some (cA, .boolean)) {z : Int32} {x : Int32} (hin : vp_in z N9) (d : decode cc pc = .ok (.bastore, 1)) (g : Go p l e R s m args below meth c D N0 mL Q (w.set q0 (a, .inl (cA, N9, .inl (upd f z.toNatClampNeg (x &&& 1))))) (k) (n) (pc + 1) (lo) (st)) : Go p l e R s m args below meth c D N0 mL Q (w) (k) (n) (pc) (lo) (.int x :: .int z :: .ref a :: st) := fun H locs ls hP hD hS hl => va_zast C.1 C.2.1 C.2.2.2.2.2.1 hP hD hS q0 t0 ha ht hin d (fun H1 locs1 hP1 hD1 hS1 => g H1 locs1 ls hP1 hD1 hS1 hl)
theorem go_last (C : Cxt p s m args meth c D tys N0 cc mL own ret nm) {a N9 : Nat} {cA : ClassId} {f : Nat → Int64} (q0 t0 : Nat) (ha : w[q0]? = some (a, .inl (cA, N9, .inr (.inl f)))) (ht : tys[t0]? = some (cA, .long)) {z : Int32} {x : Int64} (hin : vp_in z N9) (d : decode cc pc = .ok (.lastore, 1)) (g : Go p l e R s m args below meth c D N0 mL Q (w.set q0 (a, .inl (cA, N9, .inr (.inl (vp_updL f z.toNatClampNeg x))))) (k) (n) (pc + 1) (lo) (st)) : Go p l e R s m args below meth c D N0 mL Q (w) (k) (n) (pc) (lo) (.long x :: .int z :: .ref a :: st) := fun H locs ls hP hD hS hl => va_last C.1 C.2.1 C.2.2.2.2.2.1 hP hD hS q0 t0 ha ht hin d (fun H1 locs1 hP1 hD1 hS1 => g H1 locs1 ls hP1 hD1 hS1 hl)
theorem go_aast (C : Cxt p s m args meth c D tys N0 cc mL own ret nm) {a N9 : Nat} {cA : ClassId} {f : Nat → Option Nat} {v : Nat} {vs : List Value} {r9 : vw_C} (q0 t0 qk ci : Nat) (ha : w[q0]? = some (a, .inl (cA, N9, .inr (.inr (.inr (.inr f)))))) (ht : tys[t0]? = some (cA, .object r9.1)) (hv : w[qk]? = some (v, .inr (ci, vs))) (hc : vwCl[ci]? = some r9) {z : Int32} (hin : vp_in z N9) (d : decode cc pc = .ok (.aastore, 1)) (g : Go p l e R s m args below meth c D N0 mL Q (w.set q0 (a, .inl (cA, N9, .inr (.inr (.inr (.inr (va_up f z.toNatClampNeg (some v)))))))) (k) (n) (pc + 1) (lo) (st)) : Go p l e R s m args below meth c D N0 mL Q (w) (k) (n) (pc) (lo) (.ref v :: .int z :: .ref a :: st) := fun H locs ls hP hD hS hl => va_astq C.1 C.2.1 C.2.2.2.2.2.1 hP hD hS q0 t0 qk ci ha ht hv hc hin d (fun H1 locs1 hP1 hD1 hS1 => g H1 locs1 ls hP1 hD1 hS1 hl)
theorem go_alen (C : Cxt p s m args meth c D tys N0 cc mL own ret nm) {a : Nat} {cA : ClassId} {x : vp_A} {ty : FieldType} {v : Int32} (q0 t0 : Nat) (ha : w[q0]? = some (a, .inl (cA, x))) (ht : tys[t0]? = some (cA, ty)) (hv : Int32.ofNat x.1 = v) (d : decode cc pc = .ok (.arraylength, 1)) (g : Go p l e R s m args below meth c D N0 mL Q (w) (k) (n) (pc + 1) (lo) (.int v :: st)) : Go p l e R s m args below meth c D N0 mL Q (w) (k) (n) (pc) (lo) (.ref a :: st) := fun H locs ls hP hD hS hl => va_alen C.1 C.2.1 C.2.2.2.2.2.1 hP q0 t0 ha ht hv d (g H locs ls hP hD hS hl)
/-- a counted loop: at its head, in round i, world, locals and the counts are functions of i -/
theorem go_for (e9 : Nat) (I : Nat → Prop) (wf : Nat → va_W) (lf : Nat → List (Nat × Value)) (h0 : w = wf 0 ∧ lo = lf 0) (hI : I 0) (hs : ∀ i, i < e9 → I i → (I (i + 1) → Go p l e R s m args below meth c D N0 mL Q (wf (i + 1)) (k) (n) (pc) (lf (i + 1)) (st)) → Go p l e R s m args below meth c D N0 mL Q (wf i) (k) (n) (pc) (lf i) (st)) (he : I e9 → Go p l e R s m args below meth c D N0 mL Q (wf e9) (k) (n) (pc) (lf e9) (st)) : Go p l e R s m args below meth c D N0 mL Q (w) (k) (n) (pc) (lo) (st) := by
  obtain ⟨rfl, rfl⟩ := h0
  have key : ∀ j i, i + j = e9 → I i → Go p l e R s m args below meth c D N0 mL Q (wf i) (k) (n) (pc) (lf i) (st) := by
    intro j
    induction j with
    | zero => intro i h hi; have e1 : i = e9 := h; subst e1; exact he hi
    | succ j ih => intro i h hi; exact hs i (by omega) hi (fun h2 => ih (i + 1) (by omega) h2)
  exact key e9 0 (Nat.zero_add _) hI
end CALLS
end
section
/-! the states as tuples: LR a lot, CS the class, MS the reference; wW the world that holds them -/
abbrev LR : Type := Int32 × Int32 × Int32 × Int64 × Int64 × Int32 × Int32 × Int32 × Int32 × Int32
abbrev lr_cu (S : LR) : Int32 := S.1
abbrev lr_td (S : LR) : Int32 := S.2.1
abbrev lr_pr (S : LR) : Int32 := S.2.2.1
abbrev lr_ea (S : LR) : Int64 := S.2.2.2.1
abbrev lr_pa (S : LR) : Int64 := S.2.2.2.2.1
abbrev lr_fz (S : LR) : Int32 := S.2.2.2.2.2.1
abbrev lr_tf (S : LR) : Int32 := S.2.2.2.2.2.2.1
abbrev lr_en (S : LR) : Int32 := S.2.2.2.2.2.2.2.1
abbrev lr_ins (S : LR) : Int32 := S.2.2.2.2.2.2.2.2.1
abbrev lr_rn (S : LR) : Int32 := S.2.2.2.2.2.2.2.2.2
abbrev lr_set_cu (S : LR) (v : Int32) : LR := (v, S.2)
abbrev lr_set_td (S : LR) (v : Int32) : LR := (S.1, v, S.2.2)
abbrev lr_set_pr (S : LR) (v : Int32) : LR := (S.1, S.2.1, v, S.2.2.2)
abbrev lr_set_ea (S : LR) (v : Int64) : LR := (S.1, S.2.1, S.2.2.1, v, S.2.2.2.2)
abbrev lr_set_pa (S : LR) (v : Int64) : LR := (S.1, S.2.1, S.2.2.1, S.2.2.2.1, v, S.2.2.2.2.2)
abbrev lr_set_fz (S : LR) (v : Int32) : LR := (S.1, S.2.1, S.2.2.1, S.2.2.2.1, S.2.2.2.2.1, v, S.2.2.2.2.2.2)
abbrev lr_set_tf (S : LR) (v : Int32) : LR := (S.1, S.2.1, S.2.2.1, S.2.2.2.1, S.2.2.2.2.1, S.2.2.2.2.2.1, v, S.2.2.2.2.2.2.2)
abbrev lr_set_en (S : LR) (v : Int32) : LR := (S.1, S.2.1, S.2.2.1, S.2.2.2.1, S.2.2.2.2.1, S.2.2.2.2.2.1, S.2.2.2.2.2.2.1, v, S.2.2.2.2.2.2.2.2)
abbrev lr_set_ins (S : LR) (v : Int32) : LR := (S.1, S.2.1, S.2.2.1, S.2.2.2.1, S.2.2.2.2.1, S.2.2.2.2.2.1, S.2.2.2.2.2.2.1, S.2.2.2.2.2.2.2.1, v, S.2.2.2.2.2.2.2.2.2)
abbrev lr_set_rn (S : LR) (v : Int32) : LR := (S.1, S.2.1, S.2.2.1, S.2.2.2.1, S.2.2.2.2.1, S.2.2.2.2.2.1, S.2.2.2.2.2.2.1, S.2.2.2.2.2.2.2.1, S.2.2.2.2.2.2.2.2.1, v)
abbrev CS : Type := (Nat → Int32) × (Nat → Int64) × (Nat → Int64) × Int32 × Int32 × Nat × Int32 × (Nat → Option Nat) × Nat × (Nat → Nat) × (Nat → LR)
abbrev cs_rates (S : CS) : Nat → Int32 := S.1
abbrev cs_paid (S : CS) : Nat → Int64 := S.2.1
abbrev cs_lost (S : CS) : Nat → Int64 := S.2.2.1
abbrev cs_bb (S : CS) : Int32 := S.2.2.2.1
abbrev cs_tr (S : CS) : Int32 := S.2.2.2.2.1
abbrev cs_n (S : CS) : Nat := S.2.2.2.2.2.1
abbrev cs_day (S : CS) : Int32 := S.2.2.2.2.2.2.1
abbrev cs_bk (S : CS) : Nat → Option Nat := S.2.2.2.2.2.2.2.1
abbrev cs_nc (S : CS) : Nat := S.2.2.2.2.2.2.2.2.1
abbrev cs_la (S : CS) : Nat → Nat := S.2.2.2.2.2.2.2.2.2.1
abbrev cs_lt (S : CS) : Nat → LR := S.2.2.2.2.2.2.2.2.2.2
abbrev cs_set_rates (S : CS) (v : Nat → Int32) : CS := (v, S.2)
abbrev cs_set_paid (S : CS) (v : Nat → Int64) : CS := (S.1, v, S.2.2)
abbrev cs_set_lost (S : CS) (v : Nat → Int64) : CS := (S.1, S.2.1, v, S.2.2.2)
abbrev cs_set_bb (S : CS) (v : Int32) : CS := (S.1, S.2.1, S.2.2.1, v, S.2.2.2.2)
abbrev cs_set_tr (S : CS) (v : Int32) : CS := (S.1, S.2.1, S.2.2.1, S.2.2.2.1, v, S.2.2.2.2.2)
abbrev cs_set_n (S : CS) (v : Nat) : CS := (S.1, S.2.1, S.2.2.1, S.2.2.2.1, S.2.2.2.2.1, v, S.2.2.2.2.2.2)
abbrev cs_set_day (S : CS) (v : Int32) : CS := (S.1, S.2.1, S.2.2.1, S.2.2.2.1, S.2.2.2.2.1, S.2.2.2.2.2.1, v, S.2.2.2.2.2.2.2)
abbrev cs_set_bk (S : CS) (v : Nat → Option Nat) : CS := (S.1, S.2.1, S.2.2.1, S.2.2.2.1, S.2.2.2.2.1, S.2.2.2.2.2.1, S.2.2.2.2.2.2.1, v, S.2.2.2.2.2.2.2.2)
abbrev cs_set_nc (S : CS) (v : Nat) : CS := (S.1, S.2.1, S.2.2.1, S.2.2.2.1, S.2.2.2.2.1, S.2.2.2.2.2.1, S.2.2.2.2.2.2.1, S.2.2.2.2.2.2.2.1, v, S.2.2.2.2.2.2.2.2.2)
abbrev cs_set_la (S : CS) (v : Nat → Nat) : CS := (S.1, S.2.1, S.2.2.1, S.2.2.2.1, S.2.2.2.2.1, S.2.2.2.2.2.1, S.2.2.2.2.2.2.1, S.2.2.2.2.2.2.2.1, S.2.2.2.2.2.2.2.2.1, v, S.2.2.2.2.2.2.2.2.2.2)
abbrev cs_set_lt (S : CS) (v : Nat → LR) : CS := (S.1, S.2.1, S.2.2.1, S.2.2.2.1, S.2.2.2.2.1, S.2.2.2.2.2.1, S.2.2.2.2.2.2.1, S.2.2.2.2.2.2.2.1, S.2.2.2.2.2.2.2.2.1, S.2.2.2.2.2.2.2.2.2.1, v)
abbrev MS : Type := (Nat → Int32) × Int32 × Int32 × Nat × (Nat → Int32) × (Nat → Int32) × (Nat → Int32) × (Nat → Int32) × (Nat → Int64) × (Nat → Int32) × (Nat → Int32) × (Nat → Int64) × (Nat → Int32) × (Nat → Int32) × (Nat → Int32) × (Nat → Int32) × (Nat → Int64) × (Nat → Int64) × Int32 × Int32 × (Nat → Int64) × (Nat → Int32) × (Nat → Int32)
abbrev ms_rates (S : MS) : Nat → Int32 := S.1
abbrev ms_bb (S : MS) : Int32 := S.2.1
abbrev ms_tr (S : MS) : Int32 := S.2.2.1
abbrev ms_n (S : MS) : Nat := S.2.2.2.1
abbrev ms_th (S : MS) : Nat → Int32 := S.2.2.2.2.1
abbrev ms_te (S : MS) : Nat → Int32 := S.2.2.2.2.2.1
abbrev ms_ow (S : MS) : Nat → Int32 := S.2.2.2.2.2.2.1
abbrev ms_pr (S : MS) : Nat → Int32 := S.2.2.2.2.2.2.2.1
abbrev ms_ea (S : MS) : Nat → Int64 := S.2.2.2.2.2.2.2.2.1
abbrev ms_fz (S : MS) : Nat → Int32 := S.2.2.2.2.2.2.2.2.2.1
abbrev ms_nd (S : MS) : Nat → Int32 := S.2.2.2.2.2.2.2.2.2.2.1
abbrev ms_tp (S : MS) : Nat → Int64 := S.2.2.2.2.2.2.2.2.2.2.2.1
abbrev ms_le (S : MS) : Nat → Int32 := S.2.2.2.2.2.2.2.2.2.2.2.2.1
abbrev ms_en (S : MS) : Nat → Int32 := S.2.2.2.2.2.2.2.2.2.2.2.2.2.1
abbrev ms_ins (S : MS) : Nat → Int32 := S.2.2.2.2.2.2.2.2.2.2.2.2.2.2.1
abbrev ms_bg (S : MS) : Nat → Int32 := S.2.2.2.2.2.2.2.2.2.2.2.2.2.2.2.1
abbrev ms_paid (S : MS) : Nat → Int64 := S.2.2.2.2.2.2.2.2.2.2.2.2.2.2.2.2.1
abbrev ms_lost (S : MS) : Nat → Int64 := S.2.2.2.2.2.2.2.2.2.2.2.2.2.2.2.2.2.1
abbrev ms_now (S : MS) : Int32 := S.2.2.2.2.2.2.2.2.2.2.2.2.2.2.2.2.2.2.1
abbrev ms_thr (S : MS) : Int32 := S.2.2.2.2.2.2.2.2.2.2.2.2.2.2.2.2.2.2.2.1
abbrev ms_pah (S : MS) : Nat → Int64 := S.2.2.2.2.2.2.2.2.2.2.2.2.2.2.2.2.2.2.2.2.1
abbrev ms_prh (S : MS) : Nat → Int32 := S.2.2.2.2.2.2.2.2.2.2.2.2.2.2.2.2.2.2.2.2.2.1
abbrev ms_dn (S : MS) : Nat → Int32 := S.2.2.2.2.2.2.2.2.2.2.2.2.2.2.2.2.2.2.2.2.2.2
abbrev ms_set_rates (S : MS) (v : Nat → Int32) : MS := (v, S.2)
abbrev ms_set_bb (S : MS) (v : Int32) : MS := (S.1, v, S.2.2)
abbrev ms_set_tr (S : MS) (v : Int32) : MS := (S.1, S.2.1, v, S.2.2.2)
abbrev ms_set_n (S : MS) (v : Nat) : MS := (S.1, S.2.1, S.2.2.1, v, S.2.2.2.2)
abbrev ms_set_th (S : MS) (v : Nat → Int32) : MS := (S.1, S.2.1, S.2.2.1, S.2.2.2.1, v, S.2.2.2.2.2)
abbrev ms_set_te (S : MS) (v : Nat → Int32) : MS := (S.1, S.2.1, S.2.2.1, S.2.2.2.1, S.2.2.2.2.1, v, S.2.2.2.2.2.2)
abbrev ms_set_ow (S : MS) (v : Nat → Int32) : MS := (S.1, S.2.1, S.2.2.1, S.2.2.2.1, S.2.2.2.2.1, S.2.2.2.2.2.1, v, S.2.2.2.2.2.2.2)
abbrev ms_set_pr (S : MS) (v : Nat → Int32) : MS := (S.1, S.2.1, S.2.2.1, S.2.2.2.1, S.2.2.2.2.1, S.2.2.2.2.2.1, S.2.2.2.2.2.2.1, v, S.2.2.2.2.2.2.2.2)
abbrev ms_set_ea (S : MS) (v : Nat → Int64) : MS := (S.1, S.2.1, S.2.2.1, S.2.2.2.1, S.2.2.2.2.1, S.2.2.2.2.2.1, S.2.2.2.2.2.2.1, S.2.2.2.2.2.2.2.1, v, S.2.2.2.2.2.2.2.2.2)
abbrev ms_set_fz (S : MS) (v : Nat → Int32) : MS := (S.1, S.2.1, S.2.2.1, S.2.2.2.1, S.2.2.2.2.1, S.2.2.2.2.2.1, S.2.2.2.2.2.2.1, S.2.2.2.2.2.2.2.1, S.2.2.2.2.2.2.2.2.1, v, S.2.2.2.2.2.2.2.2.2.2)
abbrev ms_set_nd (S : MS) (v : Nat → Int32) : MS := (S.1, S.2.1, S.2.2.1, S.2.2.2.1, S.2.2.2.2.1, S.2.2.2.2.2.1, S.2.2.2.2.2.2.1, S.2.2.2.2.2.2.2.1, S.2.2.2.2.2.2.2.2.1, S.2.2.2.2.2.2.2.2.2.1, v, S.2.2.2.2.2.2.2.2.2.2.2)
abbrev ms_set_tp (S : MS) (v : Nat → Int64) : MS := (S.1, S.2.1, S.2.2.1, S.2.2.2.1, S.2.2.2.2.1, S.2.2.2.2.2.1, S.2.2.2.2.2.2.1, S.2.2.2.2.2.2.2.1, S.2.2.2.2.2.2.2.2.1, S.2.2.2.2.2.2.2.2.2.1, S.2.2.2.2.2.2.2.2.2.2.1, v, S.2.2.2.2.2.2.2.2.2.2.2.2)
abbrev ms_set_le (S : MS) (v : Nat → Int32) : MS := (S.1, S.2.1, S.2.2.1, S.2.2.2.1, S.2.2.2.2.1, S.2.2.2.2.2.1, S.2.2.2.2.2.2.1, S.2.2.2.2.2.2.2.1, S.2.2.2.2.2.2.2.2.1, S.2.2.2.2.2.2.2.2.2.1, S.2.2.2.2.2.2.2.2.2.2.1, S.2.2.2.2.2.2.2.2.2.2.2.1, v, S.2.2.2.2.2.2.2.2.2.2.2.2.2)
abbrev ms_set_en (S : MS) (v : Nat → Int32) : MS := (S.1, S.2.1, S.2.2.1, S.2.2.2.1, S.2.2.2.2.1, S.2.2.2.2.2.1, S.2.2.2.2.2.2.1, S.2.2.2.2.2.2.2.1, S.2.2.2.2.2.2.2.2.1, S.2.2.2.2.2.2.2.2.2.1, S.2.2.2.2.2.2.2.2.2.2.1, S.2.2.2.2.2.2.2.2.2.2.2.1, S.2.2.2.2.2.2.2.2.2.2.2.2.1, v, S.2.2.2.2.2.2.2.2.2.2.2.2.2.2)
abbrev ms_set_ins (S : MS) (v : Nat → Int32) : MS := (S.1, S.2.1, S.2.2.1, S.2.2.2.1, S.2.2.2.2.1, S.2.2.2.2.2.1, S.2.2.2.2.2.2.1, S.2.2.2.2.2.2.2.1, S.2.2.2.2.2.2.2.2.1, S.2.2.2.2.2.2.2.2.2.1, S.2.2.2.2.2.2.2.2.2.2.1, S.2.2.2.2.2.2.2.2.2.2.2.1, S.2.2.2.2.2.2.2.2.2.2.2.2.1, S.2.2.2.2.2.2.2.2.2.2.2.2.2.1, v, S.2.2.2.2.2.2.2.2.2.2.2.2.2.2.2)
abbrev ms_set_bg (S : MS) (v : Nat → Int32) : MS := (S.1, S.2.1, S.2.2.1, S.2.2.2.1, S.2.2.2.2.1, S.2.2.2.2.2.1, S.2.2.2.2.2.2.1, S.2.2.2.2.2.2.2.1, S.2.2.2.2.2.2.2.2.1, S.2.2.2.2.2.2.2.2.2.1, S.2.2.2.2.2.2.2.2.2.2.1, S.2.2.2.2.2.2.2.2.2.2.2.1, S.2.2.2.2.2.2.2.2.2.2.2.2.1, S.2.2.2.2.2.2.2.2.2.2.2.2.2.1, S.2.2.2.2.2.2.2.2.2.2.2.2.2.2.1, v, S.2.2.2.2.2.2.2.2.2.2.2.2.2.2.2.2)
abbrev ms_set_paid (S : MS) (v : Nat → Int64) : MS := (S.1, S.2.1, S.2.2.1, S.2.2.2.1, S.2.2.2.2.1, S.2.2.2.2.2.1, S.2.2.2.2.2.2.1, S.2.2.2.2.2.2.2.1, S.2.2.2.2.2.2.2.2.1, S.2.2.2.2.2.2.2.2.2.1, S.2.2.2.2.2.2.2.2.2.2.1, S.2.2.2.2.2.2.2.2.2.2.2.1, S.2.2.2.2.2.2.2.2.2.2.2.2.1, S.2.2.2.2.2.2.2.2.2.2.2.2.2.1, S.2.2.2.2.2.2.2.2.2.2.2.2.2.2.1, S.2.2.2.2.2.2.2.2.2.2.2.2.2.2.2.1, v, S.2.2.2.2.2.2.2.2.2.2.2.2.2.2.2.2.2)
abbrev ms_set_lost (S : MS) (v : Nat → Int64) : MS := (S.1, S.2.1, S.2.2.1, S.2.2.2.1, S.2.2.2.2.1, S.2.2.2.2.2.1, S.2.2.2.2.2.2.1, S.2.2.2.2.2.2.2.1, S.2.2.2.2.2.2.2.2.1, S.2.2.2.2.2.2.2.2.2.1, S.2.2.2.2.2.2.2.2.2.2.1, S.2.2.2.2.2.2.2.2.2.2.2.1, S.2.2.2.2.2.2.2.2.2.2.2.2.1, S.2.2.2.2.2.2.2.2.2.2.2.2.2.1, S.2.2.2.2.2.2.2.2.2.2.2.2.2.2.1, S.2.2.2.2.2.2.2.2.2.2.2.2.2.2.2.1, S.2.2.2.2.2.2.2.2.2.2.2.2.2.2.2.2.1, v, S.2.2.2.2.2.2.2.2.2.2.2.2.2.2.2.2.2.2)
abbrev ms_set_now (S : MS) (v : Int32) : MS := (S.1, S.2.1, S.2.2.1, S.2.2.2.1, S.2.2.2.2.1, S.2.2.2.2.2.1, S.2.2.2.2.2.2.1, S.2.2.2.2.2.2.2.1, S.2.2.2.2.2.2.2.2.1, S.2.2.2.2.2.2.2.2.2.1, S.2.2.2.2.2.2.2.2.2.2.1, S.2.2.2.2.2.2.2.2.2.2.2.1, S.2.2.2.2.2.2.2.2.2.2.2.2.1, S.2.2.2.2.2.2.2.2.2.2.2.2.2.1, S.2.2.2.2.2.2.2.2.2.2.2.2.2.2.1, S.2.2.2.2.2.2.2.2.2.2.2.2.2.2.2.1, S.2.2.2.2.2.2.2.2.2.2.2.2.2.2.2.2.1, S.2.2.2.2.2.2.2.2.2.2.2.2.2.2.2.2.2.1, v, S.2.2.2.2.2.2.2.2.2.2.2.2.2.2.2.2.2.2.2)
abbrev ms_set_thr (S : MS) (v : Int32) : MS := (S.1, S.2.1, S.2.2.1, S.2.2.2.1, S.2.2.2.2.1, S.2.2.2.2.2.1, S.2.2.2.2.2.2.1, S.2.2.2.2.2.2.2.1, S.2.2.2.2.2.2.2.2.1, S.2.2.2.2.2.2.2.2.2.1, S.2.2.2.2.2.2.2.2.2.2.1, S.2.2.2.2.2.2.2.2.2.2.2.1, S.2.2.2.2.2.2.2.2.2.2.2.2.1, S.2.2.2.2.2.2.2.2.2.2.2.2.2.1, S.2.2.2.2.2.2.2.2.2.2.2.2.2.2.1, S.2.2.2.2.2.2.2.2.2.2.2.2.2.2.2.1, S.2.2.2.2.2.2.2.2.2.2.2.2.2.2.2.2.1, S.2.2.2.2.2.2.2.2.2.2.2.2.2.2.2.2.2.1, S.2.2.2.2.2.2.2.2.2.2.2.2.2.2.2.2.2.2.1, v, S.2.2.2.2.2.2.2.2.2.2.2.2.2.2.2.2.2.2.2.2)
abbrev ms_set_pah (S : MS) (v : Nat → Int64) : MS := (S.1, S.2.1, S.2.2.1, S.2.2.2.1, S.2.2.2.2.1, S.2.2.2.2.2.1, S.2.2.2.2.2.2.1, S.2.2.2.2.2.2.2.1, S.2.2.2.2.2.2.2.2.1, S.2.2.2.2.2.2.2.2.2.1, S.2.2.2.2.2.2.2.2.2.2.1, S.2.2.2.2.2.2.2.2.2.2.2.1, S.2.2.2.2.2.2.2.2.2.2.2.2.1, S.2.2.2.2.2.2.2.2.2.2.2.2.2.1, S.2.2.2.2.2.2.2.2.2.2.2.2.2.2.1, S.2.2.2.2.2.2.2.2.2.2.2.2.2.2.2.1, S.2.2.2.2.2.2.2.2.2.2.2.2.2.2.2.2.1, S.2.2.2.2.2.2.2.2.2.2.2.2.2.2.2.2.2.1, S.2.2.2.2.2.2.2.2.2.2.2.2.2.2.2.2.2.2.1, S.2.2.2.2.2.2.2.2.2.2.2.2.2.2.2.2.2.2.2.1, v, S.2.2.2.2.2.2.2.2.2.2.2.2.2.2.2.2.2.2.2.2.2)
abbrev ms_set_prh (S : MS) (v : Nat → Int32) : MS := (S.1, S.2.1, S.2.2.1, S.2.2.2.1, S.2.2.2.2.1, S.2.2.2.2.2.1, S.2.2.2.2.2.2.1, S.2.2.2.2.2.2.2.1, S.2.2.2.2.2.2.2.2.1, S.2.2.2.2.2.2.2.2.2.1, S.2.2.2.2.2.2.2.2.2.2.1, S.2.2.2.2.2.2.2.2.2.2.2.1, S.2.2.2.2.2.2.2.2.2.2.2.2.1, S.2.2.2.2.2.2.2.2.2.2.2.2.2.1, S.2.2.2.2.2.2.2.2.2.2.2.2.2.2.1, S.2.2.2.2.2.2.2.2.2.2.2.2.2.2.2.1, S.2.2.2.2.2.2.2.2.2.2.2.2.2.2.2.2.1, S.2.2.2.2.2.2.2.2.2.2.2.2.2.2.2.2.2.1, S.2.2.2.2.2.2.2.2.2.2.2.2.2.2.2.2.2.2.1, S.2.2.2.2.2.2.2.2.2.2.2.2.2.2.2.2.2.2.2.1, S.2.2.2.2.2.2.2.2.2.2.2.2.2.2.2.2.2.2.2.2.1, v, S.2.2.2.2.2.2.2.2.2.2.2.2.2.2.2.2.2.2.2.2.2.2)
abbrev ms_set_dn (S : MS) (v : Nat → Int32) : MS := (S.1, S.2.1, S.2.2.1, S.2.2.2.1, S.2.2.2.2.1, S.2.2.2.2.2.1, S.2.2.2.2.2.2.1, S.2.2.2.2.2.2.2.1, S.2.2.2.2.2.2.2.2.1, S.2.2.2.2.2.2.2.2.2.1, S.2.2.2.2.2.2.2.2.2.2.1, S.2.2.2.2.2.2.2.2.2.2.2.1, S.2.2.2.2.2.2.2.2.2.2.2.2.1, S.2.2.2.2.2.2.2.2.2.2.2.2.2.1, S.2.2.2.2.2.2.2.2.2.2.2.2.2.2.1, S.2.2.2.2.2.2.2.2.2.2.2.2.2.2.2.1, S.2.2.2.2.2.2.2.2.2.2.2.2.2.2.2.2.1, S.2.2.2.2.2.2.2.2.2.2.2.2.2.2.2.2.2.1, S.2.2.2.2.2.2.2.2.2.2.2.2.2.2.2.2.2.2.1, S.2.2.2.2.2.2.2.2.2.2.2.2.2.2.2.2.2.2.2.1, S.2.2.2.2.2.2.2.2.2.2.2.2.2.2.2.2.2.2.2.2.1, S.2.2.2.2.2.2.2.2.2.2.2.2.2.2.2.2.2.2.2.2.2.1, v)
abbrev lotFs (r : LR) : List Value := [.int (lr_cu r), .int (lr_td r), .int (lr_pr r), .long (lr_ea r), .long (lr_pa r), .int (lr_fz r), .int (lr_tf r), .int (lr_en r), .int (lr_ins r), .int (lr_rn r)]
abbrev cs_setLot (S : CS) (i : Nat) (r : LR) : CS := cs_set_lt S (va_up (cs_lt S) i r)
def wFix (cI cJ cZ cO : ClassId) (a : Nat → Nat) (S : CS) (M : MS) (ov : Nat → Int64) : va_W := [(a 0, .inr (1, [.ref (a 1), .ref (a 2), .ref (a 3), .ref (a 4), .int (cs_bb S), .int (cs_tr S), .int (nI (cs_n S)), .int (cs_day S)])), (a 1, .inl (cI, 3, .inl (cs_rates S))), (a 2, .inl (cJ, 4, .inr (.inl (cs_paid S)))), (a 3, .inl (cJ, 4, .inr (.inl (cs_lost S)))), (a 4, .inl (cO, 40, .inr (.inr (.inr (.inr (cs_bk S)))))), (a 5, .inr (2, [.ref (a 6), .int (ms_bb M), .int (ms_tr M), .int (nI (ms_n M)), .ref (a 7), .ref (a 8), .ref (a 9), .ref (a 10), .ref (a 11), .ref (a 12), .ref (a 13), .ref (a 14), .ref (a 15), .ref (a 16), .ref (a 17), .ref (a 18), .ref (a 19), .ref (a 20), .int (ms_now M), .int (ms_thr M), .ref (a 21), .ref (a 22), .ref (a 23)])), (a 6, .inl (cI, 3, .inl (ms_rates M))), (a 7, .inl (cZ, 40, .inl (ms_th M))), (a 8, .inl (cZ, 40, .inl (ms_te M))), (a 9, .inl (cI, 40, .inl (ms_ow M))), (a 10, .inl (cI, 40, .inl (ms_pr M))), (a 11, .inl (cJ, 40, .inr (.inl (ms_ea M)))), (a 12, .inl (cI, 40, .inl (ms_fz M))), (a 13, .inl (cI, 40, .inl (ms_nd M))), (a 14, .inl (cJ, 40, .inr (.inl (ms_tp M)))), (a 15, .inl (cI, 40, .inl (ms_le M))), (a 16, .inl (cI, 40, .inl (ms_en M))), (a 17, .inl (cI, 40, .inl (ms_ins M))), (a 18, .inl (cI, 40, .inl (ms_bg M))), (a 19, .inl (cJ, 4, .inr (.inl (ms_paid M)))), (a 20, .inl (cJ, 4, .inr (.inl (ms_lost M)))), (a 21, .inl (cJ, 40, .inr (.inl (ms_pah M)))), (a 22, .inl (cI, 40, .inl (ms_prh M))), (a 23, .inl (cZ, 40, .inl (ms_dn M))), (a 24, .inl (cJ, 1, .inr (.inl ov)))]
def wLots (S : CS) : va_W := (List.range (cs_nc S)).map (fun i => (cs_la S i, Sum.inr (0, lotFs (cs_lt S i))))
def wW (cI cJ cZ cO : ClassId) (a : Nat → Nat) (S : CS) (M : MS) (ov : Nat → Int64) : va_W := wFix cI cJ cZ cO a S M ov ++ wLots S
abbrev tysW (cI cJ cZ cO : ClassId) : List (ClassId × FieldType) := [(cI, .int), (cJ, .long), (cZ, .boolean), (cO, .object RX0)]
section WORLD
variable {cI cJ cZ cO : ClassId} {a : Nat → Nat} {S : CS} {M : MS} {ov : Nat → Int64}
theorem w_map_set (n : Nat) (ad : Nat → Nat) (f : Nat → va_E) {g : Nat → va_E} (i : Nat) (e : va_E) (h : i < n) (hg : g = va_up f i e) : ((List.range n).map (fun j => (ad j, f j))).set i (ad i, e) = (List.range n).map (fun j => (ad j, g j)) := by
  subst hg
  apply List.ext_getElem?
  intro j
  rw [List.getElem?_set, List.getElem?_map, List.getElem?_map, List.length_map, List.length_range]
  by_cases hj : i = j
  · subst hj
    simp [h, va_up]
  · rw [if_neg hj]
    cases hb : (List.range n)[j]? with
    | none => rfl
    | some b =>
      obtain ⟨hb3, hb4⟩ := List.getElem?_eq_some_iff.mp hb
      have hbj : b = j := by rw [← hb4]; simp
      subst hbj
      simp [va_up, Ne.symm hj]
theorem wFix_len : (wFix cI cJ cZ cO a S M ov).length = 25 := rfl
theorem w_lot {i : Nat} (h : i < cs_nc S) : (wW cI cJ cZ cO a S M ov)[25 + i]? = some (cs_la S i, .inr (0, lotFs (cs_lt S i))) := by
  unfold wW
  rw [List.getElem?_append_right (by rw [wFix_len]; omega), wFix_len, Nat.add_sub_cancel_left]
  simp [wLots, h]
theorem w_lot_set {i : Nat} (h : i < cs_nc S) (r : LR) : (wW cI cJ cZ cO a S M ov).set (25 + i) (cs_la S i, .inr (0, lotFs r)) = wW cI cJ cZ cO a (cs_setLot S i r) M ov := by
  unfold wW
  rw [List.set_append_right _ _ (by rw [wFix_len]; omega), wFix_len, Nat.add_sub_cancel_left]
  refine congrArg (fun z => wFix cI cJ cZ cO a S M ov ++ z) ?_
  exact w_map_set (cs_nc S) (cs_la S) (fun i => Sum.inr (0, lotFs (cs_lt S i))) i _ h (funext fun j => by
    by_cases hj : j = i
    · subst hj
      rw [va_up_self]
      show Sum.inr (0, lotFs (va_up (cs_lt S) j r j)) = _
      rw [va_up_self]
    · rw [va_up_ne _ _ hj]
      show Sum.inr (0, lotFs (va_up (cs_lt S) i r j)) = _
      rw [va_up_ne _ _ hj])
theorem w_lot_new {q : Nat} {r : LR} : wW cI cJ cZ cO a S M ov ++ [(q, .inr (0, lotFs r))] = wW cI cJ cZ cO a (cs_set_nc (cs_set_la (cs_setLot S (cs_nc S) r) (va_up (cs_la S) (cs_nc S) q)) (cs_nc S + 1)) M ov := by
  unfold wW
  rw [List.append_assoc]
  refine congrArg (fun z => wFix cI cJ cZ cO a S M ov ++ z) ?_
  show (List.range (cs_nc S)).map (fun i => (cs_la S i, Sum.inr (0, lotFs (cs_lt S i)))) ++ [(q, .inr (0, lotFs r))] = (List.range (cs_nc S + 1)).map (fun i => (va_up (cs_la S) (cs_nc S) q i, Sum.inr (0, lotFs (va_up (cs_lt S) (cs_nc S) r i))))
  rw [List.range_succ, List.map_append]
  congr 1
  · apply List.map_congr_left
    intro i hi
    have : i ≠ cs_nc S := Nat.ne_of_lt (List.mem_range.mp hi)
    rw [va_up_ne _ _ this, va_up_ne _ _ this]
  · simp [va_up]
variable {p : Program} {l : Launch} {e : Env} {R : Room} {s : State} {m : MethodId} {args : Array Value} {below : List Frame} {meth : Method} {c : Code} {D : va_G} {N0 mL : Nat} {cc : ByteArray} {nm : String} {ret : Option FieldType} {Q : State → Prop} {k n pc : Nat} {lo : List (Nat × Value)} {st : List Value}
theorem gx_paidCents (C : Cxt p s m args meth c D (tysW cI cJ cZ cO) N0 cc mL RX1 ret nm) (d : decode cc pc = .ok (.getfield 13, 3)) (g : Go p l e R s m args below meth c D N0 mL Q (wW cI cJ cZ cO a S M ov) k n (pc + 3) lo (.ref (a 2) :: st)) : Go p l e R s m args below meth c D N0 mL Q (wW cI cJ cZ cO a S M ov) k n (pc) lo (.ref (a 0) :: st) := go_get C inX1 0 rfl rfl 1 (by decide) bf_RX1_13 rfl d g
theorem gx_lostParts (C : Cxt p s m args meth c D (tysW cI cJ cZ cO) N0 cc mL RX1 ret nm) (d : decode cc pc = .ok (.getfield 17, 3)) (g : Go p l e R s m args below meth c D N0 mL Q (wW cI cJ cZ cO a S M ov) k n (pc + 3) lo (.ref (a 3) :: st)) : Go p l e R s m args below meth c D N0 mL Q (wW cI cJ cZ cO a S M ov) k n (pc) lo (.ref (a 0) :: st) := go_get C inX1 0 rfl rfl 2 (by decide) bf_RX1_17 rfl d g
theorem gx_book (C : Cxt p s m args meth c D (tysW cI cJ cZ cO) N0 cc mL RX1 ret nm) (d : decode cc pc = .ok (.getfield 22, 3)) (g : Go p l e R s m args below meth c D N0 mL Q (wW cI cJ cZ cO a S M ov) k n (pc + 3) lo (.ref (a 4) :: st)) : Go p l e R s m args below meth c D N0 mL Q (wW cI cJ cZ cO a S M ov) k n (pc) lo (.ref (a 0) :: st) := go_get C inX1 0 rfl rfl 3 (by decide) bf_RX1_22 rfl d g
theorem gx_tiersByBands (C : Cxt p s m args meth c D (tysW cI cJ cZ cO) N0 cc mL RX1 ret nm) (d : decode cc pc = .ok (.getfield 26, 3)) (g : Go p l e R s m args below meth c D N0 mL Q (wW cI cJ cZ cO a S M ov) k n (pc + 3) lo (.int (cs_bb S) :: st)) : Go p l e R s m args below meth c D N0 mL Q (wW cI cJ cZ cO a S M ov) k n (pc) lo (.ref (a 0) :: st) := go_get C inX1 0 rfl rfl 4 (by decide) bf_RX1_26 rfl d g
theorem px_tiersByBands (C : Cxt p s m args meth c D (tysW cI cJ cZ cO) N0 cc mL RX1 ret nm) {v : Int32} (hv : narrow .boolean (.int v) = .int v) (hf : fits .boolean (.int v) = true) (d : decode cc pc = .ok (.putfield 26, 3)) (g : Go p l e R s m args below meth c D N0 mL Q (wW cI cJ cZ cO a (cs_set_bb S v) (M) (ov)) k n (pc + 3) lo (st)) : Go p l e R s m args below meth c D N0 mL Q (wW cI cJ cZ cO a S M ov) k n (pc) lo (.int v :: .ref (a 0) :: st) := go_put C inX1 (ci := 1) (a := a 0) (fs := [.ref (a 1), .ref (a 2), .ref (a 3), .ref (a 4), .int (cs_bb S), .int (cs_tr S), .int (nI (cs_n S)), .int (cs_day S)]) 0 rfl rfl 4 (by decide) tyX1 tyX1_ok nmX1 bf_RX1_26 rfl (ty := .boolean) (by decide +kernel) hv hf (Nat.le_of_ble_eq_true rfl) d g
theorem gx_termRate (C : Cxt p s m args meth c D (tysW cI cJ cZ cO) N0 cc mL RX1 ret nm) (d : decode cc pc = .ok (.getfield 30, 3)) (g : Go p l e R s m args below meth c D N0 mL Q (wW cI cJ cZ cO a S M ov) k n (pc + 3) lo (.int (cs_tr S) :: st)) : Go p l e R s m args below meth c D N0 mL Q (wW cI cJ cZ cO a S M ov) k n (pc) lo (.ref (a 0) :: st) := go_get C inX1 0 rfl rfl 5 (by decide) bf_RX1_30 rfl d g
theorem px_termRate (C : Cxt p s m args meth c D (tysW cI cJ cZ cO) N0 cc mL RX1 ret nm) {v : Int32} (d : decode cc pc = .ok (.putfield 30, 3)) (g : Go p l e R s m args below meth c D N0 mL Q (wW cI cJ cZ cO a (cs_set_tr S v) (M) (ov)) k n (pc + 3) lo (st)) : Go p l e R s m args below meth c D N0 mL Q (wW cI cJ cZ cO a S M ov) k n (pc) lo (.int v :: .ref (a 0) :: st) := go_put C inX1 (ci := 1) (a := a 0) (fs := [.ref (a 1), .ref (a 2), .ref (a 3), .ref (a 4), .int (cs_bb S), .int (cs_tr S), .int (nI (cs_n S)), .int (cs_day S)]) 0 rfl rfl 5 (by decide) tyX1 tyX1_ok nmX1 bf_RX1_30 rfl (ty := .int) (by decide +kernel) rfl rfl (Nat.le_of_ble_eq_true rfl) d g
theorem gx_lotsMade (C : Cxt p s m args meth c D (tysW cI cJ cZ cO) N0 cc mL RX1 ret nm) (d : decode cc pc = .ok (.getfield 34, 3)) (g : Go p l e R s m args below meth c D N0 mL Q (wW cI cJ cZ cO a S M ov) k n (pc + 3) lo (.int (nI (cs_n S)) :: st)) : Go p l e R s m args below meth c D N0 mL Q (wW cI cJ cZ cO a S M ov) k n (pc) lo (.ref (a 0) :: st) := go_get C inX1 0 rfl rfl 6 (by decide) bf_RX1_34 rfl d g
theorem px_lotsMade (C : Cxt p s m args meth c D (tysW cI cJ cZ cO) N0 cc mL RX1 ret nm) {v : Int32} {n2 : Nat} (hv : v = nI n2) (d : decode cc pc = .ok (.putfield 34, 3)) (g : Go p l e R s m args below meth c D N0 mL Q (wW cI cJ cZ cO a (cs_set_n S n2) (M) (ov)) k n (pc + 3) lo (st)) : Go p l e R s m args below meth c D N0 mL Q (wW cI cJ cZ cO a S M ov) k n (pc) lo (.int v :: .ref (a 0) :: st) := by
  subst hv
  exact go_put C inX1 (ci := 1) (a := a 0) (fs := [.ref (a 1), .ref (a 2), .ref (a 3), .ref (a 4), .int (cs_bb S), .int (cs_tr S), .int (nI (cs_n S)), .int (cs_day S)]) 0 rfl rfl 6 (by decide) tyX1 tyX1_ok nmX1 bf_RX1_34 rfl (ty := .int) (by decide +kernel) rfl rfl (Nat.le_of_ble_eq_true rfl) d g
theorem gx_day (C : Cxt p s m args meth c D (tysW cI cJ cZ cO) N0 cc mL RX1 ret nm) (d : decode cc pc = .ok (.getfield 37, 3)) (g : Go p l e R s m args below meth c D N0 mL Q (wW cI cJ cZ cO a S M ov) k n (pc + 3) lo (.int (cs_day S) :: st)) : Go p l e R s m args below meth c D N0 mL Q (wW cI cJ cZ cO a S M ov) k n (pc) lo (.ref (a 0) :: st) := go_get C inX1 0 rfl rfl 7 (by decide) bf_RX1_37 rfl d g
theorem px_day (C : Cxt p s m args meth c D (tysW cI cJ cZ cO) N0 cc mL RX1 ret nm) {v : Int32} (d : decode cc pc = .ok (.putfield 37, 3)) (g : Go p l e R s m args below meth c D N0 mL Q (wW cI cJ cZ cO a (cs_set_day S v) (M) (ov)) k n (pc + 3) lo (st)) : Go p l e R s m args below meth c D N0 mL Q (wW cI cJ cZ cO a S M ov) k n (pc) lo (.int v :: .ref (a 0) :: st) := go_put C inX1 (ci := 1) (a := a 0) (fs := [.ref (a 1), .ref (a 2), .ref (a 3), .ref (a 4), .int (cs_bb S), .int (cs_tr S), .int (nI (cs_n S)), .int (cs_day S)]) 0 rfl rfl 7 (by decide) tyX1 tyX1_ok nmX1 bf_RX1_37 rfl (ty := .int) (by decide +kernel) rfl rfl (Nat.le_of_ble_eq_true rfl) d g
theorem gx_rates (C : Cxt p s m args meth c D (tysW cI cJ cZ cO) N0 cc mL RX1 ret nm) (d : decode cc pc = .ok (.getfield 7, 3)) (g : Go p l e R s m args below meth c D N0 mL Q (wW cI cJ cZ cO a S M ov) k n (pc + 3) lo (.ref (a 1) :: st)) : Go p l e R s m args below meth c D N0 mL Q (wW cI cJ cZ cO a S M ov) k n (pc) lo (.ref (a 0) :: st) := go_get C inX1 0 rfl rfl 0 (by decide) bf_RX1_7 rfl d g
theorem gm_now (C : Cxt p s m args meth c D (tysW cI cJ cZ cO) N0 cc mL RX2 ret nm) (d : decode cc pc = .ok (.getfield 119, 3)) (g : Go p l e R s m args below meth c D N0 mL Q (wW cI cJ cZ cO a S M ov) k n (pc + 3) lo (.int (ms_now M) :: st)) : Go p l e R s m args below meth c D N0 mL Q (wW cI cJ cZ cO a S M ov) k n (pc) lo (.ref (a 5) :: st) := go_get C inX2 5 rfl rfl 18 (by decide) bf_RX2_119 rfl d g
theorem pm_now (C : Cxt p s m args meth c D (tysW cI cJ cZ cO) N0 cc mL RX2 ret nm) {v : Int32} (d : decode cc pc = .ok (.putfield 119, 3)) (g : Go p l e R s m args below meth c D N0 mL Q (wW cI cJ cZ cO a (S) (ms_set_now M v) (ov)) k n (pc + 3) lo (st)) : Go p l e R s m args below meth c D N0 mL Q (wW cI cJ cZ cO a S M ov) k n (pc) lo (.int v :: .ref (a 5) :: st) := go_put C inX2 (ci := 2) (a := a 5) (fs := [.ref (a 6), .int (ms_bb M), .int (ms_tr M), .int (nI (ms_n M)), .ref (a 7), .ref (a 8), .ref (a 9), .ref (a 10), .ref (a 11), .ref (a 12), .ref (a 13), .ref (a 14), .ref (a 15), .ref (a 16), .ref (a 17), .ref (a 18), .ref (a 19), .ref (a 20), .int (ms_now M), .int (ms_thr M), .ref (a 21), .ref (a 22), .ref (a 23)]) 5 rfl rfl 18 (by decide) tyX2 tyX2_ok nmX2 bf_RX2_119 rfl (ty := .int) (by decide +kernel) rfl rfl (Nat.le_of_ble_eq_true rfl) d g
theorem gm_isThere (C : Cxt p s m args meth c D (tysW cI cJ cZ cO) N0 cc mL RX2 ret nm) (d : decode cc pc = .ok (.getfield 13, 3)) (g : Go p l e R s m args below meth c D N0 mL Q (wW cI cJ cZ cO a S M ov) k n (pc + 3) lo (.ref (a 7) :: st)) : Go p l e R s m args below meth c D N0 mL Q (wW cI cJ cZ cO a S M ov) k n (pc) lo (.ref (a 5) :: st) := go_get C inX2 5 rfl rfl 4 (by decide) bf_RX2_13 rfl d g
theorem gm_isTerm (C : Cxt p s m args meth c D (tysW cI cJ cZ cO) N0 cc mL RX2 ret nm) (d : decode cc pc = .ok (.getfield 17, 3)) (g : Go p l e R s m args below meth c D N0 mL Q (wW cI cJ cZ cO a S M ov) k n (pc + 3) lo (.ref (a 8) :: st)) : Go p l e R s m args below meth c D N0 mL Q (wW cI cJ cZ cO a S M ov) k n (pc) lo (.ref (a 5) :: st) := go_get C inX2 5 rfl rfl 5 (by decide) bf_RX2_17 rfl d g
theorem gm_owners (C : Cxt p s m args meth c D (tysW cI cJ cZ cO) N0 cc mL RX2 ret nm) (d : decode cc pc = .ok (.getfield 20, 3)) (g : Go p l e R s m args below meth c D N0 mL Q (wW cI cJ cZ cO a S M ov) k n (pc + 3) lo (.ref (a 9) :: st)) : Go p l e R s m args below meth c D N0 mL Q (wW cI cJ cZ cO a S M ov) k n (pc) lo (.ref (a 5) :: st) := go_get C inX2 5 rfl rfl 6 (by decide) bf_RX2_20 rfl d g
theorem gm_principals (C : Cxt p s m args meth c D (tysW cI cJ cZ cO) N0 cc mL RX2 ret nm) (d : decode cc pc = .ok (.getfield 23, 3)) (g : Go p l e R s m args below meth c D N0 mL Q (wW cI cJ cZ cO a S M ov) k n (pc + 3) lo (.ref (a 10) :: st)) : Go p l e R s m args below meth c D N0 mL Q (wW cI cJ cZ cO a S M ov) k n (pc) lo (.ref (a 5) :: st) := go_get C inX2 5 rfl rfl 7 (by decide) bf_RX2_23 rfl d g
theorem gm_earnings (C : Cxt p s m args meth c D (tysW cI cJ cZ cO) N0 cc mL RX2 ret nm) (d : decode cc pc = .ok (.getfield 26, 3)) (g : Go p l e R s m args below meth c D N0 mL Q (wW cI cJ cZ cO a S M ov) k n (pc + 3) lo (.ref (a 11) :: st)) : Go p l e R s m args below meth c D N0 mL Q (wW cI cJ cZ cO a S M ov) k n (pc) lo (.ref (a 5) :: st) := go_get C inX2 5 rfl rfl 8 (by decide) bf_RX2_26 rfl d g
theorem gm_frozenOf (C : Cxt p s m args meth c D (tysW cI cJ cZ cO) N0 cc mL RX2 ret nm) (d : decode cc pc = .ok (.getfield 30, 3)) (g : Go p l e R s m args below meth c D N0 mL Q (wW cI cJ cZ cO a S M ov) k n (pc + 3) lo (.ref (a 12) :: st)) : Go p l e R s m args below meth c D N0 mL Q (wW cI cJ cZ cO a S M ov) k n (pc) lo (.ref (a 5) :: st) := go_get C inX2 5 rfl rfl 9 (by decide) bf_RX2_30 rfl d g
theorem gm_noticeDays (C : Cxt p s m args meth c D (tysW cI cJ cZ cO) N0 cc mL RX2 ret nm) (d : decode cc pc = .ok (.getfield 33, 3)) (g : Go p l e R s m args below meth c D N0 mL Q (wW cI cJ cZ cO a S M ov) k n (pc + 3) lo (.ref (a 13) :: st)) : Go p l e R s m args below meth c D N0 mL Q (wW cI cJ cZ cO a S M ov) k n (pc) lo (.ref (a 5) :: st) := go_get C inX2 5 rfl rfl 10 (by decide) bf_RX2_33 rfl d g
theorem gm_termParts (C : Cxt p s m args meth c D (tysW cI cJ cZ cO) N0 cc mL RX2 ret nm) (d : decode cc pc = .ok (.getfield 36, 3)) (g : Go p l e R s m args below meth c D N0 mL Q (wW cI cJ cZ cO a S M ov) k n (pc + 3) lo (.ref (a 14) :: st)) : Go p l e R s m args below meth c D N0 mL Q (wW cI cJ cZ cO a S M ov) k n (pc) lo (.ref (a 5) :: st) := go_get C inX2 5 rfl rfl 11 (by decide) bf_RX2_36 rfl d g
theorem gm_lengths (C : Cxt p s m args meth c D (tysW cI cJ cZ cO) N0 cc mL RX2 ret nm) (d : decode cc pc = .ok (.getfield 39, 3)) (g : Go p l e R s m args below meth c D N0 mL Q (wW cI cJ cZ cO a S M ov) k n (pc + 3) lo (.ref (a 15) :: st)) : Go p l e R s m args below meth c D N0 mL Q (wW cI cJ cZ cO a S M ov) k n (pc) lo (.ref (a 5) :: st) := go_get C inX2 5 rfl rfl 12 (by decide) bf_RX2_39 rfl d g
theorem gm_ends (C : Cxt p s m args meth c D (tysW cI cJ cZ cO) N0 cc mL RX2 ret nm) (d : decode cc pc = .ok (.getfield 42, 3)) (g : Go p l e R s m args below meth c D N0 mL Q (wW cI cJ cZ cO a S M ov) k n (pc + 3) lo (.ref (a 16) :: st)) : Go p l e R s m args below meth c D N0 mL Q (wW cI cJ cZ cO a S M ov) k n (pc) lo (.ref (a 5) :: st) := go_get C inX2 5 rfl rfl 13 (by decide) bf_RX2_42 rfl d g
theorem gm_instructions (C : Cxt p s m args meth c D (tysW cI cJ cZ cO) N0 cc mL RX2 ret nm) (d : decode cc pc = .ok (.getfield 45, 3)) (g : Go p l e R s m args below meth c D N0 mL Q (wW cI cJ cZ cO a S M ov) k n (pc + 3) lo (.ref (a 17) :: st)) : Go p l e R s m args below meth c D N0 mL Q (wW cI cJ cZ cO a S M ov) k n (pc) lo (.ref (a 5) :: st) := go_get C inX2 5 rfl rfl 14 (by decide) bf_RX2_45 rfl d g
theorem gm_begun (C : Cxt p s m args meth c D (tysW cI cJ cZ cO) N0 cc mL RX2 ret nm) (d : decode cc pc = .ok (.getfield 48, 3)) (g : Go p l e R s m args below meth c D N0 mL Q (wW cI cJ cZ cO a S M ov) k n (pc + 3) lo (.ref (a 18) :: st)) : Go p l e R s m args below meth c D N0 mL Q (wW cI cJ cZ cO a S M ov) k n (pc) lo (.ref (a 5) :: st) := go_get C inX2 5 rfl rfl 15 (by decide) bf_RX2_48 rfl d g
theorem gm_paidTo (C : Cxt p s m args meth c D (tysW cI cJ cZ cO) N0 cc mL RX2 ret nm) (d : decode cc pc = .ok (.getfield 51, 3)) (g : Go p l e R s m args below meth c D N0 mL Q (wW cI cJ cZ cO a S M ov) k n (pc + 3) lo (.ref (a 19) :: st)) : Go p l e R s m args below meth c D N0 mL Q (wW cI cJ cZ cO a S M ov) k n (pc) lo (.ref (a 5) :: st) := go_get C inX2 5 rfl rfl 16 (by decide) bf_RX2_51 rfl d g
theorem gm_lostBy (C : Cxt p s m args meth c D (tysW cI cJ cZ cO) N0 cc mL RX2 ret nm) (d : decode cc pc = .ok (.getfield 54, 3)) (g : Go p l e R s m args below meth c D N0 mL Q (wW cI cJ cZ cO a S M ov) k n (pc + 3) lo (.ref (a 20) :: st)) : Go p l e R s m args below meth c D N0 mL Q (wW cI cJ cZ cO a S M ov) k n (pc) lo (.ref (a 5) :: st) := go_get C inX2 5 rfl rfl 17 (by decide) bf_RX2_54 rfl d g
theorem gm_partsAhead (C : Cxt p s m args meth c D (tysW cI cJ cZ cO) N0 cc mL RX2 ret nm) (d : decode cc pc = .ok (.getfield 57, 3)) (g : Go p l e R s m args below meth c D N0 mL Q (wW cI cJ cZ cO a S M ov) k n (pc + 3) lo (.ref (a 21) :: st)) : Go p l e R s m args below meth c D N0 mL Q (wW cI cJ cZ cO a S M ov) k n (pc) lo (.ref (a 5) :: st) := go_get C inX2 5 rfl rfl 20 (by decide) bf_RX2_57 rfl d g
theorem gm_principalsAhead (C : Cxt p s m args meth c D (tysW cI cJ cZ cO) N0 cc mL RX2 ret nm) (d : decode cc pc = .ok (.getfield 60, 3)) (g : Go p l e R s m args below meth c D N0 mL Q (wW cI cJ cZ cO a S M ov) k n (pc + 3) lo (.ref (a 22) :: st)) : Go p l e R s m args below meth c D N0 mL Q (wW cI cJ cZ cO a S M ov) k n (pc) lo (.ref (a 5) :: st) := go_get C inX2 5 rfl rfl 21 (by decide) bf_RX2_60 rfl d g
theorem gm_isDone (C : Cxt p s m args meth c D (tysW cI cJ cZ cO) N0 cc mL RX2 ret nm) (d : decode cc pc = .ok (.getfield 63, 3)) (g : Go p l e R s m args below meth c D N0 mL Q (wW cI cJ cZ cO a S M ov) k n (pc + 3) lo (.ref (a 23) :: st)) : Go p l e R s m args below meth c D N0 mL Q (wW cI cJ cZ cO a S M ov) k n (pc) lo (.ref (a 5) :: st) := go_get C inX2 5 rfl rfl 22 (by decide) bf_RX2_63 rfl d g
theorem gm_termRate (C : Cxt p s m args meth c D (tysW cI cJ cZ cO) N0 cc mL RX2 ret nm) (d : decode cc pc = .ok (.getfield 66, 3)) (g : Go p l e R s m args below meth c D N0 mL Q (wW cI cJ cZ cO a S M ov) k n (pc + 3) lo (.int (ms_tr M) :: st)) : Go p l e R s m args below meth c D N0 mL Q (wW cI cJ cZ cO a S M ov) k n (pc) lo (.ref (a 5) :: st) := go_get C inX2 5 rfl rfl 2 (by decide) bf_RX2_66 rfl d g
theorem pm_termRate (C : Cxt p s m args meth c D (tysW cI cJ cZ cO) N0 cc mL RX2 ret nm) {v : Int32} (d : decode cc pc = .ok (.putfield 66, 3)) (g : Go p l e R s m args below meth c D N0 mL Q (wW cI cJ cZ cO a (S) (ms_set_tr M v) (ov)) k n (pc + 3) lo (st)) : Go p l e R s m args below meth c D N0 mL Q (wW cI cJ cZ cO a S M ov) k n (pc) lo (.int v :: .ref (a 5) :: st) := go_put C inX2 (ci := 2) (a := a 5) (fs := [.ref (a 6), .int (ms_bb M), .int (ms_tr M), .int (nI (ms_n M)), .ref (a 7), .ref (a 8), .ref (a 9), .ref (a 10), .ref (a 11), .ref (a 12), .ref (a 13), .ref (a 14), .ref (a 15), .ref (a 16), .ref (a 17), .ref (a 18), .ref (a 19), .ref (a 20), .int (ms_now M), .int (ms_thr M), .ref (a 21), .ref (a 22), .ref (a 23)]) 5 rfl rfl 2 (by decide) tyX2 tyX2_ok nmX2 bf_RX2_66 rfl (ty := .int) (by decide +kernel) rfl rfl (Nat.le_of_ble_eq_true rfl) d g
theorem gm_rates (C : Cxt p s m args meth c D (tysW cI cJ cZ cO) N0 cc mL RX2 ret nm) (d : decode cc pc = .ok (.getfield 7, 3)) (g : Go p l e R s m args below meth c D N0 mL Q (wW cI cJ cZ cO a S M ov) k n (pc + 3) lo (.ref (a 6) :: st)) : Go p l e R s m args below meth c D N0 mL Q (wW cI cJ cZ cO a S M ov) k n (pc) lo (.ref (a 5) :: st) := go_get C inX2 5 rfl rfl 0 (by decide) bf_RX2_7 rfl d g
theorem gm_thrown (C : Cxt p s m args meth c D (tysW cI cJ cZ cO) N0 cc mL RX2 ret nm) (d : decode cc pc = .ok (.getfield 70, 3)) (g : Go p l e R s m args below meth c D N0 mL Q (wW cI cJ cZ cO a S M ov) k n (pc + 3) lo (.int (ms_thr M) :: st)) : Go p l e R s m args below meth c D N0 mL Q (wW cI cJ cZ cO a S M ov) k n (pc) lo (.ref (a 5) :: st) := go_get C inX2 5 rfl rfl 19 (by decide) bf_RX2_70 rfl d g
theorem pm_thrown (C : Cxt p s m args meth c D (tysW cI cJ cZ cO) N0 cc mL RX2 ret nm) {v : Int32} (d : decode cc pc = .ok (.putfield 70, 3)) (g : Go p l e R s m args below meth c D N0 mL Q (wW cI cJ cZ cO a (S) (ms_set_thr M v) (ov)) k n (pc + 3) lo (st)) : Go p l e R s m args below meth c D N0 mL Q (wW cI cJ cZ cO a S M ov) k n (pc) lo (.int v :: .ref (a 5) :: st) := go_put C inX2 (ci := 2) (a := a 5) (fs := [.ref (a 6), .int (ms_bb M), .int (ms_tr M), .int (nI (ms_n M)), .ref (a 7), .ref (a 8), .ref (a 9), .ref (a 10), .ref (a 11), .ref (a 12), .ref (a 13), .ref (a 14), .ref (a 15), .ref (a 16), .ref (a 17), .ref (a 18), .ref (a 19), .ref (a 20), .int (ms_now M), .int (ms_thr M), .ref (a 21), .ref (a 22), .ref (a 23)]) 5 rfl rfl 19 (by decide) tyX2 tyX2_ok nmX2 bf_RX2_70 rfl (ty := .int) (by decide +kernel) rfl rfl (Nat.le_of_ble_eq_true rfl) d g
theorem gm_lotMany (C : Cxt p s m args meth c D (tysW cI cJ cZ cO) N0 cc mL RX2 ret nm) (d : decode cc pc = .ok (.getfield 77, 3)) (g : Go p l e R s m args below meth c D N0 mL Q (wW cI cJ cZ cO a S M ov) k n (pc + 3) lo (.int (nI (ms_n M)) :: st)) : Go p l e R s m args below meth c D N0 mL Q (wW cI cJ cZ cO a S M ov) k n (pc) lo (.ref (a 5) :: st) := go_get C inX2 5 rfl rfl 3 (by decide) bf_RX2_77 rfl d g
theorem pm_lotMany (C : Cxt p s m args meth c D (tysW cI cJ cZ cO) N0 cc mL RX2 ret nm) {v : Int32} {n2 : Nat} (hv : v = nI n2) (d : decode cc pc = .ok (.putfield 77, 3)) (g : Go p l e R s m args below meth c D N0 mL Q (wW cI cJ cZ cO a (S) (ms_set_n M n2) (ov)) k n (pc + 3) lo (st)) : Go p l e R s m args below meth c D N0 mL Q (wW cI cJ cZ cO a S M ov) k n (pc) lo (.int v :: .ref (a 5) :: st) := by
  subst hv
  exact go_put C inX2 (ci := 2) (a := a 5) (fs := [.ref (a 6), .int (ms_bb M), .int (ms_tr M), .int (nI (ms_n M)), .ref (a 7), .ref (a 8), .ref (a 9), .ref (a 10), .ref (a 11), .ref (a 12), .ref (a 13), .ref (a 14), .ref (a 15), .ref (a 16), .ref (a 17), .ref (a 18), .ref (a 19), .ref (a 20), .int (ms_now M), .int (ms_thr M), .ref (a 21), .ref (a 22), .ref (a 23)]) 5 rfl rfl 3 (by decide) tyX2 tyX2_ok nmX2 bf_RX2_77 rfl (ty := .int) (by decide +kernel) rfl rfl (Nat.le_of_ble_eq_true rfl) d g
theorem gm_isByBands (C : Cxt p s m args meth c D (tysW cI cJ cZ cO) N0 cc mL RX2 ret nm) (d : decode cc pc = .ok (.getfield 80, 3)) (g : Go p l e R s m args below meth c D N0 mL Q (wW cI cJ cZ cO a S M ov) k n (pc + 3) lo (.int (ms_bb M) :: st)) : Go p l e R s m args below meth c D N0 mL Q (wW cI cJ cZ cO a S M ov) k n (pc) lo (.ref (a 5) :: st) := go_get C inX2 5 rfl rfl 1 (by decide) bf_RX2_80 rfl d g
theorem pm_isByBands (C : Cxt p s m args meth c D (tysW cI cJ cZ cO) N0 cc mL RX2 ret nm) {v : Int32} (hv : narrow .boolean (.int v) = .int v) (hf : fits .boolean (.int v) = true) (d : decode cc pc = .ok (.putfield 80, 3)) (g : Go p l e R s m args below meth c D N0 mL Q (wW cI cJ cZ cO a (S) (ms_set_bb M v) (ov)) k n (pc + 3) lo (st)) : Go p l e R s m args below meth c D N0 mL Q (wW cI cJ cZ cO a S M ov) k n (pc) lo (.int v :: .ref (a 5) :: st) := go_put C inX2 (ci := 2) (a := a 5) (fs := [.ref (a 6), .int (ms_bb M), .int (ms_tr M), .int (nI (ms_n M)), .ref (a 7), .ref (a 8), .ref (a 9), .ref (a 10), .ref (a 11), .ref (a 12), .ref (a 13), .ref (a 14), .ref (a 15), .ref (a 16), .ref (a 17), .ref (a 18), .ref (a 19), .ref (a 20), .int (ms_now M), .int (ms_thr M), .ref (a 21), .ref (a 22), .ref (a 23)]) 5 rfl rfl 1 (by decide) tyX2 tyX2_ok nmX2 bf_RX2_80 rfl (ty := .boolean) (by decide +kernel) hv hf (Nat.le_of_ble_eq_true rfl) d g
theorem gl0_customer (C : Cxt p s m args meth c D (tysW cI cJ cZ cO) N0 cc mL RX0 ret nm) {i : Nat} (hi : i < cs_nc S) (d : decode cc pc = .ok (.getfield 34, 3)) (g : Go p l e R s m args below meth c D N0 mL Q (wW cI cJ cZ cO a S M ov) k n (pc + 3) lo (.int (lr_cu (cs_lt S i)) :: st)) : Go p l e R s m args below meth c D N0 mL Q (wW cI cJ cZ cO a S M ov) k n (pc) lo (.ref (cs_la S i) :: st) := go_get C inX0 (25 + i) (w_lot hi) rfl 0 (by decide) bf_RX0_34 rfl d g
theorem pl0_customer (C : Cxt p s m args meth c D (tysW cI cJ cZ cO) N0 cc mL RX0 ret nm) {i : Nat} (hi : i < cs_nc S) (hnm : nm = "<init>") {v : Int32} (d : decode cc pc = .ok (.putfield 34, 3)) (g : Go p l e R s m args below meth c D N0 mL Q (wW cI cJ cZ cO a (cs_setLot S i (lr_set_cu (cs_lt S i) v)) (M) (ov)) k n (pc + 3) lo (st)) : Go p l e R s m args below meth c D N0 mL Q (wW cI cJ cZ cO a S M ov) k n (pc) lo (.int v :: .ref (cs_la S i) :: st) := go_putF C inX0 (25 + i) (w_lot hi) rfl 0 (by decide) tyX0 tyX0_ok nmX0 bf_RX0_34 rfl hnm rfl (ty := .int) (by decide +kernel) rfl rfl (Nat.le_of_ble_eq_true rfl) d (by rw [show (lotFs (cs_lt S i)).set 0 (.int v) = lotFs (lr_set_cu (cs_lt S i) v) from rfl, w_lot_set hi]; exact g)
theorem gl0_termDays (C : Cxt p s m args meth c D (tysW cI cJ cZ cO) N0 cc mL RX0 ret nm) {i : Nat} (hi : i < cs_nc S) (d : decode cc pc = .ok (.getfield 40, 3)) (g : Go p l e R s m args below meth c D N0 mL Q (wW cI cJ cZ cO a S M ov) k n (pc + 3) lo (.int (lr_td (cs_lt S i)) :: st)) : Go p l e R s m args below meth c D N0 mL Q (wW cI cJ cZ cO a S M ov) k n (pc) lo (.ref (cs_la S i) :: st) := go_get C inX0 (25 + i) (w_lot hi) rfl 1 (by decide) bf_RX0_40 rfl d g
theorem pl0_termDays (C : Cxt p s m args meth c D (tysW cI cJ cZ cO) N0 cc mL RX0 ret nm) {i : Nat} (hi : i < cs_nc S) (hnm : nm = "<init>") {v : Int32} (d : decode cc pc = .ok (.putfield 40, 3)) (g : Go p l e R s m args below meth c D N0 mL Q (wW cI cJ cZ cO a (cs_setLot S i (lr_set_td (cs_lt S i) v)) (M) (ov)) k n (pc + 3) lo (st)) : Go p l e R s m args below meth c D N0 mL Q (wW cI cJ cZ cO a S M ov) k n (pc) lo (.int v :: .ref (cs_la S i) :: st) := go_putF C inX0 (25 + i) (w_lot hi) rfl 1 (by decide) tyX0 tyX0_ok nmX0 bf_RX0_40 rfl hnm rfl (ty := .int) (by decide +kernel) rfl rfl (Nat.le_of_ble_eq_true rfl) d (by rw [show (lotFs (cs_lt S i)).set 1 (.int v) = lotFs (lr_set_td (cs_lt S i) v) from rfl, w_lot_set hi]; exact g)
theorem gl0_principal (C : Cxt p s m args meth c D (tysW cI cJ cZ cO) N0 cc mL RX0 ret nm) {i : Nat} (hi : i < cs_nc S) (d : decode cc pc = .ok (.getfield 37, 3)) (g : Go p l e R s m args below meth c D N0 mL Q (wW cI cJ cZ cO a S M ov) k n (pc + 3) lo (.int (lr_pr (cs_lt S i)) :: st)) : Go p l e R s m args below meth c D N0 mL Q (wW cI cJ cZ cO a S M ov) k n (pc) lo (.ref (cs_la S i) :: st) := go_get C inX0 (25 + i) (w_lot hi) rfl 2 (by decide) bf_RX0_37 rfl d g
theorem pl0_principal (C : Cxt p s m args meth c D (tysW cI cJ cZ cO) N0 cc mL RX0 ret nm) {i : Nat} (hi : i < cs_nc S) {v : Int32} (d : decode cc pc = .ok (.putfield 37, 3)) (g : Go p l e R s m args below meth c D N0 mL Q (wW cI cJ cZ cO a (cs_setLot S i (lr_set_pr (cs_lt S i) v)) (M) (ov)) k n (pc + 3) lo (st)) : Go p l e R s m args below meth c D N0 mL Q (wW cI cJ cZ cO a S M ov) k n (pc) lo (.int v :: .ref (cs_la S i) :: st) := go_put C inX0 (25 + i) (w_lot hi) rfl 2 (by decide) tyX0 tyX0_ok nmX0 bf_RX0_37 rfl (ty := .int) (by decide +kernel) rfl rfl (Nat.le_of_ble_eq_true rfl) d (by rw [show (lotFs (cs_lt S i)).set 2 (.int v) = lotFs (lr_set_pr (cs_lt S i) v) from rfl, w_lot_set hi]; exact g)
theorem gl0_earned (C : Cxt p s m args meth c D (tysW cI cJ cZ cO) N0 cc mL RX0 ret nm) {i : Nat} (hi : i < cs_nc S) (d : decode cc pc = .ok (.getfield 9, 3)) (g : Go p l e R s m args below meth c D N0 mL Q (wW cI cJ cZ cO a S M ov) k n (pc + 3) lo (.long (lr_ea (cs_lt S i)) :: st)) : Go p l e R s m args below meth c D N0 mL Q (wW cI cJ cZ cO a S M ov) k n (pc) lo (.ref (cs_la S i) :: st) := go_get C inX0 (25 + i) (w_lot hi) rfl 3 (by decide) bf_RX0_9 rfl d g
theorem pl0_earned (C : Cxt p s m args meth c D (tysW cI cJ cZ cO) N0 cc mL RX0 ret nm) {i : Nat} (hi : i < cs_nc S) {v : Int64} (d : decode cc pc = .ok (.putfield 9, 3)) (g : Go p l e R s m args below meth c D N0 mL Q (wW cI cJ cZ cO a (cs_setLot S i (lr_set_ea (cs_lt S i) v)) (M) (ov)) k n (pc + 3) lo (st)) : Go p l e R s m args below meth c D N0 mL Q (wW cI cJ cZ cO a S M ov) k n (pc) lo (.long v :: .ref (cs_la S i) :: st) := go_put C inX0 (25 + i) (w_lot hi) rfl 3 (by decide) tyX0 tyX0_ok nmX0 bf_RX0_9 rfl (ty := .long) (by decide +kernel) rfl rfl (Nat.le_of_ble_eq_true rfl) d (by rw [show (lotFs (cs_lt S i)).set 3 (.long v) = lotFs (lr_set_ea (cs_lt S i) v) from rfl, w_lot_set hi]; exact g)
theorem gl0_parts (C : Cxt p s m args meth c D (tysW cI cJ cZ cO) N0 cc mL RX0 ret nm) {i : Nat} (hi : i < cs_nc S) (d : decode cc pc = .ok (.getfield 15, 3)) (g : Go p l e R s m args below meth c D N0 mL Q (wW cI cJ cZ cO a S M ov) k n (pc + 3) lo (.long (lr_pa (cs_lt S i)) :: st)) : Go p l e R s m args below meth c D N0 mL Q (wW cI cJ cZ cO a S M ov) k n (pc) lo (.ref (cs_la S i) :: st) := go_get C inX0 (25 + i) (w_lot hi) rfl 4 (by decide) bf_RX0_15 rfl d g
theorem pl0_parts (C : Cxt p s m args meth c D (tysW cI cJ cZ cO) N0 cc mL RX0 ret nm) {i : Nat} (hi : i < cs_nc S) {v : Int64} (d : decode cc pc = .ok (.putfield 15, 3)) (g : Go p l e R s m args below meth c D N0 mL Q (wW cI cJ cZ cO a (cs_setLot S i (lr_set_pa (cs_lt S i) v)) (M) (ov)) k n (pc + 3) lo (st)) : Go p l e R s m args below meth c D N0 mL Q (wW cI cJ cZ cO a S M ov) k n (pc) lo (.long v :: .ref (cs_la S i) :: st) := go_put C inX0 (25 + i) (w_lot hi) rfl 4 (by decide) tyX0 tyX0_ok nmX0 bf_RX0_15 rfl (ty := .long) (by decide +kernel) rfl rfl (Nat.le_of_ble_eq_true rfl) d (by rw [show (lotFs (cs_lt S i)).set 4 (.long v) = lotFs (lr_set_pa (cs_lt S i) v) from rfl, w_lot_set hi]; exact g)
theorem gl0_frozenCents (C : Cxt p s m args meth c D (tysW cI cJ cZ cO) N0 cc mL RX0 ret nm) {i : Nat} (hi : i < cs_nc S) (d : decode cc pc = .ok (.getfield 18, 3)) (g : Go p l e R s m args below meth c D N0 mL Q (wW cI cJ cZ cO a S M ov) k n (pc + 3) lo (.int (lr_fz (cs_lt S i)) :: st)) : Go p l e R s m args below meth c D N0 mL Q (wW cI cJ cZ cO a S M ov) k n (pc) lo (.ref (cs_la S i) :: st) := go_get C inX0 (25 + i) (w_lot hi) rfl 5 (by decide) bf_RX0_18 rfl d g
theorem pl0_frozenCents (C : Cxt p s m args meth c D (tysW cI cJ cZ cO) N0 cc mL RX0 ret nm) {i : Nat} (hi : i < cs_nc S) {v : Int32} (d : decode cc pc = .ok (.putfield 18, 3)) (g : Go p l e R s m args below meth c D N0 mL Q (wW cI cJ cZ cO a (cs_setLot S i (lr_set_fz (cs_lt S i) v)) (M) (ov)) k n (pc + 3) lo (st)) : Go p l e R s m args below meth c D N0 mL Q (wW cI cJ cZ cO a S M ov) k n (pc) lo (.int v :: .ref (cs_la S i) :: st) := go_put C inX0 (25 + i) (w_lot hi) rfl 5 (by decide) tyX0 tyX0_ok nmX0 bf_RX0_18 rfl (ty := .int) (by decide +kernel) rfl rfl (Nat.le_of_ble_eq_true rfl) d (by rw [show (lotFs (cs_lt S i)).set 5 (.int v) = lotFs (lr_set_fz (cs_lt S i) v) from rfl, w_lot_set hi]; exact g)
theorem gl0_takeFrom (C : Cxt p s m args meth c D (tysW cI cJ cZ cO) N0 cc mL RX0 ret nm) {i : Nat} (hi : i < cs_nc S) (d : decode cc pc = .ok (.getfield 22, 3)) (g : Go p l e R s m args below meth c D N0 mL Q (wW cI cJ cZ cO a S M ov) k n (pc + 3) lo (.int (lr_tf (cs_lt S i)) :: st)) : Go p l e R s m args below meth c D N0 mL Q (wW cI cJ cZ cO a S M ov) k n (pc) lo (.ref (cs_la S i) :: st) := go_get C inX0 (25 + i) (w_lot hi) rfl 6 (by decide) bf_RX0_22 rfl d g
theorem pl0_takeFrom (C : Cxt p s m args meth c D (tysW cI cJ cZ cO) N0 cc mL RX0 ret nm) {i : Nat} (hi : i < cs_nc S) {v : Int32} (d : decode cc pc = .ok (.putfield 22, 3)) (g : Go p l e R s m args below meth c D N0 mL Q (wW cI cJ cZ cO a (cs_setLot S i (lr_set_tf (cs_lt S i) v)) (M) (ov)) k n (pc + 3) lo (st)) : Go p l e R s m args below meth c D N0 mL Q (wW cI cJ cZ cO a S M ov) k n (pc) lo (.int v :: .ref (cs_la S i) :: st) := go_put C inX0 (25 + i) (w_lot hi) rfl 6 (by decide) tyX0 tyX0_ok nmX0 bf_RX0_22 rfl (ty := .int) (by decide +kernel) rfl rfl (Nat.le_of_ble_eq_true rfl) d (by rw [show (lotFs (cs_lt S i)).set 6 (.int v) = lotFs (lr_set_tf (cs_lt S i) v) from rfl, w_lot_set hi]; exact g)
theorem gl0_end (C : Cxt p s m args meth c D (tysW cI cJ cZ cO) N0 cc mL RX0 ret nm) {i : Nat} (hi : i < cs_nc S) (d : decode cc pc = .ok (.getfield 25, 3)) (g : Go p l e R s m args below meth c D N0 mL Q (wW cI cJ cZ cO a S M ov) k n (pc + 3) lo (.int (lr_en (cs_lt S i)) :: st)) : Go p l e R s m args below meth c D N0 mL Q (wW cI cJ cZ cO a S M ov) k n (pc) lo (.ref (cs_la S i) :: st) := go_get C inX0 (25 + i) (w_lot hi) rfl 7 (by decide) bf_RX0_25 rfl d g
theorem pl0_end (C : Cxt p s m args meth c D (tysW cI cJ cZ cO) N0 cc mL RX0 ret nm) {i : Nat} (hi : i < cs_nc S) {v : Int32} (d : decode cc pc = .ok (.putfield 25, 3)) (g : Go p l e R s m args below meth c D N0 mL Q (wW cI cJ cZ cO a (cs_setLot S i (lr_set_en (cs_lt S i) v)) (M) (ov)) k n (pc + 3) lo (st)) : Go p l e R s m args below meth c D N0 mL Q (wW cI cJ cZ cO a S M ov) k n (pc) lo (.int v :: .ref (cs_la S i) :: st) := go_put C inX0 (25 + i) (w_lot hi) rfl 7 (by decide) tyX0 tyX0_ok nmX0 bf_RX0_25 rfl (ty := .int) (by decide +kernel) rfl rfl (Nat.le_of_ble_eq_true rfl) d (by rw [show (lotFs (cs_lt S i)).set 7 (.int v) = lotFs (lr_set_en (cs_lt S i) v) from rfl, w_lot_set hi]; exact g)
theorem gl0_instruction (C : Cxt p s m args meth c D (tysW cI cJ cZ cO) N0 cc mL RX0 ret nm) {i : Nat} (hi : i < cs_nc S) (d : decode cc pc = .ok (.getfield 28, 3)) (g : Go p l e R s m args below meth c D N0 mL Q (wW cI cJ cZ cO a S M ov) k n (pc + 3) lo (.int (lr_ins (cs_lt S i)) :: st)) : Go p l e R s m args below meth c D N0 mL Q (wW cI cJ cZ cO a S M ov) k n (pc) lo (.ref (cs_la S i) :: st) := go_get C inX0 (25 + i) (w_lot hi) rfl 8 (by decide) bf_RX0_28 rfl d g
theorem pl0_instruction (C : Cxt p s m args meth c D (tysW cI cJ cZ cO) N0 cc mL RX0 ret nm) {i : Nat} (hi : i < cs_nc S) {v : Int32} (d : decode cc pc = .ok (.putfield 28, 3)) (g : Go p l e R s m args below meth c D N0 mL Q (wW cI cJ cZ cO a (cs_setLot S i (lr_set_ins (cs_lt S i) v)) (M) (ov)) k n (pc + 3) lo (st)) : Go p l e R s m args below meth c D N0 mL Q (wW cI cJ cZ cO a S M ov) k n (pc) lo (.int v :: .ref (cs_la S i) :: st) := go_put C inX0 (25 + i) (w_lot hi) rfl 8 (by decide) tyX0 tyX0_ok nmX0 bf_RX0_28 rfl (ty := .int) (by decide +kernel) rfl rfl (Nat.le_of_ble_eq_true rfl) d (by rw [show (lotFs (cs_lt S i)).set 8 (.int v) = lotFs (lr_set_ins (cs_lt S i) v) from rfl, w_lot_set hi]; exact g)
theorem gl0_renewedOn (C : Cxt p s m args meth c D (tysW cI cJ cZ cO) N0 cc mL RX0 ret nm) {i : Nat} (hi : i < cs_nc S) (d : decode cc pc = .ok (.getfield 31, 3)) (g : Go p l e R s m args below meth c D N0 mL Q (wW cI cJ cZ cO a S M ov) k n (pc + 3) lo (.int (lr_rn (cs_lt S i)) :: st)) : Go p l e R s m args below meth c D N0 mL Q (wW cI cJ cZ cO a S M ov) k n (pc) lo (.ref (cs_la S i) :: st) := go_get C inX0 (25 + i) (w_lot hi) rfl 9 (by decide) bf_RX0_31 rfl d g
theorem pl0_renewedOn (C : Cxt p s m args meth c D (tysW cI cJ cZ cO) N0 cc mL RX0 ret nm) {i : Nat} (hi : i < cs_nc S) {v : Int32} (d : decode cc pc = .ok (.putfield 31, 3)) (g : Go p l e R s m args below meth c D N0 mL Q (wW cI cJ cZ cO a (cs_setLot S i (lr_set_rn (cs_lt S i) v)) (M) (ov)) k n (pc + 3) lo (st)) : Go p l e R s m args below meth c D N0 mL Q (wW cI cJ cZ cO a S M ov) k n (pc) lo (.int v :: .ref (cs_la S i) :: st) := go_put C inX0 (25 + i) (w_lot hi) rfl 9 (by decide) tyX0 tyX0_ok nmX0 bf_RX0_31 rfl (ty := .int) (by decide +kernel) rfl rfl (Nat.le_of_ble_eq_true rfl) d (by rw [show (lotFs (cs_lt S i)).set 9 (.int v) = lotFs (lr_set_rn (cs_lt S i) v) from rfl, w_lot_set hi]; exact g)
theorem bn_167 : Cond.fieldLinkNest RX1 167 RX0 "customer" "I" RX1 ∈ NESTW := List.mem_of_getElem? (i := 1) rfl
theorem gl_customer (C : Cxt p s m args meth c D (tysW cI cJ cZ cO) N0 cc mL RX1 ret nm) {i : Nat} (hi : i < cs_nc S) (d : decode cc pc = .ok (.getfield 167, 3)) (g : Go p l e R s m args below meth c D N0 mL Q (wW cI cJ cZ cO a S M ov) k n (pc + 3) lo (.int (lr_cu (cs_lt S i)) :: st)) : Go p l e R s m args below meth c D N0 mL Q (wW cI cJ cZ cO a S M ov) k n (pc) lo (.ref (cs_la S i) :: st) := go_getN C inX0 (25 + i) (w_lot hi) rfl 0 (by decide) bn_167 rfl d g
theorem bn_223 : Cond.fieldLinkNest RX1 223 RX0 "termDays" "I" RX1 ∈ NESTW := List.mem_of_getElem? (i := 2) rfl
theorem gl_termDays (C : Cxt p s m args meth c D (tysW cI cJ cZ cO) N0 cc mL RX1 ret nm) {i : Nat} (hi : i < cs_nc S) (d : decode cc pc = .ok (.getfield 223, 3)) (g : Go p l e R s m args below meth c D N0 mL Q (wW cI cJ cZ cO a S M ov) k n (pc + 3) lo (.int (lr_td (cs_lt S i)) :: st)) : Go p l e R s m args below meth c D N0 mL Q (wW cI cJ cZ cO a S M ov) k n (pc) lo (.ref (cs_la S i) :: st) := go_getN C inX0 (25 + i) (w_lot hi) rfl 1 (by decide) bn_223 rfl d g
theorem bn_73 : Cond.fieldLinkNest RX1 73 RX0 "principal" "I" RX1 ∈ NESTW := List.mem_of_getElem? (i := 3) rfl
theorem gl_principal (C : Cxt p s m args meth c D (tysW cI cJ cZ cO) N0 cc mL RX1 ret nm) {i : Nat} (hi : i < cs_nc S) (d : decode cc pc = .ok (.getfield 73, 3)) (g : Go p l e R s m args below meth c D N0 mL Q (wW cI cJ cZ cO a S M ov) k n (pc + 3) lo (.int (lr_pr (cs_lt S i)) :: st)) : Go p l e R s m args below meth c D N0 mL Q (wW cI cJ cZ cO a S M ov) k n (pc) lo (.ref (cs_la S i) :: st) := go_getN C inX0 (25 + i) (w_lot hi) rfl 2 (by decide) bn_73 rfl d g
theorem pl_principal (C : Cxt p s m args meth c D (tysW cI cJ cZ cO) N0 cc mL RX1 ret nm) {i : Nat} (hi : i < cs_nc S) {v : Int32} (d : decode cc pc = .ok (.putfield 73, 3)) (g : Go p l e R s m args below meth c D N0 mL Q (wW cI cJ cZ cO a (cs_setLot S i (lr_set_pr (cs_lt S i) v)) (M) (ov)) k n (pc + 3) lo (st)) : Go p l e R s m args below meth c D N0 mL Q (wW cI cJ cZ cO a S M ov) k n (pc) lo (.int v :: .ref (cs_la S i) :: st) := go_putN C inX0 (25 + i) (w_lot hi) rfl 2 (by decide) tyX0 tyX0_ok nmX0 bn_73 rfl (ty := .int) (by decide +kernel) rfl rfl (Nat.le_of_ble_eq_true rfl) d (by rw [show (lotFs (cs_lt S i)).set 2 (.int v) = lotFs (lr_set_pr (cs_lt S i) v) from rfl, w_lot_set hi]; exact g)
theorem bn_138 : Cond.fieldLinkNest RX1 138 RX0 "earned" "J" RX1 ∈ NESTW := List.mem_of_getElem? (i := 4) rfl
theorem gl_earned (C : Cxt p s m args meth c D (tysW cI cJ cZ cO) N0 cc mL RX1 ret nm) {i : Nat} (hi : i < cs_nc S) (d : decode cc pc = .ok (.getfield 138, 3)) (g : Go p l e R s m args below meth c D N0 mL Q (wW cI cJ cZ cO a S M ov) k n (pc + 3) lo (.long (lr_ea (cs_lt S i)) :: st)) : Go p l e R s m args below meth c D N0 mL Q (wW cI cJ cZ cO a S M ov) k n (pc) lo (.ref (cs_la S i) :: st) := go_getN C inX0 (25 + i) (w_lot hi) rfl 3 (by decide) bn_138 rfl d g
theorem pl_earned (C : Cxt p s m args meth c D (tysW cI cJ cZ cO) N0 cc mL RX1 ret nm) {i : Nat} (hi : i < cs_nc S) {v : Int64} (d : decode cc pc = .ok (.putfield 138, 3)) (g : Go p l e R s m args below meth c D N0 mL Q (wW cI cJ cZ cO a (cs_setLot S i (lr_set_ea (cs_lt S i) v)) (M) (ov)) k n (pc + 3) lo (st)) : Go p l e R s m args below meth c D N0 mL Q (wW cI cJ cZ cO a S M ov) k n (pc) lo (.long v :: .ref (cs_la S i) :: st) := go_putN C inX0 (25 + i) (w_lot hi) rfl 3 (by decide) tyX0 tyX0_ok nmX0 bn_138 rfl (ty := .long) (by decide +kernel) rfl rfl (Nat.le_of_ble_eq_true rfl) d (by rw [show (lotFs (cs_lt S i)).set 3 (.long v) = lotFs (lr_set_ea (cs_lt S i) v) from rfl, w_lot_set hi]; exact g)
theorem bn_153 : Cond.fieldLinkNest RX1 153 RX0 "parts" "J" RX1 ∈ NESTW := List.mem_of_getElem? (i := 5) rfl
theorem gl_parts (C : Cxt p s m args meth c D (tysW cI cJ cZ cO) N0 cc mL RX1 ret nm) {i : Nat} (hi : i < cs_nc S) (d : decode cc pc = .ok (.getfield 153, 3)) (g : Go p l e R s m args below meth c D N0 mL Q (wW cI cJ cZ cO a S M ov) k n (pc + 3) lo (.long (lr_pa (cs_lt S i)) :: st)) : Go p l e R s m args below meth c D N0 mL Q (wW cI cJ cZ cO a S M ov) k n (pc) lo (.ref (cs_la S i) :: st) := go_getN C inX0 (25 + i) (w_lot hi) rfl 4 (by decide) bn_153 rfl d g
theorem pl_parts (C : Cxt p s m args meth c D (tysW cI cJ cZ cO) N0 cc mL RX1 ret nm) {i : Nat} (hi : i < cs_nc S) {v : Int64} (d : decode cc pc = .ok (.putfield 153, 3)) (g : Go p l e R s m args below meth c D N0 mL Q (wW cI cJ cZ cO a (cs_setLot S i (lr_set_pa (cs_lt S i) v)) (M) (ov)) k n (pc + 3) lo (st)) : Go p l e R s m args below meth c D N0 mL Q (wW cI cJ cZ cO a S M ov) k n (pc) lo (.long v :: .ref (cs_la S i) :: st) := go_putN C inX0 (25 + i) (w_lot hi) rfl 4 (by decide) tyX0 tyX0_ok nmX0 bn_153 rfl (ty := .long) (by decide +kernel) rfl rfl (Nat.le_of_ble_eq_true rfl) d (by rw [show (lotFs (cs_lt S i)).set 4 (.long v) = lotFs (lr_set_pa (cs_lt S i) v) from rfl, w_lot_set hi]; exact g)
theorem bn_80 : Cond.fieldLinkNest RX1 80 RX0 "frozenCents" "I" RX1 ∈ NESTW := List.mem_of_getElem? (i := 6) rfl
theorem gl_frozenCents (C : Cxt p s m args meth c D (tysW cI cJ cZ cO) N0 cc mL RX1 ret nm) {i : Nat} (hi : i < cs_nc S) (d : decode cc pc = .ok (.getfield 80, 3)) (g : Go p l e R s m args below meth c D N0 mL Q (wW cI cJ cZ cO a S M ov) k n (pc + 3) lo (.int (lr_fz (cs_lt S i)) :: st)) : Go p l e R s m args below meth c D N0 mL Q (wW cI cJ cZ cO a S M ov) k n (pc) lo (.ref (cs_la S i) :: st) := go_getN C inX0 (25 + i) (w_lot hi) rfl 5 (by decide) bn_80 rfl d g
theorem pl_frozenCents (C : Cxt p s m args meth c D (tysW cI cJ cZ cO) N0 cc mL RX1 ret nm) {i : Nat} (hi : i < cs_nc S) {v : Int32} (d : decode cc pc = .ok (.putfield 80, 3)) (g : Go p l e R s m args below meth c D N0 mL Q (wW cI cJ cZ cO a (cs_setLot S i (lr_set_fz (cs_lt S i) v)) (M) (ov)) k n (pc + 3) lo (st)) : Go p l e R s m args below meth c D N0 mL Q (wW cI cJ cZ cO a S M ov) k n (pc) lo (.int v :: .ref (cs_la S i) :: st) := go_putN C inX0 (25 + i) (w_lot hi) rfl 5 (by decide) tyX0 tyX0_ok nmX0 bn_80 rfl (ty := .int) (by decide +kernel) rfl rfl (Nat.le_of_ble_eq_true rfl) d (by rw [show (lotFs (cs_lt S i)).set 5 (.int v) = lotFs (lr_set_fz (cs_lt S i) v) from rfl, w_lot_set hi]; exact g)
theorem bn_88 : Cond.fieldLinkNest RX1 88 RX0 "takeFrom" "I" RX1 ∈ NESTW := List.mem_of_getElem? (i := 7) rfl
theorem gl_takeFrom (C : Cxt p s m args meth c D (tysW cI cJ cZ cO) N0 cc mL RX1 ret nm) {i : Nat} (hi : i < cs_nc S) (d : decode cc pc = .ok (.getfield 88, 3)) (g : Go p l e R s m args below meth c D N0 mL Q (wW cI cJ cZ cO a S M ov) k n (pc + 3) lo (.int (lr_tf (cs_lt S i)) :: st)) : Go p l e R s m args below meth c D N0 mL Q (wW cI cJ cZ cO a S M ov) k n (pc) lo (.ref (cs_la S i) :: st) := go_getN C inX0 (25 + i) (w_lot hi) rfl 6 (by decide) bn_88 rfl d g
theorem pl_takeFrom (C : Cxt p s m args meth c D (tysW cI cJ cZ cO) N0 cc mL RX1 ret nm) {i : Nat} (hi : i < cs_nc S) {v : Int32} (d : decode cc pc = .ok (.putfield 88, 3)) (g : Go p l e R s m args below meth c D N0 mL Q (wW cI cJ cZ cO a (cs_setLot S i (lr_set_tf (cs_lt S i) v)) (M) (ov)) k n (pc + 3) lo (st)) : Go p l e R s m args below meth c D N0 mL Q (wW cI cJ cZ cO a S M ov) k n (pc) lo (.int v :: .ref (cs_la S i) :: st) := go_putN C inX0 (25 + i) (w_lot hi) rfl 6 (by decide) tyX0 tyX0_ok nmX0 bn_88 rfl (ty := .int) (by decide +kernel) rfl rfl (Nat.le_of_ble_eq_true rfl) d (by rw [show (lotFs (cs_lt S i)).set 6 (.int v) = lotFs (lr_set_tf (cs_lt S i) v) from rfl, w_lot_set hi]; exact g)
theorem bn_170 : Cond.fieldLinkNest RX1 170 RX0 "end" "I" RX1 ∈ NESTW := List.mem_of_getElem? (i := 8) rfl
theorem gl_end (C : Cxt p s m args meth c D (tysW cI cJ cZ cO) N0 cc mL RX1 ret nm) {i : Nat} (hi : i < cs_nc S) (d : decode cc pc = .ok (.getfield 170, 3)) (g : Go p l e R s m args below meth c D N0 mL Q (wW cI cJ cZ cO a S M ov) k n (pc + 3) lo (.int (lr_en (cs_lt S i)) :: st)) : Go p l e R s m args below meth c D N0 mL Q (wW cI cJ cZ cO a S M ov) k n (pc) lo (.ref (cs_la S i) :: st) := go_getN C inX0 (25 + i) (w_lot hi) rfl 7 (by decide) bn_170 rfl d g
theorem pl_end (C : Cxt p s m args meth c D (tysW cI cJ cZ cO) N0 cc mL RX1 ret nm) {i : Nat} (hi : i < cs_nc S) {v : Int32} (d : decode cc pc = .ok (.putfield 170, 3)) (g : Go p l e R s m args below meth c D N0 mL Q (wW cI cJ cZ cO a (cs_setLot S i (lr_set_en (cs_lt S i) v)) (M) (ov)) k n (pc + 3) lo (st)) : Go p l e R s m args below meth c D N0 mL Q (wW cI cJ cZ cO a S M ov) k n (pc) lo (.int v :: .ref (cs_la S i) :: st) := go_putN C inX0 (25 + i) (w_lot hi) rfl 7 (by decide) tyX0 tyX0_ok nmX0 bn_170 rfl (ty := .int) (by decide +kernel) rfl rfl (Nat.le_of_ble_eq_true rfl) d (by rw [show (lotFs (cs_lt S i)).set 7 (.int v) = lotFs (lr_set_en (cs_lt S i) v) from rfl, w_lot_set hi]; exact g)
theorem bn_62 : Cond.fieldLinkNest RX1 62 RX0 "instruction" "I" RX1 ∈ NESTW := List.mem_of_getElem? (i := 9) rfl
theorem gl_instruction (C : Cxt p s m args meth c D (tysW cI cJ cZ cO) N0 cc mL RX1 ret nm) {i : Nat} (hi : i < cs_nc S) (d : decode cc pc = .ok (.getfield 62, 3)) (g : Go p l e R s m args below meth c D N0 mL Q (wW cI cJ cZ cO a S M ov) k n (pc + 3) lo (.int (lr_ins (cs_lt S i)) :: st)) : Go p l e R s m args below meth c D N0 mL Q (wW cI cJ cZ cO a S M ov) k n (pc) lo (.ref (cs_la S i) :: st) := go_getN C inX0 (25 + i) (w_lot hi) rfl 8 (by decide) bn_62 rfl d g
theorem pl_instruction (C : Cxt p s m args meth c D (tysW cI cJ cZ cO) N0 cc mL RX1 ret nm) {i : Nat} (hi : i < cs_nc S) {v : Int32} (d : decode cc pc = .ok (.putfield 62, 3)) (g : Go p l e R s m args below meth c D N0 mL Q (wW cI cJ cZ cO a (cs_setLot S i (lr_set_ins (cs_lt S i) v)) (M) (ov)) k n (pc + 3) lo (st)) : Go p l e R s m args below meth c D N0 mL Q (wW cI cJ cZ cO a S M ov) k n (pc) lo (.int v :: .ref (cs_la S i) :: st) := go_putN C inX0 (25 + i) (w_lot hi) rfl 8 (by decide) tyX0 tyX0_ok nmX0 bn_62 rfl (ty := .int) (by decide +kernel) rfl rfl (Nat.le_of_ble_eq_true rfl) d (by rw [show (lotFs (cs_lt S i)).set 8 (.int v) = lotFs (lr_set_ins (cs_lt S i) v) from rfl, w_lot_set hi]; exact g)
theorem bn_133 : Cond.fieldLinkNest RX1 133 RX0 "renewedOn" "I" RX1 ∈ NESTW := List.mem_of_getElem? (i := 10) rfl
theorem gl_renewedOn (C : Cxt p s m args meth c D (tysW cI cJ cZ cO) N0 cc mL RX1 ret nm) {i : Nat} (hi : i < cs_nc S) (d : decode cc pc = .ok (.getfield 133, 3)) (g : Go p l e R s m args below meth c D N0 mL Q (wW cI cJ cZ cO a S M ov) k n (pc + 3) lo (.int (lr_rn (cs_lt S i)) :: st)) : Go p l e R s m args below meth c D N0 mL Q (wW cI cJ cZ cO a S M ov) k n (pc) lo (.ref (cs_la S i) :: st) := go_getN C inX0 (25 + i) (w_lot hi) rfl 9 (by decide) bn_133 rfl d g
theorem pl_renewedOn (C : Cxt p s m args meth c D (tysW cI cJ cZ cO) N0 cc mL RX1 ret nm) {i : Nat} (hi : i < cs_nc S) {v : Int32} (d : decode cc pc = .ok (.putfield 133, 3)) (g : Go p l e R s m args below meth c D N0 mL Q (wW cI cJ cZ cO a (cs_setLot S i (lr_set_rn (cs_lt S i) v)) (M) (ov)) k n (pc + 3) lo (st)) : Go p l e R s m args below meth c D N0 mL Q (wW cI cJ cZ cO a S M ov) k n (pc) lo (.int v :: .ref (cs_la S i) :: st) := go_putN C inX0 (25 + i) (w_lot hi) rfl 9 (by decide) tyX0 tyX0_ok nmX0 bn_133 rfl (ty := .int) (by decide +kernel) rfl rfl (Nat.le_of_ble_eq_true rfl) d (by rw [show (lotFs (cs_lt S i)).set 9 (.int v) = lotFs (lr_set_rn (cs_lt S i) v) from rfl, w_lot_set hi]; exact g)
theorem lx_rates {own : String} (C : Cxt p s m args meth c D (tysW cI cJ cZ cO) N0 cc mL own ret nm) {z : Int32} (hin : vp_in z 3) (d : decode cc pc = .ok (.iaload, 1)) (g : Go p l e R s m args below meth c D N0 mL Q (wW cI cJ cZ cO a S M ov) k n (pc + 1) lo (.int (cs_rates S z.toNatClampNeg) :: st)) : Go p l e R s m args below meth c D N0 mL Q (wW cI cJ cZ cO a S M ov) k n (pc) lo (.int z :: .ref (a 1) :: st) := go_iald C 1 0 rfl rfl hin d g
theorem sx_rates {own : String} (C : Cxt p s m args meth c D (tysW cI cJ cZ cO) N0 cc mL own ret nm) {z : Int32} {x : Int32} (hin : vp_in z 3) (d : decode cc pc = .ok (.iastore, 1)) (g : Go p l e R s m args below meth c D N0 mL Q (wW cI cJ cZ cO a (cs_set_rates S (upd (cs_rates S) z.toNatClampNeg x)) (M) (ov)) k n (pc + 1) lo (st)) : Go p l e R s m args below meth c D N0 mL Q (wW cI cJ cZ cO a S M ov) k n (pc) lo (.int x :: .int z :: .ref (a 1) :: st) := go_iast C 1 0 rfl rfl hin d g
theorem nx_rates {own : String} (C : Cxt p s m args meth c D (tysW cI cJ cZ cO) N0 cc mL own ret nm) (d : decode cc pc = .ok (.arraylength, 1)) (g : Go p l e R s m args below meth c D N0 mL Q (wW cI cJ cZ cO a S M ov) k n (pc + 1) lo (.int 3 :: st)) : Go p l e R s m args below meth c D N0 mL Q (wW cI cJ cZ cO a S M ov) k n (pc) lo (.ref (a 1) :: st) := go_alen C 1 0 rfl rfl rfl d g
theorem lx_paid {own : String} (C : Cxt p s m args meth c D (tysW cI cJ cZ cO) N0 cc mL own ret nm) {z : Int32} (hin : vp_in z 4) (d : decode cc pc = .ok (.laload, 1)) (g : Go p l e R s m args below meth c D N0 mL Q (wW cI cJ cZ cO a S M ov) k n (pc + 1) lo (.long (cs_paid S z.toNatClampNeg) :: st)) : Go p l e R s m args below meth c D N0 mL Q (wW cI cJ cZ cO a S M ov) k n (pc) lo (.int z :: .ref (a 2) :: st) := go_lald C 2 1 rfl rfl hin d g
theorem sx_paid {own : String} (C : Cxt p s m args meth c D (tysW cI cJ cZ cO) N0 cc mL own ret nm) {z : Int32} {x : Int64} (hin : vp_in z 4) (d : decode cc pc = .ok (.lastore, 1)) (g : Go p l e R s m args below meth c D N0 mL Q (wW cI cJ cZ cO a (cs_set_paid S (vp_updL (cs_paid S) z.toNatClampNeg x)) (M) (ov)) k n (pc + 1) lo (st)) : Go p l e R s m args below meth c D N0 mL Q (wW cI cJ cZ cO a S M ov) k n (pc) lo (.long x :: .int z :: .ref (a 2) :: st) := go_last C 2 1 rfl rfl hin d g
theorem nx_paid {own : String} (C : Cxt p s m args meth c D (tysW cI cJ cZ cO) N0 cc mL own ret nm) (d : decode cc pc = .ok (.arraylength, 1)) (g : Go p l e R s m args below meth c D N0 mL Q (wW cI cJ cZ cO a S M ov) k n (pc + 1) lo (.int 4 :: st)) : Go p l e R s m args below meth c D N0 mL Q (wW cI cJ cZ cO a S M ov) k n (pc) lo (.ref (a 2) :: st) := go_alen C 2 1 rfl rfl rfl d g
theorem lx_lost {own : String} (C : Cxt p s m args meth c D (tysW cI cJ cZ cO) N0 cc mL own ret nm) {z : Int32} (hin : vp_in z 4) (d : decode cc pc = .ok (.laload, 1)) (g : Go p l e R s m args below meth c D N0 mL Q (wW cI cJ cZ cO a S M ov) k n (pc + 1) lo (.long (cs_lost S z.toNatClampNeg) :: st)) : Go p l e R s m args below meth c D N0 mL Q (wW cI cJ cZ cO a S M ov) k n (pc) lo (.int z :: .ref (a 3) :: st) := go_lald C 3 1 rfl rfl hin d g
theorem sx_lost {own : String} (C : Cxt p s m args meth c D (tysW cI cJ cZ cO) N0 cc mL own ret nm) {z : Int32} {x : Int64} (hin : vp_in z 4) (d : decode cc pc = .ok (.lastore, 1)) (g : Go p l e R s m args below meth c D N0 mL Q (wW cI cJ cZ cO a (cs_set_lost S (vp_updL (cs_lost S) z.toNatClampNeg x)) (M) (ov)) k n (pc + 1) lo (st)) : Go p l e R s m args below meth c D N0 mL Q (wW cI cJ cZ cO a S M ov) k n (pc) lo (.long x :: .int z :: .ref (a 3) :: st) := go_last C 3 1 rfl rfl hin d g
theorem nx_lost {own : String} (C : Cxt p s m args meth c D (tysW cI cJ cZ cO) N0 cc mL own ret nm) (d : decode cc pc = .ok (.arraylength, 1)) (g : Go p l e R s m args below meth c D N0 mL Q (wW cI cJ cZ cO a S M ov) k n (pc + 1) lo (.int 4 :: st)) : Go p l e R s m args below meth c D N0 mL Q (wW cI cJ cZ cO a S M ov) k n (pc) lo (.ref (a 3) :: st) := go_alen C 3 1 rfl rfl rfl d g
theorem lx_bk {own : String} (C : Cxt p s m args meth c D (tysW cI cJ cZ cO) N0 cc mL own ret nm) {z : Int32} (hin : vp_in z 40) (d : decode cc pc = .ok (.aaload, 1)) (g : Go p l e R s m args below meth c D N0 mL Q (wW cI cJ cZ cO a S M ov) k n (pc + 1) lo (va_rf (cs_bk S z.toNatClampNeg) :: st)) : Go p l e R s m args below meth c D N0 mL Q (wW cI cJ cZ cO a S M ov) k n (pc) lo (.int z :: .ref (a 4) :: st) := go_aald C 4 3 rfl rfl hin d g
theorem sx_bk {own : String} (C : Cxt p s m args meth c D (tysW cI cJ cZ cO) N0 cc mL own ret nm) {z : Int32} {i : Nat} (hi : i < cs_nc S) (hin : vp_in z 40) (d : decode cc pc = .ok (.aastore, 1)) (g : Go p l e R s m args below meth c D N0 mL Q (wW cI cJ cZ cO a (cs_set_bk S (va_up (cs_bk S) z.toNatClampNeg (some (cs_la S i)))) (M) (ov)) k n (pc + 1) lo (st)) : Go p l e R s m args below meth c D N0 mL Q (wW cI cJ cZ cO a S M ov) k n (pc) lo (.ref (cs_la S i) :: .int z :: .ref (a 4) :: st) := go_aast C (r9 := (RX0, TX0, 10)) 4 3 (25 + i) 0 rfl rfl (w_lot hi) rfl hin d g
theorem nx_bk {own : String} (C : Cxt p s m args meth c D (tysW cI cJ cZ cO) N0 cc mL own ret nm) (d : decode cc pc = .ok (.arraylength, 1)) (g : Go p l e R s m args below meth c D N0 mL Q (wW cI cJ cZ cO a S M ov) k n (pc + 1) lo (.int 40 :: st)) : Go p l e R s m args below meth c D N0 mL Q (wW cI cJ cZ cO a S M ov) k n (pc) lo (.ref (a 4) :: st) := go_alen C 4 3 rfl rfl rfl d g
theorem lm_rates {own : String} (C : Cxt p s m args meth c D (tysW cI cJ cZ cO) N0 cc mL own ret nm) {z : Int32} (hin : vp_in z 3) (d : decode cc pc = .ok (.iaload, 1)) (g : Go p l e R s m args below meth c D N0 mL Q (wW cI cJ cZ cO a S M ov) k n (pc + 1) lo (.int (ms_rates M z.toNatClampNeg) :: st)) : Go p l e R s m args below meth c D N0 mL Q (wW cI cJ cZ cO a S M ov) k n (pc) lo (.int z :: .ref (a 6) :: st) := go_iald C 6 0 rfl rfl hin d g
theorem sm_rates {own : String} (C : Cxt p s m args meth c D (tysW cI cJ cZ cO) N0 cc mL own ret nm) {z : Int32} {x : Int32} (hin : vp_in z 3) (d : decode cc pc = .ok (.iastore, 1)) (g : Go p l e R s m args below meth c D N0 mL Q (wW cI cJ cZ cO a (S) (ms_set_rates M (upd (ms_rates M) z.toNatClampNeg x)) (ov)) k n (pc + 1) lo (st)) : Go p l e R s m args below meth c D N0 mL Q (wW cI cJ cZ cO a S M ov) k n (pc) lo (.int x :: .int z :: .ref (a 6) :: st) := go_iast C 6 0 rfl rfl hin d g
theorem lm_isThere {own : String} (C : Cxt p s m args meth c D (tysW cI cJ cZ cO) N0 cc mL own ret nm) {z : Int32} (hin : vp_in z 40) (d : decode cc pc = .ok (.baload, 1)) (g : Go p l e R s m args below meth c D N0 mL Q (wW cI cJ cZ cO a S M ov) k n (pc + 1) lo (.int (ms_th M z.toNatClampNeg) :: st)) : Go p l e R s m args below meth c D N0 mL Q (wW cI cJ cZ cO a S M ov) k n (pc) lo (.int z :: .ref (a 7) :: st) := go_zald C 7 2 rfl rfl hin d g
theorem sm_isThere {own : String} (C : Cxt p s m args meth c D (tysW cI cJ cZ cO) N0 cc mL own ret nm) {z : Int32} {x : Int32} (hin : vp_in z 40) (d : decode cc pc = .ok (.bastore, 1)) (g : Go p l e R s m args below meth c D N0 mL Q (wW cI cJ cZ cO a (S) (ms_set_th M (upd (ms_th M) z.toNatClampNeg (x &&& 1))) (ov)) k n (pc + 1) lo (st)) : Go p l e R s m args below meth c D N0 mL Q (wW cI cJ cZ cO a S M ov) k n (pc) lo (.int x :: .int z :: .ref (a 7) :: st) := go_zast C 7 2 rfl rfl hin d g
theorem lm_isTerm {own : String} (C : Cxt p s m args meth c D (tysW cI cJ cZ cO) N0 cc mL own ret nm) {z : Int32} (hin : vp_in z 40) (d : decode cc pc = .ok (.baload, 1)) (g : Go p l e R s m args below meth c D N0 mL Q (wW cI cJ cZ cO a S M ov) k n (pc + 1) lo (.int (ms_te M z.toNatClampNeg) :: st)) : Go p l e R s m args below meth c D N0 mL Q (wW cI cJ cZ cO a S M ov) k n (pc) lo (.int z :: .ref (a 8) :: st) := go_zald C 8 2 rfl rfl hin d g
theorem sm_isTerm {own : String} (C : Cxt p s m args meth c D (tysW cI cJ cZ cO) N0 cc mL own ret nm) {z : Int32} {x : Int32} (hin : vp_in z 40) (d : decode cc pc = .ok (.bastore, 1)) (g : Go p l e R s m args below meth c D N0 mL Q (wW cI cJ cZ cO a (S) (ms_set_te M (upd (ms_te M) z.toNatClampNeg (x &&& 1))) (ov)) k n (pc + 1) lo (st)) : Go p l e R s m args below meth c D N0 mL Q (wW cI cJ cZ cO a S M ov) k n (pc) lo (.int x :: .int z :: .ref (a 8) :: st) := go_zast C 8 2 rfl rfl hin d g
theorem lm_owners {own : String} (C : Cxt p s m args meth c D (tysW cI cJ cZ cO) N0 cc mL own ret nm) {z : Int32} (hin : vp_in z 40) (d : decode cc pc = .ok (.iaload, 1)) (g : Go p l e R s m args below meth c D N0 mL Q (wW cI cJ cZ cO a S M ov) k n (pc + 1) lo (.int (ms_ow M z.toNatClampNeg) :: st)) : Go p l e R s m args below meth c D N0 mL Q (wW cI cJ cZ cO a S M ov) k n (pc) lo (.int z :: .ref (a 9) :: st) := go_iald C 9 0 rfl rfl hin d g
theorem sm_owners {own : String} (C : Cxt p s m args meth c D (tysW cI cJ cZ cO) N0 cc mL own ret nm) {z : Int32} {x : Int32} (hin : vp_in z 40) (d : decode cc pc = .ok (.iastore, 1)) (g : Go p l e R s m args below meth c D N0 mL Q (wW cI cJ cZ cO a (S) (ms_set_ow M (upd (ms_ow M) z.toNatClampNeg x)) (ov)) k n (pc + 1) lo (st)) : Go p l e R s m args below meth c D N0 mL Q (wW cI cJ cZ cO a S M ov) k n (pc) lo (.int x :: .int z :: .ref (a 9) :: st) := go_iast C 9 0 rfl rfl hin d g
theorem lm_principals {own : String} (C : Cxt p s m args meth c D (tysW cI cJ cZ cO) N0 cc mL own ret nm) {z : Int32} (hin : vp_in z 40) (d : decode cc pc = .ok (.iaload, 1)) (g : Go p l e R s m args below meth c D N0 mL Q (wW cI cJ cZ cO a S M ov) k n (pc + 1) lo (.int (ms_pr M z.toNatClampNeg) :: st)) : Go p l e R s m args below meth c D N0 mL Q (wW cI cJ cZ cO a S M ov) k n (pc) lo (.int z :: .ref (a 10) :: st) := go_iald C 10 0 rfl rfl hin d g
theorem sm_principals {own : String} (C : Cxt p s m args meth c D (tysW cI cJ cZ cO) N0 cc mL own ret nm) {z : Int32} {x : Int32} (hin : vp_in z 40) (d : decode cc pc = .ok (.iastore, 1)) (g : Go p l e R s m args below meth c D N0 mL Q (wW cI cJ cZ cO a (S) (ms_set_pr M (upd (ms_pr M) z.toNatClampNeg x)) (ov)) k n (pc + 1) lo (st)) : Go p l e R s m args below meth c D N0 mL Q (wW cI cJ cZ cO a S M ov) k n (pc) lo (.int x :: .int z :: .ref (a 10) :: st) := go_iast C 10 0 rfl rfl hin d g
theorem lm_earnings {own : String} (C : Cxt p s m args meth c D (tysW cI cJ cZ cO) N0 cc mL own ret nm) {z : Int32} (hin : vp_in z 40) (d : decode cc pc = .ok (.laload, 1)) (g : Go p l e R s m args below meth c D N0 mL Q (wW cI cJ cZ cO a S M ov) k n (pc + 1) lo (.long (ms_ea M z.toNatClampNeg) :: st)) : Go p l e R s m args below meth c D N0 mL Q (wW cI cJ cZ cO a S M ov) k n (pc) lo (.int z :: .ref (a 11) :: st) := go_lald C 11 1 rfl rfl hin d g
theorem sm_earnings {own : String} (C : Cxt p s m args meth c D (tysW cI cJ cZ cO) N0 cc mL own ret nm) {z : Int32} {x : Int64} (hin : vp_in z 40) (d : decode cc pc = .ok (.lastore, 1)) (g : Go p l e R s m args below meth c D N0 mL Q (wW cI cJ cZ cO a (S) (ms_set_ea M (vp_updL (ms_ea M) z.toNatClampNeg x)) (ov)) k n (pc + 1) lo (st)) : Go p l e R s m args below meth c D N0 mL Q (wW cI cJ cZ cO a S M ov) k n (pc) lo (.long x :: .int z :: .ref (a 11) :: st) := go_last C 11 1 rfl rfl hin d g
theorem lm_frozenOf {own : String} (C : Cxt p s m args meth c D (tysW cI cJ cZ cO) N0 cc mL own ret nm) {z : Int32} (hin : vp_in z 40) (d : decode cc pc = .ok (.iaload, 1)) (g : Go p l e R s m args below meth c D N0 mL Q (wW cI cJ cZ cO a S M ov) k n (pc + 1) lo (.int (ms_fz M z.toNatClampNeg) :: st)) : Go p l e R s m args below meth c D N0 mL Q (wW cI cJ cZ cO a S M ov) k n (pc) lo (.int z :: .ref (a 12) :: st) := go_iald C 12 0 rfl rfl hin d g
theorem sm_frozenOf {own : String} (C : Cxt p s m args meth c D (tysW cI cJ cZ cO) N0 cc mL own ret nm) {z : Int32} {x : Int32} (hin : vp_in z 40) (d : decode cc pc = .ok (.iastore, 1)) (g : Go p l e R s m args below meth c D N0 mL Q (wW cI cJ cZ cO a (S) (ms_set_fz M (upd (ms_fz M) z.toNatClampNeg x)) (ov)) k n (pc + 1) lo (st)) : Go p l e R s m args below meth c D N0 mL Q (wW cI cJ cZ cO a S M ov) k n (pc) lo (.int x :: .int z :: .ref (a 12) :: st) := go_iast C 12 0 rfl rfl hin d g
theorem lm_noticeDays {own : String} (C : Cxt p s m args meth c D (tysW cI cJ cZ cO) N0 cc mL own ret nm) {z : Int32} (hin : vp_in z 40) (d : decode cc pc = .ok (.iaload, 1)) (g : Go p l e R s m args below meth c D N0 mL Q (wW cI cJ cZ cO a S M ov) k n (pc + 1) lo (.int (ms_nd M z.toNatClampNeg) :: st)) : Go p l e R s m args below meth c D N0 mL Q (wW cI cJ cZ cO a S M ov) k n (pc) lo (.int z :: .ref (a 13) :: st) := go_iald C 13 0 rfl rfl hin d g
theorem sm_noticeDays {own : String} (C : Cxt p s m args meth c D (tysW cI cJ cZ cO) N0 cc mL own ret nm) {z : Int32} {x : Int32} (hin : vp_in z 40) (d : decode cc pc = .ok (.iastore, 1)) (g : Go p l e R s m args below meth c D N0 mL Q (wW cI cJ cZ cO a (S) (ms_set_nd M (upd (ms_nd M) z.toNatClampNeg x)) (ov)) k n (pc + 1) lo (st)) : Go p l e R s m args below meth c D N0 mL Q (wW cI cJ cZ cO a S M ov) k n (pc) lo (.int x :: .int z :: .ref (a 13) :: st) := go_iast C 13 0 rfl rfl hin d g
theorem lm_termParts {own : String} (C : Cxt p s m args meth c D (tysW cI cJ cZ cO) N0 cc mL own ret nm) {z : Int32} (hin : vp_in z 40) (d : decode cc pc = .ok (.laload, 1)) (g : Go p l e R s m args below meth c D N0 mL Q (wW cI cJ cZ cO a S M ov) k n (pc + 1) lo (.long (ms_tp M z.toNatClampNeg) :: st)) : Go p l e R s m args below meth c D N0 mL Q (wW cI cJ cZ cO a S M ov) k n (pc) lo (.int z :: .ref (a 14) :: st) := go_lald C 14 1 rfl rfl hin d g
theorem sm_termParts {own : String} (C : Cxt p s m args meth c D (tysW cI cJ cZ cO) N0 cc mL own ret nm) {z : Int32} {x : Int64} (hin : vp_in z 40) (d : decode cc pc = .ok (.lastore, 1)) (g : Go p l e R s m args below meth c D N0 mL Q (wW cI cJ cZ cO a (S) (ms_set_tp M (vp_updL (ms_tp M) z.toNatClampNeg x)) (ov)) k n (pc + 1) lo (st)) : Go p l e R s m args below meth c D N0 mL Q (wW cI cJ cZ cO a S M ov) k n (pc) lo (.long x :: .int z :: .ref (a 14) :: st) := go_last C 14 1 rfl rfl hin d g
theorem lm_lengths {own : String} (C : Cxt p s m args meth c D (tysW cI cJ cZ cO) N0 cc mL own ret nm) {z : Int32} (hin : vp_in z 40) (d : decode cc pc = .ok (.iaload, 1)) (g : Go p l e R s m args below meth c D N0 mL Q (wW cI cJ cZ cO a S M ov) k n (pc + 1) lo (.int (ms_le M z.toNatClampNeg) :: st)) : Go p l e R s m args below meth c D N0 mL Q (wW cI cJ cZ cO a S M ov) k n (pc) lo (.int z :: .ref (a 15) :: st) := go_iald C 15 0 rfl rfl hin d g
theorem sm_lengths {own : String} (C : Cxt p s m args meth c D (tysW cI cJ cZ cO) N0 cc mL own ret nm) {z : Int32} {x : Int32} (hin : vp_in z 40) (d : decode cc pc = .ok (.iastore, 1)) (g : Go p l e R s m args below meth c D N0 mL Q (wW cI cJ cZ cO a (S) (ms_set_le M (upd (ms_le M) z.toNatClampNeg x)) (ov)) k n (pc + 1) lo (st)) : Go p l e R s m args below meth c D N0 mL Q (wW cI cJ cZ cO a S M ov) k n (pc) lo (.int x :: .int z :: .ref (a 15) :: st) := go_iast C 15 0 rfl rfl hin d g
theorem lm_ends {own : String} (C : Cxt p s m args meth c D (tysW cI cJ cZ cO) N0 cc mL own ret nm) {z : Int32} (hin : vp_in z 40) (d : decode cc pc = .ok (.iaload, 1)) (g : Go p l e R s m args below meth c D N0 mL Q (wW cI cJ cZ cO a S M ov) k n (pc + 1) lo (.int (ms_en M z.toNatClampNeg) :: st)) : Go p l e R s m args below meth c D N0 mL Q (wW cI cJ cZ cO a S M ov) k n (pc) lo (.int z :: .ref (a 16) :: st) := go_iald C 16 0 rfl rfl hin d g
theorem sm_ends {own : String} (C : Cxt p s m args meth c D (tysW cI cJ cZ cO) N0 cc mL own ret nm) {z : Int32} {x : Int32} (hin : vp_in z 40) (d : decode cc pc = .ok (.iastore, 1)) (g : Go p l e R s m args below meth c D N0 mL Q (wW cI cJ cZ cO a (S) (ms_set_en M (upd (ms_en M) z.toNatClampNeg x)) (ov)) k n (pc + 1) lo (st)) : Go p l e R s m args below meth c D N0 mL Q (wW cI cJ cZ cO a S M ov) k n (pc) lo (.int x :: .int z :: .ref (a 16) :: st) := go_iast C 16 0 rfl rfl hin d g
theorem lm_instructions {own : String} (C : Cxt p s m args meth c D (tysW cI cJ cZ cO) N0 cc mL own ret nm) {z : Int32} (hin : vp_in z 40) (d : decode cc pc = .ok (.iaload, 1)) (g : Go p l e R s m args below meth c D N0 mL Q (wW cI cJ cZ cO a S M ov) k n (pc + 1) lo (.int (ms_ins M z.toNatClampNeg) :: st)) : Go p l e R s m args below meth c D N0 mL Q (wW cI cJ cZ cO a S M ov) k n (pc) lo (.int z :: .ref (a 17) :: st) := go_iald C 17 0 rfl rfl hin d g
theorem sm_instructions {own : String} (C : Cxt p s m args meth c D (tysW cI cJ cZ cO) N0 cc mL own ret nm) {z : Int32} {x : Int32} (hin : vp_in z 40) (d : decode cc pc = .ok (.iastore, 1)) (g : Go p l e R s m args below meth c D N0 mL Q (wW cI cJ cZ cO a (S) (ms_set_ins M (upd (ms_ins M) z.toNatClampNeg x)) (ov)) k n (pc + 1) lo (st)) : Go p l e R s m args below meth c D N0 mL Q (wW cI cJ cZ cO a S M ov) k n (pc) lo (.int x :: .int z :: .ref (a 17) :: st) := go_iast C 17 0 rfl rfl hin d g
theorem lm_begun {own : String} (C : Cxt p s m args meth c D (tysW cI cJ cZ cO) N0 cc mL own ret nm) {z : Int32} (hin : vp_in z 40) (d : decode cc pc = .ok (.iaload, 1)) (g : Go p l e R s m args below meth c D N0 mL Q (wW cI cJ cZ cO a S M ov) k n (pc + 1) lo (.int (ms_bg M z.toNatClampNeg) :: st)) : Go p l e R s m args below meth c D N0 mL Q (wW cI cJ cZ cO a S M ov) k n (pc) lo (.int z :: .ref (a 18) :: st) := go_iald C 18 0 rfl rfl hin d g
theorem sm_begun {own : String} (C : Cxt p s m args meth c D (tysW cI cJ cZ cO) N0 cc mL own ret nm) {z : Int32} {x : Int32} (hin : vp_in z 40) (d : decode cc pc = .ok (.iastore, 1)) (g : Go p l e R s m args below meth c D N0 mL Q (wW cI cJ cZ cO a (S) (ms_set_bg M (upd (ms_bg M) z.toNatClampNeg x)) (ov)) k n (pc + 1) lo (st)) : Go p l e R s m args below meth c D N0 mL Q (wW cI cJ cZ cO a S M ov) k n (pc) lo (.int x :: .int z :: .ref (a 18) :: st) := go_iast C 18 0 rfl rfl hin d g
theorem lm_paidTo {own : String} (C : Cxt p s m args meth c D (tysW cI cJ cZ cO) N0 cc mL own ret nm) {z : Int32} (hin : vp_in z 4) (d : decode cc pc = .ok (.laload, 1)) (g : Go p l e R s m args below meth c D N0 mL Q (wW cI cJ cZ cO a S M ov) k n (pc + 1) lo (.long (ms_paid M z.toNatClampNeg) :: st)) : Go p l e R s m args below meth c D N0 mL Q (wW cI cJ cZ cO a S M ov) k n (pc) lo (.int z :: .ref (a 19) :: st) := go_lald C 19 1 rfl rfl hin d g
theorem sm_paidTo {own : String} (C : Cxt p s m args meth c D (tysW cI cJ cZ cO) N0 cc mL own ret nm) {z : Int32} {x : Int64} (hin : vp_in z 4) (d : decode cc pc = .ok (.lastore, 1)) (g : Go p l e R s m args below meth c D N0 mL Q (wW cI cJ cZ cO a (S) (ms_set_paid M (vp_updL (ms_paid M) z.toNatClampNeg x)) (ov)) k n (pc + 1) lo (st)) : Go p l e R s m args below meth c D N0 mL Q (wW cI cJ cZ cO a S M ov) k n (pc) lo (.long x :: .int z :: .ref (a 19) :: st) := go_last C 19 1 rfl rfl hin d g
theorem lm_lostBy {own : String} (C : Cxt p s m args meth c D (tysW cI cJ cZ cO) N0 cc mL own ret nm) {z : Int32} (hin : vp_in z 4) (d : decode cc pc = .ok (.laload, 1)) (g : Go p l e R s m args below meth c D N0 mL Q (wW cI cJ cZ cO a S M ov) k n (pc + 1) lo (.long (ms_lost M z.toNatClampNeg) :: st)) : Go p l e R s m args below meth c D N0 mL Q (wW cI cJ cZ cO a S M ov) k n (pc) lo (.int z :: .ref (a 20) :: st) := go_lald C 20 1 rfl rfl hin d g
theorem sm_lostBy {own : String} (C : Cxt p s m args meth c D (tysW cI cJ cZ cO) N0 cc mL own ret nm) {z : Int32} {x : Int64} (hin : vp_in z 4) (d : decode cc pc = .ok (.lastore, 1)) (g : Go p l e R s m args below meth c D N0 mL Q (wW cI cJ cZ cO a (S) (ms_set_lost M (vp_updL (ms_lost M) z.toNatClampNeg x)) (ov)) k n (pc + 1) lo (st)) : Go p l e R s m args below meth c D N0 mL Q (wW cI cJ cZ cO a S M ov) k n (pc) lo (.long x :: .int z :: .ref (a 20) :: st) := go_last C 20 1 rfl rfl hin d g
theorem lm_partsAhead {own : String} (C : Cxt p s m args meth c D (tysW cI cJ cZ cO) N0 cc mL own ret nm) {z : Int32} (hin : vp_in z 40) (d : decode cc pc = .ok (.laload, 1)) (g : Go p l e R s m args below meth c D N0 mL Q (wW cI cJ cZ cO a S M ov) k n (pc + 1) lo (.long (ms_pah M z.toNatClampNeg) :: st)) : Go p l e R s m args below meth c D N0 mL Q (wW cI cJ cZ cO a S M ov) k n (pc) lo (.int z :: .ref (a 21) :: st) := go_lald C 21 1 rfl rfl hin d g
theorem sm_partsAhead {own : String} (C : Cxt p s m args meth c D (tysW cI cJ cZ cO) N0 cc mL own ret nm) {z : Int32} {x : Int64} (hin : vp_in z 40) (d : decode cc pc = .ok (.lastore, 1)) (g : Go p l e R s m args below meth c D N0 mL Q (wW cI cJ cZ cO a (S) (ms_set_pah M (vp_updL (ms_pah M) z.toNatClampNeg x)) (ov)) k n (pc + 1) lo (st)) : Go p l e R s m args below meth c D N0 mL Q (wW cI cJ cZ cO a S M ov) k n (pc) lo (.long x :: .int z :: .ref (a 21) :: st) := go_last C 21 1 rfl rfl hin d g
theorem lm_principalsAhead {own : String} (C : Cxt p s m args meth c D (tysW cI cJ cZ cO) N0 cc mL own ret nm) {z : Int32} (hin : vp_in z 40) (d : decode cc pc = .ok (.iaload, 1)) (g : Go p l e R s m args below meth c D N0 mL Q (wW cI cJ cZ cO a S M ov) k n (pc + 1) lo (.int (ms_prh M z.toNatClampNeg) :: st)) : Go p l e R s m args below meth c D N0 mL Q (wW cI cJ cZ cO a S M ov) k n (pc) lo (.int z :: .ref (a 22) :: st) := go_iald C 22 0 rfl rfl hin d g
theorem sm_principalsAhead {own : String} (C : Cxt p s m args meth c D (tysW cI cJ cZ cO) N0 cc mL own ret nm) {z : Int32} {x : Int32} (hin : vp_in z 40) (d : decode cc pc = .ok (.iastore, 1)) (g : Go p l e R s m args below meth c D N0 mL Q (wW cI cJ cZ cO a (S) (ms_set_prh M (upd (ms_prh M) z.toNatClampNeg x)) (ov)) k n (pc + 1) lo (st)) : Go p l e R s m args below meth c D N0 mL Q (wW cI cJ cZ cO a S M ov) k n (pc) lo (.int x :: .int z :: .ref (a 22) :: st) := go_iast C 22 0 rfl rfl hin d g
theorem lm_isDone {own : String} (C : Cxt p s m args meth c D (tysW cI cJ cZ cO) N0 cc mL own ret nm) {z : Int32} (hin : vp_in z 40) (d : decode cc pc = .ok (.baload, 1)) (g : Go p l e R s m args below meth c D N0 mL Q (wW cI cJ cZ cO a S M ov) k n (pc + 1) lo (.int (ms_dn M z.toNatClampNeg) :: st)) : Go p l e R s m args below meth c D N0 mL Q (wW cI cJ cZ cO a S M ov) k n (pc) lo (.int z :: .ref (a 23) :: st) := go_zald C 23 2 rfl rfl hin d g
theorem sm_isDone {own : String} (C : Cxt p s m args meth c D (tysW cI cJ cZ cO) N0 cc mL own ret nm) {z : Int32} {x : Int32} (hin : vp_in z 40) (d : decode cc pc = .ok (.bastore, 1)) (g : Go p l e R s m args below meth c D N0 mL Q (wW cI cJ cZ cO a (S) (ms_set_dn M (upd (ms_dn M) z.toNatClampNeg (x &&& 1))) (ov)) k n (pc + 1) lo (st)) : Go p l e R s m args below meth c D N0 mL Q (wW cI cJ cZ cO a S M ov) k n (pc) lo (.int x :: .int z :: .ref (a 23) :: st) := go_zast C 23 2 rfl rfl hin d g
theorem s_out {own : String} (C : Cxt p s m args meth c D (tysW cI cJ cZ cO) N0 cc mL own ret nm) {x : Int64} {z : Int32} (hin : vp_in z 1) (d : decode cc pc = .ok (.lastore, 1)) (g : Go p l e R s m args below meth c D N0 mL Q (wW cI cJ cZ cO a (S) (M) (vp_updL ov z.toNatClampNeg x)) k n (pc + 1) lo (st)) : Go p l e R s m args below meth c D N0 mL Q (wW cI cJ cZ cO a S M ov) k n (pc) lo (.long x :: .int z :: .ref (a 24) :: st) := go_last C 24 1 rfl rfl hin d g
theorem l_out {own : String} (C : Cxt p s m args meth c D (tysW cI cJ cZ cO) N0 cc mL own ret nm) {z : Int32} (hin : vp_in z 1) (d : decode cc pc = .ok (.laload, 1)) (g : Go p l e R s m args below meth c D N0 mL Q (wW cI cJ cZ cO a S M ov) k n (pc + 1) lo (.long (ov z.toNatClampNeg) :: st)) : Go p l e R s m args below meth c D N0 mL Q (wW cI cJ cZ cO a S M ov) k n (pc) lo (.int z :: .ref (a 24) :: st) := go_lald C 24 1 rfl rfl hin d g
end WORLD
end
section
/-! what the class' methods do, as functions of its state (written from the landed class, branch by branch) -/
def okX (S : CS) : Prop := cs_n S ≤ 40 ∧ cs_n S ≤ cs_nc S ∧ (∀ i, i < cs_n S → cs_bk S i = some (cs_la S i)) ∧ (∀ i, i < 40 → cs_n S ≤ i → cs_bk S i = none)
def exN : Nat → String
  | 1 => nb_I
  | 2 => nb_A
  | _ => nb_S
def nb_names : List String := ["java/lang/RuntimeException", "java/lang/Exception"]
theorem nb_names_fit : ∀ n ∈ nb_names, Bundle.fit n = true := by decide +kernel
theorem mem_I : nb_I ∈ EXS := List.mem_of_getElem? (i := 0) rfl
theorem mem_A : nb_A ∈ EXS := List.mem_of_getElem? (i := 1) rfl
theorem mem_S : nb_S ∈ EXS := List.mem_of_getElem? (i := 2) rfl
theorem fit_nb_I : Bundle.fit nb_I = true := by decide +kernel
theorem fit_nb_A : Bundle.fit nb_A = true := by decide +kernel
theorem fit_nb_S : Bundle.fit nb_S = true := by decide +kernel
def demC (z : Int32) : Nat := if z < 0 then 1 else if z < 4 then 0 else 1
def demR (z lo hi : Int32) : Nat := if z < lo then 2 else if z ≤ hi then 0 else 2
def bT (r : LR) : Int32 := if lr_td r ≤ 0 then 0 else 1
def unf (r : LR) : Int32 := lr_pr r - lr_fz r
def drwC (r : LR) : Int32 := Int64.toInt32 (lr_ea r / 3650000)
def drwR (r : LR) : LR := lr_set_ea r (lr_ea r - lr_ea r / 3650000 * 3650000)
def hnm (r t : LR) : Int32 := if 0 < lg_cmp (lr_pa r * Int32.toInt64 (lr_pr t)) (lr_pa t * Int32.toInt64 (lr_pr r)) then 0 else 1
def cjn (r t : LR) : Int32 := if bT r = 0 then 0 else if bT t = 0 then 0 else if lr_cu r = lr_cu t then (if lr_en r = lr_en t then (if 0 < lg_cmp (Int32.toInt64 (lr_pr r) + Int32.toInt64 (lr_pr t)) 100000000 then 0 else 1) else 0) else 0
def xAt (S : CS) (z : Int32) : Option Nat := if z < 0 then none else if z < 40 then (if z.toNatClampNeg < cs_n S then (if lr_pr (cs_lt S z.toNatClampNeg) ≤ 0 then none else some z.toNatClampNeg) else none) else none
def xN (S : CS) (z cu : Int32) : Option Nat := match xAt S z with
  | none => none
  | some j => if bT (cs_lt S j) = 0 then (if lr_cu (cs_lt S j) = cu then some j else none) else none
/-- the lot of that number, with a notice -/
def xO (S : CS) (z : Int32) : Option Nat := match xAt S z with
  | none => none
  | some j => if lr_fz (cs_lt S j) = 0 then none else some j
theorem xAt_some {S : CS} {z : Int32} {j : Nat} (h : xAt S z = some j) : j = z.toNatClampNeg ∧ j < cs_n S ∧ ¬ z < 0 ∧ z < 40 ∧ ¬ lr_pr (cs_lt S j) ≤ 0 := by
  unfold xAt at h
  split at h
  · cases h
  · split at h
    · split at h
      · split at h
        · cases h
        · cases h
          exact ⟨rfl, by assumption, by assumption, by assumption, by assumption⟩
      · cases h
    · cases h
theorem xN_at {S : CS} {z cu : Int32} {j : Nat} (h : xN S z cu = some j) : xAt S z = some j ∧ bT (cs_lt S j) = 0 ∧ lr_cu (cs_lt S j) = cu := by
  unfold xN at h
  cases hx : xAt S z with
  | none => rw [hx] at h; cases h
  | some i =>
    rw [hx] at h
    dsimp only at h
    split at h
    · split at h
      · cases h
        exact ⟨rfl, by assumption, by assumption⟩
      · cases h
    · cases h
theorem xAt_nc {S : CS} (hok : okX S) {z : Int32} {j : Nat} (h : xAt S z = some j) : j < cs_nc S := Nat.lt_of_lt_of_le (xAt_some h).2.1 hok.2.1
theorem xN_nc {S : CS} (hok : okX S) {z cu : Int32} {j : Nat} (h : xN S z cu = some j) : j < cs_nc S := xAt_nc hok (xN_at h).1
theorem xO_at {S : CS} {z : Int32} {j : Nat} (h : xO S z = some j) : xAt S z = some j ∧ ¬ lr_fz (cs_lt S j) = 0 := by
  unfold xO at h
  cases hx : xAt S z with
  | none => rw [hx] at h; cases h
  | some i =>
    rw [hx] at h
    dsimp only at h
    split at h
    · cases h
    · cases h
      exact ⟨rfl, by assumption⟩
theorem xO_nc {S : CS} (hok : okX S) {z : Int32} {j : Nat} (h : xO S z = some j) : j < cs_nc S := xAt_nc hok (xO_at h).1
def totTo (S : CS) (cu : Int32) : Nat → Int32
  | 0 => 0
  | i + 1 => match xN S (nI i) cu with
    | none => totTo S cu i
    | some j => totTo S cu i + lr_pr (cs_lt S j)
def unfTo (S : CS) (cu : Int32) : Nat → Int32
  | 0 => 0
  | i + 1 => match xN S (nI i) cu with
    | none => unfTo S cu i
    | some j => unfTo S cu i + unf (cs_lt S j)
def lhTo (S : CS) (cu : Int32) : Nat → Option Nat
  | 0 => none
  | i + 1 => match xN S (nI i) cu with
    | none => lhTo S cu i
    | some j => if unf (cs_lt S j) ≤ 0 then lhTo S cu i else match lhTo S cu i with
      | none => some j
      | some b => if hnm (cs_lt S j) (cs_lt S b) = 0 then some b else some j
def loTo (S : CS) : Nat → Int32
  | 0 => 0
  | i + 1 => match xAt S (nI i) with
    | none => loTo S i
    | some _ => loTo S i + 1
def pbb1 (z : Int32) : Int32 := if 100000 < z then 100000 else z
def pbb2 (z : Int32) : Int32 := (if 1000000 < z then 1000000 else z) - pbb1 z
def pbb (S : CS) (z : Int32) : Int64 := Int32.toInt64 (pbb1 z) * Int32.toInt64 (cs_rates S 0) + Int32.toInt64 (pbb2 z) * Int32.toInt64 (cs_rates S 1) + Int32.toInt64 (z - pbb1 z - pbb2 z) * Int32.toInt64 (cs_rates S 2)
def rws (S : CS) (z : Int32) : Int32 := if 100000 ≤ z - 1 then (if 1000000 ≤ z - 1 then cs_rates S 2 else cs_rates S 1) else cs_rates S 0
def poc (S : CS) (fr to z : Int32) : Int64 := if cs_bb S = 0 then Int32.toInt64 (to - fr) * Int32.toInt64 (rws S z) else pbb S to - pbb S fr
def npL (S : CS) (cu : Int32) : Nat → Nat → LR
  | 0 => cs_lt S
  | i + 1 => match xN S (nI i) cu with
    | none => npL S cu i
    | some j => va_up (npL S cu i) j (lr_set_pa (npL S cu i j) (poc S (totTo S cu i) (totTo S cu i + lr_pr (cs_lt S j)) (totTo S cu (cs_n S))))
def noteX (S : CS) (cu : Int32) : CS := cs_set_lt S (npL S cu (cs_n S))
def npd (S : CS) (cu c : Int32) : CS := cs_set_paid S (if cu < 0 then cs_paid S else if 4 ≤ cu then cs_paid S else vp_updL (cs_paid S) cu.toNatClampNeg (cs_paid S cu.toNatClampNeg + Int32.toInt64 c))
def los1 (S : CS) (i : Nat) (x : Int64) : CS := cs_setLot S i (lr_set_ea (cs_lt S i) (lr_ea (cs_lt S i) - x))
def los (S : CS) (i : Nat) (x : Int64) : CS := cs_set_lost (los1 S i x) (if lr_cu (cs_lt (los1 S i x) i) < 0 then cs_lost S else if 4 ≤ lr_cu (cs_lt (los1 S i x) i) then cs_lost S else vp_updL (cs_lost S) (lr_cu (cs_lt (los1 S i x) i)).toNatClampNeg (cs_lost S (lr_cu (cs_lt (los1 S i x) i)).toNatClampNeg + x))
def drwS (S : CS) (i : Nat) : CS := cs_setLot S i (drwR (cs_lt S i))
def pinS (S : CS) (i : Nat) : CS := npd (drwS S i) (lr_cu (cs_lt (drwS S i) i)) (drwC (cs_lt S i))
def po1 (S : CS) (i : Nat) (c : Int32) : CS := cs_setLot S i (lr_set_pr (cs_lt S i) (lr_pr (cs_lt S i) - c))
def po2 (S : CS) (i : Nat) (c : Int32) : CS := npd (po1 S i c) (lr_cu (cs_lt (po1 S i c) i)) c
def poC (S : CS) (i : Nat) (c : Int32) : Int32 := if lr_pr (cs_lt (po2 S i c) i) ≤ 0 then c + drwC (cs_lt (po2 S i c) i) else c
/-- one state or the other, as far as sums and lots go -/
abbrev mixS (c : Prop) [Decidable c] (S A B : CS) : CS := cs_set_lt (cs_set_paid (cs_set_lost S (if c then cs_lost A else cs_lost B)) (if c then cs_paid A else cs_paid B)) (if c then cs_lt A else cs_lt B)
def poS (S : CS) (i : Nat) (c : Int32) : CS := mixS (lr_pr (cs_lt (po2 S i c) i) ≤ 0) S (los (pinS (po2 S i c) i) i (lr_ea (cs_lt (pinS (po2 S i c) i) i))) (po2 S i c)
def lbe (r : LR) (c : Int32) : Int64 := if 0 < lr_pr r then (if lr_ea r < 30 * lr_pa r * Int32.toInt64 c / Int32.toInt64 (lr_pr r) then lr_ea r else 30 * lr_pa r * Int32.toInt64 c / Int32.toInt64 (lr_pr r)) else 0
def bgt1 (S : CS) (i : Nat) : CS := cs_setLot S i (lr_set_pa (cs_lt S i) (Int32.toInt64 (lr_pr (cs_lt S i)) * Int32.toInt64 (cs_tr S)))
def bgt (S : CS) (i : Nat) : CS := cs_setLot (bgt1 S i) i (lr_set_en (cs_lt (bgt1 S i) i) (cs_day (bgt1 S i) + lr_td (cs_lt (bgt1 S i) i)))
def entS (S : CS) (i : Nat) : CS := cs_set_n (cs_set_bk S (va_up (cs_bk S) (cs_n S) (some (cs_la S i)))) (cs_n S + 1)
def eoL (S : CS) : Nat → Nat → LR
  | 0 => cs_lt S
  | i + 1 => match xAt S (nI i) with
    | none => eoL S i
    | some j => va_up (eoL S i) j (lr_set_ea (eoL S i j) (lr_ea (eoL S i j) + lr_pa (eoL S i j)))
def eoX (S : CS) : CS := cs_set_lt S (eoL S (cs_n S))
def et1 (S : CS) (i : Nat) : CS := cs_setLot S i (lr_set_pr (drwR (cs_lt S i)) (lr_pr (cs_lt S i) + drwC (cs_lt S i)))
def et2 (S : CS) (i : Nat) : CS := cs_setLot S i (lr_set_rn (cs_lt S i) (cs_day S))
def etX (S : CS) (i : Nat) : CS := mixS (lr_ins (cs_lt S i) = 0) S (poS S i (lr_pr (cs_lt S i))) (mixS (lr_ins (cs_lt S i) = 1) S (et2 (bgt (pinS S i) i) i) (et2 (bgt (et1 S i) i) i))
def bd1 (S : CS) (j : Nat) : CS := cs_set_lt S (if cs_day S < lr_tf (cs_lt S j) + 7 then cs_lt S else va_up (cs_lt S) j (lr_set_fz (cs_lt S j) 0))
def bdC1 (S : CS) (j : Nat) : Int32 := if lr_en (cs_lt (bd1 S j) j) = cs_day (bd1 S j) then 1 else 0
def bdS1 (S : CS) (j : Nat) : CS := mixS (lr_en (cs_lt (bd1 S j) j) = cs_day (bd1 S j)) S (etX (bd1 S j) j) (bd1 S j)
def bdTo (S : CS) : Nat → Int32 × CS
  | 0 => (0, S)
  | i + 1 => match xAt (bdTo S i).2 (nI i) with
    | none => bdTo S i
    | some j => ((if lr_en (cs_lt (bd1 (bdTo S i).2 j) j) = cs_day (bd1 (bdTo S i).2 j) then (bdTo S i).1 + 1 else (bdTo S i).1), bdS1 (bdTo S i).2 j)
theorem hat_nb_I_44 : ∀ w9 ∈ (vx_atS RX1 44 nb_I nb_names).filter goodWord, w9 ∈ BIG := fun w h => List.mem_filter.mpr ⟨(show ∀ w9 ∈ (vx_atS RX1 44 nb_I nb_names).filter goodWord, w9 ∈ lw_tbl by decide +kernel) w h, (List.mem_filter.mp h).2⟩
theorem hat_nb_A_146 : ∀ w9 ∈ (vx_atS RX1 146 nb_A nb_names).filter goodWord, w9 ∈ BIG := fun w h => List.mem_filter.mpr ⟨(show ∀ w9 ∈ (vx_atS RX1 146 nb_A nb_names).filter goodWord, w9 ∈ lw_tbl by decide +kernel) w h, (List.mem_filter.mp h).2⟩
theorem hat_nb_S_87 : ∀ w9 ∈ (vx_atS RX1 87 nb_S nb_names).filter goodWord, w9 ∈ BIG := fun w h => List.mem_filter.mpr ⟨(show ∀ w9 ∈ (vx_atS RX1 87 nb_S nb_names).filter goodWord, w9 ∈ lw_tbl by decide +kernel) w h, (List.mem_filter.mp h).2⟩
theorem hat2_nb_I_44 : ∀ w9 ∈ (vx_atS RX1 44 nb_I nb_names).filter (fun w => !goodWord w), w9 ∈ Cond.castable nb_I nb_I :: SUPS.map (fun Z => Cond.declares (Bundle.initS Z)) := by decide +kernel
theorem hat2_nb_A_146 : ∀ w9 ∈ (vx_atS RX1 146 nb_A nb_names).filter (fun w => !goodWord w), w9 ∈ Cond.castable nb_A nb_A :: SUPS.map (fun Z => Cond.declares (Bundle.initS Z)) := by decide +kernel
theorem hat2_nb_S_87 : ∀ w9 ∈ (vx_atS RX1 87 nb_S nb_names).filter (fun w => !goodWord w), w9 ∈ Cond.castable nb_S nb_S :: SUPS.map (fun Z => Cond.declares (Bundle.initS Z)) := by decide +kernel
theorem hgood_nb_I_40_44 : ∀ w9 ∈ Cond.classLink RX1 40 nb_I :: Cond.initialized nb_I :: vx_atS RX1 44 nb_I nb_names, vx_ot w9 = true := by decide +kernel
theorem hgood_nb_A_142_146 : ∀ w9 ∈ Cond.classLink RX1 142 nb_A :: Cond.initialized nb_A :: vx_atS RX1 146 nb_A nb_names, vx_ot w9 = true := by decide +kernel
theorem hgood_nb_S_83_87 : ∀ w9 ∈ Cond.classLink RX1 83 nb_S :: Cond.initialized nb_S :: vx_atS RX1 87 nb_S nb_names, vx_ot w9 = true := by decide +kernel
end
section
/-! steps of the functions of 20.pure, and facts that the walks ask -/
theorem i_lt (a b : Int32) : a < b ↔ a.toInt < b.toInt := Int32.lt_iff_toInt_lt
theorem i_le (a b : Int32) : a ≤ b ↔ a.toInt ≤ b.toInt := Int32.le_iff_toInt_le
theorem vin_lt {z : Int32} {n : Nat} (h0 : ¬ z < 0) (h1 : z < nI n) (hn : n < 2 ^ 31) : vp_in z n := by
  rw [vp_in_iff]
  rw [i_lt] at h0 h1
  rw [nI_toInt hn] at h1
  have : (0 : Int32).toInt = 0 := rfl
  omega
theorem vin_nle {z : Int32} {n : Nat} (h0 : ¬ z < 0) (h1 : ¬ nI n ≤ z) (hn : n < 2 ^ 31) : vp_in z n := by
  refine vin_lt h0 ?_ hn
  rw [i_le] at h1
  rw [i_lt]
  omega
theorem vin_0_3 : vp_in 0 3 := vp_in_nI (n := 0) (by decide) (by decide)
theorem vin_1_3 : vp_in 1 3 := vp_in_nI (n := 1) (by decide) (by decide)
theorem vin_2_3 : vp_in 2 3 := vp_in_nI (n := 2) (by decide) (by decide)
theorem vin_0_1 : vp_in 0 1 := vp_in_nI (n := 0) (by decide) (by decide)
theorem vin_cl {z : Int32} (h0 : ¬ z < 0) (h1 : z < 40) : z.toNatClampNeg < 40 := Nat.not_le.mp fun q => (vin_lt (n := 40) h0 h1 (by decide)) (Or.inr q)
theorem opt_c {α : Type} (o : Option α) : o = none ∨ ∃ j, o = some j := by
  cases o with
  | none => exact Or.inl rfl
  | some j => exact Or.inr ⟨j, rfl⟩
theorem nz_of {z : Int32} (h : 0 < z) : ¬ Int32.toInt64 z = 0 := fun e => by
  have h1 : (Int32.toInt64 z).toInt = z.toInt := Int32.toInt_toInt64 z
  rw [e] at h1
  rw [i_lt] at h
  have h2 : (0 : Int64).toInt = 0 := rfl
  have h3 : (0 : Int32).toInt = 0 := rfl
  omega
theorem cl_nI {i : Nat} (h : i < 2 ^ 31) : (nI i).toNatClampNeg = i := nI_clamp h
theorem setLot_two (S : CS) (i : Nat) (r r2 : LR) : cs_setLot (cs_setLot S i r) i r2 = cs_setLot S i r2 := by
  show cs_set_lt S (va_up (va_up (cs_lt S) i r) i r2) = cs_set_lt S (va_up (cs_lt S) i r2)
  rw [show va_up (va_up (cs_lt S) i r) i r2 = va_up (cs_lt S) i r2 from funext fun j => by by_cases h : j = i <;> simp [va_up, h]]
theorem setLot_lt (S : CS) (i : Nat) (r : LR) : cs_lt (cs_setLot S i r) i = r := va_up_self _ _ _
theorem setLot_ne (S : CS) {i j : Nat} (r : LR) (h : j ≠ i) : cs_lt (cs_setLot S i r) j = cs_lt S j := va_up_ne _ _ h
def zLR : LR := (0, 0, 0, 0, 0, 0, 0, 0, 0, 0)
def nw1 (S : CS) (q : Nat) : CS := cs_set_nc (cs_set_la (cs_setLot S (cs_nc S) zLR) (va_up (cs_la S) (cs_nc S) q)) (cs_nc S + 1)
theorem nw1_la (S : CS) (q : Nat) : cs_la (nw1 S q) (cs_nc S) = q := va_up_self _ _ _
theorem nw1_hi (S : CS) (q : Nat) : cs_nc S < cs_nc (nw1 S q) := Nat.lt_succ_self _
def iniR (cu pr td : Int32) : LR := (cu, td, pr, 0, 0, 0, 0, -1, 0, -1)
def iniS (S : CS) (i : Nat) (cu pr td : Int32) : CS := cs_setLot S i (iniR cu pr td)
theorem nI_lt40 {n : Nat} (h : n < 40) : nI n < 40 := show nI n < nI 40 from nI_lt h (by decide)
theorem nI_nlt40 {n : Nat} (h : 40 ≤ n) (h2 : n ≤ 40) : ¬ nI n < 40 := show ¬ nI n < nI 40 from nI_nlt h (by omega)
theorem nI_npos {n : Nat} (h : n ≤ 40) : ¬ nI n < 0 := nI_pos (by omega)
theorem nI_vin {n : Nat} (h : n < 40) : vp_in (nI n) 40 := vp_in_nI h (by decide)
theorem nI_nge {i n : Nat} (h : i < n) (hn : n ≤ 40) : ¬ nI n ≤ nI i := nI_ge h (by omega)
theorem nI_ger {n : Nat} (hn : n ≤ 40) : nI n ≤ nI n := nI_le (Nat.le_refl n) (by omega)
section STEPS
variable {S : CS} {cu : Int32} {i j b : Nat}
theorem totTo_n (h : xN S (nI i) cu = none) : totTo S cu (i + 1) = totTo S cu i := by rw [totTo, h]
theorem totTo_s (h : xN S (nI i) cu = some j) : totTo S cu (i + 1) = totTo S cu i + lr_pr (cs_lt S j) := by rw [totTo, h]
theorem unfTo_n (h : xN S (nI i) cu = none) : unfTo S cu (i + 1) = unfTo S cu i := by rw [unfTo, h]
theorem unfTo_s (h : xN S (nI i) cu = some j) : unfTo S cu (i + 1) = unfTo S cu i + unf (cs_lt S j) := by rw [unfTo, h]
theorem lhTo_n (h : xN S (nI i) cu = none) : lhTo S cu (i + 1) = lhTo S cu i := by rw [lhTo, h]
theorem lhTo_s0 (h : xN S (nI i) cu = some j) (c : unf (cs_lt S j) ≤ 0) : lhTo S cu (i + 1) = lhTo S cu i := by rw [lhTo, h]; dsimp only; rw [if_pos c]
theorem lhTo_s1 (h : xN S (nI i) cu = some j) (c : ¬ unf (cs_lt S j) ≤ 0) (g : lhTo S cu i = none) : lhTo S cu (i + 1) = some j := by rw [lhTo, h]; dsimp only; rw [if_neg c, g]
theorem lhTo_s2 (h : xN S (nI i) cu = some j) (c : ¬ unf (cs_lt S j) ≤ 0) (g : lhTo S cu i = some b) (k : hnm (cs_lt S j) (cs_lt S b) = 0) : lhTo S cu (i + 1) = some b := by rw [lhTo, h]; dsimp only; rw [if_neg c, g]; dsimp only; rw [if_pos k]
theorem lhTo_s3 (h : xN S (nI i) cu = some j) (c : ¬ unf (cs_lt S j) ≤ 0) (g : lhTo S cu i = some b) (k : ¬ hnm (cs_lt S j) (cs_lt S b) = 0) : lhTo S cu (i + 1) = some j := by rw [lhTo, h]; dsimp only; rw [if_neg c, g]; dsimp only; rw [if_neg k]
theorem loTo_n (h : xAt S (nI i) = none) : loTo S (i + 1) = loTo S i := by rw [loTo, h]
theorem loTo_s (h : xAt S (nI i) = some j) : loTo S (i + 1) = loTo S i + 1 := by rw [loTo, h]
theorem npL_n (h : xN S (nI i) cu = none) : npL S cu (i + 1) = npL S cu i := by rw [npL, h]
theorem npL_s (h : xN S (nI i) cu = some j) : npL S cu (i + 1) = va_up (npL S cu i) j (lr_set_pa (npL S cu i j) (poc S (totTo S cu i) (totTo S cu i + lr_pr (cs_lt S j)) (totTo S cu (cs_n S)))) := by rw [npL, h]
theorem eoL_n (h : xAt S (nI i) = none) : eoL S (i + 1) = eoL S i := by rw [eoL, h]
theorem eoL_s (h : xAt S (nI i) = some j) : eoL S (i + 1) = va_up (eoL S i) j (lr_set_ea (eoL S i j) (lr_ea (eoL S i j) + lr_pa (eoL S i j))) := by rw [eoL, h]
/-- the walks that note or earn change one field alone -/
theorem npL_f (S : CS) (cu : Int32) : ∀ (i q : Nat), ∃ v, npL S cu i q = lr_set_pa (cs_lt S q) v
  | 0, q => ⟨lr_pa (cs_lt S q), rfl⟩
  | i + 1, q => by
    cases h : xN S (nI i) cu with
    | none => rw [npL_n h]; exact npL_f S cu i q
    | some j =>
      rw [npL_s h]
      by_cases hq : q = j
      · subst hq
        obtain ⟨v, hv⟩ := npL_f S cu i q
        rw [va_up_self, hv]
        exact ⟨_, rfl⟩
      · rw [va_up_ne _ _ hq]; exact npL_f S cu i q
theorem eoL_f (S : CS) : ∀ (i q : Nat), ∃ v, eoL S i q = lr_set_ea (cs_lt S q) v
  | 0, q => ⟨lr_ea (cs_lt S q), rfl⟩
  | i + 1, q => by
    cases h : xAt S (nI i) with
    | none => rw [eoL_n h]; exact eoL_f S i q
    | some j =>
      rw [eoL_s h]
      by_cases hq : q = j
      · subst hq
        obtain ⟨v, hv⟩ := eoL_f S i q
        rw [va_up_self, hv]
        exact ⟨_, rfl⟩
      · rw [va_up_ne _ _ hq]; exact eoL_f S i q
theorem xAt_np (z : Int32) : xAt (cs_set_lt S (npL S cu i)) z = xAt S z := by
  obtain ⟨v, hv⟩ := npL_f S cu i z.toNatClampNeg
  show (if z < 0 then none else if z < 40 then (if z.toNatClampNeg < cs_n S then (if lr_pr (npL S cu i z.toNatClampNeg) ≤ 0 then none else some z.toNatClampNeg) else none) else none) = _
  rw [hv]
  rfl
theorem xN_np (z u : Int32) : xN (cs_set_lt S (npL S cu i)) z u = xN S z u := by
  unfold xN
  rw [xAt_np]
  cases xAt S z with
  | none => rfl
  | some q =>
    obtain ⟨v, hv⟩ := npL_f S cu i q
    show (if bT (npL S cu i q) = 0 then (if lr_cu (npL S cu i q) = u then some q else none) else none) = _
    rw [hv]
    rfl
theorem pr_np (q : Nat) : lr_pr (npL S cu i q) = lr_pr (cs_lt S q) := by
  obtain ⟨v, hv⟩ := npL_f S cu i q
  rw [hv]
theorem xAt_eo (z : Int32) : xAt (cs_set_lt S (eoL S i)) z = xAt S z := by
  obtain ⟨v, hv⟩ := eoL_f S i z.toNatClampNeg
  show (if z < 0 then none else if z < 40 then (if z.toNatClampNeg < cs_n S then (if lr_pr (eoL S i z.toNatClampNeg) ≤ 0 then none else some z.toNatClampNeg) else none) else none) = _
  rw [hv]
  rfl
end STEPS
/-- what the bookkeeping of lots' numbers and addresses rests on -/
def fixd (S T : CS) : Prop := cs_n T = cs_n S ∧ cs_bk T = cs_bk S ∧ cs_nc T = cs_nc S ∧ cs_la T = cs_la S
theorem fixd.rf (S : CS) : fixd S S := ⟨rfl, rfl, rfl, rfl⟩
theorem fixd.tr {S T U : CS} (h : fixd S T) (g : fixd T U) : fixd S U := ⟨g.1.trans h.1, g.2.1.trans h.2.1, g.2.2.1.trans h.2.2.1, g.2.2.2.trans h.2.2.2⟩
theorem fixd.ok {S T : CS} (h : fixd S T) (hok : okX S) : okX T := by
  obtain ⟨h1, h2, h3, h4⟩ := h
  unfold okX
  rw [h1, h2, h3, h4]
  exact hok
theorem mixS_pos {c : Prop} [Decidable c] {S A B : CS} (h : c) (hA : mixS True S A A = A) : mixS c S A B = A := by
  rw [← hA]
  simp only [mixS, if_pos h, if_true]
theorem mixS_neg {c : Prop} [Decidable c] {S A B : CS} (h : ¬ c) (hB : mixS True S B B = B) : mixS c S A B = B := by
  rw [← hB]
  simp only [mixS, if_neg h, if_true]
theorem fx_npd (S : CS) (cu c : Int32) : fixd S (npd S cu c) := ⟨rfl, rfl, rfl, rfl⟩
theorem fx_los (S : CS) (i : Nat) (x : Int64) : fixd S (los S i x) := ⟨rfl, rfl, rfl, rfl⟩
theorem fx_pinS (S : CS) (i : Nat) : fixd S (pinS S i) := ⟨rfl, rfl, rfl, rfl⟩
theorem fx_poS (S : CS) (i : Nat) (c : Int32) : fixd S (poS S i c) := ⟨rfl, rfl, rfl, rfl⟩
theorem fx_bgt (S : CS) (i : Nat) : fixd S (bgt S i) := ⟨rfl, rfl, rfl, rfl⟩
theorem fx_etX (S : CS) (i : Nat) : fixd S (etX S i) := ⟨rfl, rfl, rfl, rfl⟩
theorem fx_bd1 (S : CS) (j : Nat) : fixd S (bd1 S j) := ⟨rfl, rfl, rfl, rfl⟩
theorem fx_bdS1 (S : CS) (j : Nat) : fixd S (bdS1 S j) := ⟨rfl, rfl, rfl, rfl⟩
theorem fx_bd (S : CS) : ∀ i, fixd S (bdTo S i).2
  | 0 => fixd.rf S
  | i + 1 => by
    rw [bdTo]
    cases xAt (bdTo S i).2 (nI i) with
    | none => exact fx_bd S i
    | some j => exact (fx_bd S i).tr (fx_bdS1 _ j)
theorem bdTo_n {S : CS} {i : Nat} (h : xAt (bdTo S i).2 (nI i) = none) : bdTo S (i + 1) = bdTo S i := by rw [bdTo, h]
theorem bdTo_s {S : CS} {i j : Nat} (h : xAt (bdTo S i).2 (nI i) = some j) : bdTo S (i + 1) = ((if lr_en (cs_lt (bd1 (bdTo S i).2 j) j) = cs_day (bd1 (bdTo S i).2 j) then (bdTo S i).1 + 1 else (bdTo S i).1), bdS1 (bdTo S i).2 j) := by rw [bdTo, h]
end
section
set_option maxHeartbeats 4000000 in
set_option maxRecDepth 100000 in
theorem c_X0_isByTerm (l : Launch) (D : va_G) (cI cJ cZ cO : ClassId) (N0 : Nat) (a : Nat → Nat) (S : CS) (M : MS) (ov : Nat → Int64) (i : Nat) (hi : i < cs_nc S) : Ct l D (tysW cI cJ cZ cO) N0 yX0_isByTerm cX0_isByTerm 1 (some .boolean) { frames := 0, cells := 0, slots := 0, locals := 0 } [.ref (cs_la S i)] (wW cI cJ cZ cO a S M ov) (fun r w2 => r = some (.int (bT (cs_lt S i))) ∧ w2 = wW cI cJ cZ cO a S M ov) := by
  refine ct_of (by decide +kernel) (Nat.le_of_ble_eq_true rfl) ?_
  intro p e s m args below meth c C
  have C : Cxt p s m args meth c D (tysW cI cJ cZ cO) N0 cX0_isByTerm 1 RX0 (some .boolean) "isByTerm" := C
  refine go_aload_n C 0 dX0_isByTerm_0 rfl rfl ?_
  refine gl0_termDays C (S := S) (i := i) hi dX0_isByTerm_1 ?_
  refine go_if_le C (tgt := 11) dX0_isByTerm_4 (by decide) (fun c_1 => ?_) (fun c_1 => ?_)
  · refine go_iconst C (v := 0) dX0_isByTerm_11 (by decide) ?_
    exact go_zreturn C rfl rfl dX0_isByTerm_12 (by decide) (by decide) ⟨by simp only [bT, if_pos c_1], rfl⟩
  · refine go_iconst C (v := 1) dX0_isByTerm_7 (by decide) ?_
    refine go_goto C (tgt := 12) dX0_isByTerm_8 (by decide) ?_
    exact go_zreturn C rfl rfl dX0_isByTerm_12 (by decide) (by decide) ⟨by simp only [bT, if_neg c_1], rfl⟩
theorem k_RX1_76 {p : Program} {l : Launch} {e : Env} {R : Room} {s : State} {m : MethodId} {args : Array Value} {below : List Frame} {meth : Method} {c : Code} {D : va_G} {N0 mL : Nat} {cc : ByteArray} {nm : String} {ret : Option FieldType} {Q : State → Prop} {k n pc : Nat} {lo : List (Nat × Value)} {st : List Value} {cI cJ cZ cO : ClassId} {a : Nat → Nat} (C : Cxt p s m args meth c D (tysW cI cJ cZ cO) N0 cc mL RX1 ret nm) (S : CS) (M : MS) (ov : Nat → Int64) (i : Nat) (hi : i < cs_nc S) (hR : 0 + 1 ≤ R.frames ∧ 8 + (1 + 11) + 0 ≤ R.locals) (hcs : k + 0 ≤ R.cells ∧ n + 0 ≤ R.slots) (hcat : (st.map fun v => v.category).sum ≤ 8) (d : decode cc pc = .ok (.invokevirtual 76, 3)) (g : Go p l e R s m args below meth c D N0 mL Q (wW cI cJ cZ cO a S M ov) (k) (n) (pc + 3) lo (.int (bT (cs_lt S i)) :: st)) : Go p l e R s m args below meth c D N0 mL Q (wW cI cJ cZ cO a S M ov) k n pc lo (.ref (cs_la S i) :: st) :=
  go_callVN C (ci := 0) (r9 := (RX0, TX0, 10)) (qi := 25 + i) (As := []) (rest := st) (w_lot hi) rfl (c_X0_isByTerm l D cI cJ cZ cO N0 a S M ov i hi) (host := RX1) ⟨rfl, by decide +kernel, by decide +kernel⟩ (List.mem_of_getElem? (i := 11) rfl) bi_yX0_isByTerm bs_yX0_isByTerm bz_NoticeBook_Lot bc_yX0_isByTerm (show Option.map (fun d => d.parameters.length) (parseMethodDescriptor yX0_isByTerm.desc) = some 0 by decide +kernel) hR hcs hcat d (fun r w2 h => by obtain ⟨rfl, rfl⟩ := h; exact g) rfl
set_option maxHeartbeats 4000000 in
set_option maxRecDepth 100000 in
theorem c_X0_unfrozen (l : Launch) (D : va_G) (cI cJ cZ cO : ClassId) (N0 : Nat) (a : Nat → Nat) (S : CS) (M : MS) (ov : Nat → Int64) (i : Nat) (hi : i < cs_nc S) : Ct l D (tysW cI cJ cZ cO) N0 yX0_unfrozen cX0_unfrozen 1 (some .int) { frames := 0, cells := 0, slots := 0, locals := 0 } [.ref (cs_la S i)] (wW cI cJ cZ cO a S M ov) (fun r w2 => r = some (.int (unf (cs_lt S i))) ∧ w2 = wW cI cJ cZ cO a S M ov) := by
  refine ct_of (by decide +kernel) (Nat.le_of_ble_eq_true rfl) ?_
  intro p e s m args below meth c C
  have C : Cxt p s m args meth c D (tysW cI cJ cZ cO) N0 cX0_unfrozen 1 RX0 (some .int) "unfrozen" := C
  refine go_aload_n C 0 dX0_unfrozen_0 rfl rfl ?_
  refine gl0_principal C (S := S) (i := i) hi dX0_unfrozen_1 ?_
  refine go_aload_n C 0 dX0_unfrozen_4 rfl rfl ?_
  refine gl0_frozenCents C (S := S) (i := i) hi dX0_unfrozen_5 ?_
  refine go_isub C dX0_unfrozen_8 ?_
  exact go_ireturn C rfl dX0_unfrozen_9 (by decide) (by decide) ⟨rfl, rfl⟩
theorem k_RX1_113 {p : Program} {l : Launch} {e : Env} {R : Room} {s : State} {m : MethodId} {args : Array Value} {below : List Frame} {meth : Method} {c : Code} {D : va_G} {N0 mL : Nat} {cc : ByteArray} {nm : String} {ret : Option FieldType} {Q : State → Prop} {k n pc : Nat} {lo : List (Nat × Value)} {st : List Value} {cI cJ cZ cO : ClassId} {a : Nat → Nat} (C : Cxt p s m args meth c D (tysW cI cJ cZ cO) N0 cc mL RX1 ret nm) (S : CS) (M : MS) (ov : Nat → Int64) (i : Nat) (hi : i < cs_nc S) (hR : 0 + 1 ≤ R.frames ∧ 8 + (1 + 11) + 0 ≤ R.locals) (hcs : k + 0 ≤ R.cells ∧ n + 0 ≤ R.slots) (hcat : (st.map fun v => v.category).sum ≤ 8) (d : decode cc pc = .ok (.invokevirtual 113, 3)) (g : Go p l e R s m args below meth c D N0 mL Q (wW cI cJ cZ cO a S M ov) (k) (n) (pc + 3) lo (.int (unf (cs_lt S i)) :: st)) : Go p l e R s m args below meth c D N0 mL Q (wW cI cJ cZ cO a S M ov) k n pc lo (.ref (cs_la S i) :: st) :=
  go_callVN C (ci := 0) (r9 := (RX0, TX0, 10)) (qi := 25 + i) (As := []) (rest := st) (w_lot hi) rfl (c_X0_unfrozen l D cI cJ cZ cO N0 a S M ov i hi) (host := RX1) ⟨rfl, by decide +kernel, by decide +kernel⟩ (List.mem_of_getElem? (i := 13) rfl) bi_yX0_unfrozen bs_yX0_unfrozen bz_NoticeBook_Lot bc_yX0_unfrozen (show Option.map (fun d => d.parameters.length) (parseMethodDescriptor yX0_unfrozen.desc) = some 0 by decide +kernel) hR hcs hcat d (fun r w2 h => by obtain ⟨rfl, rfl⟩ := h; exact g) rfl
set_option maxHeartbeats 4000000 in
set_option maxRecDepth 100000 in
theorem c_X0_drawWholeCents (l : Launch) (D : va_G) (cI cJ cZ cO : ClassId) (N0 : Nat) (a : Nat → Nat) (S : CS) (M : MS) (ov : Nat → Int64) (i : Nat) (hi : i < cs_nc S) : Ct l D (tysW cI cJ cZ cO) N0 yX0_drawWholeCents cX0_drawWholeCents 2 (some .int) { frames := 0, cells := 0, slots := 0, locals := 0 } [.ref (cs_la S i)] (wW cI cJ cZ cO a S M ov) (fun r w2 => r = some (.int (drwC (cs_lt S i))) ∧ w2 = wW cI cJ cZ cO a (drwS S i) M ov) := by
  refine ct_of (by decide +kernel) (Nat.le_of_ble_eq_true rfl) ?_
  intro p e s m args below meth c C
  have C : Cxt p s m args meth c D (tysW cI cJ cZ cO) N0 cX0_drawWholeCents 2 RX0 (some .int) "drawWholeCents" := C
  refine go_aload_n C 0 dX0_drawWholeCents_0 rfl rfl ?_
  refine gl0_earned C (S := S) (i := i) hi dX0_drawWholeCents_1 ?_
  refine go_ldc2 C bk_RX0_43 dX0_drawWholeCents_4 ?_
  refine go_ldiv C dX0_drawWholeCents_7 (by decide) ?_
  refine go_l2i C dX0_drawWholeCents_8 ?_
  refine go_istore_n C (lo' := [(1, .int (Int64.toInt32 ((lr_ea (cs_lt S i)) / 3650000))), (0, .ref (cs_la S i))]) dX0_drawWholeCents_9 rfl (by decide) rfl ?_
  refine go_aload_n C 1 dX0_drawWholeCents_10 rfl rfl ?_
  refine go_aload_n C 1 dX0_drawWholeCents_11 rfl rfl ?_
  refine gl0_earned C (S := S) (i := i) hi dX0_drawWholeCents_12 ?_
  refine go_ldc2 C bk_RX0_43 dX0_drawWholeCents_15 ?_
  refine go_lrem C dX0_drawWholeCents_18 (by decide) ?_
  refine pl0_earned C (S := S) (i := i) hi dX0_drawWholeCents_19 ?_
  refine go_iload_n C 0 dX0_drawWholeCents_22 rfl rfl ?_
  exact go_ireturn C rfl dX0_drawWholeCents_23 (by decide) (by decide) ⟨rfl, rfl⟩
theorem k_RX1_213 {p : Program} {l : Launch} {e : Env} {R : Room} {s : State} {m : MethodId} {args : Array Value} {below : List Frame} {meth : Method} {c : Code} {D : va_G} {N0 mL : Nat} {cc : ByteArray} {nm : String} {ret : Option FieldType} {Q : State → Prop} {k n pc : Nat} {lo : List (Nat × Value)} {st : List Value} {cI cJ cZ cO : ClassId} {a : Nat → Nat} (C : Cxt p s m args meth c D (tysW cI cJ cZ cO) N0 cc mL RX1 ret nm) (S : CS) (M : MS) (ov : Nat → Int64) (i : Nat) (hi : i < cs_nc S) (hR : 0 + 1 ≤ R.frames ∧ 8 + (2 + 11) + 0 ≤ R.locals) (hcs : k + 0 ≤ R.cells ∧ n + 0 ≤ R.slots) (hcat : (st.map fun v => v.category).sum ≤ 8) (d : decode cc pc = .ok (.invokevirtual 213, 3)) (g : Go p l e R s m args below meth c D N0 mL Q (wW cI cJ cZ cO a (drwS S i) M ov) (k) (n) (pc + 3) lo (.int (drwC (cs_lt S i)) :: st)) : Go p l e R s m args below meth c D N0 mL Q (wW cI cJ cZ cO a S M ov) k n pc lo (.ref (cs_la S i) :: st) :=
  go_callVN C (ci := 0) (r9 := (RX0, TX0, 10)) (qi := 25 + i) (As := []) (rest := st) (w_lot hi) rfl (c_X0_drawWholeCents l D cI cJ cZ cO N0 a S M ov i hi) (host := RX1) ⟨rfl, by decide +kernel, by decide +kernel⟩ (List.mem_of_getElem? (i := 12) rfl) bi_yX0_drawWholeCents bs_yX0_drawWholeCents bz_NoticeBook_Lot bc_yX0_drawWholeCents (show Option.map (fun d => d.parameters.length) (parseMethodDescriptor yX0_drawWholeCents.desc) = some 0 by decide +kernel) hR hcs hcat d (fun r w2 h => by obtain ⟨rfl, rfl⟩ := h; exact g) rfl
end
section
set_option maxHeartbeats 4000000 in
set_option maxRecDepth 100000 in
theorem c_X1_demandCustomer (l : Launch) (hlf : l.stackTraces = false) (D : va_G) (cI cJ cZ cO : ClassId) (N0 : Nat) (a : Nat → Nat) (S : CS) (M : MS) (ov : Nat → Int64) (z : Int32)  : CtX l D (tysW cI cJ cZ cO) N0 yX1_demandCustomer cX1_demandCustomer 1 none { frames := 6, cells := 1, slots := 6, locals := 82 } [.int z] (wW cI cJ cZ cO a S M ov) (fun r w2 => demC z = 0 ∧ r = none ∧ w2 = wW cI cJ cZ cO a S M ov) (fun E w2 => (E = nb_I ∧ demC z = 1) ∧ w2 = wW cI cJ cZ cO a S M ov) := by
  refine ctx_of (by decide +kernel) (Nat.le_of_ble_eq_true rfl) ?_
  intro p e s m args below meth c C ht
  have C : Cxt p s m args meth c D (tysW cI cJ cZ cO) N0 cX1_demandCustomer 1 RX1 none "demandCustomer" := C
  refine go_iload_n C 0 dX1_demandCustomer_0 rfl rfl ?_
  refine go_if_lt C (tgt := 9) dX1_demandCustomer_1 (by decide) (fun c_1 => ?_) (fun c_1 => ?_)
  · exact go_throw C hlf ht (names := nb_names) (text := "no such customer") rfl mem_I fit_nb_I nb_names_fit bcl_RX1_40 bz_IndexOutOfBoundsException (List.mem_of_getElem? (i := 2) rfl) hat_nb_I_44 hat2_nb_I_44 hgood_nb_I_40_44 dX1_demandCustomer_9 dX1_demandCustomer_12 dX1_demandCustomer_13 dX1_demandCustomer_15 dX1_demandCustomer_18 (by decide) (by decide) (by decide) (by decide) ⟨⟨rfl, by simp only [demC, if_pos c_1]⟩, rfl⟩ (by decide) (by decide)
  · refine go_iload_n C 0 dX1_demandCustomer_4 rfl rfl ?_
    refine go_iconst C (v := 4) dX1_demandCustomer_5 (by decide) ?_
    refine go_icmp_lt C (tgt := 19) dX1_demandCustomer_6 (by decide) (fun c_2 => ?_) (fun c_2 => ?_)
    · exact go_x (go_return C rfl dX1_demandCustomer_19 (by decide) (by decide) ⟨by simp only [demC, if_neg c_1, if_pos c_2], rfl, rfl⟩)
    · exact go_throw C hlf ht (names := nb_names) (text := "no such customer") rfl mem_I fit_nb_I nb_names_fit bcl_RX1_40 bz_IndexOutOfBoundsException (List.mem_of_getElem? (i := 2) rfl) hat_nb_I_44 hat2_nb_I_44 hgood_nb_I_40_44 dX1_demandCustomer_9 dX1_demandCustomer_12 dX1_demandCustomer_13 dX1_demandCustomer_15 dX1_demandCustomer_18 (by decide) (by decide) (by decide) (by decide) ⟨⟨rfl, by simp only [demC, if_neg c_1, if_neg c_2]⟩, rfl⟩ (by decide) (by decide)
theorem k_RX1_51 {p : Program} {l : Launch} {e : Env} {R : Room} {s : State} {m : MethodId} {args : Array Value} {below : List Frame} {meth : Method} {c : Code} {D : va_G} {N0 mL : Nat} {cc : ByteArray} {nm : String} {ret : Option FieldType} {Q : State → Prop} {k n pc : Nat} {lo : List (Nat × Value)} {st : List Value} {cI cJ cZ cO : ClassId} {a : Nat → Nat} (C : Cxt p s m args meth c D (tysW cI cJ cZ cO) N0 cc mL RX1 ret nm) (hlf : l.stackTraces = false) (S : CS) (M : MS) (ov : Nat → Int64) (z : Int32)  (hR : 6 + 1 ≤ R.frames ∧ 8 + (1 + 11) + 82 ≤ R.locals) (hcs : k + 1 ≤ R.cells ∧ n + 6 ≤ R.slots) (hcat : (st.map fun v => v.category).sum ≤ 8) (d : decode cc pc = .ok (.invokestatic 51, 3)) (gx : ∀ E : String, (E = nb_I ∧ demC z = 1) → GoX p l e R s m args below meth c D N0 mL Q (wW cI cJ cZ cO a S M ov) (k + 1) (n + 6) pc lo E) (g : (demC z = 0) → Go p l e R s m args below meth c D N0 mL Q (wW cI cJ cZ cO a S M ov) (k + 1) (n + 6) (pc + 3) lo (st)) : Go p l e R s m args below meth c D N0 mL Q (wW cI cJ cZ cO a S M ov) k n pc lo (.int z :: st) :=
  go_callSX C (As := [.int z]) (rest := st) (c_X1_demandCustomer l hlf D cI cJ cZ cO N0 a S M ov z ) ⟨rfl, by decide +kernel, by decide +kernel⟩ bl_RX1_51 bst_yX1_demandCustomer bz_NoticeBook bc_yX1_demandCustomer (show Option.map (fun d => d.parameters.length) (parseMethodDescriptor yX1_demandCustomer.desc) = some 1 by decide +kernel) hR hcs hcat d (fun E w2 h => by obtain ⟨h9, rfl⟩ := h; exact gx E h9) (fun r w2 h => by obtain ⟨h9, rfl, rfl⟩ := h; exact g h9) rfl
set_option maxHeartbeats 4000000 in
set_option maxRecDepth 100000 in
theorem c_X1_demandRange (l : Launch) (hlf : l.stackTraces = false) (D : va_G) (cI cJ cZ cO : ClassId) (N0 : Nat) (a : Nat → Nat) (S : CS) (M : MS) (ov : Nat → Int64) (z y1 y2 : Int32)  : CtX l D (tysW cI cJ cZ cO) N0 yX1_demandRange cX1_demandRange 3 none { frames := 6, cells := 1, slots := 6, locals := 82 } [.int z, .int y1, .int y2] (wW cI cJ cZ cO a S M ov) (fun r w2 => demR z y1 y2 = 0 ∧ r = none ∧ w2 = wW cI cJ cZ cO a S M ov) (fun E w2 => (E = nb_A ∧ demR z y1 y2 = 2) ∧ w2 = wW cI cJ cZ cO a S M ov) := by
  refine ctx_of (by decide +kernel) (Nat.le_of_ble_eq_true rfl) ?_
  intro p e s m args below meth c C ht
  have C : Cxt p s m args meth c D (tysW cI cJ cZ cO) N0 cX1_demandRange 3 RX1 none "demandRange" := C
  refine go_iload_n C 0 dX1_demandRange_0 rfl rfl ?_
  refine go_iload_n C 1 dX1_demandRange_1 rfl rfl ?_
  refine go_icmp_lt C (tgt := 10) dX1_demandRange_2 (by decide) (fun c_1 => ?_) (fun c_1 => ?_)
  · exact go_throw C hlf ht (names := nb_names) (text := "out of range") rfl mem_A fit_nb_A nb_names_fit bcl_RX1_142 bz_IllegalArgumentException (List.mem_of_getElem? (i := 1) rfl) hat_nb_A_146 hat2_nb_A_146 hgood_nb_A_142_146 dX1_demandRange_10 dX1_demandRange_13 dX1_demandRange_14 dX1_demandRange_16 dX1_demandRange_19 (by decide) (by decide) (by decide) (by decide) ⟨⟨rfl, by simp only [demR, if_pos c_1]⟩, rfl⟩ (by decide) (by decide)
  · refine go_iload_n C 0 dX1_demandRange_5 rfl rfl ?_
    refine go_iload_n C 2 dX1_demandRange_6 rfl rfl ?_
    refine go_icmp_le C (tgt := 20) dX1_demandRange_7 (by decide) (fun c_2 => ?_) (fun c_2 => ?_)
    · exact go_x (go_return C rfl dX1_demandRange_20 (by decide) (by decide) ⟨by simp only [demR, if_neg c_1, if_pos c_2], rfl, rfl⟩)
    · exact go_throw C hlf ht (names := nb_names) (text := "out of range") rfl mem_A fit_nb_A nb_names_fit bcl_RX1_142 bz_IllegalArgumentException (List.mem_of_getElem? (i := 1) rfl) hat_nb_A_146 hat2_nb_A_146 hgood_nb_A_142_146 dX1_demandRange_10 dX1_demandRange_13 dX1_demandRange_14 dX1_demandRange_16 dX1_demandRange_19 (by decide) (by decide) (by decide) (by decide) ⟨⟨rfl, by simp only [demR, if_neg c_1, if_neg c_2]⟩, rfl⟩ (by decide) (by decide)
theorem k_RX1_47 {p : Program} {l : Launch} {e : Env} {R : Room} {s : State} {m : MethodId} {args : Array Value} {below : List Frame} {meth : Method} {c : Code} {D : va_G} {N0 mL : Nat} {cc : ByteArray} {nm : String} {ret : Option FieldType} {Q : State → Prop} {k n pc : Nat} {lo : List (Nat × Value)} {st : List Value} {cI cJ cZ cO : ClassId} {a : Nat → Nat} (C : Cxt p s m args meth c D (tysW cI cJ cZ cO) N0 cc mL RX1 ret nm) (hlf : l.stackTraces = false) (S : CS) (M : MS) (ov : Nat → Int64) (z y1 y2 : Int32)  (hR : 6 + 1 ≤ R.frames ∧ 8 + (3 + 11) + 82 ≤ R.locals) (hcs : k + 1 ≤ R.cells ∧ n + 6 ≤ R.slots) (hcat : (st.map fun v => v.category).sum ≤ 8) (d : decode cc pc = .ok (.invokestatic 47, 3)) (gx : ∀ E : String, (E = nb_A ∧ demR z y1 y2 = 2) → GoX p l e R s m args below meth c D N0 mL Q (wW cI cJ cZ cO a S M ov) (k + 1) (n + 6) pc lo E) (g : (demR z y1 y2 = 0) → Go p l e R s m args below meth c D N0 mL Q (wW cI cJ cZ cO a S M ov) (k + 1) (n + 6) (pc + 3) lo (st)) : Go p l e R s m args below meth c D N0 mL Q (wW cI cJ cZ cO a S M ov) k n pc lo (.int y2 :: .int y1 :: .int z :: st) :=
  go_callSX C (As := [.int z, .int y1, .int y2]) (rest := st) (c_X1_demandRange l hlf D cI cJ cZ cO N0 a S M ov z y1 y2 ) ⟨rfl, by decide +kernel, by decide +kernel⟩ bl_RX1_47 bst_yX1_demandRange bz_NoticeBook bc_yX1_demandRange (show Option.map (fun d => d.parameters.length) (parseMethodDescriptor yX1_demandRange.desc) = some 3 by decide +kernel) hR hcs hcat d (fun E w2 h => by obtain ⟨h9, rfl⟩ := h; exact gx E h9) (fun r w2 h => by obtain ⟨h9, rfl, rfl⟩ := h; exact g h9) rfl
end
section
set_option maxHeartbeats 4000000 in
set_option maxRecDepth 100000 in
theorem c_X1_notePaid (l : Launch) (D : va_G) (cI cJ cZ cO : ClassId) (N0 : Nat) (a : Nat → Nat) (S : CS) (M : MS) (ov : Nat → Int64) (cu z : Int32)  : Ct l D (tysW cI cJ cZ cO) N0 yX1_notePaid cX1_notePaid 3 none { frames := 0, cells := 0, slots := 0, locals := 0 } [.ref (a 0), .int cu, .int z] (wW cI cJ cZ cO a S M ov) (fun r w2 => r = none ∧ w2 = wW cI cJ cZ cO a (npd S cu z) M ov) := by
  refine ct_of (by decide +kernel) (Nat.le_of_ble_eq_true rfl) ?_
  intro p e s m args below meth c C
  have C : Cxt p s m args meth c D (tysW cI cJ cZ cO) N0 cX1_notePaid 3 RX1 none "notePaid" := C
  refine go_iload_n C 1 dX1_notePaid_0 rfl rfl ?_
  refine go_if_lt C (tgt := 24) dX1_notePaid_1 (by decide) (fun c_1 => ?_) (fun c_1 => ?_)
  · exact go_return C rfl dX1_notePaid_24 (by decide) (by decide) ⟨rfl, by simp only [npd, if_pos c_1] <;> rfl⟩
  · refine go_iload_n C 1 dX1_notePaid_4 rfl rfl ?_
    refine go_aload_n C 0 dX1_notePaid_5 rfl rfl ?_
    refine gx_paidCents C dX1_notePaid_6 ?_
    refine nx_paid C dX1_notePaid_9 ?_
    refine go_icmp_ge C (tgt := 24) dX1_notePaid_10 (by decide) (fun c_2 => ?_) (fun c_2 => ?_)
    · exact go_return C rfl dX1_notePaid_24 (by decide) (by decide) ⟨rfl, by simp only [npd, if_neg c_1, if_pos c_2] <;> rfl⟩
    · refine go_aload_n C 0 dX1_notePaid_13 rfl rfl ?_
      refine gx_paidCents C dX1_notePaid_14 ?_
      refine go_iload_n C 1 dX1_notePaid_17 rfl rfl ?_
      refine go_dup2 C dX1_notePaid_18 rfl rfl ?_
      refine lx_paid C (vin_nle (n := 4) c_1 c_2 (by decide)) dX1_notePaid_19 ?_
      refine go_iload_n C 2 dX1_notePaid_20 rfl rfl ?_
      refine go_i2l C dX1_notePaid_21 ?_
      refine go_ladd C dX1_notePaid_22 ?_
      refine sx_paid C (vin_nle (n := 4) c_1 c_2 (by decide)) dX1_notePaid_23 ?_
      exact go_return C rfl dX1_notePaid_24 (by decide) (by decide) ⟨rfl, by simp only [npd, if_neg c_1, if_neg c_2] <;> rfl⟩
theorem k_RX1_206 {p : Program} {l : Launch} {e : Env} {R : Room} {s : State} {m : MethodId} {args : Array Value} {below : List Frame} {meth : Method} {c : Code} {D : va_G} {N0 mL : Nat} {cc : ByteArray} {nm : String} {ret : Option FieldType} {Q : State → Prop} {k n pc : Nat} {lo : List (Nat × Value)} {st : List Value} {cI cJ cZ cO : ClassId} {a : Nat → Nat} (C : Cxt p s m args meth c D (tysW cI cJ cZ cO) N0 cc mL RX1 ret nm) (S : CS) (M : MS) (ov : Nat → Int64) (cu z : Int32)  (hR : 0 + 1 ≤ R.frames ∧ 8 + (3 + 11) + 0 ≤ R.locals) (hcs : k + 0 ≤ R.cells ∧ n + 0 ≤ R.slots) (hcat : (st.map fun v => v.category).sum ≤ 8) (d : decode cc pc = .ok (.invokevirtual 206, 3)) (g : Go p l e R s m args below meth c D N0 mL Q (wW cI cJ cZ cO a (npd S cu z) M ov) (k) (n) (pc + 3) lo (st)) : Go p l e R s m args below meth c D N0 mL Q (wW cI cJ cZ cO a S M ov) k n pc lo (.int z :: .int cu :: .ref (a 0) :: st) :=
  go_callV C (ci := 1) (r9 := (RX1, TX1, 8)) (qi := 0) (As := [.int cu, .int z]) (rest := st) rfl rfl (c_X1_notePaid l D cI cJ cZ cO N0 a S M ov cu z ) ⟨rfl, by decide +kernel, by decide +kernel⟩ bl_RX1_206 bi_yX1_notePaid bs_yX1_notePaid bz_NoticeBook bc_yX1_notePaid (show Option.map (fun d => d.parameters.length) (parseMethodDescriptor yX1_notePaid.desc) = some 2 by decide +kernel) hR hcs hcat d (fun r w2 h => by obtain ⟨rfl, rfl⟩ := h; exact g) rfl
set_option maxHeartbeats 4000000 in
set_option maxRecDepth 100000 in
theorem c_X1_lose (l : Launch) (D : va_G) (cI cJ cZ cO : ClassId) (N0 : Nat) (a : Nat → Nat) (S : CS) (M : MS) (ov : Nat → Int64) (i : Nat) (z : Int64) (hi : i < cs_nc S) : Ct l D (tysW cI cJ cZ cO) N0 yX1_lose cX1_lose 5 none { frames := 0, cells := 0, slots := 0, locals := 0 } [.ref (a 0), .ref (cs_la S i), .long z] (wW cI cJ cZ cO a S M ov) (fun r w2 => r = none ∧ w2 = wW cI cJ cZ cO a (los S i z) M ov) := by
  refine ct_of (by decide +kernel) (Nat.le_of_ble_eq_true rfl) ?_
  intro p e s m args below meth c C
  have C : Cxt p s m args meth c D (tysW cI cJ cZ cO) N0 cX1_lose 5 RX1 none "lose" := C
  refine go_aload_n C 1 dX1_lose_0 rfl rfl ?_
  refine go_dup C dX1_lose_1 rfl ?_
  refine gl_earned C (S := S) (i := i) hi dX1_lose_2 ?_
  refine go_lload_n C 2 dX1_lose_5 rfl rfl ?_
  refine go_lsub C dX1_lose_6 ?_
  refine pl_earned C (S := S) (i := i) hi dX1_lose_7 ?_
  refine go_w (w2 := wW cI cJ cZ cO a (los1 S i z) M ov) rfl ?_
  refine go_aload_n C 1 dX1_lose_10 rfl rfl ?_
  refine gl_customer C (S := los1 S i z) (i := i) hi dX1_lose_11 ?_
  refine go_istore C (lo' := [(4, .int (lr_cu (cs_lt (los1 S i z) i))), (0, .ref (a 0)), (1, .ref (cs_la S i)), (2, .long z)]) dX1_lose_14 (by decide) rfl ?_
  refine go_iload C 0 dX1_lose_16 rfl ?_
  refine go_if_lt C (tgt := 42) dX1_lose_18 (by decide) (fun c_1 => ?_) (fun c_1 => ?_)
  · exact go_return C rfl dX1_lose_42 (by decide) (by decide) ⟨rfl, by simp only [los, if_pos c_1] <;> rfl⟩
  · refine go_iload C 0 dX1_lose_21 rfl ?_
    refine go_aload_n C 1 dX1_lose_23 rfl rfl ?_
    refine gx_lostParts C dX1_lose_24 ?_
    refine nx_lost C dX1_lose_27 ?_
    refine go_icmp_ge C (tgt := 42) dX1_lose_28 (by decide) (fun c_2 => ?_) (fun c_2 => ?_)
    · exact go_return C rfl dX1_lose_42 (by decide) (by decide) ⟨rfl, by simp only [los, if_neg c_1, if_pos c_2] <;> rfl⟩
    · refine go_aload_n C 1 dX1_lose_31 rfl rfl ?_
      refine gx_lostParts C dX1_lose_32 ?_
      refine go_iload C 0 dX1_lose_35 rfl ?_
      refine go_dup2 C dX1_lose_37 rfl rfl ?_
      refine lx_lost C (vin_nle (n := 4) c_1 c_2 (by decide)) dX1_lose_38 ?_
      refine go_lload_n C 3 dX1_lose_39 rfl rfl ?_
      refine go_ladd C dX1_lose_40 ?_
      refine sx_lost C (vin_nle (n := 4) c_1 c_2 (by decide)) dX1_lose_41 ?_
      exact go_return C rfl dX1_lose_42 (by decide) (by decide) ⟨rfl, by simp only [los, if_neg c_1, if_neg c_2] <;> rfl⟩
theorem k_RX1_127 {p : Program} {l : Launch} {e : Env} {R : Room} {s : State} {m : MethodId} {args : Array Value} {below : List Frame} {meth : Method} {c : Code} {D : va_G} {N0 mL : Nat} {cc : ByteArray} {nm : String} {ret : Option FieldType} {Q : State → Prop} {k n pc : Nat} {lo : List (Nat × Value)} {st : List Value} {cI cJ cZ cO : ClassId} {a : Nat → Nat} (C : Cxt p s m args meth c D (tysW cI cJ cZ cO) N0 cc mL RX1 ret nm) (S : CS) (M : MS) (ov : Nat → Int64) (i : Nat) (z : Int64) (hi : i < cs_nc S) (hR : 0 + 1 ≤ R.frames ∧ 8 + (5 + 11) + 0 ≤ R.locals) (hcs : k + 0 ≤ R.cells ∧ n + 0 ≤ R.slots) (hcat : (st.map fun v => v.category).sum ≤ 8) (d : decode cc pc = .ok (.invokevirtual 127, 3)) (g : Go p l e R s m args below meth c D N0 mL Q (wW cI cJ cZ cO a (los S i z) M ov) (k) (n) (pc + 3) lo (st)) : Go p l e R s m args below meth c D N0 mL Q (wW cI cJ cZ cO a S M ov) k n pc lo (.long z :: .ref (cs_la S i) :: .ref (a 0) :: st) :=
  go_callV C (ci := 1) (r9 := (RX1, TX1, 8)) (qi := 0) (As := [.ref (cs_la S i), .long z]) (rest := st) rfl rfl (c_X1_lose l D cI cJ cZ cO N0 a S M ov i z hi) ⟨rfl, by decide +kernel, by decide +kernel⟩ bl_RX1_127 bi_yX1_lose bs_yX1_lose bz_NoticeBook bc_yX1_lose (show Option.map (fun d => d.parameters.length) (parseMethodDescriptor yX1_lose.desc) = some 2 by decide +kernel) hR hcs hcat d (fun r w2 h => by obtain ⟨rfl, rfl⟩ := h; exact g) rfl
set_option maxHeartbeats 4000000 in
set_option maxRecDepth 100000 in
theorem c_X1_payInterest (l : Launch) (D : va_G) (cI cJ cZ cO : ClassId) (N0 : Nat) (a : Nat → Nat) (S : CS) (M : MS) (ov : Nat → Int64) (i : Nat) (hi : i < cs_nc S) : Ct l D (tysW cI cJ cZ cO) N0 yX1_payInterest cX1_payInterest 3 (some .int) { frames := 1, cells := 0, slots := 0, locals := 22 } [.ref (a 0), .ref (cs_la S i)] (wW cI cJ cZ cO a S M ov) (fun r w2 => r = some (.int (drwC (cs_lt S i))) ∧ w2 = wW cI cJ cZ cO a (pinS S i) M ov) := by
  refine ct_of (by decide +kernel) (Nat.le_of_ble_eq_true rfl) ?_
  intro p e s m args below meth c C
  have C : Cxt p s m args meth c D (tysW cI cJ cZ cO) N0 cX1_payInterest 3 RX1 (some .int) "payInterest" := C
  refine go_aload_n C 1 dX1_payInterest_0 rfl rfl ?_
  refine k_RX1_213 C S M ov i hi ⟨(Nat.le_of_ble_eq_true rfl), (Nat.le_of_ble_eq_true rfl)⟩ ⟨(Nat.le_of_ble_eq_true rfl), (Nat.le_of_ble_eq_true rfl)⟩ (Nat.le_of_ble_eq_true rfl) dX1_payInterest_1 ?_
  refine go_istore_n C (lo' := [(2, .int (drwC (cs_lt S i))), (0, .ref (a 0)), (1, .ref (cs_la S i))]) dX1_payInterest_4 rfl (by decide) rfl ?_
  refine go_aload_n C 1 dX1_payInterest_5 rfl rfl ?_
  refine go_aload_n C 2 dX1_payInterest_6 rfl rfl ?_
  refine gl_customer C (S := drwS S i) (i := i) hi dX1_payInterest_7 ?_
  refine go_iload_n C 0 dX1_payInterest_10 rfl rfl ?_
  refine k_RX1_206 C (drwS S i) M ov (lr_cu (cs_lt (drwS S i) i)) (drwC (cs_lt S i)) ⟨(Nat.le_of_ble_eq_true rfl), (Nat.le_of_ble_eq_true rfl)⟩ ⟨(Nat.le_of_ble_eq_true rfl), (Nat.le_of_ble_eq_true rfl)⟩ (Nat.le_of_ble_eq_true rfl) dX1_payInterest_11 ?_
  refine go_iload_n C 0 dX1_payInterest_14 rfl rfl ?_
  exact go_ireturn C rfl dX1_payInterest_15 (by decide) (by decide) ⟨rfl, rfl⟩
theorem k_RX1_210 {p : Program} {l : Launch} {e : Env} {R : Room} {s : State} {m : MethodId} {args : Array Value} {below : List Frame} {meth : Method} {c : Code} {D : va_G} {N0 mL : Nat} {cc : ByteArray} {nm : String} {ret : Option FieldType} {Q : State → Prop} {k n pc : Nat} {lo : List (Nat × Value)} {st : List Value} {cI cJ cZ cO : ClassId} {a : Nat → Nat} (C : Cxt p s m args meth c D (tysW cI cJ cZ cO) N0 cc mL RX1 ret nm) (S : CS) (M : MS) (ov : Nat → Int64) (i : Nat) (hi : i < cs_nc S) (hR : 1 + 1 ≤ R.frames ∧ 8 + (3 + 11) + 22 ≤ R.locals) (hcs : k + 0 ≤ R.cells ∧ n + 0 ≤ R.slots) (hcat : (st.map fun v => v.category).sum ≤ 8) (d : decode cc pc = .ok (.invokevirtual 210, 3)) (g : Go p l e R s m args below meth c D N0 mL Q (wW cI cJ cZ cO a (pinS S i) M ov) (k) (n) (pc + 3) lo (.int (drwC (cs_lt S i)) :: st)) : Go p l e R s m args below meth c D N0 mL Q (wW cI cJ cZ cO a S M ov) k n pc lo (.ref (cs_la S i) :: .ref (a 0) :: st) :=
  go_callV C (ci := 1) (r9 := (RX1, TX1, 8)) (qi := 0) (As := [.ref (cs_la S i)]) (rest := st) rfl rfl (c_X1_payInterest l D cI cJ cZ cO N0 a S M ov i hi) ⟨rfl, by decide +kernel, by decide +kernel⟩ bl_RX1_210 bi_yX1_payInterest bs_yX1_payInterest bz_NoticeBook bc_yX1_payInterest (show Option.map (fun d => d.parameters.length) (parseMethodDescriptor yX1_payInterest.desc) = some 1 by decide +kernel) hR hcs hcat d (fun r w2 h => by obtain ⟨rfl, rfl⟩ := h; exact g) rfl
set_option maxHeartbeats 4000000 in
set_option maxRecDepth 100000 in
theorem c_X1_payOut (l : Launch) (D : va_G) (cI cJ cZ cO : ClassId) (N0 : Nat) (a : Nat → Nat) (S : CS) (M : MS) (ov : Nat → Int64) (i : Nat) (z : Int32) (hi : i < cs_nc S) : Ct l D (tysW cI cJ cZ cO) N0 yX1_payOut cX1_payOut 4 (some .int) { frames := 2, cells := 0, slots := 0, locals := 44 } [.ref (a 0), .ref (cs_la S i), .int z] (wW cI cJ cZ cO a S M ov) (fun r w2 => r = some (.int (poC S i z)) ∧ w2 = wW cI cJ cZ cO a (poS S i z) M ov) := by
  refine ct_of (by decide +kernel) (Nat.le_of_ble_eq_true rfl) ?_
  intro p e s m args below meth c C
  have C : Cxt p s m args meth c D (tysW cI cJ cZ cO) N0 cX1_payOut 4 RX1 (some .int) "payOut" := C
  refine go_aload_n C 1 dX1_payOut_0 rfl rfl ?_
  refine go_dup C dX1_payOut_1 rfl ?_
  refine gl_principal C (S := S) (i := i) hi dX1_payOut_2 ?_
  refine go_iload_n C 2 dX1_payOut_5 rfl rfl ?_
  refine go_isub C dX1_payOut_6 ?_
  refine pl_principal C (S := S) (i := i) hi dX1_payOut_7 ?_
  refine go_w (w2 := wW cI cJ cZ cO a (po1 S i z) M ov) rfl ?_
  refine go_aload_n C 0 dX1_payOut_10 rfl rfl ?_
  refine go_aload_n C 1 dX1_payOut_11 rfl rfl ?_
  refine gl_customer C (S := po1 S i z) (i := i) hi dX1_payOut_12 ?_
  refine go_iload_n C 2 dX1_payOut_15 rfl rfl ?_
  refine k_RX1_206 C (po1 S i z) M ov (lr_cu (cs_lt (po1 S i z) i)) z ⟨(Nat.le_of_ble_eq_true rfl), (Nat.le_of_ble_eq_true rfl)⟩ ⟨(Nat.le_of_ble_eq_true rfl), (Nat.le_of_ble_eq_true rfl)⟩ (Nat.le_of_ble_eq_true rfl) dX1_payOut_16 ?_
  refine go_w (w2 := wW cI cJ cZ cO a (po2 S i z) M ov) rfl ?_
  refine go_aload_n C 1 dX1_payOut_19 rfl rfl ?_
  refine gl_principal C (S := po2 S i z) (i := i) hi dX1_payOut_20 ?_
  refine go_if_le C (tgt := 28) dX1_payOut_23 (by decide) (fun c_1 => ?_) (fun c_1 => ?_)
  · refine go_aload_n C 0 dX1_payOut_28 rfl rfl ?_
    refine go_aload_n C 1 dX1_payOut_29 rfl rfl ?_
    refine k_RX1_210 C (po2 S i z) M ov i hi ⟨(Nat.le_of_ble_eq_true rfl), (Nat.le_of_ble_eq_true rfl)⟩ ⟨(Nat.le_of_ble_eq_true rfl), (Nat.le_of_ble_eq_true rfl)⟩ (Nat.le_of_ble_eq_true rfl) dX1_payOut_30 ?_
    refine go_istore_n C (lo' := [(3, .int (drwC (cs_lt (po2 S i z) i))), (0, .ref (a 0)), (1, .ref (cs_la S i)), (2, .int z)]) dX1_payOut_33 rfl (by decide) rfl ?_
    refine go_aload_n C 1 dX1_payOut_34 rfl rfl ?_
    refine go_aload_n C 2 dX1_payOut_35 rfl rfl ?_
    refine go_aload_n C 2 dX1_payOut_36 rfl rfl ?_
    refine gl_earned C (S := pinS (po2 S i z) i) (i := i) hi dX1_payOut_37 ?_
    refine k_RX1_127 C (pinS (po2 S i z) i) M ov i (lr_ea (cs_lt (pinS (po2 S i z) i) i)) hi ⟨(Nat.le_of_ble_eq_true rfl), (Nat.le_of_ble_eq_true rfl)⟩ ⟨(Nat.le_of_ble_eq_true rfl), (Nat.le_of_ble_eq_true rfl)⟩ (Nat.le_of_ble_eq_true rfl) dX1_payOut_40 ?_
    refine go_iload_n C 3 dX1_payOut_43 rfl rfl ?_
    refine go_iload_n C 0 dX1_payOut_44 rfl rfl ?_
    refine go_iadd C dX1_payOut_45 ?_
    exact go_ireturn C rfl dX1_payOut_46 (by decide) (by decide) ⟨by simp only [poC, if_pos c_1], by rw [poS, mixS_pos c_1 rfl]⟩
  · refine go_iload_n C 2 dX1_payOut_26 rfl rfl ?_
    exact go_ireturn C rfl dX1_payOut_27 (by decide) (by decide) ⟨by simp only [poC, if_neg c_1], by rw [poS, mixS_neg c_1 rfl]⟩
theorem k_RX1_96 {p : Program} {l : Launch} {e : Env} {R : Room} {s : State} {m : MethodId} {args : Array Value} {below : List Frame} {meth : Method} {c : Code} {D : va_G} {N0 mL : Nat} {cc : ByteArray} {nm : String} {ret : Option FieldType} {Q : State → Prop} {k n pc : Nat} {lo : List (Nat × Value)} {st : List Value} {cI cJ cZ cO : ClassId} {a : Nat → Nat} (C : Cxt p s m args meth c D (tysW cI cJ cZ cO) N0 cc mL RX1 ret nm) (S : CS) (M : MS) (ov : Nat → Int64) (i : Nat) (z : Int32) (hi : i < cs_nc S) (hR : 2 + 1 ≤ R.frames ∧ 8 + (4 + 11) + 44 ≤ R.locals) (hcs : k + 0 ≤ R.cells ∧ n + 0 ≤ R.slots) (hcat : (st.map fun v => v.category).sum ≤ 8) (d : decode cc pc = .ok (.invokevirtual 96, 3)) (g : Go p l e R s m args below meth c D N0 mL Q (wW cI cJ cZ cO a (poS S i z) M ov) (k) (n) (pc + 3) lo (.int (poC S i z) :: st)) : Go p l e R s m args below meth c D N0 mL Q (wW cI cJ cZ cO a S M ov) k n pc lo (.int z :: .ref (cs_la S i) :: .ref (a 0) :: st) :=
  go_callV C (ci := 1) (r9 := (RX1, TX1, 8)) (qi := 0) (As := [.ref (cs_la S i), .int z]) (rest := st) rfl rfl (c_X1_payOut l D cI cJ cZ cO N0 a S M ov i z hi) ⟨rfl, by decide +kernel, by decide +kernel⟩ bl_RX1_96 bi_yX1_payOut bs_yX1_payOut bz_NoticeBook bc_yX1_payOut (show Option.map (fun d => d.parameters.length) (parseMethodDescriptor yX1_payOut.desc) = some 2 by decide +kernel) hR hcs hcat d (fun r w2 h => by obtain ⟨rfl, rfl⟩ := h; exact g) rfl
set_option maxHeartbeats 4000000 in
set_option maxRecDepth 100000 in
theorem c_X1_lossByEarly (l : Launch) (D : va_G) (cI cJ cZ cO : ClassId) (N0 : Nat) (a : Nat → Nat) (S : CS) (M : MS) (ov : Nat → Int64) (i : Nat) (z : Int32) (hi : i < cs_nc S) : Ct l D (tysW cI cJ cZ cO) N0 yX1_lossByEarly cX1_lossByEarly 4 (some .long) { frames := 1, cells := 0, slots := 0, locals := 15 } [.ref (cs_la S i), .int z] (wW cI cJ cZ cO a S M ov) (fun r w2 => r = some (.long (lbe (cs_lt S i) z)) ∧ w2 = wW cI cJ cZ cO a S M ov) := by
  refine ct_of (by decide +kernel) (Nat.le_of_ble_eq_true rfl) ?_
  intro p e s m args below meth c C
  have C : Cxt p s m args meth c D (tysW cI cJ cZ cO) N0 cX1_lossByEarly 4 RX1 (some .long) "lossByEarly" := C
  refine go_aload_n C 0 dX1_lossByEarly_0 rfl rfl ?_
  refine gl_principal C (S := S) (i := i) hi dX1_lossByEarly_1 ?_
  refine go_if_gt C (tgt := 9) dX1_lossByEarly_4 (by decide) (fun c_1 => ?_) (fun c_1 => ?_)
  · refine go_ldc2 C bk_RX1_216 dX1_lossByEarly_9 ?_
    refine go_aload_n C 0 dX1_lossByEarly_12 rfl rfl ?_
    refine gl_parts C (S := S) (i := i) hi dX1_lossByEarly_13 ?_
    refine go_lmul C dX1_lossByEarly_16 ?_
    refine go_iload_n C 1 dX1_lossByEarly_17 rfl rfl ?_
    refine go_i2l C dX1_lossByEarly_18 ?_
    refine go_lmul C dX1_lossByEarly_19 ?_
    refine go_aload_n C 0 dX1_lossByEarly_20 rfl rfl ?_
    refine gl_principal C (S := S) (i := i) hi dX1_lossByEarly_21 ?_
    refine go_i2l C dX1_lossByEarly_24 ?_
    have hnz : ¬ Int32.toInt64 (lr_pr (cs_lt S i)) = 0 := nz_of c_1
    refine go_ldiv C dX1_lossByEarly_25 hnz ?_
    refine go_lstore_n C (lo' := [(2, .long (((30 * (lr_pa (cs_lt S i))) * (Int32.toInt64 z)) / (Int32.toInt64 (lr_pr (cs_lt S i))))), (0, .ref (cs_la S i)), (1, .int z)]) dX1_lossByEarly_26 rfl (by decide) rfl ?_
    refine go_lload_n C 0 dX1_lossByEarly_27 rfl rfl ?_
    refine go_aload_n C 1 dX1_lossByEarly_28 rfl rfl ?_
    refine gl_earned C (S := S) (i := i) hi dX1_lossByEarly_29 ?_
    refine go_minL C (x := ((30 * (lr_pa (cs_lt S i))) * (Int32.toInt64 z)) / (Int32.toInt64 (lr_pr (cs_lt S i)))) (y := lr_ea (cs_lt S i)) bl_RX1_218 bst_yJ9_min_f86c9 bz_Math bc_yJ9_min_f86c9 (by decide) (by decide) (by decide) (by decide) dX1_lossByEarly_32 ?_
    exact go_lreturn C rfl dX1_lossByEarly_35 (by decide) (by decide) ⟨by simp only [lbe, if_pos c_1], rfl⟩
  · refine go_lconst C (v := 0) dX1_lossByEarly_7 (by decide) ?_
    exact go_lreturn C rfl dX1_lossByEarly_8 (by decide) (by decide) ⟨by simp only [lbe, if_neg c_1], rfl⟩
theorem k_RX1_123 {p : Program} {l : Launch} {e : Env} {R : Room} {s : State} {m : MethodId} {args : Array Value} {below : List Frame} {meth : Method} {c : Code} {D : va_G} {N0 mL : Nat} {cc : ByteArray} {nm : String} {ret : Option FieldType} {Q : State → Prop} {k n pc : Nat} {lo : List (Nat × Value)} {st : List Value} {cI cJ cZ cO : ClassId} {a : Nat → Nat} (C : Cxt p s m args meth c D (tysW cI cJ cZ cO) N0 cc mL RX1 ret nm) (S : CS) (M : MS) (ov : Nat → Int64) (i : Nat) (z : Int32) (hi : i < cs_nc S) (hR : 1 + 1 ≤ R.frames ∧ 8 + (4 + 11) + 15 ≤ R.locals) (hcs : k + 0 ≤ R.cells ∧ n + 0 ≤ R.slots) (hcat : (st.map fun v => v.category).sum ≤ 8) (d : decode cc pc = .ok (.invokestatic 123, 3)) (g : Go p l e R s m args below meth c D N0 mL Q (wW cI cJ cZ cO a S M ov) (k) (n) (pc + 3) lo (.long (lbe (cs_lt S i) z) :: st)) : Go p l e R s m args below meth c D N0 mL Q (wW cI cJ cZ cO a S M ov) k n pc lo (.int z :: .ref (cs_la S i) :: st) :=
  go_callS C (As := [.ref (cs_la S i), .int z]) (rest := st) (c_X1_lossByEarly l D cI cJ cZ cO N0 a S M ov i z hi) ⟨rfl, by decide +kernel, by decide +kernel⟩ bl_RX1_123 bst_yX1_lossByEarly bz_NoticeBook bc_yX1_lossByEarly (show Option.map (fun d => d.parameters.length) (parseMethodDescriptor yX1_lossByEarly.desc) = some 2 by decide +kernel) hR hcs hcat d (fun r w2 h => by obtain ⟨rfl, rfl⟩ := h; exact g) rfl
set_option maxHeartbeats 4000000 in
set_option maxRecDepth 100000 in
theorem c_X1_harmsNoMore (l : Launch) (D : va_G) (cI cJ cZ cO : ClassId) (N0 : Nat) (a : Nat → Nat) (S : CS) (M : MS) (ov : Nat → Int64) (i i2 : Nat) (hi : i < cs_nc S) (hi2 : i2 < cs_nc S) : Ct l D (tysW cI cJ cZ cO) N0 yX1_harmsNoMore cX1_harmsNoMore 2 (some .boolean) { frames := 0, cells := 0, slots := 0, locals := 0 } [.ref (cs_la S i), .ref (cs_la S i2)] (wW cI cJ cZ cO a S M ov) (fun r w2 => r = some (.int (hnm (cs_lt S i) (cs_lt S i2))) ∧ w2 = wW cI cJ cZ cO a S M ov) := by
  refine ct_of (by decide +kernel) (Nat.le_of_ble_eq_true rfl) ?_
  intro p e s m args below meth c C
  have C : Cxt p s m args meth c D (tysW cI cJ cZ cO) N0 cX1_harmsNoMore 2 RX1 (some .boolean) "harmsNoMore" := C
  refine go_aload_n C 0 dX1_harmsNoMore_0 rfl rfl ?_
  refine gl_parts C (S := S) (i := i) hi dX1_harmsNoMore_1 ?_
  refine go_aload_n C 1 dX1_harmsNoMore_4 rfl rfl ?_
  refine gl_principal C (S := S) (i := i2) hi2 dX1_harmsNoMore_5 ?_
  refine go_i2l C dX1_harmsNoMore_8 ?_
  refine go_lmul C dX1_harmsNoMore_9 ?_
  refine go_aload_n C 1 dX1_harmsNoMore_10 rfl rfl ?_
  refine gl_parts C (S := S) (i := i2) hi2 dX1_harmsNoMore_11 ?_
  refine go_aload_n C 0 dX1_harmsNoMore_14 rfl rfl ?_
  refine gl_principal C (S := S) (i := i) hi dX1_harmsNoMore_15 ?_
  refine go_i2l C dX1_harmsNoMore_18 ?_
  refine go_lmul C dX1_harmsNoMore_19 ?_
  refine go_lcmp C dX1_harmsNoMore_20 ?_
  refine go_if_gt C (tgt := 28) dX1_harmsNoMore_21 (by decide) (fun c_1 => ?_) (fun c_1 => ?_)
  · refine go_iconst C (v := 0) dX1_harmsNoMore_28 (by decide) ?_
    exact go_zreturn C rfl rfl dX1_harmsNoMore_29 (by decide) (by decide) ⟨by simp only [hnm, if_pos c_1], rfl⟩
  · refine go_iconst C (v := 1) dX1_harmsNoMore_24 (by decide) ?_
    refine go_goto C (tgt := 29) dX1_harmsNoMore_25 (by decide) ?_
    exact go_zreturn C rfl rfl dX1_harmsNoMore_29 (by decide) (by decide) ⟨by simp only [hnm, if_neg c_1], rfl⟩
theorem k_RX1_194 {p : Program} {l : Launch} {e : Env} {R : Room} {s : State} {m : MethodId} {args : Array Value} {below : List Frame} {meth : Method} {c : Code} {D : va_G} {N0 mL : Nat} {cc : ByteArray} {nm : String} {ret : Option FieldType} {Q : State → Prop} {k n pc : Nat} {lo : List (Nat × Value)} {st : List Value} {cI cJ cZ cO : ClassId} {a : Nat → Nat} (C : Cxt p s m args meth c D (tysW cI cJ cZ cO) N0 cc mL RX1 ret nm) (S : CS) (M : MS) (ov : Nat → Int64) (i i2 : Nat) (hi : i < cs_nc S) (hi2 : i2 < cs_nc S) (hR : 0 + 1 ≤ R.frames ∧ 8 + (2 + 11) + 0 ≤ R.locals) (hcs : k + 0 ≤ R.cells ∧ n + 0 ≤ R.slots) (hcat : (st.map fun v => v.category).sum ≤ 8) (d : decode cc pc = .ok (.invokestatic 194, 3)) (g : Go p l e R s m args below meth c D N0 mL Q (wW cI cJ cZ cO a S M ov) (k) (n) (pc + 3) lo (.int (hnm (cs_lt S i) (cs_lt S i2)) :: st)) : Go p l e R s m args below meth c D N0 mL Q (wW cI cJ cZ cO a S M ov) k n pc lo (.ref (cs_la S i2) :: .ref (cs_la S i) :: st) :=
  go_callS C (As := [.ref (cs_la S i), .ref (cs_la S i2)]) (rest := st) (c_X1_harmsNoMore l D cI cJ cZ cO N0 a S M ov i i2 hi hi2) ⟨rfl, by decide +kernel, by decide +kernel⟩ bl_RX1_194 bst_yX1_harmsNoMore bz_NoticeBook bc_yX1_harmsNoMore (show Option.map (fun d => d.parameters.length) (parseMethodDescriptor yX1_harmsNoMore.desc) = some 2 by decide +kernel) hR hcs hcat d (fun r w2 h => by obtain ⟨rfl, rfl⟩ := h; exact g) rfl
set_option maxHeartbeats 4000000 in
set_option maxRecDepth 100000 in
theorem c_X1_canJoin (l : Launch) (D : va_G) (cI cJ cZ cO : ClassId) (N0 : Nat) (a : Nat → Nat) (S : CS) (M : MS) (ov : Nat → Int64) (i i2 : Nat) (hi : i < cs_nc S) (hi2 : i2 < cs_nc S) : Ct l D (tysW cI cJ cZ cO) N0 yX1_canJoin cX1_canJoin 2 (some .boolean) { frames := 1, cells := 0, slots := 0, locals := 20 } [.ref (cs_la S i), .ref (cs_la S i2)] (wW cI cJ cZ cO a S M ov) (fun r w2 => r = some (.int (cjn (cs_lt S i) (cs_lt S i2))) ∧ w2 = wW cI cJ cZ cO a S M ov) := by
  refine ct_of (by decide +kernel) (Nat.le_of_ble_eq_true rfl) ?_
  intro p e s m args below meth c C
  have C : Cxt p s m args meth c D (tysW cI cJ cZ cO) N0 cX1_canJoin 2 RX1 (some .boolean) "canJoin" := C
  refine go_aload_n C 0 dX1_canJoin_0 rfl rfl ?_
  refine k_RX1_76 C S M ov i hi ⟨(Nat.le_of_ble_eq_true rfl), (Nat.le_of_ble_eq_true rfl)⟩ ⟨(Nat.le_of_ble_eq_true rfl), (Nat.le_of_ble_eq_true rfl)⟩ (Nat.le_of_ble_eq_true rfl) dX1_canJoin_1 ?_
  refine go_if_eq C (tgt := 58) dX1_canJoin_4 (by decide) (fun c_1 => ?_) (fun c_1 => ?_)
  · refine go_iconst C (v := 0) dX1_canJoin_58 (by decide) ?_
    exact go_zreturn C rfl rfl dX1_canJoin_59 (by decide) (by decide) ⟨by simp only [cjn, if_pos c_1], rfl⟩
  · refine go_aload_n C 1 dX1_canJoin_7 rfl rfl ?_
    refine k_RX1_76 C S M ov i2 hi2 ⟨(Nat.le_of_ble_eq_true rfl), (Nat.le_of_ble_eq_true rfl)⟩ ⟨(Nat.le_of_ble_eq_true rfl), (Nat.le_of_ble_eq_true rfl)⟩ (Nat.le_of_ble_eq_true rfl) dX1_canJoin_8 ?_
    refine go_if_eq C (tgt := 58) dX1_canJoin_11 (by decide) (fun c_2 => ?_) (fun c_2 => ?_)
    · refine go_iconst C (v := 0) dX1_canJoin_58 (by decide) ?_
      exact go_zreturn C rfl rfl dX1_canJoin_59 (by decide) (by decide) ⟨by simp only [cjn, if_neg c_1, if_pos c_2], rfl⟩
    · refine go_aload_n C 0 dX1_canJoin_14 rfl rfl ?_
      refine gl_customer C (S := S) (i := i) hi dX1_canJoin_15 ?_
      refine go_aload_n C 1 dX1_canJoin_18 rfl rfl ?_
      refine gl_customer C (S := S) (i := i2) hi2 dX1_canJoin_19 ?_
      refine go_icmp_ne C (tgt := 58) dX1_canJoin_22 (by decide) (fun c_3 => ?_) (fun c_3 => ?_)
      · refine go_iconst C (v := 0) dX1_canJoin_58 (by decide) ?_
        exact go_zreturn C rfl rfl dX1_canJoin_59 (by decide) (by decide) ⟨by simp only [cjn, if_neg c_1, if_neg c_2, if_neg c_3], rfl⟩
      · refine go_aload_n C 0 dX1_canJoin_25 rfl rfl ?_
        refine gl_end C (S := S) (i := i) hi dX1_canJoin_26 ?_
        refine go_aload_n C 1 dX1_canJoin_29 rfl rfl ?_
        refine gl_end C (S := S) (i := i2) hi2 dX1_canJoin_30 ?_
        refine go_icmp_ne C (tgt := 58) dX1_canJoin_33 (by decide) (fun c_4 => ?_) (fun c_4 => ?_)
        · refine go_iconst C (v := 0) dX1_canJoin_58 (by decide) ?_
          exact go_zreturn C rfl rfl dX1_canJoin_59 (by decide) (by decide) ⟨by simp only [cjn, if_neg c_1, if_neg c_2, if_pos c_3, if_neg c_4], rfl⟩
        · refine go_aload_n C 0 dX1_canJoin_36 rfl rfl ?_
          refine gl_principal C (S := S) (i := i) hi dX1_canJoin_37 ?_
          refine go_i2l C dX1_canJoin_40 ?_
          refine go_aload_n C 1 dX1_canJoin_41 rfl rfl ?_
          refine gl_principal C (S := S) (i := i2) hi2 dX1_canJoin_42 ?_
          refine go_i2l C dX1_canJoin_45 ?_
          refine go_ladd C dX1_canJoin_46 ?_
          refine go_ldc2 C bk_RX1_188 dX1_canJoin_47 ?_
          refine go_lcmp C dX1_canJoin_50 ?_
          refine go_if_gt C (tgt := 58) dX1_canJoin_51 (by decide) (fun c_5 => ?_) (fun c_5 => ?_)
          · refine go_iconst C (v := 0) dX1_canJoin_58 (by decide) ?_
            exact go_zreturn C rfl rfl dX1_canJoin_59 (by decide) (by decide) ⟨by simp only [cjn, if_neg c_1, if_neg c_2, if_pos c_3, if_pos c_4, if_pos c_5], rfl⟩
          · refine go_iconst C (v := 1) dX1_canJoin_54 (by decide) ?_
            refine go_goto C (tgt := 59) dX1_canJoin_55 (by decide) ?_
            exact go_zreturn C rfl rfl dX1_canJoin_59 (by decide) (by decide) ⟨by simp only [cjn, if_neg c_1, if_neg c_2, if_pos c_3, if_pos c_4, if_neg c_5], rfl⟩
theorem k_RX1_147 {p : Program} {l : Launch} {e : Env} {R : Room} {s : State} {m : MethodId} {args : Array Value} {below : List Frame} {meth : Method} {c : Code} {D : va_G} {N0 mL : Nat} {cc : ByteArray} {nm : String} {ret : Option FieldType} {Q : State → Prop} {k n pc : Nat} {lo : List (Nat × Value)} {st : List Value} {cI cJ cZ cO : ClassId} {a : Nat → Nat} (C : Cxt p s m args meth c D (tysW cI cJ cZ cO) N0 cc mL RX1 ret nm) (S : CS) (M : MS) (ov : Nat → Int64) (i i2 : Nat) (hi : i < cs_nc S) (hi2 : i2 < cs_nc S) (hR : 1 + 1 ≤ R.frames ∧ 8 + (2 + 11) + 20 ≤ R.locals) (hcs : k + 0 ≤ R.cells ∧ n + 0 ≤ R.slots) (hcat : (st.map fun v => v.category).sum ≤ 8) (d : decode cc pc = .ok (.invokestatic 147, 3)) (g : Go p l e R s m args below meth c D N0 mL Q (wW cI cJ cZ cO a S M ov) (k) (n) (pc + 3) lo (.int (cjn (cs_lt S i) (cs_lt S i2)) :: st)) : Go p l e R s m args below meth c D N0 mL Q (wW cI cJ cZ cO a S M ov) k n pc lo (.ref (cs_la S i2) :: .ref (cs_la S i) :: st) :=
  go_callS C (As := [.ref (cs_la S i), .ref (cs_la S i2)]) (rest := st) (c_X1_canJoin l D cI cJ cZ cO N0 a S M ov i i2 hi hi2) ⟨rfl, by decide +kernel, by decide +kernel⟩ bl_RX1_147 bst_yX1_canJoin bz_NoticeBook bc_yX1_canJoin (show Option.map (fun d => d.parameters.length) (parseMethodDescriptor yX1_canJoin.desc) = some 2 by decide +kernel) hR hcs hcat d (fun r w2 h => by obtain ⟨rfl, rfl⟩ := h; exact g) rfl
end
section
set_option maxHeartbeats 4000000 in
set_option maxRecDepth 100000 in
theorem c_X1_rateByWholeSum (l : Launch) (D : va_G) (cI cJ cZ cO : ClassId) (N0 : Nat) (a : Nat → Nat) (S : CS) (M : MS) (ov : Nat → Int64) (z : Int32)  : Ct l D (tysW cI cJ cZ cO) N0 yX1_rateByWholeSum cX1_rateByWholeSum 3 (some .int) { frames := 0, cells := 0, slots := 0, locals := 0 } [.ref (a 0), .int z] (wW cI cJ cZ cO a S M ov) (fun r w2 => r = some (.int (rws S z)) ∧ w2 = wW cI cJ cZ cO a S M ov) := by
  refine ct_of (by decide +kernel) (Nat.le_of_ble_eq_true rfl) ?_
  intro p e s m args below meth c C
  have C : Cxt p s m args meth c D (tysW cI cJ cZ cO) N0 cX1_rateByWholeSum 3 RX1 (some .int) "rateByWholeSum" := C
  refine go_iload_n C 1 dX1_rateByWholeSum_0 rfl rfl ?_
  refine go_iconst C (v := 1) dX1_rateByWholeSum_1 (by decide) ?_
  refine go_isub C dX1_rateByWholeSum_2 ?_
  refine go_istore_n C (lo' := [(2, .int (z - 1)), (0, .ref (a 0)), (1, .int z)]) dX1_rateByWholeSum_3 rfl (by decide) rfl ?_
  refine go_iload_n C 0 dX1_rateByWholeSum_4 rfl rfl ?_
  refine go_ldc C bk_RX1_204 dX1_rateByWholeSum_5 ?_
  refine go_icmp_ge C (tgt := 17) dX1_rateByWholeSum_7 (by decide) (fun c_1 => ?_) (fun c_1 => ?_)
  · refine go_iload_n C 0 dX1_rateByWholeSum_17 rfl rfl ?_
    refine go_ldc C bk_RX1_205 dX1_rateByWholeSum_18 ?_
    refine go_icmp_ge C (tgt := 32) dX1_rateByWholeSum_20 (by decide) (fun c_2 => ?_) (fun c_2 => ?_)
    · refine go_aload_n C 1 dX1_rateByWholeSum_32 rfl rfl ?_
      refine gx_rates C dX1_rateByWholeSum_33 ?_
      refine go_iconst C (v := 2) dX1_rateByWholeSum_36 (by decide) ?_
      refine lx_rates C vin_2_3 dX1_rateByWholeSum_37 ?_
      exact go_ireturn C rfl dX1_rateByWholeSum_38 (by decide) (by decide) ⟨by simp only [rws, if_pos c_1, if_pos c_2] <;> rfl, rfl⟩
    · refine go_aload_n C 1 dX1_rateByWholeSum_23 rfl rfl ?_
      refine gx_rates C dX1_rateByWholeSum_24 ?_
      refine go_iconst C (v := 1) dX1_rateByWholeSum_27 (by decide) ?_
      refine lx_rates C vin_1_3 dX1_rateByWholeSum_28 ?_
      refine go_goto C (tgt := 38) dX1_rateByWholeSum_29 (by decide) ?_
      exact go_ireturn C rfl dX1_rateByWholeSum_38 (by decide) (by decide) ⟨by simp only [rws, if_pos c_1, if_neg c_2] <;> rfl, rfl⟩
  · refine go_aload_n C 1 dX1_rateByWholeSum_10 rfl rfl ?_
    refine gx_rates C dX1_rateByWholeSum_11 ?_
    refine go_iconst C (v := 0) dX1_rateByWholeSum_14 (by decide) ?_
    refine lx_rates C vin_0_3 dX1_rateByWholeSum_15 ?_
    exact go_ireturn C rfl dX1_rateByWholeSum_16 (by decide) (by decide) ⟨by simp only [rws, if_neg c_1] <;> rfl, rfl⟩
theorem k_RX1_201 {p : Program} {l : Launch} {e : Env} {R : Room} {s : State} {m : MethodId} {args : Array Value} {below : List Frame} {meth : Method} {c : Code} {D : va_G} {N0 mL : Nat} {cc : ByteArray} {nm : String} {ret : Option FieldType} {Q : State → Prop} {k n pc : Nat} {lo : List (Nat × Value)} {st : List Value} {cI cJ cZ cO : ClassId} {a : Nat → Nat} (C : Cxt p s m args meth c D (tysW cI cJ cZ cO) N0 cc mL RX1 ret nm) (S : CS) (M : MS) (ov : Nat → Int64) (z : Int32)  (hR : 0 + 1 ≤ R.frames ∧ 8 + (3 + 11) + 0 ≤ R.locals) (hcs : k + 0 ≤ R.cells ∧ n + 0 ≤ R.slots) (hcat : (st.map fun v => v.category).sum ≤ 8) (d : decode cc pc = .ok (.invokevirtual 201, 3)) (g : Go p l e R s m args below meth c D N0 mL Q (wW cI cJ cZ cO a S M ov) (k) (n) (pc + 3) lo (.int (rws S z) :: st)) : Go p l e R s m args below meth c D N0 mL Q (wW cI cJ cZ cO a S M ov) k n pc lo (.int z :: .ref (a 0) :: st) :=
  go_callV C (ci := 1) (r9 := (RX1, TX1, 8)) (qi := 0) (As := [.int z]) (rest := st) rfl rfl (c_X1_rateByWholeSum l D cI cJ cZ cO N0 a S M ov z ) ⟨rfl, by decide +kernel, by decide +kernel⟩ bl_RX1_201 bi_yX1_rateByWholeSum bs_yX1_rateByWholeSum bz_NoticeBook bc_yX1_rateByWholeSum (show Option.map (fun d => d.parameters.length) (parseMethodDescriptor yX1_rateByWholeSum.desc) = some 1 by decide +kernel) hR hcs hcat d (fun r w2 h => by obtain ⟨rfl, rfl⟩ := h; exact g) rfl
set_option maxHeartbeats 4000000 in
set_option maxRecDepth 100000 in
theorem c_X1_partsByBands (l : Launch) (D : va_G) (cI cJ cZ cO : ClassId) (N0 : Nat) (a : Nat → Nat) (S : CS) (M : MS) (ov : Nat → Int64) (z : Int32)  : Ct l D (tysW cI cJ cZ cO) N0 yX1_partsByBands cX1_partsByBands 5 (some .long) { frames := 1, cells := 0, slots := 0, locals := 13 } [.ref (a 0), .int z] (wW cI cJ cZ cO a S M ov) (fun r w2 => r = some (.long (pbb S z)) ∧ w2 = wW cI cJ cZ cO a S M ov) := by
  refine ct_of (by decide +kernel) (Nat.le_of_ble_eq_true rfl) ?_
  intro p e s m args below meth c C
  have C : Cxt p s m args meth c D (tysW cI cJ cZ cO) N0 cX1_partsByBands 5 RX1 (some .long) "partsByBands" := C
  refine go_iload_n C 1 dX1_partsByBands_0 rfl rfl ?_
  refine go_ldc C bk_RX1_204 dX1_partsByBands_1 ?_
  refine go_min C (x := z) (y := 100000) bl_RX1_117 bst_yJ9_min_7cf53 bz_Math bc_yJ9_min_7cf53 (by decide) (by decide) (by decide) (by decide) dX1_partsByBands_3 ?_
  refine go_istore_n C (lo' := [(2, .int (if 100000 < z then 100000 else z)), (0, .ref (a 0)), (1, .int z)]) dX1_partsByBands_6 rfl (by decide) rfl ?_
  refine go_iload_n C 2 dX1_partsByBands_7 rfl rfl ?_
  refine go_ldc C bk_RX1_205 dX1_partsByBands_8 ?_
  refine go_min C (x := z) (y := 1000000) bl_RX1_117 bst_yJ9_min_7cf53 bz_Math bc_yJ9_min_7cf53 (by decide) (by decide) (by decide) (by decide) dX1_partsByBands_10 ?_
  refine go_iload_n C 0 dX1_partsByBands_13 rfl rfl ?_
  refine go_isub C dX1_partsByBands_14 ?_
  refine go_istore_n C (lo' := [(3, .int ((if 1000000 < z then 1000000 else z) - (if 100000 < z then 100000 else z))), (2, .int (if 100000 < z then 100000 else z)), (0, .ref (a 0)), (1, .int z)]) dX1_partsByBands_15 rfl (by decide) rfl ?_
  refine go_iload_n C 3 dX1_partsByBands_16 rfl rfl ?_
  refine go_iload_n C 1 dX1_partsByBands_17 rfl rfl ?_
  refine go_isub C dX1_partsByBands_18 ?_
  refine go_iload_n C 0 dX1_partsByBands_19 rfl rfl ?_
  refine go_isub C dX1_partsByBands_20 ?_
  refine go_istore C (lo' := [(4, .int ((z - (if 100000 < z then 100000 else z)) - ((if 1000000 < z then 1000000 else z) - (if 100000 < z then 100000 else z)))), (3, .int ((if 1000000 < z then 1000000 else z) - (if 100000 < z then 100000 else z))), (2, .int (if 100000 < z then 100000 else z)), (0, .ref (a 0)), (1, .int z)]) dX1_partsByBands_21 (by decide) rfl ?_
  refine go_iload_n C 2 dX1_partsByBands_23 rfl rfl ?_
  refine go_i2l C dX1_partsByBands_24 ?_
  refine go_aload_n C 3 dX1_partsByBands_25 rfl rfl ?_
  refine gx_rates C dX1_partsByBands_26 ?_
  refine go_iconst C (v := 0) dX1_partsByBands_29 (by decide) ?_
  refine lx_rates C vin_0_3 dX1_partsByBands_30 ?_
  refine go_i2l C dX1_partsByBands_31 ?_
  refine go_lmul C dX1_partsByBands_32 ?_
  refine go_iload_n C 1 dX1_partsByBands_33 rfl rfl ?_
  refine go_i2l C dX1_partsByBands_34 ?_
  refine go_aload_n C 3 dX1_partsByBands_35 rfl rfl ?_
  refine gx_rates C dX1_partsByBands_36 ?_
  refine go_iconst C (v := 1) dX1_partsByBands_39 (by decide) ?_
  refine lx_rates C vin_1_3 dX1_partsByBands_40 ?_
  refine go_i2l C dX1_partsByBands_41 ?_
  refine go_lmul C dX1_partsByBands_42 ?_
  refine go_ladd C dX1_partsByBands_43 ?_
  refine go_iload C 0 dX1_partsByBands_44 rfl ?_
  refine go_i2l C dX1_partsByBands_46 ?_
  refine go_aload_n C 3 dX1_partsByBands_47 rfl rfl ?_
  refine gx_rates C dX1_partsByBands_48 ?_
  refine go_iconst C (v := 2) dX1_partsByBands_51 (by decide) ?_
  refine lx_rates C vin_2_3 dX1_partsByBands_52 ?_
  refine go_i2l C dX1_partsByBands_53 ?_
  refine go_lmul C dX1_partsByBands_54 ?_
  refine go_ladd C dX1_partsByBands_55 ?_
  exact go_lreturn C rfl dX1_partsByBands_56 (by decide) (by decide) ⟨rfl, rfl⟩
theorem k_RX1_197 {p : Program} {l : Launch} {e : Env} {R : Room} {s : State} {m : MethodId} {args : Array Value} {below : List Frame} {meth : Method} {c : Code} {D : va_G} {N0 mL : Nat} {cc : ByteArray} {nm : String} {ret : Option FieldType} {Q : State → Prop} {k n pc : Nat} {lo : List (Nat × Value)} {st : List Value} {cI cJ cZ cO : ClassId} {a : Nat → Nat} (C : Cxt p s m args meth c D (tysW cI cJ cZ cO) N0 cc mL RX1 ret nm) (S : CS) (M : MS) (ov : Nat → Int64) (z : Int32)  (hR : 1 + 1 ≤ R.frames ∧ 8 + (5 + 11) + 13 ≤ R.locals) (hcs : k + 0 ≤ R.cells ∧ n + 0 ≤ R.slots) (hcat : (st.map fun v => v.category).sum ≤ 8) (d : decode cc pc = .ok (.invokevirtual 197, 3)) (g : Go p l e R s m args below meth c D N0 mL Q (wW cI cJ cZ cO a S M ov) (k) (n) (pc + 3) lo (.long (pbb S z) :: st)) : Go p l e R s m args below meth c D N0 mL Q (wW cI cJ cZ cO a S M ov) k n pc lo (.int z :: .ref (a 0) :: st) :=
  go_callV C (ci := 1) (r9 := (RX1, TX1, 8)) (qi := 0) (As := [.int z]) (rest := st) rfl rfl (c_X1_partsByBands l D cI cJ cZ cO N0 a S M ov z ) ⟨rfl, by decide +kernel, by decide +kernel⟩ bl_RX1_197 bi_yX1_partsByBands bs_yX1_partsByBands bz_NoticeBook bc_yX1_partsByBands (show Option.map (fun d => d.parameters.length) (parseMethodDescriptor yX1_partsByBands.desc) = some 1 by decide +kernel) hR hcs hcat d (fun r w2 h => by obtain ⟨rfl, rfl⟩ := h; exact g) rfl
set_option maxHeartbeats 4000000 in
set_option maxRecDepth 100000 in
theorem c_X1_partsOfCents (l : Launch) (D : va_G) (cI cJ cZ cO : ClassId) (N0 : Nat) (a : Nat → Nat) (S : CS) (M : MS) (ov : Nat → Int64) (z1 z2 z3 : Int32)  : Ct l D (tysW cI cJ cZ cO) N0 yX1_partsOfCents cX1_partsOfCents 4 (some .long) { frames := 2, cells := 0, slots := 0, locals := 37 } [.ref (a 0), .int z1, .int z2, .int z3] (wW cI cJ cZ cO a S M ov) (fun r w2 => r = some (.long (poc S z1 z2 z3)) ∧ w2 = wW cI cJ cZ cO a S M ov) := by
  refine ct_of (by decide +kernel) (Nat.le_of_ble_eq_true rfl) ?_
  intro p e s m args below meth c C
  have C : Cxt p s m args meth c D (tysW cI cJ cZ cO) N0 cX1_partsOfCents 4 RX1 (some .long) "partsOfCents" := C
  refine go_aload_n C 0 dX1_partsOfCents_0 rfl rfl ?_
  refine gx_tiersByBands C dX1_partsOfCents_1 ?_
  refine go_if_eq C (tgt := 19) dX1_partsOfCents_4 (by decide) (fun c_1 => ?_) (fun c_1 => ?_)
  · refine go_iload_n C 2 dX1_partsOfCents_19 rfl rfl ?_
    refine go_iload_n C 1 dX1_partsOfCents_20 rfl rfl ?_
    refine go_isub C dX1_partsOfCents_21 ?_
    refine go_i2l C dX1_partsOfCents_22 ?_
    refine go_aload_n C 0 dX1_partsOfCents_23 rfl rfl ?_
    refine go_iload_n C 3 dX1_partsOfCents_24 rfl rfl ?_
    refine k_RX1_201 C S M ov z3 ⟨(Nat.le_of_ble_eq_true rfl), (Nat.le_of_ble_eq_true rfl)⟩ ⟨(Nat.le_of_ble_eq_true rfl), (Nat.le_of_ble_eq_true rfl)⟩ (Nat.le_of_ble_eq_true rfl) dX1_partsOfCents_25 ?_
    refine go_i2l C dX1_partsOfCents_28 ?_
    refine go_lmul C dX1_partsOfCents_29 ?_
    exact go_lreturn C rfl dX1_partsOfCents_30 (by decide) (by decide) ⟨by simp only [poc, if_pos c_1], rfl⟩
  · refine go_aload_n C 0 dX1_partsOfCents_7 rfl rfl ?_
    refine go_iload_n C 2 dX1_partsOfCents_8 rfl rfl ?_
    refine k_RX1_197 C S M ov z2 ⟨(Nat.le_of_ble_eq_true rfl), (Nat.le_of_ble_eq_true rfl)⟩ ⟨(Nat.le_of_ble_eq_true rfl), (Nat.le_of_ble_eq_true rfl)⟩ (Nat.le_of_ble_eq_true rfl) dX1_partsOfCents_9 ?_
    refine go_aload_n C 0 dX1_partsOfCents_12 rfl rfl ?_
    refine go_iload_n C 1 dX1_partsOfCents_13 rfl rfl ?_
    refine k_RX1_197 C S M ov z1 ⟨(Nat.le_of_ble_eq_true rfl), (Nat.le_of_ble_eq_true rfl)⟩ ⟨(Nat.le_of_ble_eq_true rfl), (Nat.le_of_ble_eq_true rfl)⟩ (Nat.le_of_ble_eq_true rfl) dX1_partsOfCents_14 ?_
    refine go_lsub C dX1_partsOfCents_17 ?_
    exact go_lreturn C rfl dX1_partsOfCents_18 (by decide) (by decide) ⟨by simp only [poc, if_neg c_1], rfl⟩
theorem k_RX1_176 {p : Program} {l : Launch} {e : Env} {R : Room} {s : State} {m : MethodId} {args : Array Value} {below : List Frame} {meth : Method} {c : Code} {D : va_G} {N0 mL : Nat} {cc : ByteArray} {nm : String} {ret : Option FieldType} {Q : State → Prop} {k n pc : Nat} {lo : List (Nat × Value)} {st : List Value} {cI cJ cZ cO : ClassId} {a : Nat → Nat} (C : Cxt p s m args meth c D (tysW cI cJ cZ cO) N0 cc mL RX1 ret nm) (S : CS) (M : MS) (ov : Nat → Int64) (z1 z2 z3 : Int32)  (hR : 2 + 1 ≤ R.frames ∧ 8 + (4 + 11) + 37 ≤ R.locals) (hcs : k + 0 ≤ R.cells ∧ n + 0 ≤ R.slots) (hcat : (st.map fun v => v.category).sum ≤ 8) (d : decode cc pc = .ok (.invokevirtual 176, 3)) (g : Go p l e R s m args below meth c D N0 mL Q (wW cI cJ cZ cO a S M ov) (k) (n) (pc + 3) lo (.long (poc S z1 z2 z3) :: st)) : Go p l e R s m args below meth c D N0 mL Q (wW cI cJ cZ cO a S M ov) k n pc lo (.int z3 :: .int z2 :: .int z1 :: .ref (a 0) :: st) :=
  go_callV C (ci := 1) (r9 := (RX1, TX1, 8)) (qi := 0) (As := [.int z1, .int z2, .int z3]) (rest := st) rfl rfl (c_X1_partsOfCents l D cI cJ cZ cO N0 a S M ov z1 z2 z3 ) ⟨rfl, by decide +kernel, by decide +kernel⟩ bl_RX1_176 bi_yX1_partsOfCents bs_yX1_partsOfCents bz_NoticeBook bc_yX1_partsOfCents (show Option.map (fun d => d.parameters.length) (parseMethodDescriptor yX1_partsOfCents.desc) = some 3 by decide +kernel) hR hcs hcat d (fun r w2 h => by obtain ⟨rfl, rfl⟩ := h; exact g) rfl
end
section
set_option maxHeartbeats 4000000 in
set_option maxRecDepth 100000 in
theorem c_X1_lotAt (l : Launch) (D : va_G) (cI cJ cZ cO : ClassId) (N0 : Nat) (a : Nat → Nat) (S : CS) (M : MS) (ov : Nat → Int64) (z : Int32) (hok : okX S) : Ct l D (tysW cI cJ cZ cO) N0 yX1_lotAt cX1_lotAt 3 (some (.object "NoticeBook$Lot")) { frames := 0, cells := 0, slots := 0, locals := 0 } [.ref (a 0), .int z] (wW cI cJ cZ cO a S M ov) (fun r w2 => r = some (va_rf ((xAt S z).map (cs_la S))) ∧ w2 = wW cI cJ cZ cO a S M ov) := by
  refine ct_of (by decide +kernel) (Nat.le_of_ble_eq_true rfl) ?_
  intro p e s m args below meth c C
  have C : Cxt p s m args meth c D (tysW cI cJ cZ cO) N0 cX1_lotAt 3 RX1 (some (.object "NoticeBook$Lot")) "lotAt" := C
  refine go_iload_n C 1 dX1_lotAt_0 rfl rfl ?_
  refine go_if_lt C (tgt := 13) dX1_lotAt_1 (by decide) (fun c_1 => ?_) (fun c_1 => ?_)
  · refine go_null C dX1_lotAt_13 ?_
    exact go_areturnq C (x := none) rfl dX1_lotAt_14 (by decide) (by decide) ⟨by simp only [xAt, if_pos c_1] <;> rfl, rfl⟩
  · refine go_iload_n C 1 dX1_lotAt_4 rfl rfl ?_
    refine go_aload_n C 0 dX1_lotAt_5 rfl rfl ?_
    refine gx_book C dX1_lotAt_6 ?_
    refine nx_bk C dX1_lotAt_9 ?_
    refine go_icmp_lt C (tgt := 15) dX1_lotAt_10 (by decide) (fun c_2 => ?_) (fun c_2 => ?_)
    · refine go_aload_n C 0 dX1_lotAt_15 rfl rfl ?_
      refine gx_book C dX1_lotAt_16 ?_
      refine go_iload_n C 1 dX1_lotAt_19 rfl rfl ?_
      refine lx_bk C (vin_lt (n := 40) c_1 c_2 (by decide)) dX1_lotAt_20 ?_
      rcases Nat.lt_or_ge z.toNatClampNeg (cs_n S) with hn | hn
      · refine go_st (st2 := [.ref (cs_la S z.toNatClampNeg)]) (by rw [hok.2.2.1 _ hn]; rfl) ?_
        refine go_astore_n C (lo' := [(2, .ref (cs_la S z.toNatClampNeg)), (0, .ref (a 0)), (1, .int z)]) dX1_lotAt_21 rfl (by decide) rfl ?_
        refine go_aload_n C 0 dX1_lotAt_22 rfl rfl ?_
        refine go_ifnull C dX1_lotAt_23 ?_
        refine go_aload_n C 0 dX1_lotAt_26 rfl rfl ?_
        refine gl_principal C (S := S) (i := z.toNatClampNeg) (Nat.lt_of_lt_of_le hn hok.2.1) dX1_lotAt_27 ?_
        refine go_if_le C (tgt := 37) dX1_lotAt_30 (by decide) (fun c_3 => ?_) (fun c_3 => ?_)
        · refine go_null C dX1_lotAt_37 ?_
          exact go_areturnq C (x := none) rfl dX1_lotAt_38 (by decide) (by decide) ⟨by simp only [xAt, if_neg c_1, if_pos c_2, if_pos c_3, if_pos hn] <;> rfl, rfl⟩
        · refine go_aload_n C 0 dX1_lotAt_33 rfl rfl ?_
          refine go_goto C (tgt := 38) dX1_lotAt_34 (by decide) ?_
          exact go_areturnq C (x := (some (cs_la S z.toNatClampNeg))) rfl dX1_lotAt_38 (by decide) (by decide) ⟨by simp only [xAt, if_neg c_1, if_pos c_2, if_neg c_3, if_pos hn] <;> rfl, rfl⟩
      · refine go_st (st2 := [.null]) (by rw [hok.2.2.2 _ (vin_cl c_1 c_2) hn]; rfl) ?_
        refine go_astore_nq C (x := none) (lo' := [(2, .null), (0, .ref (a 0)), (1, .int z)]) dX1_lotAt_21 rfl (by decide) rfl ?_
        refine go_aload_nq C (x := none) 0 dX1_lotAt_22 rfl rfl ?_
        refine go_ifnullN C (tgt := 37) dX1_lotAt_23 (by decide) ?_
        refine go_null C dX1_lotAt_37 ?_
        exact go_areturnq C (x := none) rfl dX1_lotAt_38 (by decide) (by decide) ⟨by simp only [xAt, if_neg c_1, if_pos c_2, if_neg (Nat.not_lt.mpr hn)] <;> rfl, rfl⟩
    · refine go_null C dX1_lotAt_13 ?_
      exact go_areturnq C (x := none) rfl dX1_lotAt_14 (by decide) (by decide) ⟨by simp only [xAt, if_neg c_1, if_neg c_2] <;> rfl, rfl⟩
theorem k_RX1_164 {p : Program} {l : Launch} {e : Env} {R : Room} {s : State} {m : MethodId} {args : Array Value} {below : List Frame} {meth : Method} {c : Code} {D : va_G} {N0 mL : Nat} {cc : ByteArray} {nm : String} {ret : Option FieldType} {Q : State → Prop} {k n pc : Nat} {lo : List (Nat × Value)} {st : List Value} {cI cJ cZ cO : ClassId} {a : Nat → Nat} (C : Cxt p s m args meth c D (tysW cI cJ cZ cO) N0 cc mL RX1 ret nm) (S : CS) (M : MS) (ov : Nat → Int64) (z : Int32) (hok : okX S) (hR : 0 + 1 ≤ R.frames ∧ 8 + (3 + 11) + 0 ≤ R.locals) (hcs : k + 0 ≤ R.cells ∧ n + 0 ≤ R.slots) (hcat : (st.map fun v => v.category).sum ≤ 8) (d : decode cc pc = .ok (.invokevirtual 164, 3)) (g : Go p l e R s m args below meth c D N0 mL Q (wW cI cJ cZ cO a S M ov) (k) (n) (pc + 3) lo (va_rf ((xAt S z).map (cs_la S)) :: st)) : Go p l e R s m args below meth c D N0 mL Q (wW cI cJ cZ cO a S M ov) k n pc lo (.int z :: .ref (a 0) :: st) :=
  go_callV C (ci := 1) (r9 := (RX1, TX1, 8)) (qi := 0) (As := [.int z]) (rest := st) rfl rfl (c_X1_lotAt l D cI cJ cZ cO N0 a S M ov z hok) ⟨rfl, by decide +kernel, by decide +kernel⟩ bl_RX1_164 bi_yX1_lotAt bs_yX1_lotAt bz_NoticeBook bc_yX1_lotAt (show Option.map (fun d => d.parameters.length) (parseMethodDescriptor yX1_lotAt.desc) = some 1 by decide +kernel) hR hcs hcat d (fun r w2 h => by obtain ⟨rfl, rfl⟩ := h; exact g) rfl
set_option maxHeartbeats 4000000 in
set_option maxRecDepth 100000 in
theorem c_X1_noticeLotAt (l : Launch) (D : va_G) (cI cJ cZ cO : ClassId) (N0 : Nat) (a : Nat → Nat) (S : CS) (M : MS) (ov : Nat → Int64) (z cu : Int32) (hok : okX S) : Ct l D (tysW cI cJ cZ cO) N0 yX1_noticeLotAt cX1_noticeLotAt 4 (some (.object "NoticeBook$Lot")) { frames := 1, cells := 0, slots := 0, locals := 22 } [.ref (a 0), .int z, .int cu] (wW cI cJ cZ cO a S M ov) (fun r w2 => r = some (va_rf ((xN S z cu).map (cs_la S))) ∧ w2 = wW cI cJ cZ cO a S M ov) := by
  refine ct_of (by decide +kernel) (Nat.le_of_ble_eq_true rfl) ?_
  intro p e s m args below meth c C
  have C : Cxt p s m args meth c D (tysW cI cJ cZ cO) N0 cX1_noticeLotAt 4 RX1 (some (.object "NoticeBook$Lot")) "noticeLotAt" := C
  refine go_aload_n C 0 dX1_noticeLotAt_0 rfl rfl ?_
  refine go_iload_n C 1 dX1_noticeLotAt_1 rfl rfl ?_
  refine k_RX1_164 C S M ov z hok ⟨(Nat.le_of_ble_eq_true rfl), (Nat.le_of_ble_eq_true rfl)⟩ ⟨(Nat.le_of_ble_eq_true rfl), (Nat.le_of_ble_eq_true rfl)⟩ (Nat.le_of_ble_eq_true rfl) dX1_noticeLotAt_2 ?_
  rcases opt_c (xAt S z) with hx_1 | ⟨j_2, hx_1⟩
  · refine go_st (st2 := [.null]) (by rw [hx_1]; rfl) ?_
    refine go_astore_nq C (x := none) (lo' := [(3, .null), (0, .ref (a 0)), (1, .int z), (2, .int cu)]) dX1_noticeLotAt_5 rfl (by decide) rfl ?_
    refine go_aload_nq C (x := none) 0 dX1_noticeLotAt_6 rfl rfl ?_
    refine go_ifnullN C (tgt := 29) dX1_noticeLotAt_7 (by decide) ?_
    refine go_null C dX1_noticeLotAt_29 ?_
    exact go_areturnq C (x := none) rfl dX1_noticeLotAt_30 (by decide) (by decide) ⟨by simp only [xN, hx_1] <;> rfl, rfl⟩
  · refine go_st (st2 := [.ref (cs_la S j_2)]) (by rw [hx_1]; rfl) ?_
    refine go_astore_n C (lo' := [(3, .ref (cs_la S j_2)), (0, .ref (a 0)), (1, .int z), (2, .int cu)]) dX1_noticeLotAt_5 rfl (by decide) rfl ?_
    refine go_aload_n C 0 dX1_noticeLotAt_6 rfl rfl ?_
    refine go_ifnull C dX1_noticeLotAt_7 ?_
    refine go_aload_n C 0 dX1_noticeLotAt_10 rfl rfl ?_
    refine k_RX1_76 C S M ov j_2 (xAt_nc hok hx_1) ⟨(Nat.le_of_ble_eq_true rfl), (Nat.le_of_ble_eq_true rfl)⟩ ⟨(Nat.le_of_ble_eq_true rfl), (Nat.le_of_ble_eq_true rfl)⟩ (Nat.le_of_ble_eq_true rfl) dX1_noticeLotAt_11 ?_
    refine go_if_ne C (tgt := 29) dX1_noticeLotAt_14 (by decide) (fun c_3 => ?_) (fun c_3 => ?_)
    · refine go_null C dX1_noticeLotAt_29 ?_
      exact go_areturnq C (x := none) rfl dX1_noticeLotAt_30 (by decide) (by decide) ⟨by simp only [xN, hx_1, if_neg c_3] <;> rfl, rfl⟩
    · refine go_aload_n C 0 dX1_noticeLotAt_17 rfl rfl ?_
      refine gl_customer C (S := S) (i := j_2) (xAt_nc hok hx_1) dX1_noticeLotAt_18 ?_
      refine go_iload_n C 3 dX1_noticeLotAt_21 rfl rfl ?_
      refine go_icmp_ne C (tgt := 29) dX1_noticeLotAt_22 (by decide) (fun c_4 => ?_) (fun c_4 => ?_)
      · refine go_null C dX1_noticeLotAt_29 ?_
        exact go_areturnq C (x := none) rfl dX1_noticeLotAt_30 (by decide) (by decide) ⟨by simp only [xN, hx_1, if_pos c_3, if_neg c_4] <;> rfl, rfl⟩
      · refine go_aload_n C 0 dX1_noticeLotAt_25 rfl rfl ?_
        refine go_goto C (tgt := 30) dX1_noticeLotAt_26 (by decide) ?_
        exact go_areturnq C (x := (some (cs_la S j_2))) rfl dX1_noticeLotAt_30 (by decide) (by decide) ⟨by simp only [xN, hx_1, if_pos c_3, if_pos c_4] <;> rfl, rfl⟩
theorem k_RX1_190 {p : Program} {l : Launch} {e : Env} {R : Room} {s : State} {m : MethodId} {args : Array Value} {below : List Frame} {meth : Method} {c : Code} {D : va_G} {N0 mL : Nat} {cc : ByteArray} {nm : String} {ret : Option FieldType} {Q : State → Prop} {k n pc : Nat} {lo : List (Nat × Value)} {st : List Value} {cI cJ cZ cO : ClassId} {a : Nat → Nat} (C : Cxt p s m args meth c D (tysW cI cJ cZ cO) N0 cc mL RX1 ret nm) (S : CS) (M : MS) (ov : Nat → Int64) (z cu : Int32) (hok : okX S) (hR : 1 + 1 ≤ R.frames ∧ 8 + (4 + 11) + 22 ≤ R.locals) (hcs : k + 0 ≤ R.cells ∧ n + 0 ≤ R.slots) (hcat : (st.map fun v => v.category).sum ≤ 8) (d : decode cc pc = .ok (.invokevirtual 190, 3)) (g : Go p l e R s m args below meth c D N0 mL Q (wW cI cJ cZ cO a S M ov) (k) (n) (pc + 3) lo (va_rf ((xN S z cu).map (cs_la S)) :: st)) : Go p l e R s m args below meth c D N0 mL Q (wW cI cJ cZ cO a S M ov) k n pc lo (.int cu :: .int z :: .ref (a 0) :: st) :=
  go_callV C (ci := 1) (r9 := (RX1, TX1, 8)) (qi := 0) (As := [.int z, .int cu]) (rest := st) rfl rfl (c_X1_noticeLotAt l D cI cJ cZ cO N0 a S M ov z cu hok) ⟨rfl, by decide +kernel, by decide +kernel⟩ bl_RX1_190 bi_yX1_noticeLotAt bs_yX1_noticeLotAt bz_NoticeBook bc_yX1_noticeLotAt (show Option.map (fun d => d.parameters.length) (parseMethodDescriptor yX1_noticeLotAt.desc) = some 2 by decide +kernel) hR hcs hcat d (fun r w2 h => by obtain ⟨rfl, rfl⟩ := h; exact g) rfl
set_option maxHeartbeats 4000000 in
set_option maxRecDepth 100000 in
theorem c_X1_demandLot (l : Launch) (hlf : l.stackTraces = false) (D : va_G) (cI cJ cZ cO : ClassId) (N0 : Nat) (a : Nat → Nat) (S : CS) (M : MS) (ov : Nat → Int64) (z : Int32) (hok : okX S) : CtX l D (tysW cI cJ cZ cO) N0 yX1_demandLot cX1_demandLot 3 (some (.object "NoticeBook$Lot")) { frames := 6, cells := 1, slots := 6, locals := 82 } [.ref (a 0), .int z] (wW cI cJ cZ cO a S M ov) (fun r w2 => ∃ j : Nat, xAt S z = some j ∧ r = some (.ref (cs_la S j)) ∧ w2 = wW cI cJ cZ cO a S M ov) (fun E w2 => (E = nb_I ∧ xAt S z = none) ∧ w2 = wW cI cJ cZ cO a S M ov) := by
  refine ctx_of (by decide +kernel) (Nat.le_of_ble_eq_true rfl) ?_
  intro p e s m args below meth c C ht
  have C : Cxt p s m args meth c D (tysW cI cJ cZ cO) N0 cX1_demandLot 3 RX1 (some (.object "NoticeBook$Lot")) "demandLot" := C
  refine go_aload_n C 0 dX1_demandLot_0 rfl rfl ?_
  refine go_iload_n C 1 dX1_demandLot_1 rfl rfl ?_
  refine k_RX1_164 C S M ov z hok ⟨(Nat.le_of_ble_eq_true rfl), (Nat.le_of_ble_eq_true rfl)⟩ ⟨(Nat.le_of_ble_eq_true rfl), (Nat.le_of_ble_eq_true rfl)⟩ (Nat.le_of_ble_eq_true rfl) dX1_demandLot_2 ?_
  rcases opt_c (xAt S z) with hx_1 | ⟨j_2, hx_1⟩
  · refine go_st (st2 := [.null]) (by rw [hx_1]; rfl) ?_
    refine go_astore_nq C (x := none) (lo' := [(2, .null), (0, .ref (a 0)), (1, .int z)]) dX1_demandLot_5 rfl (by decide) rfl ?_
    refine go_aload_nq C (x := none) 0 dX1_demandLot_6 rfl rfl ?_
    refine go_ifnonnullN C dX1_demandLot_7 ?_
    exact go_throw C hlf ht (names := nb_names) (text := "no such lot") rfl mem_I fit_nb_I nb_names_fit bcl_RX1_40 bz_IndexOutOfBoundsException (List.mem_of_getElem? (i := 4) rfl) hat_nb_I_44 hat2_nb_I_44 hgood_nb_I_40_44 dX1_demandLot_10 dX1_demandLot_13 dX1_demandLot_14 dX1_demandLot_16 dX1_demandLot_19 (by decide) (by decide) (by decide) (by decide) ⟨⟨rfl, hx_1⟩, rfl⟩ (by decide) (by decide)
  · refine go_st (st2 := [.ref (cs_la S j_2)]) (by rw [hx_1]; rfl) ?_
    refine go_astore_n C (lo' := [(2, .ref (cs_la S j_2)), (0, .ref (a 0)), (1, .int z)]) dX1_demandLot_5 rfl (by decide) rfl ?_
    refine go_aload_n C 0 dX1_demandLot_6 rfl rfl ?_
    refine go_ifnonnull C (tgt := 20) dX1_demandLot_7 (by decide) ?_
    refine go_aload_n C 0 dX1_demandLot_20 rfl rfl ?_
    exact go_x (go_areturnq C (x := (some (cs_la S j_2))) rfl dX1_demandLot_21 (by decide) (by decide) ⟨_, hx_1, rfl, rfl⟩)
theorem k_RX1_69 {p : Program} {l : Launch} {e : Env} {R : Room} {s : State} {m : MethodId} {args : Array Value} {below : List Frame} {meth : Method} {c : Code} {D : va_G} {N0 mL : Nat} {cc : ByteArray} {nm : String} {ret : Option FieldType} {Q : State → Prop} {k n pc : Nat} {lo : List (Nat × Value)} {st : List Value} {cI cJ cZ cO : ClassId} {a : Nat → Nat} (C : Cxt p s m args meth c D (tysW cI cJ cZ cO) N0 cc mL RX1 ret nm) (hlf : l.stackTraces = false) (S : CS) (M : MS) (ov : Nat → Int64) (z : Int32) (hok : okX S) (hR : 6 + 1 ≤ R.frames ∧ 8 + (3 + 11) + 82 ≤ R.locals) (hcs : k + 1 ≤ R.cells ∧ n + 6 ≤ R.slots) (hcat : (st.map fun v => v.category).sum ≤ 8) (d : decode cc pc = .ok (.invokevirtual 69, 3)) (gx : ∀ E : String, (E = nb_I ∧ xAt S z = none) → GoX p l e R s m args below meth c D N0 mL Q (wW cI cJ cZ cO a S M ov) (k + 1) (n + 6) pc lo E) (g : ∀ j : Nat, xAt S z = some j → Go p l e R s m args below meth c D N0 mL Q (wW cI cJ cZ cO a S M ov) (k + 1) (n + 6) (pc + 3) lo (.ref (cs_la S j) :: st)) : Go p l e R s m args below meth c D N0 mL Q (wW cI cJ cZ cO a S M ov) k n pc lo (.int z :: .ref (a 0) :: st) :=
  go_callVX C (ci := 1) (r9 := (RX1, TX1, 8)) (qi := 0) (As := [.int z]) (rest := st) rfl rfl (c_X1_demandLot l hlf D cI cJ cZ cO N0 a S M ov z hok) ⟨rfl, by decide +kernel, by decide +kernel⟩ bl_RX1_69 bi_yX1_demandLot bs_yX1_demandLot bz_NoticeBook bc_yX1_demandLot (show Option.map (fun d => d.parameters.length) (parseMethodDescriptor yX1_demandLot.desc) = some 1 by decide +kernel) hR hcs hcat d (fun E w2 h => by obtain ⟨h9, rfl⟩ := h; exact gx E h9) (fun r w2 h => by obtain ⟨j, h9, rfl, rfl⟩ := h; exact g j h9) rfl
set_option maxHeartbeats 4000000 in
set_option maxRecDepth 100000 in
theorem c_X1_demandNotice (l : Launch) (hlf : l.stackTraces = false) (D : va_G) (cI cJ cZ cO : ClassId) (N0 : Nat) (a : Nat → Nat) (S : CS) (M : MS) (ov : Nat → Int64) (z : Int32) (hok : okX S) : CtX l D (tysW cI cJ cZ cO) N0 yX1_demandNotice cX1_demandNotice 3 (some (.object "NoticeBook$Lot")) { frames := 7, cells := 2, slots := 12, locals := 104 } [.ref (a 0), .int z] (wW cI cJ cZ cO a S M ov) (fun r w2 => ∃ j : Nat, xO S z = some j ∧ r = some (.ref (cs_la S j)) ∧ w2 = wW cI cJ cZ cO a S M ov) (fun E w2 => ((E = nb_I ∧ xAt S z = none) ∨ (E = nb_S ∧ ∃ j, xAt S z = some j ∧ lr_fz (cs_lt S j) = 0)) ∧ w2 = wW cI cJ cZ cO a S M ov) := by
  refine ctx_of (by decide +kernel) (Nat.le_of_ble_eq_true rfl) ?_
  intro p e s m args below meth c C ht
  have C : Cxt p s m args meth c D (tysW cI cJ cZ cO) N0 cX1_demandNotice 3 RX1 (some (.object "NoticeBook$Lot")) "demandNotice" := C
  refine go_aload_n C 0 dX1_demandNotice_0 rfl rfl ?_
  refine go_iload_n C 1 dX1_demandNotice_1 rfl rfl ?_
  refine k_RX1_69 C hlf S M ov z hok ⟨(Nat.le_of_ble_eq_true rfl), (Nat.le_of_ble_eq_true rfl)⟩ ⟨(Nat.le_of_ble_eq_true rfl), (Nat.le_of_ble_eq_true rfl)⟩ (Nat.le_of_ble_eq_true rfl) dX1_demandNotice_2 (fun E hE_1 => gox_out C ht (⟨Or.inl hE_1, rfl⟩) (by decide) (by decide)) (fun j_2 h_3 => ?_)
  refine go_astore_n C (lo' := [(2, .ref (cs_la S j_2)), (0, .ref (a 0)), (1, .int z)]) dX1_demandNotice_5 rfl (by decide) rfl ?_
  refine go_aload_n C 0 dX1_demandNotice_6 rfl rfl ?_
  refine gl_frozenCents C (S := S) (i := j_2) (xAt_nc hok h_3) dX1_demandNotice_7 ?_
  refine go_if_ne C (tgt := 23) dX1_demandNotice_10 (by decide) (fun c_4 => ?_) (fun c_4 => ?_)
  · refine go_aload_n C 0 dX1_demandNotice_23 rfl rfl ?_
    exact go_x (go_areturnq C (x := (some (cs_la S j_2))) rfl dX1_demandNotice_24 (by decide) (by decide) ⟨_, by simp only [xO, h_3, if_neg c_4], rfl, rfl⟩)
  · exact go_throw C hlf ht (names := nb_names) (text := "no notice") rfl mem_S fit_nb_S nb_names_fit bcl_RX1_83 bz_IllegalStateException (List.mem_of_getElem? (i := 6) rfl) hat_nb_S_87 hat2_nb_S_87 hgood_nb_S_83_87 dX1_demandNotice_13 dX1_demandNotice_16 dX1_demandNotice_17 dX1_demandNotice_19 dX1_demandNotice_22 (by decide) (by decide) (by decide) (by decide) ⟨Or.inr ⟨rfl, _, h_3, c_4⟩, rfl⟩ (by decide) (by decide)
theorem k_RX1_91 {p : Program} {l : Launch} {e : Env} {R : Room} {s : State} {m : MethodId} {args : Array Value} {below : List Frame} {meth : Method} {c : Code} {D : va_G} {N0 mL : Nat} {cc : ByteArray} {nm : String} {ret : Option FieldType} {Q : State → Prop} {k n pc : Nat} {lo : List (Nat × Value)} {st : List Value} {cI cJ cZ cO : ClassId} {a : Nat → Nat} (C : Cxt p s m args meth c D (tysW cI cJ cZ cO) N0 cc mL RX1 ret nm) (hlf : l.stackTraces = false) (S : CS) (M : MS) (ov : Nat → Int64) (z : Int32) (hok : okX S) (hR : 7 + 1 ≤ R.frames ∧ 8 + (3 + 11) + 104 ≤ R.locals) (hcs : k + 2 ≤ R.cells ∧ n + 12 ≤ R.slots) (hcat : (st.map fun v => v.category).sum ≤ 8) (d : decode cc pc = .ok (.invokevirtual 91, 3)) (gx : ∀ E : String, ((E = nb_I ∧ xAt S z = none) ∨ (E = nb_S ∧ ∃ j, xAt S z = some j ∧ lr_fz (cs_lt S j) = 0)) → GoX p l e R s m args below meth c D N0 mL Q (wW cI cJ cZ cO a S M ov) (k + 2) (n + 12) pc lo E) (g : ∀ j : Nat, xO S z = some j → Go p l e R s m args below meth c D N0 mL Q (wW cI cJ cZ cO a S M ov) (k + 2) (n + 12) (pc + 3) lo (.ref (cs_la S j) :: st)) : Go p l e R s m args below meth c D N0 mL Q (wW cI cJ cZ cO a S M ov) k n pc lo (.int z :: .ref (a 0) :: st) :=
  go_callVX C (ci := 1) (r9 := (RX1, TX1, 8)) (qi := 0) (As := [.int z]) (rest := st) rfl rfl (c_X1_demandNotice l hlf D cI cJ cZ cO N0 a S M ov z hok) ⟨rfl, by decide +kernel, by decide +kernel⟩ bl_RX1_91 bi_yX1_demandNotice bs_yX1_demandNotice bz_NoticeBook bc_yX1_demandNotice (show Option.map (fun d => d.parameters.length) (parseMethodDescriptor yX1_demandNotice.desc) = some 1 by decide +kernel) hR hcs hcat d (fun E w2 h => by obtain ⟨h9, rfl⟩ := h; exact gx E h9) (fun r w2 h => by obtain ⟨j, h9, rfl, rfl⟩ := h; exact g j h9) rfl
end
section
set_option maxHeartbeats 4000000 in
set_option maxRecDepth 100000 in
theorem c_X1_totalOf (l : Launch) (D : va_G) (cI cJ cZ cO : ClassId) (N0 : Nat) (a : Nat → Nat) (S : CS) (M : MS) (ov : Nat → Int64) (cu : Int32) (hok : okX S) : Ct l D (tysW cI cJ cZ cO) N0 yX1_totalOf cX1_totalOf 5 (some .int) { frames := 2, cells := 0, slots := 0, locals := 45 } [.ref (a 0), .int cu] (wW cI cJ cZ cO a S M ov) (fun r w2 => r = some (.int (totTo S cu (cs_n S))) ∧ w2 = wW cI cJ cZ cO a S M ov) := by
  refine ct_of (by decide +kernel) (Nat.le_of_ble_eq_true rfl) ?_
  intro p e s m args below meth c C
  have C : Cxt p s m args meth c D (tysW cI cJ cZ cO) N0 cX1_totalOf 5 RX1 (some .int) "totalOf" := C
  refine go_iconst C (v := 0) dX1_totalOf_0 (by decide) ?_
  refine go_istore_n C (lo' := [(2, .int 0), (0, .ref (a 0)), (1, .int cu)]) dX1_totalOf_1 rfl (by decide) rfl ?_
  refine go_iconst C (v := 0) dX1_totalOf_2 (by decide) ?_
  refine go_istore_n C (lo' := [(3, .int 0), (2, .int 0), (0, .ref (a 0)), (1, .int cu)]) dX1_totalOf_3 rfl (by decide) rfl ?_
  refine go_for (cs_n S) (fun i => True) (fun i => wW cI cJ cZ cO a S M ov) (fun i => [(3, .int (nI i)), (2, .int (totTo S cu i)), (0, .ref (a 0)), (1, .int cu)]) ⟨rfl, rfl⟩ trivial (fun i hi_i hI_i ih_i => ?_) (fun hI_i => ?_)
  · refine go_iload_n C 0 dX1_totalOf_4 rfl rfl ?_
    refine go_aload_n C 2 dX1_totalOf_5 rfl rfl ?_
    refine gx_lotsMade C dX1_totalOf_6 ?_
    refine go_icmp_ge C (tgt := 39) dX1_totalOf_9 (by decide) (fun c_1 => absurd c_1 (nI_nge hi_i hok.1)) (fun c_1 => ?_)
    refine go_aload_n C 2 dX1_totalOf_12 rfl rfl ?_
    refine go_iload_n C 0 dX1_totalOf_13 rfl rfl ?_
    refine go_iload_n C 3 dX1_totalOf_14 rfl rfl ?_
    refine k_RX1_190 C S M ov (nI i) cu hok ⟨(Nat.le_of_ble_eq_true rfl), (Nat.le_of_ble_eq_true rfl)⟩ ⟨(Nat.le_of_ble_eq_true rfl), (Nat.le_of_ble_eq_true rfl)⟩ (Nat.le_of_ble_eq_true rfl) dX1_totalOf_15 ?_
    rcases opt_c (xN S (nI i) cu) with hx_2 | ⟨j_3, hx_2⟩
    · refine go_st (st2 := [.null]) (by rw [hx_2]; rfl) ?_
      refine go_astoreq C (x := none) (lo' := [(4, .null), (3, .int (nI i)), (2, .int (totTo S cu i)), (0, .ref (a 0)), (1, .int cu)]) dX1_totalOf_18 (by decide) rfl ?_
      refine go_aloadq C (x := none) 0 dX1_totalOf_20 rfl ?_
      refine go_ifnullN C (tgt := 33) dX1_totalOf_22 (by decide) ?_
      refine go_iinc C (v := nI (i + 1)) (lo' := [(3, .int (nI (i + 1))), (4, .null), (2, .int (totTo S cu i)), (0, .ref (a 0)), (1, .int cu)]) 1 dX1_totalOf_33 rfl (nI_1 _) (by decide) rfl ?_
      refine go_goto C (tgt := 4) dX1_totalOf_36 (by decide) ?_
      refine go_lo (lo' := [(3, .int (nI (i + 1))), (2, .int (totTo S cu (i + 1))), (0, .ref (a 0)), (1, .int cu)]) [0, 2, 3, 4] (by rw [totTo_n hx_2]; rfl) ?_
      exact ih_i trivial
    · refine go_st (st2 := [.ref (cs_la S j_3)]) (by rw [hx_2]; rfl) ?_
      refine go_astore C (lo' := [(4, .ref (cs_la S j_3)), (3, .int (nI i)), (2, .int (totTo S cu i)), (0, .ref (a 0)), (1, .int cu)]) dX1_totalOf_18 (by decide) rfl ?_
      refine go_aload C 0 dX1_totalOf_20 rfl ?_
      refine go_ifnull C dX1_totalOf_22 ?_
      refine go_iload_n C 2 dX1_totalOf_25 rfl rfl ?_
      refine go_aload C 0 dX1_totalOf_26 rfl ?_
      refine gl_principal C (S := S) (i := j_3) (xN_nc hok hx_2) dX1_totalOf_28 ?_
      refine go_iadd C dX1_totalOf_31 ?_
      refine go_istore_n C (lo' := [(2, .int ((totTo S cu i) + (lr_pr (cs_lt S j_3)))), (4, .ref (cs_la S j_3)), (3, .int (nI i)), (0, .ref (a 0)), (1, .int cu)]) dX1_totalOf_32 rfl (by decide) rfl ?_
      refine go_iinc C (v := nI (i + 1)) (lo' := [(3, .int (nI (i + 1))), (2, .int ((totTo S cu i) + (lr_pr (cs_lt S j_3)))), (4, .ref (cs_la S j_3)), (0, .ref (a 0)), (1, .int cu)]) 2 dX1_totalOf_33 rfl (nI_1 _) (by decide) rfl ?_
      refine go_goto C (tgt := 4) dX1_totalOf_36 (by decide) ?_
      refine go_lo (lo' := [(3, .int (nI (i + 1))), (2, .int (totTo S cu (i + 1))), (0, .ref (a 0)), (1, .int cu)]) [0, 1, 3, 4] (by rw [totTo_s hx_2]; rfl) ?_
      exact ih_i trivial
  · refine go_iload_n C 0 dX1_totalOf_4 rfl rfl ?_
    refine go_aload_n C 2 dX1_totalOf_5 rfl rfl ?_
    refine gx_lotsMade C dX1_totalOf_6 ?_
    refine go_icmp_ge C (tgt := 39) dX1_totalOf_9 (by decide) (fun c_4 => ?_) (fun c_4 => absurd (nI_ger hok.1) c_4)
    refine go_iload_n C 1 dX1_totalOf_39 rfl rfl ?_
    exact go_ireturn C rfl dX1_totalOf_40 (by decide) (by decide) ⟨rfl, rfl⟩
theorem k_RX1_173 {p : Program} {l : Launch} {e : Env} {R : Room} {s : State} {m : MethodId} {args : Array Value} {below : List Frame} {meth : Method} {c : Code} {D : va_G} {N0 mL : Nat} {cc : ByteArray} {nm : String} {ret : Option FieldType} {Q : State → Prop} {k n pc : Nat} {lo : List (Nat × Value)} {st : List Value} {cI cJ cZ cO : ClassId} {a : Nat → Nat} (C : Cxt p s m args meth c D (tysW cI cJ cZ cO) N0 cc mL RX1 ret nm) (S : CS) (M : MS) (ov : Nat → Int64) (cu : Int32) (hok : okX S) (hR : 2 + 1 ≤ R.frames ∧ 8 + (5 + 11) + 45 ≤ R.locals) (hcs : k + 0 ≤ R.cells ∧ n + 0 ≤ R.slots) (hcat : (st.map fun v => v.category).sum ≤ 8) (d : decode cc pc = .ok (.invokevirtual 173, 3)) (g : Go p l e R s m args below meth c D N0 mL Q (wW cI cJ cZ cO a S M ov) (k) (n) (pc + 3) lo (.int (totTo S cu (cs_n S)) :: st)) : Go p l e R s m args below meth c D N0 mL Q (wW cI cJ cZ cO a S M ov) k n pc lo (.int cu :: .ref (a 0) :: st) :=
  go_callV C (ci := 1) (r9 := (RX1, TX1, 8)) (qi := 0) (As := [.int cu]) (rest := st) rfl rfl (c_X1_totalOf l D cI cJ cZ cO N0 a S M ov cu hok) ⟨rfl, by decide +kernel, by decide +kernel⟩ bl_RX1_173 bi_yX1_totalOf bs_yX1_totalOf bz_NoticeBook bc_yX1_totalOf (show Option.map (fun d => d.parameters.length) (parseMethodDescriptor yX1_totalOf.desc) = some 1 by decide +kernel) hR hcs hcat d (fun r w2 h => by obtain ⟨rfl, rfl⟩ := h; exact g) rfl
set_option maxHeartbeats 4000000 in
set_option maxRecDepth 100000 in
theorem c_X1_unfrozenOf (l : Launch) (D : va_G) (cI cJ cZ cO : ClassId) (N0 : Nat) (a : Nat → Nat) (S : CS) (M : MS) (ov : Nat → Int64) (cu : Int32) (hok : okX S) : Ct l D (tysW cI cJ cZ cO) N0 yX1_unfrozenOf cX1_unfrozenOf 5 (some .int) { frames := 2, cells := 0, slots := 0, locals := 45 } [.ref (a 0), .int cu] (wW cI cJ cZ cO a S M ov) (fun r w2 => r = some (.int (unfTo S cu (cs_n S))) ∧ w2 = wW cI cJ cZ cO a S M ov) := by
  refine ct_of (by decide +kernel) (Nat.le_of_ble_eq_true rfl) ?_
  intro p e s m args below meth c C
  have C : Cxt p s m args meth c D (tysW cI cJ cZ cO) N0 cX1_unfrozenOf 5 RX1 (some .int) "unfrozenOf" := C
  refine go_iconst C (v := 0) dX1_unfrozenOf_0 (by decide) ?_
  refine go_istore_n C (lo' := [(2, .int 0), (0, .ref (a 0)), (1, .int cu)]) dX1_unfrozenOf_1 rfl (by decide) rfl ?_
  refine go_iconst C (v := 0) dX1_unfrozenOf_2 (by decide) ?_
  refine go_istore_n C (lo' := [(3, .int 0), (2, .int 0), (0, .ref (a 0)), (1, .int cu)]) dX1_unfrozenOf_3 rfl (by decide) rfl ?_
  refine go_for (cs_n S) (fun i => True) (fun i => wW cI cJ cZ cO a S M ov) (fun i => [(3, .int (nI i)), (2, .int (unfTo S cu i)), (0, .ref (a 0)), (1, .int cu)]) ⟨rfl, rfl⟩ trivial (fun i hi_i hI_i ih_i => ?_) (fun hI_i => ?_)
  · refine go_iload_n C 0 dX1_unfrozenOf_4 rfl rfl ?_
    refine go_aload_n C 2 dX1_unfrozenOf_5 rfl rfl ?_
    refine gx_lotsMade C dX1_unfrozenOf_6 ?_
    refine go_icmp_ge C (tgt := 39) dX1_unfrozenOf_9 (by decide) (fun c_1 => absurd c_1 (nI_nge hi_i hok.1)) (fun c_1 => ?_)
    refine go_aload_n C 2 dX1_unfrozenOf_12 rfl rfl ?_
    refine go_iload_n C 0 dX1_unfrozenOf_13 rfl rfl ?_
    refine go_iload_n C 3 dX1_unfrozenOf_14 rfl rfl ?_
    refine k_RX1_190 C S M ov (nI i) cu hok ⟨(Nat.le_of_ble_eq_true rfl), (Nat.le_of_ble_eq_true rfl)⟩ ⟨(Nat.le_of_ble_eq_true rfl), (Nat.le_of_ble_eq_true rfl)⟩ (Nat.le_of_ble_eq_true rfl) dX1_unfrozenOf_15 ?_
    rcases opt_c (xN S (nI i) cu) with hx_2 | ⟨j_3, hx_2⟩
    · refine go_st (st2 := [.null]) (by rw [hx_2]; rfl) ?_
      refine go_astoreq C (x := none) (lo' := [(4, .null), (3, .int (nI i)), (2, .int (unfTo S cu i)), (0, .ref (a 0)), (1, .int cu)]) dX1_unfrozenOf_18 (by decide) rfl ?_
      refine go_aloadq C (x := none) 0 dX1_unfrozenOf_20 rfl ?_
      refine go_ifnullN C (tgt := 33) dX1_unfrozenOf_22 (by decide) ?_
      refine go_iinc C (v := nI (i + 1)) (lo' := [(3, .int (nI (i + 1))), (4, .null), (2, .int (unfTo S cu i)), (0, .ref (a 0)), (1, .int cu)]) 1 dX1_unfrozenOf_33 rfl (nI_1 _) (by decide) rfl ?_
      refine go_goto C (tgt := 4) dX1_unfrozenOf_36 (by decide) ?_
      refine go_lo (lo' := [(3, .int (nI (i + 1))), (2, .int (unfTo S cu (i + 1))), (0, .ref (a 0)), (1, .int cu)]) [0, 2, 3, 4] (by rw [unfTo_n hx_2]; rfl) ?_
      exact ih_i trivial
    · refine go_st (st2 := [.ref (cs_la S j_3)]) (by rw [hx_2]; rfl) ?_
      refine go_astore C (lo' := [(4, .ref (cs_la S j_3)), (3, .int (nI i)), (2, .int (unfTo S cu i)), (0, .ref (a 0)), (1, .int cu)]) dX1_unfrozenOf_18 (by decide) rfl ?_
      refine go_aload C 0 dX1_unfrozenOf_20 rfl ?_
      refine go_ifnull C dX1_unfrozenOf_22 ?_
      refine go_iload_n C 2 dX1_unfrozenOf_25 rfl rfl ?_
      refine go_aload C 0 dX1_unfrozenOf_26 rfl ?_
      refine k_RX1_113 C S M ov j_3 (xN_nc hok hx_2) ⟨(Nat.le_of_ble_eq_true rfl), (Nat.le_of_ble_eq_true rfl)⟩ ⟨(Nat.le_of_ble_eq_true rfl), (Nat.le_of_ble_eq_true rfl)⟩ (Nat.le_of_ble_eq_true rfl) dX1_unfrozenOf_28 ?_
      refine go_iadd C dX1_unfrozenOf_31 ?_
      refine go_istore_n C (lo' := [(2, .int ((unfTo S cu i) + (unf (cs_lt S j_3)))), (4, .ref (cs_la S j_3)), (3, .int (nI i)), (0, .ref (a 0)), (1, .int cu)]) dX1_unfrozenOf_32 rfl (by decide) rfl ?_
      refine go_iinc C (v := nI (i + 1)) (lo' := [(3, .int (nI (i + 1))), (2, .int ((unfTo S cu i) + (unf (cs_lt S j_3)))), (4, .ref (cs_la S j_3)), (0, .ref (a 0)), (1, .int cu)]) 2 dX1_unfrozenOf_33 rfl (nI_1 _) (by decide) rfl ?_
      refine go_goto C (tgt := 4) dX1_unfrozenOf_36 (by decide) ?_
      refine go_lo (lo' := [(3, .int (nI (i + 1))), (2, .int (unfTo S cu (i + 1))), (0, .ref (a 0)), (1, .int cu)]) [0, 1, 3, 4] (by rw [unfTo_s hx_2]; rfl) ?_
      exact ih_i trivial
  · refine go_iload_n C 0 dX1_unfrozenOf_4 rfl rfl ?_
    refine go_aload_n C 2 dX1_unfrozenOf_5 rfl rfl ?_
    refine gx_lotsMade C dX1_unfrozenOf_6 ?_
    refine go_icmp_ge C (tgt := 39) dX1_unfrozenOf_9 (by decide) (fun c_4 => ?_) (fun c_4 => absurd (nI_ger hok.1) c_4)
    refine go_iload_n C 1 dX1_unfrozenOf_39 rfl rfl ?_
    exact go_ireturn C rfl dX1_unfrozenOf_40 (by decide) (by decide) ⟨rfl, rfl⟩
theorem k_RX1_101 {p : Program} {l : Launch} {e : Env} {R : Room} {s : State} {m : MethodId} {args : Array Value} {below : List Frame} {meth : Method} {c : Code} {D : va_G} {N0 mL : Nat} {cc : ByteArray} {nm : String} {ret : Option FieldType} {Q : State → Prop} {k n pc : Nat} {lo : List (Nat × Value)} {st : List Value} {cI cJ cZ cO : ClassId} {a : Nat → Nat} (C : Cxt p s m args meth c D (tysW cI cJ cZ cO) N0 cc mL RX1 ret nm) (S : CS) (M : MS) (ov : Nat → Int64) (cu : Int32) (hok : okX S) (hR : 2 + 1 ≤ R.frames ∧ 8 + (5 + 11) + 45 ≤ R.locals) (hcs : k + 0 ≤ R.cells ∧ n + 0 ≤ R.slots) (hcat : (st.map fun v => v.category).sum ≤ 8) (d : decode cc pc = .ok (.invokevirtual 101, 3)) (g : Go p l e R s m args below meth c D N0 mL Q (wW cI cJ cZ cO a S M ov) (k) (n) (pc + 3) lo (.int (unfTo S cu (cs_n S)) :: st)) : Go p l e R s m args below meth c D N0 mL Q (wW cI cJ cZ cO a S M ov) k n pc lo (.int cu :: .ref (a 0) :: st) :=
  go_callV C (ci := 1) (r9 := (RX1, TX1, 8)) (qi := 0) (As := [.int cu]) (rest := st) rfl rfl (c_X1_unfrozenOf l D cI cJ cZ cO N0 a S M ov cu hok) ⟨rfl, by decide +kernel, by decide +kernel⟩ bl_RX1_101 bi_yX1_unfrozenOf bs_yX1_unfrozenOf bz_NoticeBook bc_yX1_unfrozenOf (show Option.map (fun d => d.parameters.length) (parseMethodDescriptor yX1_unfrozenOf.desc) = some 1 by decide +kernel) hR hcs hcat d (fun r w2 h => by obtain ⟨rfl, rfl⟩ := h; exact g) rfl
set_option maxHeartbeats 4000000 in
set_option maxRecDepth 100000 in
theorem c_X1_lots (l : Launch) (D : va_G) (cI cJ cZ cO : ClassId) (N0 : Nat) (a : Nat → Nat) (S : CS) (M : MS) (ov : Nat → Int64) (hok : okX S) : Ct l D (tysW cI cJ cZ cO) N0 yX1_lots cX1_lots 3 (some .int) { frames := 1, cells := 0, slots := 0, locals := 22 } [.ref (a 0)] (wW cI cJ cZ cO a S M ov) (fun r w2 => r = some (.int (loTo S (cs_n S))) ∧ w2 = wW cI cJ cZ cO a S M ov) := by
  refine ct_of (by decide +kernel) (Nat.le_of_ble_eq_true rfl) ?_
  intro p e s m args below meth c C
  have C : Cxt p s m args meth c D (tysW cI cJ cZ cO) N0 cX1_lots 3 RX1 (some .int) "lots" := C
  refine go_iconst C (v := 0) dX1_lots_0 (by decide) ?_
  refine go_istore_n C (lo' := [(1, .int 0), (0, .ref (a 0))]) dX1_lots_1 rfl (by decide) rfl ?_
  refine go_iconst C (v := 0) dX1_lots_2 (by decide) ?_
  refine go_istore_n C (lo' := [(2, .int 0), (1, .int 0), (0, .ref (a 0))]) dX1_lots_3 rfl (by decide) rfl ?_
  refine go_for (cs_n S) (fun i => True) (fun i => wW cI cJ cZ cO a S M ov) (fun i => [(2, .int (nI i)), (1, .int (loTo S i)), (0, .ref (a 0))]) ⟨rfl, rfl⟩ trivial (fun i hi_i hI_i ih_i => ?_) (fun hI_i => ?_)
  · refine go_iload_n C 0 dX1_lots_4 rfl rfl ?_
    refine go_aload_n C 2 dX1_lots_5 rfl rfl ?_
    refine gx_lotsMade C dX1_lots_6 ?_
    refine go_icmp_ge C (tgt := 29) dX1_lots_9 (by decide) (fun c_1 => absurd c_1 (nI_nge hi_i hok.1)) (fun c_1 => ?_)
    refine go_aload_n C 2 dX1_lots_12 rfl rfl ?_
    refine go_iload_n C 0 dX1_lots_13 rfl rfl ?_
    refine k_RX1_164 C S M ov (nI i) hok ⟨(Nat.le_of_ble_eq_true rfl), (Nat.le_of_ble_eq_true rfl)⟩ ⟨(Nat.le_of_ble_eq_true rfl), (Nat.le_of_ble_eq_true rfl)⟩ (Nat.le_of_ble_eq_true rfl) dX1_lots_14 ?_
    rcases opt_c (xAt S (nI i)) with hx_2 | ⟨j_3, hx_2⟩
    · refine go_st (st2 := [.null]) (by rw [hx_2]; rfl) ?_
      refine go_ifnullN C (tgt := 23) dX1_lots_17 (by decide) ?_
      refine go_iinc C (v := nI (i + 1)) (lo' := [(2, .int (nI (i + 1))), (1, .int (loTo S i)), (0, .ref (a 0))]) 0 dX1_lots_23 rfl (nI_1 _) (by decide) rfl ?_
      refine go_goto C (tgt := 4) dX1_lots_26 (by decide) ?_
      refine go_lo (lo' := [(2, .int (nI (i + 1))), (1, .int (loTo S (i + 1))), (0, .ref (a 0))]) [0, 1, 2] (by rw [loTo_n hx_2]; rfl) ?_
      exact ih_i trivial
    · refine go_st (st2 := [.ref (cs_la S j_3)]) (by rw [hx_2]; rfl) ?_
      refine go_ifnull C dX1_lots_17 ?_
      refine go_iinc C (v := (loTo S i) + 1) (lo' := [(1, .int ((loTo S i) + 1)), (2, .int (nI i)), (0, .ref (a 0))]) 1 dX1_lots_20 rfl rfl (by decide) rfl ?_
      refine go_iinc C (v := nI (i + 1)) (lo' := [(2, .int (nI (i + 1))), (1, .int ((loTo S i) + 1)), (0, .ref (a 0))]) 1 dX1_lots_23 rfl (nI_1 _) (by decide) rfl ?_
      refine go_goto C (tgt := 4) dX1_lots_26 (by decide) ?_
      refine go_lo (lo' := [(2, .int (nI (i + 1))), (1, .int (loTo S (i + 1))), (0, .ref (a 0))]) [0, 1, 2] (by rw [loTo_s hx_2]; rfl) ?_
      exact ih_i trivial
  · refine go_iload_n C 0 dX1_lots_4 rfl rfl ?_
    refine go_aload_n C 2 dX1_lots_5 rfl rfl ?_
    refine gx_lotsMade C dX1_lots_6 ?_
    refine go_icmp_ge C (tgt := 29) dX1_lots_9 (by decide) (fun c_4 => ?_) (fun c_4 => absurd (nI_ger hok.1) c_4)
    refine go_iload_n C 1 dX1_lots_29 rfl rfl ?_
    exact go_ireturn C rfl dX1_lots_30 (by decide) (by decide) ⟨rfl, rfl⟩
theorem k_RL_140 {p : Program} {l : Launch} {e : Env} {R : Room} {s : State} {m : MethodId} {args : Array Value} {below : List Frame} {meth : Method} {c : Code} {D : va_G} {N0 mL : Nat} {cc : ByteArray} {nm : String} {ret : Option FieldType} {Q : State → Prop} {k n pc : Nat} {lo : List (Nat × Value)} {st : List Value} {cI cJ cZ cO : ClassId} {a : Nat → Nat} (C : Cxt p s m args meth c D (tysW cI cJ cZ cO) N0 cc mL RL ret nm) (S : CS) (M : MS) (ov : Nat → Int64) (hok : okX S) (hR : 1 + 1 ≤ R.frames ∧ 8 + (3 + 11) + 22 ≤ R.locals) (hcs : k + 0 ≤ R.cells ∧ n + 0 ≤ R.slots) (hcat : (st.map fun v => v.category).sum ≤ 8) (d : decode cc pc = .ok (.invokevirtual 140, 3)) (g : Go p l e R s m args below meth c D N0 mL Q (wW cI cJ cZ cO a S M ov) (k) (n) (pc + 3) lo (.int (loTo S (cs_n S)) :: st)) : Go p l e R s m args below meth c D N0 mL Q (wW cI cJ cZ cO a S M ov) k n pc lo (.ref (a 0) :: st) :=
  go_callV C (ci := 1) (r9 := (RX1, TX1, 8)) (qi := 0) (As := []) (rest := st) rfl rfl (c_X1_lots l D cI cJ cZ cO N0 a S M ov hok) ⟨rfl, by decide +kernel, by decide +kernel⟩ bl_RL_140 bi_yX1_lots bs_yX1_lots bz_NoticeBook bc_yX1_lots (show Option.map (fun d => d.parameters.length) (parseMethodDescriptor yX1_lots.desc) = some 0 by decide +kernel) hR hcs hcat d (fun r w2 h => by obtain ⟨rfl, rfl⟩ := h; exact g) rfl
end
section
theorem va_rf_c (o : Option Nat) : (va_rf o).category = 1 := by cases o <;> rfl
theorem lhTo_nc {S : CS} (hok : okX S) {cu : Int32} {b : Nat} : ∀ {i : Nat}, lhTo S cu i = some b → b < cs_nc S
  | 0, h => by cases h
  | i + 1, h => by
    rcases opt_c (xN S (nI i) cu) with hx | ⟨j, hx⟩
    · rw [lhTo_n hx] at h; exact lhTo_nc hok h
    · by_cases c : unf (cs_lt S j) ≤ 0
      · rw [lhTo_s0 hx c] at h; exact lhTo_nc hok h
      · rcases opt_c (lhTo S cu i) with g | ⟨b2, g⟩
        · rw [lhTo_s1 hx c g] at h; cases h; exact xN_nc hok hx
        · by_cases k : hnm (cs_lt S j) (cs_lt S b2) = 0
          · rw [lhTo_s2 hx c g k] at h; cases h; exact lhTo_nc hok g
          · rw [lhTo_s3 hx c g k] at h; cases h; exact xN_nc hok hx
theorem bd1_pos {S : CS} {j : Nat} (c : cs_day S < lr_tf (cs_lt S j) + 7) : S = bd1 S j := by
  simp only [bd1, if_pos c] <;> rfl
theorem bd1_neg {S : CS} {j : Nat} (c : ¬ cs_day S < lr_tf (cs_lt S j) + 7) : cs_setLot S j (lr_set_fz (cs_lt S j) 0) = bd1 S j := by
  simp only [bd1, if_neg c] <;> rfl
theorem et1_eq (S : CS) (i : Nat) : cs_setLot (drwS S i) i (lr_set_pr (cs_lt (drwS S i) i) (lr_pr (cs_lt S i) + drwC (cs_lt S i))) = et1 S i := by
  show cs_setLot (cs_setLot S i (drwR (cs_lt S i))) i (lr_set_pr (cs_lt (cs_setLot S i (drwR (cs_lt S i))) i) (lr_pr (cs_lt S i) + drwC (cs_lt S i))) = _
  rw [setLot_two, setLot_lt]
  rfl
theorem nar_b {v : Int32} (h : v = 0 ∨ v = 1) : narrow .boolean (.int v) = .int v := by rcases h with rfl | rfl <;> rfl
theorem fit_b {v : Int32} (h : v = 0 ∨ v = 1) : fits .boolean (.int v) = true := by rcases h with rfl | rfl <;> rfl
theorem np_w {S : CS} {cu : Int32} {i j : Nat} (h : xN S (nI i) cu = some j) : cs_setLot (cs_set_lt S (npL S cu i)) j (lr_set_pa (cs_lt (cs_set_lt S (npL S cu i)) j) (poc (cs_set_lt S (npL S cu i)) (totTo S cu i) (totTo S cu i + lr_pr (cs_lt (cs_set_lt S (npL S cu i)) j)) (totTo S cu (cs_n S)))) = cs_set_lt S (npL S cu (i + 1)) := by
  have e : lr_pr (cs_lt (cs_set_lt S (npL S cu i)) j) = lr_pr (cs_lt S j) := pr_np j
  rw [e, npL_s h]
  rfl
theorem np_t {S : CS} {cu : Int32} {i j : Nat} (h : xN S (nI i) cu = some j) : totTo S cu i + lr_pr (cs_lt (cs_set_lt S (npL S cu i)) j) = totTo S cu (i + 1) := by
  have e : lr_pr (cs_lt (cs_set_lt S (npL S cu i)) j) = lr_pr (cs_lt S j) := pr_np j
  rw [e, totTo_s h]
theorem eo_w {S : CS} {i j : Nat} (h : xAt S (nI i) = some j) : cs_setLot (cs_set_lt S (eoL S i)) j (lr_set_ea (cs_lt (cs_set_lt S (eoL S i)) j) (lr_ea (cs_lt (cs_set_lt S (eoL S i)) j) + lr_pa (cs_lt (cs_set_lt S (eoL S i)) j))) = cs_set_lt S (eoL S (i + 1)) := by
  rw [eoL_s h]
theorem bd_w1 {S : CS} {i j : Nat} (h : xAt (bdTo S i).2 (nI i) = some j) (c : lr_en (cs_lt (bd1 (bdTo S i).2 j) j) = cs_day (bd1 (bdTo S i).2 j)) : etX (bd1 (bdTo S i).2 j) j = (bdTo S (i + 1)).2 ∧ (bdTo S i).1 + 1 = (bdTo S (i + 1)).1 := by
  rw [bdTo_s h]
  refine ⟨?_, by rw [if_pos c]⟩
  show _ = bdS1 (bdTo S i).2 j
  rw [bdS1, mixS_pos c rfl]
theorem bd_w2 {S : CS} {i j : Nat} (h : xAt (bdTo S i).2 (nI i) = some j) (c : ¬ lr_en (cs_lt (bd1 (bdTo S i).2 j) j) = cs_day (bd1 (bdTo S i).2 j)) : bd1 (bdTo S i).2 j = (bdTo S (i + 1)).2 ∧ (bdTo S i).1 = (bdTo S (i + 1)).1 := by
  rw [bdTo_s h]
  refine ⟨?_, by rw [if_neg c]⟩
  show _ = bdS1 (bdTo S i).2 j
  rw [bdS1, mixS_neg c rfl]
set_option maxHeartbeats 4000000 in
set_option maxRecDepth 100000 in
theorem c_X1_noteParts (l : Launch) (D : va_G) (cI cJ cZ cO : ClassId) (N0 : Nat) (a : Nat → Nat) (S : CS) (M : MS) (ov : Nat → Int64) (cu : Int32) (hok : okX S) : Ct l D (tysW cI cJ cZ cO) N0 yX1_noteParts cX1_noteParts 7 none { frames := 3, cells := 0, slots := 0, locals := 69 } [.ref (a 0), .int cu] (wW cI cJ cZ cO a S M ov) (fun r w2 => r = none ∧ w2 = wW cI cJ cZ cO a (noteX S cu) M ov) := by
  refine ct_of (by decide +kernel) (Nat.le_of_ble_eq_true rfl) ?_
  intro p e s m args below meth c C
  have C : Cxt p s m args meth c D (tysW cI cJ cZ cO) N0 cX1_noteParts 7 RX1 none "noteParts" := C
  refine go_aload_n C 0 dX1_noteParts_0 rfl rfl ?_
  refine go_iload_n C 1 dX1_noteParts_1 rfl rfl ?_
  refine k_RX1_173 C S M ov cu hok ⟨(Nat.le_of_ble_eq_true rfl), (Nat.le_of_ble_eq_true rfl)⟩ ⟨(Nat.le_of_ble_eq_true rfl), (Nat.le_of_ble_eq_true rfl)⟩ (Nat.le_of_ble_eq_true rfl) dX1_noteParts_2 ?_
  refine go_istore_n C (lo' := [(2, .int (totTo S cu (cs_n S))), (0, .ref (a 0)), (1, .int cu)]) dX1_noteParts_5 rfl (by decide) rfl ?_
  refine go_iconst C (v := 0) dX1_noteParts_6 (by decide) ?_
  refine go_istore_n C (lo' := [(3, .int 0), (2, .int (totTo S cu (cs_n S))), (0, .ref (a 0)), (1, .int cu)]) dX1_noteParts_7 rfl (by decide) rfl ?_
  refine go_iconst C (v := 0) dX1_noteParts_8 (by decide) ?_
  refine go_istore C (lo' := [(4, .int 0), (3, .int 0), (2, .int (totTo S cu (cs_n S))), (0, .ref (a 0)), (1, .int cu)]) dX1_noteParts_9 (by decide) rfl ?_
  refine go_for (cs_n S) (fun i => True) (fun i => wW cI cJ cZ cO a (cs_set_lt S (npL S cu i)) M ov) (fun i => [(4, .int (nI i)), (3, .int (totTo S cu i)), (2, .int (totTo S cu (cs_n S))), (0, .ref (a 0)), (1, .int cu)]) ⟨rfl, rfl⟩ trivial (fun i hi_i hI_i ih_i => ?_) (fun hI_i => ?_)
  · refine go_iload C 0 dX1_noteParts_11 rfl ?_
    refine go_aload_n C 3 dX1_noteParts_13 rfl rfl ?_
    refine gx_lotsMade C dX1_noteParts_14 ?_
    refine go_icmp_ge C (tgt := 65) dX1_noteParts_17 (by decide) (fun c_1 => absurd c_1 (nI_nge hi_i hok.1)) (fun c_1 => ?_)
    refine go_aload_n C 3 dX1_noteParts_20 rfl rfl ?_
    refine go_iload C 0 dX1_noteParts_21 rfl ?_
    refine go_iload_n C 4 dX1_noteParts_23 rfl rfl ?_
    refine k_RX1_190 C (cs_set_lt S (npL S cu i)) M ov (nI i) cu hok ⟨(Nat.le_of_ble_eq_true rfl), (Nat.le_of_ble_eq_true rfl)⟩ ⟨(Nat.le_of_ble_eq_true rfl), (Nat.le_of_ble_eq_true rfl)⟩ (Nat.le_of_ble_eq_true rfl) dX1_noteParts_24 ?_
    rcases opt_c (xN S (nI i) cu) with hx_2 | ⟨j_3, hx_2⟩
    · refine go_st (st2 := [.null]) (by rw [xN_np, hx_2]; rfl) ?_
      refine go_astoreq C (x := none) (lo' := [(5, .null), (4, .int (nI i)), (3, .int (totTo S cu i)), (2, .int (totTo S cu (cs_n S))), (0, .ref (a 0)), (1, .int cu)]) dX1_noteParts_27 (by decide) rfl ?_
      refine go_aloadq C (x := none) 0 dX1_noteParts_29 rfl ?_
      refine go_ifnullN C (tgt := 59) dX1_noteParts_31 (by decide) ?_
      refine go_iinc C (v := nI (i + 1)) (lo' := [(4, .int (nI (i + 1))), (5, .null), (3, .int (totTo S cu i)), (2, .int (totTo S cu (cs_n S))), (0, .ref (a 0)), (1, .int cu)]) 1 dX1_noteParts_59 rfl (nI_1 _) (by decide) rfl ?_
      refine go_goto C (tgt := 11) dX1_noteParts_62 (by decide) ?_
      refine go_lo (lo' := [(4, .int (nI (i + 1))), (3, .int (totTo S cu (i + 1))), (2, .int (totTo S cu (cs_n S))), (0, .ref (a 0)), (1, .int cu)]) [0, 2, 3, 4, 5] (by rw [totTo_n hx_2]; rfl) ?_
      refine go_w (w2 := wW cI cJ cZ cO a (cs_set_lt S (npL S cu (i + 1))) M ov) (by rw [npL_n hx_2]) ?_
      exact ih_i trivial
    · refine go_st (st2 := [.ref (cs_la S j_3)]) (by rw [xN_np, hx_2]; rfl) ?_
      refine go_astore C (lo' := [(5, .ref (cs_la S j_3)), (4, .int (nI i)), (3, .int (totTo S cu i)), (2, .int (totTo S cu (cs_n S))), (0, .ref (a 0)), (1, .int cu)]) dX1_noteParts_27 (by decide) rfl ?_
      refine go_aload C 0 dX1_noteParts_29 rfl ?_
      refine go_ifnull C dX1_noteParts_31 ?_
      refine go_iload_n C 2 dX1_noteParts_34 rfl rfl ?_
      refine go_aload C 0 dX1_noteParts_35 rfl ?_
      refine gl_principal C (S := cs_set_lt S (npL S cu i)) (i := j_3) (xN_nc hok hx_2) dX1_noteParts_37 ?_
      refine go_iadd C dX1_noteParts_40 ?_
      refine go_istore C (lo' := [(6, .int ((totTo S cu i) + (lr_pr (cs_lt (cs_set_lt S (npL S cu i)) j_3)))), (5, .ref (cs_la S j_3)), (4, .int (nI i)), (3, .int (totTo S cu i)), (2, .int (totTo S cu (cs_n S))), (0, .ref (a 0)), (1, .int cu)]) dX1_noteParts_41 (by decide) rfl ?_
      refine go_aload C 1 dX1_noteParts_43 rfl ?_
      refine go_aload_n C 5 dX1_noteParts_45 rfl rfl ?_
      refine go_iload_n C 3 dX1_noteParts_46 rfl rfl ?_
      refine go_iload C 0 dX1_noteParts_47 rfl ?_
      refine go_iload_n C 4 dX1_noteParts_49 rfl rfl ?_
      refine k_RX1_176 C (cs_set_lt S (npL S cu i)) M ov (totTo S cu i) ((totTo S cu i) + (lr_pr (cs_lt (cs_set_lt S (npL S cu i)) j_3))) (totTo S cu (cs_n S)) ⟨(Nat.le_of_ble_eq_true rfl), (Nat.le_of_ble_eq_true rfl)⟩ ⟨(Nat.le_of_ble_eq_true rfl), (Nat.le_of_ble_eq_true rfl)⟩ (Nat.le_of_ble_eq_true rfl) dX1_noteParts_50 ?_
      refine pl_parts C (S := cs_set_lt S (npL S cu i)) (i := j_3) (xN_nc hok hx_2) dX1_noteParts_53 ?_
      refine go_iload C 0 dX1_noteParts_56 rfl ?_
      refine go_istore_n C (lo' := [(3, .int ((totTo S cu i) + (lr_pr (cs_lt (cs_set_lt S (npL S cu i)) j_3)))), (6, .int ((totTo S cu i) + (lr_pr (cs_lt (cs_set_lt S (npL S cu i)) j_3)))), (5, .ref (cs_la S j_3)), (4, .int (nI i)), (2, .int (totTo S cu (cs_n S))), (0, .ref (a 0)), (1, .int cu)]) dX1_noteParts_58 rfl (by decide) rfl ?_
      refine go_iinc C (v := nI (i + 1)) (lo' := [(4, .int (nI (i + 1))), (3, .int ((totTo S cu i) + (lr_pr (cs_lt (cs_set_lt S (npL S cu i)) j_3)))), (6, .int ((totTo S cu i) + (lr_pr (cs_lt (cs_set_lt S (npL S cu i)) j_3)))), (5, .ref (cs_la S j_3)), (2, .int (totTo S cu (cs_n S))), (0, .ref (a 0)), (1, .int cu)]) 3 dX1_noteParts_59 rfl (nI_1 _) (by decide) rfl ?_
      refine go_goto C (tgt := 11) dX1_noteParts_62 (by decide) ?_
      refine go_lo (lo' := [(4, .int (nI (i + 1))), (3, .int (totTo S cu (i + 1))), (2, .int (totTo S cu (cs_n S))), (0, .ref (a 0)), (1, .int cu)]) [0, 1, 4, 5, 6] (by rw [← np_t hx_2]; rfl) ?_
      refine go_w (w2 := wW cI cJ cZ cO a (cs_set_lt S (npL S cu (i + 1))) M ov) (by rw [← np_w hx_2]) ?_
      exact ih_i trivial
  · refine go_iload C 0 dX1_noteParts_11 rfl ?_
    refine go_aload_n C 3 dX1_noteParts_13 rfl rfl ?_
    refine gx_lotsMade C dX1_noteParts_14 ?_
    refine go_icmp_ge C (tgt := 65) dX1_noteParts_17 (by decide) (fun c_4 => ?_) (fun c_4 => absurd (nI_ger hok.1) c_4)
    exact go_return C rfl dX1_noteParts_65 (by decide) (by decide) ⟨rfl, rfl⟩
theorem k_RX1_107 {p : Program} {l : Launch} {e : Env} {R : Room} {s : State} {m : MethodId} {args : Array Value} {below : List Frame} {meth : Method} {c : Code} {D : va_G} {N0 mL : Nat} {cc : ByteArray} {nm : String} {ret : Option FieldType} {Q : State → Prop} {k n pc : Nat} {lo : List (Nat × Value)} {st : List Value} {cI cJ cZ cO : ClassId} {a : Nat → Nat} (C : Cxt p s m args meth c D (tysW cI cJ cZ cO) N0 cc mL RX1 ret nm) (S : CS) (M : MS) (ov : Nat → Int64) (cu : Int32) (hok : okX S) (hR : 3 + 1 ≤ R.frames ∧ 8 + (7 + 11) + 69 ≤ R.locals) (hcs : k + 0 ≤ R.cells ∧ n + 0 ≤ R.slots) (hcat : (st.map fun v => v.category).sum ≤ 8) (d : decode cc pc = .ok (.invokevirtual 107, 3)) (g : Go p l e R s m args below meth c D N0 mL Q (wW cI cJ cZ cO a (noteX S cu) M ov) (k) (n) (pc + 3) lo (st)) : Go p l e R s m args below meth c D N0 mL Q (wW cI cJ cZ cO a S M ov) k n pc lo (.int cu :: .ref (a 0) :: st) :=
  go_callV C (ci := 1) (r9 := (RX1, TX1, 8)) (qi := 0) (As := [.int cu]) (rest := st) rfl rfl (c_X1_noteParts l D cI cJ cZ cO N0 a S M ov cu hok) ⟨rfl, by decide +kernel, by decide +kernel⟩ bl_RX1_107 bi_yX1_noteParts bs_yX1_noteParts bz_NoticeBook bc_yX1_noteParts (show Option.map (fun d => d.parameters.length) (parseMethodDescriptor yX1_noteParts.desc) = some 1 by decide +kernel) hR hcs hcat d (fun r w2 h => by obtain ⟨rfl, rfl⟩ := h; exact g) rfl
set_option maxHeartbeats 4000000 in
set_option maxRecDepth 100000 in
theorem c_X1_earnOneDay (l : Launch) (D : va_G) (cI cJ cZ cO : ClassId) (N0 : Nat) (a : Nat → Nat) (S : CS) (M : MS) (ov : Nat → Int64) (hok : okX S) : Ct l D (tysW cI cJ cZ cO) N0 yX1_earnOneDay cX1_earnOneDay 3 none { frames := 1, cells := 0, slots := 0, locals := 22 } [.ref (a 0)] (wW cI cJ cZ cO a S M ov) (fun r w2 => r = none ∧ w2 = wW cI cJ cZ cO a (eoX S) M ov) := by
  refine ct_of (by decide +kernel) (Nat.le_of_ble_eq_true rfl) ?_
  intro p e s m args below meth c C
  have C : Cxt p s m args meth c D (tysW cI cJ cZ cO) N0 cX1_earnOneDay 3 RX1 none "earnOneDay" := C
  refine go_iconst C (v := 0) dX1_earnOneDay_0 (by decide) ?_
  refine go_istore_n C (lo' := [(1, .int 0), (0, .ref (a 0))]) dX1_earnOneDay_1 rfl (by decide) rfl ?_
  refine go_for (cs_n S) (fun i => True) (fun i => wW cI cJ cZ cO a (cs_set_lt S (eoL S i)) M ov) (fun i => [(1, .int (nI i)), (0, .ref (a 0))]) ⟨rfl, rfl⟩ trivial (fun i hi_i hI_i ih_i => ?_) (fun hI_i => ?_)
  · refine go_iload_n C 0 dX1_earnOneDay_2 rfl rfl ?_
    refine go_aload_n C 1 dX1_earnOneDay_3 rfl rfl ?_
    refine gx_lotsMade C dX1_earnOneDay_4 ?_
    refine go_icmp_ge C (tgt := 39) dX1_earnOneDay_7 (by decide) (fun c_1 => absurd c_1 (nI_nge hi_i hok.1)) (fun c_1 => ?_)
    refine go_aload_n C 1 dX1_earnOneDay_10 rfl rfl ?_
    refine go_iload_n C 0 dX1_earnOneDay_11 rfl rfl ?_
    refine k_RX1_164 C (cs_set_lt S (eoL S i)) M ov (nI i) hok ⟨(Nat.le_of_ble_eq_true rfl), (Nat.le_of_ble_eq_true rfl)⟩ ⟨(Nat.le_of_ble_eq_true rfl), (Nat.le_of_ble_eq_true rfl)⟩ (Nat.le_of_ble_eq_true rfl) dX1_earnOneDay_12 ?_
    rcases opt_c (xAt S (nI i)) with hx_2 | ⟨j_3, hx_2⟩
    · refine go_st (st2 := [.null]) (by rw [xAt_eo, hx_2]; rfl) ?_
      refine go_astore_nq C (x := none) (lo' := [(2, .null), (1, .int (nI i)), (0, .ref (a 0))]) dX1_earnOneDay_15 rfl (by decide) rfl ?_
      refine go_aload_nq C (x := none) 0 dX1_earnOneDay_16 rfl rfl ?_
      refine go_ifnullN C (tgt := 33) dX1_earnOneDay_17 (by decide) ?_
      refine go_iinc C (v := nI (i + 1)) (lo' := [(1, .int (nI (i + 1))), (2, .null), (0, .ref (a 0))]) 1 dX1_earnOneDay_33 rfl (nI_1 _) (by decide) rfl ?_
      refine go_goto C (tgt := 2) dX1_earnOneDay_36 (by decide) ?_
      refine go_lo (lo' := [(1, .int (nI (i + 1))), (0, .ref (a 0))]) [0, 2] (by rfl) ?_
      refine go_w (w2 := wW cI cJ cZ cO a (cs_set_lt S (eoL S (i + 1))) M ov) (by rw [eoL_n hx_2]) ?_
      exact ih_i trivial
    · refine go_st (st2 := [.ref (cs_la S j_3)]) (by rw [xAt_eo, hx_2]; rfl) ?_
      refine go_astore_n C (lo' := [(2, .ref (cs_la S j_3)), (1, .int (nI i)), (0, .ref (a 0))]) dX1_earnOneDay_15 rfl (by decide) rfl ?_
      refine go_aload_n C 0 dX1_earnOneDay_16 rfl rfl ?_
      refine go_ifnull C dX1_earnOneDay_17 ?_
      refine go_aload_n C 0 dX1_earnOneDay_20 rfl rfl ?_
      refine go_dup C dX1_earnOneDay_21 rfl ?_
      refine gl_earned C (S := cs_set_lt S (eoL S i)) (i := j_3) (xAt_nc hok hx_2) dX1_earnOneDay_22 ?_
      refine go_aload_n C 0 dX1_earnOneDay_25 rfl rfl ?_
      refine gl_parts C (S := cs_set_lt S (eoL S i)) (i := j_3) (xAt_nc hok hx_2) dX1_earnOneDay_26 ?_
      refine go_ladd C dX1_earnOneDay_29 ?_
      refine pl_earned C (S := cs_set_lt S (eoL S i)) (i := j_3) (xAt_nc hok hx_2) dX1_earnOneDay_30 ?_
      refine go_iinc C (v := nI (i + 1)) (lo' := [(1, .int (nI (i + 1))), (2, .ref (cs_la S j_3)), (0, .ref (a 0))]) 1 dX1_earnOneDay_33 rfl (nI_1 _) (by decide) rfl ?_
      refine go_goto C (tgt := 2) dX1_earnOneDay_36 (by decide) ?_
      refine go_lo (lo' := [(1, .int (nI (i + 1))), (0, .ref (a 0))]) [0, 2] (by rfl) ?_
      refine go_w (w2 := wW cI cJ cZ cO a (cs_set_lt S (eoL S (i + 1))) M ov) (by rw [← eo_w hx_2]) ?_
      exact ih_i trivial
  · refine go_iload_n C 0 dX1_earnOneDay_2 rfl rfl ?_
    refine go_aload_n C 1 dX1_earnOneDay_3 rfl rfl ?_
    refine gx_lotsMade C dX1_earnOneDay_4 ?_
    refine go_icmp_ge C (tgt := 39) dX1_earnOneDay_7 (by decide) (fun c_4 => ?_) (fun c_4 => absurd (nI_ger hok.1) c_4)
    exact go_return C rfl dX1_earnOneDay_39 (by decide) (by decide) ⟨rfl, rfl⟩
theorem k_RX1_158 {p : Program} {l : Launch} {e : Env} {R : Room} {s : State} {m : MethodId} {args : Array Value} {below : List Frame} {meth : Method} {c : Code} {D : va_G} {N0 mL : Nat} {cc : ByteArray} {nm : String} {ret : Option FieldType} {Q : State → Prop} {k n pc : Nat} {lo : List (Nat × Value)} {st : List Value} {cI cJ cZ cO : ClassId} {a : Nat → Nat} (C : Cxt p s m args meth c D (tysW cI cJ cZ cO) N0 cc mL RX1 ret nm) (S : CS) (M : MS) (ov : Nat → Int64) (hok : okX S) (hR : 1 + 1 ≤ R.frames ∧ 8 + (3 + 11) + 22 ≤ R.locals) (hcs : k + 0 ≤ R.cells ∧ n + 0 ≤ R.slots) (hcat : (st.map fun v => v.category).sum ≤ 8) (d : decode cc pc = .ok (.invokevirtual 158, 3)) (g : Go p l e R s m args below meth c D N0 mL Q (wW cI cJ cZ cO a (eoX S) M ov) (k) (n) (pc + 3) lo (st)) : Go p l e R s m args below meth c D N0 mL Q (wW cI cJ cZ cO a S M ov) k n pc lo (.ref (a 0) :: st) :=
  go_callV C (ci := 1) (r9 := (RX1, TX1, 8)) (qi := 0) (As := []) (rest := st) rfl rfl (c_X1_earnOneDay l D cI cJ cZ cO N0 a S M ov hok) ⟨rfl, by decide +kernel, by decide +kernel⟩ bl_RX1_158 bi_yX1_earnOneDay bs_yX1_earnOneDay bz_NoticeBook bc_yX1_earnOneDay (show Option.map (fun d => d.parameters.length) (parseMethodDescriptor yX1_earnOneDay.desc) = some 0 by decide +kernel) hR hcs hcat d (fun r w2 h => by obtain ⟨rfl, rfl⟩ := h; exact g) rfl
set_option maxHeartbeats 4000000 in
set_option maxRecDepth 100000 in
theorem c_X1_leastHarmful (l : Launch) (D : va_G) (cI cJ cZ cO : ClassId) (N0 : Nat) (a : Nat → Nat) (S : CS) (M : MS) (ov : Nat → Int64) (cu : Int32) (hok : okX S) : Ct l D (tysW cI cJ cZ cO) N0 yX1_leastHarmful cX1_leastHarmful 5 (some (.object "NoticeBook$Lot")) { frames := 2, cells := 0, slots := 0, locals := 45 } [.ref (a 0), .int cu] (wW cI cJ cZ cO a S M ov) (fun r w2 => r = some (va_rf ((lhTo S cu (cs_n S)).map (cs_la S))) ∧ w2 = wW cI cJ cZ cO a S M ov) := by
  refine ct_of (by decide +kernel) (Nat.le_of_ble_eq_true rfl) ?_
  intro p e s m args below meth c C
  have C : Cxt p s m args meth c D (tysW cI cJ cZ cO) N0 cX1_leastHarmful 5 RX1 (some (.object "NoticeBook$Lot")) "leastHarmful" := C
  refine go_null C dX1_leastHarmful_0 ?_
  refine go_astore_nq C (x := none) (lo' := [(2, .null), (0, .ref (a 0)), (1, .int cu)]) dX1_leastHarmful_1 rfl (by decide) rfl ?_
  refine go_iconst C (v := 0) dX1_leastHarmful_2 (by decide) ?_
  refine go_istore_n C (lo' := [(3, .int 0), (2, .null), (0, .ref (a 0)), (1, .int cu)]) dX1_leastHarmful_3 rfl (by decide) rfl ?_
  refine go_for (cs_n S) (fun i => True) (fun i => wW cI cJ cZ cO a S M ov) (fun i => [(3, .int (nI i)), (2, va_rf ((lhTo S cu i).map (cs_la S))), (0, .ref (a 0)), (1, .int cu)]) ⟨rfl, rfl⟩ trivial (fun i hi_i hI_i ih_i => ?_) (fun hI_i => ?_)
  · refine go_iload_n C 0 dX1_leastHarmful_4 rfl rfl ?_
    refine go_aload_n C 2 dX1_leastHarmful_5 rfl rfl ?_
    refine gx_lotsMade C dX1_leastHarmful_6 ?_
    refine go_icmp_ge C (tgt := 55) dX1_leastHarmful_9 (by decide) (fun c_1 => absurd c_1 (nI_nge hi_i hok.1)) (fun c_1 => ?_)
    refine go_aload_n C 2 dX1_leastHarmful_12 rfl rfl ?_
    refine go_iload_n C 0 dX1_leastHarmful_13 rfl rfl ?_
    refine go_iload_n C 3 dX1_leastHarmful_14 rfl rfl ?_
    refine k_RX1_190 C S M ov (nI i) cu hok ⟨(Nat.le_of_ble_eq_true rfl), (Nat.le_of_ble_eq_true rfl)⟩ ⟨(Nat.le_of_ble_eq_true rfl), (Nat.le_of_ble_eq_true rfl)⟩ (Nat.le_of_ble_eq_true rfl) dX1_leastHarmful_15 ?_
    rcases opt_c (xN S (nI i) cu) with hx_2 | ⟨j_3, hx_2⟩
    · refine go_st (st2 := [.null]) (by rw [hx_2]; rfl) ?_
      refine go_astoreq C (x := none) (lo' := [(4, .null), (3, .int (nI i)), (2, va_rf ((lhTo S cu i).map (cs_la S))), (0, .ref (a 0)), (1, .int cu)]) dX1_leastHarmful_18 (by decide) rfl ?_
      refine go_aloadq C (x := none) 0 dX1_leastHarmful_20 rfl ?_
      refine go_ifnullN C (tgt := 49) dX1_leastHarmful_22 (by decide) ?_
      refine go_iinc C (v := nI (i + 1)) (lo' := [(3, .int (nI (i + 1))), (4, .null), (2, va_rf ((lhTo S cu i).map (cs_la S))), (0, .ref (a 0)), (1, .int cu)]) 1 dX1_leastHarmful_49 rfl (nI_1 _) (by decide) (by simp [va_rf_c]) ?_
      refine go_goto C (tgt := 4) dX1_leastHarmful_52 (by decide) ?_
      refine go_lo (lo' := [(3, .int (nI (i + 1))), (2, va_rf ((lhTo S cu (i + 1)).map (cs_la S))), (0, .ref (a 0)), (1, .int cu)]) [0, 2, 3, 4] (by rw [lhTo_n hx_2]; rfl) ?_
      exact ih_i trivial
    · refine go_st (st2 := [.ref (cs_la S j_3)]) (by rw [hx_2]; rfl) ?_
      refine go_astore C (lo' := [(4, .ref (cs_la S j_3)), (3, .int (nI i)), (2, va_rf ((lhTo S cu i).map (cs_la S))), (0, .ref (a 0)), (1, .int cu)]) dX1_leastHarmful_18 (by decide) rfl ?_
      refine go_aload C 0 dX1_leastHarmful_20 rfl ?_
      refine go_ifnull C dX1_leastHarmful_22 ?_
      refine go_aload C 0 dX1_leastHarmful_25 rfl ?_
      refine k_RX1_113 C S M ov j_3 (xN_nc hok hx_2) ⟨(Nat.le_of_ble_eq_true rfl), (Nat.le_of_ble_eq_true rfl)⟩ ⟨(Nat.le_of_ble_eq_true rfl), (Nat.le_of_ble_eq_true rfl)⟩ (Nat.le_of_ble_eq_true rfl) dX1_leastHarmful_27 ?_
      refine go_if_le C (tgt := 49) dX1_leastHarmful_30 (by decide) (fun c_4 => ?_) (fun c_4 => ?_)
      · refine go_iinc C (v := nI (i + 1)) (lo' := [(3, .int (nI (i + 1))), (4, .ref (cs_la S j_3)), (2, va_rf ((lhTo S cu i).map (cs_la S))), (0, .ref (a 0)), (1, .int cu)]) 1 dX1_leastHarmful_49 rfl (nI_1 _) (by decide) (by simp [va_rf_c]) ?_
        refine go_goto C (tgt := 4) dX1_leastHarmful_52 (by decide) ?_
        refine go_lo (lo' := [(3, .int (nI (i + 1))), (2, va_rf ((lhTo S cu (i + 1)).map (cs_la S))), (0, .ref (a 0)), (1, .int cu)]) [0, 2, 3, 4] (by rw [lhTo_s0 hx_2 c_4]; rfl) ?_
        exact ih_i trivial
      · refine go_aload_nq C 2 dX1_leastHarmful_33 rfl rfl ?_
        rcases opt_c (lhTo S cu i) with hx_5 | ⟨b_6, hx_5⟩
        · refine go_st (st2 := [.null]) (by rw [hx_5]; rfl) ?_
          refine go_lo (lo' := [(4, .ref (cs_la S j_3)), (3, .int (nI i)), (2, .null), (0, .ref (a 0)), (1, .int cu)]) [0, 1, 2, 3, 4] (by rw [hx_5]; rfl) ?_
          refine go_ifnullN C (tgt := 46) dX1_leastHarmful_34 (by decide) ?_
          refine go_aload C 0 dX1_leastHarmful_46 rfl ?_
          refine go_astore_n C (lo' := [(2, .ref (cs_la S j_3)), (4, .ref (cs_la S j_3)), (3, .int (nI i)), (0, .ref (a 0)), (1, .int cu)]) dX1_leastHarmful_48 rfl (by decide) rfl ?_
          refine go_iinc C (v := nI (i + 1)) (lo' := [(3, .int (nI (i + 1))), (2, .ref (cs_la S j_3)), (4, .ref (cs_la S j_3)), (0, .ref (a 0)), (1, .int cu)]) 2 dX1_leastHarmful_49 rfl (nI_1 _) (by decide) rfl ?_
          refine go_goto C (tgt := 4) dX1_leastHarmful_52 (by decide) ?_
          refine go_lo (lo' := [(3, .int (nI (i + 1))), (2, va_rf ((lhTo S cu (i + 1)).map (cs_la S))), (0, .ref (a 0)), (1, .int cu)]) [0, 1, 3, 4] (by rw [lhTo_s1 hx_2 c_4 hx_5]; rfl) ?_
          exact ih_i trivial
        · refine go_st (st2 := [.ref (cs_la S b_6)]) (by rw [hx_5]; rfl) ?_
          refine go_lo (lo' := [(4, .ref (cs_la S j_3)), (3, .int (nI i)), (2, .ref (cs_la S b_6)), (0, .ref (a 0)), (1, .int cu)]) [0, 1, 2, 3, 4] (by rw [hx_5]; rfl) ?_
          refine go_ifnull C dX1_leastHarmful_34 ?_
          refine go_aload C 0 dX1_leastHarmful_37 rfl ?_
          refine go_aload_n C 2 dX1_leastHarmful_39 rfl rfl ?_
          refine k_RX1_194 C S M ov j_3 b_6 (xN_nc hok hx_2) (lhTo_nc hok hx_5) ⟨(Nat.le_of_ble_eq_true rfl), (Nat.le_of_ble_eq_true rfl)⟩ ⟨(Nat.le_of_ble_eq_true rfl), (Nat.le_of_ble_eq_true rfl)⟩ (Nat.le_of_ble_eq_true rfl) dX1_leastHarmful_40 ?_
          refine go_if_eq C (tgt := 49) dX1_leastHarmful_43 (by decide) (fun c_7 => ?_) (fun c_7 => ?_)
          · refine go_iinc C (v := nI (i + 1)) (lo' := [(3, .int (nI (i + 1))), (4, .ref (cs_la S j_3)), (2, .ref (cs_la S b_6)), (0, .ref (a 0)), (1, .int cu)]) 1 dX1_leastHarmful_49 rfl (nI_1 _) (by decide) rfl ?_
            refine go_goto C (tgt := 4) dX1_leastHarmful_52 (by decide) ?_
            refine go_lo (lo' := [(3, .int (nI (i + 1))), (2, va_rf ((lhTo S cu (i + 1)).map (cs_la S))), (0, .ref (a 0)), (1, .int cu)]) [0, 2, 3, 4] (by rw [lhTo_s2 hx_2 c_4 hx_5 c_7]; rfl) ?_
            exact ih_i trivial
          · refine go_aload C 0 dX1_leastHarmful_46 rfl ?_
            refine go_astore_n C (lo' := [(2, .ref (cs_la S j_3)), (4, .ref (cs_la S j_3)), (3, .int (nI i)), (0, .ref (a 0)), (1, .int cu)]) dX1_leastHarmful_48 rfl (by decide) rfl ?_
            refine go_iinc C (v := nI (i + 1)) (lo' := [(3, .int (nI (i + 1))), (2, .ref (cs_la S j_3)), (4, .ref (cs_la S j_3)), (0, .ref (a 0)), (1, .int cu)]) 2 dX1_leastHarmful_49 rfl (nI_1 _) (by decide) rfl ?_
            refine go_goto C (tgt := 4) dX1_leastHarmful_52 (by decide) ?_
            refine go_lo (lo' := [(3, .int (nI (i + 1))), (2, va_rf ((lhTo S cu (i + 1)).map (cs_la S))), (0, .ref (a 0)), (1, .int cu)]) [0, 1, 3, 4] (by rw [lhTo_s3 hx_2 c_4 hx_5 c_7]; rfl) ?_
            exact ih_i trivial
  · refine go_iload_n C 0 dX1_leastHarmful_4 rfl rfl ?_
    refine go_aload_n C 2 dX1_leastHarmful_5 rfl rfl ?_
    refine gx_lotsMade C dX1_leastHarmful_6 ?_
    refine go_icmp_ge C (tgt := 55) dX1_leastHarmful_9 (by decide) (fun c_8 => ?_) (fun c_8 => absurd (nI_ger hok.1) c_8)
    refine go_aload_nq C 1 dX1_leastHarmful_55 rfl rfl ?_
    exact go_areturnq C (x := (lhTo S cu (cs_n S)).map (cs_la S)) rfl dX1_leastHarmful_56 (by decide) (by decide) ⟨rfl, rfl⟩
theorem k_RX1_110 {p : Program} {l : Launch} {e : Env} {R : Room} {s : State} {m : MethodId} {args : Array Value} {below : List Frame} {meth : Method} {c : Code} {D : va_G} {N0 mL : Nat} {cc : ByteArray} {nm : String} {ret : Option FieldType} {Q : State → Prop} {k n pc : Nat} {lo : List (Nat × Value)} {st : List Value} {cI cJ cZ cO : ClassId} {a : Nat → Nat} (C : Cxt p s m args meth c D (tysW cI cJ cZ cO) N0 cc mL RX1 ret nm) (S : CS) (M : MS) (ov : Nat → Int64) (cu : Int32) (hok : okX S) (hR : 2 + 1 ≤ R.frames ∧ 8 + (5 + 11) + 45 ≤ R.locals) (hcs : k + 0 ≤ R.cells ∧ n + 0 ≤ R.slots) (hcat : (st.map fun v => v.category).sum ≤ 8) (d : decode cc pc = .ok (.invokevirtual 110, 3)) (g : Go p l e R s m args below meth c D N0 mL Q (wW cI cJ cZ cO a S M ov) (k) (n) (pc + 3) lo (va_rf ((lhTo S cu (cs_n S)).map (cs_la S)) :: st)) : Go p l e R s m args below meth c D N0 mL Q (wW cI cJ cZ cO a S M ov) k n pc lo (.int cu :: .ref (a 0) :: st) :=
  go_callV C (ci := 1) (r9 := (RX1, TX1, 8)) (qi := 0) (As := [.int cu]) (rest := st) rfl rfl (c_X1_leastHarmful l D cI cJ cZ cO N0 a S M ov cu hok) ⟨rfl, by decide +kernel, by decide +kernel⟩ bl_RX1_110 bi_yX1_leastHarmful bs_yX1_leastHarmful bz_NoticeBook bc_yX1_leastHarmful (show Option.map (fun d => d.parameters.length) (parseMethodDescriptor yX1_leastHarmful.desc) = some 1 by decide +kernel) hR hcs hcat d (fun r w2 h => by obtain ⟨rfl, rfl⟩ := h; exact g) rfl
end
section
set_option maxHeartbeats 4000000 in
set_option maxRecDepth 100000 in
theorem c_X1_enter (l : Launch) (hlf : l.stackTraces = false) (D : va_G) (cI cJ cZ cO : ClassId) (N0 : Nat) (a : Nat → Nat) (S : CS) (M : MS) (ov : Nat → Int64) (i : Nat) (hi : i < cs_nc S) (hn : cs_n S ≤ 40) : CtX l D (tysW cI cJ cZ cO) N0 yX1_enter cX1_enter 3 (some .int) { frames := 6, cells := 1, slots := 6, locals := 82 } [.ref (a 0), .ref (cs_la S i)] (wW cI cJ cZ cO a S M ov) (fun r w2 => cs_n S < 40 ∧ r = some (.int (nI (cs_n S))) ∧ w2 = wW cI cJ cZ cO a (entS S i) M ov) (fun E w2 => (E = nb_S ∧ 40 ≤ cs_n S) ∧ w2 = wW cI cJ cZ cO a S M ov) := by
  refine ctx_of (by decide +kernel) (Nat.le_of_ble_eq_true rfl) ?_
  intro p e s m args below meth c C ht
  have C : Cxt p s m args meth c D (tysW cI cJ cZ cO) N0 cX1_enter 3 RX1 (some .int) "enter" := C
  refine go_aload_n C 0 dX1_enter_0 rfl rfl ?_
  refine gx_lotsMade C dX1_enter_1 ?_
  refine go_istore_n C (lo' := [(2, .int (nI (cs_n S))), (0, .ref (a 0)), (1, .ref (cs_la S i))]) dX1_enter_4 rfl (by decide) rfl ?_
  refine go_iload_n C 0 dX1_enter_5 rfl rfl ?_
  refine go_if_lt C (tgt := 18) dX1_enter_6 (by decide) (fun c_1 => absurd c_1 (nI_npos hn)) (fun c_1 => ?_)
  refine go_iload_n C 0 dX1_enter_9 rfl rfl ?_
  refine go_aload_n C 1 dX1_enter_10 rfl rfl ?_
  refine gx_book C dX1_enter_11 ?_
  refine nx_bk C dX1_enter_14 ?_
  rcases Nat.lt_or_ge (cs_n S) 40 with hq | hq
  · refine go_icmp_lt C (tgt := 28) dX1_enter_15 (by decide) (fun c_2 => ?_) (fun c_2 => absurd (nI_lt40 hq) c_2)
    refine go_aload_n C 1 dX1_enter_28 rfl rfl ?_
    refine gx_book C dX1_enter_29 ?_
    refine go_iload_n C 0 dX1_enter_32 rfl rfl ?_
    refine go_aload_n C 2 dX1_enter_33 rfl rfl ?_
    refine sx_bk C (S := S) (i := i) hi (nI_vin hq) dX1_enter_34 ?_
    rw [cl_nI (Nat.lt_trans hq (by decide))]
    refine go_aload_n C 1 dX1_enter_35 rfl rfl ?_
    refine go_dup C dX1_enter_36 rfl ?_
    refine gx_lotsMade C dX1_enter_37 ?_
    refine go_iconst C (v := 1) dX1_enter_40 (by decide) ?_
    refine go_iadd C dX1_enter_41 ?_
    refine px_lotsMade C (n2 := cs_n S + 1) (nI_1 _) dX1_enter_42 ?_
    refine go_iload_n C 0 dX1_enter_45 rfl rfl ?_
    exact go_x (go_ireturn C rfl dX1_enter_46 (by decide) (by decide) ⟨hq, rfl, rfl⟩)
  · refine go_icmp_lt C (tgt := 28) dX1_enter_15 (by decide) (fun c_3 => absurd c_3 (nI_nlt40 hq hn)) (fun c_3 => ?_)
    exact go_throw C hlf ht (names := nb_names) (text := "there have been 40 lots") rfl mem_S fit_nb_S nb_names_fit bcl_RX1_83 bz_IllegalStateException (List.mem_of_getElem? (i := 3) rfl) hat_nb_S_87 hat2_nb_S_87 hgood_nb_S_83_87 dX1_enter_18 dX1_enter_21 dX1_enter_22 dX1_enter_24 dX1_enter_27 (by decide) (by decide) (by decide) (by decide) ⟨⟨rfl, hq⟩, rfl⟩ (by decide) (by decide)
theorem k_RX1_58 {p : Program} {l : Launch} {e : Env} {R : Room} {s : State} {m : MethodId} {args : Array Value} {below : List Frame} {meth : Method} {c : Code} {D : va_G} {N0 mL : Nat} {cc : ByteArray} {nm : String} {ret : Option FieldType} {Q : State → Prop} {k n pc : Nat} {lo : List (Nat × Value)} {st : List Value} {cI cJ cZ cO : ClassId} {a : Nat → Nat} (C : Cxt p s m args meth c D (tysW cI cJ cZ cO) N0 cc mL RX1 ret nm) (hlf : l.stackTraces = false) (S : CS) (M : MS) (ov : Nat → Int64) (i : Nat) (hi : i < cs_nc S) (hn : cs_n S ≤ 40) (hR : 6 + 1 ≤ R.frames ∧ 8 + (3 + 11) + 82 ≤ R.locals) (hcs : k + 1 ≤ R.cells ∧ n + 6 ≤ R.slots) (hcat : (st.map fun v => v.category).sum ≤ 8) (d : decode cc pc = .ok (.invokevirtual 58, 3)) (gx : ∀ E : String, (E = nb_S ∧ 40 ≤ cs_n S) → GoX p l e R s m args below meth c D N0 mL Q (wW cI cJ cZ cO a S M ov) (k + 1) (n + 6) pc lo E) (g : (cs_n S < 40) → Go p l e R s m args below meth c D N0 mL Q (wW cI cJ cZ cO a (entS S i) M ov) (k + 1) (n + 6) (pc + 3) lo (.int (nI (cs_n S)) :: st)) : Go p l e R s m args below meth c D N0 mL Q (wW cI cJ cZ cO a S M ov) k n pc lo (.ref (cs_la S i) :: .ref (a 0) :: st) :=
  go_callVX C (ci := 1) (r9 := (RX1, TX1, 8)) (qi := 0) (As := [.ref (cs_la S i)]) (rest := st) rfl rfl (c_X1_enter l hlf D cI cJ cZ cO N0 a S M ov i hi hn) ⟨rfl, by decide +kernel, by decide +kernel⟩ bl_RX1_58 bi_yX1_enter bs_yX1_enter bz_NoticeBook bc_yX1_enter (show Option.map (fun d => d.parameters.length) (parseMethodDescriptor yX1_enter.desc) = some 1 by decide +kernel) hR hcs hcat d (fun E w2 h => by obtain ⟨h9, rfl⟩ := h; exact gx E h9) (fun r w2 h => by obtain ⟨h9, rfl, rfl⟩ := h; exact g h9) rfl
set_option maxHeartbeats 4000000 in
set_option maxRecDepth 100000 in
theorem c_X1_beginTerm (l : Launch) (D : va_G) (cI cJ cZ cO : ClassId) (N0 : Nat) (a : Nat → Nat) (S : CS) (M : MS) (ov : Nat → Int64) (i : Nat) (hi : i < cs_nc S) : Ct l D (tysW cI cJ cZ cO) N0 yX1_beginTerm cX1_beginTerm 2 none { frames := 0, cells := 0, slots := 0, locals := 0 } [.ref (a 0), .ref (cs_la S i)] (wW cI cJ cZ cO a S M ov) (fun r w2 => r = none ∧ w2 = wW cI cJ cZ cO a (bgt S i) M ov) := by
  refine ct_of (by decide +kernel) (Nat.le_of_ble_eq_true rfl) ?_
  intro p e s m args below meth c C
  have C : Cxt p s m args meth c D (tysW cI cJ cZ cO) N0 cX1_beginTerm 2 RX1 none "beginTerm" := C
  refine go_aload_n C 1 dX1_beginTerm_0 rfl rfl ?_
  refine go_aload_n C 1 dX1_beginTerm_1 rfl rfl ?_
  refine gl_principal C (S := S) (i := i) hi dX1_beginTerm_2 ?_
  refine go_i2l C dX1_beginTerm_5 ?_
  refine go_aload_n C 0 dX1_beginTerm_6 rfl rfl ?_
  refine gx_termRate C dX1_beginTerm_7 ?_
  refine go_i2l C dX1_beginTerm_10 ?_
  refine go_lmul C dX1_beginTerm_11 ?_
  refine pl_parts C (S := S) (i := i) hi dX1_beginTerm_12 ?_
  refine go_w (w2 := wW cI cJ cZ cO a (bgt1 S i) M ov) rfl ?_
  refine go_aload_n C 1 dX1_beginTerm_15 rfl rfl ?_
  refine go_aload_n C 0 dX1_beginTerm_16 rfl rfl ?_
  refine gx_day C dX1_beginTerm_17 ?_
  refine go_aload_n C 1 dX1_beginTerm_20 rfl rfl ?_
  refine gl_termDays C (S := bgt1 S i) (i := i) hi dX1_beginTerm_21 ?_
  refine go_iadd C dX1_beginTerm_24 ?_
  refine pl_end C (S := bgt1 S i) (i := i) hi dX1_beginTerm_25 ?_
  exact go_return C rfl dX1_beginTerm_28 (by decide) (by decide) ⟨rfl, rfl⟩
theorem k_RX1_65 {p : Program} {l : Launch} {e : Env} {R : Room} {s : State} {m : MethodId} {args : Array Value} {below : List Frame} {meth : Method} {c : Code} {D : va_G} {N0 mL : Nat} {cc : ByteArray} {nm : String} {ret : Option FieldType} {Q : State → Prop} {k n pc : Nat} {lo : List (Nat × Value)} {st : List Value} {cI cJ cZ cO : ClassId} {a : Nat → Nat} (C : Cxt p s m args meth c D (tysW cI cJ cZ cO) N0 cc mL RX1 ret nm) (S : CS) (M : MS) (ov : Nat → Int64) (i : Nat) (hi : i < cs_nc S) (hR : 0 + 1 ≤ R.frames ∧ 8 + (2 + 11) + 0 ≤ R.locals) (hcs : k + 0 ≤ R.cells ∧ n + 0 ≤ R.slots) (hcat : (st.map fun v => v.category).sum ≤ 8) (d : decode cc pc = .ok (.invokevirtual 65, 3)) (g : Go p l e R s m args below meth c D N0 mL Q (wW cI cJ cZ cO a (bgt S i) M ov) (k) (n) (pc + 3) lo (st)) : Go p l e R s m args below meth c D N0 mL Q (wW cI cJ cZ cO a S M ov) k n pc lo (.ref (cs_la S i) :: .ref (a 0) :: st) :=
  go_callV C (ci := 1) (r9 := (RX1, TX1, 8)) (qi := 0) (As := [.ref (cs_la S i)]) (rest := st) rfl rfl (c_X1_beginTerm l D cI cJ cZ cO N0 a S M ov i hi) ⟨rfl, by decide +kernel, by decide +kernel⟩ bl_RX1_65 bi_yX1_beginTerm bs_yX1_beginTerm bz_NoticeBook bc_yX1_beginTerm (show Option.map (fun d => d.parameters.length) (parseMethodDescriptor yX1_beginTerm.desc) = some 1 by decide +kernel) hR hcs hcat d (fun r w2 h => by obtain ⟨rfl, rfl⟩ := h; exact g) rfl
set_option maxHeartbeats 4000000 in
set_option maxRecDepth 100000 in
theorem c_X1_endTerm (l : Launch) (D : va_G) (cI cJ cZ cO : ClassId) (N0 : Nat) (a : Nat → Nat) (S : CS) (M : MS) (ov : Nat → Int64) (i : Nat) (hi : i < cs_nc S) : Ct l D (tysW cI cJ cZ cO) N0 yX1_endTerm cX1_endTerm 2 none { frames := 3, cells := 0, slots := 0, locals := 67 } [.ref (a 0), .ref (cs_la S i)] (wW cI cJ cZ cO a S M ov) (fun r w2 => r = none ∧ w2 = wW cI cJ cZ cO a (etX S i) M ov) := by
  refine ct_of (by decide +kernel) (Nat.le_of_ble_eq_true rfl) ?_
  intro p e s m args below meth c C
  have C : Cxt p s m args meth c D (tysW cI cJ cZ cO) N0 cX1_endTerm 2 RX1 none "endTerm" := C
  refine go_aload_n C 1 dX1_endTerm_0 rfl rfl ?_
  refine gl_instruction C (S := S) (i := i) hi dX1_endTerm_1 ?_
  refine go_if_ne C (tgt := 18) dX1_endTerm_4 (by decide) (fun c_1 => ?_) (fun c_1 => ?_)
  · refine go_aload_n C 1 dX1_endTerm_18 rfl rfl ?_
    refine gl_instruction C (S := S) (i := i) hi dX1_endTerm_19 ?_
    refine go_iconst C (v := 1) dX1_endTerm_22 (by decide) ?_
    refine go_icmp_ne C (tgt := 35) dX1_endTerm_23 (by decide) (fun c_2 => ?_) (fun c_2 => ?_)
    · refine go_aload_n C 1 dX1_endTerm_35 rfl rfl ?_
      refine go_dup C dX1_endTerm_36 rfl ?_
      refine gl_principal C (S := S) (i := i) hi dX1_endTerm_37 ?_
      refine go_aload_n C 1 dX1_endTerm_40 rfl rfl ?_
      refine k_RX1_213 C S M ov i hi ⟨(Nat.le_of_ble_eq_true rfl), (Nat.le_of_ble_eq_true rfl)⟩ ⟨(Nat.le_of_ble_eq_true rfl), (Nat.le_of_ble_eq_true rfl)⟩ (Nat.le_of_ble_eq_true rfl) dX1_endTerm_41 ?_
      refine go_iadd C dX1_endTerm_44 ?_
      refine pl_principal C (S := drwS S i) (i := i) hi dX1_endTerm_45 ?_
      refine go_w (w2 := wW cI cJ cZ cO a (et1 S i) M ov) (by rw [et1_eq]) ?_
      refine go_aload_n C 0 dX1_endTerm_48 rfl rfl ?_
      refine go_aload_n C 1 dX1_endTerm_49 rfl rfl ?_
      refine k_RX1_65 C (et1 S i) M ov i hi ⟨(Nat.le_of_ble_eq_true rfl), (Nat.le_of_ble_eq_true rfl)⟩ ⟨(Nat.le_of_ble_eq_true rfl), (Nat.le_of_ble_eq_true rfl)⟩ (Nat.le_of_ble_eq_true rfl) dX1_endTerm_50 ?_
      refine go_aload_n C 1 dX1_endTerm_53 rfl rfl ?_
      refine go_aload_n C 0 dX1_endTerm_54 rfl rfl ?_
      refine gx_day C dX1_endTerm_55 ?_
      refine pl_renewedOn C (S := bgt (et1 S i) i) (i := i) hi dX1_endTerm_58 ?_
      exact go_return C rfl dX1_endTerm_61 (by decide) (by decide) ⟨rfl, by rw [etX, mixS_neg c_1 rfl, mixS_neg c_2 rfl] <;> rfl⟩
    · refine go_aload_n C 0 dX1_endTerm_26 rfl rfl ?_
      refine go_aload_n C 1 dX1_endTerm_27 rfl rfl ?_
      refine k_RX1_210 C S M ov i hi ⟨(Nat.le_of_ble_eq_true rfl), (Nat.le_of_ble_eq_true rfl)⟩ ⟨(Nat.le_of_ble_eq_true rfl), (Nat.le_of_ble_eq_true rfl)⟩ (Nat.le_of_ble_eq_true rfl) dX1_endTerm_28 ?_
      refine go_pop C dX1_endTerm_31 rfl ?_
      refine go_goto C (tgt := 48) dX1_endTerm_32 (by decide) ?_
      refine go_aload_n C 0 dX1_endTerm_48 rfl rfl ?_
      refine go_aload_n C 1 dX1_endTerm_49 rfl rfl ?_
      refine k_RX1_65 C (pinS S i) M ov i hi ⟨(Nat.le_of_ble_eq_true rfl), (Nat.le_of_ble_eq_true rfl)⟩ ⟨(Nat.le_of_ble_eq_true rfl), (Nat.le_of_ble_eq_true rfl)⟩ (Nat.le_of_ble_eq_true rfl) dX1_endTerm_50 ?_
      refine go_aload_n C 1 dX1_endTerm_53 rfl rfl ?_
      refine go_aload_n C 0 dX1_endTerm_54 rfl rfl ?_
      refine gx_day C dX1_endTerm_55 ?_
      refine pl_renewedOn C (S := bgt (pinS S i) i) (i := i) hi dX1_endTerm_58 ?_
      exact go_return C rfl dX1_endTerm_61 (by decide) (by decide) ⟨rfl, by rw [etX, mixS_neg c_1 rfl, mixS_pos c_2 rfl] <;> rfl⟩
  · refine go_aload_n C 0 dX1_endTerm_7 rfl rfl ?_
    refine go_aload_n C 1 dX1_endTerm_8 rfl rfl ?_
    refine go_aload_n C 1 dX1_endTerm_9 rfl rfl ?_
    refine gl_principal C (S := S) (i := i) hi dX1_endTerm_10 ?_
    refine k_RX1_96 C S M ov i (lr_pr (cs_lt S i)) hi ⟨(Nat.le_of_ble_eq_true rfl), (Nat.le_of_ble_eq_true rfl)⟩ ⟨(Nat.le_of_ble_eq_true rfl), (Nat.le_of_ble_eq_true rfl)⟩ (Nat.le_of_ble_eq_true rfl) dX1_endTerm_13 ?_
    refine go_pop C dX1_endTerm_16 rfl ?_
    exact go_return C rfl dX1_endTerm_17 (by decide) (by decide) ⟨rfl, by rw [etX, mixS_pos c_1 rfl] <;> rfl⟩
theorem k_RX1_226 {p : Program} {l : Launch} {e : Env} {R : Room} {s : State} {m : MethodId} {args : Array Value} {below : List Frame} {meth : Method} {c : Code} {D : va_G} {N0 mL : Nat} {cc : ByteArray} {nm : String} {ret : Option FieldType} {Q : State → Prop} {k n pc : Nat} {lo : List (Nat × Value)} {st : List Value} {cI cJ cZ cO : ClassId} {a : Nat → Nat} (C : Cxt p s m args meth c D (tysW cI cJ cZ cO) N0 cc mL RX1 ret nm) (S : CS) (M : MS) (ov : Nat → Int64) (i : Nat) (hi : i < cs_nc S) (hR : 3 + 1 ≤ R.frames ∧ 8 + (2 + 11) + 67 ≤ R.locals) (hcs : k + 0 ≤ R.cells ∧ n + 0 ≤ R.slots) (hcat : (st.map fun v => v.category).sum ≤ 8) (d : decode cc pc = .ok (.invokevirtual 226, 3)) (g : Go p l e R s m args below meth c D N0 mL Q (wW cI cJ cZ cO a (etX S i) M ov) (k) (n) (pc + 3) lo (st)) : Go p l e R s m args below meth c D N0 mL Q (wW cI cJ cZ cO a S M ov) k n pc lo (.ref (cs_la S i) :: .ref (a 0) :: st) :=
  go_callV C (ci := 1) (r9 := (RX1, TX1, 8)) (qi := 0) (As := [.ref (cs_la S i)]) (rest := st) rfl rfl (c_X1_endTerm l D cI cJ cZ cO N0 a S M ov i hi) ⟨rfl, by decide +kernel, by decide +kernel⟩ bl_RX1_226 bi_yX1_endTerm bs_yX1_endTerm bz_NoticeBook bc_yX1_endTerm (show Option.map (fun d => d.parameters.length) (parseMethodDescriptor yX1_endTerm.desc) = some 1 by decide +kernel) hR hcs hcat d (fun r w2 h => by obtain ⟨rfl, rfl⟩ := h; exact g) rfl
set_option maxHeartbeats 4000000 in
set_option maxRecDepth 100000 in
theorem c_X1_beginDay (l : Launch) (D : va_G) (cI cJ cZ cO : ClassId) (N0 : Nat) (a : Nat → Nat) (S : CS) (M : MS) (ov : Nat → Int64) (hok : okX S) : Ct l D (tysW cI cJ cZ cO) N0 yX1_beginDay cX1_beginDay 4 (some .int) { frames := 4, cells := 0, slots := 0, locals := 88 } [.ref (a 0)] (wW cI cJ cZ cO a S M ov) (fun r w2 => r = some (.int (bdTo S (cs_n S)).1) ∧ w2 = wW cI cJ cZ cO a ((bdTo S (cs_n S)).2) M ov) := by
  refine ct_of (by decide +kernel) (Nat.le_of_ble_eq_true rfl) ?_
  intro p e s m args below meth c C
  have C : Cxt p s m args meth c D (tysW cI cJ cZ cO) N0 cX1_beginDay 4 RX1 (some .int) "beginDay" := C
  refine go_iconst C (v := 0) dX1_beginDay_0 (by decide) ?_
  refine go_istore_n C (lo' := [(1, .int 0), (0, .ref (a 0))]) dX1_beginDay_1 rfl (by decide) rfl ?_
  refine go_iconst C (v := 0) dX1_beginDay_2 (by decide) ?_
  refine go_istore_n C (lo' := [(2, .int 0), (1, .int 0), (0, .ref (a 0))]) dX1_beginDay_3 rfl (by decide) rfl ?_
  refine go_for (cs_n S) (fun i => True) (fun i => wW cI cJ cZ cO a ((bdTo S i).2) M ov) (fun i => [(2, .int (nI i)), (1, .int ((bdTo S i).1)), (0, .ref (a 0))]) ⟨rfl, rfl⟩ trivial (fun i hi_i hI_i ih_i => ?_) (fun hI_i => ?_)
  · have hoki : okX (bdTo S i).2 := (fx_bd S i).ok hok
    refine go_iload_n C 0 dX1_beginDay_4 rfl rfl ?_
    refine go_aload_n C 2 dX1_beginDay_5 rfl rfl ?_
    refine gx_lotsMade C dX1_beginDay_6 ?_
    refine go_icmp_ge C (tgt := 66) dX1_beginDay_9 (by decide) (fun c_1 => absurd c_1 (by rw [(fx_bd S i).1]; exact nI_nge hi_i hok.1)) (fun c_1 => ?_)
    refine go_aload_n C 2 dX1_beginDay_12 rfl rfl ?_
    refine go_iload_n C 0 dX1_beginDay_13 rfl rfl ?_
    refine k_RX1_164 C ((bdTo S i).2) M ov (nI i) hoki ⟨(Nat.le_of_ble_eq_true rfl), (Nat.le_of_ble_eq_true rfl)⟩ ⟨(Nat.le_of_ble_eq_true rfl), (Nat.le_of_ble_eq_true rfl)⟩ (Nat.le_of_ble_eq_true rfl) dX1_beginDay_14 ?_
    rcases opt_c (xAt ((bdTo S i).2) (nI i)) with hx_2 | ⟨j_3, hx_2⟩
    · refine go_st (st2 := [.null]) (by rw [hx_2]; rfl) ?_
      refine go_astore_nq C (x := none) (lo' := [(3, .null), (2, .int (nI i)), (1, .int ((bdTo S i).1)), (0, .ref (a 0))]) dX1_beginDay_17 rfl (by decide) rfl ?_
      refine go_aload_nq C (x := none) 0 dX1_beginDay_18 rfl rfl ?_
      refine go_ifnullN C (tgt := 60) dX1_beginDay_19 (by decide) ?_
      refine go_iinc C (v := nI (i + 1)) (lo' := [(2, .int (nI (i + 1))), (3, .null), (1, .int ((bdTo S i).1)), (0, .ref (a 0))]) 1 dX1_beginDay_60 rfl (nI_1 _) (by decide) rfl ?_
      refine go_goto C (tgt := 4) dX1_beginDay_63 (by decide) ?_
      refine go_lo (lo' := [(2, .int (nI (i + 1))), (1, .int ((bdTo S (i + 1)).1)), (0, .ref (a 0))]) [0, 2, 3] (by rw [bdTo_n hx_2]; rfl) ?_
      refine go_w (w2 := wW cI cJ cZ cO a ((bdTo S (i + 1)).2) M ov) (by rw [bdTo_n hx_2]) ?_
      exact ih_i trivial
    · refine go_st (st2 := [.ref (cs_la ((bdTo S i).2) j_3)]) (by rw [hx_2]; rfl) ?_
      refine go_astore_n C (lo' := [(3, .ref (cs_la ((bdTo S i).2) j_3)), (2, .int (nI i)), (1, .int ((bdTo S i).1)), (0, .ref (a 0))]) dX1_beginDay_17 rfl (by decide) rfl ?_
      refine go_aload_n C 0 dX1_beginDay_18 rfl rfl ?_
      refine go_ifnull C dX1_beginDay_19 ?_
      refine go_aload_n C 3 dX1_beginDay_22 rfl rfl ?_
      refine gx_day C dX1_beginDay_23 ?_
      refine go_aload_n C 0 dX1_beginDay_26 rfl rfl ?_
      refine gl_takeFrom C (S := (bdTo S i).2) (i := j_3) (xAt_nc hoki hx_2) dX1_beginDay_27 ?_
      refine go_bipush C (v := 7) dX1_beginDay_30 (by decide) ?_
      refine go_iadd C dX1_beginDay_32 ?_
      refine go_icmp_lt C (tgt := 41) dX1_beginDay_33 (by decide) (fun c_4 => ?_) (fun c_4 => ?_)
      · refine go_w (w2 := wW cI cJ cZ cO a (bd1 (bdTo S i).2 j_3) M ov) (by rw [← bd1_pos c_4]) ?_
        refine go_aload_n C 0 dX1_beginDay_41 rfl rfl ?_
        refine gl_end C (S := bd1 (bdTo S i).2 j_3) (i := j_3) (xAt_nc hoki hx_2) dX1_beginDay_42 ?_
        refine go_aload_n C 3 dX1_beginDay_45 rfl rfl ?_
        refine gx_day C dX1_beginDay_46 ?_
        refine go_icmp_ne C (tgt := 60) dX1_beginDay_49 (by decide) (fun c_5 => ?_) (fun c_5 => ?_)
        · refine go_iinc C (v := nI (i + 1)) (lo' := [(2, .int (nI (i + 1))), (3, .ref (cs_la ((bdTo S i).2) j_3)), (1, .int ((bdTo S i).1)), (0, .ref (a 0))]) 1 dX1_beginDay_60 rfl (nI_1 _) (by decide) rfl ?_
          refine go_goto C (tgt := 4) dX1_beginDay_63 (by decide) ?_
          refine go_lo (lo' := [(2, .int (nI (i + 1))), (1, .int ((bdTo S (i + 1)).1)), (0, .ref (a 0))]) [0, 2, 3] (by rw [← (bd_w2 hx_2 c_5).2]; rfl) ?_
          refine go_w (w2 := wW cI cJ cZ cO a ((bdTo S (i + 1)).2) M ov) (by rw [← (bd_w2 hx_2 c_5).1]) ?_
          exact ih_i trivial
        · refine go_aload_n C 3 dX1_beginDay_52 rfl rfl ?_
          refine go_aload_n C 0 dX1_beginDay_53 rfl rfl ?_
          refine k_RX1_226 C (bd1 (bdTo S i).2 j_3) M ov j_3 (xAt_nc hoki hx_2) ⟨(Nat.le_of_ble_eq_true rfl), (Nat.le_of_ble_eq_true rfl)⟩ ⟨(Nat.le_of_ble_eq_true rfl), (Nat.le_of_ble_eq_true rfl)⟩ (Nat.le_of_ble_eq_true rfl) dX1_beginDay_54 ?_
          refine go_iinc C (v := ((bdTo S i).1) + 1) (lo' := [(1, .int (((bdTo S i).1) + 1)), (3, .ref (cs_la ((bdTo S i).2) j_3)), (2, .int (nI i)), (0, .ref (a 0))]) 2 dX1_beginDay_57 rfl rfl (by decide) rfl ?_
          refine go_iinc C (v := nI (i + 1)) (lo' := [(2, .int (nI (i + 1))), (1, .int (((bdTo S i).1) + 1)), (3, .ref (cs_la ((bdTo S i).2) j_3)), (0, .ref (a 0))]) 2 dX1_beginDay_60 rfl (nI_1 _) (by decide) rfl ?_
          refine go_goto C (tgt := 4) dX1_beginDay_63 (by decide) ?_
          refine go_lo (lo' := [(2, .int (nI (i + 1))), (1, .int ((bdTo S (i + 1)).1)), (0, .ref (a 0))]) [0, 1, 3] (by rw [← (bd_w1 hx_2 c_5).2]; rfl) ?_
          refine go_w (w2 := wW cI cJ cZ cO a ((bdTo S (i + 1)).2) M ov) (by rw [← (bd_w1 hx_2 c_5).1]) ?_
          exact ih_i trivial
      · refine go_aload_n C 0 dX1_beginDay_36 rfl rfl ?_
        refine go_iconst C (v := 0) dX1_beginDay_37 (by decide) ?_
        refine pl_frozenCents C (S := (bdTo S i).2) (i := j_3) (xAt_nc hoki hx_2) dX1_beginDay_38 ?_
        refine go_w (w2 := wW cI cJ cZ cO a (bd1 (bdTo S i).2 j_3) M ov) (by rw [← bd1_neg c_4]) ?_
        refine go_aload_n C 0 dX1_beginDay_41 rfl rfl ?_
        refine gl_end C (S := bd1 (bdTo S i).2 j_3) (i := j_3) (xAt_nc hoki hx_2) dX1_beginDay_42 ?_
        refine go_aload_n C 3 dX1_beginDay_45 rfl rfl ?_
        refine gx_day C dX1_beginDay_46 ?_
        refine go_icmp_ne C (tgt := 60) dX1_beginDay_49 (by decide) (fun c_6 => ?_) (fun c_6 => ?_)
        · refine go_iinc C (v := nI (i + 1)) (lo' := [(2, .int (nI (i + 1))), (3, .ref (cs_la ((bdTo S i).2) j_3)), (1, .int ((bdTo S i).1)), (0, .ref (a 0))]) 1 dX1_beginDay_60 rfl (nI_1 _) (by decide) rfl ?_
          refine go_goto C (tgt := 4) dX1_beginDay_63 (by decide) ?_
          refine go_lo (lo' := [(2, .int (nI (i + 1))), (1, .int ((bdTo S (i + 1)).1)), (0, .ref (a 0))]) [0, 2, 3] (by rw [← (bd_w2 hx_2 c_6).2]; rfl) ?_
          refine go_w (w2 := wW cI cJ cZ cO a ((bdTo S (i + 1)).2) M ov) (by rw [← (bd_w2 hx_2 c_6).1]) ?_
          exact ih_i trivial
        · refine go_aload_n C 3 dX1_beginDay_52 rfl rfl ?_
          refine go_aload_n C 0 dX1_beginDay_53 rfl rfl ?_
          refine k_RX1_226 C (bd1 (bdTo S i).2 j_3) M ov j_3 (xAt_nc hoki hx_2) ⟨(Nat.le_of_ble_eq_true rfl), (Nat.le_of_ble_eq_true rfl)⟩ ⟨(Nat.le_of_ble_eq_true rfl), (Nat.le_of_ble_eq_true rfl)⟩ (Nat.le_of_ble_eq_true rfl) dX1_beginDay_54 ?_
          refine go_iinc C (v := ((bdTo S i).1) + 1) (lo' := [(1, .int (((bdTo S i).1) + 1)), (3, .ref (cs_la ((bdTo S i).2) j_3)), (2, .int (nI i)), (0, .ref (a 0))]) 2 dX1_beginDay_57 rfl rfl (by decide) rfl ?_
          refine go_iinc C (v := nI (i + 1)) (lo' := [(2, .int (nI (i + 1))), (1, .int (((bdTo S i).1) + 1)), (3, .ref (cs_la ((bdTo S i).2) j_3)), (0, .ref (a 0))]) 2 dX1_beginDay_60 rfl (nI_1 _) (by decide) rfl ?_
          refine go_goto C (tgt := 4) dX1_beginDay_63 (by decide) ?_
          refine go_lo (lo' := [(2, .int (nI (i + 1))), (1, .int ((bdTo S (i + 1)).1)), (0, .ref (a 0))]) [0, 1, 3] (by rw [← (bd_w1 hx_2 c_6).2]; rfl) ?_
          refine go_w (w2 := wW cI cJ cZ cO a ((bdTo S (i + 1)).2) M ov) (by rw [← (bd_w1 hx_2 c_6).1]) ?_
          exact ih_i trivial
  · refine go_iload_n C 0 dX1_beginDay_4 rfl rfl ?_
    refine go_aload_n C 2 dX1_beginDay_5 rfl rfl ?_
    refine gx_lotsMade C dX1_beginDay_6 ?_
    refine go_icmp_ge C (tgt := 66) dX1_beginDay_9 (by decide) (fun c_7 => ?_) (fun c_7 => absurd (by rw [(fx_bd S (cs_n S)).1]; exact nI_ger hok.1) c_7)
    refine go_iload_n C 1 dX1_beginDay_66 rfl rfl ?_
    exact go_ireturn C rfl dX1_beginDay_67 (by decide) (by decide) ⟨rfl, rfl⟩
theorem k_RX1_161 {p : Program} {l : Launch} {e : Env} {R : Room} {s : State} {m : MethodId} {args : Array Value} {below : List Frame} {meth : Method} {c : Code} {D : va_G} {N0 mL : Nat} {cc : ByteArray} {nm : String} {ret : Option FieldType} {Q : State → Prop} {k n pc : Nat} {lo : List (Nat × Value)} {st : List Value} {cI cJ cZ cO : ClassId} {a : Nat → Nat} (C : Cxt p s m args meth c D (tysW cI cJ cZ cO) N0 cc mL RX1 ret nm) (S : CS) (M : MS) (ov : Nat → Int64) (hok : okX S) (hR : 4 + 1 ≤ R.frames ∧ 8 + (4 + 11) + 88 ≤ R.locals) (hcs : k + 0 ≤ R.cells ∧ n + 0 ≤ R.slots) (hcat : (st.map fun v => v.category).sum ≤ 8) (d : decode cc pc = .ok (.invokevirtual 161, 3)) (g : Go p l e R s m args below meth c D N0 mL Q (wW cI cJ cZ cO a ((bdTo S (cs_n S)).2) M ov) (k) (n) (pc + 3) lo (.int ((bdTo S (cs_n S)).1) :: st)) : Go p l e R s m args below meth c D N0 mL Q (wW cI cJ cZ cO a S M ov) k n pc lo (.ref (a 0) :: st) :=
  go_callV C (ci := 1) (r9 := (RX1, TX1, 8)) (qi := 0) (As := []) (rest := st) rfl rfl (c_X1_beginDay l D cI cJ cZ cO N0 a S M ov hok) ⟨rfl, by decide +kernel, by decide +kernel⟩ bl_RX1_161 bi_yX1_beginDay bs_yX1_beginDay bz_NoticeBook bc_yX1_beginDay (show Option.map (fun d => d.parameters.length) (parseMethodDescriptor yX1_beginDay.desc) = some 0 by decide +kernel) hR hcs hcat d (fun r w2 h => by obtain ⟨rfl, rfl⟩ := h; exact g) rfl
end
section
/-! what the public methods do: the code of the exception (0: none; 1 index, 2 argument, 3 state), the answer, the state -/
theorem xc_I {k : Nat} {E : String} (h : k = 1) (e : E = nb_I) : k ≠ 0 ∧ E = exN k := by subst h; exact ⟨by decide, e⟩
theorem xc_A {k : Nat} {E : String} (h : k = 2) (e : E = nb_A) : k ≠ 0 ∧ E = exN k := by subst h; exact ⟨by decide, e⟩
theorem xc_S {k : Nat} {E : String} (h : k = 3) (e : E = nb_S) : k ≠ 0 ∧ E = exN k := by subst h; exact ⟨by decide, e⟩
theorem ne0_1 {k : Nat} (h : k = 1) : ¬ k = 0 := by omega
theorem ne0_2 {k : Nat} (h : k = 2) : ¬ k = 0 := by omega
def lotC (S : CS) (z : Int32) : Nat := match xAt S z with
  | none => 1
  | some _ => 0
theorem lotC_n {S : CS} {z : Int32} (h : xAt S z = none) : ¬ lotC S z = 0 := by rw [lotC, h]; decide
theorem lotC_s {S : CS} {z : Int32} {j : Nat} (h : xAt S z = some j) : lotC S z = 0 := by rw [lotC, h]
def stC (b z : Int32) : Nat := if b < 0 then 1 else if b < 3 then (if demR z 0 2000 = 0 then 0 else 2) else 1
def dpC (S : CS) (cu z : Int32) : Nat := if demC cu = 0 then (if demR z 1 10000000 = 0 then (if cs_n S < 40 then 0 else 3) else 2) else 1
def dtC (S : CS) (cu z d v : Int32) : Nat := if demC cu = 0 then (if demR z 1 10000000 = 0 then (if demR d 1 400 = 0 then (if demR v 0 2 = 0 then (if cs_n S < 40 then 0 else 3) else 2) else 2) else 2) else 1
def dpS (S : CS) (q : Nat) (cu z : Int32) : CS := entS (iniS (nw1 S q) (cs_nc S) cu z 0) (cs_nc S)
def dt1 (S : CS) (q : Nat) (cu z d v : Int32) : CS := cs_setLot (iniS (nw1 S q) (cs_nc S) cu z d) (cs_nc S) (lr_set_ins (cs_lt (iniS (nw1 S q) (cs_nc S) cu z d) (cs_nc S)) v)
def dtS (S : CS) (q : Nat) (cu z d v : Int32) : CS := entS (bgt (dt1 S q cu z d v) (cs_nc S)) (cs_nc S)
def gvC (S : CS) (z c : Int32) : Nat := if lotC S z = 0 then (if demR c 1 (lr_pr (cs_lt S z.toNatClampNeg)) = 0 then (if bT (cs_lt S z.toNatClampNeg) = 0 then (if lr_fz (cs_lt S z.toNatClampNeg) ≤ 0 then 0 else 3) else 3) else 2) else 1
def gvS (S : CS) (z c : Int32) : CS := cs_setLot S z.toNatClampNeg (lr_set_tf (lr_set_fz (cs_lt S z.toNatClampNeg) c) (cs_day S + 32))
def wdC (S : CS) (z : Int32) : Nat := if lotC S z = 0 then (if lr_fz (cs_lt S z.toNatClampNeg) = 0 then 3 else 0) else 1
def wdS (S : CS) (z : Int32) : CS := cs_setLot S z.toNatClampNeg (lr_set_fz (cs_lt S z.toNatClampNeg) 0)
def tkC (S : CS) (z : Int32) : Nat := if lotC S z = 0 then (if lr_fz (cs_lt S z.toNatClampNeg) = 0 then 3 else if lr_tf (cs_lt S z.toNatClampNeg) ≤ cs_day S then 0 else 3) else 1
def inC (S : CS) (z v : Int32) : Nat := if lotC S z = 0 then (if demR v 0 2 = 0 then (if bT (cs_lt S z.toNatClampNeg) = 0 then 3 else 0) else 2) else 1
def inS (S : CS) (z v : Int32) : CS := cs_setLot S z.toNatClampNeg (lr_set_ins (cs_lt S z.toNatClampNeg) v)
def lgC (S : CS) (z : Int32) : Nat := if lotC S z = 0 then (if lr_rn (cs_lt S z.toNatClampNeg) = -1 then 3 else if cs_day S - lr_rn (cs_lt S z.toNatClampNeg) < 7 then 0 else 3) else 1
def lg1 (S : CS) (z : Int32) : CS := los S z.toNatClampNeg (lr_ea (cs_lt S z.toNatClampNeg))
def lgV (S : CS) (z : Int32) : Int32 := poC (lg1 S z) z.toNatClampNeg (lr_pr (cs_lt (lg1 S z) z.toNatClampNeg))
def lgS (S : CS) (z : Int32) : CS := poS (lg1 S z) z.toNatClampNeg (lr_pr (cs_lt (lg1 S z) z.toNatClampNeg))
def joC (S : CS) (z y : Int32) : Nat := if lotC S z = 0 then (if lotC S y = 0 then (if z = y then 2 else if cjn (cs_lt S z.toNatClampNeg) (cs_lt S y.toNatClampNeg) = 0 then 3 else 0) else 1) else 1
def jo1 (S : CS) (i j : Nat) : CS := cs_setLot S i (lr_set_pr (cs_lt S i) (lr_pr (cs_lt S i) + lr_pr (cs_lt S j)))
def jo2 (S : CS) (i j : Nat) : CS := cs_setLot S i (lr_set_ea (cs_lt S i) (lr_ea (cs_lt S i) + lr_ea (cs_lt S j)))
def jo3 (S : CS) (i j : Nat) : CS := cs_setLot S i (lr_set_pa (cs_lt S i) (lr_pa (cs_lt S i) + lr_pa (cs_lt S j)))
def jo4 (S : CS) (i : Nat) : CS := cs_setLot S i (lr_set_rn (cs_lt S i) (-1))
def jo5 (S : CS) (j : Nat) : CS := cs_setLot S j (lr_set_pr (cs_lt S j) 0)
def joS (S : CS) (i j : Nat) : CS := jo5 (jo4 (jo3 (jo2 (jo1 S i j) i j) i j) i) j
def psC (S : CS) (d : Int32) : Nat := if demR d 1 100 = 0 then (if cs_day S + d ≤ 3000 then 0 else 3) else 2
def ntTo (S : CS) : Nat → CS
  | 0 => S
  | i + 1 => noteX (ntTo S i) (nI i)
theorem fx_nt (S : CS) : ∀ i, fixd S (ntTo S i)
  | 0 => fixd.rf S
  | i + 1 => (fx_nt S i).tr ⟨rfl, rfl, rfl, rfl⟩
def ps1 (T : CS) : CS := cs_set_day (eoX T) (cs_day (eoX T) + 1)
def psTo (S : CS) : Nat → Int32 × CS
  | 0 => (0, S)
  | i + 1 => ((psTo S i).1 + (bdTo (ps1 (psTo S i).2) (cs_n (ps1 (psTo S i).2))).1, (bdTo (ps1 (psTo S i).2) (cs_n (ps1 (psTo S i).2))).2)
theorem fx_ps (S : CS) : ∀ i, fixd S (psTo S i).2
  | 0 => fixd.rf S
  | i + 1 => ((fx_ps S i).tr (T := (psTo S i).2) (U := ps1 (psTo S i).2) ⟨rfl, rfl, rfl, rfl⟩).tr (fx_bd _ _)
theorem demR_nI {d : Int32} (h : demR d 1 100 = 0) : d = nI d.toNatClampNeg ∧ d.toNatClampNeg ≤ 100 := by
  have h0 : ¬ d < 1 ∧ d ≤ 100 := by
    unfold demR at h
    split at h
    · cases h
    · split at h
      · exact ⟨by assumption, by assumption⟩
      · cases h
  obtain ⟨a, b⟩ := h0
  rw [i_lt] at a
  rw [i_le] at b
  have h1 : (1 : Int32).toInt = 1 := rfl
  have h2 : (100 : Int32).toInt = 100 := rfl
  obtain ⟨j, hj, rfl⟩ := nI_of (x := d) (by rw [i_lt]; have : (0 : Int32).toInt = 0 := rfl; omega)
  rw [nI_toInt hj] at b
  rw [nI_clamp hj]
  exact ⟨rfl, by omega⟩
def pdS (S : CS) (z : Int32) : CS := noteX S (lr_cu (cs_lt S z.toNatClampNeg))
def eaC (S : CS) (cu c : Int32) : Nat := if demC cu = 0 then (if demR c 1 100000000 = 0 then (if c ≤ unfTo S cu (cs_n S) then 0 else 3) else 2) else 1
/-- one lot asked for early money: missing, payment, state -/
def erPart (m : Int32) (r : LR) : Int32 := if unf r < m then unf r else m
def er1 (S : CS) (j : Nat) (part : Int32) : CS := los S j (lbe (cs_lt S j) part)
def erTo (S : CS) (cu c : Int32) : Nat → Int32 × Int32 × CS
  | 0 => (c, 0, S)
  | i + 1 => if (erTo S cu c i).1 ≤ 0 then erTo S cu c i else match lhTo (erTo S cu c i).2.2 cu (cs_n S) with
    | none => erTo S cu c i
    | some j => ((erTo S cu c i).1 - erPart (erTo S cu c i).1 (cs_lt (erTo S cu c i).2.2 j), (erTo S cu c i).2.1 + poC (er1 (erTo S cu c i).2.2 j (erPart (erTo S cu c i).1 (cs_lt (erTo S cu c i).2.2 j))) j (erPart (erTo S cu c i).1 (cs_lt (erTo S cu c i).2.2 j)), poS (er1 (erTo S cu c i).2.2 j (erPart (erTo S cu c i).1 (cs_lt (erTo S cu c i).2.2 j))) j (erPart (erTo S cu c i).1 (cs_lt (erTo S cu c i).2.2 j)))
theorem er_0 {S : CS} {cu c : Int32} {i : Nat} (h : (erTo S cu c i).1 ≤ 0) : erTo S cu c (i + 1) = erTo S cu c i := by rw [erTo, if_pos h]
theorem er_n {S : CS} {cu c : Int32} {i : Nat} (h : ¬ (erTo S cu c i).1 ≤ 0) (g : lhTo (erTo S cu c i).2.2 cu (cs_n S) = none) : erTo S cu c (i + 1) = erTo S cu c i := by rw [erTo, if_neg h, g]
theorem er_s {S : CS} {cu c : Int32} {i j : Nat} (h : ¬ (erTo S cu c i).1 ≤ 0) (g : lhTo (erTo S cu c i).2.2 cu (cs_n S) = some j) : erTo S cu c (i + 1) = ((erTo S cu c i).1 - erPart (erTo S cu c i).1 (cs_lt (erTo S cu c i).2.2 j), (erTo S cu c i).2.1 + poC (er1 (erTo S cu c i).2.2 j (erPart (erTo S cu c i).1 (cs_lt (erTo S cu c i).2.2 j))) j (erPart (erTo S cu c i).1 (cs_lt (erTo S cu c i).2.2 j)), poS (er1 (erTo S cu c i).2.2 j (erPart (erTo S cu c i).1 (cs_lt (erTo S cu c i).2.2 j))) j (erPart (erTo S cu c i).1 (cs_lt (erTo S cu c i).2.2 j))) := by rw [erTo, if_neg h, g]
theorem er_stuck {S : CS} {cu c : Int32} {i : Nat} (h : erTo S cu c (i + 1) = erTo S cu c i) : ∀ k, erTo S cu c (i + k) = erTo S cu c i
  | 0 => rfl
  | k + 1 => by
    have e := er_stuck h k
    show erTo S cu c (i + k + 1) = _
    rw [← h]
    show (if (erTo S cu c (i + k)).1 ≤ 0 then erTo S cu c (i + k) else match lhTo (erTo S cu c (i + k)).2.2 cu (cs_n S) with
      | none => erTo S cu c (i + k)
      | some j => _) = _
    rw [e]
    rfl
theorem er_end {S : CS} {cu c : Int32} {i n : Nat} (h : erTo S cu c (i + 1) = erTo S cu c i) (hi : i < n) : erTo S cu c n = erTo S cu c i := by
  have := er_stuck h (n - i)
  rwa [show i + (n - i) = n by omega] at this
theorem fx_er (S : CS) (cu c : Int32) : ∀ i, fixd S (erTo S cu c i).2.2
  | 0 => fixd.rf S
  | i + 1 => by
    by_cases h : (erTo S cu c i).1 ≤ 0
    · rw [er_0 h]; exact fx_er S cu c i
    · rcases opt_c (lhTo (erTo S cu c i).2.2 cu (cs_n S)) with g | ⟨j, g⟩
      · rw [er_n h g]; exact fx_er S cu c i
      · rw [er_s h g]
        exact (fx_er S cu c i).tr ⟨rfl, rfl, rfl, rfl⟩
theorem demC_in {z : Int32} (h : demC z = 0) : vp_in z 4 := by
  unfold demC at h
  split at h
  · cases h
  · split at h
    · exact vin_lt (n := 4) (by assumption) (by assumption) (by decide)
    · cases h
end
section
set_option maxHeartbeats 4000000 in
set_option maxRecDepth 100000 in
theorem c_X1_today (l : Launch) (D : va_G) (cI cJ cZ cO : ClassId) (N0 : Nat) (a : Nat → Nat) (S : CS) (M : MS) (ov : Nat → Int64)  : Ct l D (tysW cI cJ cZ cO) N0 yX1_today cX1_today 1 (some .int) { frames := 0, cells := 0, slots := 0, locals := 0 } [.ref (a 0)] (wW cI cJ cZ cO a S M ov) (fun r w2 => r = some (.int (cs_day S)) ∧ w2 = wW cI cJ cZ cO a S M ov) := by
  refine ct_of (by decide +kernel) (Nat.le_of_ble_eq_true rfl) ?_
  intro p e s m args below meth c C
  have C : Cxt p s m args meth c D (tysW cI cJ cZ cO) N0 cX1_today 1 RX1 (some .int) "today" := C
  refine go_aload_n C 0 dX1_today_0 rfl rfl ?_
  refine gx_day C dX1_today_1 ?_
  exact go_ireturn C rfl dX1_today_4 (by decide) (by decide) ⟨rfl, rfl⟩
theorem k_RL_136 {p : Program} {l : Launch} {e : Env} {R : Room} {s : State} {m : MethodId} {args : Array Value} {below : List Frame} {meth : Method} {c : Code} {D : va_G} {N0 mL : Nat} {cc : ByteArray} {nm : String} {ret : Option FieldType} {Q : State → Prop} {k n pc : Nat} {lo : List (Nat × Value)} {st : List Value} {cI cJ cZ cO : ClassId} {a : Nat → Nat} (C : Cxt p s m args meth c D (tysW cI cJ cZ cO) N0 cc mL RL ret nm) (S : CS) (M : MS) (ov : Nat → Int64)  (hR : 0 + 1 ≤ R.frames ∧ 8 + (1 + 11) + 0 ≤ R.locals) (hcs : k + 0 ≤ R.cells ∧ n + 0 ≤ R.slots) (hcat : (st.map fun v => v.category).sum ≤ 8) (d : decode cc pc = .ok (.invokevirtual 136, 3)) (g : Go p l e R s m args below meth c D N0 mL Q (wW cI cJ cZ cO a S M ov) (k) (n) (pc + 3) lo (.int (cs_day S) :: st)) : Go p l e R s m args below meth c D N0 mL Q (wW cI cJ cZ cO a S M ov) k n pc lo (.ref (a 0) :: st) :=
  go_callV C (ci := 1) (r9 := (RX1, TX1, 8)) (qi := 0) (As := []) (rest := st) rfl rfl (c_X1_today l D cI cJ cZ cO N0 a S M ov ) ⟨rfl, by decide +kernel, by decide +kernel⟩ bl_RL_136 bi_yX1_today bs_yX1_today bz_NoticeBook bc_yX1_today (show Option.map (fun d => d.parameters.length) (parseMethodDescriptor yX1_today.desc) = some 0 by decide +kernel) hR hcs hcat d (fun r w2 h => by obtain ⟨rfl, rfl⟩ := h; exact g) rfl
set_option maxHeartbeats 4000000 in
set_option maxRecDepth 100000 in
theorem c_X1_setByBands (l : Launch) (D : va_G) (cI cJ cZ cO : ClassId) (N0 : Nat) (a : Nat → Nat) (S : CS) (M : MS) (ov : Nat → Int64) (z : Int32) (hz : z = 0 ∨ z = 1) (hb : cs_bb S = 0 ∨ cs_bb S = 1) : Ct l D (tysW cI cJ cZ cO) N0 yX1_setByBands cX1_setByBands 3 (some .boolean) { frames := 0, cells := 0, slots := 0, locals := 0 } [.ref (a 0), .int z] (wW cI cJ cZ cO a S M ov) (fun r w2 => r = some (.int (cs_bb S)) ∧ w2 = wW cI cJ cZ cO a (cs_set_bb S z) M ov) := by
  refine ct_of (by decide +kernel) (Nat.le_of_ble_eq_true rfl) ?_
  intro p e s m args below meth c C
  have C : Cxt p s m args meth c D (tysW cI cJ cZ cO) N0 cX1_setByBands 3 RX1 (some .boolean) "setByBands" := C
  refine go_aload_n C 0 dX1_setByBands_0 rfl rfl ?_
  refine gx_tiersByBands C dX1_setByBands_1 ?_
  refine go_istore_n C (lo' := [(2, .int (cs_bb S)), (0, .ref (a 0)), (1, .int z)]) dX1_setByBands_4 rfl (by decide) rfl ?_
  refine go_aload_n C 1 dX1_setByBands_5 rfl rfl ?_
  refine go_iload_n C 2 dX1_setByBands_6 rfl rfl ?_
  refine px_tiersByBands C (nar_b hz) (fit_b hz) dX1_setByBands_7 ?_
  refine go_iload_n C 0 dX1_setByBands_10 rfl rfl ?_
  exact go_zreturn C rfl (nar_b hb) dX1_setByBands_11 (by decide) (by decide) ⟨rfl, rfl⟩
theorem k_RL_96 {p : Program} {l : Launch} {e : Env} {R : Room} {s : State} {m : MethodId} {args : Array Value} {below : List Frame} {meth : Method} {c : Code} {D : va_G} {N0 mL : Nat} {cc : ByteArray} {nm : String} {ret : Option FieldType} {Q : State → Prop} {k n pc : Nat} {lo : List (Nat × Value)} {st : List Value} {cI cJ cZ cO : ClassId} {a : Nat → Nat} (C : Cxt p s m args meth c D (tysW cI cJ cZ cO) N0 cc mL RL ret nm) (S : CS) (M : MS) (ov : Nat → Int64) (z : Int32) (hz : z = 0 ∨ z = 1) (hb : cs_bb S = 0 ∨ cs_bb S = 1) (hR : 0 + 1 ≤ R.frames ∧ 8 + (3 + 11) + 0 ≤ R.locals) (hcs : k + 0 ≤ R.cells ∧ n + 0 ≤ R.slots) (hcat : (st.map fun v => v.category).sum ≤ 8) (d : decode cc pc = .ok (.invokevirtual 96, 3)) (g : Go p l e R s m args below meth c D N0 mL Q (wW cI cJ cZ cO a (cs_set_bb S z) M ov) (k) (n) (pc + 3) lo (.int (cs_bb S) :: st)) : Go p l e R s m args below meth c D N0 mL Q (wW cI cJ cZ cO a S M ov) k n pc lo (.int z :: .ref (a 0) :: st) :=
  go_callV C (ci := 1) (r9 := (RX1, TX1, 8)) (qi := 0) (As := [.int z]) (rest := st) rfl rfl (c_X1_setByBands l D cI cJ cZ cO N0 a S M ov z hz hb) ⟨rfl, by decide +kernel, by decide +kernel⟩ bl_RL_96 bi_yX1_setByBands bs_yX1_setByBands bz_NoticeBook bc_yX1_setByBands (show Option.map (fun d => d.parameters.length) (parseMethodDescriptor yX1_setByBands.desc) = some 1 by decide +kernel) hR hcs hcat d (fun r w2 h => by obtain ⟨rfl, rfl⟩ := h; exact g) rfl
set_option maxHeartbeats 4000000 in
set_option maxRecDepth 100000 in
theorem c_X1_principal (l : Launch) (hlf : l.stackTraces = false) (D : va_G) (cI cJ cZ cO : ClassId) (N0 : Nat) (a : Nat → Nat) (S : CS) (M : MS) (ov : Nat → Int64) (z : Int32) (hok : okX S) : CtX l D (tysW cI cJ cZ cO) N0 yX1_principal cX1_principal 2 (some .int) { frames := 7, cells := 1, slots := 6, locals := 104 } [.ref (a 0), .int z] (wW cI cJ cZ cO a S M ov) (fun r w2 => lotC S z = 0 ∧ r = some (.int (lr_pr (cs_lt S (Int32.toNatClampNeg z)))) ∧ w2 = wW cI cJ cZ cO a S M ov) (fun E w2 => (lotC S z ≠ 0 ∧ E = exN (lotC S z)) ∧ w2 = wW cI cJ cZ cO a S M ov) := by
  refine ctx_of (by decide +kernel) (Nat.le_of_ble_eq_true rfl) ?_
  intro p e s m args below meth c C ht
  have C : Cxt p s m args meth c D (tysW cI cJ cZ cO) N0 cX1_principal 2 RX1 (some .int) "principal" := C
  refine go_aload_n C 0 dX1_principal_0 rfl rfl ?_
  refine go_iload_n C 1 dX1_principal_1 rfl rfl ?_
  refine k_RX1_69 C hlf S M ov z hok ⟨(Nat.le_of_ble_eq_true rfl), (Nat.le_of_ble_eq_true rfl)⟩ ⟨(Nat.le_of_ble_eq_true rfl), (Nat.le_of_ble_eq_true rfl)⟩ (Nat.le_of_ble_eq_true rfl) dX1_principal_2 (fun E hE_1 => gox_out C ht (⟨xc_I (by rw [lotC, hE_1.2]) hE_1.1, rfl⟩) (by decide) (by decide)) (fun j_2 h_3 => ?_)
  obtain rfl := (xAt_some h_3).1
  refine gl_principal C (S := S) (i := (Int32.toNatClampNeg z)) (xAt_nc hok h_3) dX1_principal_5 ?_
  exact go_x (go_ireturn C rfl dX1_principal_8 (by decide) (by decide) ⟨lotC_s h_3, rfl, rfl⟩)
theorem k_RL_54 {p : Program} {l : Launch} {e : Env} {R : Room} {s : State} {m : MethodId} {args : Array Value} {below : List Frame} {meth : Method} {c : Code} {D : va_G} {N0 mL : Nat} {cc : ByteArray} {nm : String} {ret : Option FieldType} {Q : State → Prop} {k n pc : Nat} {lo : List (Nat × Value)} {st : List Value} {cI cJ cZ cO : ClassId} {a : Nat → Nat} (C : Cxt p s m args meth c D (tysW cI cJ cZ cO) N0 cc mL RL ret nm) (hlf : l.stackTraces = false) (S : CS) (M : MS) (ov : Nat → Int64) (z : Int32) (hok : okX S) (hR : 7 + 1 ≤ R.frames ∧ 8 + (2 + 11) + 104 ≤ R.locals) (hcs : k + 1 ≤ R.cells ∧ n + 6 ≤ R.slots) (hcat : (st.map fun v => v.category).sum ≤ 8) (d : decode cc pc = .ok (.invokevirtual 54, 3)) (gx : ∀ E : String, (lotC S z ≠ 0 ∧ E = exN (lotC S z)) → GoX p l e R s m args below meth c D N0 mL Q (wW cI cJ cZ cO a S M ov) (k + 1) (n + 6) pc lo E) (g : (lotC S z = 0) → Go p l e R s m args below meth c D N0 mL Q (wW cI cJ cZ cO a S M ov) (k + 1) (n + 6) (pc + 3) lo (.int (lr_pr (cs_lt S (Int32.toNatClampNeg z))) :: st)) : Go p l e R s m args below meth c D N0 mL Q (wW cI cJ cZ cO a S M ov) k n pc lo (.int z :: .ref (a 0) :: st) :=
  go_callVX C (ci := 1) (r9 := (RX1, TX1, 8)) (qi := 0) (As := [.int z]) (rest := st) rfl rfl (c_X1_principal l hlf D cI cJ cZ cO N0 a S M ov z hok) ⟨rfl, by decide +kernel, by decide +kernel⟩ bl_RL_54 bi_yX1_principal bs_yX1_principal bz_NoticeBook bc_yX1_principal (show Option.map (fun d => d.parameters.length) (parseMethodDescriptor yX1_principal.desc) = some 1 by decide +kernel) hR hcs hcat d (fun E w2 h => by obtain ⟨h9, rfl⟩ := h; exact gx E h9) (fun r w2 h => by obtain ⟨h9, rfl, rfl⟩ := h; exact g h9) rfl
set_option maxHeartbeats 4000000 in
set_option maxRecDepth 100000 in
theorem c_X1_earned (l : Launch) (hlf : l.stackTraces = false) (D : va_G) (cI cJ cZ cO : ClassId) (N0 : Nat) (a : Nat → Nat) (S : CS) (M : MS) (ov : Nat → Int64) (z : Int32) (hok : okX S) : CtX l D (tysW cI cJ cZ cO) N0 yX1_earned cX1_earned 2 (some .long) { frames := 7, cells := 1, slots := 6, locals := 104 } [.ref (a 0), .int z] (wW cI cJ cZ cO a S M ov) (fun r w2 => lotC S z = 0 ∧ r = some (.long (lr_ea (cs_lt S (Int32.toNatClampNeg z)))) ∧ w2 = wW cI cJ cZ cO a S M ov) (fun E w2 => (lotC S z ≠ 0 ∧ E = exN (lotC S z)) ∧ w2 = wW cI cJ cZ cO a S M ov) := by
  refine ctx_of (by decide +kernel) (Nat.le_of_ble_eq_true rfl) ?_
  intro p e s m args below meth c C ht
  have C : Cxt p s m args meth c D (tysW cI cJ cZ cO) N0 cX1_earned 2 RX1 (some .long) "earned" := C
  refine go_aload_n C 0 dX1_earned_0 rfl rfl ?_
  refine go_iload_n C 1 dX1_earned_1 rfl rfl ?_
  refine k_RX1_69 C hlf S M ov z hok ⟨(Nat.le_of_ble_eq_true rfl), (Nat.le_of_ble_eq_true rfl)⟩ ⟨(Nat.le_of_ble_eq_true rfl), (Nat.le_of_ble_eq_true rfl)⟩ (Nat.le_of_ble_eq_true rfl) dX1_earned_2 (fun E hE_1 => gox_out C ht (⟨xc_I (by rw [lotC, hE_1.2]) hE_1.1, rfl⟩) (by decide) (by decide)) (fun j_2 h_3 => ?_)
  obtain rfl := (xAt_some h_3).1
  refine gl_earned C (S := S) (i := (Int32.toNatClampNeg z)) (xAt_nc hok h_3) dX1_earned_5 ?_
  exact go_x (go_lreturn C rfl dX1_earned_8 (by decide) (by decide) ⟨lotC_s h_3, rfl, rfl⟩)
theorem k_RL_57 {p : Program} {l : Launch} {e : Env} {R : Room} {s : State} {m : MethodId} {args : Array Value} {below : List Frame} {meth : Method} {c : Code} {D : va_G} {N0 mL : Nat} {cc : ByteArray} {nm : String} {ret : Option FieldType} {Q : State → Prop} {k n pc : Nat} {lo : List (Nat × Value)} {st : List Value} {cI cJ cZ cO : ClassId} {a : Nat → Nat} (C : Cxt p s m args meth c D (tysW cI cJ cZ cO) N0 cc mL RL ret nm) (hlf : l.stackTraces = false) (S : CS) (M : MS) (ov : Nat → Int64) (z : Int32) (hok : okX S) (hR : 7 + 1 ≤ R.frames ∧ 8 + (2 + 11) + 104 ≤ R.locals) (hcs : k + 1 ≤ R.cells ∧ n + 6 ≤ R.slots) (hcat : (st.map fun v => v.category).sum ≤ 8) (d : decode cc pc = .ok (.invokevirtual 57, 3)) (gx : ∀ E : String, (lotC S z ≠ 0 ∧ E = exN (lotC S z)) → GoX p l e R s m args below meth c D N0 mL Q (wW cI cJ cZ cO a S M ov) (k + 1) (n + 6) pc lo E) (g : (lotC S z = 0) → Go p l e R s m args below meth c D N0 mL Q (wW cI cJ cZ cO a S M ov) (k + 1) (n + 6) (pc + 3) lo (.long (lr_ea (cs_lt S (Int32.toNatClampNeg z))) :: st)) : Go p l e R s m args below meth c D N0 mL Q (wW cI cJ cZ cO a S M ov) k n pc lo (.int z :: .ref (a 0) :: st) :=
  go_callVX C (ci := 1) (r9 := (RX1, TX1, 8)) (qi := 0) (As := [.int z]) (rest := st) rfl rfl (c_X1_earned l hlf D cI cJ cZ cO N0 a S M ov z hok) ⟨rfl, by decide +kernel, by decide +kernel⟩ bl_RL_57 bi_yX1_earned bs_yX1_earned bz_NoticeBook bc_yX1_earned (show Option.map (fun d => d.parameters.length) (parseMethodDescriptor yX1_earned.desc) = some 1 by decide +kernel) hR hcs hcat d (fun E w2 h => by obtain ⟨h9, rfl⟩ := h; exact gx E h9) (fun r w2 h => by obtain ⟨h9, rfl, rfl⟩ := h; exact g h9) rfl
set_option maxHeartbeats 4000000 in
set_option maxRecDepth 100000 in
theorem c_X1_frozen (l : Launch) (hlf : l.stackTraces = false) (D : va_G) (cI cJ cZ cO : ClassId) (N0 : Nat) (a : Nat → Nat) (S : CS) (M : MS) (ov : Nat → Int64) (z : Int32) (hok : okX S) : CtX l D (tysW cI cJ cZ cO) N0 yX1_frozen cX1_frozen 2 (some .int) { frames := 7, cells := 1, slots := 6, locals := 104 } [.ref (a 0), .int z] (wW cI cJ cZ cO a S M ov) (fun r w2 => lotC S z = 0 ∧ r = some (.int (lr_fz (cs_lt S (Int32.toNatClampNeg z)))) ∧ w2 = wW cI cJ cZ cO a S M ov) (fun E w2 => (lotC S z ≠ 0 ∧ E = exN (lotC S z)) ∧ w2 = wW cI cJ cZ cO a S M ov) := by
  refine ctx_of (by decide +kernel) (Nat.le_of_ble_eq_true rfl) ?_
  intro p e s m args below meth c C ht
  have C : Cxt p s m args meth c D (tysW cI cJ cZ cO) N0 cX1_frozen 2 RX1 (some .int) "frozen" := C
  refine go_aload_n C 0 dX1_frozen_0 rfl rfl ?_
  refine go_iload_n C 1 dX1_frozen_1 rfl rfl ?_
  refine k_RX1_69 C hlf S M ov z hok ⟨(Nat.le_of_ble_eq_true rfl), (Nat.le_of_ble_eq_true rfl)⟩ ⟨(Nat.le_of_ble_eq_true rfl), (Nat.le_of_ble_eq_true rfl)⟩ (Nat.le_of_ble_eq_true rfl) dX1_frozen_2 (fun E hE_1 => gox_out C ht (⟨xc_I (by rw [lotC, hE_1.2]) hE_1.1, rfl⟩) (by decide) (by decide)) (fun j_2 h_3 => ?_)
  obtain rfl := (xAt_some h_3).1
  refine gl_frozenCents C (S := S) (i := (Int32.toNatClampNeg z)) (xAt_nc hok h_3) dX1_frozen_5 ?_
  exact go_x (go_ireturn C rfl dX1_frozen_8 (by decide) (by decide) ⟨lotC_s h_3, rfl, rfl⟩)
theorem k_RL_64 {p : Program} {l : Launch} {e : Env} {R : Room} {s : State} {m : MethodId} {args : Array Value} {below : List Frame} {meth : Method} {c : Code} {D : va_G} {N0 mL : Nat} {cc : ByteArray} {nm : String} {ret : Option FieldType} {Q : State → Prop} {k n pc : Nat} {lo : List (Nat × Value)} {st : List Value} {cI cJ cZ cO : ClassId} {a : Nat → Nat} (C : Cxt p s m args meth c D (tysW cI cJ cZ cO) N0 cc mL RL ret nm) (hlf : l.stackTraces = false) (S : CS) (M : MS) (ov : Nat → Int64) (z : Int32) (hok : okX S) (hR : 7 + 1 ≤ R.frames ∧ 8 + (2 + 11) + 104 ≤ R.locals) (hcs : k + 1 ≤ R.cells ∧ n + 6 ≤ R.slots) (hcat : (st.map fun v => v.category).sum ≤ 8) (d : decode cc pc = .ok (.invokevirtual 64, 3)) (gx : ∀ E : String, (lotC S z ≠ 0 ∧ E = exN (lotC S z)) → GoX p l e R s m args below meth c D N0 mL Q (wW cI cJ cZ cO a S M ov) (k + 1) (n + 6) pc lo E) (g : (lotC S z = 0) → Go p l e R s m args below meth c D N0 mL Q (wW cI cJ cZ cO a S M ov) (k + 1) (n + 6) (pc + 3) lo (.int (lr_fz (cs_lt S (Int32.toNatClampNeg z))) :: st)) : Go p l e R s m args below meth c D N0 mL Q (wW cI cJ cZ cO a S M ov) k n pc lo (.int z :: .ref (a 0) :: st) :=
  go_callVX C (ci := 1) (r9 := (RX1, TX1, 8)) (qi := 0) (As := [.int z]) (rest := st) rfl rfl (c_X1_frozen l hlf D cI cJ cZ cO N0 a S M ov z hok) ⟨rfl, by decide +kernel, by decide +kernel⟩ bl_RL_64 bi_yX1_frozen bs_yX1_frozen bz_NoticeBook bc_yX1_frozen (show Option.map (fun d => d.parameters.length) (parseMethodDescriptor yX1_frozen.desc) = some 1 by decide +kernel) hR hcs hcat d (fun E w2 h => by obtain ⟨h9, rfl⟩ := h; exact gx E h9) (fun r w2 h => by obtain ⟨h9, rfl, rfl⟩ := h; exact g h9) rfl
set_option maxHeartbeats 4000000 in
set_option maxRecDepth 100000 in
theorem c_X1_endOf (l : Launch) (hlf : l.stackTraces = false) (D : va_G) (cI cJ cZ cO : ClassId) (N0 : Nat) (a : Nat → Nat) (S : CS) (M : MS) (ov : Nat → Int64) (z : Int32) (hok : okX S) : CtX l D (tysW cI cJ cZ cO) N0 yX1_endOf cX1_endOf 2 (some .int) { frames := 7, cells := 1, slots := 6, locals := 104 } [.ref (a 0), .int z] (wW cI cJ cZ cO a S M ov) (fun r w2 => lotC S z = 0 ∧ r = some (.int (lr_en (cs_lt S (Int32.toNatClampNeg z)))) ∧ w2 = wW cI cJ cZ cO a S M ov) (fun E w2 => (lotC S z ≠ 0 ∧ E = exN (lotC S z)) ∧ w2 = wW cI cJ cZ cO a S M ov) := by
  refine ctx_of (by decide +kernel) (Nat.le_of_ble_eq_true rfl) ?_
  intro p e s m args below meth c C ht
  have C : Cxt p s m args meth c D (tysW cI cJ cZ cO) N0 cX1_endOf 2 RX1 (some .int) "endOf" := C
  refine go_aload_n C 0 dX1_endOf_0 rfl rfl ?_
  refine go_iload_n C 1 dX1_endOf_1 rfl rfl ?_
  refine k_RX1_69 C hlf S M ov z hok ⟨(Nat.le_of_ble_eq_true rfl), (Nat.le_of_ble_eq_true rfl)⟩ ⟨(Nat.le_of_ble_eq_true rfl), (Nat.le_of_ble_eq_true rfl)⟩ (Nat.le_of_ble_eq_true rfl) dX1_endOf_2 (fun E hE_1 => gox_out C ht (⟨xc_I (by rw [lotC, hE_1.2]) hE_1.1, rfl⟩) (by decide) (by decide)) (fun j_2 h_3 => ?_)
  obtain rfl := (xAt_some h_3).1
  refine gl_end C (S := S) (i := (Int32.toNatClampNeg z)) (xAt_nc hok h_3) dX1_endOf_5 ?_
  exact go_x (go_ireturn C rfl dX1_endOf_8 (by decide) (by decide) ⟨lotC_s h_3, rfl, rfl⟩)
theorem k_RL_67 {p : Program} {l : Launch} {e : Env} {R : Room} {s : State} {m : MethodId} {args : Array Value} {below : List Frame} {meth : Method} {c : Code} {D : va_G} {N0 mL : Nat} {cc : ByteArray} {nm : String} {ret : Option FieldType} {Q : State → Prop} {k n pc : Nat} {lo : List (Nat × Value)} {st : List Value} {cI cJ cZ cO : ClassId} {a : Nat → Nat} (C : Cxt p s m args meth c D (tysW cI cJ cZ cO) N0 cc mL RL ret nm) (hlf : l.stackTraces = false) (S : CS) (M : MS) (ov : Nat → Int64) (z : Int32) (hok : okX S) (hR : 7 + 1 ≤ R.frames ∧ 8 + (2 + 11) + 104 ≤ R.locals) (hcs : k + 1 ≤ R.cells ∧ n + 6 ≤ R.slots) (hcat : (st.map fun v => v.category).sum ≤ 8) (d : decode cc pc = .ok (.invokevirtual 67, 3)) (gx : ∀ E : String, (lotC S z ≠ 0 ∧ E = exN (lotC S z)) → GoX p l e R s m args below meth c D N0 mL Q (wW cI cJ cZ cO a S M ov) (k + 1) (n + 6) pc lo E) (g : (lotC S z = 0) → Go p l e R s m args below meth c D N0 mL Q (wW cI cJ cZ cO a S M ov) (k + 1) (n + 6) (pc + 3) lo (.int (lr_en (cs_lt S (Int32.toNatClampNeg z))) :: st)) : Go p l e R s m args below meth c D N0 mL Q (wW cI cJ cZ cO a S M ov) k n pc lo (.int z :: .ref (a 0) :: st) :=
  go_callVX C (ci := 1) (r9 := (RX1, TX1, 8)) (qi := 0) (As := [.int z]) (rest := st) rfl rfl (c_X1_endOf l hlf D cI cJ cZ cO N0 a S M ov z hok) ⟨rfl, by decide +kernel, by decide +kernel⟩ bl_RL_67 bi_yX1_endOf bs_yX1_endOf bz_NoticeBook bc_yX1_endOf (show Option.map (fun d => d.parameters.length) (parseMethodDescriptor yX1_endOf.desc) = some 1 by decide +kernel) hR hcs hcat d (fun E w2 h => by obtain ⟨h9, rfl⟩ := h; exact gx E h9) (fun r w2 h => by obtain ⟨h9, rfl, rfl⟩ := h; exact g h9) rfl
set_option maxHeartbeats 4000000 in
set_option maxRecDepth 100000 in
theorem c_X1_setTermRate (l : Launch) (hlf : l.stackTraces = false) (D : va_G) (cI cJ cZ cO : ClassId) (N0 : Nat) (a : Nat → Nat) (S : CS) (M : MS) (ov : Nat → Int64) (z : Int32)  : CtX l D (tysW cI cJ cZ cO) N0 yX1_setTermRate cX1_setTermRate 3 (some .int) { frames := 7, cells := 1, slots := 6, locals := 104 } [.ref (a 0), .int z] (wW cI cJ cZ cO a S M ov) (fun r w2 => demR z 0 2000 = 0 ∧ r = some (.int (cs_tr S)) ∧ w2 = wW cI cJ cZ cO a (cs_set_tr S z) M ov) (fun E w2 => (demR z 0 2000 ≠ 0 ∧ E = exN (demR z 0 2000)) ∧ w2 = wW cI cJ cZ cO a S M ov) := by
  refine ctx_of (by decide +kernel) (Nat.le_of_ble_eq_true rfl) ?_
  intro p e s m args below meth c C ht
  have C : Cxt p s m args meth c D (tysW cI cJ cZ cO) N0 cX1_setTermRate 3 RX1 (some .int) "setTermRate" := C
  refine go_iload_n C 1 dX1_setTermRate_0 rfl rfl ?_
  refine go_iconst C (v := 0) dX1_setTermRate_1 (by decide) ?_
  refine go_sipush C (v := 2000) dX1_setTermRate_2 (by decide) ?_
  refine k_RX1_47 C hlf S M ov z 0 2000 ⟨(Nat.le_of_ble_eq_true rfl), (Nat.le_of_ble_eq_true rfl)⟩ ⟨(Nat.le_of_ble_eq_true rfl), (Nat.le_of_ble_eq_true rfl)⟩ (Nat.le_of_ble_eq_true rfl) dX1_setTermRate_5 (fun E hE_1 => gox_out C ht (⟨xc_A hE_1.2 hE_1.1, rfl⟩) (by decide) (by decide)) (fun h_2 => ?_)
  refine go_aload_n C 0 dX1_setTermRate_8 rfl rfl ?_
  refine gx_termRate C dX1_setTermRate_9 ?_
  refine go_istore_n C (lo' := [(2, .int (cs_tr S)), (0, .ref (a 0)), (1, .int z)]) dX1_setTermRate_12 rfl (by decide) rfl ?_
  refine go_aload_n C 1 dX1_setTermRate_13 rfl rfl ?_
  refine go_iload_n C 2 dX1_setTermRate_14 rfl rfl ?_
  refine px_termRate C dX1_setTermRate_15 ?_
  refine go_iload_n C 0 dX1_setTermRate_18 rfl rfl ?_
  exact go_x (go_ireturn C rfl dX1_setTermRate_19 (by decide) (by decide) ⟨h_2, rfl, rfl⟩)
theorem k_RL_17 {p : Program} {l : Launch} {e : Env} {R : Room} {s : State} {m : MethodId} {args : Array Value} {below : List Frame} {meth : Method} {c : Code} {D : va_G} {N0 mL : Nat} {cc : ByteArray} {nm : String} {ret : Option FieldType} {Q : State → Prop} {k n pc : Nat} {lo : List (Nat × Value)} {st : List Value} {cI cJ cZ cO : ClassId} {a : Nat → Nat} (C : Cxt p s m args meth c D (tysW cI cJ cZ cO) N0 cc mL RL ret nm) (hlf : l.stackTraces = false) (S : CS) (M : MS) (ov : Nat → Int64) (z : Int32)  (hR : 7 + 1 ≤ R.frames ∧ 8 + (3 + 11) + 104 ≤ R.locals) (hcs : k + 1 ≤ R.cells ∧ n + 6 ≤ R.slots) (hcat : (st.map fun v => v.category).sum ≤ 8) (d : decode cc pc = .ok (.invokevirtual 17, 3)) (gx : ∀ E : String, (demR z 0 2000 ≠ 0 ∧ E = exN (demR z 0 2000)) → GoX p l e R s m args below meth c D N0 mL Q (wW cI cJ cZ cO a S M ov) (k + 1) (n + 6) pc lo E) (g : (demR z 0 2000 = 0) → Go p l e R s m args below meth c D N0 mL Q (wW cI cJ cZ cO a (cs_set_tr S z) M ov) (k + 1) (n + 6) (pc + 3) lo (.int (cs_tr S) :: st)) : Go p l e R s m args below meth c D N0 mL Q (wW cI cJ cZ cO a S M ov) k n pc lo (.int z :: .ref (a 0) :: st) :=
  go_callVX C (ci := 1) (r9 := (RX1, TX1, 8)) (qi := 0) (As := [.int z]) (rest := st) rfl rfl (c_X1_setTermRate l hlf D cI cJ cZ cO N0 a S M ov z ) ⟨rfl, by decide +kernel, by decide +kernel⟩ bl_RL_17 bi_yX1_setTermRate bs_yX1_setTermRate bz_NoticeBook bc_yX1_setTermRate (show Option.map (fun d => d.parameters.length) (parseMethodDescriptor yX1_setTermRate.desc) = some 1 by decide +kernel) hR hcs hcat d (fun E w2 h => by obtain ⟨h9, rfl⟩ := h; exact gx E h9) (fun r w2 h => by obtain ⟨h9, rfl, rfl⟩ := h; exact g h9) rfl
set_option maxHeartbeats 4000000 in
set_option maxRecDepth 100000 in
theorem c_X1_setRate (l : Launch) (hlf : l.stackTraces = false) (D : va_G) (cI cJ cZ cO : ClassId) (N0 : Nat) (a : Nat → Nat) (S : CS) (M : MS) (ov : Nat → Int64) (b z : Int32)  : CtX l D (tysW cI cJ cZ cO) N0 yX1_setRate cX1_setRate 4 (some .int) { frames := 7, cells := 1, slots := 6, locals := 104 } [.ref (a 0), .int b, .int z] (wW cI cJ cZ cO a S M ov) (fun r w2 => stC b z = 0 ∧ r = some (.int (cs_rates S (Int32.toNatClampNeg b))) ∧ w2 = wW cI cJ cZ cO a (cs_set_rates S (upd (cs_rates S) (Int32.toNatClampNeg b) z)) M ov) (fun E w2 => (stC b z ≠ 0 ∧ E = exN (stC b z)) ∧ w2 = wW cI cJ cZ cO a S M ov) := by
  refine ctx_of (by decide +kernel) (Nat.le_of_ble_eq_true rfl) ?_
  intro p e s m args below meth c C ht
  have C : Cxt p s m args meth c D (tysW cI cJ cZ cO) N0 cX1_setRate 4 RX1 (some .int) "setRate" := C
  refine go_iload_n C 1 dX1_setRate_0 rfl rfl ?_
  refine go_if_lt C (tgt := 13) dX1_setRate_1 (by decide) (fun c_1 => ?_) (fun c_1 => ?_)
  · exact go_throw C hlf ht (names := nb_names) (text := "no such band") rfl mem_I fit_nb_I nb_names_fit bcl_RX1_40 bz_IndexOutOfBoundsException (List.mem_of_getElem? (i := 0) rfl) hat_nb_I_44 hat2_nb_I_44 hgood_nb_I_40_44 dX1_setRate_13 dX1_setRate_16 dX1_setRate_17 dX1_setRate_19 dX1_setRate_22 (by decide) (by decide) (by decide) (by decide) ⟨xc_I (by simp only [stC, if_pos c_1]) rfl, rfl⟩ (by decide) (by decide)
  · refine go_iload_n C 1 dX1_setRate_4 rfl rfl ?_
    refine go_aload_n C 0 dX1_setRate_5 rfl rfl ?_
    refine gx_rates C dX1_setRate_6 ?_
    refine nx_rates C dX1_setRate_9 ?_
    refine go_icmp_lt C (tgt := 23) dX1_setRate_10 (by decide) (fun c_2 => ?_) (fun c_2 => ?_)
    · refine go_iload_n C 2 dX1_setRate_23 rfl rfl ?_
      refine go_iconst C (v := 0) dX1_setRate_24 (by decide) ?_
      refine go_sipush C (v := 2000) dX1_setRate_25 (by decide) ?_
      refine k_RX1_47 C hlf S M ov z 0 2000 ⟨(Nat.le_of_ble_eq_true rfl), (Nat.le_of_ble_eq_true rfl)⟩ ⟨(Nat.le_of_ble_eq_true rfl), (Nat.le_of_ble_eq_true rfl)⟩ (Nat.le_of_ble_eq_true rfl) dX1_setRate_28 (fun E hE_3 => gox_out C ht (⟨xc_A (by simp only [stC, if_neg c_1, if_pos c_2, if_neg (ne0_2 hE_3.2)]) hE_3.1, rfl⟩) (by decide) (by decide)) (fun h_4 => ?_)
      refine go_aload_n C 0 dX1_setRate_31 rfl rfl ?_
      refine gx_rates C dX1_setRate_32 ?_
      refine go_iload_n C 1 dX1_setRate_35 rfl rfl ?_
      refine lx_rates C (vin_lt (n := 3) c_1 c_2 (by decide)) dX1_setRate_36 ?_
      refine go_istore_n C (lo' := [(3, .int (cs_rates S (Int32.toNatClampNeg b))), (0, .ref (a 0)), (1, .int b), (2, .int z)]) dX1_setRate_37 rfl (by decide) rfl ?_
      refine go_aload_n C 1 dX1_setRate_38 rfl rfl ?_
      refine gx_rates C dX1_setRate_39 ?_
      refine go_iload_n C 2 dX1_setRate_42 rfl rfl ?_
      refine go_iload_n C 3 dX1_setRate_43 rfl rfl ?_
      refine sx_rates C (vin_lt (n := 3) c_1 c_2 (by decide)) dX1_setRate_44 ?_
      refine go_iload_n C 0 dX1_setRate_45 rfl rfl ?_
      exact go_x (go_ireturn C rfl dX1_setRate_46 (by decide) (by decide) ⟨by simp only [stC, if_neg c_1, if_pos c_2, if_pos h_4], rfl, rfl⟩)
    · exact go_throw C hlf ht (names := nb_names) (text := "no such band") rfl mem_I fit_nb_I nb_names_fit bcl_RX1_40 bz_IndexOutOfBoundsException (List.mem_of_getElem? (i := 0) rfl) hat_nb_I_44 hat2_nb_I_44 hgood_nb_I_40_44 dX1_setRate_13 dX1_setRate_16 dX1_setRate_17 dX1_setRate_19 dX1_setRate_22 (by decide) (by decide) (by decide) (by decide) ⟨xc_I (by simp only [stC, if_neg c_1, if_neg c_2]) rfl, rfl⟩ (by decide) (by decide)
theorem k_RL_7 {p : Program} {l : Launch} {e : Env} {R : Room} {s : State} {m : MethodId} {args : Array Value} {below : List Frame} {meth : Method} {c : Code} {D : va_G} {N0 mL : Nat} {cc : ByteArray} {nm : String} {ret : Option FieldType} {Q : State → Prop} {k n pc : Nat} {lo : List (Nat × Value)} {st : List Value} {cI cJ cZ cO : ClassId} {a : Nat → Nat} (C : Cxt p s m args meth c D (tysW cI cJ cZ cO) N0 cc mL RL ret nm) (hlf : l.stackTraces = false) (S : CS) (M : MS) (ov : Nat → Int64) (b z : Int32)  (hR : 7 + 1 ≤ R.frames ∧ 8 + (4 + 11) + 104 ≤ R.locals) (hcs : k + 1 ≤ R.cells ∧ n + 6 ≤ R.slots) (hcat : (st.map fun v => v.category).sum ≤ 8) (d : decode cc pc = .ok (.invokevirtual 7, 3)) (gx : ∀ E : String, (stC b z ≠ 0 ∧ E = exN (stC b z)) → GoX p l e R s m args below meth c D N0 mL Q (wW cI cJ cZ cO a S M ov) (k + 1) (n + 6) pc lo E) (g : (stC b z = 0) → Go p l e R s m args below meth c D N0 mL Q (wW cI cJ cZ cO a (cs_set_rates S (upd (cs_rates S) (Int32.toNatClampNeg b) z)) M ov) (k + 1) (n + 6) (pc + 3) lo (.int (cs_rates S (Int32.toNatClampNeg b)) :: st)) : Go p l e R s m args below meth c D N0 mL Q (wW cI cJ cZ cO a S M ov) k n pc lo (.int z :: .int b :: .ref (a 0) :: st) :=
  go_callVX C (ci := 1) (r9 := (RX1, TX1, 8)) (qi := 0) (As := [.int b, .int z]) (rest := st) rfl rfl (c_X1_setRate l hlf D cI cJ cZ cO N0 a S M ov b z ) ⟨rfl, by decide +kernel, by decide +kernel⟩ bl_RL_7 bi_yX1_setRate bs_yX1_setRate bz_NoticeBook bc_yX1_setRate (show Option.map (fun d => d.parameters.length) (parseMethodDescriptor yX1_setRate.desc) = some 2 by decide +kernel) hR hcs hcat d (fun E w2 h => by obtain ⟨h9, rfl⟩ := h; exact gx E h9) (fun r w2 h => by obtain ⟨h9, rfl, rfl⟩ := h; exact g h9) rfl
set_option maxHeartbeats 4000000 in
set_option maxRecDepth 100000 in
theorem c_X1_total (l : Launch) (hlf : l.stackTraces = false) (D : va_G) (cI cJ cZ cO : ClassId) (N0 : Nat) (a : Nat → Nat) (S : CS) (M : MS) (ov : Nat → Int64) (z : Int32) (hok : okX S) : CtX l D (tysW cI cJ cZ cO) N0 yX1_total cX1_total 2 (some .int) { frames := 7, cells := 1, slots := 6, locals := 102 } [.ref (a 0), .int z] (wW cI cJ cZ cO a S M ov) (fun r w2 => demC z = 0 ∧ r = some (.int (totTo S z (cs_n S))) ∧ w2 = wW cI cJ cZ cO a S M ov) (fun E w2 => (demC z ≠ 0 ∧ E = exN (demC z)) ∧ w2 = wW cI cJ cZ cO a S M ov) := by
  refine ctx_of (by decide +kernel) (Nat.le_of_ble_eq_true rfl) ?_
  intro p e s m args below meth c C ht
  have C : Cxt p s m args meth c D (tysW cI cJ cZ cO) N0 cX1_total 2 RX1 (some .int) "total" := C
  refine go_iload_n C 1 dX1_total_0 rfl rfl ?_
  refine k_RX1_51 C hlf S M ov z ⟨(Nat.le_of_ble_eq_true rfl), (Nat.le_of_ble_eq_true rfl)⟩ ⟨(Nat.le_of_ble_eq_true rfl), (Nat.le_of_ble_eq_true rfl)⟩ (Nat.le_of_ble_eq_true rfl) dX1_total_1 (fun E hE_1 => gox_out C ht (⟨xc_I hE_1.2 hE_1.1, rfl⟩) (by decide) (by decide)) (fun h_2 => ?_)
  refine go_aload_n C 0 dX1_total_4 rfl rfl ?_
  refine go_iload_n C 1 dX1_total_5 rfl rfl ?_
  refine k_RX1_173 C S M ov z hok ⟨(Nat.le_of_ble_eq_true rfl), (Nat.le_of_ble_eq_true rfl)⟩ ⟨(Nat.le_of_ble_eq_true rfl), (Nat.le_of_ble_eq_true rfl)⟩ (Nat.le_of_ble_eq_true rfl) dX1_total_6 ?_
  exact go_x (go_ireturn C rfl dX1_total_9 (by decide) (by decide) ⟨h_2, rfl, rfl⟩)
theorem k_RL_70 {p : Program} {l : Launch} {e : Env} {R : Room} {s : State} {m : MethodId} {args : Array Value} {below : List Frame} {meth : Method} {c : Code} {D : va_G} {N0 mL : Nat} {cc : ByteArray} {nm : String} {ret : Option FieldType} {Q : State → Prop} {k n pc : Nat} {lo : List (Nat × Value)} {st : List Value} {cI cJ cZ cO : ClassId} {a : Nat → Nat} (C : Cxt p s m args meth c D (tysW cI cJ cZ cO) N0 cc mL RL ret nm) (hlf : l.stackTraces = false) (S : CS) (M : MS) (ov : Nat → Int64) (z : Int32) (hok : okX S) (hR : 7 + 1 ≤ R.frames ∧ 8 + (2 + 11) + 102 ≤ R.locals) (hcs : k + 1 ≤ R.cells ∧ n + 6 ≤ R.slots) (hcat : (st.map fun v => v.category).sum ≤ 8) (d : decode cc pc = .ok (.invokevirtual 70, 3)) (gx : ∀ E : String, (demC z ≠ 0 ∧ E = exN (demC z)) → GoX p l e R s m args below meth c D N0 mL Q (wW cI cJ cZ cO a S M ov) (k + 1) (n + 6) pc lo E) (g : (demC z = 0) → Go p l e R s m args below meth c D N0 mL Q (wW cI cJ cZ cO a S M ov) (k + 1) (n + 6) (pc + 3) lo (.int (totTo S z (cs_n S)) :: st)) : Go p l e R s m args below meth c D N0 mL Q (wW cI cJ cZ cO a S M ov) k n pc lo (.int z :: .ref (a 0) :: st) :=
  go_callVX C (ci := 1) (r9 := (RX1, TX1, 8)) (qi := 0) (As := [.int z]) (rest := st) rfl rfl (c_X1_total l hlf D cI cJ cZ cO N0 a S M ov z hok) ⟨rfl, by decide +kernel, by decide +kernel⟩ bl_RL_70 bi_yX1_total bs_yX1_total bz_NoticeBook bc_yX1_total (show Option.map (fun d => d.parameters.length) (parseMethodDescriptor yX1_total.desc) = some 1 by decide +kernel) hR hcs hcat d (fun E w2 h => by obtain ⟨h9, rfl⟩ := h; exact gx E h9) (fun r w2 h => by obtain ⟨h9, rfl, rfl⟩ := h; exact g h9) rfl
set_option maxHeartbeats 4000000 in
set_option maxRecDepth 100000 in
theorem c_X1_partsByTotal (l : Launch) (hlf : l.stackTraces = false) (D : va_G) (cI cJ cZ cO : ClassId) (N0 : Nat) (a : Nat → Nat) (S : CS) (M : MS) (ov : Nat → Int64) (z : Int32) (hok : okX S) : CtX l D (tysW cI cJ cZ cO) N0 yX1_partsByTotal cX1_partsByTotal 3 (some .long) { frames := 7, cells := 1, slots := 6, locals := 102 } [.ref (a 0), .int z] (wW cI cJ cZ cO a S M ov) (fun r w2 => demC z = 0 ∧ r = some (.long (poc S 0 (totTo S z (cs_n S)) (totTo S z (cs_n S)))) ∧ w2 = wW cI cJ cZ cO a S M ov) (fun E w2 => (demC z ≠ 0 ∧ E = exN (demC z)) ∧ w2 = wW cI cJ cZ cO a S M ov) := by
  refine ctx_of (by decide +kernel) (Nat.le_of_ble_eq_true rfl) ?_
  intro p e s m args below meth c C ht
  have C : Cxt p s m args meth c D (tysW cI cJ cZ cO) N0 cX1_partsByTotal 3 RX1 (some .long) "partsByTotal" := C
  refine go_iload_n C 1 dX1_partsByTotal_0 rfl rfl ?_
  refine k_RX1_51 C hlf S M ov z ⟨(Nat.le_of_ble_eq_true rfl), (Nat.le_of_ble_eq_true rfl)⟩ ⟨(Nat.le_of_ble_eq_true rfl), (Nat.le_of_ble_eq_true rfl)⟩ (Nat.le_of_ble_eq_true rfl) dX1_partsByTotal_1 (fun E hE_1 => gox_out C ht (⟨xc_I hE_1.2 hE_1.1, rfl⟩) (by decide) (by decide)) (fun h_2 => ?_)
  refine go_aload_n C 0 dX1_partsByTotal_4 rfl rfl ?_
  refine go_iload_n C 1 dX1_partsByTotal_5 rfl rfl ?_
  refine k_RX1_173 C S M ov z hok ⟨(Nat.le_of_ble_eq_true rfl), (Nat.le_of_ble_eq_true rfl)⟩ ⟨(Nat.le_of_ble_eq_true rfl), (Nat.le_of_ble_eq_true rfl)⟩ (Nat.le_of_ble_eq_true rfl) dX1_partsByTotal_6 ?_
  refine go_istore_n C (lo' := [(2, .int (totTo S z (cs_n S))), (0, .ref (a 0)), (1, .int z)]) dX1_partsByTotal_9 rfl (by decide) rfl ?_
  refine go_aload_n C 1 dX1_partsByTotal_10 rfl rfl ?_
  refine go_iconst C (v := 0) dX1_partsByTotal_11 (by decide) ?_
  refine go_iload_n C 0 dX1_partsByTotal_12 rfl rfl ?_
  refine go_iload_n C 0 dX1_partsByTotal_13 rfl rfl ?_
  refine k_RX1_176 C S M ov 0 (totTo S z (cs_n S)) (totTo S z (cs_n S)) ⟨(Nat.le_of_ble_eq_true rfl), (Nat.le_of_ble_eq_true rfl)⟩ ⟨(Nat.le_of_ble_eq_true rfl), (Nat.le_of_ble_eq_true rfl)⟩ (Nat.le_of_ble_eq_true rfl) dX1_partsByTotal_14 ?_
  exact go_x (go_lreturn C rfl dX1_partsByTotal_17 (by decide) (by decide) ⟨h_2, rfl, rfl⟩)
theorem k_RL_73 {p : Program} {l : Launch} {e : Env} {R : Room} {s : State} {m : MethodId} {args : Array Value} {below : List Frame} {meth : Method} {c : Code} {D : va_G} {N0 mL : Nat} {cc : ByteArray} {nm : String} {ret : Option FieldType} {Q : State → Prop} {k n pc : Nat} {lo : List (Nat × Value)} {st : List Value} {cI cJ cZ cO : ClassId} {a : Nat → Nat} (C : Cxt p s m args meth c D (tysW cI cJ cZ cO) N0 cc mL RL ret nm) (hlf : l.stackTraces = false) (S : CS) (M : MS) (ov : Nat → Int64) (z : Int32) (hok : okX S) (hR : 7 + 1 ≤ R.frames ∧ 8 + (3 + 11) + 102 ≤ R.locals) (hcs : k + 1 ≤ R.cells ∧ n + 6 ≤ R.slots) (hcat : (st.map fun v => v.category).sum ≤ 8) (d : decode cc pc = .ok (.invokevirtual 73, 3)) (gx : ∀ E : String, (demC z ≠ 0 ∧ E = exN (demC z)) → GoX p l e R s m args below meth c D N0 mL Q (wW cI cJ cZ cO a S M ov) (k + 1) (n + 6) pc lo E) (g : (demC z = 0) → Go p l e R s m args below meth c D N0 mL Q (wW cI cJ cZ cO a S M ov) (k + 1) (n + 6) (pc + 3) lo (.long (poc S 0 (totTo S z (cs_n S)) (totTo S z (cs_n S))) :: st)) : Go p l e R s m args below meth c D N0 mL Q (wW cI cJ cZ cO a S M ov) k n pc lo (.int z :: .ref (a 0) :: st) :=
  go_callVX C (ci := 1) (r9 := (RX1, TX1, 8)) (qi := 0) (As := [.int z]) (rest := st) rfl rfl (c_X1_partsByTotal l hlf D cI cJ cZ cO N0 a S M ov z hok) ⟨rfl, by decide +kernel, by decide +kernel⟩ bl_RL_73 bi_yX1_partsByTotal bs_yX1_partsByTotal bz_NoticeBook bc_yX1_partsByTotal (show Option.map (fun d => d.parameters.length) (parseMethodDescriptor yX1_partsByTotal.desc) = some 1 by decide +kernel) hR hcs hcat d (fun E w2 h => by obtain ⟨h9, rfl⟩ := h; exact gx E h9) (fun r w2 h => by obtain ⟨h9, rfl, rfl⟩ := h; exact g h9) rfl
set_option maxHeartbeats 4000000 in
set_option maxRecDepth 100000 in
theorem c_X1_paid (l : Launch) (hlf : l.stackTraces = false) (D : va_G) (cI cJ cZ cO : ClassId) (N0 : Nat) (a : Nat → Nat) (S : CS) (M : MS) (ov : Nat → Int64) (z : Int32)  : CtX l D (tysW cI cJ cZ cO) N0 yX1_paid cX1_paid 2 (some .long) { frames := 7, cells := 1, slots := 6, locals := 102 } [.ref (a 0), .int z] (wW cI cJ cZ cO a S M ov) (fun r w2 => demC z = 0 ∧ r = some (.long (cs_paid S (Int32.toNatClampNeg z))) ∧ w2 = wW cI cJ cZ cO a S M ov) (fun E w2 => (demC z ≠ 0 ∧ E = exN (demC z)) ∧ w2 = wW cI cJ cZ cO a S M ov) := by
  refine ctx_of (by decide +kernel) (Nat.le_of_ble_eq_true rfl) ?_
  intro p e s m args below meth c C ht
  have C : Cxt p s m args meth c D (tysW cI cJ cZ cO) N0 cX1_paid 2 RX1 (some .long) "paid" := C
  refine go_iload_n C 1 dX1_paid_0 rfl rfl ?_
  refine k_RX1_51 C hlf S M ov z ⟨(Nat.le_of_ble_eq_true rfl), (Nat.le_of_ble_eq_true rfl)⟩ ⟨(Nat.le_of_ble_eq_true rfl), (Nat.le_of_ble_eq_true rfl)⟩ (Nat.le_of_ble_eq_true rfl) dX1_paid_1 (fun E hE_1 => gox_out C ht (⟨xc_I hE_1.2 hE_1.1, rfl⟩) (by decide) (by decide)) (fun h_2 => ?_)
  refine go_aload_n C 0 dX1_paid_4 rfl rfl ?_
  refine gx_paidCents C dX1_paid_5 ?_
  refine go_iload_n C 1 dX1_paid_8 rfl rfl ?_
  refine lx_paid C (demC_in h_2) dX1_paid_9 ?_
  exact go_x (go_lreturn C rfl dX1_paid_10 (by decide) (by decide) ⟨h_2, rfl, rfl⟩)
theorem k_RL_76 {p : Program} {l : Launch} {e : Env} {R : Room} {s : State} {m : MethodId} {args : Array Value} {below : List Frame} {meth : Method} {c : Code} {D : va_G} {N0 mL : Nat} {cc : ByteArray} {nm : String} {ret : Option FieldType} {Q : State → Prop} {k n pc : Nat} {lo : List (Nat × Value)} {st : List Value} {cI cJ cZ cO : ClassId} {a : Nat → Nat} (C : Cxt p s m args meth c D (tysW cI cJ cZ cO) N0 cc mL RL ret nm) (hlf : l.stackTraces = false) (S : CS) (M : MS) (ov : Nat → Int64) (z : Int32)  (hR : 7 + 1 ≤ R.frames ∧ 8 + (2 + 11) + 102 ≤ R.locals) (hcs : k + 1 ≤ R.cells ∧ n + 6 ≤ R.slots) (hcat : (st.map fun v => v.category).sum ≤ 8) (d : decode cc pc = .ok (.invokevirtual 76, 3)) (gx : ∀ E : String, (demC z ≠ 0 ∧ E = exN (demC z)) → GoX p l e R s m args below meth c D N0 mL Q (wW cI cJ cZ cO a S M ov) (k + 1) (n + 6) pc lo E) (g : (demC z = 0) → Go p l e R s m args below meth c D N0 mL Q (wW cI cJ cZ cO a S M ov) (k + 1) (n + 6) (pc + 3) lo (.long (cs_paid S (Int32.toNatClampNeg z)) :: st)) : Go p l e R s m args below meth c D N0 mL Q (wW cI cJ cZ cO a S M ov) k n pc lo (.int z :: .ref (a 0) :: st) :=
  go_callVX C (ci := 1) (r9 := (RX1, TX1, 8)) (qi := 0) (As := [.int z]) (rest := st) rfl rfl (c_X1_paid l hlf D cI cJ cZ cO N0 a S M ov z ) ⟨rfl, by decide +kernel, by decide +kernel⟩ bl_RL_76 bi_yX1_paid bs_yX1_paid bz_NoticeBook bc_yX1_paid (show Option.map (fun d => d.parameters.length) (parseMethodDescriptor yX1_paid.desc) = some 1 by decide +kernel) hR hcs hcat d (fun E w2 h => by obtain ⟨h9, rfl⟩ := h; exact gx E h9) (fun r w2 h => by obtain ⟨h9, rfl, rfl⟩ := h; exact g h9) rfl
set_option maxHeartbeats 4000000 in
set_option maxRecDepth 100000 in
theorem c_X1_lost (l : Launch) (hlf : l.stackTraces = false) (D : va_G) (cI cJ cZ cO : ClassId) (N0 : Nat) (a : Nat → Nat) (S : CS) (M : MS) (ov : Nat → Int64) (z : Int32)  : CtX l D (tysW cI cJ cZ cO) N0 yX1_lost cX1_lost 2 (some .long) { frames := 7, cells := 1, slots := 6, locals := 102 } [.ref (a 0), .int z] (wW cI cJ cZ cO a S M ov) (fun r w2 => demC z = 0 ∧ r = some (.long (cs_lost S (Int32.toNatClampNeg z))) ∧ w2 = wW cI cJ cZ cO a S M ov) (fun E w2 => (demC z ≠ 0 ∧ E = exN (demC z)) ∧ w2 = wW cI cJ cZ cO a S M ov) := by
  refine ctx_of (by decide +kernel) (Nat.le_of_ble_eq_true rfl) ?_
  intro p e s m args below meth c C ht
  have C : Cxt p s m args meth c D (tysW cI cJ cZ cO) N0 cX1_lost 2 RX1 (some .long) "lost" := C
  refine go_iload_n C 1 dX1_lost_0 rfl rfl ?_
  refine k_RX1_51 C hlf S M ov z ⟨(Nat.le_of_ble_eq_true rfl), (Nat.le_of_ble_eq_true rfl)⟩ ⟨(Nat.le_of_ble_eq_true rfl), (Nat.le_of_ble_eq_true rfl)⟩ (Nat.le_of_ble_eq_true rfl) dX1_lost_1 (fun E hE_1 => gox_out C ht (⟨xc_I hE_1.2 hE_1.1, rfl⟩) (by decide) (by decide)) (fun h_2 => ?_)
  refine go_aload_n C 0 dX1_lost_4 rfl rfl ?_
  refine gx_lostParts C dX1_lost_5 ?_
  refine go_iload_n C 1 dX1_lost_8 rfl rfl ?_
  refine lx_lost C (demC_in h_2) dX1_lost_9 ?_
  exact go_x (go_lreturn C rfl dX1_lost_10 (by decide) (by decide) ⟨h_2, rfl, rfl⟩)
theorem k_RL_79 {p : Program} {l : Launch} {e : Env} {R : Room} {s : State} {m : MethodId} {args : Array Value} {below : List Frame} {meth : Method} {c : Code} {D : va_G} {N0 mL : Nat} {cc : ByteArray} {nm : String} {ret : Option FieldType} {Q : State → Prop} {k n pc : Nat} {lo : List (Nat × Value)} {st : List Value} {cI cJ cZ cO : ClassId} {a : Nat → Nat} (C : Cxt p s m args meth c D (tysW cI cJ cZ cO) N0 cc mL RL ret nm) (hlf : l.stackTraces = false) (S : CS) (M : MS) (ov : Nat → Int64) (z : Int32)  (hR : 7 + 1 ≤ R.frames ∧ 8 + (2 + 11) + 102 ≤ R.locals) (hcs : k + 1 ≤ R.cells ∧ n + 6 ≤ R.slots) (hcat : (st.map fun v => v.category).sum ≤ 8) (d : decode cc pc = .ok (.invokevirtual 79, 3)) (gx : ∀ E : String, (demC z ≠ 0 ∧ E = exN (demC z)) → GoX p l e R s m args below meth c D N0 mL Q (wW cI cJ cZ cO a S M ov) (k + 1) (n + 6) pc lo E) (g : (demC z = 0) → Go p l e R s m args below meth c D N0 mL Q (wW cI cJ cZ cO a S M ov) (k + 1) (n + 6) (pc + 3) lo (.long (cs_lost S (Int32.toNatClampNeg z)) :: st)) : Go p l e R s m args below meth c D N0 mL Q (wW cI cJ cZ cO a S M ov) k n pc lo (.int z :: .ref (a 0) :: st) :=
  go_callVX C (ci := 1) (r9 := (RX1, TX1, 8)) (qi := 0) (As := [.int z]) (rest := st) rfl rfl (c_X1_lost l hlf D cI cJ cZ cO N0 a S M ov z ) ⟨rfl, by decide +kernel, by decide +kernel⟩ bl_RL_79 bi_yX1_lost bs_yX1_lost bz_NoticeBook bc_yX1_lost (show Option.map (fun d => d.parameters.length) (parseMethodDescriptor yX1_lost.desc) = some 1 by decide +kernel) hR hcs hcat d (fun E w2 h => by obtain ⟨h9, rfl⟩ := h; exact gx E h9) (fun r w2 h => by obtain ⟨h9, rfl, rfl⟩ := h; exact g h9) rfl
set_option maxHeartbeats 4000000 in
set_option maxRecDepth 100000 in
theorem c_X1_partsOfDay (l : Launch) (hlf : l.stackTraces = false) (D : va_G) (cI cJ cZ cO : ClassId) (N0 : Nat) (a : Nat → Nat) (S : CS) (M : MS) (ov : Nat → Int64) (z : Int32) (hok : okX S) : CtX l D (tysW cI cJ cZ cO) N0 yX1_partsOfDay cX1_partsOfDay 3 (some .long) { frames := 7, cells := 1, slots := 6, locals := 104 } [.ref (a 0), .int z] (wW cI cJ cZ cO a S M ov) (fun r w2 => lotC S z = 0 ∧ r = some (.long (lr_pa (cs_lt (pdS S z) (Int32.toNatClampNeg z)))) ∧ w2 = wW cI cJ cZ cO a (pdS S z) M ov) (fun E w2 => (lotC S z ≠ 0 ∧ E = exN (lotC S z)) ∧ w2 = wW cI cJ cZ cO a S M ov) := by
  refine ctx_of (by decide +kernel) (Nat.le_of_ble_eq_true rfl) ?_
  intro p e s m args below meth c C ht
  have C : Cxt p s m args meth c D (tysW cI cJ cZ cO) N0 cX1_partsOfDay 3 RX1 (some .long) "partsOfDay" := C
  refine go_aload_n C 0 dX1_partsOfDay_0 rfl rfl ?_
  refine go_iload_n C 1 dX1_partsOfDay_1 rfl rfl ?_
  refine k_RX1_69 C hlf S M ov z hok ⟨(Nat.le_of_ble_eq_true rfl), (Nat.le_of_ble_eq_true rfl)⟩ ⟨(Nat.le_of_ble_eq_true rfl), (Nat.le_of_ble_eq_true rfl)⟩ (Nat.le_of_ble_eq_true rfl) dX1_partsOfDay_2 (fun E hE_1 => gox_out C ht (⟨xc_I (by rw [lotC, hE_1.2]) hE_1.1, rfl⟩) (by decide) (by decide)) (fun j_2 h_3 => ?_)
  obtain rfl := (xAt_some h_3).1
  refine go_astore_n C (lo' := [(2, .ref (cs_la S (Int32.toNatClampNeg z))), (0, .ref (a 0)), (1, .int z)]) dX1_partsOfDay_5 rfl (by decide) rfl ?_
  refine go_aload_n C 1 dX1_partsOfDay_6 rfl rfl ?_
  refine go_aload_n C 0 dX1_partsOfDay_7 rfl rfl ?_
  refine gl_customer C (S := S) (i := (Int32.toNatClampNeg z)) (xAt_nc hok h_3) dX1_partsOfDay_8 ?_
  refine k_RX1_107 C S M ov (lr_cu (cs_lt S (Int32.toNatClampNeg z))) hok ⟨(Nat.le_of_ble_eq_true rfl), (Nat.le_of_ble_eq_true rfl)⟩ ⟨(Nat.le_of_ble_eq_true rfl), (Nat.le_of_ble_eq_true rfl)⟩ (Nat.le_of_ble_eq_true rfl) dX1_partsOfDay_11 ?_
  refine go_aload_n C 0 dX1_partsOfDay_14 rfl rfl ?_
  refine gl_parts C (S := noteX S (lr_cu (cs_lt S (Int32.toNatClampNeg z)))) (i := (Int32.toNatClampNeg z)) (xAt_nc hok h_3) dX1_partsOfDay_15 ?_
  exact go_x (go_lreturn C rfl dX1_partsOfDay_18 (by decide) (by decide) ⟨lotC_s h_3, rfl, rfl⟩)
theorem k_RL_61 {p : Program} {l : Launch} {e : Env} {R : Room} {s : State} {m : MethodId} {args : Array Value} {below : List Frame} {meth : Method} {c : Code} {D : va_G} {N0 mL : Nat} {cc : ByteArray} {nm : String} {ret : Option FieldType} {Q : State → Prop} {k n pc : Nat} {lo : List (Nat × Value)} {st : List Value} {cI cJ cZ cO : ClassId} {a : Nat → Nat} (C : Cxt p s m args meth c D (tysW cI cJ cZ cO) N0 cc mL RL ret nm) (hlf : l.stackTraces = false) (S : CS) (M : MS) (ov : Nat → Int64) (z : Int32) (hok : okX S) (hR : 7 + 1 ≤ R.frames ∧ 8 + (3 + 11) + 104 ≤ R.locals) (hcs : k + 1 ≤ R.cells ∧ n + 6 ≤ R.slots) (hcat : (st.map fun v => v.category).sum ≤ 8) (d : decode cc pc = .ok (.invokevirtual 61, 3)) (gx : ∀ E : String, (lotC S z ≠ 0 ∧ E = exN (lotC S z)) → GoX p l e R s m args below meth c D N0 mL Q (wW cI cJ cZ cO a S M ov) (k + 1) (n + 6) pc lo E) (g : (lotC S z = 0) → Go p l e R s m args below meth c D N0 mL Q (wW cI cJ cZ cO a (pdS S z) M ov) (k + 1) (n + 6) (pc + 3) lo (.long (lr_pa (cs_lt (pdS S z) (Int32.toNatClampNeg z))) :: st)) : Go p l e R s m args below meth c D N0 mL Q (wW cI cJ cZ cO a S M ov) k n pc lo (.int z :: .ref (a 0) :: st) :=
  go_callVX C (ci := 1) (r9 := (RX1, TX1, 8)) (qi := 0) (As := [.int z]) (rest := st) rfl rfl (c_X1_partsOfDay l hlf D cI cJ cZ cO N0 a S M ov z hok) ⟨rfl, by decide +kernel, by decide +kernel⟩ bl_RL_61 bi_yX1_partsOfDay bs_yX1_partsOfDay bz_NoticeBook bc_yX1_partsOfDay (show Option.map (fun d => d.parameters.length) (parseMethodDescriptor yX1_partsOfDay.desc) = some 1 by decide +kernel) hR hcs hcat d (fun E w2 h => by obtain ⟨h9, rfl⟩ := h; exact gx E h9) (fun r w2 h => by obtain ⟨h9, rfl, rfl⟩ := h; exact g h9) rfl
set_option maxHeartbeats 4000000 in
set_option maxRecDepth 100000 in
theorem c_X1_give (l : Launch) (hlf : l.stackTraces = false) (D : va_G) (cI cJ cZ cO : ClassId) (N0 : Nat) (a : Nat → Nat) (S : CS) (M : MS) (ov : Nat → Int64) (z c9 : Int32) (hok : okX S) : CtX l D (tysW cI cJ cZ cO) N0 yX1_give cX1_give 4 (some .int) { frames := 7, cells := 3, slots := 18, locals := 104 } [.ref (a 0), .int z, .int c9] (wW cI cJ cZ cO a S M ov) (fun r w2 => gvC S z c9 = 0 ∧ r = some (.int (cs_day S + 32)) ∧ w2 = wW cI cJ cZ cO a (gvS S z c9) M ov) (fun E w2 => (gvC S z c9 ≠ 0 ∧ E = exN (gvC S z c9)) ∧ w2 = wW cI cJ cZ cO a S M ov) := by
  refine ctx_of (by decide +kernel) (Nat.le_of_ble_eq_true rfl) ?_
  intro p e s m args below meth c C ht
  have C : Cxt p s m args meth c D (tysW cI cJ cZ cO) N0 cX1_give 4 RX1 (some .int) "give" := C
  refine go_aload_n C 0 dX1_give_0 rfl rfl ?_
  refine go_iload_n C 1 dX1_give_1 rfl rfl ?_
  refine k_RX1_69 C hlf S M ov z hok ⟨(Nat.le_of_ble_eq_true rfl), (Nat.le_of_ble_eq_true rfl)⟩ ⟨(Nat.le_of_ble_eq_true rfl), (Nat.le_of_ble_eq_true rfl)⟩ (Nat.le_of_ble_eq_true rfl) dX1_give_2 (fun E hE_1 => gox_out C ht (⟨xc_I (by simp only [gvC, if_neg (lotC_n hE_1.2)]) hE_1.1, rfl⟩) (by decide) (by decide)) (fun j_2 h_3 => ?_)
  obtain rfl := (xAt_some h_3).1
  refine go_astore_n C (lo' := [(3, .ref (cs_la S (Int32.toNatClampNeg z))), (0, .ref (a 0)), (1, .int z), (2, .int c9)]) dX1_give_5 rfl (by decide) rfl ?_
  refine go_iload_n C 3 dX1_give_6 rfl rfl ?_
  refine go_iconst C (v := 1) dX1_give_7 (by decide) ?_
  refine go_aload_n C 0 dX1_give_8 rfl rfl ?_
  refine gl_principal C (S := S) (i := (Int32.toNatClampNeg z)) (xAt_nc hok h_3) dX1_give_9 ?_
  refine k_RX1_47 C hlf S M ov c9 1 (lr_pr (cs_lt S (Int32.toNatClampNeg z))) ⟨(Nat.le_of_ble_eq_true rfl), (Nat.le_of_ble_eq_true rfl)⟩ ⟨(Nat.le_of_ble_eq_true rfl), (Nat.le_of_ble_eq_true rfl)⟩ (Nat.le_of_ble_eq_true rfl) dX1_give_12 (fun E hE_4 => gox_out C ht (⟨xc_A (by simp only [gvC, if_pos (lotC_s h_3), if_neg (ne0_2 hE_4.2)]) hE_4.1, rfl⟩) (by decide) (by decide)) (fun h_5 => ?_)
  refine go_aload_n C 0 dX1_give_15 rfl rfl ?_
  refine k_RX1_76 C S M ov (Int32.toNatClampNeg z) (xAt_nc hok h_3) ⟨(Nat.le_of_ble_eq_true rfl), (Nat.le_of_ble_eq_true rfl)⟩ ⟨(Nat.le_of_ble_eq_true rfl), (Nat.le_of_ble_eq_true rfl)⟩ (Nat.le_of_ble_eq_true rfl) dX1_give_16 ?_
  refine go_if_ne C (tgt := 29) dX1_give_19 (by decide) (fun c_6 => ?_) (fun c_6 => ?_)
  · exact go_throw C hlf ht (names := nb_names) (text := "not by NOTICE, or it has a notice") rfl mem_S fit_nb_S nb_names_fit bcl_RX1_83 bz_IllegalStateException (List.mem_of_getElem? (i := 5) rfl) hat_nb_S_87 hat2_nb_S_87 hgood_nb_S_83_87 dX1_give_29 dX1_give_32 dX1_give_33 dX1_give_35 dX1_give_38 (by decide) (by decide) (by decide) (by decide) ⟨xc_S (by simp only [gvC, if_neg c_6, if_pos (lotC_s h_3), if_pos h_5]) rfl, rfl⟩ (by decide) (by decide)
  · refine go_aload_n C 0 dX1_give_22 rfl rfl ?_
    refine gl_frozenCents C (S := S) (i := (Int32.toNatClampNeg z)) (xAt_nc hok h_3) dX1_give_23 ?_
    refine go_if_le C (tgt := 39) dX1_give_26 (by decide) (fun c_7 => ?_) (fun c_7 => ?_)
    · refine go_aload_n C 0 dX1_give_39 rfl rfl ?_
      refine go_iload_n C 3 dX1_give_40 rfl rfl ?_
      refine pl_frozenCents C (S := S) (i := (Int32.toNatClampNeg z)) (xAt_nc hok h_3) dX1_give_41 ?_
      refine go_aload_n C 0 dX1_give_44 rfl rfl ?_
      refine go_aload_n C 1 dX1_give_45 rfl rfl ?_
      refine gx_day C dX1_give_46 ?_
      refine go_bipush C (v := 32) dX1_give_49 (by decide) ?_
      refine go_iadd C dX1_give_51 ?_
      refine pl_takeFrom C (S := cs_setLot S (Int32.toNatClampNeg z) (lr_set_fz (cs_lt S (Int32.toNatClampNeg z)) c9)) (i := (Int32.toNatClampNeg z)) (xAt_nc hok h_3) dX1_give_52 ?_
      refine go_w (w2 := wW cI cJ cZ cO a (gvS S z c9) M ov) (by simp only [gvS, setLot_two, setLot_lt] <;> rfl) ?_
      refine go_aload_n C 0 dX1_give_55 rfl rfl ?_
      refine gl_takeFrom C (S := gvS S z c9) (i := (Int32.toNatClampNeg z)) (xAt_nc hok h_3) dX1_give_56 ?_
      exact go_x (go_ireturn C rfl dX1_give_59 (by decide) (by decide) ⟨by simp only [gvC, if_pos c_6, if_pos c_7, if_pos (lotC_s h_3), if_pos h_5], by simp only [gvS, setLot_lt], rfl⟩)
    · exact go_throw C hlf ht (names := nb_names) (text := "not by NOTICE, or it has a notice") rfl mem_S fit_nb_S nb_names_fit bcl_RX1_83 bz_IllegalStateException (List.mem_of_getElem? (i := 5) rfl) hat_nb_S_87 hat2_nb_S_87 hgood_nb_S_83_87 dX1_give_29 dX1_give_32 dX1_give_33 dX1_give_35 dX1_give_38 (by decide) (by decide) (by decide) (by decide) ⟨xc_S (by simp only [gvC, if_pos c_6, if_neg c_7, if_pos (lotC_s h_3), if_pos h_5]) rfl, rfl⟩ (by decide) (by decide)
theorem k_RL_30 {p : Program} {l : Launch} {e : Env} {R : Room} {s : State} {m : MethodId} {args : Array Value} {below : List Frame} {meth : Method} {c : Code} {D : va_G} {N0 mL : Nat} {cc : ByteArray} {nm : String} {ret : Option FieldType} {Q : State → Prop} {k n pc : Nat} {lo : List (Nat × Value)} {st : List Value} {cI cJ cZ cO : ClassId} {a : Nat → Nat} (C : Cxt p s m args meth c D (tysW cI cJ cZ cO) N0 cc mL RL ret nm) (hlf : l.stackTraces = false) (S : CS) (M : MS) (ov : Nat → Int64) (z c9 : Int32) (hok : okX S) (hR : 7 + 1 ≤ R.frames ∧ 8 + (4 + 11) + 104 ≤ R.locals) (hcs : k + 3 ≤ R.cells ∧ n + 18 ≤ R.slots) (hcat : (st.map fun v => v.category).sum ≤ 8) (d : decode cc pc = .ok (.invokevirtual 30, 3)) (gx : ∀ E : String, (gvC S z c9 ≠ 0 ∧ E = exN (gvC S z c9)) → GoX p l e R s m args below meth c D N0 mL Q (wW cI cJ cZ cO a S M ov) (k + 3) (n + 18) pc lo E) (g : (gvC S z c9 = 0) → Go p l e R s m args below meth c D N0 mL Q (wW cI cJ cZ cO a (gvS S z c9) M ov) (k + 3) (n + 18) (pc + 3) lo (.int (cs_day S + 32) :: st)) : Go p l e R s m args below meth c D N0 mL Q (wW cI cJ cZ cO a S M ov) k n pc lo (.int c9 :: .int z :: .ref (a 0) :: st) :=
  go_callVX C (ci := 1) (r9 := (RX1, TX1, 8)) (qi := 0) (As := [.int z, .int c9]) (rest := st) rfl rfl (c_X1_give l hlf D cI cJ cZ cO N0 a S M ov z c9 hok) ⟨rfl, by decide +kernel, by decide +kernel⟩ bl_RL_30 bi_yX1_give bs_yX1_give bz_NoticeBook bc_yX1_give (show Option.map (fun d => d.parameters.length) (parseMethodDescriptor yX1_give.desc) = some 2 by decide +kernel) hR hcs hcat d (fun E w2 h => by obtain ⟨h9, rfl⟩ := h; exact gx E h9) (fun r w2 h => by obtain ⟨h9, rfl, rfl⟩ := h; exact g h9) rfl
set_option maxHeartbeats 4000000 in
set_option maxRecDepth 100000 in
theorem c_X1_withdraw (l : Launch) (hlf : l.stackTraces = false) (D : va_G) (cI cJ cZ cO : ClassId) (N0 : Nat) (a : Nat → Nat) (S : CS) (M : MS) (ov : Nat → Int64) (z : Int32) (hok : okX S) : CtX l D (tysW cI cJ cZ cO) N0 yX1_withdraw cX1_withdraw 4 (some .int) { frames := 8, cells := 2, slots := 12, locals := 126 } [.ref (a 0), .int z] (wW cI cJ cZ cO a S M ov) (fun r w2 => wdC S z = 0 ∧ r = some (.int (lr_fz (cs_lt S (Int32.toNatClampNeg z)))) ∧ w2 = wW cI cJ cZ cO a (wdS S z) M ov) (fun E w2 => (wdC S z ≠ 0 ∧ E = exN (wdC S z)) ∧ w2 = wW cI cJ cZ cO a S M ov) := by
  refine ctx_of (by decide +kernel) (Nat.le_of_ble_eq_true rfl) ?_
  intro p e s m args below meth c C ht
  have C : Cxt p s m args meth c D (tysW cI cJ cZ cO) N0 cX1_withdraw 4 RX1 (some .int) "withdraw" := C
  refine go_aload_n C 0 dX1_withdraw_0 rfl rfl ?_
  refine go_iload_n C 1 dX1_withdraw_1 rfl rfl ?_
  refine k_RX1_91 C hlf S M ov z hok ⟨(Nat.le_of_ble_eq_true rfl), (Nat.le_of_ble_eq_true rfl)⟩ ⟨(Nat.le_of_ble_eq_true rfl), (Nat.le_of_ble_eq_true rfl)⟩ (Nat.le_of_ble_eq_true rfl) dX1_withdraw_2 (fun E hE_1 => gox_out C ht (hE_1.elim (fun y9 => ⟨xc_I (by simp only [wdC, if_neg (lotC_n y9.2)]) y9.1, rfl⟩) (fun y9 => by obtain ⟨e9, j9, h8, h9⟩ := y9; obtain rfl := (xAt_some h8).1; exact ⟨xc_S (by simp only [wdC, if_pos (lotC_s h8), if_pos h9]) e9, rfl⟩)) (by decide) (by decide)) (fun j_2 h_3 => ?_)
  obtain ⟨h_3a, h_3b⟩ := xO_at h_3
  obtain rfl := (xAt_some h_3a).1
  refine go_astore_n C (lo' := [(2, .ref (cs_la S (Int32.toNatClampNeg z))), (0, .ref (a 0)), (1, .int z)]) dX1_withdraw_5 rfl (by decide) rfl ?_
  refine go_aload_n C 0 dX1_withdraw_6 rfl rfl ?_
  refine gl_frozenCents C (S := S) (i := (Int32.toNatClampNeg z)) (xAt_nc hok h_3a) dX1_withdraw_7 ?_
  refine go_istore_n C (lo' := [(3, .int (lr_fz (cs_lt S (Int32.toNatClampNeg z)))), (2, .ref (cs_la S (Int32.toNatClampNeg z))), (0, .ref (a 0)), (1, .int z)]) dX1_withdraw_10 rfl (by decide) rfl ?_
  refine go_aload_n C 1 dX1_withdraw_11 rfl rfl ?_
  refine go_iconst C (v := 0) dX1_withdraw_12 (by decide) ?_
  refine pl_frozenCents C (S := S) (i := (Int32.toNatClampNeg z)) (xAt_nc hok h_3a) dX1_withdraw_13 ?_
  refine go_iload_n C 0 dX1_withdraw_16 rfl rfl ?_
  exact go_x (go_ireturn C rfl dX1_withdraw_17 (by decide) (by decide) ⟨by simp only [wdC, if_neg h_3b, if_pos (lotC_s h_3a)], rfl, rfl⟩)
theorem k_RL_33 {p : Program} {l : Launch} {e : Env} {R : Room} {s : State} {m : MethodId} {args : Array Value} {below : List Frame} {meth : Method} {c : Code} {D : va_G} {N0 mL : Nat} {cc : ByteArray} {nm : String} {ret : Option FieldType} {Q : State → Prop} {k n pc : Nat} {lo : List (Nat × Value)} {st : List Value} {cI cJ cZ cO : ClassId} {a : Nat → Nat} (C : Cxt p s m args meth c D (tysW cI cJ cZ cO) N0 cc mL RL ret nm) (hlf : l.stackTraces = false) (S : CS) (M : MS) (ov : Nat → Int64) (z : Int32) (hok : okX S) (hR : 8 + 1 ≤ R.frames ∧ 8 + (4 + 11) + 126 ≤ R.locals) (hcs : k + 2 ≤ R.cells ∧ n + 12 ≤ R.slots) (hcat : (st.map fun v => v.category).sum ≤ 8) (d : decode cc pc = .ok (.invokevirtual 33, 3)) (gx : ∀ E : String, (wdC S z ≠ 0 ∧ E = exN (wdC S z)) → GoX p l e R s m args below meth c D N0 mL Q (wW cI cJ cZ cO a S M ov) (k + 2) (n + 12) pc lo E) (g : (wdC S z = 0) → Go p l e R s m args below meth c D N0 mL Q (wW cI cJ cZ cO a (wdS S z) M ov) (k + 2) (n + 12) (pc + 3) lo (.int (lr_fz (cs_lt S (Int32.toNatClampNeg z))) :: st)) : Go p l e R s m args below meth c D N0 mL Q (wW cI cJ cZ cO a S M ov) k n pc lo (.int z :: .ref (a 0) :: st) :=
  go_callVX C (ci := 1) (r9 := (RX1, TX1, 8)) (qi := 0) (As := [.int z]) (rest := st) rfl rfl (c_X1_withdraw l hlf D cI cJ cZ cO N0 a S M ov z hok) ⟨rfl, by decide +kernel, by decide +kernel⟩ bl_RL_33 bi_yX1_withdraw bs_yX1_withdraw bz_NoticeBook bc_yX1_withdraw (show Option.map (fun d => d.parameters.length) (parseMethodDescriptor yX1_withdraw.desc) = some 1 by decide +kernel) hR hcs hcat d (fun E w2 h => by obtain ⟨h9, rfl⟩ := h; exact gx E h9) (fun r w2 h => by obtain ⟨h9, rfl, rfl⟩ := h; exact g h9) rfl
set_option maxHeartbeats 4000000 in
set_option maxRecDepth 100000 in
theorem c_X1_take (l : Launch) (hlf : l.stackTraces = false) (D : va_G) (cI cJ cZ cO : ClassId) (N0 : Nat) (a : Nat → Nat) (S : CS) (M : MS) (ov : Nat → Int64) (z : Int32) (hok : okX S) : CtX l D (tysW cI cJ cZ cO) N0 yX1_take cX1_take 4 (some .int) { frames := 8, cells := 3, slots := 18, locals := 126 } [.ref (a 0), .int z] (wW cI cJ cZ cO a S M ov) (fun r w2 => tkC S z = 0 ∧ r = some (.int (poC (wdS S z) (Int32.toNatClampNeg z) (lr_fz (cs_lt S (Int32.toNatClampNeg z))))) ∧ w2 = wW cI cJ cZ cO a (poS (wdS S z) (Int32.toNatClampNeg z) (lr_fz (cs_lt S (Int32.toNatClampNeg z)))) M ov) (fun E w2 => (tkC S z ≠ 0 ∧ E = exN (tkC S z)) ∧ w2 = wW cI cJ cZ cO a S M ov) := by
  refine ctx_of (by decide +kernel) (Nat.le_of_ble_eq_true rfl) ?_
  intro p e s m args below meth c C ht
  have C : Cxt p s m args meth c D (tysW cI cJ cZ cO) N0 cX1_take 4 RX1 (some .int) "take" := C
  refine go_aload_n C 0 dX1_take_0 rfl rfl ?_
  refine go_iload_n C 1 dX1_take_1 rfl rfl ?_
  refine k_RX1_91 C hlf S M ov z hok ⟨(Nat.le_of_ble_eq_true rfl), (Nat.le_of_ble_eq_true rfl)⟩ ⟨(Nat.le_of_ble_eq_true rfl), (Nat.le_of_ble_eq_true rfl)⟩ (Nat.le_of_ble_eq_true rfl) dX1_take_2 (fun E hE_1 => gox_out C ht (hE_1.elim (fun y9 => ⟨xc_I (by simp only [tkC, if_neg (lotC_n y9.2)]) y9.1, rfl⟩) (fun y9 => by obtain ⟨e9, j9, h8, h9⟩ := y9; obtain rfl := (xAt_some h8).1; exact ⟨xc_S (by simp only [tkC, if_pos (lotC_s h8), if_pos h9]) e9, rfl⟩)) (by decide) (by decide)) (fun j_2 h_3 => ?_)
  obtain ⟨h_3a, h_3b⟩ := xO_at h_3
  obtain rfl := (xAt_some h_3a).1
  refine go_astore_n C (lo' := [(2, .ref (cs_la S (Int32.toNatClampNeg z))), (0, .ref (a 0)), (1, .int z)]) dX1_take_5 rfl (by decide) rfl ?_
  refine go_aload_n C 1 dX1_take_6 rfl rfl ?_
  refine gx_day C dX1_take_7 ?_
  refine go_aload_n C 0 dX1_take_10 rfl rfl ?_
  refine gl_takeFrom C (S := S) (i := (Int32.toNatClampNeg z)) (xAt_nc hok h_3a) dX1_take_11 ?_
  refine go_icmp_ge C (tgt := 27) dX1_take_14 (by decide) (fun c_4 => ?_) (fun c_4 => ?_)
  · refine go_aload_n C 0 dX1_take_27 rfl rfl ?_
    refine gl_frozenCents C (S := S) (i := (Int32.toNatClampNeg z)) (xAt_nc hok h_3a) dX1_take_28 ?_
    refine go_istore_n C (lo' := [(3, .int (lr_fz (cs_lt S (Int32.toNatClampNeg z)))), (2, .ref (cs_la S (Int32.toNatClampNeg z))), (0, .ref (a 0)), (1, .int z)]) dX1_take_31 rfl (by decide) rfl ?_
    refine go_aload_n C 1 dX1_take_32 rfl rfl ?_
    refine go_iconst C (v := 0) dX1_take_33 (by decide) ?_
    refine pl_frozenCents C (S := S) (i := (Int32.toNatClampNeg z)) (xAt_nc hok h_3a) dX1_take_34 ?_
    refine go_w (w2 := wW cI cJ cZ cO a (wdS S z) M ov) rfl ?_
    refine go_aload_n C 2 dX1_take_37 rfl rfl ?_
    refine go_aload_n C 1 dX1_take_38 rfl rfl ?_
    refine go_iload_n C 0 dX1_take_39 rfl rfl ?_
    refine k_RX1_96 C (wdS S z) M ov (Int32.toNatClampNeg z) (lr_fz (cs_lt S (Int32.toNatClampNeg z))) (xAt_nc hok h_3a) ⟨(Nat.le_of_ble_eq_true rfl), (Nat.le_of_ble_eq_true rfl)⟩ ⟨(Nat.le_of_ble_eq_true rfl), (Nat.le_of_ble_eq_true rfl)⟩ (Nat.le_of_ble_eq_true rfl) dX1_take_40 ?_
    exact go_x (go_ireturn C rfl dX1_take_43 (by decide) (by decide) ⟨by simp only [tkC, if_pos c_4, if_neg h_3b, if_pos (lotC_s h_3a)], rfl, rfl⟩)
  · exact go_throw C hlf ht (names := nb_names) (text := "it cannot be taken yet") rfl mem_S fit_nb_S nb_names_fit bcl_RX1_83 bz_IllegalStateException (List.mem_of_getElem? (i := 7) rfl) hat_nb_S_87 hat2_nb_S_87 hgood_nb_S_83_87 dX1_take_17 dX1_take_20 dX1_take_21 dX1_take_23 dX1_take_26 (by decide) (by decide) (by decide) (by decide) ⟨xc_S (by simp only [tkC, if_neg c_4, if_neg h_3b, if_pos (lotC_s h_3a)]) rfl, rfl⟩ (by decide) (by decide)
theorem k_RL_36 {p : Program} {l : Launch} {e : Env} {R : Room} {s : State} {m : MethodId} {args : Array Value} {below : List Frame} {meth : Method} {c : Code} {D : va_G} {N0 mL : Nat} {cc : ByteArray} {nm : String} {ret : Option FieldType} {Q : State → Prop} {k n pc : Nat} {lo : List (Nat × Value)} {st : List Value} {cI cJ cZ cO : ClassId} {a : Nat → Nat} (C : Cxt p s m args meth c D (tysW cI cJ cZ cO) N0 cc mL RL ret nm) (hlf : l.stackTraces = false) (S : CS) (M : MS) (ov : Nat → Int64) (z : Int32) (hok : okX S) (hR : 8 + 1 ≤ R.frames ∧ 8 + (4 + 11) + 126 ≤ R.locals) (hcs : k + 3 ≤ R.cells ∧ n + 18 ≤ R.slots) (hcat : (st.map fun v => v.category).sum ≤ 8) (d : decode cc pc = .ok (.invokevirtual 36, 3)) (gx : ∀ E : String, (tkC S z ≠ 0 ∧ E = exN (tkC S z)) → GoX p l e R s m args below meth c D N0 mL Q (wW cI cJ cZ cO a S M ov) (k + 3) (n + 18) pc lo E) (g : (tkC S z = 0) → Go p l e R s m args below meth c D N0 mL Q (wW cI cJ cZ cO a (poS (wdS S z) (Int32.toNatClampNeg z) (lr_fz (cs_lt S (Int32.toNatClampNeg z)))) M ov) (k + 3) (n + 18) (pc + 3) lo (.int (poC (wdS S z) (Int32.toNatClampNeg z) (lr_fz (cs_lt S (Int32.toNatClampNeg z)))) :: st)) : Go p l e R s m args below meth c D N0 mL Q (wW cI cJ cZ cO a S M ov) k n pc lo (.int z :: .ref (a 0) :: st) :=
  go_callVX C (ci := 1) (r9 := (RX1, TX1, 8)) (qi := 0) (As := [.int z]) (rest := st) rfl rfl (c_X1_take l hlf D cI cJ cZ cO N0 a S M ov z hok) ⟨rfl, by decide +kernel, by decide +kernel⟩ bl_RL_36 bi_yX1_take bs_yX1_take bz_NoticeBook bc_yX1_take (show Option.map (fun d => d.parameters.length) (parseMethodDescriptor yX1_take.desc) = some 1 by decide +kernel) hR hcs hcat d (fun E w2 h => by obtain ⟨h9, rfl⟩ := h; exact gx E h9) (fun r w2 h => by obtain ⟨h9, rfl, rfl⟩ := h; exact g h9) rfl
set_option maxHeartbeats 4000000 in
set_option maxRecDepth 100000 in
theorem c_X1_instruct (l : Launch) (hlf : l.stackTraces = false) (D : va_G) (cI cJ cZ cO : ClassId) (N0 : Nat) (a : Nat → Nat) (S : CS) (M : MS) (ov : Nat → Int64) (z v : Int32) (hok : okX S) : CtX l D (tysW cI cJ cZ cO) N0 yX1_instruct cX1_instruct 5 (some .int) { frames := 7, cells := 3, slots := 18, locals := 104 } [.ref (a 0), .int z, .int v] (wW cI cJ cZ cO a S M ov) (fun r w2 => inC S z v = 0 ∧ r = some (.int (lr_ins (cs_lt S (Int32.toNatClampNeg z)))) ∧ w2 = wW cI cJ cZ cO a (inS S z v) M ov) (fun E w2 => (inC S z v ≠ 0 ∧ E = exN (inC S z v)) ∧ w2 = wW cI cJ cZ cO a S M ov) := by
  refine ctx_of (by decide +kernel) (Nat.le_of_ble_eq_true rfl) ?_
  intro p e s m args below meth c C ht
  have C : Cxt p s m args meth c D (tysW cI cJ cZ cO) N0 cX1_instruct 5 RX1 (some .int) "instruct" := C
  refine go_aload_n C 0 dX1_instruct_0 rfl rfl ?_
  refine go_iload_n C 1 dX1_instruct_1 rfl rfl ?_
  refine k_RX1_69 C hlf S M ov z hok ⟨(Nat.le_of_ble_eq_true rfl), (Nat.le_of_ble_eq_true rfl)⟩ ⟨(Nat.le_of_ble_eq_true rfl), (Nat.le_of_ble_eq_true rfl)⟩ (Nat.le_of_ble_eq_true rfl) dX1_instruct_2 (fun E hE_1 => gox_out C ht (⟨xc_I (by simp only [inC, if_neg (lotC_n hE_1.2)]) hE_1.1, rfl⟩) (by decide) (by decide)) (fun j_2 h_3 => ?_)
  obtain rfl := (xAt_some h_3).1
  refine go_astore_n C (lo' := [(3, .ref (cs_la S (Int32.toNatClampNeg z))), (0, .ref (a 0)), (1, .int z), (2, .int v)]) dX1_instruct_5 rfl (by decide) rfl ?_
  refine go_iload_n C 3 dX1_instruct_6 rfl rfl ?_
  refine go_iconst C (v := 0) dX1_instruct_7 (by decide) ?_
  refine go_iconst C (v := 2) dX1_instruct_8 (by decide) ?_
  refine k_RX1_47 C hlf S M ov v 0 2 ⟨(Nat.le_of_ble_eq_true rfl), (Nat.le_of_ble_eq_true rfl)⟩ ⟨(Nat.le_of_ble_eq_true rfl), (Nat.le_of_ble_eq_true rfl)⟩ (Nat.le_of_ble_eq_true rfl) dX1_instruct_9 (fun E hE_4 => gox_out C ht (⟨xc_A (by simp only [inC, if_pos (lotC_s h_3), if_neg (ne0_2 hE_4.2)]) hE_4.1, rfl⟩) (by decide) (by decide)) (fun h_5 => ?_)
  refine go_aload_n C 0 dX1_instruct_12 rfl rfl ?_
  refine k_RX1_76 C S M ov (Int32.toNatClampNeg z) (xAt_nc hok h_3) ⟨(Nat.le_of_ble_eq_true rfl), (Nat.le_of_ble_eq_true rfl)⟩ ⟨(Nat.le_of_ble_eq_true rfl), (Nat.le_of_ble_eq_true rfl)⟩ (Nat.le_of_ble_eq_true rfl) dX1_instruct_13 ?_
  refine go_if_ne C (tgt := 29) dX1_instruct_16 (by decide) (fun c_6 => ?_) (fun c_6 => ?_)
  · refine go_aload_n C 0 dX1_instruct_29 rfl rfl ?_
    refine gl_instruction C (S := S) (i := (Int32.toNatClampNeg z)) (xAt_nc hok h_3) dX1_instruct_30 ?_
    refine go_istore C (lo' := [(4, .int (lr_ins (cs_lt S (Int32.toNatClampNeg z)))), (3, .ref (cs_la S (Int32.toNatClampNeg z))), (0, .ref (a 0)), (1, .int z), (2, .int v)]) dX1_instruct_33 (by decide) rfl ?_
    refine go_aload_n C 1 dX1_instruct_35 rfl rfl ?_
    refine go_iload_n C 4 dX1_instruct_36 rfl rfl ?_
    refine pl_instruction C (S := S) (i := (Int32.toNatClampNeg z)) (xAt_nc hok h_3) dX1_instruct_37 ?_
    refine go_iload C 0 dX1_instruct_40 rfl ?_
    exact go_x (go_ireturn C rfl dX1_instruct_42 (by decide) (by decide) ⟨by simp only [inC, if_neg c_6, if_pos (lotC_s h_3), if_pos h_5], rfl, rfl⟩)
  · exact go_throw C hlf ht (names := nb_names) (text := "not by TERM") rfl mem_S fit_nb_S nb_names_fit bcl_RX1_83 bz_IllegalStateException (List.mem_of_getElem? (i := 9) rfl) hat_nb_S_87 hat2_nb_S_87 hgood_nb_S_83_87 dX1_instruct_19 dX1_instruct_22 dX1_instruct_23 dX1_instruct_25 dX1_instruct_28 (by decide) (by decide) (by decide) (by decide) ⟨xc_S (by simp only [inC, if_pos c_6, if_pos (lotC_s h_3), if_pos h_5]) rfl, rfl⟩ (by decide) (by decide)
theorem k_RL_42 {p : Program} {l : Launch} {e : Env} {R : Room} {s : State} {m : MethodId} {args : Array Value} {below : List Frame} {meth : Method} {c : Code} {D : va_G} {N0 mL : Nat} {cc : ByteArray} {nm : String} {ret : Option FieldType} {Q : State → Prop} {k n pc : Nat} {lo : List (Nat × Value)} {st : List Value} {cI cJ cZ cO : ClassId} {a : Nat → Nat} (C : Cxt p s m args meth c D (tysW cI cJ cZ cO) N0 cc mL RL ret nm) (hlf : l.stackTraces = false) (S : CS) (M : MS) (ov : Nat → Int64) (z v : Int32) (hok : okX S) (hR : 7 + 1 ≤ R.frames ∧ 8 + (5 + 11) + 104 ≤ R.locals) (hcs : k + 3 ≤ R.cells ∧ n + 18 ≤ R.slots) (hcat : (st.map fun v => v.category).sum ≤ 8) (d : decode cc pc = .ok (.invokevirtual 42, 3)) (gx : ∀ E : String, (inC S z v ≠ 0 ∧ E = exN (inC S z v)) → GoX p l e R s m args below meth c D N0 mL Q (wW cI cJ cZ cO a S M ov) (k + 3) (n + 18) pc lo E) (g : (inC S z v = 0) → Go p l e R s m args below meth c D N0 mL Q (wW cI cJ cZ cO a (inS S z v) M ov) (k + 3) (n + 18) (pc + 3) lo (.int (lr_ins (cs_lt S (Int32.toNatClampNeg z))) :: st)) : Go p l e R s m args below meth c D N0 mL Q (wW cI cJ cZ cO a S M ov) k n pc lo (.int v :: .int z :: .ref (a 0) :: st) :=
  go_callVX C (ci := 1) (r9 := (RX1, TX1, 8)) (qi := 0) (As := [.int z, .int v]) (rest := st) rfl rfl (c_X1_instruct l hlf D cI cJ cZ cO N0 a S M ov z v hok) ⟨rfl, by decide +kernel, by decide +kernel⟩ bl_RL_42 bi_yX1_instruct bs_yX1_instruct bz_NoticeBook bc_yX1_instruct (show Option.map (fun d => d.parameters.length) (parseMethodDescriptor yX1_instruct.desc) = some 2 by decide +kernel) hR hcs hcat d (fun E w2 h => by obtain ⟨h9, rfl⟩ := h; exact gx E h9) (fun r w2 h => by obtain ⟨h9, rfl, rfl⟩ := h; exact g h9) rfl
set_option maxHeartbeats 4000000 in
set_option maxRecDepth 100000 in
theorem c_X1_letGo (l : Launch) (hlf : l.stackTraces = false) (D : va_G) (cI cJ cZ cO : ClassId) (N0 : Nat) (a : Nat → Nat) (S : CS) (M : MS) (ov : Nat → Int64) (z : Int32) (hok : okX S) : CtX l D (tysW cI cJ cZ cO) N0 yX1_letGo cX1_letGo 3 (some .int) { frames := 7, cells := 2, slots := 12, locals := 104 } [.ref (a 0), .int z] (wW cI cJ cZ cO a S M ov) (fun r w2 => lgC S z = 0 ∧ r = some (.int (lgV S z)) ∧ w2 = wW cI cJ cZ cO a (lgS S z) M ov) (fun E w2 => (lgC S z ≠ 0 ∧ E = exN (lgC S z)) ∧ w2 = wW cI cJ cZ cO a S M ov) := by
  refine ctx_of (by decide +kernel) (Nat.le_of_ble_eq_true rfl) ?_
  intro p e s m args below meth c C ht
  have C : Cxt p s m args meth c D (tysW cI cJ cZ cO) N0 cX1_letGo 3 RX1 (some .int) "letGo" := C
  refine go_aload_n C 0 dX1_letGo_0 rfl rfl ?_
  refine go_iload_n C 1 dX1_letGo_1 rfl rfl ?_
  refine k_RX1_69 C hlf S M ov z hok ⟨(Nat.le_of_ble_eq_true rfl), (Nat.le_of_ble_eq_true rfl)⟩ ⟨(Nat.le_of_ble_eq_true rfl), (Nat.le_of_ble_eq_true rfl)⟩ (Nat.le_of_ble_eq_true rfl) dX1_letGo_2 (fun E hE_1 => gox_out C ht (⟨xc_I (by simp only [lgC, if_neg (lotC_n hE_1.2)]) hE_1.1, rfl⟩) (by decide) (by decide)) (fun j_2 h_3 => ?_)
  obtain rfl := (xAt_some h_3).1
  refine go_astore_n C (lo' := [(2, .ref (cs_la S (Int32.toNatClampNeg z))), (0, .ref (a 0)), (1, .int z)]) dX1_letGo_5 rfl (by decide) rfl ?_
  refine go_aload_n C 0 dX1_letGo_6 rfl rfl ?_
  refine gl_renewedOn C (S := S) (i := (Int32.toNatClampNeg z)) (xAt_nc hok h_3) dX1_letGo_7 ?_
  refine go_iconst C (v := (-1)) dX1_letGo_10 (by decide) ?_
  refine go_icmp_eq C (tgt := 28) dX1_letGo_11 (by decide) (fun c_4 => ?_) (fun c_4 => ?_)
  · exact go_throw C hlf ht (names := nb_names) (text := "no days of grace") rfl mem_S fit_nb_S nb_names_fit bcl_RX1_83 bz_IllegalStateException (List.mem_of_getElem? (i := 10) rfl) hat_nb_S_87 hat2_nb_S_87 hgood_nb_S_83_87 dX1_letGo_28 dX1_letGo_31 dX1_letGo_32 dX1_letGo_34 dX1_letGo_37 (by decide) (by decide) (by decide) (by decide) ⟨xc_S (by simp only [lgC, if_pos c_4, if_pos (lotC_s h_3)]) rfl, rfl⟩ (by decide) (by decide)
  · refine go_aload_n C 1 dX1_letGo_14 rfl rfl ?_
    refine gx_day C dX1_letGo_15 ?_
    refine go_aload_n C 0 dX1_letGo_18 rfl rfl ?_
    refine gl_renewedOn C (S := S) (i := (Int32.toNatClampNeg z)) (xAt_nc hok h_3) dX1_letGo_19 ?_
    refine go_isub C dX1_letGo_22 ?_
    refine go_bipush C (v := 7) dX1_letGo_23 (by decide) ?_
    refine go_icmp_lt C (tgt := 38) dX1_letGo_25 (by decide) (fun c_5 => ?_) (fun c_5 => ?_)
    · refine go_aload_n C 1 dX1_letGo_38 rfl rfl ?_
      refine go_aload_n C 0 dX1_letGo_39 rfl rfl ?_
      refine go_aload_n C 0 dX1_letGo_40 rfl rfl ?_
      refine gl_earned C (S := S) (i := (Int32.toNatClampNeg z)) (xAt_nc hok h_3) dX1_letGo_41 ?_
      refine k_RX1_127 C S M ov (Int32.toNatClampNeg z) (lr_ea (cs_lt S (Int32.toNatClampNeg z))) (xAt_nc hok h_3) ⟨(Nat.le_of_ble_eq_true rfl), (Nat.le_of_ble_eq_true rfl)⟩ ⟨(Nat.le_of_ble_eq_true rfl), (Nat.le_of_ble_eq_true rfl)⟩ (Nat.le_of_ble_eq_true rfl) dX1_letGo_44 ?_
      refine go_w (w2 := wW cI cJ cZ cO a (lg1 S z) M ov) rfl ?_
      refine go_aload_n C 1 dX1_letGo_47 rfl rfl ?_
      refine go_aload_n C 0 dX1_letGo_48 rfl rfl ?_
      refine go_aload_n C 0 dX1_letGo_49 rfl rfl ?_
      refine gl_principal C (S := lg1 S z) (i := (Int32.toNatClampNeg z)) (xAt_nc hok h_3) dX1_letGo_50 ?_
      refine k_RX1_96 C (lg1 S z) M ov (Int32.toNatClampNeg z) (lr_pr (cs_lt (lg1 S z) (Int32.toNatClampNeg z))) (xAt_nc hok h_3) ⟨(Nat.le_of_ble_eq_true rfl), (Nat.le_of_ble_eq_true rfl)⟩ ⟨(Nat.le_of_ble_eq_true rfl), (Nat.le_of_ble_eq_true rfl)⟩ (Nat.le_of_ble_eq_true rfl) dX1_letGo_53 ?_
      exact go_x (go_ireturn C rfl dX1_letGo_56 (by decide) (by decide) ⟨by simp only [lgC, if_neg c_4, if_pos c_5, if_pos (lotC_s h_3)], rfl, rfl⟩)
    · exact go_throw C hlf ht (names := nb_names) (text := "no days of grace") rfl mem_S fit_nb_S nb_names_fit bcl_RX1_83 bz_IllegalStateException (List.mem_of_getElem? (i := 10) rfl) hat_nb_S_87 hat2_nb_S_87 hgood_nb_S_83_87 dX1_letGo_28 dX1_letGo_31 dX1_letGo_32 dX1_letGo_34 dX1_letGo_37 (by decide) (by decide) (by decide) (by decide) ⟨xc_S (by simp only [lgC, if_neg c_4, if_neg c_5, if_pos (lotC_s h_3)]) rfl, rfl⟩ (by decide) (by decide)
theorem k_RL_45 {p : Program} {l : Launch} {e : Env} {R : Room} {s : State} {m : MethodId} {args : Array Value} {below : List Frame} {meth : Method} {c : Code} {D : va_G} {N0 mL : Nat} {cc : ByteArray} {nm : String} {ret : Option FieldType} {Q : State → Prop} {k n pc : Nat} {lo : List (Nat × Value)} {st : List Value} {cI cJ cZ cO : ClassId} {a : Nat → Nat} (C : Cxt p s m args meth c D (tysW cI cJ cZ cO) N0 cc mL RL ret nm) (hlf : l.stackTraces = false) (S : CS) (M : MS) (ov : Nat → Int64) (z : Int32) (hok : okX S) (hR : 7 + 1 ≤ R.frames ∧ 8 + (3 + 11) + 104 ≤ R.locals) (hcs : k + 2 ≤ R.cells ∧ n + 12 ≤ R.slots) (hcat : (st.map fun v => v.category).sum ≤ 8) (d : decode cc pc = .ok (.invokevirtual 45, 3)) (gx : ∀ E : String, (lgC S z ≠ 0 ∧ E = exN (lgC S z)) → GoX p l e R s m args below meth c D N0 mL Q (wW cI cJ cZ cO a S M ov) (k + 2) (n + 12) pc lo E) (g : (lgC S z = 0) → Go p l e R s m args below meth c D N0 mL Q (wW cI cJ cZ cO a (lgS S z) M ov) (k + 2) (n + 12) (pc + 3) lo (.int (lgV S z) :: st)) : Go p l e R s m args below meth c D N0 mL Q (wW cI cJ cZ cO a S M ov) k n pc lo (.int z :: .ref (a 0) :: st) :=
  go_callVX C (ci := 1) (r9 := (RX1, TX1, 8)) (qi := 0) (As := [.int z]) (rest := st) rfl rfl (c_X1_letGo l hlf D cI cJ cZ cO N0 a S M ov z hok) ⟨rfl, by decide +kernel, by decide +kernel⟩ bl_RL_45 bi_yX1_letGo bs_yX1_letGo bz_NoticeBook bc_yX1_letGo (show Option.map (fun d => d.parameters.length) (parseMethodDescriptor yX1_letGo.desc) = some 1 by decide +kernel) hR hcs hcat d (fun E w2 h => by obtain ⟨h9, rfl⟩ := h; exact gx E h9) (fun r w2 h => by obtain ⟨h9, rfl, rfl⟩ := h; exact g h9) rfl
set_option maxHeartbeats 4000000 in
set_option maxRecDepth 100000 in
theorem c_X1_join (l : Launch) (hlf : l.stackTraces = false) (D : va_G) (cI cJ cZ cO : ClassId) (N0 : Nat) (a : Nat → Nat) (S : CS) (M : MS) (ov : Nat → Int64) (z y : Int32) (hok : okX S) : CtX l D (tysW cI cJ cZ cO) N0 yX1_join cX1_join 5 (some .int) { frames := 7, cells := 3, slots := 18, locals := 104 } [.ref (a 0), .int z, .int y] (wW cI cJ cZ cO a S M ov) (fun r w2 => joC S z y = 0 ∧ r = some (.int (lr_pr (cs_lt (joS S (Int32.toNatClampNeg z) (Int32.toNatClampNeg y)) (Int32.toNatClampNeg z)))) ∧ w2 = wW cI cJ cZ cO a (joS S (Int32.toNatClampNeg z) (Int32.toNatClampNeg y)) M ov) (fun E w2 => (joC S z y ≠ 0 ∧ E = exN (joC S z y)) ∧ w2 = wW cI cJ cZ cO a S M ov) := by
  refine ctx_of (by decide +kernel) (Nat.le_of_ble_eq_true rfl) ?_
  intro p e s m args below meth c C ht
  have C : Cxt p s m args meth c D (tysW cI cJ cZ cO) N0 cX1_join 5 RX1 (some .int) "join" := C
  refine go_aload_n C 0 dX1_join_0 rfl rfl ?_
  refine go_iload_n C 1 dX1_join_1 rfl rfl ?_
  refine k_RX1_69 C hlf S M ov z hok ⟨(Nat.le_of_ble_eq_true rfl), (Nat.le_of_ble_eq_true rfl)⟩ ⟨(Nat.le_of_ble_eq_true rfl), (Nat.le_of_ble_eq_true rfl)⟩ (Nat.le_of_ble_eq_true rfl) dX1_join_2 (fun E hE_1 => gox_out C ht (⟨xc_I (by simp only [joC, if_neg (lotC_n hE_1.2)]) hE_1.1, rfl⟩) (by decide) (by decide)) (fun j_2 h_3 => ?_)
  obtain rfl := (xAt_some h_3).1
  refine go_astore_n C (lo' := [(3, .ref (cs_la S (Int32.toNatClampNeg z))), (0, .ref (a 0)), (1, .int z), (2, .int y)]) dX1_join_5 rfl (by decide) rfl ?_
  refine go_aload_n C 1 dX1_join_6 rfl rfl ?_
  refine go_iload_n C 3 dX1_join_7 rfl rfl ?_
  refine k_RX1_69 C hlf S M ov y hok ⟨(Nat.le_of_ble_eq_true rfl), (Nat.le_of_ble_eq_true rfl)⟩ ⟨(Nat.le_of_ble_eq_true rfl), (Nat.le_of_ble_eq_true rfl)⟩ (Nat.le_of_ble_eq_true rfl) dX1_join_8 (fun E hE_4 => gox_out C ht (⟨xc_I (by simp only [joC, if_pos (lotC_s h_3), if_neg (lotC_n hE_4.2)]) hE_4.1, rfl⟩) (by decide) (by decide)) (fun j_5 h_6 => ?_)
  obtain rfl := (xAt_some h_6).1
  refine go_astore C (lo' := [(4, .ref (cs_la S (Int32.toNatClampNeg y))), (3, .ref (cs_la S (Int32.toNatClampNeg z))), (0, .ref (a 0)), (1, .int z), (2, .int y)]) dX1_join_11 (by decide) rfl ?_
  refine go_iload_n C 3 dX1_join_13 rfl rfl ?_
  refine go_iload_n C 4 dX1_join_14 rfl rfl ?_
  refine go_icmp_ne C (tgt := 28) dX1_join_15 (by decide) (fun c_7 => ?_) (fun c_7 => ?_)
  · refine go_aload_n C 1 dX1_join_28 rfl rfl ?_
    refine go_aload C 0 dX1_join_29 rfl ?_
    refine k_RX1_147 C S M ov (Int32.toNatClampNeg z) (Int32.toNatClampNeg y) (xAt_nc hok h_3) (xAt_nc hok h_6) ⟨(Nat.le_of_ble_eq_true rfl), (Nat.le_of_ble_eq_true rfl)⟩ ⟨(Nat.le_of_ble_eq_true rfl), (Nat.le_of_ble_eq_true rfl)⟩ (Nat.le_of_ble_eq_true rfl) dX1_join_31 ?_
    refine go_if_ne C (tgt := 47) dX1_join_34 (by decide) (fun c_8 => ?_) (fun c_8 => ?_)
    · refine go_aload_n C 1 dX1_join_47 rfl rfl ?_
      refine go_dup C dX1_join_48 rfl ?_
      refine gl_principal C (S := S) (i := (Int32.toNatClampNeg z)) (xAt_nc hok h_3) dX1_join_49 ?_
      refine go_aload C 0 dX1_join_52 rfl ?_
      refine gl_principal C (S := S) (i := (Int32.toNatClampNeg y)) (xAt_nc hok h_6) dX1_join_54 ?_
      refine go_iadd C dX1_join_57 ?_
      refine pl_principal C (S := S) (i := (Int32.toNatClampNeg z)) (xAt_nc hok h_3) dX1_join_58 ?_
      refine go_w (w2 := wW cI cJ cZ cO a (jo1 S (Int32.toNatClampNeg z) (Int32.toNatClampNeg y)) M ov) rfl ?_
      refine go_aload_n C 1 dX1_join_61 rfl rfl ?_
      refine go_dup C dX1_join_62 rfl ?_
      refine gl_earned C (S := jo1 S (Int32.toNatClampNeg z) (Int32.toNatClampNeg y)) (i := (Int32.toNatClampNeg z)) (xAt_nc hok h_3) dX1_join_63 ?_
      refine go_aload C 0 dX1_join_66 rfl ?_
      refine gl_earned C (S := jo1 S (Int32.toNatClampNeg z) (Int32.toNatClampNeg y)) (i := (Int32.toNatClampNeg y)) (xAt_nc hok h_6) dX1_join_68 ?_
      refine go_ladd C dX1_join_71 ?_
      refine pl_earned C (S := jo1 S (Int32.toNatClampNeg z) (Int32.toNatClampNeg y)) (i := (Int32.toNatClampNeg z)) (xAt_nc hok h_3) dX1_join_72 ?_
      refine go_w (w2 := wW cI cJ cZ cO a (jo2 (jo1 S (Int32.toNatClampNeg z) (Int32.toNatClampNeg y)) (Int32.toNatClampNeg z) (Int32.toNatClampNeg y)) M ov) rfl ?_
      refine go_aload_n C 1 dX1_join_75 rfl rfl ?_
      refine go_dup C dX1_join_76 rfl ?_
      refine gl_parts C (S := jo2 (jo1 S (Int32.toNatClampNeg z) (Int32.toNatClampNeg y)) (Int32.toNatClampNeg z) (Int32.toNatClampNeg y)) (i := (Int32.toNatClampNeg z)) (xAt_nc hok h_3) dX1_join_77 ?_
      refine go_aload C 0 dX1_join_80 rfl ?_
      refine gl_parts C (S := jo2 (jo1 S (Int32.toNatClampNeg z) (Int32.toNatClampNeg y)) (Int32.toNatClampNeg z) (Int32.toNatClampNeg y)) (i := (Int32.toNatClampNeg y)) (xAt_nc hok h_6) dX1_join_82 ?_
      refine go_ladd C dX1_join_85 ?_
      refine pl_parts C (S := jo2 (jo1 S (Int32.toNatClampNeg z) (Int32.toNatClampNeg y)) (Int32.toNatClampNeg z) (Int32.toNatClampNeg y)) (i := (Int32.toNatClampNeg z)) (xAt_nc hok h_3) dX1_join_86 ?_
      refine go_w (w2 := wW cI cJ cZ cO a (jo3 (jo2 (jo1 S (Int32.toNatClampNeg z) (Int32.toNatClampNeg y)) (Int32.toNatClampNeg z) (Int32.toNatClampNeg y)) (Int32.toNatClampNeg z) (Int32.toNatClampNeg y)) M ov) rfl ?_
      refine go_aload_n C 1 dX1_join_89 rfl rfl ?_
      refine go_iconst C (v := (-1)) dX1_join_90 (by decide) ?_
      refine pl_renewedOn C (S := jo3 (jo2 (jo1 S (Int32.toNatClampNeg z) (Int32.toNatClampNeg y)) (Int32.toNatClampNeg z) (Int32.toNatClampNeg y)) (Int32.toNatClampNeg z) (Int32.toNatClampNeg y)) (i := (Int32.toNatClampNeg z)) (xAt_nc hok h_3) dX1_join_91 ?_
      refine go_w (w2 := wW cI cJ cZ cO a (jo4 (jo3 (jo2 (jo1 S (Int32.toNatClampNeg z) (Int32.toNatClampNeg y)) (Int32.toNatClampNeg z) (Int32.toNatClampNeg y)) (Int32.toNatClampNeg z) (Int32.toNatClampNeg y)) (Int32.toNatClampNeg z)) M ov) rfl ?_
      refine go_aload C 0 dX1_join_94 rfl ?_
      refine go_iconst C (v := 0) dX1_join_96 (by decide) ?_
      refine pl_principal C (S := jo4 (jo3 (jo2 (jo1 S (Int32.toNatClampNeg z) (Int32.toNatClampNeg y)) (Int32.toNatClampNeg z) (Int32.toNatClampNeg y)) (Int32.toNatClampNeg z) (Int32.toNatClampNeg y)) (Int32.toNatClampNeg z)) (i := (Int32.toNatClampNeg y)) (xAt_nc hok h_6) dX1_join_97 ?_
      refine go_w (w2 := wW cI cJ cZ cO a (joS S (Int32.toNatClampNeg z) (Int32.toNatClampNeg y)) M ov) rfl ?_
      refine go_aload_n C 1 dX1_join_100 rfl rfl ?_
      refine gl_principal C (S := joS S (Int32.toNatClampNeg z) (Int32.toNatClampNeg y)) (i := (Int32.toNatClampNeg z)) (xAt_nc hok h_3) dX1_join_101 ?_
      exact go_x (go_ireturn C rfl dX1_join_104 (by decide) (by decide) ⟨by simp only [joC, if_neg c_7, if_neg c_8, if_pos (lotC_s h_3), if_pos (lotC_s h_6)], rfl, rfl⟩)
    · exact go_throw C hlf ht (names := nb_names) (text := "these lots cannot be joined") rfl mem_S fit_nb_S nb_names_fit bcl_RX1_83 bz_IllegalStateException (List.mem_of_getElem? (i := 12) rfl) hat_nb_S_87 hat2_nb_S_87 hgood_nb_S_83_87 dX1_join_37 dX1_join_40 dX1_join_41 dX1_join_43 dX1_join_46 (by decide) (by decide) (by decide) (by decide) ⟨xc_S (by simp only [joC, if_neg c_7, if_pos c_8, if_pos (lotC_s h_3), if_pos (lotC_s h_6)]) rfl, rfl⟩ (by decide) (by decide)
  · exact go_throw C hlf ht (names := nb_names) (text := "both are the same lot") rfl mem_A fit_nb_A nb_names_fit bcl_RX1_142 bz_IllegalArgumentException (List.mem_of_getElem? (i := 11) rfl) hat_nb_A_146 hat2_nb_A_146 hgood_nb_A_142_146 dX1_join_18 dX1_join_21 dX1_join_22 dX1_join_24 dX1_join_27 (by decide) (by decide) (by decide) (by decide) ⟨xc_A (by simp only [joC, if_pos c_7, if_pos (lotC_s h_3), if_pos (lotC_s h_6)]) rfl, rfl⟩ (by decide) (by decide)
theorem k_RL_48 {p : Program} {l : Launch} {e : Env} {R : Room} {s : State} {m : MethodId} {args : Array Value} {below : List Frame} {meth : Method} {c : Code} {D : va_G} {N0 mL : Nat} {cc : ByteArray} {nm : String} {ret : Option FieldType} {Q : State → Prop} {k n pc : Nat} {lo : List (Nat × Value)} {st : List Value} {cI cJ cZ cO : ClassId} {a : Nat → Nat} (C : Cxt p s m args meth c D (tysW cI cJ cZ cO) N0 cc mL RL ret nm) (hlf : l.stackTraces = false) (S : CS) (M : MS) (ov : Nat → Int64) (z y : Int32) (hok : okX S) (hR : 7 + 1 ≤ R.frames ∧ 8 + (5 + 11) + 104 ≤ R.locals) (hcs : k + 3 ≤ R.cells ∧ n + 18 ≤ R.slots) (hcat : (st.map fun v => v.category).sum ≤ 8) (d : decode cc pc = .ok (.invokevirtual 48, 3)) (gx : ∀ E : String, (joC S z y ≠ 0 ∧ E = exN (joC S z y)) → GoX p l e R s m args below meth c D N0 mL Q (wW cI cJ cZ cO a S M ov) (k + 3) (n + 18) pc lo E) (g : (joC S z y = 0) → Go p l e R s m args below meth c D N0 mL Q (wW cI cJ cZ cO a (joS S (Int32.toNatClampNeg z) (Int32.toNatClampNeg y)) M ov) (k + 3) (n + 18) (pc + 3) lo (.int (lr_pr (cs_lt (joS S (Int32.toNatClampNeg z) (Int32.toNatClampNeg y)) (Int32.toNatClampNeg z))) :: st)) : Go p l e R s m args below meth c D N0 mL Q (wW cI cJ cZ cO a S M ov) k n pc lo (.int y :: .int z :: .ref (a 0) :: st) :=
  go_callVX C (ci := 1) (r9 := (RX1, TX1, 8)) (qi := 0) (As := [.int z, .int y]) (rest := st) rfl rfl (c_X1_join l hlf D cI cJ cZ cO N0 a S M ov z y hok) ⟨rfl, by decide +kernel, by decide +kernel⟩ bl_RL_48 bi_yX1_join bs_yX1_join bz_NoticeBook bc_yX1_join (show Option.map (fun d => d.parameters.length) (parseMethodDescriptor yX1_join.desc) = some 2 by decide +kernel) hR hcs hcat d (fun E w2 h => by obtain ⟨h9, rfl⟩ := h; exact gx E h9) (fun r w2 h => by obtain ⟨h9, rfl, rfl⟩ := h; exact g h9) rfl
end
