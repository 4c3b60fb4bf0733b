section
/-! ===== BEGIN words of one list among another's, by their places ===== -/
theorem goodIn_r {big : List Cond} (ws : List Cond) (ps : List Nat) (hp : ws = ps.filterMap (fun i => big[i]?)) (h : ws.all goodWord = true) : GoodIn big ws := by
  intro w hw
  have h1 := List.all_eq_true.mp h w hw
  rw [hp] at hw
  obtain ⟨i, -, hi⟩ := List.mem_filterMap.mp hw
  have hm : w ∈ big := by first | exact List.mem_of_getElem? hi | exact List.getElem?_mem hi
  exact ⟨hm, good_of_word h1⟩
theorem goodIn_app {big a b : List Cond} (ha : GoodIn big a) (hb : GoodIn big b) : GoodIn big (a ++ b) := fun w h => (List.mem_append.mp h).elim (ha w) (hb w)
theorem goodIn_ca {big a b : List Cond} {c : Cond} (ha : GoodIn big (c :: a)) (hb : GoodIn big b) : GoodIn big (c :: (a ++ b)) := fun w h => (List.mem_cons.mp h).elim (fun e => ha w (List.mem_cons.mpr (Or.inl e))) (fun h => (List.mem_append.mp h).elim (fun h => ha w (List.mem_cons.mpr (Or.inr h))) (hb w))
theorem goodIn_sub {big ws : List Cond} (hm : ∀ w ∈ ws, w ∈ big) (h : ws.all goodWord = true) : GoodIn big ws := fun w hw => ⟨hm w hw, good_of_word (List.all_eq_true.mp h w hw)⟩
/-! ===== END ===== -/
/-! ===== BEGIN exceptions that leave a method, and their catching by the caller (launches without stack traces) ===== -/
section VXA
/-! The laws vx_back, vx_callV, vx_callS, vx_callSW, vx_throw0, vx_throwS follow proofs of the library, with one case more: JvmDerived/Free/Laws.lean (Back.of_free), Shelf42/LK1.lean (callV, callS), Shelf/KitTraced.lean (throwNew0V, throwNewS). -/
/-- where a method has thrown q: the class by its name, the cell, what was written, the world -/
def vx_T (XC : String → State → State → Prop) (st : State) (q : Addr) (t : State) (mc ms : Nat) (free : Addr → Prop) : Prop :=
  ∃ (E : String) (ce : Cell) (L : List Loc), XC E st t ∧ t.heap[q]? = some ce ∧ ce.vm = .none ∧ st.vm.findClass E = some ce.cls ∧ st.WarmedH t.vm ∧ st.sameButNew ({ t with vm := st.vm } : State) L mc ms ∧ ∀ z ∈ L, free z.base
def vx_Q (Qc : Array Value → State → Outcome → State → Prop) (XC : String → State → State → Prop) (mc ms : Nat) (free : Addr → Prop) : Array Value → State → Outcome → State → Prop := fun a st o t =>
  (Qc a st o t ∧ ∃ L, FrameEnd st o t L mc ms ∧ ∀ q ∈ L, free q.base) ∨ ∃ q, o = .threw q ∧ vx_T XC st q t mc ms free
/-- a callee that returns or throws -/
def vx_Met (l : Launch) (y : MethodName) (ws : List Cond) (rm : Room) (Pc : Array Value → State → Prop) (Qc : Array Value → State → Outcome → State → Prop) (XC : String → State → State → Prop) (mc ms : Nat) (free : Addr → Prop) : Prop :=
  MetFree l y (headSpec ws rm) Pc (fun _ _ _ _ _ => True) (vx_Q Qc XC mc ms free)
def vx_Post (XC : String → State → State → Prop) (mc ms : Nat) (free : Addr → Prop) : Pt → Array Value → Addr → Pt → Prop := fun A a q B =>
  ∃ (g : JFrame) (mk : MethodId) (t : State) (L : List Loc) (E : String) (ce : Cell), B.U.heap = t.heap ∧ B.U.vm = t.vm ∧ XC E (A.U.calling g mk a) t ∧ t.heap[q]? = some ce ∧ ce.vm = .none ∧ A.U.vm.findClass E = some ce.cls ∧ B.locs = A.locs ++ L ∧ (∀ z ∈ L, free z.base) ∧ B.cells = A.cells + mc ∧ B.slots = A.slots + ms
def vx_Back (l : Launch) (R : Room) (p : Program) (e : Env) (below : List Frame) (s : State) (sargs : Array Value) (y : MethodName) (len W9 : Nat)
    (Pre : Pt → Array Value → Prop) (Post : Pt → Array Value → Option Value → Pt → Prop) (PostX : Pt → Array Value → Addr → Pt → Prop) : Prop :=
  ∀ (m : MethodId) (meth : Method) (c : Code) (A : Pt) (g : JFrame) (ig : Instr) (mk : MethodId) (a : Array Value),
    Stand p l e R s m sargs below meth c A.U A.locs A.cells A.slots → g.method = m → g.locals.size = c.maxLocals → decode c.code g.pc = .ok (ig, len) →
    2 * g.monitorRoom + (g.stack.map fun v => v.category).sum ≤ W9 → A.U.methodNamed? y = some mk → Pre A a →
    (∃ (v : Option Value) (B : Pt), Stand p l e R s m sargs below meth c B.U B.locs B.cells B.slots ∧ Post A a v B ∧
      Steps p.tables e below (doInvoke e (A.U.setTop g) [] mk a).1 (B.U.setTop { g with pc := g.pc + len, stack := v.toList ++ g.stack })) ∨
    (∃ (q : Addr) (B : Pt), Stand p l e R s m sargs below meth c B.U B.locs B.cells B.slots ∧ PostX A a q B ∧
      Steps p.tables e below (doInvoke e (A.U.setTop g) [] mk a).1 ((B.U.setTop g).pushFrame (.throwing q)))
section Payer
variable {l : Launch} {R : Room} {p : Program} {e : Env} {below : List Frame} {s : State} {sargs : Array Value} {y : MethodName} {len W9 : Nat}
theorem vx_back {ws : List Cond} {rm : Room} {Pc : Array Value → State → Prop} {Qc : Array Value → State → Outcome → State → Prop} {XC : String → State → State → Prop} {mc ms : Nat} {free : Addr → Prop} {bytes : ByteArray} {maxL : Nat} {ret : Option FieldType}
    (hM : vx_Met l y ws rm Pc Qc XC mc ms free) (hblind : FrameBlind Pc) (hrc : rm.cells = mc) (hrs : rm.slots = ms)
    (hframes : rm.frames + 1 ≤ R.frames) (hlocals : W9 + (maxL + 11) + rm.locals ≤ R.locals)
    (hws : ∀ w ∈ ws, ∀ a' U, s.WarmedH U.vm → w.before a' U = true) (hcode : Cond.code y bytes maxL ret ∈ ws) (hinit : ∀ a' U, s.WarmedH U.vm → (Cond.initialized y.cls).before a' U = true) :
    vx_Back l R p e below s sargs y len W9 (PreOf R mc ms Pc) (PostOf Qc mc ms free) (vx_Post XC mc ms free) := by
  intro m meth c A g ig mk a X hg hsize hdg hW hn hp
  have h1 : (headSpec ws rm).pre.before a A.U = true := atoms_intro fun w hw => hws w hw _ _ X.warmed
  have h2 : (Cond.code y bytes maxL ret).before a A.U = true := hws _ hcode _ _ X.warmed
  have h3 : (Cond.initialized y.cls).before a A.U = true := hinit _ _ X.warmed
  have h4 : A.cells + (headSpec ws rm).room.cells ≤ R.cells := by rw [show (headSpec ws rm).room.cells = mc from hrc]; exact hp.1
  have h5 : A.slots + (headSpec ws rm).room.slots ≤ R.slots := by rw [show (headSpec ws rm).room.slots = ms from hrs]; exact hp.2.1
  have hPc : Pc a (A.U.calling g mk a) := hblind _ _ _ _ hp.2.2
  obtain ⟨U, Ls, c0, s0⟩ := A
  dsimp only [Pt.U, Pt.locs, Pt.cells, Pt.slots] at h1 h2 h3 h4 h5 X hn hPc ⊢
  obtain ⟨methY, cY, hmY, hcY, -, hlY, -, -, -, -⟩ := Cond.code_spec hn h2
  obtain ⟨kY, hkY, -⟩ := className_of_methodNamed hn
  have hinitY : kY.init = .initialized := Cond.initialized_spec (findClass_of_methodNamed hn) hkY h3
  have h : At U g.method c below := by rw [hg]; exact X.here
  have hlocals9 : W9 + (maxL + 11) + (headSpec ws rm).room.locals ≤ R.locals := hlocals
  have happ : (headSpec ws rm).appliesLoose y e.platform (U.calling g mk a) = true :=
    Spec.appliesLoose_calling (g := g) h hdg hn hkY hinitY
      (X.room_calling (g := g) (R' := (headSpec ws rm).room) hsize hmY hcY hframes (by rw [hlY]; omega) h4 h5) h1
  obtain ⟨mid, hmid⟩ := h.above
  have hfr : (U.setTop g).frames = (.java g :: mid) ++ below := by rw [State.frames_setTop' g h.top, hmid]; rfl
  obtain ⟨o, s₂, hsteps, -, hend, hq⟩ := Steps.callFree hM p X.admits X.cas X.clock (acts := []) hfr happ hPc trivial
  have hq' : vx_Q Qc XC mc ms free a (U.calling g mk a) o s₂ := hq
  rw [State.frames_setTop' g h.top] at hend
  obtain ⟨g₀, hg0⟩ := Option.isSome_iff_exists.mp h.top
  obtain ⟨r, hr⟩ := State.topJava?_eq_some.mp hg0
  have hr' : (({ U with heap := s₂.heap, slotsUsed := s₂.slotsUsed } : State).setVm s₂.vm).frames = .java g₀ :: r := hr
  rcases hq' with ⟨hqc, L, hfe, hL⟩ | ⟨q, rfl, E, ce, L, hx, hce, hcv, hcl, hW₂, hsm, hL⟩
  · obtain ⟨⟨v, rfl⟩, hW₂, e2, q2, q3, q4, q5, q6⟩ := id hfe
    have e3 : s₂ = ({ (U.calling g mk a).setFrames s₂.frames with heap := s₂.heap, slotsUsed := s₂.slotsUsed } : State).setVm s₂.vm := by
      have : s₂ = ({ s₂ with vm := (U.calling g mk a).vm } : State).setVm s₂.vm := rfl
      rw [e2] at this
      exact this
    obtain ⟨c₂, i₂, len₂, hc₂, hd₂, hf₂⟩ := hend
    have hW' : U.WarmedH s₂.vm := hW₂
    have hcc : c₂ = c := by
      have h1 : s₂.code? g.method = U.code? g.method := by
        rw [State.code?_eq, State.code?_eq, hW'.alike.method?]
      exact Option.some.inj (hc₂.symm.trans (h1.trans h.code))
    subst hcc
    have hlen : len₂ = len := by rw [hdg] at hd₂; cases hd₂; rfl
    subst hlen
    have hs₂ : s₂ = (({ U with heap := s₂.heap, slotsUsed := s₂.slotsUsed } : State).setVm s₂.vm).setTop { g with pc := g.pc + len₂, stack := v.toList ++ g.stack } := by
      refine e3.trans ?_
      rw [hf₂, State.calling_eq h.top, State.setFrames_setFrames, State.setTop_of_frames _ hr', hr]
      rfl
    have hsame : U.sameButNew ({ U with heap := s₂.heap, slotsUsed := s₂.slotsUsed } : State) L mc ms := by
      refine ⟨?_, q2, q3, q4, q5, q6⟩
      obtain ⟨t, ht, -⟩ := State.frames_cons hr
      show ({ U with heap := s₂.heap, slotsUsed := s₂.slotsUsed } : State) = { U.setFrames U.frames with heap := s₂.heap, slotsUsed := s₂.slotsUsed }
      rw [State.setFrames_self ht]
    subst hg
    refine Or.inl ⟨v, ⟨(({ U with heap := s₂.heap, slotsUsed := s₂.slotsUsed } : State).setVm s₂.vm), Ls ++ L, c0 + mc, s0 + ms⟩,
      ⟨X.admits, X.cas, X.clock, X.frames, X.room, X.hears, X.method, X.code, (X.here.setHeapUsed s₂.heap s₂.slotsUsed).setVm hW'.alike, X.tail, State.WarmedH.trans X.warmed hW', X.limits, X.bytes, X.same.trans (hsame.setVm s.vm)⟩,
      ⟨g, mk, s₂, L, rfl, rfl, hqc, rfl, hL, rfl, rfl⟩, ?_⟩
    show Steps p.tables e below _ ((({ U with heap := s₂.heap, slotsUsed := s₂.slotsUsed } : State).setVm s₂.vm).setTop { g with pc := g.pc + len₂, stack := v.toList ++ g.stack })
    rw [← hs₂]
    exact hsteps
  · obtain ⟨e2, q2, q3, q4, q5, q6⟩ := id hsm
    have e3 : s₂ = ({ (U.calling g mk a).setFrames s₂.frames with heap := s₂.heap, slotsUsed := s₂.slotsUsed } : State).setVm s₂.vm := by
      have : s₂ = ({ s₂ with vm := (U.calling g mk a).vm } : State).setVm s₂.vm := rfl
      rw [e2] at this
      exact this
    have hf₂ : s₂.frames = .throwing q :: .java g :: U.frames.tail := hend
    have hW' : U.WarmedH s₂.vm := hW₂
    have hs₂ : s₂ = ((({ U with heap := s₂.heap, slotsUsed := s₂.slotsUsed } : State).setVm s₂.vm).setTop g).pushFrame (.throwing q) := by
      refine e3.trans ?_
      rw [hf₂, State.calling_eq h.top, State.setFrames_setFrames, State.pushFrame, State.frames_setTop _ hr', State.setTop_of_frames _ hr', State.setFrames_setFrames, hr]
      rfl
    have hsame : U.sameButNew ({ U with heap := s₂.heap, slotsUsed := s₂.slotsUsed } : State) L mc ms := by
      refine ⟨?_, q2, q3, q4, q5, q6⟩
      obtain ⟨t, ht, -⟩ := State.frames_cons hr
      show ({ U with heap := s₂.heap, slotsUsed := s₂.slotsUsed } : State) = { U.setFrames U.frames with heap := s₂.heap, slotsUsed := s₂.slotsUsed }
      rw [State.setFrames_self ht]
    subst hg
    refine Or.inr ⟨q, ⟨(({ U with heap := s₂.heap, slotsUsed := s₂.slotsUsed } : State).setVm s₂.vm), Ls ++ L, c0 + mc, s0 + ms⟩,
      ⟨X.admits, X.cas, X.clock, X.frames, X.room, X.hears, X.method, X.code, (X.here.setHeapUsed s₂.heap s₂.slotsUsed).setVm hW'.alike, X.tail, State.WarmedH.trans X.warmed hW', X.limits, X.bytes, X.same.trans (hsame.setVm s.vm)⟩,
      ⟨g, mk, s₂, L, E, ce, rfl, rfl, hx, hce, hcv, hcl, rfl, hL, rfl, rfl⟩, ?_⟩
    show Steps p.tables e below _ (((({ U with heap := s₂.heap, slotsUsed := s₂.slotsUsed } : State).setVm s₂.vm).setTop g).pushFrame (.throwing q))
    rw [← hs₂]
    exact hsteps
end Payer
section Calls
variable {p : Program} {l : Launch} {e : Env} {R : Room} {s : State} {m : MethodId} {args : Array Value} {below : List Frame} {meth : Method} {c : Code} {T : State} {locs : List Loc} {cells slots : Nat}
theorem vx_callV (X : Stand p l e R s m args below meth c T locs cells slots) (hexec : p.tables.exec = Jvm.exec) {own C : String} {index : Nat} {y : MethodName} {bytes : ByteArray} {maxL : Nat} {ret : Option FieldType}
    (hown : s.vm.findClass own = some m.cls) (hlink : (Cond.methodLink own index y).before args s = true) (hinst : (Cond.instanceMethod y).before args s = true) (hsel : (Cond.selects C y y).before args s = true)
    (hcode : (Cond.code y bytes maxL ret).before args s = true) (hy : y.cls ≠ "java/lang/invoke/MethodHandle" ∧ y.cls ≠ "java/lang/invoke/VarHandle")
    {W9 : Nat} {Pre : Pt → Array Value → Prop} {Post : Pt → Array Value → Option Value → Pt → Prop} {PostX : Pt → Array Value → Addr → Pt → Prop} (hK : vx_Back l R p e below s args y 3 W9 Pre Post PostX)
    {b : Addr} {cellB : Cell} (hcell : T.heap[b]? = some cellB) (hobj : cellB.vm.isStatics = false) (hcls : s.vm.findClass C = some cellB.cls)
    {g : JFrame} (hg : g.method = m) (hsize : g.locals.size = c.maxLocals) {argsL rest : List Value} (hlen : ∀ sig, parseMethodDescriptor y.desc = some sig → argsL.length = sig.parameters.length)
    (hstack : g.stack = argsL.reverse ++ .ref b :: rest) (hW : 2 * g.monitorRoom + (rest.map fun v => v.category).sum ≤ W9) (hdg : decode c.code g.pc = .ok (.invokevirtual index, 3))
    (hpre : ∀ vm₁, s.WarmedH vm₁ → Pre ⟨T.setVm vm₁, locs, cells, slots⟩ (Value.ref b :: argsL).toArray) :
    (∃ (v : Option Value) (vm₁ : Vm) (B : Pt), s.WarmedH vm₁ ∧ Stand p l e R s m args below meth c B.U B.locs B.cells B.slots ∧ Post ⟨T.setVm vm₁, locs, cells, slots⟩ (Value.ref b :: argsL).toArray v B ∧
      ∀ target, Steps p.tables e below (B.U.setTop { g with pc := g.pc + 3, stack := v.toList ++ rest }) target → Steps p.tables e below (T.setTop g) target) ∨
    (∃ (q : Addr) (vm₁ : Vm) (B : Pt), s.WarmedH vm₁ ∧ Stand p l e R s m args below meth c B.U B.locs B.cells B.slots ∧ PostX ⟨T.setVm vm₁, locs, cells, slots⟩ (Value.ref b :: argsL).toArray q B ∧
      Steps p.tables e below (T.setTop g) ((B.U.setTop { g with stack := rest }).pushFrame (.throwing q))) := by
  obtain ⟨mk, methM, hnamed, hmethM, hstM, habM⟩ := Cond.instanceMethod_spec hinst
  obtain ⟨methM', cM, hmethM', -, -, -, -, -, -, hsigM⟩ := Cond.code_spec hnamed hcode
  cases hmethM.symm.trans hmethM'
  obtain ⟨c2, r2, m2, q1, q2, q3, q4, kP, hkP, hkPi⟩ := Cond.selects_spec hsel
  cases hcls.symm.trans q1
  cases (State.methodFound?_of_named hnamed hy).symm.trans q2
  cases hnamed.symm.trans q3
  have hselP : selectMethod e.platform s.vm cellB.cls mk = .method mk := by rw [Launch.admits_selectMethod X.admits]; exact q4
  obtain ⟨vm₁, X₁, hstep₁⟩ := X.invokevirtual hexec hown hlink hnamed hmethM hstM hkP hkPi hy (a := b) (cell := cellB) hcell
    (fun z h => by rw [h] at hobj; cases hobj) hselP hmethM habM hkP hkPi (g := g) hg (argsL := argsL) (rest := rest) (hlen _ hsigM) hstack hdg
  rcases hK m meth c ⟨T.setVm vm₁, locs, cells, slots⟩ { g with stack := rest } (.invokevirtual index) mk (Value.ref b :: argsL).toArray X₁ hg hsize hdg hW (X₁.named hnamed) (hpre vm₁ X₁.warmed) with ⟨v, B, X', hpost, hsteps⟩ | ⟨q, B, X', hpost, hsteps⟩
  · exact Or.inl ⟨v, vm₁, B, X₁.warmed, X', hpost, fun target h => hstep₁ _ fun acts => by rw [doInvoke_state]; exact hsteps.trans h⟩
  · exact Or.inr ⟨q, vm₁, B, X₁.warmed, X', hpost, hstep₁ _ fun acts => by rw [doInvoke_state]; exact hsteps⟩
theorem vx_callS (X : Stand p l e R s m args below meth c T locs cells slots) (hexec : p.tables.exec = Jvm.exec) {own : String} {index : Nat} {y : MethodName} {bytes : ByteArray} {maxL : Nat} {ret : Option FieldType}
    (hown : s.vm.findClass own = some m.cls) (hlink : (Cond.methodLink own index y).before args s = true) (hstat : (Cond.static y).before args s = true) (hinit : (Cond.initialized y.cls).before args s = true)
    (hcode : (Cond.code y bytes maxL ret).before args s = true) (hy : y.cls ≠ "java/lang/invoke/MethodHandle" ∧ y.cls ≠ "java/lang/invoke/VarHandle")
    {W9 : Nat} {Pre : Pt → Array Value → Prop} {Post : Pt → Array Value → Option Value → Pt → Prop} {PostX : Pt → Array Value → Addr → Pt → Prop} (hK : vx_Back l R p e below s args y 3 W9 Pre Post PostX)
    {g : JFrame} (hg : g.method = m) (hsize : g.locals.size = c.maxLocals) {argsL rest : List Value} (hlen : ∀ sig, parseMethodDescriptor y.desc = some sig → argsL.length = sig.parameters.length)
    (hstack : g.stack = argsL.reverse ++ rest) (hW : 2 * g.monitorRoom + (rest.map fun v => v.category).sum ≤ W9) (hdg : decode c.code g.pc = .ok (.invokestatic index, 3))
    (hpre : ∀ vm₁, s.WarmedH vm₁ → Pre ⟨T.setVm vm₁, locs, cells, slots⟩ argsL.toArray) :
    (∃ (v : Option Value) (vm₁ : Vm) (B : Pt), s.WarmedH vm₁ ∧ Stand p l e R s m args below meth c B.U B.locs B.cells B.slots ∧ Post ⟨T.setVm vm₁, locs, cells, slots⟩ argsL.toArray v B ∧
      ∀ target, Steps p.tables e below (B.U.setTop { g with pc := g.pc + 3, stack := v.toList ++ rest }) target → Steps p.tables e below (T.setTop g) target) ∨
    (∃ (q : Addr) (vm₁ : Vm) (B : Pt), s.WarmedH vm₁ ∧ Stand p l e R s m args below meth c B.U B.locs B.cells B.slots ∧ PostX ⟨T.setVm vm₁, locs, cells, slots⟩ argsL.toArray q B ∧
      Steps p.tables e below (T.setTop g) ((B.U.setTop { g with stack := rest }).pushFrame (.throwing q))) := by
  obtain ⟨mk, hnamed⟩ := Cond.code_named hcode
  obtain ⟨methM, cM, hmethM, -, -, -, -, -, -, hsigM⟩ := Cond.code_spec hnamed hcode
  have hstatic : methM.isStatic = true := Cond.static_spec hnamed hmethM hstat
  obtain ⟨kP, hkP, -⟩ := className_of_methodNamed hnamed
  have hinitP : kP.init = .initialized := Cond.initialized_spec (findClass_of_methodNamed hnamed) hkP hinit
  obtain ⟨vm₁, X₁, hstep₁⟩ := X.invokestatic hexec hown hlink hnamed hmethM hstatic hkP hinitP hy (g := g) hg (argsL := argsL) (rest := rest) (hlen _ hsigM) hstack hdg
  rcases hK m meth c ⟨T.setVm vm₁, locs, cells, slots⟩ { g with stack := rest } (.invokestatic index) mk argsL.toArray X₁ hg hsize hdg hW (X₁.named hnamed) (hpre vm₁ X₁.warmed) with ⟨v, B, X', hpost, hsteps⟩ | ⟨q, B, X', hpost, hsteps⟩
  · exact Or.inl ⟨v, vm₁, B, X₁.warmed, X', hpost, fun target h => hstep₁ _ fun acts => by rw [doInvoke_state]; exact hsteps.trans h⟩
  · exact Or.inr ⟨q, vm₁, B, X₁.warmed, X', hpost, hstep₁ _ fun acts => by rw [doInvoke_state]; exact hsteps⟩
end Calls
theorem vx_cls {s : State} {T : State} {vm₁ : Vm} {E : String} {k : ClassId} (hW : s.WarmedH vm₁) (h : (T.setVm vm₁).vm.findClass E = some k) : s.vm.findClass E = some k := by
  have h1 : vm₁.findClass E = some k := h
  rw [hW.alike.findClass] at h1
  exact h1
/-- the method's frame g, with q thrown over it -/
def vx_W (p : Program) (l : Launch) (e : Env) (R : Room) (s : State) (m : MethodId) (args : Array Value) (below : List Frame) (meth : Method) (c : Code) (H : Heap) (locs : List Loc) (cells slots : Nat) (Q : State → Prop) (g : JFrame) (q : Addr) : Prop :=
  ∀ T : State, T.heap = H → Stand p l e R s m args below meth c T locs cells slots → ∃ t, Steps p.tables e below ((T.setTop g).pushFrame (.throwing q)) t ∧ Q t
def vx_Run (p : Program) (l : Launch) (e : Env) (R : Room) (s : State) (m : MethodId) (args : Array Value) (below : List Frame) (meth : Method) (c : Code) (H : Heap) (locs : List Loc) (cells slots mc ms : Nat) (g : JFrame) (rest : List Value) (Qa : State → Outcome → State → Prop) (XC : String → State → State → Prop) (free : Addr → Prop) : Prop :=
  ∀ T : State, T.heap = H → Stand p l e R s m args below meth c T locs cells slots →
    (∃ (v : Option Value) (st₀ t T' : State) (L : List Loc), st₀.heap = H ∧ Stand p l e R s m args below meth c T' (locs ++ L) (cells + mc) (slots + ms) ∧ (∀ q ∈ L, free q.base) ∧ T'.heap = t.heap ∧ T'.vm = t.vm ∧ Qa st₀ (.returned v) t ∧
      Goes p e below T g T' { g with pc := g.pc + 3, stack := v.toList ++ rest }) ∨
    (∃ (q : Addr) (st₀ t T' : State) (L : List Loc) (E : String) (ce : Cell), st₀.heap = H ∧ Stand p l e R s m args below meth c T' (locs ++ L) (cells + mc) (slots + ms) ∧ (∀ z ∈ L, free z.base) ∧ T'.heap = t.heap ∧ T'.vm = t.vm ∧ XC E st₀ t ∧ t.heap[q]? = some ce ∧ ce.vm = .none ∧ s.vm.findClass E = some ce.cls ∧
      Steps p.tables e below (T.setTop g) ((T'.setTop { g with stack := rest }).pushFrame (.throwing q)))
def vx_X {S : Type} (px : S → Prop) (B : String → S → State → Prop) (A : Nat → Prop) : String → State → State → Prop := fun E st t => ∃ u : S, px u ∧ B E u t ∧ va_F A st t
section Runs
variable {p : Program} {l : Launch} {e : Env} {R : Room} {s : State} {m : MethodId} {args : Array Value} {below : List Frame} {meth : Method} {c : Code} {H : Heap} {locs : List Loc} {cells slots : Nat}
variable {y : MethodName} {bytes cc : ByteArray} {maxL nL mc ms n index : Nat} {ret : Option FieldType} {ws : List Cond} {rm : Room} {Pc : Array Value → State → Prop} {Qc : Array Value → State → Outcome → State → Prop} {XC : String → State → State → Prop} {free : Addr → Prop} {Ts : List Cond} {own C : String} {b : Addr} {As rest : List Value} {g : JFrame}
theorem vx_callBack (cb : CallB R s args own index y bytes maxL ret ws rm mc ms n) (hM : vx_Met l y ws rm Pc Qc XC mc ms free) (hbl : FrameBlind Pc) : vx_Back l R p e below s args y 3 8 (PreOf R mc ms Pc) (PostOf Qc mc ms free) (vx_Post XC mc ms free) := by
  obtain ⟨hrc, hrs, hfr, hlo, hws, hcw, -, hini, -⟩ := cb
  exact vx_back (bytes := bytes) (maxL := maxL) (ret := ret) hM hbl hrc hrs hfr hlo hws hcw (fun a' U hW => word_at hW (Or.inl (by first | rfl | simp [Cond.onTables, Cond.keeps, Cond.steady])) hini)
theorem vx_runV (S : CallFix p m c cc nL s args Ts own) (hM : vx_Met l y ws rm Pc Qc XC mc ms free) (cw : CallW R s args own C index y bytes maxL ret ws rm mc ms n) (hp : PreV s H C b Pc As)
    (hg : g.method = m) (hn : As.length = n) (hsize : g.locals.size = nL) (hstack : g.stack = As.reverse ++ .ref b :: rest) (hW : 2 * g.monitorRoom + (rest.map fun v => v.category).sum ≤ 8) (hdg : decode cc g.pc = .ok (.invokevirtual index, 3)) (hf : cells + mc ≤ R.cells ∧ slots + ms ≤ R.slots) :
    vx_Run p l e R s m args below meth c H locs cells slots mc ms g rest (Qc (Value.ref b :: As).toArray) XC free := by
  have hK : vx_Back l R p e below s args y 3 8 (PreOf R mc ms Pc) (PostOf Qc mc ms free) (vx_Post XC mc ms free) := vx_callBack cw.1 hM hp.1
  obtain ⟨⟨-, -, -, -, -, -, hcode, -, hy, hlen, hl⟩, hin, hse⟩ := cw
  obtain ⟨hx, hb, hml, ho, -⟩ := S
  obtain ⟨-, ⟨cellB, hcB, hoB, hclB⟩, hPc⟩ := hp
  intro T hT X
  rcases vx_callV X hx (C := C) (bytes := bytes) (maxL := maxL) (ret := ret) ho hl hin hse hcode hy hK (by rw [hT]; exact hcB) hoB hclB hg (hsize.trans hml.symm) (argsL := As) (rest := rest) (fun sig h => hn.trans (hlen sig h)) hstack hW (by rw [hb]; exact hdg)
    (fun vm₁ hW₁ => ⟨hf.1, hf.2, hPc (T.setVm vm₁) hT hW₁⟩) with ⟨v, vm₁, ⟨U', l2, c2, s2⟩, hW₁, X', ⟨g', mk, t, L, e1, e2, hq, h1, hL, h2, h3⟩, st⟩ | ⟨q, vm₁, ⟨U', l2, c2, s2⟩, hW₁, X', ⟨g', mk, t, L, E, ce, e1, e2, hq, hce, hcv, hcl, h1, hL, h2, h3⟩, st⟩
  · dsimp only [Pt.U, Pt.locs, Pt.cells, Pt.slots] at X' e1 e2 h1 h2 h3 st
    subst h1; subst h2; subst h3
    exact Or.inl ⟨v, (T.setVm vm₁).calling g' mk (Value.ref b :: As).toArray, t, U', L, hT, X', hL, e1, e2, hq, st⟩
  · dsimp only [Pt.U, Pt.locs, Pt.cells, Pt.slots] at X' e1 e2 h1 h2 h3 st hcl
    subst h1; subst h2; subst h3
    exact Or.inr ⟨q, (T.setVm vm₁).calling g' mk (Value.ref b :: As).toArray, t, U', L, E, ce, hT, X', hL, e1, e2, hq, hce, hcv, vx_cls hW₁ hcl, st⟩
theorem vx_runS (S : CallFix p m c cc nL s args Ts own) (hM : vx_Met l y ws rm Pc Qc XC mc ms free) (cw : CallB R s args own index y bytes maxL ret ws rm mc ms n ∧ (Cond.static y).before args s = true) (hp : PreS s H Pc As)
    (hg : g.method = m) (hn : As.length = n) (hsize : g.locals.size = nL) (hstack : g.stack = As.reverse ++ rest) (hW : 2 * g.monitorRoom + (rest.map fun v => v.category).sum ≤ 8) (hdg : decode cc g.pc = .ok (.invokestatic index, 3)) (hf : cells + mc ≤ R.cells ∧ slots + ms ≤ R.slots) :
    vx_Run p l e R s m args below meth c H locs cells slots mc ms g rest (Qc As.toArray) XC free := by
  have hK : vx_Back l R p e below s args y 3 8 (PreOf R mc ms Pc) (PostOf Qc mc ms free) (vx_Post XC mc ms free) := vx_callBack cw.1 hM hp.1
  obtain ⟨⟨-, -, -, -, -, -, hcode, hini, hy, hlen, hl⟩, hstt⟩ := cw
  obtain ⟨hx, hb, hml, ho, -⟩ := S
  intro T hT X
  rcases vx_callS X hx (bytes := bytes) (maxL := maxL) (ret := ret) ho hl hstt hini hcode hy hK hg (hsize.trans hml.symm) (argsL := As) (rest := rest) (fun sig h => hn.trans (hlen sig h)) hstack hW (by rw [hb]; exact hdg)
    (fun vm₁ hW₁ => ⟨hf.1, hf.2, hp.2 (T.setVm vm₁) hT hW₁⟩) with ⟨v, vm₁, ⟨U', l2, c2, s2⟩, hW₁, X', ⟨g', mk, t, L, e1, e2, hq, h1, hL, h2, h3⟩, st⟩ | ⟨q, vm₁, ⟨U', l2, c2, s2⟩, hW₁, X', ⟨g', mk, t, L, E, ce, e1, e2, hq, hce, hcv, hcl, h1, hL, h2, h3⟩, st⟩
  · dsimp only [Pt.U, Pt.locs, Pt.cells, Pt.slots] at X' e1 e2 h1 h2 h3 st
    subst h1; subst h2; subst h3
    exact Or.inl ⟨v, (T.setVm vm₁).calling g' mk As.toArray, t, U', L, hT, X', hL, e1, e2, hq, st⟩
  · dsimp only [Pt.U, Pt.locs, Pt.cells, Pt.slots] at X' e1 e2 h1 h2 h3 st hcl
    subst h1; subst h2; subst h3
    exact Or.inr ⟨q, (T.setVm vm₁).calling g' mk As.toArray, t, U', L, E, ce, hT, X', hL, e1, e2, hq, hce, hcv, vx_cls hW₁ hcl, st⟩
end Runs
section Rows
variable {p : Program} {l : Launch} {e : Env} {R : Room} {s : State} {m : MethodId} {args : Array Value} {below : List Frame} {meth : Method} {c : Code} {H : Heap} {locs : List Loc} {cells slots : Nat} {Q : State → Prop}
variable {mc ms : Nat} {free : Addr → Prop} {A0 A1 : Nat → Prop} {H0 : Heap} {a : Array Value} {pc : Nat} {ls : Array Slot} {st0 rest : List Value}
theorem vx_keep {st₀ t T' : State} {L : List Loc} (h0 : st₀.heap = H) (e1 : T'.heap = t.heap) (hS : va_S A0 H0 H locs) (hA : ∀ q, q < H.size → A1 q → A0 q) (hf : ∀ q, free q → A0 q) (hL : ∀ q ∈ L, free q.base) (hF : va_F A1 st₀ t) :
    H.size ≤ T'.heap.size ∧ (∀ q : Nat, q < H.size → ¬ A1 q → T'.heap[q]? = H[q]?) ∧ va_S A0 H0 T'.heap (locs ++ L) := by
  obtain ⟨hz, hk⟩ := hF
  rw [h0] at hz hk
  exact ⟨by rw [e1]; exact hz, fun q h1 h2 => by rw [e1]; exact hk q h1 h2,
    ⟨Nat.le_trans hS.1 (by rw [e1]; exact hz), fun q h1 h2 => by rw [e1, hk q (Nat.lt_of_lt_of_le h1 hS.1) (fun z => h2 (hA q (Nat.lt_of_lt_of_le h1 hS.1) z))]; exact hS.2.1 q h1 h2, fun q hq => by
      rcases List.mem_append.mp hq with h | h
      · exact hS.2.2 q h
      · exact hf _ (hL q h)⟩⟩
theorem vx_calli {S SX : Type} {post : Int32 → S → Prop} {px : SX → Prop} {B : S → State → Prop} {BX : String → SX → State → Prop} {AX : Nat → Prop} (hr : vx_Run p l e R s m args below meth c H locs cells slots mc ms (F0 m pc ls st0) rest (va_Qi post B A1 a) (vx_X px BX AX) free) (hS : va_S A0 H0 H locs) (hA : ∀ q, q < H.size → A1 q → A0 q) (hf : ∀ q, free q → A0 q) (hAX : ∀ q, q < H.size → AX q → A0 q)
    (kx : ∀ (E : String) (ce : Cell) (q9 : Addr) (u : SX) (t : State) (H1 : Heap) (locs1 : List Loc), t.heap = H1 → s.vm.Alike t.vm → px u → BX E u t → H.size ≤ H1.size → (∀ q : Nat, q < H.size → ¬ AX q → H1[q]? = H[q]?) → va_S A0 H0 H1 locs1 → H1[q9]? = some ce → ce.vm = .none → s.vm.findClass E = some ce.cls → vx_W p l e R s m args below meth c H1 locs1 (cells + mc) (slots + ms) Q (F0 m pc ls rest) q9)
    (kk : ∀ (r : Int32) (u : S) (t : State) (H1 : Heap) (locs1 : List Loc), t.heap = H1 → s.vm.Alike t.vm → post r u → B u t → H.size ≤ H1.size → (∀ q : Nat, q < H.size → ¬ A1 q → H1[q]? = H[q]?) → va_S A0 H0 H1 locs1 → W p l e R s m args below meth c H1 locs1 (cells + mc) (slots + ms) Q (F0 m (pc + 3) ls (.int r :: rest))) : W p l e R s m args below meth c H locs cells slots Q (F0 m pc ls st0) := by
  intro T hT X
  rcases hr T hT X with ⟨v, st₀, t, T', L, h0, X', hL, e1, e2, ⟨⟨r, u, hv, hp, hb⟩, hF⟩, st⟩ | ⟨q, st₀, t, T', L, E, ce, h0, X', hL, e1, e2, ⟨u, hp, hb, hF⟩, hce, hcv, hcl, st⟩
  · cases hv
    obtain ⟨k1, k2, k3⟩ := vx_keep h0 e1 hS hA hf hL hF
    obtain ⟨t2, a1, b1⟩ := kk r u t T'.heap (locs ++ L) e1.symm (by rw [← e2]; exact X'.warmed.alike) hp hb k1 k2 k3 T' rfl X'
    exact ⟨t2, st t2 a1, b1⟩
  · obtain ⟨k1, k2, k3⟩ := vx_keep h0 e1 hS hAX hf hL hF
    obtain ⟨t2, a1, b1⟩ := kx E ce q u t T'.heap (locs ++ L) e1.symm (by rw [← e2]; exact X'.warmed.alike) hp hb k1 k2 k3 (by rw [e1]; exact hce) hcv hcl T' rfl X'
    exact ⟨t2, st.trans a1, b1⟩
theorem vx_calll {S SX : Type} {post : Int64 → S → Prop} {px : SX → Prop} {B : S → State → Prop} {BX : String → SX → State → Prop} {AX : Nat → Prop} (hr : vx_Run p l e R s m args below meth c H locs cells slots mc ms (F0 m pc ls st0) rest (va_Ql post B A1 a) (vx_X px BX AX) free) (hS : va_S A0 H0 H locs) (hA : ∀ q, q < H.size → A1 q → A0 q) (hf : ∀ q, free q → A0 q) (hAX : ∀ q, q < H.size → AX q → A0 q)
    (kx : ∀ (E : String) (ce : Cell) (q9 : Addr) (u : SX) (t : State) (H1 : Heap) (locs1 : List Loc), t.heap = H1 → s.vm.Alike t.vm → px u → BX E u t → H.size ≤ H1.size → (∀ q : Nat, q < H.size → ¬ AX q → H1[q]? = H[q]?) → va_S A0 H0 H1 locs1 → H1[q9]? = some ce → ce.vm = .none → s.vm.findClass E = some ce.cls → vx_W p l e R s m args below meth c H1 locs1 (cells + mc) (slots + ms) Q (F0 m pc ls rest) q9)
    (kk : ∀ (r : Int64) (u : S) (t : State) (H1 : Heap) (locs1 : List Loc), t.heap = H1 → s.vm.Alike t.vm → post r u → B u t → H.size ≤ H1.size → (∀ q : Nat, q < H.size → ¬ A1 q → H1[q]? = H[q]?) → va_S A0 H0 H1 locs1 → W p l e R s m args below meth c H1 locs1 (cells + mc) (slots + ms) Q (F0 m (pc + 3) ls (.long r :: rest))) : W p l e R s m args below meth c H locs cells slots Q (F0 m pc ls st0) := by
  intro T hT X
  rcases hr T hT X with ⟨v, st₀, t, T', L, h0, X', hL, e1, e2, ⟨⟨r, u, hv, hp, hb⟩, hF⟩, st⟩ | ⟨q, st₀, t, T', L, E, ce, h0, X', hL, e1, e2, ⟨u, hp, hb, hF⟩, hce, hcv, hcl, st⟩
  · cases hv
    obtain ⟨k1, k2, k3⟩ := vx_keep h0 e1 hS hA hf hL hF
    obtain ⟨t2, a1, b1⟩ := kk r u t T'.heap (locs ++ L) e1.symm (by rw [← e2]; exact X'.warmed.alike) hp hb k1 k2 k3 T' rfl X'
    exact ⟨t2, st t2 a1, b1⟩
  · obtain ⟨k1, k2, k3⟩ := vx_keep h0 e1 hS hAX hf hL hF
    obtain ⟨t2, a1, b1⟩ := kx E ce q u t T'.heap (locs ++ L) e1.symm (by rw [← e2]; exact X'.warmed.alike) hp hb k1 k2 k3 (by rw [e1]; exact hce) hcv hcl T' rfl X'
    exact ⟨t2, st.trans a1, b1⟩
theorem vx_callf {S SX : Type} {post : UInt32 → S → Prop} {px : SX → Prop} {B : S → State → Prop} {BX : String → SX → State → Prop} {AX : Nat → Prop} (hr : vx_Run p l e R s m args below meth c H locs cells slots mc ms (F0 m pc ls st0) rest (va_Qf post B A1 a) (vx_X px BX AX) free) (hS : va_S A0 H0 H locs) (hA : ∀ q, q < H.size → A1 q → A0 q) (hf : ∀ q, free q → A0 q) (hAX : ∀ q, q < H.size → AX q → A0 q)
    (kx : ∀ (E : String) (ce : Cell) (q9 : Addr) (u : SX) (t : State) (H1 : Heap) (locs1 : List Loc), t.heap = H1 → s.vm.Alike t.vm → px u → BX E u t → H.size ≤ H1.size → (∀ q : Nat, q < H.size → ¬ AX q → H1[q]? = H[q]?) → va_S A0 H0 H1 locs1 → H1[q9]? = some ce → ce.vm = .none → s.vm.findClass E = some ce.cls → vx_W p l e R s m args below meth c H1 locs1 (cells + mc) (slots + ms) Q (F0 m pc ls rest) q9)
    (kk : ∀ (r : UInt32) (u : S) (t : State) (H1 : Heap) (locs1 : List Loc), t.heap = H1 → s.vm.Alike t.vm → post r u → B u t → H.size ≤ H1.size → (∀ q : Nat, q < H.size → ¬ A1 q → H1[q]? = H[q]?) → va_S A0 H0 H1 locs1 → W p l e R s m args below meth c H1 locs1 (cells + mc) (slots + ms) Q (F0 m (pc + 3) ls (.float r :: rest))) : W p l e R s m args below meth c H locs cells slots Q (F0 m pc ls st0) := by
  intro T hT X
  rcases hr T hT X with ⟨v, st₀, t, T', L, h0, X', hL, e1, e2, ⟨⟨r, u, hv, hp, hb⟩, hF⟩, st⟩ | ⟨q, st₀, t, T', L, E, ce, h0, X', hL, e1, e2, ⟨u, hp, hb, hF⟩, hce, hcv, hcl, st⟩
  · cases hv
    obtain ⟨k1, k2, k3⟩ := vx_keep h0 e1 hS hA hf hL hF
    obtain ⟨t2, a1, b1⟩ := kk r u t T'.heap (locs ++ L) e1.symm (by rw [← e2]; exact X'.warmed.alike) hp hb k1 k2 k3 T' rfl X'
    exact ⟨t2, st t2 a1, b1⟩
  · obtain ⟨k1, k2, k3⟩ := vx_keep h0 e1 hS hAX hf hL hF
    obtain ⟨t2, a1, b1⟩ := kx E ce q u t T'.heap (locs ++ L) e1.symm (by rw [← e2]; exact X'.warmed.alike) hp hb k1 k2 k3 (by rw [e1]; exact hce) hcv hcl T' rfl X'
    exact ⟨t2, st.trans a1, b1⟩
theorem vx_calld {S SX : Type} {post : UInt64 → S → Prop} {px : SX → Prop} {B : S → State → Prop} {BX : String → SX → State → Prop} {AX : Nat → Prop} (hr : vx_Run p l e R s m args below meth c H locs cells slots mc ms (F0 m pc ls st0) rest (va_Qd post B A1 a) (vx_X px BX AX) free) (hS : va_S A0 H0 H locs) (hA : ∀ q, q < H.size → A1 q → A0 q) (hf : ∀ q, free q → A0 q) (hAX : ∀ q, q < H.size → AX q → A0 q)
    (kx : ∀ (E : String) (ce : Cell) (q9 : Addr) (u : SX) (t : State) (H1 : Heap) (locs1 : List Loc), t.heap = H1 → s.vm.Alike t.vm → px u → BX E u t → H.size ≤ H1.size → (∀ q : Nat, q < H.size → ¬ AX q → H1[q]? = H[q]?) → va_S A0 H0 H1 locs1 → H1[q9]? = some ce → ce.vm = .none → s.vm.findClass E = some ce.cls → vx_W p l e R s m args below meth c H1 locs1 (cells + mc) (slots + ms) Q (F0 m pc ls rest) q9)
    (kk : ∀ (r : UInt64) (u : S) (t : State) (H1 : Heap) (locs1 : List Loc), t.heap = H1 → s.vm.Alike t.vm → post r u → B u t → H.size ≤ H1.size → (∀ q : Nat, q < H.size → ¬ A1 q → H1[q]? = H[q]?) → va_S A0 H0 H1 locs1 → W p l e R s m args below meth c H1 locs1 (cells + mc) (slots + ms) Q (F0 m (pc + 3) ls (.double r :: rest))) : W p l e R s m args below meth c H locs cells slots Q (F0 m pc ls st0) := by
  intro T hT X
  rcases hr T hT X with ⟨v, st₀, t, T', L, h0, X', hL, e1, e2, ⟨⟨r, u, hv, hp, hb⟩, hF⟩, st⟩ | ⟨q, st₀, t, T', L, E, ce, h0, X', hL, e1, e2, ⟨u, hp, hb, hF⟩, hce, hcv, hcl, st⟩
  · cases hv
    obtain ⟨k1, k2, k3⟩ := vx_keep h0 e1 hS hA hf hL hF
    obtain ⟨t2, a1, b1⟩ := kk r u t T'.heap (locs ++ L) e1.symm (by rw [← e2]; exact X'.warmed.alike) hp hb k1 k2 k3 T' rfl X'
    exact ⟨t2, st t2 a1, b1⟩
  · obtain ⟨k1, k2, k3⟩ := vx_keep h0 e1 hS hAX hf hL hF
    obtain ⟨t2, a1, b1⟩ := kx E ce q u t T'.heap (locs ++ L) e1.symm (by rw [← e2]; exact X'.warmed.alike) hp hb k1 k2 k3 (by rw [e1]; exact hce) hcv hcl T' rfl X'
    exact ⟨t2, st.trans a1, b1⟩
theorem vx_callv {S SX : Type} {post : S → Prop} {px : SX → Prop} {B : S → State → Prop} {BX : String → SX → State → Prop} {AX : Nat → Prop} (hr : vx_Run p l e R s m args below meth c H locs cells slots mc ms (F0 m pc ls st0) rest (va_Qv post B A1 a) (vx_X px BX AX) free) (hS : va_S A0 H0 H locs) (hA : ∀ q, q < H.size → A1 q → A0 q) (hf : ∀ q, free q → A0 q) (hAX : ∀ q, q < H.size → AX q → A0 q)
    (kx : ∀ (E : String) (ce : Cell) (q9 : Addr) (u : SX) (t : State) (H1 : Heap) (locs1 : List Loc), t.heap = H1 → s.vm.Alike t.vm → px u → BX E u t → H.size ≤ H1.size → (∀ q : Nat, q < H.size → ¬ AX q → H1[q]? = H[q]?) → va_S A0 H0 H1 locs1 → H1[q9]? = some ce → ce.vm = .none → s.vm.findClass E = some ce.cls → vx_W p l e R s m args below meth c H1 locs1 (cells + mc) (slots + ms) Q (F0 m pc ls rest) q9)
    (kk : ∀ (u : S) (t : State) (H1 : Heap) (locs1 : List Loc), t.heap = H1 → s.vm.Alike t.vm → post u → B u t → H.size ≤ H1.size → (∀ q : Nat, q < H.size → ¬ A1 q → H1[q]? = H[q]?) → va_S A0 H0 H1 locs1 → W p l e R s m args below meth c H1 locs1 (cells + mc) (slots + ms) Q (F0 m (pc + 3) ls (rest))) : W p l e R s m args below meth c H locs cells slots Q (F0 m pc ls st0) := by
  intro T hT X
  rcases hr T hT X with ⟨v, st₀, t, T', L, h0, X', hL, e1, e2, ⟨⟨u, hv, hp, hb⟩, hF⟩, st⟩ | ⟨q, st₀, t, T', L, E, ce, h0, X', hL, e1, e2, ⟨u, hp, hb, hF⟩, hce, hcv, hcl, st⟩
  · cases hv
    obtain ⟨k1, k2, k3⟩ := vx_keep h0 e1 hS hA hf hL hF
    obtain ⟨t2, a1, b1⟩ := kk u t T'.heap (locs ++ L) e1.symm (by rw [← e2]; exact X'.warmed.alike) hp hb k1 k2 k3 T' rfl X'
    exact ⟨t2, st t2 a1, b1⟩
  · obtain ⟨k1, k2, k3⟩ := vx_keep h0 e1 hS hAX hf hL hF
    obtain ⟨t2, a1, b1⟩ := kx E ce q u t T'.heap (locs ++ L) e1.symm (by rw [← e2]; exact X'.warmed.alike) hp hb k1 k2 k3 (by rw [e1]; exact hce) hcv hcl T' rfl X'
    exact ⟨t2, st.trans a1, b1⟩
/-- caught by the row x of this method's table; the rows ahead don't take it -/
theorem vx_catch {own name : String} {E : String} {ce : Cell} {q : Addr} (hown : s.vm.findClass own = some m.cls) (pre : List ExceptionTableEntry) (x : ExceptionTableEntry) (suf : List ExceptionTableEntry) (hsplit : c.exceptionTable.toList = pre ++ x :: suf)
    (hpass : ∀ z ∈ pre, covers z pc = false ∨ (z.catchType ≠ 0 ∧ ∃ nm : String, (Cond.classLink own z.catchType nm).before args s = true ∧ va_Nc E nm s)) (hx : covers x pc = true) (h0 : x.catchType ≠ 0)
    (hlink : (Cond.classLink own x.catchType name).before args s = true) (hcast : (Cond.castable E name).before args s = true) (hcell : H[q]? = some ce) (hv : ce.vm = .none) (hcl : s.vm.findClass E = some ce.cls)
    (kk : W p l e R s m args below meth c H locs cells slots Q (F0 m x.handlerPc ls [.ref q])) : vx_W p l e R s m args below meth c H locs cells slots Q (F0 m pc ls rest) q := by
  intro T hT X
  have hpl : e.platform.magicAccessors = ({} : Platform).magicAccessors := by rw [X.admits.platform]
  obtain ⟨c3, c4, hc3, hc4, hasg⟩ := Cond.castable_spec hcast
  cases Option.some.inj (hc3.symm.trans hcl)
  obtain ⟨c5, hc5, hcl5⟩ := Cond.classLink_spec hown hlink e.platform hpl
  cases Option.some.inj (hc4.symm.trans hc5)
  obtain ⟨vm', X', st⟩ := X.thenCaughtThrough q (g := F0 m pc ls rest) rfl (Steps.refl _) (by rw [hT]; exact hcell) (by rw [hv]; rfl) (by obtain ⟨k9, h9, -⟩ := Vm.findClass_spec hcl; exact ⟨k9, h9⟩) pre x suf hsplit
    (fun z hz => by
      rcases hpass z hz with h | ⟨hz0, nm, hl1, hn1⟩
      · exact Or.inl h
      · obtain ⟨c6, hc6, hcl6⟩ := Cond.classLink_spec hown hl1 e.platform hpl
        obtain ⟨a8, b8, h1, h2, h3⟩ := hn1
        cases Option.some.inj (h1.symm.trans hcl)
        cases Option.some.inj (h2.symm.trans hc6)
        exact Or.inr ⟨hz0, _, hcl6, h3⟩) hx (Or.inr ⟨h0, c4, hcl5, hasg⟩)
  obtain ⟨t, a1, b1⟩ := kk (T.setVm vm') hT X'
  exact ⟨t, st.trans a1, b1⟩
end Rows
section Ends
variable {p : Program} {l : Launch} {e : Env} {R : Room} {s : State} {m : MethodId} {args : Array Value} {below : List Frame} {meth : Method} {c : Code} {H : Heap} {locs : List Loc} {cells slots : Nat} {Q : State → Prop}
variable {mc ms : Nat} {free : Addr → Prop} {A0 A1 : Nat → Prop} {H0 : Heap} {a : Array Value} {ls : Array Slot} {st0 rest : List Value}
variable {Qc : Array Value → State → Outcome → State → Prop} {XC : String → State → State → Prop}
/-- what a body that may throw owes at its end -/
def vx_MQ (below : List Frame) (Qc : Array Value → State → Outcome → State → Prop) (XC : String → State → State → Prop) (a : Array Value) (s : State) (mc ms : Nat) (free : Addr → Prop) : State → Prop := fun t =>
  ∃ o, t.status = .running ∧ Ended t below o ∧ vx_Q Qc XC mc ms free a s o t
theorem vx_ret {g : JFrame} {mc ms : Nat} (k : W p l e R s m args below meth c H locs cells slots (MQ below Qc args s mc ms free) g) : W p l e R s m args below meth c H locs cells slots (vx_MQ below Qc XC args s mc ms free) g := by
  intro T hT X
  obtain ⟨t, a1, o, b1, b2, b3, b4⟩ := k T hT X
  exact ⟨t, a1, o, b1, b2, Or.inl ⟨b3, b4⟩⟩
/-- not caught here: it goes on to the caller -/
theorem vx_widen {g : JFrame} {q : Addr} {k n : Nat} (h1 : cells ≤ k) (h2 : slots ≤ n) (kk : vx_W p l e R s m args below meth c H locs k n Q g q) : vx_W p l e R s m args below meth c H locs cells slots Q g q := fun T hT X => kk T hT (stand_widen X h1 h2)
theorem vx_out {pc : Nat} {E : String} {ce : Cell} {q : Addr} {mc ms : Nat} (hout : ∀ x ∈ c.exceptionTable.toList, covers x pc = false) (hlocks : meth.locks = false) (hcell : H[q]? = some ce) (hv : ce.vm = .none) (hcl : s.vm.findClass E = some ce.cls)
    (hx : ∀ t : State, t.heap = H → s.vm.Alike t.vm → XC E s t) (hf : ∀ z ∈ locs, free z.base) (hc : cells ≤ mc) (hs : slots ≤ ms) :
    vx_W p l e R s m args below meth c H locs cells slots (vx_MQ below Qc XC args s mc ms free) (F0 m pc ls rest) q := by
  intro T hT X
  obtain ⟨st1, hrun, hend, hW, hsm⟩ := X.leaveThrown q (g := F0 m pc ls rest) rfl rfl rfl hout hlocks
  have hcell9 : (T.setFrames (.throwing q :: below)).heap[q]? = some ce := by
    show T.heap[q]? = some ce
    rw [hT]; exact hcell
  exact ⟨_, st1, .threw q, hrun, hend, Or.inr ⟨q, rfl, E, ce, locs, hx _ hT hW.alike, hcell9, hv, hcl, hW, hsm.mono hc hs, hf⟩⟩
theorem vx_frame {U : State} {k n : Nat} (h : s.sameButNew ({ U with vm := s.vm } : State) locs k n) : s.heap.size ≤ U.heap.size ∧ ∀ q : Nat, q < s.heap.size → (∀ z ∈ locs, z.base ≠ q) → U.heap[q]? = s.heap[q]? := by
  obtain ⟨-, h2, -, -, -, h6⟩ := h
  refine ⟨h2, fun q hq hz => ?_⟩
  obtain ⟨c9, e1, e2, e3, e4⟩ := h6 q _ (Array.getElem?_eq_getElem hq)
  have hs : c9.slots = (s.heap[q]).slots := Array.ext_getElem? fun i => e4 i fun hm => hz _ hm rfl
  have h9 : c9 = s.heap[q] := by
    rw [hs] at e2
    exact e2
  have e5 : U.heap[q]? = some c9 := e1
  rw [e5, h9, Array.getElem?_eq_getElem hq]
/-- the words of a throw but the four that speak of the heap -/
def vx_no (w : Cond) : Bool := decide (w ≠ .isRef (.static Bundle.tN "UNASSIGNED_STACK" Bundle.steD)) && decide (w ≠ .isRef (.static Bundle.tN "SUPPRESSED_SENTINEL" Bundle.listD)) && decide (w ≠ .laysStatic Bundle.tN "UNASSIGNED_STACK" Bundle.steD) && decide (w ≠ .laysStatic Bundle.tN "SUPPRESSED_SENTINEL" Bundle.listD)
def vx_at0 (own : String) (ic : Nat) (X : String) (names : List String) : List Cond := (Bundle.ownAtoms0 own ic X names).filter vx_no
def vx_atS (own : String) (ic : Nat) (X : String) (names : List String) : List Cond := (Bundle.ownAtoms own ic X names).filter vx_no
/-- a word that the tables alone decide, or a good one -/
def vx_ot (w : Cond) : Bool := w.onTables || goodWord w
theorem vx_ot_at {args a' : Array Value} {s U : State} {w : Cond} (hW : s.WarmedH U.vm) (hvm : s.vm = U.vm) (hg : vx_ot w = true) (h : w.before args s = true) : w.before a' U = true := by
  simp only [vx_ot, Bool.or_eq_true] at hg
  rcases hg with hg | hg
  · exact va_tabs hg hvm h
  · exact word_at hW (good_of_word hg) h
/-- a list's words: the good ones out of the method's own list, the others by premises of their own -/
theorem vx_hat {args : Array Value} {s : State} {L B : List Cond} (h1 : ∀ w ∈ L.filter goodWord, w.before args s = true) (h2 : ∀ w ∈ L.filter (fun w => !goodWord w), w ∈ B) (h3 : ∀ w ∈ B, w.before args s = true) : ∀ w ∈ L, w.before args s = true := by
  intro w hw
  by_cases g : goodWord w = true
  · exact h1 w (List.mem_filter.mpr ⟨hw, g⟩)
  · refine h3 w (h2 w (List.mem_filter.mpr ⟨hw, ?_⟩))
    show (!goodWord w) = true
    cases hgw : goodWord w
    · rfl
    · exact absurd hgw g
theorem vx_c {args : Array Value} {s : State} {w : Cond} {B : List Cond} (h : w.before args s = true) (t : ∀ w ∈ B, w.before args s = true) : ∀ w' ∈ w :: B, w'.before args s = true := fun w' h' => (List.mem_cons.mp h').elim (fun e => by rw [e]; exact h) (t w')
theorem vx_n {args : Array Value} {s : State} : ∀ w ∈ ([] : List Cond), w.before args s = true := fun _ h => nomatch h
theorem vx_own {args : Array Value} {s : State} {L : List Cond} (h1 : ∀ w ∈ L.filter vx_no, w.before args s = true)
    (hU : (Cond.isRef (.static Bundle.tN "UNASSIGNED_STACK" Bundle.steD)).before args s = true) (hN : (Cond.isRef (.static Bundle.tN "SUPPRESSED_SENTINEL" Bundle.listD)).before args s = true)
    (lU : (Cond.laysStatic Bundle.tN "UNASSIGNED_STACK" Bundle.steD).before args s = true) (lN : (Cond.laysStatic Bundle.tN "SUPPRESSED_SENTINEL" Bundle.listD).before args s = true) : ∀ w ∈ L, w.before args s = true := by
  intro w hw
  by_cases e1 : w = .isRef (.static Bundle.tN "UNASSIGNED_STACK" Bundle.steD)
  · rw [e1]; exact hU
  · by_cases e2 : w = .isRef (.static Bundle.tN "SUPPRESSED_SENTINEL" Bundle.listD)
    · rw [e2]; exact hN
    · by_cases e3 : w = .laysStatic Bundle.tN "UNASSIGNED_STACK" Bundle.steD
      · rw [e3]; exact lU
      · by_cases e4 : w = .laysStatic Bundle.tN "SUPPRESSED_SENTINEL" Bundle.listD
        · rw [e4]; exact lN
        · exact h1 w (List.mem_filter.mpr ⟨hw, by unfold vx_no; rw [decide_eq_true e1, decide_eq_true e2, decide_eq_true e3, decide_eq_true e4]; rfl⟩)
/-- where a static field lies, its class's statics cell in H -/
def vx_L (C n d : String) (A : Nat → Prop) (U : State) (H : Heap) : Prop := ∃ (c : ClassId) (k : Class) (i : Nat) (f : Field) (a : Nat) (cell : Cell), U.vm.findClass C = some c ∧ U.fieldFound? C n d = some (c, k, i, f) ∧ f.isStatic = true ∧ k.statics = some a ∧ H[a]? = some cell ∧ cell.vm.isStatics = true ∧ cell.cls = c ∧ f.slot < cell.slots.size ∧ k.staticTypes[f.slot]? = some f.type ∧ ¬ A a
theorem vx_L.moved {C n d : String} {A : Nat → Prop} {u U : State} {H : Heap} (hvm : u.vm.Alike U.vm) (h : vx_L C n d A u H) : vx_L C n d A U H := by
  obtain ⟨c, k, i, f, a, cell, h1, h2, h3, h4, h5, h6, h7, h8, h9, h10⟩ := h
  obtain ⟨k', hi', he⟩ := State.fieldFound?_setVm hvm h2
  exact ⟨c, k', i, f, a, cell, by rw [hvm.findClass]; exact h1, hi', h3, by rw [he]; exact h4, h5, h6, h7, h8, by rw [he]; exact h9, h10⟩
theorem vx_L.kept {C n d : String} {A : Nat → Prop} {U : State} {H H1 : Heap} (h : vx_L C n d A U H) (hq : ∀ a : Nat, a < H.size → ¬ A a → H1[a]? = H[a]?) : vx_L C n d A U H1 := by
  obtain ⟨c, k, i, f, a, cell, h1, h2, h3, h4, h5, h6, h7, h8, h9, h10⟩ := h
  exact ⟨c, k, i, f, a, cell, h1, h2, h3, h4, by rw [hq a (Array.getElem?_eq_some_iff.mp h5).1 h10]; exact h5, h6, h7, h8, h9, h10⟩
theorem vx_L.narrow {C n d : String} {A B : Nat → Prop} {U : State} {H : Heap} (h : vx_L C n d A U H) (hAB : ∀ q, B q → A q) : vx_L C n d B U H := by
  obtain ⟨c, k, i, f, a, cell, h1, h2, h3, h4, h5, h6, h7, h8, h9, h10⟩ := h
  exact ⟨c, k, i, f, a, cell, h1, h2, h3, h4, h5, h6, h7, h8, h9, fun z => h10 (hAB _ z)⟩
theorem vx_L.word {C n d : String} {A : Nat → Prop} {s : State} {args : Array Value} (h : vx_L C n d A s s.heap) : (Cond.laysStatic C n d).before args s = true := by
  obtain ⟨c, k, i, f, a, cell, h1, h2, h3, h4, h5, h6, h7, h8, h9, -⟩ := h
  show (Cond.laysStatic C n d).holds args s none s [] = true
  exact Cond.laysStatic_of h1 h2 h3 h4 h5 h6 h7 h8 h9
/-- .. and what it holds: null or some reference -/
def vx_Zq (C n d : String) (A : Nat → Prop) (U : State) (H : Heap) : Prop := va_Zq C n d A U H ∧ vx_L C n d A U H
theorem vx_Zq.moved {C n d : String} {A : Nat → Prop} {u U : State} {H : Heap} (hvm : u.vm.Alike U.vm) (h : vx_Zq C n d A u H) : vx_Zq C n d A U H := ⟨va_Zq.moved hvm h.1, vx_L.moved hvm h.2⟩
theorem vx_Zq.kept {C n d : String} {A : Nat → Prop} {U : State} {H H1 : Heap} (h : vx_Zq C n d A U H) (hq : ∀ a : Nat, a < H.size → ¬ A a → H1[a]? = H[a]?) : vx_Zq C n d A U H1 := ⟨va_Zq.kept h.1 hq, vx_L.kept h.2 hq⟩
theorem vx_Zq.narrow {C n d : String} {A B : Nat → Prop} {U : State} {H : Heap} (h : vx_Zq C n d A U H) (hAB : ∀ q, B q → A q) : vx_Zq C n d B U H := ⟨va_Zq.narrow h.1 hAB, vx_L.narrow h.2 hAB⟩
theorem vx_Zqof {args : Array Value} {s : State} {C n d : String} {A : Nat → Prop} (hl : (Cond.laysStatic C n d).before args s = true) (hini : (Cond.initialized C).before args s = true) (h : (Cond.isRef (.static C n d)).before args s = true) (hA : ∀ a : Nat, a < s.heap.size → ¬ A a) : vx_Zq C n d A s s.heap := by
  refine ⟨va_Zqof hl hini h hA, ?_⟩
  obtain ⟨c, k, i, f, a, cell, h1, h2, h3, h4, h5, h6, h7, h8, h9⟩ := Cond.laysStatic_spec hl
  exact ⟨c, k, i, f, a, cell, h1, h2, h3, h4, h5, h6, h7, h8, h9, hA a (Array.getElem?_eq_some_iff.mp h5).1⟩
theorem vx_isRef {C n d : String} {v : Value} {A : Nat → Prop} {s : State} {args : Array Value} (h : va_Z C n d v A s s.heap) (hv : v.isRef = true) : (Cond.isRef (.static C n d)).before args s = true := by
  obtain ⟨cf, kf, fi, f, a, cell, h1, h2, h3, h4, h5, h6, h7, -⟩ := h
  have he : (Term.static C n d).eval args s none [] s = some v := by
    simp [Term.eval, State.fieldNamed?, h1, h2, h4, h5, h6, h7]
  simp only [Cond.before, Cond.holds, Cond.value, he]
  cases v <;> simp_all [Value.isRef]
theorem vx_isRefq {C n d : String} {A : Nat → Prop} {s : State} {args : Array Value} (h : va_Zq C n d A s s.heap) : (Cond.isRef (.static C n d)).before args s = true := by
  rcases h with h | ⟨t, h⟩
  · exact vx_isRef h rfl
  · exact vx_isRef h rfl
/-- the same frame, seen from here: as if the method were called anew in this heap -/
theorem vx_rebase {T : State} (X : Stand p l e R s m args below meth c T locs cells slots) {R' : Room} (hf : R'.frames ≤ R.frames) (hl : R'.locals ≤ R.locals) (hc : cells + R'.cells ≤ R.cells) (hs : slots + R'.slots ≤ R.slots) :
    Stand p l e R' ((T.setVm s.vm).setFrames (.invoking m args :: below)) m args below meth c T [] 0 0 := by
  have htop : (T.setVm s.vm).topJava?.isSome := X.here.top
  have hF : ((T.setVm s.vm).setFrames (.invoking m args :: below)).frames = .invoking m args :: below := State.frames_setFrames _ (State.cur_lt_of_top htop)
  obtain ⟨g₀, hg0⟩ := Option.isSome_iff_exists.mp htop
  obtain ⟨r, hr⟩ := State.topJava?_eq_some.mp hg0
  have hl9 : e.platform.stackLimits (T.setVm s.vm).me = e.platform.stackLimits s.me := X.limits
  have hb9 : (T.setVm s.vm).me.stackBytes = s.me.stackBytes := X.bytes
  refine ⟨X.admits, X.cas, X.clock, hF, ?_, X.hears, X.method, X.code, X.here, X.tail, X.warmed, ?_, ?_, ?_⟩
  · have h := X.room
    have hU : ((T.setVm s.vm).setFrames (.invoking m args :: below)).localsInUse = s.localsInUse := by
      rw [State.localsInUse_invoking hF (meth := meth) (c := c) X.method X.code, State.localsInUse_invoking X.frames X.method X.code]
    simp only [State.hasRoom, Bool.and_eq_true, decide_eq_true_eq] at h ⊢
    obtain ⟨⟨⟨⟨h1, h2, h3, h4, h5, h6⟩, h7⟩, h8⟩, h9⟩ := h
    rw [X.frames, List.length_cons] at h2 h3
    have q1 := X.heapSize
    have q2 := X.used
    simp only [hF, hU, List.length_cons, State.stackLimits_setFrames, State.stackBytes_setFrames, hl9, hb9]
    refine ⟨⟨⟨⟨by omega, by omega, by omega, by omega, by omega, h6⟩, ?_⟩, ?_⟩, X.book⟩
    · show T.heap.size + R'.cells ≤ e.platform.maxCells
      omega
    · show T.slotsUsed + R'.slots ≤ e.platform.maxSlots
      omega
  · rw [State.stackLimits_setFrames]; rfl
  · rw [State.stackBytes_setFrames]; rfl
  · refine ⟨?_, Nat.le_refl _, Nat.le_refl _, ?_, ?_, fun a c9 h9 => ⟨c9, h9, rfl, rfl, fun _ _ => rfl⟩⟩
    · obtain ⟨t, ht, -⟩ := State.frames_cons hr
      show T.setVm s.vm = { ((T.setVm s.vm).setFrames (.invoking m args :: below)).setFrames (T.setVm s.vm).frames with heap := T.heap, slotsUsed := T.slotsUsed }
      rw [State.setFrames_setFrames, State.setFrames_self ht]
      rfl
    · show T.slotsUsed = T.slotsUsed + ((T.heap.toList.drop T.heap.size).map (·.slots.size)).sum
      rw [List.drop_eq_nil_of_le (Nat.le_of_eq Array.length_toList)]
      rfl
    · show ((T.heap.toList.drop T.heap.size).map (·.slots.size)).sum ≤ 0
      rw [List.drop_eq_nil_of_le (Nat.le_of_eq Array.length_toList)]
      exact Nat.le_refl _
/-- 'throw new E()': new; dup; invokespecial; athrow -/
theorem vx_throw0 {cc : ByteArray} {pc : Nat} (hexec : p.tables.exec = Jvm.exec) (hb : c.code = cc) (hl : l.stackTraces = false) {own cls : String} {names : List String} {ik ic mc ms : Nat} {A : Nat → Prop}
    (hown : s.vm.findClass own = some m.cls) (hcls : Bundle.fit cls = true) (hnames : ∀ n ∈ names, Bundle.fit n = true)
    (hk : (Cond.classLink own ik cls).before args s = true) (hini : (Cond.initialized cls).before args s = true) (hat : ∀ w ∈ vx_at0 own ic cls names, w.before args s = true)
    (hgood : ∀ w ∈ Cond.classLink own ik cls :: Cond.initialized cls :: vx_at0 own ic cls names, vx_ot w = true)
    (hU : vx_Zq Bundle.tN "UNASSIGNED_STACK" Bundle.steD A s s.heap) (hN : vx_Zq Bundle.tN "SUPPRESSED_SENTINEL" Bundle.listD A s s.heap) (hS : va_S A s.heap H locs) (hsize : ls.size = c.maxLocals)
    (d0 : decode cc pc = .ok (.new ik, 3)) (d3 : decode cc (pc + 3) = .ok (.dup, 1)) (d4 : decode cc (pc + 4) = .ok (.invokespecial ic, 3)) (d7 : decode cc (pc + 7) = .ok (.athrow, 1))
    (hout : ∀ x ∈ c.exceptionTable.toList, covers x (pc + 7) = false)
    (hRframes : names.length + 3 < R.frames) (hRlocals : (rest.map fun v => v.category).sum + (13 * (names.length + 1) + 42) ≤ R.locals) (hRcells : cells + 1 ≤ R.cells) (hRslots : slots + 6 ≤ R.slots) (hlocks : meth.locks = false)
    (hx : ∀ t : State, s.vm.Alike t.vm → H.size ≤ t.heap.size → (∀ q : Nat, q < H.size → t.heap[q]? = H[q]?) → XC cls s t)
    (hf : ∀ z ∈ locs, free z.base) (hc : cells + 1 ≤ mc) (hs : slots + 6 ≤ ms) :
    W p l e R s m args below meth c H locs cells slots (vx_MQ below Qc XC args s mc ms free) (F0 m pc ls rest) := by
  intro T hT X
  have htr : e.platform.stackTraces = false := (show e.platform.stackTraces = l.stackTraces by rw [X.admits.platform]).trans hl
  have Y := vx_rebase X (R' := { frames := R.frames, locals := R.locals, cells := 1, slots := 6 }) (Nat.le_refl _) (Nat.le_refl _) hRcells hRslots
  obtain ⟨s', hA⟩ : ∃ z, z = (T.setVm s.vm).setFrames (.invoking m args :: below) := ⟨_, rfl⟩
  rw [← hA] at Y
  have hvm : s'.vm = s.vm := by rw [hA]; rfl
  have hhp : s'.heap = H := by rw [hA]; exact hT
  have hW0 : s.WarmedH s'.vm := by rw [hvm]; exact State.WarmedH.refl s
  have hat' : ∀ w ∈ vx_at0 own ic cls names, w.before args s' = true := fun w hw => vx_ot_at hW0 hvm.symm (hgood w (List.mem_cons_of_mem _ (List.mem_cons_of_mem _ hw))) (hat w hw)
  have hk' : (Cond.classLink own ik cls).before args s' = true := vx_ot_at hW0 hvm.symm (hgood _ List.mem_cons_self) hk
  have hini' : (Cond.initialized cls).before args s' = true := vx_ot_at hW0 hvm.symm (hgood _ (List.mem_cons_of_mem _ List.mem_cons_self)) hini
  have hU' : vx_Zq Bundle.tN "UNASSIGNED_STACK" Bundle.steD A s' s'.heap := by rw [hhp]; exact vx_Zq.moved hW0.alike (hU.kept hS.2.1)
  have hN' : vx_Zq Bundle.tN "SUPPRESSED_SENTINEL" Bundle.listD A s' s'.heap := by rw [hhp]; exact vx_Zq.moved hW0.alike (hN.kept hS.2.1)
  have h : ∀ w ∈ Bundle.ownAtoms0 own ic cls names, w.before args s' = true := vx_own hat' (vx_isRefq hU'.1) (vx_isRefq hN'.1) hU'.2.word hN'.2.word
  have hown' : s'.vm.findClass own = some m.cls := by rw [hvm]; exact hown
  have hins : (Cond.instantiable cls 6).before args s' = true := h _ (by simp [Bundle.ownAtoms0])
  obtain ⟨vm₁, cX, kX, hfX, hkX, -, -, X₁, st1⟩ := Y.newCold hexec (own := own) (C := cls) (index := ik) (n := 6) hown' hk' hins hini'
    (g := F0 m pc ls rest) rfl (by rw [hb]; exact d0) (Nat.le_refl _) (Nat.le_refl _)
  generalize hT1 : (T.setVm vm₁).pushCell { cls := cX, slots := kX.instanceTypes.map defaultValue, vm := .none } = T1 at X₁ st1
  have hcat : (Value.ref T.heap.size).category = 1 := rfl
  have hcellA : T1.heap[T.heap.size]? = some (freshCell cX kX) := by rw [← hT1]; exact State.heap_pushCell_size _ _
  have d3' : decode c.code (pc + 3) = .ok (.dup, 1) := by rw [hb]; exact d3
  obtain ⟨U, hsteps, hrun, hend, hW, hsame, ce, hce, hO⟩ := X₁.ctorThrow0 hexec htr (own := own) (cls := cls) (names := names) (ic := ic) hown' hcls hnames h (fun x hx => nomatch hx) hfX hkX hcellA (by rw [hhp, hT]; exact Nat.le_refl _)
    (g := { method := m, pc := pc + 4, locals := ls, stack := .ref T.heap.size :: .ref T.heap.size :: rest, locked := none }) rfl hsize rfl rfl (rest := rest) rfl
    (by rw [hb]; exact d4) (by rw [hb]; exact d7) hout hRframes (by simp only [List.map_cons, List.sum_cons, hcat]; omega) hlocks
  obtain ⟨f1, f2⟩ := vx_frame hsame
  rw [hhp] at f1 f2
  have hWs : s.WarmedH U.vm := State.WarmedH.trans hW0 hW
  have hcl : s.vm.findClass cls = some ce.cls := by
    have h9 := hO.cls
    rw [hvm] at h9
    exact h9
  have hall : s.sameButNew ({ U with vm := s.vm } : State) locs mc ms := by
    subst hA
    obtain ⟨e1, e2⟩ := hsame
    rw [State.setFrames_setFrames] at e1
    have h2 : (T.setVm s.vm).sameButNew ({ U with vm := s.vm } : State) [] (0 + 1) (0 + 6) := ⟨e1, e2⟩
    have h3 := X.same.trans h2
    rw [List.append_nil] at h3
    exact h3.mono hc hs
  refine ⟨U, ?_, .threw T.heap.size, hrun, hend, Or.inr ⟨T.heap.size, rfl, cls, ce, locs, hx U hWs.alike f1 (fun q hq => f2 q hq (fun z hz => nomatch hz)), hce, hO.vm, hcl, hWs, hall, hf⟩⟩
  refine st1 _ ?_
  show Steps p.tables e below (T1.setTop { method := m, pc := pc + 3, locals := ls, stack := .ref T.heap.size :: rest, locked := none }) _
  jvm_step X₁.here [X₁.here.top, hexec, d3', Value.category]
  exact hsteps
/-- 'throw new E("text")': new; dup; ldc; invokespecial; athrow -/
theorem vx_throwS {cc : ByteArray} {pc : Nat} (hexec : p.tables.exec = Jvm.exec) (hb : c.code = cc) (hl : l.stackTraces = false) {own cls text : String} {names : List String} {ik is ic mc ms sa : Nat} {A : Nat → Prop}
    (hown : s.vm.findClass own = some m.cls) (hcls : Bundle.fit cls = true) (hnames : ∀ n ∈ names, Bundle.fit n = true)
    (hk : (Cond.classLink own ik cls).before args s = true) (hini : (Cond.initialized cls).before args s = true) (hstr : vk_R own is text sa s) (hat : ∀ w ∈ vx_atS own ic cls names, w.before args s = true)
    (hgood : ∀ w ∈ Cond.classLink own ik cls :: Cond.initialized cls :: vx_atS own ic cls names, vx_ot w = true)
    (hU : vx_Zq Bundle.tN "UNASSIGNED_STACK" Bundle.steD A s s.heap) (hN : vx_Zq Bundle.tN "SUPPRESSED_SENTINEL" Bundle.listD A s s.heap) (hS : va_S A s.heap H locs) (hsize : ls.size = c.maxLocals)
    (d0 : decode cc pc = .ok (.new ik, 3)) (d3 : decode cc (pc + 3) = .ok (.dup, 1)) (d4 : decode cc (pc + 4) = .ok (.ldc is, 2)) (d6 : decode cc (pc + 6) = .ok (.invokespecial ic, 3)) (d9 : decode cc (pc + 9) = .ok (.athrow, 1))
    (hout : ∀ x ∈ c.exceptionTable.toList, covers x (pc + 9) = false)
    (hRframes : names.length + 3 < R.frames) (hRlocals : (rest.map fun v => v.category).sum + (13 * (names.length + 1) + 43) ≤ R.locals) (hRcells : cells + 1 ≤ R.cells) (hRslots : slots + 6 ≤ R.slots) (hlocks : meth.locks = false)
    (hx : ∀ t : State, s.vm.Alike t.vm → H.size ≤ t.heap.size → (∀ q : Nat, q < H.size → t.heap[q]? = H[q]?) → XC cls s t)
    (hf : ∀ z ∈ locs, free z.base) (hc : cells + 1 ≤ mc) (hs : slots + 6 ≤ ms) :
    W p l e R s m args below meth c H locs cells slots (vx_MQ below Qc XC args s mc ms free) (F0 m pc ls rest) := by
  intro T hT X
  have htr : e.platform.stackTraces = false := (show e.platform.stackTraces = l.stackTraces by rw [X.admits.platform]).trans hl
  have Y := vx_rebase X (R' := { frames := R.frames, locals := R.locals, cells := 1, slots := 6 }) (Nat.le_refl _) (Nat.le_refl _) hRcells hRslots
  obtain ⟨s', hA⟩ : ∃ z, z = (T.setVm s.vm).setFrames (.invoking m args :: below) := ⟨_, rfl⟩
  rw [← hA] at Y
  have hvm : s'.vm = s.vm := by rw [hA]; rfl
  have hhp : s'.heap = H := by rw [hA]; exact hT
  have hW0 : s.WarmedH s'.vm := by rw [hvm]; exact State.WarmedH.refl s
  have hat' : ∀ w ∈ vx_atS own ic cls names, w.before args s' = true := fun w hw => vx_ot_at hW0 hvm.symm (hgood w (List.mem_cons_of_mem _ (List.mem_cons_of_mem _ hw))) (hat w hw)
  have hk' : (Cond.classLink own ik cls).before args s' = true := vx_ot_at hW0 hvm.symm (hgood _ List.mem_cons_self) hk
  have hini' : (Cond.initialized cls).before args s' = true := vx_ot_at hW0 hvm.symm (hgood _ (List.mem_cons_of_mem _ List.mem_cons_self)) hini
  have hU' : vx_Zq Bundle.tN "UNASSIGNED_STACK" Bundle.steD A s' s'.heap := by rw [hhp]; exact vx_Zq.moved hW0.alike (hU.kept hS.2.1)
  have hN' : vx_Zq Bundle.tN "SUPPRESSED_SENTINEL" Bundle.listD A s' s'.heap := by rw [hhp]; exact vx_Zq.moved hW0.alike (hN.kept hS.2.1)
  have h : ∀ w ∈ Bundle.ownAtoms own ic cls names, w.before args s' = true := vx_own hat' (vx_isRefq hU'.1) (vx_isRefq hN'.1) hU'.2.word hN'.2.word
  have hown' : s'.vm.findClass own = some m.cls := by rw [hvm]; exact hown
  have hins : (Cond.instantiable cls 6).before args s' = true := h _ (by simp [Bundle.ownAtoms])
  obtain ⟨vm₁, cX, kX, hfX, hkX, -, -, X₁, st1⟩ := Y.newCold hexec (own := own) (C := cls) (index := ik) (n := 6) hown' hk' hins hini'
    (g := F0 m pc ls rest) rfl (by rw [hb]; exact d0) (Nat.le_refl _) (Nat.le_refl _)
  generalize hT1 : (T.setVm vm₁).pushCell { cls := cX, slots := kX.instanceTypes.map defaultValue, vm := .none } = T1 at X₁ st1
  have hcat : (Value.ref T.heap.size).category = 1 := rfl
  have hcellA : T1.heap[T.heap.size]? = some (freshCell cX kX) := by rw [← hT1]; exact State.heap_pushCell_size _ _
  have d3' : decode c.code (pc + 3) = .ok (.dup, 1) := by rw [hb]; exact d3
  have d4' : decode c.code (pc + 4) = .ok (.ldc is, 2) := by rw [hb]; exact d4
  have hstr' : vk_R own is text sa s' := vk_R.warm hW0 hstr
  obtain ⟨U, hsteps, hrun, hend, hW, hsame, ce, hce, hO⟩ := X₁.ctorThrowS hexec htr (own := own) (cls := cls) (names := names) (ic := ic) hown' hcls hnames h (fun x hx => nomatch hx) hfX hkX hcellA (by rw [hhp, hT]; exact Nat.le_refl _) (msg := .ref sa) rfl
    (g := { method := m, pc := pc + 6, locals := ls, stack := .ref sa :: .ref T.heap.size :: .ref T.heap.size :: rest, locked := none }) rfl hsize rfl rfl (rest := rest) rfl
    (by rw [hb]; exact d6) (by rw [hb]; exact d9) hout hRframes (by simp only [List.map_cons, List.sum_cons, hcat]; omega) hlocks
  obtain ⟨f1, f2⟩ := vx_frame hsame
  rw [hhp] at f1 f2
  have hWs : s.WarmedH U.vm := State.WarmedH.trans hW0 hW
  have hcl : s.vm.findClass cls = some ce.cls := by
    have h9 := hO.cls
    rw [hvm] at h9
    exact h9
  have hall : s.sameButNew ({ U with vm := s.vm } : State) locs mc ms := by
    subst hA
    obtain ⟨e1, e2⟩ := hsame
    rw [State.setFrames_setFrames] at e1
    have h2 : (T.setVm s.vm).sameButNew ({ U with vm := s.vm } : State) [] (0 + 1) (0 + 6) := ⟨e1, e2⟩
    have h3 := X.same.trans h2
    rw [List.append_nil] at h3
    exact h3.mono hc hs
  refine ⟨U, ?_, .threw T.heap.size, hrun, hend, Or.inr ⟨T.heap.size, rfl, cls, ce, locs, hx U hWs.alike f1 (fun q hq => f2 q hq (fun z hz => nomatch hz)), hce, hO.vm, hcl, hWs, hall, hf⟩⟩
  refine st1 _ ?_
  show Steps p.tables e below (T1.setTop { method := m, pc := pc + 3, locals := ls, stack := .ref T.heap.size :: rest, locked := none }) _
  jvm_step X₁.here [X₁.here.top, hexec, d3', Value.category]
  exact X₁.ldcString hexec (own := own) (text := text) (index := is) (a := sa) hown' hstr'.1 hstr'.2
    (g := { method := m, pc := pc + 4, locals := ls, stack := .ref T.heap.size :: .ref T.heap.size :: rest, locked := none }) rfl d4' _ hsteps
/-- 'throw new E("text")', the text by a wide index -/
theorem vx_throwSW {cc : ByteArray} {pc : Nat} (hexec : p.tables.exec = Jvm.exec) (hb : c.code = cc) (hl : l.stackTraces = false) {own cls text : String} {names : List String} {ik is ic mc ms sa : Nat} {A : Nat → Prop}
    (hown : s.vm.findClass own = some m.cls) (hcls : Bundle.fit cls = true) (hnames : ∀ n ∈ names, Bundle.fit n = true)
    (hk : (Cond.classLink own ik cls).before args s = true) (hini : (Cond.initialized cls).before args s = true) (hstr : vk_R own is text sa s) (hat : ∀ w ∈ vx_atS own ic cls names, w.before args s = true)
    (hgood : ∀ w ∈ Cond.classLink own ik cls :: Cond.initialized cls :: vx_atS own ic cls names, vx_ot w = true)
    (hU : vx_Zq Bundle.tN "UNASSIGNED_STACK" Bundle.steD A s s.heap) (hN : vx_Zq Bundle.tN "SUPPRESSED_SENTINEL" Bundle.listD A s s.heap) (hS : va_S A s.heap H locs) (hsize : ls.size = c.maxLocals)
    (d0 : decode cc pc = .ok (.new ik, 3)) (d3 : decode cc (pc + 3) = .ok (.dup, 1)) (d4 : decode cc (pc + 4) = .ok (.ldc_w is, 3)) (d7 : decode cc (pc + 7) = .ok (.invokespecial ic, 3)) (d10 : decode cc (pc + 10) = .ok (.athrow, 1))
    (hout : ∀ x ∈ c.exceptionTable.toList, covers x (pc + 10) = false)
    (hRframes : names.length + 3 < R.frames) (hRlocals : (rest.map fun v => v.category).sum + (13 * (names.length + 1) + 43) ≤ R.locals) (hRcells : cells + 1 ≤ R.cells) (hRslots : slots + 6 ≤ R.slots) (hlocks : meth.locks = false)
    (hx : ∀ t : State, s.vm.Alike t.vm → H.size ≤ t.heap.size → (∀ q : Nat, q < H.size → t.heap[q]? = H[q]?) → XC cls s t)
    (hf : ∀ z ∈ locs, free z.base) (hc : cells + 1 ≤ mc) (hs : slots + 6 ≤ ms) :
    W p l e R s m args below meth c H locs cells slots (vx_MQ below Qc XC args s mc ms free) (F0 m pc ls rest) := by
  intro T hT X
  have htr : e.platform.stackTraces = false := (show e.platform.stackTraces = l.stackTraces by rw [X.admits.platform]).trans hl
  have Y := vx_rebase X (R' := { frames := R.frames, locals := R.locals, cells := 1, slots := 6 }) (Nat.le_refl _) (Nat.le_refl _) hRcells hRslots
  obtain ⟨s', hA⟩ : ∃ z, z = (T.setVm s.vm).setFrames (.invoking m args :: below) := ⟨_, rfl⟩
  rw [← hA] at Y
  have hvm : s'.vm = s.vm := by rw [hA]; rfl
  have hhp : s'.heap = H := by rw [hA]; exact hT
  have hW0 : s.WarmedH s'.vm := by rw [hvm]; exact State.WarmedH.refl s
  have hat' : ∀ w ∈ vx_atS own ic cls names, w.before args s' = true := fun w hw => vx_ot_at hW0 hvm.symm (hgood w (List.mem_cons_of_mem _ (List.mem_cons_of_mem _ hw))) (hat w hw)
  have hk' : (Cond.classLink own ik cls).before args s' = true := vx_ot_at hW0 hvm.symm (hgood _ List.mem_cons_self) hk
  have hini' : (Cond.initialized cls).before args s' = true := vx_ot_at hW0 hvm.symm (hgood _ (List.mem_cons_of_mem _ List.mem_cons_self)) hini
  have hU' : vx_Zq Bundle.tN "UNASSIGNED_STACK" Bundle.steD A s' s'.heap := by rw [hhp]; exact vx_Zq.moved hW0.alike (hU.kept hS.2.1)
  have hN' : vx_Zq Bundle.tN "SUPPRESSED_SENTINEL" Bundle.listD A s' s'.heap := by rw [hhp]; exact vx_Zq.moved hW0.alike (hN.kept hS.2.1)
  have h : ∀ w ∈ Bundle.ownAtoms own ic cls names, w.before args s' = true := vx_own hat' (vx_isRefq hU'.1) (vx_isRefq hN'.1) hU'.2.word hN'.2.word
  have hown' : s'.vm.findClass own = some m.cls := by rw [hvm]; exact hown
  have hins : (Cond.instantiable cls 6).before args s' = true := h _ (by simp [Bundle.ownAtoms])
  obtain ⟨vm₁, cX, kX, hfX, hkX, -, -, X₁, st1⟩ := Y.newCold hexec (own := own) (C := cls) (index := ik) (n := 6) hown' hk' hins hini'
    (g := F0 m pc ls rest) rfl (by rw [hb]; exact d0) (Nat.le_refl _) (Nat.le_refl _)
  generalize hT1 : (T.setVm vm₁).pushCell { cls := cX, slots := kX.instanceTypes.map defaultValue, vm := .none } = T1 at X₁ st1
  have hcat : (Value.ref T.heap.size).category = 1 := rfl
  have hcellA : T1.heap[T.heap.size]? = some (freshCell cX kX) := by rw [← hT1]; exact State.heap_pushCell_size _ _
  have d3' : decode c.code (pc + 3) = .ok (.dup, 1) := by rw [hb]; exact d3
  have d4' : decode c.code (pc + 4) = .ok (.ldc_w is, 3) := by rw [hb]; exact d4
  have hstr' : vk_R own is text sa s' := vk_R.warm hW0 hstr
  obtain ⟨U, hsteps, hrun, hend, hW, hsame, ce, hce, hO⟩ := X₁.ctorThrowS hexec htr (own := own) (cls := cls) (names := names) (ic := ic) hown' hcls hnames h (fun x hx => nomatch hx) hfX hkX hcellA (by rw [hhp, hT]; exact Nat.le_refl _) (msg := .ref sa) rfl
    (g := { method := m, pc := pc + 7, locals := ls, stack := .ref sa :: .ref T.heap.size :: .ref T.heap.size :: rest, locked := none }) rfl hsize rfl rfl (rest := rest) rfl
    (by rw [hb]; exact d7) (by rw [hb]; exact d10) hout hRframes (by simp only [List.map_cons, List.sum_cons, hcat]; omega) hlocks
  obtain ⟨f1, f2⟩ := vx_frame hsame
  rw [hhp] at f1 f2
  have hWs : s.WarmedH U.vm := State.WarmedH.trans hW0 hW
  have hcl : s.vm.findClass cls = some ce.cls := by
    have h9 := hO.cls
    rw [hvm] at h9
    exact h9
  have hall : s.sameButNew ({ U with vm := s.vm } : State) locs mc ms := by
    subst hA
    obtain ⟨e1, e2⟩ := hsame
    rw [State.setFrames_setFrames] at e1
    have h2 : (T.setVm s.vm).sameButNew ({ U with vm := s.vm } : State) [] (0 + 1) (0 + 6) := ⟨e1, e2⟩
    have h3 := X.same.trans h2
    rw [List.append_nil] at h3
    exact h3.mono hc hs
  refine ⟨U, ?_, .threw T.heap.size, hrun, hend, Or.inr ⟨T.heap.size, rfl, cls, ce, locs, hx U hWs.alike f1 (fun q hq => f2 q hq (fun z hz => nomatch hz)), hce, hO.vm, hcl, hWs, hall, hf⟩⟩
  refine st1 _ ?_
  show Steps p.tables e below (T1.setTop { method := m, pc := pc + 3, locals := ls, stack := .ref T.heap.size :: rest, locked := none }) _
  jvm_step X₁.here [X₁.here.top, hexec, d3', Value.category]
  exact X₁.ldcStringW hexec (own := own) (text := text) (index := is) (a := sa) hown' hstr'.1 hstr'.2
    (g := { method := m, pc := pc + 4, locals := ls, stack := .ref T.heap.size :: .ref T.heap.size :: rest, locked := none }) rfl d4' _ hsteps
end Ends
section Bodies
variable {l : Launch}
theorem vx_ofW {y : MethodName} {ws ws' : List Cond} {rm : Room} {Pc : Array Value → State → Prop} {Qc : Array Value → State → Outcome → State → Prop} {XC : String → State → State → Prop} {mc ms : Nat} {free : Addr → Prop} {cc : ByteArray} {maxL : Nat} {ret : Option FieldType}
    (hy : plainName y.cls = true) (hw : ws = Cond.code y cc maxL ret :: ws')
    (body : ∀ p e s m args below meth c s₁, BodyLoose p l y (headSpec ws rm) cc maxL ret e s m args below meth c s₁ → c.maxLocals = maxL → (∀ x ∈ c.exceptionTable.toList, False) → Pc args s →
      W p l e (headSpec ws rm).room s m args below meth c s.heap [] 0 0 (vx_MQ below Qc XC args s mc ms free) (entryFrame m args maxL)) : vx_Met l y ws rm Pc Qc XC mc ms free := by
  refine MetFree.of_bodyS (code := cc) (maxLocals := maxL) (ret := ret) hy ?_ ?_
  · intro args s m h hn
    obtain ⟨meth, c, h1, h2, h3, h4, h5, h6, -, -⟩ := Cond.code_spec hn (atoms_spec (ws := ws) h _ (by rw [hw]; exact List.mem_cons_self))
    exact ⟨meth, c, h1, h2, h3, h4, h5, h6⟩
  · intro p e s m args below meth c s₁ B hml hP _
    have hh0 : s₁.heap = s.heap := by rw [B.state]; rfl
    have ht : ∀ x ∈ c.exceptionTable.toList, False := by
      obtain ⟨meth9, c9, h1, h2, -, -, -, -, h7, -⟩ := Cond.code_spec B.named (atoms_spec (ws := ws) B.pre _ (by rw [hw]; exact List.mem_cons_self))
      cases Option.some.inj (h1.symm.trans B.method)
      cases Option.some.inj (h2.symm.trans (Stand.of_body B).code)
      intro x hx
      rw [Array.isEmpty_iff.mp h7] at hx
      cases hx
    obtain ⟨t, a1, o, b1, b2, b3⟩ := body p e s m args below meth c s₁ B hml ht hP s₁ hh0 (Stand.of_body B)
    exact ⟨t, o, a1, b1, b2, b3⟩
/-- the table of a body with handlers -/
theorem vx_table {p : Program} {x y : MethodName} {S : Spec} {cc bytes : ByteArray} {maxL maxL' : Nat} {ret ret' : Option FieldType} {e : Env} {s s₁ : State} {m : MethodId} {args : Array Value} {below : List Frame} {meth : Method} {c : Code} {hh : List (Nat × Nat × Nat × Nat)}
    (B : BodyLoose p l y S cc maxL ret e s m args below meth c s₁) (h : (Cond.codeWith y bytes maxL' ret' hh).before args s = true) : c.exceptionTable.toList = tableOf hh := by
  obtain ⟨m9, meth9, c9, hn9, h1, h2, -, -, h6, -⟩ := Cond.codeWith_spec h
  cases Option.some.inj (hn9.symm.trans B.named)
  cases Option.some.inj (h1.symm.trans B.method)
  cases Option.some.inj (h2.symm.trans (Stand.of_body B).code)
  rw [← h6, table_eq]
end Bodies
end VXA
/-! ===== END ===== -/
/-! ===== BEGIN a static call of a method with an exception table ===== -/
section VXS
variable {p : Program} {l : Launch} {e : Env} {R : Room} {s : State} {m : MethodId} {args : Array Value} {below : List Frame} {meth : Method} {c : Code} {T : State} {H : Heap} {locs : List Loc} {cells slots : Nat}
abbrev vx_CSW (R : Room) (s : State) (args : Array Value) (own : String) (index : Nat) (y : MethodName) (bytes : ByteArray) (maxL : Nat) (ret : Option FieldType) (hh : List (Nat × Nat × Nat × Nat)) (ws : List Cond) (rm : Room) (mc ms n : Nat) : Prop :=
  (rm.cells = mc ∧ rm.slots = ms ∧ rm.frames + 1 ≤ R.frames ∧ 8 + (maxL + 11) + rm.locals ≤ R.locals ∧ (∀ w ∈ ws, ∀ (a' : Array Value) (U : State), s.WarmedH U.vm → w.before a' U = true) ∧ Cond.codeWith y bytes maxL ret hh ∈ ws) ∧
  (Cond.codeWith y bytes maxL ret hh).before args s = true ∧ (Cond.initialized y.cls).before args s = true ∧ (y.cls ≠ "java/lang/invoke/MethodHandle" ∧ y.cls ≠ "java/lang/invoke/VarHandle") ∧
  (∀ sig, parseMethodDescriptor y.desc = some sig → n = sig.parameters.length) ∧ (Cond.methodLink own index y).before args s = true ∧ (Cond.static y).before args s = true
theorem vx_cwSW {own : String} {index maxL mc ms : Nat} {y : MethodName} {bytes : ByteArray} {ret : Option FieldType} {hh : List (Nat × Nat × Nat × Nat)} {Ts ws ws' : List Cond} {rm : Room} (n : Nat) (ht : ∀ w ∈ Ts, w.before args s = true) (hT : GoodIn Ts (va_wsS own index y ws)) (hw : ws = Cond.codeWith y bytes maxL ret hh :: ws') (hrc : rm.cells = mc) (hrs : rm.slots = ms)
    (hd : y.cls ≠ "java/lang/invoke/MethodHandle" ∧ y.cls ≠ "java/lang/invoke/VarHandle" ∧ (parseMethodDescriptor y.desc).map (fun d => d.parameters.length) = some n) (hR : rm.frames + 1 ≤ R.frames ∧ 8 + (maxL + 11) + rm.locals ≤ R.locals) :
    vx_CSW R s args own index y bytes maxL ret hh ws rm mc ms n := by
  have ok : ∀ w ∈ va_wsS own index y ws, w.before args s = true := fun w h => ht w (hT w h).1
  have hG : GoodIn Ts ws := fun w h => hT w (by unfold va_wsS; exact List.mem_append_right _ h)
  have hc : Cond.codeWith y bytes maxL ret hh ∈ ws := by rw [hw]; exact List.mem_cons_self
  refine ⟨⟨hrc, hrs, hR.1, hR.2, pay_in ht hG, hc⟩, ht _ (hG _ hc).1, ok _ (by simp [va_wsS]), ⟨hd.1, hd.2.1⟩, fun sig h => ?_, ok _ (by simp [va_wsS]), ok _ (by simp [va_wsS])⟩
  have h2 := hd.2.2
  rw [h] at h2
  exact (Option.some.inj h2).symm
theorem vx_callSW (X : Stand p l e R s m args below meth c T locs cells slots) (hexec : p.tables.exec = Jvm.exec) {own : String} {index : Nat} {y : MethodName} {bytes : ByteArray} {maxL : Nat} {ret : Option FieldType} {hh : List (Nat × Nat × Nat × Nat)}
    (hown : s.vm.findClass own = some m.cls) (hlink : (Cond.methodLink own index y).before args s = true) (hstat : (Cond.static y).before args s = true) (hinit : (Cond.initialized y.cls).before args s = true)
    (hcode : (Cond.codeWith y bytes maxL ret hh).before args s = true) (hy : y.cls ≠ "java/lang/invoke/MethodHandle" ∧ y.cls ≠ "java/lang/invoke/VarHandle")
    {W9 : Nat} {Pre : Pt → Array Value → Prop} {Post : Pt → Array Value → Option Value → Pt → Prop} (hK : Back l R p e below s args y 3 W9 Pre Post)
    {g : JFrame} (hg : g.method = m) (hsize : g.locals.size = c.maxLocals) {argsL rest : List Value} (hlen : ∀ sig, parseMethodDescriptor y.desc = some sig → argsL.length = sig.parameters.length)
    (hstack : g.stack = argsL.reverse ++ rest) (hW : 2 * g.monitorRoom + (rest.map fun v => v.category).sum ≤ W9) (hdg : decode c.code g.pc = .ok (.invokestatic index, 3))
    (hpre : ∀ vm₁, s.WarmedH vm₁ → Pre ⟨T.setVm vm₁, locs, cells, slots⟩ argsL.toArray) :
    ∃ (v : Option Value) (vm₁ : Vm) (B : Pt), s.WarmedH vm₁ ∧ Stand p l e R s m args below meth c B.U B.locs B.cells B.slots ∧ Post ⟨T.setVm vm₁, locs, cells, slots⟩ argsL.toArray v B ∧
      ∀ target, Steps p.tables e below (B.U.setTop { g with pc := g.pc + 3, stack := v.toList ++ rest }) target → Steps p.tables e below (T.setTop g) target := by
  obtain ⟨mk, methM, cM, hnamed, hmethM, -, -, -, -, -, -, hsigM⟩ := Cond.codeWith_spec hcode
  have hstatic : methM.isStatic = true := Cond.static_spec hnamed hmethM hstat
  obtain ⟨kP, hkP, -⟩ := className_of_methodNamed hnamed
  have hinitP : kP.init = .initialized := Cond.initialized_spec (findClass_of_methodNamed hnamed) hkP hinit
  obtain ⟨vm₁, X₁, hstep₁⟩ := X.invokestatic hexec hown hlink hnamed hmethM hstatic hkP hinitP hy (g := g) hg (argsL := argsL) (rest := rest) (hlen _ hsigM) hstack hdg
  obtain ⟨v, B, X', hpost, hsteps⟩ := hK m meth c ⟨T.setVm vm₁, locs, cells, slots⟩ { g with stack := rest } (.invokestatic index) mk argsL.toArray X₁ hg hsize hdg hW (X₁.named hnamed) (hpre vm₁ X₁.warmed)
  exact ⟨v, vm₁, B, X₁.warmed, X', hpost, fun target h => hstep₁ _ fun acts => by rw [doInvoke_state]; exact hsteps.trans h⟩
theorem vx_runSW {y : MethodName} {bytes cc : ByteArray} {maxL nL mc ms n index : Nat} {ret : Option FieldType} {hh : List (Nat × Nat × Nat × Nat)} {ws : List Cond} {rm : Room} {Pc : Array Value → State → Prop} {Qc : Array Value → State → Outcome → State → Prop} {free : Addr → Prop} {Ts : List Cond} {own : String} {As rest : List Value} {g : JFrame}
    (S : CallFix p m c cc nL s args Ts own) (hM : Met l y ws rm Pc Qc mc ms free) (cw : vx_CSW R s args own index y bytes maxL ret hh ws rm mc ms n) (hp : PreS s H Pc As)
    (hg : g.method = m) (hn : As.length = n) (hsize : g.locals.size = nL) (hstack : g.stack = As.reverse ++ rest) (hW : 2 * g.monitorRoom + (rest.map fun v => v.category).sum ≤ 8) (hdg : decode cc g.pc = .ok (.invokestatic index, 3)) (hf : cells + mc ≤ R.cells ∧ slots + ms ≤ R.slots) :
    va_Run p l e R s m args below meth c H locs cells slots mc ms g rest (Qc As.toArray) (free) := by
  obtain ⟨⟨hrc, hrs, hfr, hlo, hws, hcw⟩, hcode, hini, hy, hlen, hl, hstt⟩ := cw
  have hK : Back l R p e below s args y 3 8 (PreOf R mc ms Pc) (PostOf Qc mc ms free) := va_backW (hh := hh) (bytes := bytes) (maxL := maxL) (ret := ret) hM hp.1 hrc hrs hfr hlo hws hcw (fun a' U hW => word_at hW (Or.inl (by first | rfl | simp [Cond.onTables, Cond.keeps, Cond.steady])) hini)
  obtain ⟨hx, hb, hml, ho, -⟩ := S
  intro T hT X
  obtain ⟨v, vm₁, ⟨U', l2, c2, s2⟩, hW₁, X', ⟨g', mk, t, L, e1, e2, hq, h1, hL, h2, h3⟩, st⟩ := vx_callSW X hx (hh := hh) (bytes := bytes) (maxL := maxL) (ret := ret) ho hl hstt hini hcode hy hK hg (hsize.trans hml.symm) (argsL := As) (rest := rest) (fun sig h => hn.trans (hlen sig h)) hstack hW (by rw [hb]; exact hdg)
    (fun vm₁ hW₁ => ⟨hf.1, hf.2, hp.2 (T.setVm vm₁) hT hW₁⟩)
  dsimp only [Pt.U, Pt.locs, Pt.cells, Pt.slots] at X' e1 e2 h1 h2 h3 st
  subst h1; subst h2; subst h3
  exact ⟨v, (T.setVm vm₁).calling g' mk As.toArray, t, U', L, hT, X', hL, e1, e2, hq, st⟩
/-- not caught here, past rows that name other classes: it goes on to the caller -/
theorem vx_outP {p : Program} {l : Launch} {e : Env} {R : Room} {s : State} {m : MethodId} {args : Array Value} {below : List Frame} {meth : Method} {c : Code} {H : Heap} {locs : List Loc} {cells slots : Nat} {free : Addr → Prop} {ls : Array Slot} {rest : List Value} {Qc : Array Value → State → Outcome → State → Prop} {XC : String → State → State → Prop}
    {pc : Nat} {own E : String} {ce : Cell} {q : Addr} {mc ms : Nat} (hown : s.vm.findClass own = some m.cls) (hlocks : meth.locks = false)
    (hpass : ∀ z ∈ c.exceptionTable.toList, covers z pc = false ∨ (z.catchType ≠ 0 ∧ ∃ nm : String, (Cond.classLink own z.catchType nm).before args s = true ∧ va_Nc E nm s)) (hcell : H[q]? = some ce) (hv : ce.vm = .none) (hcl : s.vm.findClass E = some ce.cls)
    (hx : ∀ t : State, t.heap = H → s.vm.Alike t.vm → XC E s t) (hf : ∀ z ∈ locs, free z.base) (hc : cells ≤ mc) (hs : slots ≤ ms) :
    vx_W p l e R s m args below meth c H locs cells slots (vx_MQ below Qc XC args s mc ms free) (F0 m pc ls rest) q := by
  intro T hT X
  have hpl : e.platform.magicAccessors = ({} : Platform).magicAccessors := by rw [X.admits.platform]
  obtain ⟨vm', hW', X', st⟩ := X.outThrough hlocks q (g := F0 m pc ls rest) rfl rfl rfl (cell := ce) (by rw [hT]; exact hcell) (by rw [hv]; rfl)
    (by obtain ⟨k9, h9, -⟩ := Vm.findClass_spec hcl; exact ⟨k9, h9⟩) (fun z hz => by
      rcases hpass z hz with h | ⟨hz0, nm, hl1, hn1⟩
      · exact Or.inl h
      · obtain ⟨c6, hc6, hcl6⟩ := Cond.classLink_spec hown hl1 e.platform hpl
        obtain ⟨a8, b8, h1, h2, h3⟩ := hn1
        cases Option.some.inj (h1.symm.trans hcl)
        cases Option.some.inj (h2.symm.trans hc6)
        exact Or.inr ⟨hz0, _, hcl6, h3⟩)
  obtain ⟨g₀, hfr⟩ := X'.frames_eq
  have hcell9 : ((T.setVm vm').setFrames (.throwing q :: below)).heap[q]? = some ce := by
    show T.heap[q]? = some ce
    rw [hT]; exact hcell
  have hend : Ended ((T.setVm vm').setFrames (.throwing q :: below)) below (.threw q) := State.frames_setFrames _ (State.cur_lt_of_frames hfr)
  refine ⟨(T.setVm vm').setFrames (.throwing q :: below), ?_, .threw q, X'.here.running, hend, Or.inr ⟨q, rfl, E, ce, locs, hx _ hT (X'.ends _).1.alike, hcell9, hv, hcl, (X'.ends _).1, (X'.ends _).2.mono hc hs, hf⟩⟩
  rw [X.pushThrowing_eq]
  exact st
/-- a thing of a world lies in the heap -/
theorem vx_lt {D : va_G} {cl : List vw_C} {ws : va_W} {H1 : Heap} (h : va_P D cl ws H1) {k : Nat} {q : Nat × va_E} (hk : ws[k]? = some q) : q.1 < H1.size := (h k q hk).lt
end VXS
/-! ===== END ===== -/
/-! ===== BEGIN methods with a table of their own: called by a name, returning or throwing ===== -/
section VXH
/-! vx_backW, vx_callVX, vx_callSX, vx_callVW, vx_runVW, vx_runVX, vx_runSX, vx_ofWH follow the same proofs as their sisters above (Free/Laws.lean, Shelf42/LK1.lean); vx_outP calls Shelf42/NT130.lean (outThrough). -/
section
variable {l : Launch} {R : Room} {p : Program} {e : Env} {below : List Frame} {s : State} {sargs : Array Value} {y : MethodName} {len W9 : Nat}
theorem vx_backW {ws : List Cond} {rm : Room} {Pc : Array Value → State → Prop} {Qc : Array Value → State → Outcome → State → Prop} {XC : String → State → State → Prop} {mc ms : Nat} {free : Addr → Prop} {bytes : ByteArray} {maxL : Nat} {ret : Option FieldType} {hh : List (Nat × Nat × Nat × Nat)}
    (hM : vx_Met l y ws rm Pc Qc XC mc ms free) (hblind : FrameBlind Pc) (hrc : rm.cells = mc) (hrs : rm.slots = ms)
    (hframes : rm.frames + 1 ≤ R.frames) (hlocals : W9 + (maxL + 11) + rm.locals ≤ R.locals)
    (hws : ∀ w ∈ ws, ∀ a' U, s.WarmedH U.vm → w.before a' U = true) (hcode : Cond.codeWith y bytes maxL ret hh ∈ ws) (hinit : ∀ a' U, s.WarmedH U.vm → (Cond.initialized y.cls).before a' U = true) :
    vx_Back l R p e below s sargs y len W9 (PreOf R mc ms Pc) (PostOf Qc mc ms free) (vx_Post XC mc ms free) := by
  intro m meth c A g ig mk a X hg hsize hdg hW hn hp
  have h1 : (headSpec ws rm).pre.before a A.U = true := atoms_intro fun w hw => hws w hw _ _ X.warmed
  have h2 : (Cond.codeWith y bytes maxL ret hh).before a A.U = true := hws _ hcode _ _ X.warmed
  have h3 : (Cond.initialized y.cls).before a A.U = true := hinit _ _ X.warmed
  have h4 : A.cells + (headSpec ws rm).room.cells ≤ R.cells := by rw [show (headSpec ws rm).room.cells = mc from hrc]; exact hp.1
  have h5 : A.slots + (headSpec ws rm).room.slots ≤ R.slots := by rw [show (headSpec ws rm).room.slots = ms from hrs]; exact hp.2.1
  have hPc : Pc a (A.U.calling g mk a) := hblind _ _ _ _ hp.2.2
  obtain ⟨U, Ls, c0, s0⟩ := A
  dsimp only [Pt.U, Pt.locs, Pt.cells, Pt.slots] at h1 h2 h3 h4 h5 X hn hPc ⊢
  obtain ⟨m9, methY, cY, hn9, hmY, hcY, -, hlY, -⟩ := Cond.codeWith_spec h2
  cases Option.some.inj (hn9.symm.trans hn)
  obtain ⟨kY, hkY, -⟩ := className_of_methodNamed hn
  have hinitY : kY.init = .initialized := Cond.initialized_spec (findClass_of_methodNamed hn) hkY h3
  have h : At U g.method c below := by rw [hg]; exact X.here
  have hlocals9 : W9 + (maxL + 11) + (headSpec ws rm).room.locals ≤ R.locals := hlocals
  have happ : (headSpec ws rm).appliesLoose y e.platform (U.calling g mk a) = true :=
    Spec.appliesLoose_calling (g := g) h hdg hn hkY hinitY
      (X.room_calling (g := g) (R' := (headSpec ws rm).room) hsize hmY hcY hframes (by rw [hlY]; omega) h4 h5) h1
  obtain ⟨mid, hmid⟩ := h.above
  have hfr : (U.setTop g).frames = (.java g :: mid) ++ below := by rw [State.frames_setTop' g h.top, hmid]; rfl
  obtain ⟨o, s₂, hsteps, -, hend, hq⟩ := Steps.callFree hM p X.admits X.cas X.clock (acts := []) hfr happ hPc trivial
  have hq' : vx_Q Qc XC mc ms free a (U.calling g mk a) o s₂ := hq
  rw [State.frames_setTop' g h.top] at hend
  obtain ⟨g₀, hg0⟩ := Option.isSome_iff_exists.mp h.top
  obtain ⟨r, hr⟩ := State.topJava?_eq_some.mp hg0
  have hr' : (({ U with heap := s₂.heap, slotsUsed := s₂.slotsUsed } : State).setVm s₂.vm).frames = .java g₀ :: r := hr
  rcases hq' with ⟨hqc, L, hfe, hL⟩ | ⟨q, rfl, E, ce, L, hx, hce, hcv, hcl, hW₂, hsm, hL⟩
  · obtain ⟨⟨v, rfl⟩, hW₂, e2, q2, q3, q4, q5, q6⟩ := id hfe
    have e3 : s₂ = ({ (U.calling g mk a).setFrames s₂.frames with heap := s₂.heap, slotsUsed := s₂.slotsUsed } : State).setVm s₂.vm := by
      have : s₂ = ({ s₂ with vm := (U.calling g mk a).vm } : State).setVm s₂.vm := rfl
      rw [e2] at this
      exact this
    obtain ⟨c₂, i₂, len₂, hc₂, hd₂, hf₂⟩ := hend
    have hW' : U.WarmedH s₂.vm := hW₂
    have hcc : c₂ = c := by
      have h1 : s₂.code? g.method = U.code? g.method := by
        rw [State.code?_eq, State.code?_eq, hW'.alike.method?]
      exact Option.some.inj (hc₂.symm.trans (h1.trans h.code))
    subst hcc
    have hlen : len₂ = len := by rw [hdg] at hd₂; cases hd₂; rfl
    subst hlen
    have hs₂ : s₂ = (({ U with heap := s₂.heap, slotsUsed := s₂.slotsUsed } : State).setVm s₂.vm).setTop { g with pc := g.pc + len₂, stack := v.toList ++ g.stack } := by
      refine e3.trans ?_
      rw [hf₂, State.calling_eq h.top, State.setFrames_setFrames, State.setTop_of_frames _ hr', hr]
      rfl
    have hsame : U.sameButNew ({ U with heap := s₂.heap, slotsUsed := s₂.slotsUsed } : State) L mc ms := by
      refine ⟨?_, q2, q3, q4, q5, q6⟩
      obtain ⟨t, ht, -⟩ := State.frames_cons hr
      show ({ U with heap := s₂.heap, slotsUsed := s₂.slotsUsed } : State) = { U.setFrames U.frames with heap := s₂.heap, slotsUsed := s₂.slotsUsed }
      rw [State.setFrames_self ht]
    subst hg
    refine Or.inl ⟨v, ⟨(({ U with heap := s₂.heap, slotsUsed := s₂.slotsUsed } : State).setVm s₂.vm), Ls ++ L, c0 + mc, s0 + ms⟩,
      ⟨X.admits, X.cas, X.clock, X.frames, X.room, X.hears, X.method, X.code, (X.here.setHeapUsed s₂.heap s₂.slotsUsed).setVm hW'.alike, X.tail, State.WarmedH.trans X.warmed hW', X.limits, X.bytes, X.same.trans (hsame.setVm s.vm)⟩,
      ⟨g, mk, s₂, L, rfl, rfl, hqc, rfl, hL, rfl, rfl⟩, ?_⟩
    show Steps p.tables e below _ ((({ U with heap := s₂.heap, slotsUsed := s₂.slotsUsed } : State).setVm s₂.vm).setTop { g with pc := g.pc + len₂, stack := v.toList ++ g.stack })
    rw [← hs₂]
    exact hsteps
  · obtain ⟨e2, q2, q3, q4, q5, q6⟩ := id hsm
    have e3 : s₂ = ({ (U.calling g mk a).setFrames s₂.frames with heap := s₂.heap, slotsUsed := s₂.slotsUsed } : State).setVm s₂.vm := by
      have : s₂ = ({ s₂ with vm := (U.calling g mk a).vm } : State).setVm s₂.vm := rfl
      rw [e2] at this
      exact this
    have hf₂ : s₂.frames = .throwing q :: .java g :: U.frames.tail := hend
    have hW' : U.WarmedH s₂.vm := hW₂
    have hs₂ : s₂ = ((({ U with heap := s₂.heap, slotsUsed := s₂.slotsUsed } : State).setVm s₂.vm).setTop g).pushFrame (.throwing q) := by
      refine e3.trans ?_
      rw [hf₂, State.calling_eq h.top, State.setFrames_setFrames, State.pushFrame, State.frames_setTop _ hr', State.setTop_of_frames _ hr', State.setFrames_setFrames, hr]
      rfl
    have hsame : U.sameButNew ({ U with heap := s₂.heap, slotsUsed := s₂.slotsUsed } : State) L mc ms := by
      refine ⟨?_, q2, q3, q4, q5, q6⟩
      obtain ⟨t, ht, -⟩ := State.frames_cons hr
      show ({ U with heap := s₂.heap, slotsUsed := s₂.slotsUsed } : State) = { U.setFrames U.frames with heap := s₂.heap, slotsUsed := s₂.slotsUsed }
      rw [State.setFrames_self ht]
    subst hg
    refine Or.inr ⟨q, ⟨(({ U with heap := s₂.heap, slotsUsed := s₂.slotsUsed } : State).setVm s₂.vm), Ls ++ L, c0 + mc, s0 + ms⟩,
      ⟨X.admits, X.cas, X.clock, X.frames, X.room, X.hears, X.method, X.code, (X.here.setHeapUsed s₂.heap s₂.slotsUsed).setVm hW'.alike, X.tail, State.WarmedH.trans X.warmed hW', X.limits, X.bytes, X.same.trans (hsame.setVm s.vm)⟩,
      ⟨g, mk, s₂, L, E, ce, rfl, rfl, hx, hce, hcv, hcl, rfl, hL, rfl, rfl⟩, ?_⟩
    show Steps p.tables e below _ (((({ U with heap := s₂.heap, slotsUsed := s₂.slotsUsed } : State).setVm s₂.vm).setTop g).pushFrame (.throwing q))
    rw [← hs₂]
    exact hsteps
end
variable {p : Program} {l : Launch} {e : Env} {R : Room} {s : State} {m : MethodId} {args : Array Value} {below : List Frame} {meth : Method} {c : Code} {T : State} {H : Heap} {locs : List Loc} {cells slots : Nat}
theorem vx_callVX (X : Stand p l e R s m args below meth c T locs cells slots) (hexec : p.tables.exec = Jvm.exec) {own C : String} {index : Nat} {y : MethodName} {bytes : ByteArray} {maxL : Nat} {ret : Option FieldType} {hh : List (Nat × Nat × Nat × Nat)}
    (hown : s.vm.findClass own = some m.cls) (hlink : (Cond.methodLink own index y).before args s = true) (hinst : (Cond.instanceMethod y).before args s = true) (hsel : (Cond.selects C y y).before args s = true)
    (hcode : (Cond.codeWith y bytes maxL ret hh).before args s = true) (hy : y.cls ≠ "java/lang/invoke/MethodHandle" ∧ y.cls ≠ "java/lang/invoke/VarHandle")
    {W9 : Nat} {Pre : Pt → Array Value → Prop} {Post : Pt → Array Value → Option Value → Pt → Prop} {PostX : Pt → Array Value → Addr → Pt → Prop} (hK : vx_Back l R p e below s args y 3 W9 Pre Post PostX)
    {b : Addr} {cellB : Cell} (hcell : T.heap[b]? = some cellB) (hobj : cellB.vm.isStatics = false) (hcls : s.vm.findClass C = some cellB.cls)
    {g : JFrame} (hg : g.method = m) (hsize : g.locals.size = c.maxLocals) {argsL rest : List Value} (hlen : ∀ sig, parseMethodDescriptor y.desc = some sig → argsL.length = sig.parameters.length)
    (hstack : g.stack = argsL.reverse ++ .ref b :: rest) (hW : 2 * g.monitorRoom + (rest.map fun v => v.category).sum ≤ W9) (hdg : decode c.code g.pc = .ok (.invokevirtual index, 3))
    (hpre : ∀ vm₁, s.WarmedH vm₁ → Pre ⟨T.setVm vm₁, locs, cells, slots⟩ (Value.ref b :: argsL).toArray) :
    (∃ (v : Option Value) (vm₁ : Vm) (B : Pt), s.WarmedH vm₁ ∧ Stand p l e R s m args below meth c B.U B.locs B.cells B.slots ∧ Post ⟨T.setVm vm₁, locs, cells, slots⟩ (Value.ref b :: argsL).toArray v B ∧
      ∀ target, Steps p.tables e below (B.U.setTop { g with pc := g.pc + 3, stack := v.toList ++ rest }) target → Steps p.tables e below (T.setTop g) target) ∨
    (∃ (q : Addr) (vm₁ : Vm) (B : Pt), s.WarmedH vm₁ ∧ Stand p l e R s m args below meth c B.U B.locs B.cells B.slots ∧ PostX ⟨T.setVm vm₁, locs, cells, slots⟩ (Value.ref b :: argsL).toArray q B ∧
      Steps p.tables e below (T.setTop g) ((B.U.setTop { g with stack := rest }).pushFrame (.throwing q))) := by
  obtain ⟨mk, methM, hnamed, hmethM, hstM, habM⟩ := Cond.instanceMethod_spec hinst
  obtain ⟨m8, methM', cM, hn8, hmethM', -, -, -, -, -, -, hsigM⟩ := Cond.codeWith_spec hcode
  cases Option.some.inj (hn8.symm.trans hnamed)
  cases hmethM.symm.trans hmethM'
  obtain ⟨c2, r2, m2, q1, q2, q3, q4, kP, hkP, hkPi⟩ := Cond.selects_spec hsel
  cases hcls.symm.trans q1
  cases (State.methodFound?_of_named hnamed hy).symm.trans q2
  cases hnamed.symm.trans q3
  have hselP : selectMethod e.platform s.vm cellB.cls mk = .method mk := by rw [Launch.admits_selectMethod X.admits]; exact q4
  obtain ⟨vm₁, X₁, hstep₁⟩ := X.invokevirtual hexec hown hlink hnamed hmethM hstM hkP hkPi hy (a := b) (cell := cellB) hcell
    (fun z h => by rw [h] at hobj; cases hobj) hselP hmethM habM hkP hkPi (g := g) hg (argsL := argsL) (rest := rest) (hlen _ hsigM) hstack hdg
  rcases hK m meth c ⟨T.setVm vm₁, locs, cells, slots⟩ { g with stack := rest } (.invokevirtual index) mk (Value.ref b :: argsL).toArray X₁ hg hsize hdg hW (X₁.named hnamed) (hpre vm₁ X₁.warmed) with ⟨v, B, X', hpost, hsteps⟩ | ⟨q, B, X', hpost, hsteps⟩
  · exact Or.inl ⟨v, vm₁, B, X₁.warmed, X', hpost, fun target h => hstep₁ _ fun acts => by rw [doInvoke_state]; exact hsteps.trans h⟩
  · exact Or.inr ⟨q, vm₁, B, X₁.warmed, X', hpost, hstep₁ _ fun acts => by rw [doInvoke_state]; exact hsteps⟩
theorem vx_callSX (X : Stand p l e R s m args below meth c T locs cells slots) (hexec : p.tables.exec = Jvm.exec) {own : String} {index : Nat} {y : MethodName} {bytes : ByteArray} {maxL : Nat} {ret : Option FieldType} {hh : List (Nat × Nat × Nat × Nat)}
    (hown : s.vm.findClass own = some m.cls) (hlink : (Cond.methodLink own index y).before args s = true) (hstat : (Cond.static y).before args s = true) (hinit : (Cond.initialized y.cls).before args s = true)
    (hcode : (Cond.codeWith y bytes maxL ret hh).before args s = true) (hy : y.cls ≠ "java/lang/invoke/MethodHandle" ∧ y.cls ≠ "java/lang/invoke/VarHandle")
    {W9 : Nat} {Pre : Pt → Array Value → Prop} {Post : Pt → Array Value → Option Value → Pt → Prop} {PostX : Pt → Array Value → Addr → Pt → Prop} (hK : vx_Back l R p e below s args y 3 W9 Pre Post PostX)
    {g : JFrame} (hg : g.method = m) (hsize : g.locals.size = c.maxLocals) {argsL rest : List Value} (hlen : ∀ sig, parseMethodDescriptor y.desc = some sig → argsL.length = sig.parameters.length)
    (hstack : g.stack = argsL.reverse ++ rest) (hW : 2 * g.monitorRoom + (rest.map fun v => v.category).sum ≤ W9) (hdg : decode c.code g.pc = .ok (.invokestatic index, 3))
    (hpre : ∀ vm₁, s.WarmedH vm₁ → Pre ⟨T.setVm vm₁, locs, cells, slots⟩ argsL.toArray) :
    (∃ (v : Option Value) (vm₁ : Vm) (B : Pt), s.WarmedH vm₁ ∧ Stand p l e R s m args below meth c B.U B.locs B.cells B.slots ∧ Post ⟨T.setVm vm₁, locs, cells, slots⟩ argsL.toArray v B ∧
      ∀ target, Steps p.tables e below (B.U.setTop { g with pc := g.pc + 3, stack := v.toList ++ rest }) target → Steps p.tables e below (T.setTop g) target) ∨
    (∃ (q : Addr) (vm₁ : Vm) (B : Pt), s.WarmedH vm₁ ∧ Stand p l e R s m args below meth c B.U B.locs B.cells B.slots ∧ PostX ⟨T.setVm vm₁, locs, cells, slots⟩ argsL.toArray q B ∧
      Steps p.tables e below (T.setTop g) ((B.U.setTop { g with stack := rest }).pushFrame (.throwing q))) := by
  obtain ⟨mk, methM, cM, hnamed, hmethM, -, -, -, -, -, -, hsigM⟩ := Cond.codeWith_spec hcode
  have hstatic : methM.isStatic = true := Cond.static_spec hnamed hmethM hstat
  obtain ⟨kP, hkP, -⟩ := className_of_methodNamed hnamed
  have hinitP : kP.init = .initialized := Cond.initialized_spec (findClass_of_methodNamed hnamed) hkP hinit
  obtain ⟨vm₁, X₁, hstep₁⟩ := X.invokestatic hexec hown hlink hnamed hmethM hstatic hkP hinitP hy (g := g) hg (argsL := argsL) (rest := rest) (hlen _ hsigM) hstack hdg
  rcases hK m meth c ⟨T.setVm vm₁, locs, cells, slots⟩ { g with stack := rest } (.invokestatic index) mk argsL.toArray X₁ hg hsize hdg hW (X₁.named hnamed) (hpre vm₁ X₁.warmed) with ⟨v, B, X', hpost, hsteps⟩ | ⟨q, B, X', hpost, hsteps⟩
  · exact Or.inl ⟨v, vm₁, B, X₁.warmed, X', hpost, fun target h => hstep₁ _ fun acts => by rw [doInvoke_state]; exact hsteps.trans h⟩
  · exact Or.inr ⟨q, vm₁, B, X₁.warmed, X', hpost, hstep₁ _ fun acts => by rw [doInvoke_state]; exact hsteps⟩
theorem vx_callVW (X : Stand p l e R s m args below meth c T locs cells slots) (hexec : p.tables.exec = Jvm.exec) {own C : String} {index : Nat} {y : MethodName} {bytes : ByteArray} {maxL : Nat} {ret : Option FieldType} {hh : List (Nat × Nat × Nat × Nat)}
    (hown : s.vm.findClass own = some m.cls) (hlink : (Cond.methodLink own index y).before args s = true) (hinst : (Cond.instanceMethod y).before args s = true) (hsel : (Cond.selects C y y).before args s = true)
    (hcode : (Cond.codeWith y bytes maxL ret hh).before args s = true) (hy : y.cls ≠ "java/lang/invoke/MethodHandle" ∧ y.cls ≠ "java/lang/invoke/VarHandle")
    {W9 : Nat} {Pre : Pt → Array Value → Prop} {Post : Pt → Array Value → Option Value → Pt → Prop} (hK : Back l R p e below s args y 3 W9 Pre Post)
    {b : Addr} {cellB : Cell} (hcell : T.heap[b]? = some cellB) (hobj : cellB.vm.isStatics = false) (hcls : s.vm.findClass C = some cellB.cls)
    {g : JFrame} (hg : g.method = m) (hsize : g.locals.size = c.maxLocals) {argsL rest : List Value} (hlen : ∀ sig, parseMethodDescriptor y.desc = some sig → argsL.length = sig.parameters.length)
    (hstack : g.stack = argsL.reverse ++ .ref b :: rest) (hW : 2 * g.monitorRoom + (rest.map fun v => v.category).sum ≤ W9) (hdg : decode c.code g.pc = .ok (.invokevirtual index, 3))
    (hpre : ∀ vm₁, s.WarmedH vm₁ → Pre ⟨T.setVm vm₁, locs, cells, slots⟩ (Value.ref b :: argsL).toArray) :
    ∃ (v : Option Value) (vm₁ : Vm) (B : Pt), s.WarmedH vm₁ ∧ Stand p l e R s m args below meth c B.U B.locs B.cells B.slots ∧ Post ⟨T.setVm vm₁, locs, cells, slots⟩ (Value.ref b :: argsL).toArray v B ∧
      ∀ target, Steps p.tables e below (B.U.setTop { g with pc := g.pc + 3, stack := v.toList ++ rest }) target → Steps p.tables e below (T.setTop g) target := by
  obtain ⟨mk, methM, hnamed, hmethM, hstM, habM⟩ := Cond.instanceMethod_spec hinst
  obtain ⟨m8, methM', cM, hn8, hmethM', -, -, -, -, -, -, hsigM⟩ := Cond.codeWith_spec hcode
  cases Option.some.inj (hn8.symm.trans hnamed)
  cases hmethM.symm.trans hmethM'
  obtain ⟨c2, r2, m2, q1, q2, q3, q4, kP, hkP, hkPi⟩ := Cond.selects_spec hsel
  cases hcls.symm.trans q1
  cases (State.methodFound?_of_named hnamed hy).symm.trans q2
  cases hnamed.symm.trans q3
  have hselP : selectMethod e.platform s.vm cellB.cls mk = .method mk := by rw [Launch.admits_selectMethod X.admits]; exact q4
  obtain ⟨vm₁, X₁, hstep₁⟩ := X.invokevirtual hexec hown hlink hnamed hmethM hstM hkP hkPi hy (a := b) (cell := cellB) hcell
    (fun z h => by rw [h] at hobj; cases hobj) hselP hmethM habM hkP hkPi (g := g) hg (argsL := argsL) (rest := rest) (hlen _ hsigM) hstack hdg
  obtain ⟨v, B, X', hpost, hsteps⟩ := hK m meth c ⟨T.setVm vm₁, locs, cells, slots⟩ { g with stack := rest } (.invokevirtual index) mk (Value.ref b :: argsL).toArray X₁ hg hsize hdg hW (X₁.named hnamed) (hpre vm₁ X₁.warmed)
  exact ⟨v, vm₁, B, X₁.warmed, X', hpost, fun target h => hstep₁ _ fun acts => by rw [doInvoke_state]; exact hsteps.trans h⟩
abbrev vx_CVW (R : Room) (s : State) (args : Array Value) (own C : String) (index : Nat) (y : MethodName) (bytes : ByteArray) (maxL : Nat) (ret : Option FieldType) (hh : List (Nat × Nat × Nat × Nat)) (ws : List Cond) (rm : Room) (mc ms n : Nat) : Prop :=
  (rm.cells = mc ∧ rm.slots = ms ∧ rm.frames + 1 ≤ R.frames ∧ 8 + (maxL + 11) + rm.locals ≤ R.locals ∧ (∀ w ∈ ws, ∀ (a' : Array Value) (U : State), s.WarmedH U.vm → w.before a' U = true) ∧ Cond.codeWith y bytes maxL ret hh ∈ ws) ∧
  (Cond.codeWith y bytes maxL ret hh).before args s = true ∧ (Cond.initialized y.cls).before args s = true ∧ (y.cls ≠ "java/lang/invoke/MethodHandle" ∧ y.cls ≠ "java/lang/invoke/VarHandle") ∧
  (∀ sig, parseMethodDescriptor y.desc = some sig → n = sig.parameters.length) ∧ (Cond.methodLink own index y).before args s = true ∧ (Cond.instanceMethod y).before args s = true ∧ (Cond.selects C y y).before args s = true
theorem vx_cwVW {own C : String} {index maxL mc ms : Nat} {y : MethodName} {bytes : ByteArray} {ret : Option FieldType} {hh : List (Nat × Nat × Nat × Nat)} {Ts ws ws' : List Cond} {rm : Room} (n : Nat) (ht : ∀ w ∈ Ts, w.before args s = true) (hT : GoodIn Ts (wsV own index C y ws)) (hw : ws = Cond.codeWith y bytes maxL ret hh :: ws') (hrc : rm.cells = mc) (hrs : rm.slots = ms)
    (hd : y.cls = C ∧ y.cls ≠ "java/lang/invoke/MethodHandle" ∧ y.cls ≠ "java/lang/invoke/VarHandle" ∧ (parseMethodDescriptor y.desc).map (fun d => d.parameters.length) = some n) (hR : rm.frames + 1 ≤ R.frames ∧ 8 + (maxL + 11) + rm.locals ≤ R.locals) :
    vx_CVW R s args own C index y bytes maxL ret hh ws rm mc ms n := by
  obtain ⟨hC, hd⟩ := hd
  subst hC
  have ok : ∀ w ∈ wsV own index y.cls y ws, w.before args s = true := fun w h => ht w (hT w h).1
  have hG : GoodIn Ts ws := fun w h => hT w (by unfold wsV; exact List.mem_append_right _ h)
  have hc : Cond.codeWith y bytes maxL ret hh ∈ ws := by rw [hw]; exact List.mem_cons_self
  refine ⟨⟨hrc, hrs, hR.1, hR.2, pay_in ht hG, hc⟩, ht _ (hG _ hc).1, ok _ (by simp [wsV]), ⟨hd.1, hd.2.1⟩, fun sig h => ?_, ok _ (by simp [wsV]), ok _ (by simp [wsV]), ok _ (by simp [wsV])⟩
  have h2 := hd.2.2
  rw [h] at h2
  exact (Option.some.inj h2).symm
theorem vx_runVW {y : MethodName} {bytes cc : ByteArray} {maxL nL mc ms n index : Nat} {ret : Option FieldType} {hh : List (Nat × Nat × Nat × Nat)} {ws : List Cond} {rm : Room} {Pc : Array Value → State → Prop} {Qc : Array Value → State → Outcome → State → Prop} {free : Addr → Prop} {Ts : List Cond} {own C : String} {b : Addr} {As rest : List Value} {g : JFrame}
    (S : CallFix p m c cc nL s args Ts own) (hM : Met l y ws rm Pc Qc mc ms free) (cw : vx_CVW R s args own C index y bytes maxL ret hh ws rm mc ms n) (hp : PreV s H C b Pc As)
    (hg : g.method = m) (hn : As.length = n) (hsize : g.locals.size = nL) (hstack : g.stack = As.reverse ++ .ref b :: rest) (hW : 2 * g.monitorRoom + (rest.map fun v => v.category).sum ≤ 8) (hdg : decode cc g.pc = .ok (.invokevirtual index, 3)) (hf : cells + mc ≤ R.cells ∧ slots + ms ≤ R.slots) :
    va_Run p l e R s m args below meth c H locs cells slots mc ms g rest (Qc (Value.ref b :: As).toArray) free := by
  obtain ⟨⟨hrc, hrs, hfr, hlo, hws, hcw⟩, hcode, hini, hy, hlen, hl, hin, hse⟩ := cw
  have hK : Back l R p e below s args y 3 8 (PreOf R mc ms Pc) (PostOf Qc mc ms free) := va_backW (hh := hh) (bytes := bytes) (maxL := maxL) (ret := ret) hM hp.1 hrc hrs hfr hlo hws hcw (fun a' U hW => word_at hW (Or.inl (by first | rfl | simp [Cond.onTables, Cond.keeps, Cond.steady])) hini)
  obtain ⟨hx, hb, hml, ho, -⟩ := S
  obtain ⟨-, ⟨cellB, hcB, hoB, hclB⟩, hPc⟩ := hp
  intro T hT X
  obtain ⟨v, vm₁, ⟨U', l2, c2, s2⟩, hW₁, X', ⟨g', mk, t, L, e1, e2, hq, h1, hL, h2, h3⟩, st⟩ := vx_callVW X hx (C := C) (hh := hh) (bytes := bytes) (maxL := maxL) (ret := ret) ho hl hin hse hcode hy hK (by rw [hT]; exact hcB) hoB hclB hg (hsize.trans hml.symm) (argsL := As) (rest := rest) (fun sig h => hn.trans (hlen sig h)) hstack hW (by rw [hb]; exact hdg)
    (fun vm₁ hW₁ => ⟨hf.1, hf.2, hPc (T.setVm vm₁) hT hW₁⟩)
  dsimp only [Pt.U, Pt.locs, Pt.cells, Pt.slots] at X' e1 e2 h1 h2 h3 st
  subst h1; subst h2; subst h3
  exact ⟨v, (T.setVm vm₁).calling g' mk (Value.ref b :: As).toArray, t, U', L, hT, X', hL, e1, e2, hq, st⟩
section
variable {y : MethodName} {bytes cc : ByteArray} {maxL nL mc ms n index : Nat} {ret : Option FieldType} {ws : List Cond} {rm : Room} {Pc : Array Value → State → Prop} {Qc : Array Value → State → Outcome → State → Prop} {XC : String → State → State → Prop} {free : Addr → Prop} {Ts : List Cond} {own C : String} {b : Addr} {As rest : List Value} {g : JFrame}
theorem vx_runVX {hh : List (Nat × Nat × Nat × Nat)} (S : CallFix p m c cc nL s args Ts own) (hM : vx_Met l y ws rm Pc Qc XC mc ms free) (cw : vx_CVW R s args own C index y bytes maxL ret hh ws rm mc ms n) (hp : PreV s H C b Pc As)
    (hg : g.method = m) (hn : As.length = n) (hsize : g.locals.size = nL) (hstack : g.stack = As.reverse ++ .ref b :: rest) (hW : 2 * g.monitorRoom + (rest.map fun v => v.category).sum ≤ 8) (hdg : decode cc g.pc = .ok (.invokevirtual index, 3)) (hf : cells + mc ≤ R.cells ∧ slots + ms ≤ R.slots) :
    vx_Run p l e R s m args below meth c H locs cells slots mc ms g rest (Qc (Value.ref b :: As).toArray) XC free := by
  obtain ⟨⟨hrc, hrs, hfr, hlo, hws, hcw⟩, hcode, hini, hy, hlen, hl, hin, hse⟩ := cw
  have hK : vx_Back l R p e below s args y 3 8 (PreOf R mc ms Pc) (PostOf Qc mc ms free) (vx_Post XC mc ms free) := vx_backW (hh := hh) (bytes := bytes) (maxL := maxL) (ret := ret) hM hp.1 hrc hrs hfr hlo hws hcw (fun a' U hW => word_at hW (Or.inl (by first | rfl | simp [Cond.onTables, Cond.keeps, Cond.steady])) hini)
  obtain ⟨hx, hb, hml, ho, -⟩ := S
  obtain ⟨-, ⟨cellB, hcB, hoB, hclB⟩, hPc⟩ := hp
  intro T hT X
  rcases vx_callVX X hx (C := C) (hh := hh) (bytes := bytes) (maxL := maxL) (ret := ret) ho hl hin hse hcode hy hK (by rw [hT]; exact hcB) hoB hclB hg (hsize.trans hml.symm) (argsL := As) (rest := rest) (fun sig h => hn.trans (hlen sig h)) hstack hW (by rw [hb]; exact hdg)
    (fun vm₁ hW₁ => ⟨hf.1, hf.2, hPc (T.setVm vm₁) hT hW₁⟩) with ⟨v, vm₁, ⟨U', l2, c2, s2⟩, hW₁, X', ⟨g', mk, t, L, e1, e2, hq, h1, hL, h2, h3⟩, st⟩ | ⟨q, vm₁, ⟨U', l2, c2, s2⟩, hW₁, X', ⟨g', mk, t, L, E, ce, e1, e2, hq, hce, hcv, hcl, h1, hL, h2, h3⟩, st⟩
  · dsimp only [Pt.U, Pt.locs, Pt.cells, Pt.slots] at X' e1 e2 h1 h2 h3 st
    subst h1; subst h2; subst h3
    exact Or.inl ⟨v, (T.setVm vm₁).calling g' mk (Value.ref b :: As).toArray, t, U', L, hT, X', hL, e1, e2, hq, st⟩
  · dsimp only [Pt.U, Pt.locs, Pt.cells, Pt.slots] at X' e1 e2 h1 h2 h3 st hcl
    subst h1; subst h2; subst h3
    exact Or.inr ⟨q, (T.setVm vm₁).calling g' mk (Value.ref b :: As).toArray, t, U', L, E, ce, hT, X', hL, e1, e2, hq, hce, hcv, vx_cls hW₁ hcl, st⟩
theorem vx_runSX {hh : List (Nat × Nat × Nat × Nat)} (S : CallFix p m c cc nL s args Ts own) (hM : vx_Met l y ws rm Pc Qc XC mc ms free) (cw : vx_CSW R s args own index y bytes maxL ret hh ws rm mc ms n) (hp : PreS s H Pc As)
    (hg : g.method = m) (hn : As.length = n) (hsize : g.locals.size = nL) (hstack : g.stack = As.reverse ++ rest) (hW : 2 * g.monitorRoom + (rest.map fun v => v.category).sum ≤ 8) (hdg : decode cc g.pc = .ok (.invokestatic index, 3)) (hf : cells + mc ≤ R.cells ∧ slots + ms ≤ R.slots) :
    vx_Run p l e R s m args below meth c H locs cells slots mc ms g rest (Qc As.toArray) XC free := by
  obtain ⟨⟨hrc, hrs, hfr, hlo, hws, hcw⟩, hcode, hini, hy, hlen, hl, hstt⟩ := cw
  have hK : vx_Back l R p e below s args y 3 8 (PreOf R mc ms Pc) (PostOf Qc mc ms free) (vx_Post XC mc ms free) := vx_backW (hh := hh) (bytes := bytes) (maxL := maxL) (ret := ret) hM hp.1 hrc hrs hfr hlo hws hcw (fun a' U hW => word_at hW (Or.inl (by first | rfl | simp [Cond.onTables, Cond.keeps, Cond.steady])) hini)
  obtain ⟨hx, hb, hml, ho, -⟩ := S
  intro T hT X
  rcases vx_callSX X hx (hh := hh) (bytes := bytes) (maxL := maxL) (ret := ret) ho hl hstt hini hcode hy hK hg (hsize.trans hml.symm) (argsL := As) (rest := rest) (fun sig h => hn.trans (hlen sig h)) hstack hW (by rw [hb]; exact hdg)
    (fun vm₁ hW₁ => ⟨hf.1, hf.2, hp.2 (T.setVm vm₁) hT hW₁⟩) with ⟨v, vm₁, ⟨U', l2, c2, s2⟩, hW₁, X', ⟨g', mk, t, L, e1, e2, hq, h1, hL, h2, h3⟩, st⟩ | ⟨q, vm₁, ⟨U', l2, c2, s2⟩, hW₁, X', ⟨g', mk, t, L, E, ce, e1, e2, hq, hce, hcv, hcl, h1, hL, h2, h3⟩, st⟩
  · dsimp only [Pt.U, Pt.locs, Pt.cells, Pt.slots] at X' e1 e2 h1 h2 h3 st
    subst h1; subst h2; subst h3
    exact Or.inl ⟨v, (T.setVm vm₁).calling g' mk As.toArray, t, U', L, hT, X', hL, e1, e2, hq, st⟩
  · dsimp only [Pt.U, Pt.locs, Pt.cells, Pt.slots] at X' e1 e2 h1 h2 h3 st hcl
    subst h1; subst h2; subst h3
    exact Or.inr ⟨q, (T.setVm vm₁).calling g' mk As.toArray, t, U', L, E, ce, hT, X', hL, e1, e2, hq, hce, hcv, vx_cls hW₁ hcl, st⟩
end
end VXH
theorem vx_ofWH {l : Launch} {y : MethodName} {ws ws' : List Cond} {rm : Room} {Pc : Array Value → State → Prop} {Qc : Array Value → State → Outcome → State → Prop} {XC : String → State → State → Prop} {mc ms : Nat} {free : Addr → Prop} {cc : ByteArray} {maxL : Nat} {ret : Option FieldType} {hh : List (Nat × Nat × Nat × Nat)}
    (hy : plainName y.cls = true) (hw : ws = Cond.codeWith y cc maxL ret hh :: ws')
    (body : ∀ p e s m args below meth c s₁, BodyLoose p l y (headSpec ws rm) cc maxL ret e s m args below meth c s₁ → c.maxLocals = maxL → Pc args s →
      W p l e (headSpec ws rm).room s m args below meth c s.heap [] 0 0 (vx_MQ below Qc XC args s mc ms free) (entryFrame m args maxL)) : vx_Met l y ws rm Pc Qc XC mc ms free := by
  refine MetFree.of_bodyS (code := cc) (maxLocals := maxL) (ret := ret) hy ?_ ?_
  · intro args s m h hn
    obtain ⟨m9, meth, c, hn9, h1, h2, h3, h4, -, h5, h6, -⟩ := Cond.codeWith_spec (atoms_spec (ws := ws) h _ (by rw [hw]; exact List.mem_cons_self))
    cases hn.symm.trans hn9
    exact ⟨meth, c, h1, h2, h3, h4, h5, h6⟩
  · intro p e s m args below meth c s₁ B hml hP _
    have hh0 : s₁.heap = s.heap := by rw [B.state]; rfl
    obtain ⟨t, a1, o, b1, b2, b3⟩ := body p e s m args below meth c s₁ B hml hP s₁ hh0 (Stand.of_body B)
    exact ⟨t, o, a1, b1, b2, b3⟩
/-! ===== END ===== -/
/-! ===== BEGIN what the machine throws by itself, no traces kept ===== -/
section VXM
set_option maxHeartbeats 1000000 in
/-- the machine throws cls with the message text, no traces kept: from its note over the frame g to 'throwing' over the same frame (follows the proofs of Stand.vmThrowsMessage, Shelf/KitTracedVmS.lean, and Stand.throwsMessageColdBareV, StandMessageColdV.lean, without the step out of the frame) -/
theorem vx_vmAt {p : Program} {l : Launch} {e : Env} {R : Room} {s : State} {m₀ : MethodId} {args : Array Value} {below : List Frame} {meth : Method} {c : Code} {W : State} {locs : List Loc} {cells slots : Nat}
    (X : Stand p l e R s m₀ args below meth c W locs cells slots) (hexec : p.tables.exec = Jvm.exec) (htr : e.platform.stackTraces = false) {cls : String} {names : List String} {text : String}
    (hcls : Bundle.fit cls = true) (hnames : ∀ n ∈ names, Bundle.fit n = true) (hsoe : (cls == "java/lang/StackOverflowError") = false) (hoom : (cls == "java/lang/OutOfMemoryError") = false)
    (h : ∀ a ∈ Bundle.messageArmAtoms cls names, a.before args s = true)
    (hlocs : ∀ x ∈ locs, ∀ cell, s.heap[x.base]? = some cell → cell.vm.isStatics = false)
    (htext : (text == notModelled) = false) (hlimit : ¬ (stringBytes (stringToUtf16 text)).size > e.platform.arrayLengthLimit) (hheap : ¬ (stringBytes (stringToUtf16 text)).size * componentBytes .byte > e.platform.maxHeapBytes)
    {g : JFrame} (hg : g.method = m₀) (hsize : g.locals.size = c.maxLocals)
    (hRframes : names.length + 4 < R.frames) (hRlocals : 2 * g.monitorRoom + (g.stack.map fun v => v.category).sum + 10240 ≤ R.locals) (hshort : 13 * names.length + 55 ≤ 10240)
    (hRcells : cells + 3 ≤ R.cells) (hRslots : slots + ((stringBytes (stringToUtf16 text)).size + 4 + 6) ≤ R.slots) (hlocks : meth.locks = false) :
    ∃ (S : State) (q : Addr) (ce : Cell), (∀ target, Steps p.tables e below ((S.setTop g).pushFrame (.throwing q)) target → Steps p.tables e below ((W.setTop g).pushFrame (.throwNew cls (some text) none)) target) ∧
      Stand p l e R s m₀ args below meth c S locs (cells + 3) (slots + ((stringBytes (stringToUtf16 text)).size + 4 + 6)) ∧ S.heap[q]? = some ce ∧ s.vm.findClass cls = some ce.cls ∧ ce.vm = .none := by
  have howns : e.platform.frameOwnsMonitors = true := by rw [X.admits.platform]
  have hfin : e.platform.finalization = false := by rw [X.admits.platform]
  have hpl : e.platform.magicAccessors = ({} : Platform).magicAccessors := by rw [X.admits.platform]
  have a : ∀ x, x ∈ Bundle.messageArmAtoms cls names → x.holds args s none s [] = true := fun x hx => h x hx
  obtain ⟨T, Z0, L, -, Y⟩ := ThrowableC.of_atoms (args := args) howns hfin hpl (fun x hx => h x (by simp [Bundle.messageArmAtoms, hx]))
  obtain ⟨Z, M, LZ, LM, hnZ⟩ := Init0T.ofS_atoms (args := args) hpl L Y (fun x hx => h x (by simp [Bundle.messageArmAtoms, hx]))
  obtain ⟨P1, Ps, hlen, L1, hL, hP1m, hlink1, hlink⟩ := Bundle.chainS (args := args) hpl hnZ names cls hcls hnames (fun x hx => h x (by simp [Bundle.messageArmAtoms, hx]))
  obtain ⟨Zs, LZs, hn4, hfitv, hfitc⟩ := StringT.of_atoms (args := args) (fun x hx => h x (by simp [Bundle.messageArmAtoms, hx]))
  have hfound : s.vm.findClass cls = some P1.m.cls := findClass_of_methodNamed hP1m
  obtain ⟨c1, kX, hc1, hk, hord, -, -, hn6⟩ := Cond.instantiable_spec (a (.instantiable cls 6) (by simp [Bundle.messageArmAtoms]))
  cases Option.some.inj (hc1.symm.trans hfound)
  have hinit := Cond.initialized_spec hfound hk (a (.initialized cls) (by simp [Bundle.messageArmAtoms]))
  have hctor : kX.findMethod "<init>" "(Ljava/lang/String;)V" = some P1.m.idx := findMethod_of_methodNamed hP1m hk
  have hsel0 : selectMethod e.platform s.vm P1.m.cls T.fill0 = .method T.fill0 := by
    obtain ⟨c2, r2, m2, q1, q2, q3, q4, -⟩ := Cond.selects_spec (a (.selects cls Bundle.tFill0 Bundle.tFill0) (by simp [Bundle.messageArmAtoms]))
    cases Option.some.inj (q1.symm.trans hfound)
    cases Option.some.inj (q2.symm.trans (State.methodFound?_of_named Y.fill0 (by decide)))
    cases Option.some.inj (q3.symm.trans Y.fill0)
    rw [Launch.admits_selectMethod X.admits]; exact q4
  have hselF : selectMethod e.platform s.vm P1.m.cls T.fill = .method T.fill := by
    obtain ⟨c2, r2, m2, q1, q2, q3, q4, -⟩ := Cond.selects_spec (a (.selects cls Bundle.tFill Bundle.tFill) (by simp [Bundle.messageArmAtoms]))
    cases Option.some.inj (q1.symm.trans hfound)
    cases Option.some.inj (q2.symm.trans (State.methodFound?_of_named Y.fill (by decide)))
    cases Option.some.inj (q3.symm.trans Y.fill)
    rw [Launch.admits_selectMethod X.admits]; exact q4
  obtain ⟨cellS0, hcS0, hiss⟩ := Y.statics
  obtain ⟨u0, hu0⟩ := Cond.staticRefV Y.unassigned L.unassignedStatic L.statics hcS0 hiss (a (.isRef (.static Bundle.tN "UNASSIGNED_STACK" Bundle.steD)) (by simp [Bundle.messageArmAtoms]))
  obtain ⟨sen, hsen⟩ := Cond.staticRefV Y.sentinel L.sentinelStatic L.statics hcS0 hiss (a (.isRef (.static Bundle.tN "SUPPRESSED_SENTINEL" Bundle.listD)) (by simp [Bundle.messageArmAtoms]))
  obtain ⟨ci198, i198, fB, hk198, hg198, ha198, hsB, -, hnB, htB, hffB⟩ := Cond.ownField (t := .object "java/lang/Object") Y.found L.cls (by decide +kernel) (a (.fieldLink Bundle.tN 198 Bundle.tN "backtrace" "Ljava/lang/Object;") (by simp [Bundle.messageArmAtoms])) (a (.lays Bundle.tN Bundle.tN "backtrace" "Ljava/lang/Object;") (by simp [Bundle.messageArmAtoms])) e.platform hpl
  obtain ⟨cellS, hcS', heS, -, hkeep⟩ := X.same.2.2.2.2.2 T.aS cellS0 hcS0
  have hcellS : W.heap[T.aS]? = some cellS := hcS'
  have hout' : ∀ i, (⟨T.aS, i⟩ : Loc) ∉ locs := fun i hmem => by
    have := hlocs _ hmem cellS0 hcS0
    rw [hiss] at this; cases this
  have hknownS : cellS.vm ≠ .unknown := by
    rw [heS]; intro hu
    rw [show cellS0.vm = .unknown from hu] at hiss
    cases hiss
  have hvU : cellS.slots[T.fUnassigned.slot]? = some u0.v := by rw [hkeep _ (hout' _)]; exact hu0
  have hvSen : cellS.slots[T.fSentinel.slot]? = some sen.v := by rw [hkeep _ (hout' _)]; exact hsen
  obtain ⟨iM, hffM⟩ := Y.msg
  obtain ⟨tyC, dC, hdC, hdnC⟩ := Cond.laysAt hfound hk Y.cause (a (.lays cls Bundle.tN "cause" "Ljava/lang/Throwable;") (by simp [Bundle.messageArmAtoms]))
  obtain ⟨tyS, dS, hdS, hdnS⟩ := Cond.laysAt hfound hk Y.stack (a (.lays cls Bundle.tN "stackTrace" Bundle.steD) (by simp [Bundle.messageArmAtoms]))
  obtain ⟨tyP, dP, hdP, hdnP⟩ := Cond.laysAt hfound hk Y.supp (a (.lays cls Bundle.tN "suppressedExceptions" Bundle.listD) (by simp [Bundle.messageArmAtoms]))
  obtain ⟨tyM, dM, hdM, hdnM⟩ := Cond.laysAt hfound hk hffM (a (.lays cls Bundle.tN "detailMessage" "Ljava/lang/String;") (by simp [Bundle.messageArmAtoms]))
  obtain ⟨tyB, dB, hdB, hdnB⟩ := Cond.laysAt hfound hk hffB (a (.lays cls Bundle.tN "backtrace" "Ljava/lang/Object;") (by simp [Bundle.messageArmAtoms]))
  have bC := Cond.laysApart hdB hdC hdnB hdnC (by rw [hnB, Y.causeName]; decide)
  have bS := Cond.laysApart hdB hdS hdnB hdnS (by rw [hnB, Y.stackName]; decide)
  have bP := Cond.laysApart hdB hdP hdnB hdnP (by rw [hnB, Y.suppName]; decide)
  have hbk : ((preparedCellV T.toThrowableT (freshCell P1.m.cls kX) (W.heap.size + 2) u0 sen).withEntry W.cur).slots[fB.slot]? = some .null := by
    have := fresh_default (c := P1.m.cls) tyB
    rw [htB] at this
    simpa [preparedCellV, Cell.setSlot, Cell.withEntry, Array.getElem?_setIfInBounds, bC, bS, bP, bC.symm, bS.symm, bP.symm, defaultValue] using this
  have tkC := Takes.of_laid (v := .ref (W.heap.size + 2)) hk hord tyC (by rw [Y.causeType]; rfl)
  have tkS := Takes.of_laid (v := u0.v) hk hord tyS (by rw [Y.stackType]; exact fits_refV_array _ u0)
  have tkP := Takes.of_laid (v := sen.v) hk hord tyP (by rw [Y.suppType]; exact fits_refV_object _ sen)
  have tkM := Takes.of_laid (v := .ref (W.heap.size + 1)) hk hord tyM (by rw [Y.msgType]; rfl)
  have hskip : SkipFacts T e.platform s (fun u => u) u0 ((preparedCellV T.toThrowableT (freshCell P1.m.cls kX) (W.heap.size + 2) u0 sen).withEntry W.cur) := ⟨{ ci198 := ci198, i198 := i198, fBack := fB }, ⟨hk198, hg198, ha198, hsB⟩, hbk, fun _ _ => rfl⟩
  have h0 : At W g.method c below := by rw [hg]; exact X.here
  obtain ⟨hbeyond, hfreeW⟩ := X.vmMayThrow hsize (.throwNew cls (some text) none) (fun f hf => by cases hf) rfl hRlocals
  have hfr' : W.frames.length + Ps.length + 4 < (e.platform.stackLimits W.me).1 := by have := X.framesAbove hRframes; omega
  have hwd' : (stackUse (.java g :: W.frames.tail)).2 + 13 * Ps.length + 55 ≤ (e.platform.stackLimits W.me).2 := by have := X.stackAbove hsize (K := 13 * Ps.length + 55) (by omega); omega
  have hslots : W.slotsUsed + (stringBytes (stringToUtf16 text)).size + Zs.kS.instanceTypes.size + kX.instanceTypes.size ≤ e.platform.maxSlots := by
    have := X.slotsAbove hRslots
    rw [hn4, hn6]
    omega
  obtain ⟨vm', hW', st⟩ := Steps.vmThrowsMessageColdByV p (s₀ := s) (S := W) (g := g) h0 hexec T L Z LZ M LM X.warmed (t := W.cur) rfl Zs LZs P1 L1 Ps hL hlink1 hlink hsoe hoom hfound hk hinit hord hctor
    (Launch.admits_hotImplicitExceptions X.admits) hbeyond hfreeW htext hlimit hheap (X.cellsAbove hRcells) hslots (hfitv _) (hfitc _)
    (Nn := fun u => u) heapOnly_id (fun _ _ => rfl) (fun _ => rfl) (fun u x y => setCell_twice _ _ _ _) (fun _ => Nat.le_refl _) (cN := ((preparedCellV T.toThrowableT (freshCell P1.m.cls kX) (W.heap.size + 2) u0 sen).withEntry W.cur))
    hsel0 hcellS hknownS hvU tkS (fun _ hu => hu) (fun _ hu => hu) rfl rfl rfl (by simp [preparedCellV, Cell.setSlot, Cell.withEntry]) hskip (fun _ _ hA hW _ hroom _ hrest => L.nativeOff p htr hA hW hroom hrest) hselF hvSen tkC tkP tkM Y.objLocals rfl hfr' hwd'
  rw [plainBareV_eq T.toThrowableT (W.heap.size + 2) u0 sen (.ref (W.heap.size + 1)) W.cur rfl rfl] at st
  obtain ⟨-, -, w3, w4, -, -, -⟩ := withThrown_facts e.platform W Zs text P1.m.cls kX
  have X3 := ((X.pushed (bytesOf Zs.cB (stringToUtf16 text))).pushed (stringAt Zs.cS Zs.kS Zs.fv Zs.fc (stringToUtf16 text) W.heap.size)).pushed (freshCell P1.m.cls kX)
  rw [← withString_eq] at X3
  have X4 := X3.noted hW'
  have ha : (W.heap.size + 2) < ((withThrown W Zs text P1.m.cls kX).setVm vm').heap.size := by show _ < (withThrown W Zs text P1.m.cls kX).heap.size; rw [w3]; omega
  have hcell : ((withThrown W Zs text P1.m.cls kX).setVm vm').heap[(W.heap.size + 2)]? = some (freshCell P1.m.cls kX) := w4
  have X5 := ((((X4.stored hcell T.fCause.slot (.ref (W.heap.size + 2))).storedAgain ha T.fStack.slot u0.v).storedAgain ha T.fSupp.slot sen.v).storedAgain ha T.fStack.slot u0.v).storedAgain ha T.fMsg.slot (.ref (W.heap.size + 1))
  obtain ⟨g₁, hfrM⟩ := X5.frames_eq
  have hU : ((((withThrown W Zs text P1.m.cls kX).setVm vm').setCell (W.heap.size + 2) (plainBareV T.toThrowableT (freshCell P1.m.cls kX) (W.heap.size + 2) u0 sen (.ref (W.heap.size + 1)))).setTop g).pushFrame (.throwing (W.heap.size + 2)) = (((withThrown W Zs text P1.m.cls kX).setVm vm').setCell (W.heap.size + 2) (plainBareV T.toThrowableT (freshCell P1.m.cls kX) (W.heap.size + 2) u0 sen (.ref (W.heap.size + 1)))).setFrames (.throwing (W.heap.size + 2) :: .java g :: below) := by
    rw [State.pushFrame, State.frames_setTop _ hfrM, State.setTop_of_frames _ hfrM, State.setFrames_setFrames]
  have b1 : (bytesOf Zs.cB (stringToUtf16 text)).slots.size = (stringBytes (stringToUtf16 text)).size := by
    rw [(Cell.writeAll_facts _ _).2.2]; simp [bytes0]
  have b2 : (stringAt Zs.cS Zs.kS Zs.fv Zs.fc (stringToUtf16 text) W.heap.size).slots.size = 4 := by simp [string0, Cell.setSlot, hn4]
  have b3 : (freshCell P1.m.cls kX).slots.size = 6 := by simp [hn6]
  rw [b1, b2, b3] at X5
  have e9 : slots + (stringBytes (stringToUtf16 text)).size + 4 + 6 = slots + ((stringBytes (stringToUtf16 text)).size + 4 + 6) := by omega
  rw [e9] at X5
  simp only [List.append_assoc, List.cons_append, List.nil_append] at X5
  refine ⟨((withThrown W Zs text P1.m.cls kX).setVm vm').setCell (W.heap.size + 2) (plainBareV T.toThrowableT (freshCell P1.m.cls kX) (W.heap.size + 2) u0 sen (.ref (W.heap.size + 1))), W.heap.size + 2, _, fun target ht => st _ (by rw [X.tail, ← hU]; exact ht),
    X5.forget (fun y hy => ?_), heapAt_setCell_self _ ha, hfound, rfl⟩
  simp only [List.mem_cons, List.not_mem_nil, or_false] at hy
  have hge : s.heap.size ≤ W.heap.size := X.same.2.1
  rcases hy with rfl | rfl | rfl | rfl | rfl <;> exact Nat.le_trans hge (Nat.le_add_right _ 2)
set_option maxHeartbeats 1000000 in
/-- the machine throws NullPointerException, no traces kept: from its note over the frame g to 'throwing' over the same frame (follows the proof of Stand.vmThrowsNpe, Shelf42/KT2.lean; throwsNpeColdBareVAt, Shelf42/NT91.lean, called) -/
theorem vx_npeAt {p : Program} {l : Launch} {e : Env} {R : Room} {s : State} {m₀ : MethodId} {args : Array Value} {below : List Frame} {meth : Method} {c : Code} {W : State} {locs : List Loc} {cells slots : Nat}
    (X : Stand p l e R s m₀ args below meth c W locs cells slots) (hexec : p.tables.exec = Jvm.exec) (htr : e.platform.stackTraces = false) {n : Nat}
    (h : ∀ a ∈ Bundle.npeArmAtoms n, a.before args s = true)
    (hlocs : ∀ x ∈ locs, ∀ cell, s.heap[x.base]? = some cell → cell.vm.isStatics = false)
    {g : JFrame} (hg : g.method = m₀) (hsize : g.locals.size = c.maxLocals)
    (hRframes : 7 < R.frames) (hRlocals : 2 * g.monitorRoom + (g.stack.map fun v => v.category).sum + 10240 ≤ R.locals)
    (hRcells : cells + 1 ≤ R.cells) (hRslots : slots + n ≤ R.slots) (hlocks : meth.locks = false) :
    ∃ (S : State) (q : Addr) (ce : Cell), (∀ target, Steps p.tables e below ((S.setTop g).pushFrame (.throwing q)) target → Steps p.tables e below ((W.setTop g).pushFrame (.throwNew "java/lang/NullPointerException" none none)) target) ∧
      Stand p l e R s m₀ args below meth c S locs (cells + 1) (slots + n) ∧ S.heap[q]? = some ce ∧ s.vm.findClass "java/lang/NullPointerException" = some ce.cls ∧ ce.vm = .none := by
  have howns : e.platform.frameOwnsMonitors = true := by rw [X.admits.platform]
  have hfin : e.platform.finalization = false := by rw [X.admits.platform]
  have hpl : e.platform.magicAccessors = ({} : Platform).magicAccessors := by rw [X.admits.platform]
  have hpl2 : e.platform.arrayCloneIsPublic = true := by rw [X.admits.platform]
  have a' : ∀ x, x ∈ Bundle.npeArmAtoms n → x.holds args s none s [] = true := fun x hx => h x hx
  obtain ⟨T, Z, L, LZ, Y⟩ := ThrowableC.of_atoms (args := args) howns hfin hpl (fun x hx => h x (by simp [Bundle.npeArmAtoms, hx]))
  obtain ⟨N, LN, hcN, hnNF, hordN, hffS⟩ := NpeC.of_atoms (args := args) hpl hpl2 L Y (fun x hx => h x (by simp [Bundle.npeArmAtoms, hx]))
  obtain ⟨P1, L1, hP1m, hP1s⟩ := PassC.of_atoms (args := args) (s := s) hpl (X := Bundle.nN) (Y := Bundle.rN) (by decide) (by decide) LibCode.NullPointerException.Init0.at_0 LibCode.NullPointerException.Init0.at_1 LibCode.NullPointerException.Init0.at_4 (fun x hx => h x (by simp [Bundle.npeArmAtoms, hx]))
  obtain ⟨PR, LR, hPRm, hPRs⟩ := PassC.of_atoms (args := args) (s := s) hpl (X := Bundle.rN) (Y := Bundle.eN) (by decide) (by decide) LibCode.RuntimeException.Init0.at_0 LibCode.RuntimeException.Init0.at_1 LibCode.RuntimeException.Init0.at_4 (fun x hx => h x (by simp [Bundle.npeArmAtoms, hx]))
  obtain ⟨PE, LEx, hPEm, hPEs⟩ := PassC.of_atoms (args := args) (s := s) hpl (X := Bundle.eN) (Y := Bundle.tN) (by decide) (by decide) LibCode.Exception.Init0.at_0 LibCode.Exception.Init0.at_1 LibCode.Exception.Init0.at_4 (fun x hx => h x (by simp [Bundle.npeArmAtoms, hx]))
  have hfound : s.vm.findClass Bundle.nN = some P1.m.cls := findClass_of_methodNamed hP1m
  have ecls : N.cN = P1.m.cls := Option.some.inj (hcN.symm.trans hfound)
  have hk : s.vm.classes[P1.m.cls]? = some N.kN := by rw [← ecls]; exact LN.cls
  have hinit := Cond.initialized_spec hfound hk (a' (.initialized Bundle.nN) (by simp [Bundle.npeArmAtoms]))
  have hctor : N.kN.findMethod "<init>" "()V" = some P1.m.idx := findMethod_of_methodNamed hP1m hk
  obtain ⟨c1, k1, hc1, hk1, -, -, -, hn⟩ := Cond.instantiable_spec (a' (.instantiable Bundle.nN n) (by simp [Bundle.npeArmAtoms]))
  cases Option.some.inj (hc1.symm.trans hfound)
  cases Option.some.inj (hk1.symm.trans hk)
  have hfsz : (freshCell P1.m.cls N.kN).slots.size = n := by simp [hn]
  have hlink1 : P1.sup = PR.m := Option.some.inj (hP1s.symm.trans hPRm)
  have hlinkR : PR.sup = PE.m := Option.some.inj (hPRs.symm.trans hPEm)
  have hlinkE : PE.sup = Z.m T.toThrowableT := Option.some.inj (hPEs.symm.trans Y.init0)
  have hLs : ∀ P, P ∈ [PR, PE] → P.Links0 e.platform s := fun P hP => by
    simp only [List.mem_cons, List.not_mem_nil, or_false] at hP
    rcases hP with rfl | rfl
    · exact LR
    · exact LEx
  have hsel0 : selectMethod e.platform s.vm P1.m.cls T.fill0 = .method T.fill0 := by
    obtain ⟨c2, r2, m2, q1, q2, q3, q4, -⟩ := Cond.selects_spec (a' (.selects Bundle.nN Bundle.tFill0 Bundle.tFill0) (by simp [Bundle.npeArmAtoms]))
    cases Option.some.inj (q1.symm.trans hfound)
    cases Option.some.inj (q2.symm.trans (State.methodFound?_of_named Y.fill0 (by decide)))
    cases Option.some.inj (q3.symm.trans Y.fill0)
    rw [Launch.admits_selectMethod X.admits]; exact q4
  have hselF : selectMethod e.platform s.vm P1.m.cls T.fill = .method N.fill := by
    obtain ⟨c2, r2, m2, q1, q2, q3, q4, -⟩ := Cond.selects_spec (a' (.selects Bundle.nN Bundle.tFill Bundle.nFill) (by simp [Bundle.npeArmAtoms]))
    cases Option.some.inj (q1.symm.trans hfound)
    cases Option.some.inj (q2.symm.trans (State.methodFound?_of_named Y.fill (by decide)))
    cases Option.some.inj (q3.symm.trans hnNF)
    rw [Launch.admits_selectMethod X.admits]; exact q4
  obtain ⟨cellS0, hcS0, hiss⟩ := Y.statics
  obtain ⟨u0, hu0⟩ := Cond.staticRefV Y.unassigned L.unassignedStatic L.statics hcS0 hiss (a' (.isRef (.static Bundle.tN "UNASSIGNED_STACK" Bundle.steD)) (by simp [Bundle.npeArmAtoms]))
  obtain ⟨sen, hsen⟩ := Cond.staticRefV Y.sentinel L.sentinelStatic L.statics hcS0 hiss (a' (.isRef (.static Bundle.tN "SUPPRESSED_SENTINEL" Bundle.listD)) (by simp [Bundle.npeArmAtoms]))
  obtain ⟨ci198, i198, fB, hk198, hg198, ha198, hsB, -, hnB, htB, hffB⟩ := Cond.ownField (t := .object "java/lang/Object") Y.found L.cls (by decide +kernel) (a' (.fieldLink Bundle.tN 198 Bundle.tN "backtrace" Bundle.objD) (by simp [Bundle.npeArmAtoms])) (a' (.lays Bundle.tN Bundle.tN "backtrace" Bundle.objD) (by simp [Bundle.npeArmAtoms])) e.platform hpl
  obtain ⟨cellS, hcS', heS, -, hkeep⟩ := X.same.2.2.2.2.2 T.aS cellS0 hcS0
  have hcellS : W.heap[T.aS]? = some cellS := hcS'
  have hout' : ∀ i, (⟨T.aS, i⟩ : Loc) ∉ locs := fun i hmem => by
    have := hlocs _ hmem cellS0 hcS0
    rw [hiss] at this; cases this
  have hknownS : cellS.vm ≠ .unknown := by
    rw [heS]; intro hu
    rw [show cellS0.vm = .unknown from hu] at hiss
    cases hiss
  have hvU : cellS.slots[T.fUnassigned.slot]? = some u0.v := by rw [hkeep _ (hout' _)]; exact hu0
  have hvSen : cellS.slots[T.fSentinel.slot]? = some sen.v := by rw [hkeep _ (hout' _)]; exact hsen
  obtain ⟨tyC, dC, hdC, hdnC⟩ := Cond.laysAt hfound hk Y.cause (a' (.lays Bundle.nN Bundle.tN "cause" "Ljava/lang/Throwable;") (by simp [Bundle.npeArmAtoms]))
  obtain ⟨tyS, dS, hdS, hdnS⟩ := Cond.laysAt hfound hk Y.stack (a' (.lays Bundle.nN Bundle.tN "stackTrace" Bundle.steD) (by simp [Bundle.npeArmAtoms]))
  obtain ⟨tyP, dP, hdP, hdnP⟩ := Cond.laysAt hfound hk Y.supp (a' (.lays Bundle.nN Bundle.tN "suppressedExceptions" Bundle.listD) (by simp [Bundle.npeArmAtoms]))
  obtain ⟨tyX, dX, hdX, hdnX⟩ := Cond.laysAt hfound hk hffS (a' (.lays Bundle.nN Bundle.nN "extendedMessageState" "I") (by simp [Bundle.npeArmAtoms, Bundle.npeAtoms]))
  obtain ⟨hnX, htX⟩ := State.fieldFound?_type hffS (t := .int) (by decide +kernel)
  have xC := Cond.laysApart hdC hdX hdnC hdnX (by rw [hnX, Y.causeName]; decide)
  have xS := Cond.laysApart hdS hdX hdnS hdnX (by rw [hnX, Y.stackName]; decide)
  have xP := Cond.laysApart hdP hdX hdnP hdnX (by rw [hnX, Y.suppName]; decide)
  have hv0 : (freshCell P1.m.cls N.kN).slots[N.fState.slot]? = some (.int 0) := by
    have := fresh_default (c := P1.m.cls) tyX
    rw [htX] at this; exact this
  obtain ⟨tyB, dB, hdB, hdnB⟩ := Cond.laysAt hfound hk hffB (a' (.lays Bundle.nN Bundle.tN "backtrace" Bundle.objD) (by simp [Bundle.npeArmAtoms]))
  have bC := Cond.laysApart hdB hdC hdnB hdnC (by rw [hnB, Y.causeName]; decide)
  have bS := Cond.laysApart hdB hdS hdnB hdnS (by rw [hnB, Y.stackName]; decide)
  have bP := Cond.laysApart hdB hdP hdnB hdnP (by rw [hnB, Y.suppName]; decide)
  have bX := Cond.laysApart hdB hdX hdnB hdnX (by rw [hnB, hnX]; decide)
  have hbk : ((npeCell N.toNpeT (preparedCellV T.toThrowableT (freshCell P1.m.cls N.kN) W.heap.size u0 sen) W.cur).withEntry W.cur).slots[fB.slot]? = some .null := by
    have := fresh_default (c := P1.m.cls) tyB
    rw [htB] at this
    simpa [npeCell, preparedCellV, Cell.setSlot, Cell.withEntry, Array.getElem?_setIfInBounds, bC, bS, bP, bX, bC.symm, bS.symm, bP.symm, bX.symm, defaultValue] using this
  have tkC := Takes.of_laid (v := .ref W.heap.size) hk hordN tyC (by rw [Y.causeType]; rfl)
  have tkS := Takes.of_laid (v := u0.v) hk hordN tyS (by rw [Y.stackType]; exact fits_refV_array _ u0)
  have tkP := Takes.of_laid (v := sen.v) hk hordN tyP (by rw [Y.suppType]; exact fits_refV_object _ sen)
  have tkX := Takes.of_laid (v := .int 1) hk hordN tyX (by rw [htX]; rfl)
  have hskip : SkipFacts T e.platform s (fun u => u) u0 ((npeCell N.toNpeT (preparedCellV T.toThrowableT (freshCell P1.m.cls N.kN) W.heap.size u0 sen) W.cur).withEntry W.cur) := ⟨{ ci198 := ci198, i198 := i198, fBack := fB }, ⟨hk198, hg198, ha198, hsB⟩, hbk, fun _ _ => rfl⟩
  obtain ⟨vm', X3, st, -⟩ := X.throwsNpeColdBareVAt hexec hg hsize T L Z LZ N LN P1 L1 [PR, PE] hLs hlink1 ⟨hlinkR, hlinkE, trivial⟩ hfound hk hinit hordN hctor hsel0 hselF hcellS hknownS hvU hvSen
    hv0 xC xS xP tkC tkS tkP tkX Y.objLocals hskip (fun _ _ hA hW _ hroom _ hrest => L.nativeOff p htr hA hW hroom hrest) (by simpa using hRframes) hRlocals (by simp) hRcells (by rw [hn]; exact hRslots)
  have hlt : W.heap.size < ((W.pushCell (freshCell P1.m.cls N.kN)).setVm vm').heap.size := by
    show W.heap.size < (W.pushCell (freshCell P1.m.cls N.kN)).heap.size
    rw [State.heap_size_pushCell]; omega
  rw [hfsz] at X3
  obtain ⟨g₁, hfrM⟩ := X3.frames_eq
  have hU : ((((W.pushCell (freshCell P1.m.cls N.kN)).setVm vm').setCell W.heap.size (npeBareV T.toThrowableT N.toNpeT (freshCell P1.m.cls N.kN) W.heap.size u0 sen)).setTop g).pushFrame (.throwing W.heap.size) = (((W.pushCell (freshCell P1.m.cls N.kN)).setVm vm').setCell W.heap.size (npeBareV T.toThrowableT N.toNpeT (freshCell P1.m.cls N.kN) W.heap.size u0 sen)).setFrames (.throwing W.heap.size :: .java g :: below) := by
    rw [State.pushFrame, State.frames_setTop _ hfrM, State.setTop_of_frames _ hfrM, State.setFrames_setFrames]
  refine ⟨_, W.heap.size, _, fun target ht => st.trans (by rw [← hU]; exact ht), X3.forget (fun y hy => ?_), heapAt_setCell_self _ hlt, hfound, rfl⟩
  simp only [List.mem_cons, List.not_mem_nil, or_false] at hy
  have hge : s.heap.size ≤ W.heap.size := X.same.2.1
  rcases hy with rfl | rfl | rfl | rfl | rfl <;> exact hge
/-- the words of a machine's NullPointerException, but the four that speak of the heap -/
def vx_atN (n : Nat) : List Cond := (Bundle.npeArmAtoms n).filter vx_no
/-- the words of a machine's throw with a message, but the four that speak of the heap -/
def vx_atM (X : String) (names : List String) : List Cond := (Bundle.messageArmAtoms X names).filter vx_no
section
variable {p : Program} {l : Launch} {e : Env} {R : Room} {s : State} {m : MethodId} {args : Array Value} {below : List Frame} {meth : Method} {c : Code} {H : Heap} {locs : List Loc} {cells slots : Nat}
/-- a frame seen from a rebased start, seen from the first start again -/
theorem vx_back9 {T S : State} {R' : Room} {k n : Nat} (X : Stand p l e R s m args below meth c T locs cells slots) (Y : Stand p l e R' ((T.setVm s.vm).setFrames (.invoking m args :: below)) m args below meth c T [] 0 0) (Z : Stand p l e R' ((T.setVm s.vm).setFrames (.invoking m args :: below)) m args below meth c S [] k n) :
    Stand p l e R s m args below meth c S locs (cells + k) (slots + n) := by
  have hW0 : s.WarmedH ((T.setVm s.vm).setFrames (.invoking m args :: below)).vm := State.WarmedH.refl s
  refine { admits := X.admits, cas := X.cas, clock := X.clock, frames := X.frames, room := X.room, hears := X.hears, method := X.method, code := X.code, here := Z.here, tail := Z.tail, warmed := State.WarmedH.trans hW0 Z.warmed, limits := Z.limits.trans (Y.limits.symm.trans X.limits), bytes := Z.bytes.trans (Y.bytes.symm.trans X.bytes), same := ?_ }
  obtain ⟨e1, e2⟩ := Z.same
  rw [State.setFrames_setFrames] at e1
  have h2 : (T.setVm s.vm).sameButNew (S.setVm s.vm) [] k n := ⟨e1, e2⟩
  have h3 := X.same.trans h2
  rw [List.append_nil] at h3
  exact h3
/-- from the machine's note that E is thrown here with this text -/
def vx_Note (p : Program) (l : Launch) (e : Env) (R : Room) (s : State) (m : MethodId) (args : Array Value) (below : List Frame) (meth : Method) (c : Code) (H : Heap) (locs : List Loc) (cells slots : Nat) (Q : State → Prop) (g : JFrame) (E text : String) : Prop :=
  ∀ T : State, T.heap = H → Stand p l e R s m args below meth c T locs cells slots → ∃ t, Steps p.tables e below ((T.setTop g).pushFrame (.throwNew E (some text) none)) t ∧ Q t
theorem vx_vm {pc : Nat} {ls : Array Slot} {rest : List Value} {Q : State → Prop} (hexec : p.tables.exec = Jvm.exec) (hl : l.stackTraces = false) {cls text : String} {names : List String} {nb : Nat} {A : Nat → Prop}
    (hcls : Bundle.fit cls = true) (hnames : ∀ n ∈ names, Bundle.fit n = true) (hsoe : (cls == "java/lang/StackOverflowError") = false) (hoom : (cls == "java/lang/OutOfMemoryError") = false)
    (hat : ∀ w ∈ vx_atM cls names, w.before args s = true) (hgood : ∀ w ∈ vx_atM cls names, vx_ot w = true)
    (hU : vx_Zq Bundle.tN "UNASSIGNED_STACK" Bundle.steD A s s.heap) (hN : vx_Zq Bundle.tN "SUPPRESSED_SENTINEL" Bundle.listD A s s.heap) (hS : va_S A s.heap H locs) (hsize : ls.size = c.maxLocals)
    (htext : (text == notModelled) = false) (hnb : (stringBytes (stringToUtf16 text)).size ≤ nb) (hnb1 : nb ≤ 1000)
    (hRframes : names.length + 4 < R.frames) (hRlocals : (rest.map fun v => v.category).sum + 10240 ≤ R.locals) (hshort : 13 * names.length + 55 ≤ 10240) (hRcells : cells + 3 ≤ R.cells) (hRslots : slots + (nb + 10) ≤ R.slots) (hlocks : meth.locks = false)
    (k : ∀ (H1 : Heap) (q9 : Addr) (ce : Cell), H.size ≤ H1.size → (∀ q : Nat, q < H.size → H1[q]? = H[q]?) → va_S A s.heap H1 locs → H1[q9]? = some ce → ce.vm = .none → s.vm.findClass cls = some ce.cls → vx_W p l e R s m args below meth c H1 locs (cells + 3) (slots + (nb + 10)) Q (F0 m pc ls rest) q9) :
    vx_Note p l e R s m args below meth c H locs cells slots Q (F0 m pc ls rest) cls text := by
  intro T hT X
  have htr : e.platform.stackTraces = false := (show e.platform.stackTraces = l.stackTraces by rw [X.admits.platform]).trans hl
  have Y := vx_rebase X (R' := { frames := R.frames, locals := R.locals, cells := 3, slots := nb + 10 }) (Nat.le_refl _) (Nat.le_refl _) hRcells hRslots
  have hhp : ((T.setVm s.vm).setFrames (.invoking m args :: below)).heap = H := hT
  have hW0 : s.WarmedH ((T.setVm s.vm).setFrames (.invoking m args :: below)).vm := State.WarmedH.refl s
  have hat' : ∀ w ∈ vx_atM cls names, w.before args ((T.setVm s.vm).setFrames (.invoking m args :: below)) = true := fun w hw => vx_ot_at hW0 rfl (hgood w hw) (hat w hw)
  have hU' : vx_Zq Bundle.tN "UNASSIGNED_STACK" Bundle.steD A ((T.setVm s.vm).setFrames (.invoking m args :: below)) ((T.setVm s.vm).setFrames (.invoking m args :: below)).heap := by rw [hhp]; exact vx_Zq.moved hW0.alike (hU.kept hS.2.1)
  have hN' : vx_Zq Bundle.tN "SUPPRESSED_SENTINEL" Bundle.listD A ((T.setVm s.vm).setFrames (.invoking m args :: below)) ((T.setVm s.vm).setFrames (.invoking m args :: below)).heap := by rw [hhp]; exact vx_Zq.moved hW0.alike (hN.kept hS.2.1)
  obtain ⟨S, q, ce, st, Z, hce, hcl', hv⟩ := vx_vmAt Y hexec htr (cls := cls) (names := names) (text := text) hcls hnames hsoe hoom (vx_own hat' (vx_isRefq hU'.1) (vx_isRefq hN'.1) hU'.2.word hN'.2.word) (fun x hx => nomatch hx) htext
    (by rw [Launch.admits_arrayLengthLimit X.admits]; omega) (by rw [Launch.admits_maxHeapBytes X.admits]; simp only [componentBytes]; omega)
    (g := F0 m pc ls rest) rfl hsize hRframes (by show 2 * 0 + (rest.map fun v => v.category).sum + 10240 ≤ R.locals; omega) hshort (by show 0 + 3 ≤ 3; omega) (by show 0 + (_ + 4 + 6) ≤ nb + 10; omega) hlocks
  obtain ⟨f1, f2⟩ := vx_frame Z.same
  have f1' : H.size ≤ S.heap.size := by rw [← hT]; exact f1
  have f2' : ∀ q : Nat, q < H.size → S.heap[q]? = H[q]? := fun q hq => by
    rw [← hT]
    exact f2 q (by rw [← hT] at hq; exact hq) (fun z hz => nomatch hz)
  have X5 := vx_back9 X Y Z
  have X6 : Stand p l e R s m args below meth c S locs (cells + 3) (slots + (nb + 10)) := { X5 with same := X5.same.mono (by omega) (by omega) }
  obtain ⟨t, a1, b1⟩ := k S.heap q ce f1' f2' ⟨Nat.le_trans hS.1 f1', fun q h1 h2 => (f2' q (Nat.lt_of_lt_of_le h1 hS.1)).trans (hS.2.1 q h1 h2), hS.2.2⟩ hce hv hcl' S rfl X6
  exact ⟨t, st t a1, b1⟩
/-- from the machine's note that NullPointerException is thrown here -/
def vx_NoteN (p : Program) (l : Launch) (e : Env) (R : Room) (s : State) (m : MethodId) (args : Array Value) (below : List Frame) (meth : Method) (c : Code) (H : Heap) (locs : List Loc) (cells slots : Nat) (Q : State → Prop) (g : JFrame) : Prop :=
  ∀ T : State, T.heap = H → Stand p l e R s m args below meth c T locs cells slots → ∃ t, Steps p.tables e below ((T.setTop g).pushFrame (.throwNew "java/lang/NullPointerException" none none)) t ∧ Q t
theorem vx_npe {pc : Nat} {ls : Array Slot} {rest : List Value} {Q : State → Prop} (hexec : p.tables.exec = Jvm.exec) (hl : l.stackTraces = false) {nb : Nat} {A : Nat → Prop}
    (hat : ∀ w ∈ vx_atN nb, w.before args s = true) (hgood : ∀ w ∈ vx_atN nb, vx_ot w = true)
    (hU : vx_Zq Bundle.tN "UNASSIGNED_STACK" Bundle.steD A s s.heap) (hN : vx_Zq Bundle.tN "SUPPRESSED_SENTINEL" Bundle.listD A s s.heap) (hS : va_S A s.heap H locs) (hsize : ls.size = c.maxLocals)
    (hRframes : 7 < R.frames) (hRlocals : (rest.map fun v => v.category).sum + 10240 ≤ R.locals) (hRcells : cells + 1 ≤ R.cells) (hRslots : slots + nb ≤ R.slots) (hlocks : meth.locks = false)
    (k : ∀ (H1 : Heap) (q9 : Addr) (ce : Cell), H.size ≤ H1.size → (∀ q : Nat, q < H.size → H1[q]? = H[q]?) → va_S A s.heap H1 locs → H1[q9]? = some ce → ce.vm = .none → s.vm.findClass "java/lang/NullPointerException" = some ce.cls → vx_W p l e R s m args below meth c H1 locs (cells + 1) (slots + nb) Q (F0 m pc ls rest) q9) :
    vx_NoteN p l e R s m args below meth c H locs cells slots Q (F0 m pc ls rest) := by
  intro T hT X
  have htr : e.platform.stackTraces = false := (show e.platform.stackTraces = l.stackTraces by rw [X.admits.platform]).trans hl
  have Y := vx_rebase X (R' := { frames := R.frames, locals := R.locals, cells := 1, slots := nb }) (Nat.le_refl _) (Nat.le_refl _) hRcells hRslots
  have hhp : ((T.setVm s.vm).setFrames (.invoking m args :: below)).heap = H := hT
  have hW0 : s.WarmedH ((T.setVm s.vm).setFrames (.invoking m args :: below)).vm := State.WarmedH.refl s
  have hat' : ∀ w ∈ vx_atN nb, w.before args ((T.setVm s.vm).setFrames (.invoking m args :: below)) = true := fun w hw => vx_ot_at hW0 rfl (hgood w hw) (hat w hw)
  have hU' : vx_Zq Bundle.tN "UNASSIGNED_STACK" Bundle.steD A ((T.setVm s.vm).setFrames (.invoking m args :: below)) ((T.setVm s.vm).setFrames (.invoking m args :: below)).heap := by rw [hhp]; exact vx_Zq.moved hW0.alike (hU.kept hS.2.1)
  have hN' : vx_Zq Bundle.tN "SUPPRESSED_SENTINEL" Bundle.listD A ((T.setVm s.vm).setFrames (.invoking m args :: below)) ((T.setVm s.vm).setFrames (.invoking m args :: below)).heap := by rw [hhp]; exact vx_Zq.moved hW0.alike (hN.kept hS.2.1)
  obtain ⟨S, q, ce, st, Z, hce, hcl', hv⟩ := vx_npeAt Y hexec htr (n := nb) (vx_own hat' (vx_isRefq hU'.1) (vx_isRefq hN'.1) hU'.2.word hN'.2.word) (fun x hx => nomatch hx)
    (g := F0 m pc ls rest) rfl hsize hRframes (by show 2 * 0 + (rest.map fun v => v.category).sum + 10240 ≤ R.locals; omega) (by show 0 + 1 ≤ 1; omega) (by show 0 + nb ≤ nb; omega) hlocks
  obtain ⟨f1, f2⟩ := vx_frame Z.same
  have f1' : H.size ≤ S.heap.size := by rw [← hT]; exact f1
  have f2' : ∀ q : Nat, q < H.size → S.heap[q]? = H[q]? := fun q hq => by
    rw [← hT]
    exact f2 q (by rw [← hT] at hq; exact hq) (fun z hz => nomatch hz)
  have X5 := vx_back9 X Y Z
  have X6 : Stand p l e R s m args below meth c S locs (cells + 1) (slots + nb) := { X5 with same := X5.same.mono (by omega) (by omega) }
  obtain ⟨t, a1, b1⟩ := k S.heap q ce f1' f2' ⟨Nat.le_trans hS.1 f1', fun q h1 h2 => (f2' q (Nat.lt_of_lt_of_le h1 hS.1)).trans (hS.2.1 q h1 h2), hS.2.2⟩ hce hv hcl' S rfl X6
  exact ⟨t, st t a1, b1⟩
variable {Q : State → Prop} {cc : ByteArray} {pc : Nat} {ls : Array Slot} {rest : List Value}
theorem vx_idivZ (hexec : p.tables.exec = Jvm.exec) (hb : c.code = cc) {a b : Int32} (h0 : b = 0) (d : decode cc pc = .ok (.idiv, 1)) (k : vx_Note p l e R s m args below meth c H locs cells slots Q (F0 m pc ls rest) "java/lang/ArithmeticException" "/ by zero") :
    W p l e R s m args below meth c H locs cells slots Q (F0 m pc ls (.int b :: .int a :: rest)) := by
  intro T hT X
  obtain ⟨t, st, q⟩ := k T hT X
  exact ⟨t, X.idivZero hexec (g := F0 m pc ls (.int b :: .int a :: rest)) rfl (a := a) (rest := rest) (by rw [h0]) (by rw [hb]; exact d) t st, q⟩
theorem vx_iremZ (hexec : p.tables.exec = Jvm.exec) (hb : c.code = cc) {a b : Int32} (h0 : b = 0) (d : decode cc pc = .ok (.irem, 1)) (k : vx_Note p l e R s m args below meth c H locs cells slots Q (F0 m pc ls rest) "java/lang/ArithmeticException" "/ by zero") :
    W p l e R s m args below meth c H locs cells slots Q (F0 m pc ls (.int b :: .int a :: rest)) := by
  intro T hT X
  obtain ⟨t, st, q⟩ := k T hT X
  exact ⟨t, X.iremZero hexec (g := F0 m pc ls (.int b :: .int a :: rest)) rfl (a := a) (rest := rest) (by rw [h0]) (by rw [hb]; exact d) t st, q⟩
theorem vx_ldivZ (hexec : p.tables.exec = Jvm.exec) (hb : c.code = cc) {a b : Int64} (h0 : b = 0) (d : decode cc pc = .ok (.ldiv, 1)) (k : vx_Note p l e R s m args below meth c H locs cells slots Q (F0 m pc ls rest) "java/lang/ArithmeticException" "/ by zero") :
    W p l e R s m args below meth c H locs cells slots Q (F0 m pc ls (.long b :: .long a :: rest)) := by
  intro T hT X
  obtain ⟨t, st, q⟩ := k T hT X
  exact ⟨t, X.ldivZero hexec (g := F0 m pc ls (.long b :: .long a :: rest)) rfl (a := a) (rest := rest) (by rw [h0]) (by rw [hb]; exact d) t st, q⟩
theorem vx_lremZ (hexec : p.tables.exec = Jvm.exec) (hb : c.code = cc) {a b : Int64} (h0 : b = 0) (d : decode cc pc = .ok (.lrem, 1)) (k : vx_Note p l e R s m args below meth c H locs cells slots Q (F0 m pc ls rest) "java/lang/ArithmeticException" "/ by zero") :
    W p l e R s m args below meth c H locs cells slots Q (F0 m pc ls (.long b :: .long a :: rest)) := by
  intro T hT X
  obtain ⟨t, st, q⟩ := k T hT X
  exact ⟨t, X.lremZero hexec (g := F0 m pc ls (.long b :: .long a :: rest)) rfl (a := a) (rest := rest) (by rw [h0]) (by rw [hb]; exact d) t st, q⟩
theorem vx_ialdZ {D : va_G} {cl : List vw_C} {ws : va_W} {tys : List (ClassId × FieldType)} {a : Nat} (hexec : p.tables.exec = Jvm.exec) (hb : c.code = cc) (hK : va_K D cl tys s) (hP : va_P D cl ws H) (q0 t0 : Nat) {cA : ClassId} {n : Nat} {f : Nat → Int32} (ha : ws[q0]? = some (a, .inl (cA, n, .inl f))) (ht : tys[t0]? = some (cA, .int)) {i : Int32} (hout : ¬ vp_in i n) (hdg : decode cc pc = .ok (.iaload, 1))
    (k : ∀ tx : String, tx = (toString "Index " ++ toString i ++ toString " out of bounds for length " ++ toString n : String) → vx_Note p l e R s m args below meth c H locs cells slots Q (F0 m pc ls rest) "java/lang/ArrayIndexOutOfBoundsException" tx) : W p l e R s m args below meth c H locs cells slots Q (F0 m pc ls (.int i :: .ref a :: rest)) := by
  intro T hT X
  obtain ⟨t, st, q⟩ := k _ rfl T hT X
  refine ⟨t, ?_, q⟩
  have h1 := X.ialoadOut hexec (by rw [hT]; exact hP q0 _ ha) ((hK.2 t0 _ ht).1 n (fun j => .int (f j))) (j := i) (by show (i < 0 ∨ (arrV _ _ _).slots.size ≤ _); rw [arrV_size]; exact Classical.byContradiction hout) (g := F0 m pc ls (.int i :: .ref a :: rest)) rfl (rest := rest) rfl (by rw [hb]; exact hdg) t
  simp only [arrV_size] at h1
  exact h1 st
theorem vx_iastZ {D : va_G} {cl : List vw_C} {ws : va_W} {tys : List (ClassId × FieldType)} {a : Nat} (hexec : p.tables.exec = Jvm.exec) (hb : c.code = cc) (hK : va_K D cl tys s) (hP : va_P D cl ws H) (q0 t0 : Nat) {cA : ClassId} {n : Nat} {f : Nat → Int32} (ha : ws[q0]? = some (a, .inl (cA, n, .inl f))) (ht : tys[t0]? = some (cA, .int)) {i : Int32} {x : Int32} (hout : ¬ vp_in i n) (hdg : decode cc pc = .ok (.iastore, 1))
    (k : ∀ tx : String, tx = (toString "Index " ++ toString i ++ toString " out of bounds for length " ++ toString n : String) → vx_Note p l e R s m args below meth c H locs cells slots Q (F0 m pc ls rest) "java/lang/ArrayIndexOutOfBoundsException" tx) : W p l e R s m args below meth c H locs cells slots Q (F0 m pc ls (.int x :: .int i :: .ref a :: rest)) := by
  intro T hT X
  obtain ⟨t, st, q⟩ := k _ rfl T hT X
  refine ⟨t, ?_, q⟩
  have h1 := X.iastoreOut hexec (by rw [hT]; exact hP q0 _ ha) ((hK.2 t0 _ ht).1 n (fun j => .int (f j))) (j := i) (by show (i < 0 ∨ (arrV _ _ _).slots.size ≤ _); rw [arrV_size]; exact Classical.byContradiction hout) (g := F0 m pc ls (.int x :: .int i :: .ref a :: rest)) rfl (rest := rest) rfl (by rw [hb]; exact hdg) t
  simp only [arrV_size] at h1
  exact h1 st
theorem vx_baldZ {D : va_G} {cl : List vw_C} {ws : va_W} {tys : List (ClassId × FieldType)} {a : Nat} (hexec : p.tables.exec = Jvm.exec) (hb : c.code = cc) (hK : va_K D cl tys s) (hP : va_P D cl ws H) (q0 t0 : Nat) {cA : ClassId} {n : Nat} {f : Nat → Int32} (ha : ws[q0]? = some (a, .inl (cA, n, .inl f))) (ht : tys[t0]? = some (cA, .byte)) {i : Int32} (hout : ¬ vp_in i n) (hdg : decode cc pc = .ok (.baload, 1))
    (k : ∀ tx : String, tx = (toString "Index " ++ toString i ++ toString " out of bounds for length " ++ toString n : String) → vx_Note p l e R s m args below meth c H locs cells slots Q (F0 m pc ls rest) "java/lang/ArrayIndexOutOfBoundsException" tx) : W p l e R s m args below meth c H locs cells slots Q (F0 m pc ls (.int i :: .ref a :: rest)) := by
  intro T hT X
  obtain ⟨t, st, q⟩ := k _ rfl T hT X
  refine ⟨t, ?_, q⟩
  have h1 := X.baloadOut hexec (by rw [hT]; exact hP q0 _ ha) ((hK.2 t0 _ ht).1 n (fun j => .int (f j))) (j := i) (by show (i < 0 ∨ (arrV _ _ _).slots.size ≤ _); rw [arrV_size]; exact Classical.byContradiction hout) (g := F0 m pc ls (.int i :: .ref a :: rest)) rfl (rest := rest) rfl (by rw [hb]; exact hdg) t
  simp only [arrV_size] at h1
  exact h1 st
theorem vx_bastZ {D : va_G} {cl : List vw_C} {ws : va_W} {tys : List (ClassId × FieldType)} {a : Nat} (hexec : p.tables.exec = Jvm.exec) (hb : c.code = cc) (hK : va_K D cl tys s) (hP : va_P D cl ws H) (q0 t0 : Nat) {cA : ClassId} {n : Nat} {f : Nat → Int32} (ha : ws[q0]? = some (a, .inl (cA, n, .inl f))) (ht : tys[t0]? = some (cA, .byte)) {i : Int32} {x : Int32} (hout : ¬ vp_in i n) (hdg : decode cc pc = .ok (.bastore, 1))
    (k : ∀ tx : String, tx = (toString "Index " ++ toString i ++ toString " out of bounds for length " ++ toString n : String) → vx_Note p l e R s m args below meth c H locs cells slots Q (F0 m pc ls rest) "java/lang/ArrayIndexOutOfBoundsException" tx) : W p l e R s m args below meth c H locs cells slots Q (F0 m pc ls (.int x :: .int i :: .ref a :: rest)) := by
  intro T hT X
  obtain ⟨t, st, q⟩ := k _ rfl T hT X
  refine ⟨t, ?_, q⟩
  have h1 := X.bastoreOut hexec (by rw [hT]; exact hP q0 _ ha) ((hK.2 t0 _ ht).1 n (fun j => .int (f j))) (j := i) (by show (i < 0 ∨ (arrV _ _ _).slots.size ≤ _); rw [arrV_size]; exact Classical.byContradiction hout) (g := F0 m pc ls (.int x :: .int i :: .ref a :: rest)) rfl (rest := rest) rfl (by rw [hb]; exact hdg) t
  simp only [arrV_size] at h1
  exact h1 st
theorem vx_zaldZ {D : va_G} {cl : List vw_C} {ws : va_W} {tys : List (ClassId × FieldType)} {a : Nat} (hexec : p.tables.exec = Jvm.exec) (hb : c.code = cc) (hK : va_K D cl tys s) (hP : va_P D cl ws H) (q0 t0 : Nat) {cA : ClassId} {n : Nat} {f : Nat → Int32} (ha : ws[q0]? = some (a, .inl (cA, n, .inl f))) (ht : tys[t0]? = some (cA, .boolean)) {i : Int32} (hout : ¬ vp_in i n) (hdg : decode cc pc = .ok (.baload, 1))
    (k : ∀ tx : String, tx = (toString "Index " ++ toString i ++ toString " out of bounds for length " ++ toString n : String) → vx_Note p l e R s m args below meth c H locs cells slots Q (F0 m pc ls rest) "java/lang/ArrayIndexOutOfBoundsException" tx) : W p l e R s m args below meth c H locs cells slots Q (F0 m pc ls (.int i :: .ref a :: rest)) := by
  intro T hT X
  obtain ⟨t, st, q⟩ := k _ rfl T hT X
  refine ⟨t, ?_, q⟩
  have h1 := X.baloadOut hexec (by rw [hT]; exact hP q0 _ ha) ((hK.2 t0 _ ht).1 n (fun j => .int (f j))) (j := i) (by show (i < 0 ∨ (arrV _ _ _).slots.size ≤ _); rw [arrV_size]; exact Classical.byContradiction hout) (g := F0 m pc ls (.int i :: .ref a :: rest)) rfl (rest := rest) rfl (by rw [hb]; exact hdg) t
  simp only [arrV_size] at h1
  exact h1 st
theorem vx_zastZ {D : va_G} {cl : List vw_C} {ws : va_W} {tys : List (ClassId × FieldType)} {a : Nat} (hexec : p.tables.exec = Jvm.exec) (hb : c.code = cc) (hK : va_K D cl tys s) (hP : va_P D cl ws H) (q0 t0 : Nat) {cA : ClassId} {n : Nat} {f : Nat → Int32} (ha : ws[q0]? = some (a, .inl (cA, n, .inl f))) (ht : tys[t0]? = some (cA, .boolean)) {i : Int32} {x : Int32} (hout : ¬ vp_in i n) (hdg : decode cc pc = .ok (.bastore, 1))
    (k : ∀ tx : String, tx = (toString "Index " ++ toString i ++ toString " out of bounds for length " ++ toString n : String) → vx_Note p l e R s m args below meth c H locs cells slots Q (F0 m pc ls rest) "java/lang/ArrayIndexOutOfBoundsException" tx) : W p l e R s m args below meth c H locs cells slots Q (F0 m pc ls (.int x :: .int i :: .ref a :: rest)) := by
  intro T hT X
  obtain ⟨t, st, q⟩ := k _ rfl T hT X
  refine ⟨t, ?_, q⟩
  have h1 := X.bastoreOut hexec (by rw [hT]; exact hP q0 _ ha) ((hK.2 t0 _ ht).1 n (fun j => .int (f j))) (j := i) (by show (i < 0 ∨ (arrV _ _ _).slots.size ≤ _); rw [arrV_size]; exact Classical.byContradiction hout) (g := F0 m pc ls (.int x :: .int i :: .ref a :: rest)) rfl (rest := rest) rfl (by rw [hb]; exact hdg) t
  simp only [arrV_size] at h1
  exact h1 st
theorem vx_caldZ {D : va_G} {cl : List vw_C} {ws : va_W} {tys : List (ClassId × FieldType)} {a : Nat} (hexec : p.tables.exec = Jvm.exec) (hb : c.code = cc) (hK : va_K D cl tys s) (hP : va_P D cl ws H) (q0 t0 : Nat) {cA : ClassId} {n : Nat} {f : Nat → Int32} (ha : ws[q0]? = some (a, .inl (cA, n, .inl f))) (ht : tys[t0]? = some (cA, .char)) {i : Int32} (hout : ¬ vp_in i n) (hdg : decode cc pc = .ok (.caload, 1))
    (k : ∀ tx : String, tx = (toString "Index " ++ toString i ++ toString " out of bounds for length " ++ toString n : String) → vx_Note p l e R s m args below meth c H locs cells slots Q (F0 m pc ls rest) "java/lang/ArrayIndexOutOfBoundsException" tx) : W p l e R s m args below meth c H locs cells slots Q (F0 m pc ls (.int i :: .ref a :: rest)) := by
  intro T hT X
  obtain ⟨t, st, q⟩ := k _ rfl T hT X
  refine ⟨t, ?_, q⟩
  have h1 := X.caloadOut hexec (by rw [hT]; exact hP q0 _ ha) ((hK.2 t0 _ ht).1 n (fun j => .int (f j))) (j := i) (by show (i < 0 ∨ (arrV _ _ _).slots.size ≤ _); rw [arrV_size]; exact Classical.byContradiction hout) (g := F0 m pc ls (.int i :: .ref a :: rest)) rfl (rest := rest) rfl (by rw [hb]; exact hdg) t
  simp only [arrV_size] at h1
  exact h1 st
theorem vx_castZ {D : va_G} {cl : List vw_C} {ws : va_W} {tys : List (ClassId × FieldType)} {a : Nat} (hexec : p.tables.exec = Jvm.exec) (hb : c.code = cc) (hK : va_K D cl tys s) (hP : va_P D cl ws H) (q0 t0 : Nat) {cA : ClassId} {n : Nat} {f : Nat → Int32} (ha : ws[q0]? = some (a, .inl (cA, n, .inl f))) (ht : tys[t0]? = some (cA, .char)) {i : Int32} {x : Int32} (hout : ¬ vp_in i n) (hdg : decode cc pc = .ok (.castore, 1))
    (k : ∀ tx : String, tx = (toString "Index " ++ toString i ++ toString " out of bounds for length " ++ toString n : String) → vx_Note p l e R s m args below meth c H locs cells slots Q (F0 m pc ls rest) "java/lang/ArrayIndexOutOfBoundsException" tx) : W p l e R s m args below meth c H locs cells slots Q (F0 m pc ls (.int x :: .int i :: .ref a :: rest)) := by
  intro T hT X
  obtain ⟨t, st, q⟩ := k _ rfl T hT X
  refine ⟨t, ?_, q⟩
  have h1 := X.castoreOut hexec (by rw [hT]; exact hP q0 _ ha) ((hK.2 t0 _ ht).1 n (fun j => .int (f j))) (j := i) (by show (i < 0 ∨ (arrV _ _ _).slots.size ≤ _); rw [arrV_size]; exact Classical.byContradiction hout) (g := F0 m pc ls (.int x :: .int i :: .ref a :: rest)) rfl (rest := rest) rfl (by rw [hb]; exact hdg) t
  simp only [arrV_size] at h1
  exact h1 st
theorem vx_saldZ {D : va_G} {cl : List vw_C} {ws : va_W} {tys : List (ClassId × FieldType)} {a : Nat} (hexec : p.tables.exec = Jvm.exec) (hb : c.code = cc) (hK : va_K D cl tys s) (hP : va_P D cl ws H) (q0 t0 : Nat) {cA : ClassId} {n : Nat} {f : Nat → Int32} (ha : ws[q0]? = some (a, .inl (cA, n, .inl f))) (ht : tys[t0]? = some (cA, .short)) {i : Int32} (hout : ¬ vp_in i n) (hdg : decode cc pc = .ok (.saload, 1))
    (k : ∀ tx : String, tx = (toString "Index " ++ toString i ++ toString " out of bounds for length " ++ toString n : String) → vx_Note p l e R s m args below meth c H locs cells slots Q (F0 m pc ls rest) "java/lang/ArrayIndexOutOfBoundsException" tx) : W p l e R s m args below meth c H locs cells slots Q (F0 m pc ls (.int i :: .ref a :: rest)) := by
  intro T hT X
  obtain ⟨t, st, q⟩ := k _ rfl T hT X
  refine ⟨t, ?_, q⟩
  have h1 := X.saloadOut hexec (by rw [hT]; exact hP q0 _ ha) ((hK.2 t0 _ ht).1 n (fun j => .int (f j))) (j := i) (by show (i < 0 ∨ (arrV _ _ _).slots.size ≤ _); rw [arrV_size]; exact Classical.byContradiction hout) (g := F0 m pc ls (.int i :: .ref a :: rest)) rfl (rest := rest) rfl (by rw [hb]; exact hdg) t
  simp only [arrV_size] at h1
  exact h1 st
theorem vx_sastZ {D : va_G} {cl : List vw_C} {ws : va_W} {tys : List (ClassId × FieldType)} {a : Nat} (hexec : p.tables.exec = Jvm.exec) (hb : c.code = cc) (hK : va_K D cl tys s) (hP : va_P D cl ws H) (q0 t0 : Nat) {cA : ClassId} {n : Nat} {f : Nat → Int32} (ha : ws[q0]? = some (a, .inl (cA, n, .inl f))) (ht : tys[t0]? = some (cA, .short)) {i : Int32} {x : Int32} (hout : ¬ vp_in i n) (hdg : decode cc pc = .ok (.sastore, 1))
    (k : ∀ tx : String, tx = (toString "Index " ++ toString i ++ toString " out of bounds for length " ++ toString n : String) → vx_Note p l e R s m args below meth c H locs cells slots Q (F0 m pc ls rest) "java/lang/ArrayIndexOutOfBoundsException" tx) : W p l e R s m args below meth c H locs cells slots Q (F0 m pc ls (.int x :: .int i :: .ref a :: rest)) := by
  intro T hT X
  obtain ⟨t, st, q⟩ := k _ rfl T hT X
  refine ⟨t, ?_, q⟩
  have h1 := X.sastoreOut hexec (by rw [hT]; exact hP q0 _ ha) ((hK.2 t0 _ ht).1 n (fun j => .int (f j))) (j := i) (by show (i < 0 ∨ (arrV _ _ _).slots.size ≤ _); rw [arrV_size]; exact Classical.byContradiction hout) (g := F0 m pc ls (.int x :: .int i :: .ref a :: rest)) rfl (rest := rest) rfl (by rw [hb]; exact hdg) t
  simp only [arrV_size] at h1
  exact h1 st
theorem vx_laldZ {D : va_G} {cl : List vw_C} {ws : va_W} {tys : List (ClassId × FieldType)} {a : Nat} (hexec : p.tables.exec = Jvm.exec) (hb : c.code = cc) (hK : va_K D cl tys s) (hP : va_P D cl ws H) (q0 t0 : Nat) {cA : ClassId} {n : Nat} {f : Nat → Int64} (ha : ws[q0]? = some (a, .inl (cA, n, .inr (.inl f)))) (ht : tys[t0]? = some (cA, .long)) {i : Int32} (hout : ¬ vp_in i n) (hdg : decode cc pc = .ok (.laload, 1))
    (k : ∀ tx : String, tx = (toString "Index " ++ toString i ++ toString " out of bounds for length " ++ toString n : String) → vx_Note p l e R s m args below meth c H locs cells slots Q (F0 m pc ls rest) "java/lang/ArrayIndexOutOfBoundsException" tx) : W p l e R s m args below meth c H locs cells slots Q (F0 m pc ls (.int i :: .ref a :: rest)) := by
  intro T hT X
  obtain ⟨t, st, q⟩ := k _ rfl T hT X
  refine ⟨t, ?_, q⟩
  have h1 := X.laloadOut hexec (by rw [hT]; exact hP q0 _ ha) ((hK.2 t0 _ ht).1 n (fun j => .long (f j))) (j := i) (by show (i < 0 ∨ (arrV _ _ _).slots.size ≤ _); rw [arrV_size]; exact Classical.byContradiction hout) (g := F0 m pc ls (.int i :: .ref a :: rest)) rfl (rest := rest) rfl (by rw [hb]; exact hdg) t
  simp only [arrV_size] at h1
  exact h1 st
theorem vx_lastZ {D : va_G} {cl : List vw_C} {ws : va_W} {tys : List (ClassId × FieldType)} {a : Nat} (hexec : p.tables.exec = Jvm.exec) (hb : c.code = cc) (hK : va_K D cl tys s) (hP : va_P D cl ws H) (q0 t0 : Nat) {cA : ClassId} {n : Nat} {f : Nat → Int64} (ha : ws[q0]? = some (a, .inl (cA, n, .inr (.inl f)))) (ht : tys[t0]? = some (cA, .long)) {i : Int32} {x : Int64} (hout : ¬ vp_in i n) (hdg : decode cc pc = .ok (.lastore, 1))
    (k : ∀ tx : String, tx = (toString "Index " ++ toString i ++ toString " out of bounds for length " ++ toString n : String) → vx_Note p l e R s m args below meth c H locs cells slots Q (F0 m pc ls rest) "java/lang/ArrayIndexOutOfBoundsException" tx) : W p l e R s m args below meth c H locs cells slots Q (F0 m pc ls (.long x :: .int i :: .ref a :: rest)) := by
  intro T hT X
  obtain ⟨t, st, q⟩ := k _ rfl T hT X
  refine ⟨t, ?_, q⟩
  have h1 := X.lastoreOut hexec (by rw [hT]; exact hP q0 _ ha) ((hK.2 t0 _ ht).1 n (fun j => .long (f j))) (j := i) (by show (i < 0 ∨ (arrV _ _ _).slots.size ≤ _); rw [arrV_size]; exact Classical.byContradiction hout) (g := F0 m pc ls (.long x :: .int i :: .ref a :: rest)) rfl (rest := rest) rfl (by rw [hb]; exact hdg) t
  simp only [arrV_size] at h1
  exact h1 st
theorem vx_faldZ {D : va_G} {cl : List vw_C} {ws : va_W} {tys : List (ClassId × FieldType)} {a : Nat} (hexec : p.tables.exec = Jvm.exec) (hb : c.code = cc) (hK : va_K D cl tys s) (hP : va_P D cl ws H) (q0 t0 : Nat) {cA : ClassId} {n : Nat} {f : Nat → UInt32} (ha : ws[q0]? = some (a, .inl (cA, n, .inr (.inr (.inl f))))) (ht : tys[t0]? = some (cA, .float)) {i : Int32} (hout : ¬ vp_in i n) (hdg : decode cc pc = .ok (.faload, 1))
    (k : ∀ tx : String, tx = (toString "Index " ++ toString i ++ toString " out of bounds for length " ++ toString n : String) → vx_Note p l e R s m args below meth c H locs cells slots Q (F0 m pc ls rest) "java/lang/ArrayIndexOutOfBoundsException" tx) : W p l e R s m args below meth c H locs cells slots Q (F0 m pc ls (.int i :: .ref a :: rest)) := by
  intro T hT X
  obtain ⟨t, st, q⟩ := k _ rfl T hT X
  refine ⟨t, ?_, q⟩
  have h1 := X.faloadOut hexec (by rw [hT]; exact hP q0 _ ha) ((hK.2 t0 _ ht).1 n (fun j => .float (f j))) (j := i) (by show (i < 0 ∨ (arrV _ _ _).slots.size ≤ _); rw [arrV_size]; exact Classical.byContradiction hout) (g := F0 m pc ls (.int i :: .ref a :: rest)) rfl (rest := rest) rfl (by rw [hb]; exact hdg) t
  simp only [arrV_size] at h1
  exact h1 st
theorem vx_fastZ {D : va_G} {cl : List vw_C} {ws : va_W} {tys : List (ClassId × FieldType)} {a : Nat} (hexec : p.tables.exec = Jvm.exec) (hb : c.code = cc) (hK : va_K D cl tys s) (hP : va_P D cl ws H) (q0 t0 : Nat) {cA : ClassId} {n : Nat} {f : Nat → UInt32} (ha : ws[q0]? = some (a, .inl (cA, n, .inr (.inr (.inl f))))) (ht : tys[t0]? = some (cA, .float)) {i : Int32} {x : UInt32} (hout : ¬ vp_in i n) (hdg : decode cc pc = .ok (.fastore, 1))
    (k : ∀ tx : String, tx = (toString "Index " ++ toString i ++ toString " out of bounds for length " ++ toString n : String) → vx_Note p l e R s m args below meth c H locs cells slots Q (F0 m pc ls rest) "java/lang/ArrayIndexOutOfBoundsException" tx) : W p l e R s m args below meth c H locs cells slots Q (F0 m pc ls (.float x :: .int i :: .ref a :: rest)) := by
  intro T hT X
  obtain ⟨t, st, q⟩ := k _ rfl T hT X
  refine ⟨t, ?_, q⟩
  have h1 := X.fastoreOut hexec (by rw [hT]; exact hP q0 _ ha) ((hK.2 t0 _ ht).1 n (fun j => .float (f j))) (j := i) (by show (i < 0 ∨ (arrV _ _ _).slots.size ≤ _); rw [arrV_size]; exact Classical.byContradiction hout) (g := F0 m pc ls (.float x :: .int i :: .ref a :: rest)) rfl (rest := rest) rfl (by rw [hb]; exact hdg) t
  simp only [arrV_size] at h1
  exact h1 st
theorem vx_daldZ {D : va_G} {cl : List vw_C} {ws : va_W} {tys : List (ClassId × FieldType)} {a : Nat} (hexec : p.tables.exec = Jvm.exec) (hb : c.code = cc) (hK : va_K D cl tys s) (hP : va_P D cl ws H) (q0 t0 : Nat) {cA : ClassId} {n : Nat} {f : Nat → UInt64} (ha : ws[q0]? = some (a, .inl (cA, n, .inr (.inr (.inr (.inl f)))))) (ht : tys[t0]? = some (cA, .double)) {i : Int32} (hout : ¬ vp_in i n) (hdg : decode cc pc = .ok (.daload, 1))
    (k : ∀ tx : String, tx = (toString "Index " ++ toString i ++ toString " out of bounds for length " ++ toString n : String) → vx_Note p l e R s m args below meth c H locs cells slots Q (F0 m pc ls rest) "java/lang/ArrayIndexOutOfBoundsException" tx) : W p l e R s m args below meth c H locs cells slots Q (F0 m pc ls (.int i :: .ref a :: rest)) := by
  intro T hT X
  obtain ⟨t, st, q⟩ := k _ rfl T hT X
  refine ⟨t, ?_, q⟩
  have h1 := X.daloadOut hexec (by rw [hT]; exact hP q0 _ ha) ((hK.2 t0 _ ht).1 n (fun j => .double (f j))) (j := i) (by show (i < 0 ∨ (arrV _ _ _).slots.size ≤ _); rw [arrV_size]; exact Classical.byContradiction hout) (g := F0 m pc ls (.int i :: .ref a :: rest)) rfl (rest := rest) rfl (by rw [hb]; exact hdg) t
  simp only [arrV_size] at h1
  exact h1 st
theorem vx_dastZ {D : va_G} {cl : List vw_C} {ws : va_W} {tys : List (ClassId × FieldType)} {a : Nat} (hexec : p.tables.exec = Jvm.exec) (hb : c.code = cc) (hK : va_K D cl tys s) (hP : va_P D cl ws H) (q0 t0 : Nat) {cA : ClassId} {n : Nat} {f : Nat → UInt64} (ha : ws[q0]? = some (a, .inl (cA, n, .inr (.inr (.inr (.inl f)))))) (ht : tys[t0]? = some (cA, .double)) {i : Int32} {x : UInt64} (hout : ¬ vp_in i n) (hdg : decode cc pc = .ok (.dastore, 1))
    (k : ∀ tx : String, tx = (toString "Index " ++ toString i ++ toString " out of bounds for length " ++ toString n : String) → vx_Note p l e R s m args below meth c H locs cells slots Q (F0 m pc ls rest) "java/lang/ArrayIndexOutOfBoundsException" tx) : W p l e R s m args below meth c H locs cells slots Q (F0 m pc ls (.double x :: .int i :: .ref a :: rest)) := by
  intro T hT X
  obtain ⟨t, st, q⟩ := k _ rfl T hT X
  refine ⟨t, ?_, q⟩
  have h1 := X.dastoreOut hexec (by rw [hT]; exact hP q0 _ ha) ((hK.2 t0 _ ht).1 n (fun j => .double (f j))) (j := i) (by show (i < 0 ∨ (arrV _ _ _).slots.size ≤ _); rw [arrV_size]; exact Classical.byContradiction hout) (g := F0 m pc ls (.double x :: .int i :: .ref a :: rest)) rfl (rest := rest) rfl (by rw [hb]; exact hdg) t
  simp only [arrV_size] at h1
  exact h1 st
theorem vx_arraylengthN (hexec : p.tables.exec = Jvm.exec) (hb : c.code = cc) (hdg : decode cc pc = .ok (.arraylength, 1)) (k : vx_NoteN p l e R s m args below meth c H locs cells slots Q (F0 m pc ls rest)) : W p l e R s m args below meth c H locs cells slots Q (F0 m pc ls (.null :: rest)) := by
  intro T hT X
  obtain ⟨t, st, q⟩ := k T hT X
  exact ⟨t, X.arraylengthNull hexec (g := F0 m pc ls (.null :: rest)) rfl (rest := rest) rfl (by rw [hb]; exact hdg) t st, q⟩
theorem vx_ialoadN (hexec : p.tables.exec = Jvm.exec) (hb : c.code = cc) {i : Int32} (hdg : decode cc pc = .ok (.iaload, 1)) (k : vx_NoteN p l e R s m args below meth c H locs cells slots Q (F0 m pc ls rest)) : W p l e R s m args below meth c H locs cells slots Q (F0 m pc ls (.int i :: .null :: rest)) := by
  intro T hT X
  obtain ⟨t, st, q⟩ := k T hT X
  exact ⟨t, X.ialoadNull hexec (g := F0 m pc ls (.int i :: .null :: rest)) rfl (rest := rest) rfl (by rw [hb]; exact hdg) t st, q⟩
theorem vx_laloadN (hexec : p.tables.exec = Jvm.exec) (hb : c.code = cc) {i : Int32} (hdg : decode cc pc = .ok (.laload, 1)) (k : vx_NoteN p l e R s m args below meth c H locs cells slots Q (F0 m pc ls rest)) : W p l e R s m args below meth c H locs cells slots Q (F0 m pc ls (.int i :: .null :: rest)) := by
  intro T hT X
  obtain ⟨t, st, q⟩ := k T hT X
  exact ⟨t, X.laloadNull hexec (g := F0 m pc ls (.int i :: .null :: rest)) rfl (rest := rest) rfl (by rw [hb]; exact hdg) t st, q⟩
theorem vx_faloadN (hexec : p.tables.exec = Jvm.exec) (hb : c.code = cc) {i : Int32} (hdg : decode cc pc = .ok (.faload, 1)) (k : vx_NoteN p l e R s m args below meth c H locs cells slots Q (F0 m pc ls rest)) : W p l e R s m args below meth c H locs cells slots Q (F0 m pc ls (.int i :: .null :: rest)) := by
  intro T hT X
  obtain ⟨t, st, q⟩ := k T hT X
  exact ⟨t, X.faloadNull hexec (g := F0 m pc ls (.int i :: .null :: rest)) rfl (rest := rest) rfl (by rw [hb]; exact hdg) t st, q⟩
theorem vx_daloadN (hexec : p.tables.exec = Jvm.exec) (hb : c.code = cc) {i : Int32} (hdg : decode cc pc = .ok (.daload, 1)) (k : vx_NoteN p l e R s m args below meth c H locs cells slots Q (F0 m pc ls rest)) : W p l e R s m args below meth c H locs cells slots Q (F0 m pc ls (.int i :: .null :: rest)) := by
  intro T hT X
  obtain ⟨t, st, q⟩ := k T hT X
  exact ⟨t, X.daloadNull hexec (g := F0 m pc ls (.int i :: .null :: rest)) rfl (rest := rest) rfl (by rw [hb]; exact hdg) t st, q⟩
theorem vx_aaloadN (hexec : p.tables.exec = Jvm.exec) (hb : c.code = cc) {i : Int32} (hdg : decode cc pc = .ok (.aaload, 1)) (k : vx_NoteN p l e R s m args below meth c H locs cells slots Q (F0 m pc ls rest)) : W p l e R s m args below meth c H locs cells slots Q (F0 m pc ls (.int i :: .null :: rest)) := by
  intro T hT X
  obtain ⟨t, st, q⟩ := k T hT X
  exact ⟨t, X.aaloadNull hexec (g := F0 m pc ls (.int i :: .null :: rest)) rfl (rest := rest) rfl (by rw [hb]; exact hdg) t st, q⟩
theorem vx_baloadN (hexec : p.tables.exec = Jvm.exec) (hb : c.code = cc) {i : Int32} (hdg : decode cc pc = .ok (.baload, 1)) (k : vx_NoteN p l e R s m args below meth c H locs cells slots Q (F0 m pc ls rest)) : W p l e R s m args below meth c H locs cells slots Q (F0 m pc ls (.int i :: .null :: rest)) := by
  intro T hT X
  obtain ⟨t, st, q⟩ := k T hT X
  exact ⟨t, X.baloadNull hexec (g := F0 m pc ls (.int i :: .null :: rest)) rfl (rest := rest) rfl (by rw [hb]; exact hdg) t st, q⟩
theorem vx_caloadN (hexec : p.tables.exec = Jvm.exec) (hb : c.code = cc) {i : Int32} (hdg : decode cc pc = .ok (.caload, 1)) (k : vx_NoteN p l e R s m args below meth c H locs cells slots Q (F0 m pc ls rest)) : W p l e R s m args below meth c H locs cells slots Q (F0 m pc ls (.int i :: .null :: rest)) := by
  intro T hT X
  obtain ⟨t, st, q⟩ := k T hT X
  exact ⟨t, X.caloadNull hexec (g := F0 m pc ls (.int i :: .null :: rest)) rfl (rest := rest) rfl (by rw [hb]; exact hdg) t st, q⟩
theorem vx_saloadN (hexec : p.tables.exec = Jvm.exec) (hb : c.code = cc) {i : Int32} (hdg : decode cc pc = .ok (.saload, 1)) (k : vx_NoteN p l e R s m args below meth c H locs cells slots Q (F0 m pc ls rest)) : W p l e R s m args below meth c H locs cells slots Q (F0 m pc ls (.int i :: .null :: rest)) := by
  intro T hT X
  obtain ⟨t, st, q⟩ := k T hT X
  exact ⟨t, X.saloadNull hexec (g := F0 m pc ls (.int i :: .null :: rest)) rfl (rest := rest) rfl (by rw [hb]; exact hdg) t st, q⟩
theorem vx_iastoreN (hexec : p.tables.exec = Jvm.exec) (hb : c.code = cc) {x : Int32} {i : Int32} (hdg : decode cc pc = .ok (.iastore, 1)) (k : vx_NoteN p l e R s m args below meth c H locs cells slots Q (F0 m pc ls rest)) : W p l e R s m args below meth c H locs cells slots Q (F0 m pc ls (.int x :: .int i :: .null :: rest)) := by
  intro T hT X
  obtain ⟨t, st, q⟩ := k T hT X
  exact ⟨t, X.iastoreNull hexec (g := F0 m pc ls (.int x :: .int i :: .null :: rest)) rfl (rest := rest) rfl (by rw [hb]; exact hdg) t st, q⟩
theorem vx_lastoreN (hexec : p.tables.exec = Jvm.exec) (hb : c.code = cc) {x : Int64} {i : Int32} (hdg : decode cc pc = .ok (.lastore, 1)) (k : vx_NoteN p l e R s m args below meth c H locs cells slots Q (F0 m pc ls rest)) : W p l e R s m args below meth c H locs cells slots Q (F0 m pc ls (.long x :: .int i :: .null :: rest)) := by
  intro T hT X
  obtain ⟨t, st, q⟩ := k T hT X
  exact ⟨t, X.lastoreNull hexec (g := F0 m pc ls (.long x :: .int i :: .null :: rest)) rfl (rest := rest) rfl (by rw [hb]; exact hdg) t st, q⟩
theorem vx_fastoreN (hexec : p.tables.exec = Jvm.exec) (hb : c.code = cc) {x : UInt32} {i : Int32} (hdg : decode cc pc = .ok (.fastore, 1)) (k : vx_NoteN p l e R s m args below meth c H locs cells slots Q (F0 m pc ls rest)) : W p l e R s m args below meth c H locs cells slots Q (F0 m pc ls (.float x :: .int i :: .null :: rest)) := by
  intro T hT X
  obtain ⟨t, st, q⟩ := k T hT X
  exact ⟨t, X.fastoreNull hexec (g := F0 m pc ls (.float x :: .int i :: .null :: rest)) rfl (rest := rest) rfl (by rw [hb]; exact hdg) t st, q⟩
theorem vx_dastoreN (hexec : p.tables.exec = Jvm.exec) (hb : c.code = cc) {x : UInt64} {i : Int32} (hdg : decode cc pc = .ok (.dastore, 1)) (k : vx_NoteN p l e R s m args below meth c H locs cells slots Q (F0 m pc ls rest)) : W p l e R s m args below meth c H locs cells slots Q (F0 m pc ls (.double x :: .int i :: .null :: rest)) := by
  intro T hT X
  obtain ⟨t, st, q⟩ := k T hT X
  exact ⟨t, X.dastoreNull hexec (g := F0 m pc ls (.double x :: .int i :: .null :: rest)) rfl (rest := rest) rfl (by rw [hb]; exact hdg) t st, q⟩
theorem vx_bastoreN (hexec : p.tables.exec = Jvm.exec) (hb : c.code = cc) {x : Int32} {i : Int32} (hdg : decode cc pc = .ok (.bastore, 1)) (k : vx_NoteN p l e R s m args below meth c H locs cells slots Q (F0 m pc ls rest)) : W p l e R s m args below meth c H locs cells slots Q (F0 m pc ls (.int x :: .int i :: .null :: rest)) := by
  intro T hT X
  obtain ⟨t, st, q⟩ := k T hT X
  exact ⟨t, X.bastoreNull hexec (g := F0 m pc ls (.int x :: .int i :: .null :: rest)) rfl (rest := rest) rfl (by rw [hb]; exact hdg) t st, q⟩
theorem vx_castoreN (hexec : p.tables.exec = Jvm.exec) (hb : c.code = cc) {x : Int32} {i : Int32} (hdg : decode cc pc = .ok (.castore, 1)) (k : vx_NoteN p l e R s m args below meth c H locs cells slots Q (F0 m pc ls rest)) : W p l e R s m args below meth c H locs cells slots Q (F0 m pc ls (.int x :: .int i :: .null :: rest)) := by
  intro T hT X
  obtain ⟨t, st, q⟩ := k T hT X
  exact ⟨t, X.castoreNull hexec (g := F0 m pc ls (.int x :: .int i :: .null :: rest)) rfl (rest := rest) rfl (by rw [hb]; exact hdg) t st, q⟩
theorem vx_sastoreN (hexec : p.tables.exec = Jvm.exec) (hb : c.code = cc) {x : Int32} {i : Int32} (hdg : decode cc pc = .ok (.sastore, 1)) (k : vx_NoteN p l e R s m args below meth c H locs cells slots Q (F0 m pc ls rest)) : W p l e R s m args below meth c H locs cells slots Q (F0 m pc ls (.int x :: .int i :: .null :: rest)) := by
  intro T hT X
  obtain ⟨t, st, q⟩ := k T hT X
  exact ⟨t, X.sastoreNull hexec (g := F0 m pc ls (.int x :: .int i :: .null :: rest)) rfl (rest := rest) rfl (by rw [hb]; exact hdg) t st, q⟩
theorem vx_invokeN {own C : String} {index maxL : Nat} {y : MethodName} {bytes : ByteArray} {ret : Option FieldType} (hexec : p.tables.exec = Jvm.exec) (hb : c.code = cc) (hown : s.vm.findClass own = some m.cls) (hlink : (Cond.methodLink own index y).before args s = true) (hinst : (Cond.instanceMethod y).before args s = true) (hcode : (Cond.code y bytes maxL ret).before args s = true) (hsel : (Cond.selects C y y).before args s = true)
    (hx : y.cls ≠ "java/lang/invoke/MethodHandle" ∧ y.cls ≠ "java/lang/invoke/VarHandle") {As : List Value} (hlen : (parseMethodDescriptor y.desc).map (fun d => d.parameters.length) = some As.length) (hdg : decode cc pc = .ok (.invokevirtual index, 3))
    (k : vx_NoteN p l e R s m args below meth c H locs cells slots Q (F0 m pc ls rest)) {st0 : List Value} (hst : st0 = As.reverse ++ .null :: rest) : W p l e R s m args below meth c H locs cells slots Q (F0 m pc ls st0) := by
  intro T hT X
  obtain ⟨r0, r, hn, hrm, hstR, hsigR⟩ := va_Decl.of hinst hcode
  obtain ⟨c2, r2, m2, q1, q2, q3, q4, kP, hkP, hkPi⟩ := Cond.selects_spec hsel
  cases hn.symm.trans q3
  have hl9 : As.length = r.sig.parameters.length := by
    rw [hsigR] at hlen
    exact (Option.some.inj hlen).symm
  obtain ⟨vm', X1, st1⟩ := X.invokevirtualNull hexec hown hlink hn hrm hstR hkP hkPi hx (g := F0 m pc ls st0) rfl (argsL := As) (rest := rest) hl9 hst (by rw [hb]; exact hdg)
  obtain ⟨t, st, q⟩ := k (T.setVm vm') hT X1
  exact ⟨t, st1 t st, q⟩
theorem vx_newarrayZ {atype : ArrayType} (hexec : p.tables.exec = Jvm.exec) (hb : c.code = cc) {n : Int32} (h0 : n < 0) (hdg : decode cc pc = .ok (.newarray atype, 2)) (k : ∀ tx : String, tx = toString n → vx_Note p l e R s m args below meth c H locs cells slots Q (F0 m pc ls rest) "java/lang/NegativeArraySizeException" tx) : W p l e R s m args below meth c H locs cells slots Q (F0 m pc ls (.int n :: rest)) := by
  intro T hT X
  obtain ⟨t, st, q⟩ := k _ rfl T hT X
  exact ⟨t, X.newarrayNegative hexec (g := F0 m pc ls (.int n :: rest)) rfl h0 (rest := rest) rfl (by rw [hb]; exact hdg) t st, q⟩
end
end VXM
/-! ===== END ===== -/
/-! ===== BEGIN an exception as an object: made, kept, thrown later (no traces kept) ===== -/
section VXK
variable {p : Program} {l : Launch} {e : Env} {R : Room} {s : State} {m₀ : MethodId} {args : Array Value} {below : List Frame} {meth : Method} {c : Code} {W : State} {locs : List Loc} {cells slots : Nat}
set_option maxHeartbeats 1000000 in
theorem vx_ctorMadeS (X : Stand p l e R s m₀ args below meth c W locs cells slots) (hexec : p.tables.exec = Jvm.exec) (htr : e.platform.stackTraces = false) {own cls : String} {names : List String} {ic : Nat}
    (hown : s.vm.findClass own = some m₀.cls) (hcls : Bundle.fit cls = true) (hnames : ∀ n ∈ names, Bundle.fit n = true)
    (h : ∀ a ∈ Bundle.ownAtoms own ic cls names, a.before args s = true)
    (hlocs : ∀ x ∈ locs, ∀ cell, s.heap[x.base]? = some cell → cell.vm.isStatics = false)
    {a : Addr} {cX : ClassId} {kX : Class} (hfoundX : s.vm.findClass cls = some cX) (hkX : s.vm.classes[cX]? = some kX) (hcell : W.heap[a]? = some (freshCell cX kX)) (hnew : s.heap.size ≤ a)
    {msg : Value} (hmsg : msg.isRef = true)
    {g : JFrame} (hg : g.method = m₀) (hsize : g.locals.size = c.maxLocals) {rest : List Value} (hstack : g.stack = msg :: .ref a :: .ref a :: rest)
    (hd6 : decode c.code g.pc = .ok (.invokespecial ic, 3))
    (hRframes : names.length + 3 < R.frames) (hRlocals : 2 * g.monitorRoom + ((Value.ref a :: rest).map fun v => v.category).sum + (13 * (names.length + 1) + 42) ≤ R.locals) :
    ∃ (V : State) (ce : Cell) (L : List Loc), Stand p l e R s m₀ args below meth c (V.setCell a ce) (locs ++ L) cells slots ∧ (∀ y ∈ L, y.base = a) ∧ a < V.heap.size ∧ ce.cls = cX ∧ ce.vm = .none ∧
      ∀ target, Steps p.tables e below ((V.setCell a ce).setTop { g with stack := .ref a :: rest, pc := g.pc + 3 }) target → Steps p.tables e below (W.setTop g) target := by
  have howns : e.platform.frameOwnsMonitors = true := by rw [X.admits.platform]
  have hfin : e.platform.finalization = false := by rw [X.admits.platform]
  have hpl : e.platform.magicAccessors = ({} : Platform).magicAccessors := by rw [X.admits.platform]
  have a' : ∀ x, x ∈ Bundle.ownAtoms own ic cls names → x.holds args s none s [] = true := fun x hx => h x hx
  obtain ⟨T, Z0, L, -, Y⟩ := ThrowableC.of_atoms (args := args) howns hfin hpl (fun x hx => h x (by simp [Bundle.ownAtoms, hx]))
  obtain ⟨Z, M, LZ, LM, hnZ⟩ := Init0T.ofS_atoms (args := args) hpl L Y (fun x hx => h x (by simp [Bundle.ownAtoms, hx]))
  obtain ⟨P1, Ps, hlen, L1, hL, hP1m, hlink1, hlink⟩ := Bundle.chainS (args := args) hpl hnZ names cls hcls hnames (fun x hx => h x (by simp [Bundle.ownAtoms, hx]))
  have hfound : s.vm.findClass cls = some P1.m.cls := findClass_of_methodNamed hP1m
  cases Option.some.inj (hfoundX.symm.trans hfound)
  obtain ⟨c1, kX', hc1, hk, hord, -, -, hn6⟩ := Cond.instantiable_spec (a' (.instantiable cls 6) (by simp [Bundle.ownAtoms]))
  cases Option.some.inj (hc1.symm.trans hfound)
  cases Option.some.inj (hkX.symm.trans hk)
  have hsel0 : selectMethod e.platform s.vm P1.m.cls T.fill0 = .method T.fill0 := by
    obtain ⟨c2, r2, m2, q1, q2, q3, q4, -⟩ := Cond.selects_spec (a' (.selects cls Bundle.tFill0 Bundle.tFill0) (by simp [Bundle.ownAtoms]))
    cases Option.some.inj (q1.symm.trans hfound)
    cases Option.some.inj (q2.symm.trans (State.methodFound?_of_named Y.fill0 (by decide)))
    cases Option.some.inj (q3.symm.trans Y.fill0)
    rw [Launch.admits_selectMethod X.admits]; exact q4
  have hselF : selectMethod e.platform s.vm P1.m.cls T.fill = .method T.fill := by
    obtain ⟨c2, r2, m2, q1, q2, q3, q4, -⟩ := Cond.selects_spec (a' (.selects cls Bundle.tFill Bundle.tFill) (by simp [Bundle.ownAtoms]))
    cases Option.some.inj (q1.symm.trans hfound)
    cases Option.some.inj (q2.symm.trans (State.methodFound?_of_named Y.fill (by decide)))
    cases Option.some.inj (q3.symm.trans Y.fill)
    rw [Launch.admits_selectMethod X.admits]; exact q4
  obtain ⟨cellS0, hcS0, hiss⟩ := Y.statics
  obtain ⟨u0, hu0⟩ := Cond.staticRefV Y.unassigned L.unassignedStatic L.statics hcS0 hiss (a' (.isRef (.static Bundle.tN "UNASSIGNED_STACK" Bundle.steD)) (by simp [Bundle.ownAtoms]))
  obtain ⟨sen, hsen⟩ := Cond.staticRefV Y.sentinel L.sentinelStatic L.statics hcS0 hiss (a' (.isRef (.static Bundle.tN "SUPPRESSED_SENTINEL" Bundle.listD)) (by simp [Bundle.ownAtoms]))
  obtain ⟨ci198, i198, fB, hk198, hg198, ha198, hsB, -, hnB, htB, hffB⟩ := Cond.ownField (t := .object "java/lang/Object") Y.found L.cls (by decide +kernel) (a' (.fieldLink Bundle.tN 198 Bundle.tN "backtrace" "Ljava/lang/Object;") (by simp [Bundle.ownAtoms])) (a' (.lays Bundle.tN Bundle.tN "backtrace" "Ljava/lang/Object;") (by simp [Bundle.ownAtoms])) e.platform hpl
  obtain ⟨cellS, hcS', heS, -, hkeep⟩ := X.same.2.2.2.2.2 T.aS cellS0 hcS0
  have hcellS : W.heap[T.aS]? = some cellS := hcS'
  have hout' : ∀ i, (⟨T.aS, i⟩ : Loc) ∉ locs := fun i hmem => by
    have := hlocs _ hmem cellS0 hcS0
    rw [hiss] at this; cases this
  have hknownS : cellS.vm ≠ .unknown := by
    rw [heS]; intro hu
    rw [show cellS0.vm = .unknown from hu] at hiss
    cases hiss
  have hneS : T.aS ≠ a := Nat.ne_of_lt (Nat.lt_of_lt_of_le (Array.getElem?_eq_some_iff.mp hcS0).1 hnew)
  obtain ⟨iM, hffM⟩ := Y.msg
  obtain ⟨tyC, dC, hdC, hdnC⟩ := Cond.laysAt hfound hk Y.cause (a' (.lays cls Bundle.tN "cause" "Ljava/lang/Throwable;") (by simp [Bundle.ownAtoms]))
  obtain ⟨tyS, dS, hdS, hdnS⟩ := Cond.laysAt hfound hk Y.stack (a' (.lays cls Bundle.tN "stackTrace" Bundle.steD) (by simp [Bundle.ownAtoms]))
  obtain ⟨tyP, dP, hdP, hdnP⟩ := Cond.laysAt hfound hk Y.supp (a' (.lays cls Bundle.tN "suppressedExceptions" Bundle.listD) (by simp [Bundle.ownAtoms]))
  obtain ⟨tyM, dM, hdM, hdnM⟩ := Cond.laysAt hfound hk hffM (a' (.lays cls Bundle.tN "detailMessage" "Ljava/lang/String;") (by simp [Bundle.ownAtoms]))
  obtain ⟨tyB, dB, hdB, hdnB⟩ := Cond.laysAt hfound hk hffB (a' (.lays cls Bundle.tN "backtrace" "Ljava/lang/Object;") (by simp [Bundle.ownAtoms]))
  have bC := Cond.laysApart hdB hdC hdnB hdnC (by rw [hnB, Y.causeName]; decide)
  have bS := Cond.laysApart hdB hdS hdnB hdnS (by rw [hnB, Y.stackName]; decide)
  have bP := Cond.laysApart hdB hdP hdnB hdnP (by rw [hnB, Y.suppName]; decide)
  have hskip : SkipFacts T e.platform s (fun u => u) u0 ((preparedCellV T.toThrowableT (freshCell P1.m.cls kX) a u0 sen).withEntry W.cur) :=
    ⟨{ ci198 := ci198, i198 := i198, fBack := fB }, ⟨hk198, hg198, ha198, hsB⟩, by
      have := fresh_default (c := P1.m.cls) tyB
      rw [htB] at this
      simpa [preparedCellV, Cell.setSlot, Cell.withEntry, Array.getElem?_setIfInBounds, bC, bS, bP, bC.symm, bS.symm, bP.symm, defaultValue] using this, fun _ _ => rfl⟩
  obtain ⟨tm, methC, cdC, kC, vm₁, hnC, -, -, -, -, -, -, -, hW₁, st1⟩ := Steps.initColdS (tb := p.tables) (e := e) (below := below) (s := s) (U := W) X.here hexec X.warmed hpl hown (t := Bundle.initS cls) rfl rfl (Bundle.fit_spec hcls).2
    (a' (.methodLink own ic (Bundle.initS cls)) (by simp [Bundle.ownAtoms])) (h (.instanceMethod (Bundle.initS cls)) (by cases names <;> simp [Bundle.ownAtoms, Bundle.chainSAtoms, Bundle.passSAtoms])) (bytes := Bundle.six) (maxL := 2) (h (.code (Bundle.initS cls) Bundle.six 2 none) (by cases names <;> simp [Bundle.ownAtoms, Bundle.chainSAtoms, Bundle.passSAtoms]))
    (f := g) hg (a := a) (msg := msg) (rest := .ref a :: rest) hstack hd6
  cases Option.some.inj (hnC.symm.trans hP1m)
  have X₁ := X.noted hW₁
  obtain ⟨vm₂, X₂, st2⟩ := X₁.ctorMessageOffV hexec (g := { g with stack := .ref a :: rest }) hg hsize T L Z LZ M LM (P1 :: Ps)
    (fun P hP => by rcases List.mem_cons.mp hP with rfl | hP; exact L1; exact hL P hP) ⟨hlink1, hlink⟩ (u0 := u0) (sen := sen) (self := a) hmsg (cell := freshCell P1.m.cls kX) (cellS := cellS)
    hcell (fun _ => by simp) (by simp) rfl rfl hsel0 hselF hcellS hneS hknownS (by rw [hkeep _ (hout' _)]; exact hu0) (by rw [hkeep _ (hout' _)]; exact hsen)
    (Takes.of_laid hk hord tyC (by rw [Y.causeType]; rfl)) (Takes.of_laid hk hord tyS (by rw [Y.stackType]; exact fits_refV_array _ u0)) (Takes.of_laid hk hord tyP (by rw [Y.suppType]; exact fits_refV_object _ sen))
    (Takes.of_laid hk hord tyM (by rw [Y.msgType]; exact fits_refV_object _ ⟨msg, hmsg⟩)) Y.objLocals hskip htr [] hd6
    (by simp only [List.length_cons, hlen]; omega) (by simp only [List.length_cons, hlen]; exact hRlocals)
  have hlt : a < ((W.setVm vm₁).setVm vm₂).heap.size := (Array.getElem?_eq_some_iff.mp hcell).1
  refine ⟨(W.setVm vm₁).setVm vm₂, _, _, X₂, fun y hy => ?_, hlt, rfl, rfl, fun target hwalk => st1 _ (fun acts => ?_)⟩
  · simp only [List.mem_cons, List.not_mem_nil, or_false] at hy
    rcases hy with rfl | rfl | rfl | rfl | rfl <;> rfl
  · rw [doInvoke_state]
    exact st2 _ hwalk
set_option maxHeartbeats 1000000 in
theorem vx_ctorMade0 (X : Stand p l e R s m₀ args below meth c W locs cells slots) (hexec : p.tables.exec = Jvm.exec) (htr : e.platform.stackTraces = false) {own cls : String} {names : List String} {ic : Nat}
    (hown : s.vm.findClass own = some m₀.cls) (hcls : Bundle.fit cls = true) (hnames : ∀ n ∈ names, Bundle.fit n = true)
    (h : ∀ a ∈ Bundle.ownAtoms0 own ic cls names, a.before args s = true)
    (hlocs : ∀ x ∈ locs, ∀ cell, s.heap[x.base]? = some cell → cell.vm.isStatics = false)
    {a : Addr} {cX : ClassId} {kX : Class} (hfoundX : s.vm.findClass cls = some cX) (hkX : s.vm.classes[cX]? = some kX) (hcell : W.heap[a]? = some (freshCell cX kX)) (hnew : s.heap.size ≤ a)
    {g : JFrame} (hg : g.method = m₀) (hsize : g.locals.size = c.maxLocals) {rest : List Value} (hstack : g.stack = .ref a :: .ref a :: rest)
    (hd6 : decode c.code g.pc = .ok (.invokespecial ic, 3))
    (hRframes : names.length + 3 < R.frames) (hRlocals : 2 * g.monitorRoom + ((Value.ref a :: rest).map fun v => v.category).sum + (13 * (names.length + 1) + 41) ≤ R.locals) :
    ∃ (V : State) (ce : Cell) (L : List Loc), Stand p l e R s m₀ args below meth c (V.setCell a ce) (locs ++ L) cells slots ∧ (∀ y ∈ L, y.base = a) ∧ a < V.heap.size ∧ ce.cls = cX ∧ ce.vm = .none ∧
      ∀ target, Steps p.tables e below ((V.setCell a ce).setTop { g with stack := .ref a :: rest, pc := g.pc + 3 }) target → Steps p.tables e below (W.setTop g) target := by
  have howns : e.platform.frameOwnsMonitors = true := by rw [X.admits.platform]
  have hfin : e.platform.finalization = false := by rw [X.admits.platform]
  have hpl : e.platform.magicAccessors = ({} : Platform).magicAccessors := by rw [X.admits.platform]
  have a' : ∀ x, x ∈ Bundle.ownAtoms0 own ic cls names → x.holds args s none s [] = true := fun x hx => h x hx
  obtain ⟨T, Z, L, LZ, Y⟩ := ThrowableC.of_atoms (args := args) howns hfin hpl (fun x hx => h x (by simp [Bundle.ownAtoms0, hx]))
  obtain ⟨P1, Ps, hlen, L1, hL, hP1m, hlink1, hlink⟩ := Bundle.chain0 (args := args) hpl Y.init0 names cls hcls hnames (fun x hx => h x (by simp [Bundle.ownAtoms0, hx]))
  have hfound : s.vm.findClass cls = some P1.m.cls := findClass_of_methodNamed hP1m
  cases Option.some.inj (hfoundX.symm.trans hfound)
  obtain ⟨c1, kX', hc1, hk, hord, -, -, hn6⟩ := Cond.instantiable_spec (a' (.instantiable cls 6) (by simp [Bundle.ownAtoms0]))
  cases Option.some.inj (hc1.symm.trans hfound)
  cases Option.some.inj (hkX.symm.trans hk)
  have hsel0 : selectMethod e.platform s.vm P1.m.cls T.fill0 = .method T.fill0 := by
    obtain ⟨c2, r2, m2, q1, q2, q3, q4, -⟩ := Cond.selects_spec (a' (.selects cls Bundle.tFill0 Bundle.tFill0) (by simp [Bundle.ownAtoms0]))
    cases Option.some.inj (q1.symm.trans hfound)
    cases Option.some.inj (q2.symm.trans (State.methodFound?_of_named Y.fill0 (by decide)))
    cases Option.some.inj (q3.symm.trans Y.fill0)
    rw [Launch.admits_selectMethod X.admits]; exact q4
  have hselF : selectMethod e.platform s.vm P1.m.cls T.fill = .method T.fill := by
    obtain ⟨c2, r2, m2, q1, q2, q3, q4, -⟩ := Cond.selects_spec (a' (.selects cls Bundle.tFill Bundle.tFill) (by simp [Bundle.ownAtoms0]))
    cases Option.some.inj (q1.symm.trans hfound)
    cases Option.some.inj (q2.symm.trans (State.methodFound?_of_named Y.fill (by decide)))
    cases Option.some.inj (q3.symm.trans Y.fill)
    rw [Launch.admits_selectMethod X.admits]; exact q4
  obtain ⟨cellS0, hcS0, hiss⟩ := Y.statics
  obtain ⟨u0, hu0⟩ := Cond.staticRefV Y.unassigned L.unassignedStatic L.statics hcS0 hiss (a' (.isRef (.static Bundle.tN "UNASSIGNED_STACK" Bundle.steD)) (by simp [Bundle.ownAtoms0]))
  obtain ⟨sen, hsen⟩ := Cond.staticRefV Y.sentinel L.sentinelStatic L.statics hcS0 hiss (a' (.isRef (.static Bundle.tN "SUPPRESSED_SENTINEL" Bundle.listD)) (by simp [Bundle.ownAtoms0]))
  obtain ⟨ci198, i198, fB, hk198, hg198, ha198, hsB, -, hnB, htB, hffB⟩ := Cond.ownField (t := .object "java/lang/Object") Y.found L.cls (by decide +kernel) (a' (.fieldLink Bundle.tN 198 Bundle.tN "backtrace" "Ljava/lang/Object;") (by simp [Bundle.ownAtoms0])) (a' (.lays Bundle.tN Bundle.tN "backtrace" "Ljava/lang/Object;") (by simp [Bundle.ownAtoms0])) e.platform hpl
  obtain ⟨cellS, hcS', heS, -, hkeep⟩ := X.same.2.2.2.2.2 T.aS cellS0 hcS0
  have hcellS : W.heap[T.aS]? = some cellS := hcS'
  have hout' : ∀ i, (⟨T.aS, i⟩ : Loc) ∉ locs := fun i hmem => by
    have := hlocs _ hmem cellS0 hcS0
    rw [hiss] at this; cases this
  have hknownS : cellS.vm ≠ .unknown := by
    rw [heS]; intro hu
    rw [show cellS0.vm = .unknown from hu] at hiss
    cases hiss
  have hneS : T.aS ≠ a := Nat.ne_of_lt (Nat.lt_of_lt_of_le (Array.getElem?_eq_some_iff.mp hcS0).1 hnew)
  obtain ⟨iM, hffM⟩ := Y.msg
  obtain ⟨tyC, dC, hdC, hdnC⟩ := Cond.laysAt hfound hk Y.cause (a' (.lays cls Bundle.tN "cause" "Ljava/lang/Throwable;") (by simp [Bundle.ownAtoms0]))
  obtain ⟨tyS, dS, hdS, hdnS⟩ := Cond.laysAt hfound hk Y.stack (a' (.lays cls Bundle.tN "stackTrace" Bundle.steD) (by simp [Bundle.ownAtoms0]))
  obtain ⟨tyP, dP, hdP, hdnP⟩ := Cond.laysAt hfound hk Y.supp (a' (.lays cls Bundle.tN "suppressedExceptions" Bundle.listD) (by simp [Bundle.ownAtoms0]))
  obtain ⟨tyM, dM, hdM, hdnM⟩ := Cond.laysAt hfound hk hffM (a' (.lays cls Bundle.tN "detailMessage" "Ljava/lang/String;") (by simp [Bundle.ownAtoms0]))
  obtain ⟨tyB, dB, hdB, hdnB⟩ := Cond.laysAt hfound hk hffB (a' (.lays cls Bundle.tN "backtrace" "Ljava/lang/Object;") (by simp [Bundle.ownAtoms0]))
  have bC := Cond.laysApart hdB hdC hdnB hdnC (by rw [hnB, Y.causeName]; decide)
  have bS := Cond.laysApart hdB hdS hdnB hdnS (by rw [hnB, Y.stackName]; decide)
  have bP := Cond.laysApart hdB hdP hdnB hdnP (by rw [hnB, Y.suppName]; decide)
  have hskip : SkipFacts T e.platform s (fun u => u) u0 ((preparedCellV T.toThrowableT (freshCell P1.m.cls kX) a u0 sen).withEntry W.cur) :=
    ⟨{ ci198 := ci198, i198 := i198, fBack := fB }, ⟨hk198, hg198, ha198, hsB⟩, by
      have := fresh_default (c := P1.m.cls) tyB
      rw [htB] at this
      simpa [preparedCellV, Cell.setSlot, Cell.withEntry, Array.getElem?_setIfInBounds, bC, bS, bP, bC.symm, bS.symm, bP.symm, defaultValue] using this, fun _ _ => rfl⟩
  obtain ⟨tm, methC, cdC, kC, vm₁, hnC, -, -, -, -, -, -, -, hW₁, st1⟩ := Steps.initCold (tb := p.tables) (e := e) (below := below) (s := s) (U := W) X.here hexec X.warmed hpl hown (t := Bundle.init0 cls) rfl rfl (Bundle.fit_spec hcls).2
    (a' (.methodLink own ic (Bundle.init0 cls)) (by simp [Bundle.ownAtoms0])) (h (.instanceMethod (Bundle.init0 cls)) (by cases names <;> simp [Bundle.ownAtoms0, Bundle.chain0Atoms, Bundle.passAtoms])) (bytes := Bundle.five) (maxL := 1) (h (.code (Bundle.init0 cls) Bundle.five 1 none) (by cases names <;> simp [Bundle.ownAtoms0, Bundle.chain0Atoms, Bundle.passAtoms]))
    (f := g) hg (a := a) (rest := .ref a :: rest) hstack hd6
  cases Option.some.inj (hnC.symm.trans hP1m)
  have X₁ := X.noted hW₁
  obtain ⟨vm₂, X₂, st2⟩ := X₁.ctorPlainOffV hexec (g := { g with stack := .ref a :: rest }) hg hsize T L Z LZ (P1 :: Ps)
    (fun P hP => by rcases List.mem_cons.mp hP with rfl | hP; exact L1; exact hL P hP) ⟨hlink1, hlink⟩ (u0 := u0) (sen := sen) (self := a) (cell := freshCell P1.m.cls kX) (cellS := cellS)
    hcell (fun _ => by simp) (by simp) rfl rfl hsel0 hselF hcellS hneS hknownS (by rw [hkeep _ (hout' _)]; exact hu0) (by rw [hkeep _ (hout' _)]; exact hsen)
    (Takes.of_laid hk hord tyC (by rw [Y.causeType]; rfl)) (Takes.of_laid hk hord tyS (by rw [Y.stackType]; exact fits_refV_array _ u0)) (Takes.of_laid hk hord tyP (by rw [Y.suppType]; exact fits_refV_object _ sen)) Y.objLocals hskip htr [] hd6
    (by simp only [List.length_cons, hlen]; omega) (by simp only [List.length_cons, hlen]; exact hRlocals)
  have hlt : a < ((W.setVm vm₁).setVm vm₂).heap.size := (Array.getElem?_eq_some_iff.mp hcell).1
  refine ⟨(W.setVm vm₁).setVm vm₂, _, _, X₂, fun y hy => ?_, hlt, rfl, rfl, fun target hwalk => st1 _ (fun acts => ?_)⟩
  · simp only [List.mem_cons, List.not_mem_nil, or_false] at hy
    rcases hy with rfl | rfl | rfl | rfl <;> rfl
  · rw [doInvoke_state]
    exact st2 _ hwalk
end VXK
section VXK2
variable {p : Program} {l : Launch} {e : Env} {R : Room} {s : State} {m : MethodId} {args : Array Value} {below : List Frame} {meth : Method} {c : Code} {H : Heap} {locs : List Loc} {cells slots : Nat} {Q : State → Prop}
variable {ls : Array Slot} {rest : List Value} {D : va_G} {cl : List vw_C} {tys : List (ClassId × FieldType)} {ws : va_W}
/-- 'new E("text")' that isn't thrown at once: the object goes on the stack -/
theorem vx_makeS {cc : ByteArray} {pc : Nat} (hexec : p.tables.exec = Jvm.exec) (hb : c.code = cc) (hl : l.stackTraces = false) {own cls text : String} {names : List String} {ik is ic sa ci : Nat} {A : Nat → Prop} {T0 : u_T}
    (hown : s.vm.findClass own = some m.cls) (hcls : Bundle.fit cls = true) (hnames : ∀ n ∈ names, Bundle.fit n = true)
    (hk : (Cond.classLink own ik cls).before args s = true) (hini : (Cond.initialized cls).before args s = true) (hstr : vk_R own is text sa s) (hat : ∀ w ∈ vx_atS own ic cls names, w.before args s = true)
    (hgood : ∀ w ∈ Cond.classLink own ik cls :: Cond.initialized cls :: vx_atS own ic cls names, vx_ot w = true)
    (hU : vx_Zq Bundle.tN "UNASSIGNED_STACK" Bundle.steD A s s.heap) (hN : vx_Zq Bundle.tN "SUPPRESSED_SENTINEL" Bundle.listD A s s.heap) (hS : va_S A s.heap H locs) (hsize : ls.size = c.maxLocals)
    (d0 : decode cc pc = .ok (.new ik, 3)) (d3 : decode cc (pc + 3) = .ok (.dup, 1)) (d4 : decode cc (pc + 4) = .ok (.ldc is, 2)) (d6 : decode cc (pc + 6) = .ok (.invokespecial ic, 3))
    (hK : va_K D cl tys s) (hP : va_P D cl ws H) (hD : va_D A ws) (hA : ∀ q, s.heap.size ≤ q → A q) (hc : cl[ci]? = some (cls, T0, 0))
    (hRframes : names.length + 3 < R.frames) (hRlocals : (rest.map fun v => v.category).sum + (13 * (names.length + 1) + 43) ≤ R.locals) (hRcells : cells + 1 ≤ R.cells) (hRslots : slots + 6 ≤ R.slots)
    (kk : ∀ (q : Nat) (H1 : Heap), va_P D cl (ws ++ [(q, .inr (ci, []))]) H1 → va_D A (ws ++ [(q, .inr (ci, []))]) → va_S A s.heap H1 locs → W p l e R s m args below meth c H1 locs (cells + 1) (slots + 6) Q (F0 m (pc + 9) ls (.ref q :: rest))) :
    W p l e R s m args below meth c H locs cells slots Q (F0 m pc ls rest) := by
  intro T hT X
  subst hT
  have htr : e.platform.stackTraces = false := (show e.platform.stackTraces = l.stackTraces by rw [X.admits.platform]).trans hl
  have Y := vx_rebase X (R' := { frames := R.frames, locals := R.locals, cells := 1, slots := 6 }) (Nat.le_refl _) (Nat.le_refl _) hRcells hRslots
  obtain ⟨s', hA'⟩ : ∃ z, z = (T.setVm s.vm).setFrames (.invoking m args :: below) := ⟨_, rfl⟩
  rw [← hA'] at Y
  have hvm : s'.vm = s.vm := by rw [hA']; rfl
  have hhp : s'.heap = T.heap := by rw [hA']; rfl
  have hW0 : s.WarmedH s'.vm := by rw [hvm]; exact State.WarmedH.refl s
  have hat' : ∀ w ∈ vx_atS own ic cls names, w.before args s' = true := fun w hw => vx_ot_at hW0 hvm.symm (hgood w (List.mem_cons_of_mem _ (List.mem_cons_of_mem _ hw))) (hat w hw)
  have hk' : (Cond.classLink own ik cls).before args s' = true := vx_ot_at hW0 hvm.symm (hgood _ List.mem_cons_self) hk
  have hini' : (Cond.initialized cls).before args s' = true := vx_ot_at hW0 hvm.symm (hgood _ (List.mem_cons_of_mem _ List.mem_cons_self)) hini
  have hU' : vx_Zq Bundle.tN "UNASSIGNED_STACK" Bundle.steD A s' s'.heap := by rw [hhp]; exact vx_Zq.moved hW0.alike (hU.kept hS.2.1)
  have hN' : vx_Zq Bundle.tN "SUPPRESSED_SENTINEL" Bundle.listD A s' s'.heap := by rw [hhp]; exact vx_Zq.moved hW0.alike (hN.kept hS.2.1)
  have h : ∀ w ∈ Bundle.ownAtoms own ic cls names, w.before args s' = true := vx_own hat' (vx_isRefq hU'.1) (vx_isRefq hN'.1) hU'.2.word hN'.2.word
  have hown' : s'.vm.findClass own = some m.cls := by rw [hvm]; exact hown
  have hins : (Cond.instantiable cls 6).before args s' = true := h _ (by simp [Bundle.ownAtoms])
  obtain ⟨vm₁, cX, kX, hfX, hkX, -, -, X₁, st1⟩ := Y.newCold hexec (own := own) (C := cls) (index := ik) (n := 6) hown' hk' hins hini'
    (g := F0 m pc ls rest) rfl (by rw [hb]; exact d0) (Nat.le_refl _) (Nat.le_refl _)
  generalize hT1 : (T.setVm vm₁).pushCell { cls := cX, slots := kX.instanceTypes.map defaultValue, vm := .none } = T1 at X₁ st1
  have hcat : (Value.ref T.heap.size).category = 1 := rfl
  have hcellA : T1.heap[T.heap.size]? = some (freshCell cX kX) := by rw [← hT1]; exact State.heap_pushCell_size _ _
  have d3' : decode c.code (pc + 3) = .ok (.dup, 1) := by rw [hb]; exact d3
  have d4' : decode c.code (pc + 4) = .ok (.ldc is, 2) := by rw [hb]; exact d4
  have hstr' : vk_R own is text sa s' := vk_R.warm hW0 hstr
  obtain ⟨V, ce, L, Z, hL, hlt, hcl9, hvm9, st⟩ := vx_ctorMadeS X₁ hexec htr (own := own) (cls := cls) (names := names) (ic := ic) hown' hcls hnames h (fun x hx => nomatch hx) hfX hkX hcellA (by rw [hhp]; exact Nat.le_refl _) (msg := .ref sa) rfl
    (g := { method := m, pc := pc + 6, locals := ls, stack := .ref sa :: .ref T.heap.size :: .ref T.heap.size :: rest, locked := none }) rfl hsize (rest := rest) rfl
    (by rw [hb]; exact d6) hRframes (by simp only [List.map_cons, List.sum_cons, hcat]; omega)
  have Z0 := Stand.forget (locs := []) Z (fun y hy => by rw [hL y hy, hhp]; exact Nat.le_refl _)
  obtain ⟨f1, f2⟩ := vx_frame Z0.same
  rw [hhp] at f1 f2
  have hcid : ce.cls = D.1 ci := by
    rw [hcl9]
    have h1 := (hK.1 ci _ hc).2.1
    rw [hvm] at hfX
    exact Option.some.inj (hfX.symm.trans h1)
  have hh : (V.setCell T.heap.size ce).heap[T.heap.size]? = some ce := heapAt_setCell_self (s := V) ce hlt
  subst hA'
  have X5 := vx_back9 X Y Z0
  have X6 : Stand p l e R s m args below meth c (V.setCell T.heap.size ce) locs (cells + 1) (slots + 6) := { X5 with same := X5.same.mono (by omega) (by omega) }
  have hk9 : ∀ (k : Nat) (x : Nat × va_E), ws[k]? = some x → (V.setCell T.heap.size ce).heap[x.1]? = T.heap[x.1]? := fun k x hx => f2 x.1 ((hP k x hx).lt) (fun z hz => nomatch hz)
  obtain ⟨t, a1, b1⟩ := kk T.heap.size (V.setCell T.heap.size ce).heap ((hP.kept hk9).app (fun k x hx => by
      have hz : k < 1 := (List.getElem?_eq_some_iff.mp hx).1
      rw [show k = 0 by omega] at hx
      cases hx
      exact ⟨_, hc, ce, hh, hcid, hvm9, fun k hk => absurd hk (Nat.not_lt_zero k)⟩)) (hD.push hP rfl (hA _ hS.1)) ⟨Nat.le_trans hS.1 f1, fun q h1 h2 => (f2 q (Nat.lt_of_lt_of_le h1 hS.1) (fun z hz => nomatch hz)).trans (hS.2.1 q h1 h2), hS.2.2⟩ _ rfl X6
  refine ⟨t, st1 _ ?_, b1⟩
  show Steps p.tables e below (T1.setTop { method := m, pc := pc + 3, locals := ls, stack := .ref T.heap.size :: rest, locked := none }) _
  jvm_step X₁.here [X₁.here.top, hexec, d3', Value.category]
  exact X₁.ldcString hexec (own := own) (text := text) (index := is) (a := sa) hown' hstr'.1 hstr'.2
    (g := { method := m, pc := pc + 4, locals := ls, stack := .ref T.heap.size :: .ref T.heap.size :: rest, locked := none }) rfl d4' _ (st _ a1)
/-- 'new E()' that isn't thrown at once: the object goes on the stack -/
theorem vx_make0 {cc : ByteArray} {pc : Nat} (hexec : p.tables.exec = Jvm.exec) (hb : c.code = cc) (hl : l.stackTraces = false) {own cls : String} {names : List String} {ik ic ci : Nat} {A : Nat → Prop} {T0 : u_T}
    (hown : s.vm.findClass own = some m.cls) (hcls : Bundle.fit cls = true) (hnames : ∀ n ∈ names, Bundle.fit n = true)
    (hk : (Cond.classLink own ik cls).before args s = true) (hini : (Cond.initialized cls).before args s = true) (hat : ∀ w ∈ vx_at0 own ic cls names, w.before args s = true)
    (hgood : ∀ w ∈ Cond.classLink own ik cls :: Cond.initialized cls :: vx_at0 own ic cls names, vx_ot w = true)
    (hU : vx_Zq Bundle.tN "UNASSIGNED_STACK" Bundle.steD A s s.heap) (hN : vx_Zq Bundle.tN "SUPPRESSED_SENTINEL" Bundle.listD A s s.heap) (hS : va_S A s.heap H locs) (hsize : ls.size = c.maxLocals)
    (d0 : decode cc pc = .ok (.new ik, 3)) (d3 : decode cc (pc + 3) = .ok (.dup, 1)) (d4 : decode cc (pc + 4) = .ok (.invokespecial ic, 3))
    (hK : va_K D cl tys s) (hP : va_P D cl ws H) (hD : va_D A ws) (hA : ∀ q, s.heap.size ≤ q → A q) (hc : cl[ci]? = some (cls, T0, 0))
    (hRframes : names.length + 3 < R.frames) (hRlocals : (rest.map fun v => v.category).sum + (13 * (names.length + 1) + 42) ≤ R.locals) (hRcells : cells + 1 ≤ R.cells) (hRslots : slots + 6 ≤ R.slots)
    (kk : ∀ (q : Nat) (H1 : Heap), va_P D cl (ws ++ [(q, .inr (ci, []))]) H1 → va_D A (ws ++ [(q, .inr (ci, []))]) → va_S A s.heap H1 locs → W p l e R s m args below meth c H1 locs (cells + 1) (slots + 6) Q (F0 m (pc + 7) ls (.ref q :: rest))) :
    W p l e R s m args below meth c H locs cells slots Q (F0 m pc ls rest) := by
  intro T hT X
  subst hT
  have htr : e.platform.stackTraces = false := (show e.platform.stackTraces = l.stackTraces by rw [X.admits.platform]).trans hl
  have Y := vx_rebase X (R' := { frames := R.frames, locals := R.locals, cells := 1, slots := 6 }) (Nat.le_refl _) (Nat.le_refl _) hRcells hRslots
  obtain ⟨s', hA'⟩ : ∃ z, z = (T.setVm s.vm).setFrames (.invoking m args :: below) := ⟨_, rfl⟩
  rw [← hA'] at Y
  have hvm : s'.vm = s.vm := by rw [hA']; rfl
  have hhp : s'.heap = T.heap := by rw [hA']; rfl
  have hW0 : s.WarmedH s'.vm := by rw [hvm]; exact State.WarmedH.refl s
  have hat' : ∀ w ∈ vx_at0 own ic cls names, w.before args s' = true := fun w hw => vx_ot_at hW0 hvm.symm (hgood w (List.mem_cons_of_mem _ (List.mem_cons_of_mem _ hw))) (hat w hw)
  have hk' : (Cond.classLink own ik cls).before args s' = true := vx_ot_at hW0 hvm.symm (hgood _ List.mem_cons_self) hk
  have hini' : (Cond.initialized cls).before args s' = true := vx_ot_at hW0 hvm.symm (hgood _ (List.mem_cons_of_mem _ List.mem_cons_self)) hini
  have hU' : vx_Zq Bundle.tN "UNASSIGNED_STACK" Bundle.steD A s' s'.heap := by rw [hhp]; exact vx_Zq.moved hW0.alike (hU.kept hS.2.1)
  have hN' : vx_Zq Bundle.tN "SUPPRESSED_SENTINEL" Bundle.listD A s' s'.heap := by rw [hhp]; exact vx_Zq.moved hW0.alike (hN.kept hS.2.1)
  have h : ∀ w ∈ Bundle.ownAtoms0 own ic cls names, w.before args s' = true := vx_own hat' (vx_isRefq hU'.1) (vx_isRefq hN'.1) hU'.2.word hN'.2.word
  have hown' : s'.vm.findClass own = some m.cls := by rw [hvm]; exact hown
  have hins : (Cond.instantiable cls 6).before args s' = true := h _ (by simp [Bundle.ownAtoms0])
  obtain ⟨vm₁, cX, kX, hfX, hkX, -, -, X₁, st1⟩ := Y.newCold hexec (own := own) (C := cls) (index := ik) (n := 6) hown' hk' hins hini'
    (g := F0 m pc ls rest) rfl (by rw [hb]; exact d0) (Nat.le_refl _) (Nat.le_refl _)
  generalize hT1 : (T.setVm vm₁).pushCell { cls := cX, slots := kX.instanceTypes.map defaultValue, vm := .none } = T1 at X₁ st1
  have hcat : (Value.ref T.heap.size).category = 1 := rfl
  have hcellA : T1.heap[T.heap.size]? = some (freshCell cX kX) := by rw [← hT1]; exact State.heap_pushCell_size _ _
  have d3' : decode c.code (pc + 3) = .ok (.dup, 1) := by rw [hb]; exact d3
  obtain ⟨V, ce, L, Z, hL, hlt, hcl9, hvm9, st⟩ := vx_ctorMade0 X₁ hexec htr (own := own) (cls := cls) (names := names) (ic := ic) hown' hcls hnames h (fun x hx => nomatch hx) hfX hkX hcellA (by rw [hhp]; exact Nat.le_refl _)
    (g := { method := m, pc := pc + 4, locals := ls, stack := .ref T.heap.size :: .ref T.heap.size :: rest, locked := none }) rfl hsize (rest := rest) rfl
    (by rw [hb]; exact d4) hRframes (by simp only [List.map_cons, List.sum_cons, hcat]; omega)
  have Z0 := Stand.forget (locs := []) Z (fun y hy => by rw [hL y hy, hhp]; exact Nat.le_refl _)
  obtain ⟨f1, f2⟩ := vx_frame Z0.same
  rw [hhp] at f1 f2
  have hcid : ce.cls = D.1 ci := by
    rw [hcl9]
    have h1 := (hK.1 ci _ hc).2.1
    rw [hvm] at hfX
    exact Option.some.inj (hfX.symm.trans h1)
  have hh : (V.setCell T.heap.size ce).heap[T.heap.size]? = some ce := heapAt_setCell_self (s := V) ce hlt
  subst hA'
  have X5 := vx_back9 X Y Z0
  have X6 : Stand p l e R s m args below meth c (V.setCell T.heap.size ce) locs (cells + 1) (slots + 6) := { X5 with same := X5.same.mono (by omega) (by omega) }
  have hk9 : ∀ (k : Nat) (x : Nat × va_E), ws[k]? = some x → (V.setCell T.heap.size ce).heap[x.1]? = T.heap[x.1]? := fun k x hx => f2 x.1 ((hP k x hx).lt) (fun z hz => nomatch hz)
  obtain ⟨t, a1, b1⟩ := kk T.heap.size (V.setCell T.heap.size ce).heap ((hP.kept hk9).app (fun k x hx => by
      have hz : k < 1 := (List.getElem?_eq_some_iff.mp hx).1
      rw [show k = 0 by omega] at hx
      cases hx
      exact ⟨_, hc, ce, hh, hcid, hvm9, fun k hk => absurd hk (Nat.not_lt_zero k)⟩)) (hD.push hP rfl (hA _ hS.1)) ⟨Nat.le_trans hS.1 f1, fun q h1 h2 => (f2 q (Nat.lt_of_lt_of_le h1 hS.1) (fun z hz => nomatch hz)).trans (hS.2.1 q h1 h2), hS.2.2⟩ _ rfl X6
  refine ⟨t, st1 _ ?_, b1⟩
  show Steps p.tables e below (T1.setTop { method := m, pc := pc + 3, locals := ls, stack := .ref T.heap.size :: rest, locked := none }) _
  jvm_step X₁.here [X₁.here.top, hexec, d3', Value.category]
  exact st _ a1
/-- 'throw x' of an object that was made before -/
theorem vx_athrow {cc : ByteArray} {pc : Nat} (hexec : p.tables.exec = Jvm.exec) (hb : c.code = cc) {q : Addr} (hdg : decode cc pc = .ok (.athrow, 1)) (k : vx_W p l e R s m args below meth c H locs cells slots Q (F0 m pc ls rest) q) : W p l e R s m args below meth c H locs cells slots Q (F0 m pc ls (.ref q :: rest)) := by
  intro T hT X
  obtain ⟨t, st, hq⟩ := k T hT X
  refine ⟨t, ?_, hq⟩
  have hdg' : decode c.code pc = .ok (.athrow, 1) := by rw [hb]; exact hdg
  jvm_step X.here [X.here.top, hexec, hdg', athrow.wp_sem]
  exact st
end VXK2
/-! ===== END ===== -/
/-! ===== BEGIN a constructor that throws (launches without stack traces) ===== -/
section VXIA
variable {p : Program} {l : Launch} {e : Env} {R : Room} {s : State} {m : MethodId} {args : Array Value} {below : List Frame} {meth : Method} {c : Code} {T : State} {locs : List Loc} {cells slots : Nat}
theorem vx_callI (X : Stand p l e R s m args below meth c T locs cells slots) (hexec : p.tables.exec = Jvm.exec) {own : String} {index : Nat} {y : MethodName} {bytes : ByteArray} {maxL : Nat}
    (hown : s.vm.findClass own = some m.cls) (hy1 : y.name = "<init>") (hlink : (Cond.methodLink own index y).before args s = true) (hinst : (Cond.instanceMethod y).before args s = true)
    (hcode : (Cond.code y bytes maxL none).before args s = true) (hy : y.cls ≠ "java/lang/invoke/MethodHandle" ∧ y.cls ≠ "java/lang/invoke/VarHandle")
    {W9 : Nat} {Pre : Pt → Array Value → Prop} {Post : Pt → Array Value → Option Value → Pt → Prop} {PostX : Pt → Array Value → Addr → Pt → Prop} (hK : vx_Back l R p e below s args y 3 W9 Pre Post PostX)
    {g : JFrame} (hg : g.method = m) (hsize : g.locals.size = c.maxLocals) {a : Addr} {argsL rest : List Value} (hlen : ∀ sig, parseMethodDescriptor y.desc = some sig → argsL.length = sig.parameters.length)
    (hstack : g.stack = argsL.reverse ++ .ref a :: rest) (hW : 2 * g.monitorRoom + (rest.map fun v => v.category).sum ≤ W9) (hdg : decode c.code g.pc = .ok (.invokespecial index, 3))
    (hpre : ∀ vm₁, s.WarmedH vm₁ → Pre ⟨T.setVm vm₁, locs, cells, slots⟩ (Value.ref a :: argsL).toArray) :
    (∃ (v : Option Value) (vm₁ : Vm) (B : Pt), s.WarmedH vm₁ ∧ Stand p l e R s m args below meth c B.U B.locs B.cells B.slots ∧ Post ⟨T.setVm vm₁, locs, cells, slots⟩ (Value.ref a :: argsL).toArray v B ∧
      ∀ target, Steps p.tables e below (B.U.setTop { g with pc := g.pc + 3, stack := v.toList ++ rest }) target → Steps p.tables e below (T.setTop g) target) ∨
    (∃ (q : Addr) (vm₁ : Vm) (B : Pt), s.WarmedH vm₁ ∧ Stand p l e R s m args below meth c B.U B.locs B.cells B.slots ∧ PostX ⟨T.setVm vm₁, locs, cells, slots⟩ (Value.ref a :: argsL).toArray q B ∧
      Steps p.tables e below (T.setTop g) ((B.U.setTop { g with stack := rest }).pushFrame (.throwing q))) := by
  subst hg
  have hpl : e.platform.magicAccessors = ({} : Platform).magicAccessors := by rw [X.admits.platform]
  obtain ⟨mk, methM, cM, kP, vm₁, hnamed, hmethM, hcodeM, -, hlocalsM, -, hkP, -, hW₁, hstep₁⟩ := Steps.initColdArgs (e := e) X.here hexec X.warmed hpl hown hy1 hy hlink hinst hcode (f := g) rfl hlen hstack hdg
  have X₁ := X.noted hW₁
  rcases hK g.method meth c ⟨T.setVm vm₁, locs, cells, slots⟩ { g with stack := rest } (.invokespecial index) mk (Value.ref a :: argsL).toArray X₁ rfl hsize hdg hW (X₁.named hnamed) (hpre vm₁ X₁.warmed) with ⟨v, B, X', hpost, hsteps⟩ | ⟨q, B, X', hpost, hsteps⟩
  · exact Or.inl ⟨v, vm₁, B, X₁.warmed, X', hpost, fun target h => hstep₁ _ fun acts => by rw [doInvoke_state]; exact hsteps.trans h⟩
  · exact Or.inr ⟨q, vm₁, B, X₁.warmed, X', hpost, hstep₁ _ fun acts => by rw [doInvoke_state]; exact hsteps⟩
end VXIA
section VXIB
variable {p : Program} {l : Launch} {e : Env} {R : Room} {s : State} {m : MethodId} {args : Array Value} {below : List Frame} {meth : Method} {c : Code} {H : Heap} {locs : List Loc} {cells slots : Nat}
variable {y : MethodName} {bytes cc : ByteArray} {maxL nL mc ms n index : Nat} {ret : Option FieldType} {ws : List Cond} {rm : Room} {Pc : Array Value → State → Prop} {Qc : Array Value → State → Outcome → State → Prop} {XC : String → State → State → Prop} {free : Addr → Prop} {Ts : List Cond} {own C : String} {b : Addr} {As rest : List Value} {g : JFrame}
theorem vx_runI (S : CallFix p m c cc nL s args Ts own) (hM : vx_Met l y ws rm Pc Qc XC mc ms free) (cw : CallB R s args own index y bytes maxL none ws rm mc ms n ∧ y.name = "<init>" ∧ (Cond.instanceMethod y).before args s = true) (hp : PreS s H Pc (.ref b :: As))
    (hg : g.method = m) (hn : As.length = n) (hsize : g.locals.size = nL) (hstack : g.stack = As.reverse ++ .ref b :: rest) (hW : 2 * g.monitorRoom + (rest.map fun v => v.category).sum ≤ 8) (hdg : decode cc g.pc = .ok (.invokespecial index, 3)) (hf : cells + mc ≤ R.cells ∧ slots + ms ≤ R.slots) :
    vx_Run p l e R s m args below meth c H locs cells slots mc ms g rest (Qc (Value.ref b :: As).toArray) XC free := by
  have hK : vx_Back l R p e below s args y 3 8 (PreOf R mc ms Pc) (PostOf Qc mc ms free) (vx_Post XC mc ms free) := vx_callBack cw.1 hM hp.1
  obtain ⟨⟨-, -, -, -, -, -, hcode, -, hy, hlen, hl⟩, hy1, hin⟩ := cw
  obtain ⟨hx, hb, hml, ho, -⟩ := S
  have hPc := hp.2
  intro T hT X
  rcases vx_callI X hx (bytes := bytes) (maxL := maxL) ho hy1 hl hin hcode hy hK hg (hsize.trans hml.symm) (a := b) (argsL := As) (rest := rest) (fun sig h => hn.trans (hlen sig h)) hstack hW (by rw [hb]; exact hdg)
    (fun vm₁ hW₁ => ⟨hf.1, hf.2, hPc (T.setVm vm₁) hT hW₁⟩) with ⟨v, vm₁, ⟨U', l2, c2, s2⟩, hW₁, X', ⟨g', mk, t, L, e1, e2, hq, h1, hL, h2, h3⟩, st⟩ | ⟨q, vm₁, ⟨U', l2, c2, s2⟩, hW₁, X', ⟨g', mk, t, L, E, ce, e1, e2, hq, hce, hcv, hcl, h1, hL, h2, h3⟩, st⟩
  · dsimp only [Pt.U, Pt.locs, Pt.cells, Pt.slots] at X' e1 e2 h1 h2 h3 st
    subst h1; subst h2; subst h3
    exact Or.inl ⟨v, (T.setVm vm₁).calling g' mk (Value.ref b :: As).toArray, t, U', L, hT, X', hL, e1, e2, hq, st⟩
  · dsimp only [Pt.U, Pt.locs, Pt.cells, Pt.slots] at X' e1 e2 h1 h2 h3 st hcl
    subst h1; subst h2; subst h3
    exact Or.inr ⟨q, (T.setVm vm₁).calling g' mk (Value.ref b :: As).toArray, t, U', L, E, ce, hT, X', hL, e1, e2, hq, hce, hcv, vx_cls hW₁ hcl, st⟩
end VXIB
/-! ===== END ===== -/
/-! ===== BEGIN a private constructor of a nest mate that throws ===== -/
section VXIC
variable {p : Program} {l : Launch} {e : Env} {R : Room} {s : State} {m : MethodId} {args : Array Value} {below : List Frame} {meth : Method} {c : Code} {T : State} {locs : List Loc} {cells slots : Nat}
theorem vx_callIN (X : Stand p l e R s m args below meth c T locs cells slots) (hexec : p.tables.exec = Jvm.exec) {own : String} {index : Nat} {host : String} {y : MethodName} {bytes : ByteArray} {maxL : Nat}
    (hown : s.vm.findClass own = some m.cls) (hy1 : y.name = "<init>") (hlink : (Cond.methodLinkNest own index y host).before args s = true) (hinst : (Cond.instanceMethod y).before args s = true)
    (hcode : (Cond.code y bytes maxL none).before args s = true) (hy : y.cls ≠ "java/lang/invoke/MethodHandle" ∧ y.cls ≠ "java/lang/invoke/VarHandle")
    {W9 : Nat} {Pre : Pt → Array Value → Prop} {Post : Pt → Array Value → Option Value → Pt → Prop} {PostX : Pt → Array Value → Addr → Pt → Prop} (hK : vx_Back l R p e below s args y 3 W9 Pre Post PostX)
    {g : JFrame} (hg : g.method = m) (hsize : g.locals.size = c.maxLocals) {a : Addr} {argsL rest : List Value} (hlen : ∀ sig, parseMethodDescriptor y.desc = some sig → argsL.length = sig.parameters.length)
    (hstack : g.stack = argsL.reverse ++ .ref a :: rest) (hW : 2 * g.monitorRoom + (rest.map fun v => v.category).sum ≤ W9) (hdg : decode c.code g.pc = .ok (.invokespecial index, 3))
    (hpre : ∀ vm₁, s.WarmedH vm₁ → Pre ⟨T.setVm vm₁, locs, cells, slots⟩ (Value.ref a :: argsL).toArray) :
    (∃ (v : Option Value) (vm₁ : Vm) (B : Pt), s.WarmedH vm₁ ∧ Stand p l e R s m args below meth c B.U B.locs B.cells B.slots ∧ Post ⟨T.setVm vm₁, locs, cells, slots⟩ (Value.ref a :: argsL).toArray v B ∧
      ∀ target, Steps p.tables e below (B.U.setTop { g with pc := g.pc + 3, stack := v.toList ++ rest }) target → Steps p.tables e below (T.setTop g) target) ∨
    (∃ (q : Addr) (vm₁ : Vm) (B : Pt), s.WarmedH vm₁ ∧ Stand p l e R s m args below meth c B.U B.locs B.cells B.slots ∧ PostX ⟨T.setVm vm₁, locs, cells, slots⟩ (Value.ref a :: argsL).toArray q B ∧
      Steps p.tables e below (T.setTop g) ((B.U.setTop { g with stack := rest }).pushFrame (.throwing q))) := by
  subst hg
  have hpl : e.platform.magicAccessors = ({} : Platform).magicAccessors := by rw [X.admits.platform]
  obtain ⟨mk, methM, cM, kP, vm₁, hnamed, hmethM, hcodeM, -, hlocalsM, -, hkP, -, hW₁, hstep₁⟩ := Steps.initColdArgsNest (e := e) X.here hexec X.warmed hpl hown hy1 hy hlink hinst hcode (f := g) rfl hlen hstack hdg
  have X₁ := X.noted hW₁
  rcases hK g.method meth c ⟨T.setVm vm₁, locs, cells, slots⟩ { g with stack := rest } (.invokespecial index) mk (Value.ref a :: argsL).toArray X₁ rfl hsize hdg hW (X₁.named hnamed) (hpre vm₁ X₁.warmed) with ⟨v, B, X', hpost, hsteps⟩ | ⟨q, B, X', hpost, hsteps⟩
  · exact Or.inl ⟨v, vm₁, B, X₁.warmed, X', hpost, fun target h => hstep₁ _ fun acts => by rw [doInvoke_state]; exact hsteps.trans h⟩
  · exact Or.inr ⟨q, vm₁, B, X₁.warmed, X', hpost, hstep₁ _ fun acts => by rw [doInvoke_state]; exact hsteps⟩
end VXIC
section VXID
variable {p : Program} {l : Launch} {e : Env} {R : Room} {s : State} {m : MethodId} {args : Array Value} {below : List Frame} {meth : Method} {c : Code} {H : Heap} {locs : List Loc} {cells slots : Nat}
theorem vx_runIN {y : MethodName} {bytes cc : ByteArray} {maxL nL mc ms n index : Nat} {ws : List Cond} {rm : Room} {Pc : Array Value → State → Prop} {Qc : Array Value → State → Outcome → State → Prop} {XC : String → State → State → Prop} {free : Addr → Prop} {Ts : List Cond} {own host : String} {b : Addr} {As rest : List Value} {g : JFrame}
    (S : CallFix p m c cc nL s args Ts own) (hM : vx_Met l y ws rm Pc Qc XC mc ms free) (cw : va_CN R s args own index y host bytes maxL none ws rm mc ms n ∧ y.name = "<init>" ∧ (Cond.instanceMethod y).before args s = true) (hp : PreS s H Pc (.ref b :: As))
    (hg : g.method = m) (hn : As.length = n) (hsize : g.locals.size = nL) (hstack : g.stack = As.reverse ++ .ref b :: rest) (hW : 2 * g.monitorRoom + (rest.map fun v => v.category).sum ≤ 8) (hdg : decode cc g.pc = .ok (.invokespecial index, 3)) (hf : cells + mc ≤ R.cells ∧ slots + ms ≤ R.slots) :
    vx_Run p l e R s m args below meth c H locs cells slots mc ms g rest (Qc (Value.ref b :: As).toArray) XC free := by
  obtain ⟨⟨⟨hrc, hrs, hfr, hlo, hws, hcw⟩, hcode, hini, hy, hlen, hl⟩, hx1, hx2⟩ := cw
  have hK : vx_Back l R p e below s args y 3 8 (PreOf R mc ms Pc) (PostOf Qc mc ms free) (vx_Post XC mc ms free) := vx_back (bytes := bytes) (maxL := maxL) (ret := none) hM hp.1 hrc hrs hfr hlo hws hcw (fun a' U hW => word_at hW (Or.inl (by first | rfl | simp [Cond.onTables, Cond.keeps, Cond.steady])) hini)
  obtain ⟨hx, hb, hml, ho, -⟩ := S
  have hPc := hp.2
  intro T hT X
  rcases vx_callIN X hx (bytes := bytes) (maxL := maxL) ho hx1 hl hx2 hcode hy hK hg (hsize.trans hml.symm) (a := b) (argsL := As) (rest := rest) (fun sig h => hn.trans (hlen sig h)) hstack hW (by rw [hb]; exact hdg)
    (fun vm₁ hW₁ => ⟨hf.1, hf.2, hPc (T.setVm vm₁) hT hW₁⟩) with ⟨v, vm₁, ⟨U', l2, c2, s2⟩, hW₁, X', ⟨g', mk, t, L, e1, e2, hq, h1, hL, h2, h3⟩, st⟩ | ⟨q, vm₁, ⟨U', l2, c2, s2⟩, hW₁, X', ⟨g', mk, t, L, E, ce, e1, e2, hq, hce, hcv, hcl, h1, hL, h2, h3⟩, st⟩
  · dsimp only [Pt.U, Pt.locs, Pt.cells, Pt.slots] at X' e1 e2 h1 h2 h3 st
    subst h1; subst h2; subst h3
    exact Or.inl ⟨v, (T.setVm vm₁).calling g' mk (Value.ref b :: As).toArray, t, U', L, hT, X', hL, e1, e2, hq, st⟩
  · dsimp only [Pt.U, Pt.locs, Pt.cells, Pt.slots] at X' e1 e2 h1 h2 h3 st hcl
    subst h1; subst h2; subst h3
    exact Or.inr ⟨q, (T.setVm vm₁).calling g' mk (Value.ref b :: As).toArray, t, U', L, E, ce, hT, X', hL, e1, e2, hq, hce, hcv, vx_cls hW₁ hcl, st⟩
end VXID
/-! ===== END ===== -/
/-! ===== BEGIN a method of a class above, found by the receiver, that may throw (follows va_callVU, va_runU of this kit) ===== -/
section
variable {p : Program} {l : Launch} {e : Env} {R : Room} {s : State} {m : MethodId} {args : Array Value} {below : List Frame} {meth : Method} {c : Code} {H : Heap} {locs : List Loc} {cells slots : Nat}
theorem vx_callVU {T : State} {locs : List Loc} {cells slots : Nat} (X : Stand p l e R s m args below meth c T locs cells slots) (hexec : p.tables.exec = Jvm.exec) {own C owner : String} {index : Nat} {x y : MethodName} {bytes : ByteArray} {maxL : Nat} {ret : Option FieldType}
    (hown : s.vm.findClass own = some m.cls) (hlink : (Cond.methodLink own index x).before args s = true) (hsame : (Cond.sameMethod x.cls owner x.name x.desc).before args s = true)
    (hd0 : va_Decl s ⟨owner, x.name, x.desc⟩) (howner : owner ≠ "java/lang/invoke/MethodHandle" ∧ owner ≠ "java/lang/invoke/VarHandle")
    (hsel : (Cond.selects C x y).before args s = true) (hinst : (Cond.instanceMethod y).before args s = true) (hcode : (Cond.code y bytes maxL ret).before args s = true)
    {W : Nat} {Pre : Pt → Array Value → Prop} {Post : Pt → Array Value → Option Value → Pt → Prop} {PostX : Pt → Array Value → Addr → Pt → Prop} (hK : vx_Back l R p e below s args y 3 W Pre Post PostX)
    {b : Addr} {cellB : Cell} (hcell : T.heap[b]? = some cellB) (hobj : cellB.vm.isStatics = false) (hcls : s.vm.findClass C = some cellB.cls)
    {g : JFrame} (hg : g.method = m) (hsize : g.locals.size = c.maxLocals) {argsL rest : List Value} (hlen : ∀ sig, parseMethodDescriptor x.desc = some sig → argsL.length = sig.parameters.length)
    (hstack : g.stack = argsL.reverse ++ .ref b :: rest) (hW : 2 * g.monitorRoom + (rest.map fun v => v.category).sum ≤ W) (hdg : decode c.code g.pc = .ok (.invokevirtual index, 3))
    (hpre : ∀ vm₁, s.WarmedH vm₁ → Pre ⟨T.setVm vm₁, locs, cells, slots⟩ (Value.ref b :: argsL).toArray) :
    (∃ (v : Option Value) (vm₁ : Vm) (B : Pt), s.WarmedH vm₁ ∧ Stand p l e R s m args below meth c B.U B.locs B.cells B.slots ∧ Post ⟨T.setVm vm₁, locs, cells, slots⟩ (Value.ref b :: argsL).toArray v B ∧
      ∀ target, Steps p.tables e below (B.U.setTop { g with pc := g.pc + 3, stack := v.toList ++ rest }) target → Steps p.tables e below (T.setTop g) target) ∨
    (∃ (q : Addr) (vm₁ : Vm) (B : Pt), s.WarmedH vm₁ ∧ Stand p l e R s m args below meth c B.U B.locs B.cells B.slots ∧ PostX ⟨T.setVm vm₁, locs, cells, slots⟩ (Value.ref b :: argsL).toArray q B ∧
      Steps p.tables e below (T.setTop g) ((B.U.setTop { g with stack := rest }).pushFrame (.throwing q))) := by
  obtain ⟨r0, r, hn, hrm, hstR, hsigR⟩ := hd0
  obtain ⟨cn, ck, r1, hcn, hck, hni, hf, hn1⟩ := Cond.sameMethod_found hsame
  cases hn.symm.trans hn1
  obtain ⟨mk, methM, hnamed, hmethM, -, habM⟩ := Cond.instanceMethod_spec hinst
  obtain ⟨c2, r2, m2, q1, q2, q3, q4, kP, hkP, hkPi⟩ := Cond.selects_spec hsel
  cases hcls.symm.trans q1
  cases hf.symm.trans q2
  cases hnamed.symm.trans q3
  have hselP : selectMethod e.platform s.vm cellB.cls r0 = .method mk := by rw [Launch.admits_selectMethod X.admits]; exact q4
  obtain ⟨vm₁, X₁, hstep₁⟩ := X.invokevirtualUp hexec hown hlink hsame howner hn hrm hstR (a := b) (cell := cellB) hcell
    (fun z h => by rw [h] at hobj; cases hobj) hselP hmethM habM hkP hkPi (g := g) hg (argsL := argsL) (rest := rest) (hlen _ hsigR) hstack hdg
  rcases hK m meth c ⟨T.setVm vm₁, locs, cells, slots⟩ { g with stack := rest } (.invokevirtual index) mk (Value.ref b :: argsL).toArray X₁ hg hsize hdg hW (X₁.named hnamed) (hpre vm₁ X₁.warmed) with ⟨v, B, X', hpost, hsteps⟩ | ⟨q, B, X', hpost, hsteps⟩
  · exact Or.inl ⟨v, vm₁, B, X₁.warmed, X', hpost, fun target h => hstep₁ _ fun acts => by rw [doInvoke_state]; exact hsteps.trans h⟩
  · exact Or.inr ⟨q, vm₁, B, X₁.warmed, X', hpost, hstep₁ _ fun acts => by rw [doInvoke_state]; exact hsteps⟩
theorem vx_runU {x y : MethodName} {bytes cc : ByteArray} {maxL nL mc ms n index : Nat} {ret : Option FieldType} {ws : List Cond} {rm : Room} {Pc : Array Value → State → Prop} {Qc : Array Value → State → Outcome → State → Prop} {XC : String → State → State → Prop} {free : Addr → Prop} {Ts : List Cond} {own C owner : String} {b : Addr} {As rest : List Value} {g : JFrame}
    (S : CallFix p m c cc nL s args Ts own) (hM : vx_Met l y ws rm Pc Qc XC mc ms free) (cw : va_CU R s args own C owner index x y bytes maxL ret ws rm mc ms n) (hp : PreV s H C b Pc As)
    (hg : g.method = m) (hn : As.length = n) (hsize : g.locals.size = nL) (hstack : g.stack = As.reverse ++ .ref b :: rest) (hW : 2 * g.monitorRoom + (rest.map fun v => v.category).sum ≤ 8) (hdg : decode cc g.pc = .ok (.invokevirtual index, 3)) (hf : cells + mc ≤ R.cells ∧ slots + ms ≤ R.slots) :
    vx_Run p l e R s m args below meth c H locs cells slots mc ms g rest (Qc (Value.ref b :: As).toArray) XC free := by
  obtain ⟨hrc, hrs, hfr, hlo, hws, hcw⟩ := cw.back
  have hini := cw.init
  have hK : vx_Back l R p e below s args y 3 8 (PreOf R mc ms Pc) (PostOf Qc mc ms free) (vx_Post XC mc ms free) := vx_back (bytes := bytes) (maxL := maxL) (ret := ret) hM hp.1 hrc hrs hfr hlo hws hcw (fun a' U hW => word_at hW (Or.inl (by first | rfl | simp [Cond.onTables, Cond.keeps, Cond.steady])) hini)
  obtain ⟨hx, hb, hml, ho, -⟩ := S
  obtain ⟨-, ⟨cellB, hcB, hoB, hclB⟩, hPc⟩ := hp
  intro T hT X
  rcases vx_callVU X hx (C := C) (owner := owner) (bytes := bytes) (maxL := maxL) (ret := ret) ho cw.link cw.same cw.decl cw.notMH cw.sel cw.inst cw.code hK (by rw [hT]; exact hcB) hoB hclB hg (hsize.trans hml.symm) (argsL := As) (rest := rest) (fun sig h => hn.trans (cw.len sig h)) hstack hW (by rw [hb]; exact hdg)
    (fun vm₁ hW₁ => ⟨hf.1, hf.2, hPc (T.setVm vm₁) hT hW₁⟩) with ⟨v, vm₁, ⟨U', l2, c2, s2⟩, hW₁, X', ⟨g', mk, t, L, e1, e2, hq, h1, hL, h2, h3⟩, st⟩ | ⟨q, vm₁, ⟨U', l2, c2, s2⟩, hW₁, X', ⟨g', mk, t, L, E, ce, e1, e2, hq, hce, hcv, hcl, h1, hL, h2, h3⟩, st⟩
  · dsimp only [Pt.U, Pt.locs, Pt.cells, Pt.slots] at X' e1 e2 h1 h2 h3 st
    subst h1; subst h2; subst h3
    exact Or.inl ⟨v, (T.setVm vm₁).calling g' mk (Value.ref b :: As).toArray, t, U', L, hT, X', hL, e1, e2, hq, st⟩
  · dsimp only [Pt.U, Pt.locs, Pt.cells, Pt.slots] at X' e1 e2 h1 h2 h3 st hcl
    subst h1; subst h2; subst h3
    exact Or.inr ⟨q, (T.setVm vm₁).calling g' mk (Value.ref b :: As).toArray, t, U', L, E, ce, hT, X', hL, e1, e2, hq, hce, hcv, vx_cls hW₁ hcl, st⟩
end
/-! ===== END ===== -/
/-! ===== BEGIN super.m(..) that may throw (follows va_callSU, va_runSU) ===== -/
section
variable {p : Program} {l : Launch} {e : Env} {R : Room} {s : State} {m : MethodId} {args : Array Value} {below : List Frame} {meth : Method} {c : Code} {H : Heap} {locs : List Loc} {cells slots : Nat}
theorem vx_callSU {T : State} {locs : List Loc} {cells slots : Nat} (X : Stand p l e R s m args below meth c T locs cells slots) (hexec : p.tables.exec = Jvm.exec) {own : String} {index : Nat} {y : MethodName} {bytes : ByteArray} {maxL : Nat} {ret : Option FieldType}
    (hown : s.vm.findClass own = some m.cls) (hlink : (Cond.methodLink own index y).before args s = true) (hsame : (Cond.sameMethod y.cls y.cls y.name y.desc).before args s = true) (hsup : (Cond.superclass own y.cls).before args s = true)
    (hinst : (Cond.instanceMethod y).before args s = true) (hcode : (Cond.code y bytes maxL ret).before args s = true) (hno : y.name ≠ "<init>")
    {W : Nat} {Pre : Pt → Array Value → Prop} {Post : Pt → Array Value → Option Value → Pt → Prop} {PostX : Pt → Array Value → Addr → Pt → Prop} (hK : vx_Back l R p e below s args y 3 W Pre Post PostX)
    {b : Addr} {cellB : Cell} {kB : Class} (hcell : T.heap[b]? = some cellB) (hobj : cellB.vm.isStatics = false) (hkB : s.vm.classes[cellB.cls]? = some kB)
    {g : JFrame} (hg : g.method = m) (hsize : g.locals.size = c.maxLocals) {argsL rest : List Value} (hlen : ∀ sig, parseMethodDescriptor y.desc = some sig → argsL.length = sig.parameters.length)
    (hstack : g.stack = argsL.reverse ++ .ref b :: rest) (hW : 2 * g.monitorRoom + (rest.map fun v => v.category).sum ≤ W) (hdg : decode c.code g.pc = .ok (.invokespecial index, 3))
    (hpre : ∀ vm₁, s.WarmedH vm₁ → Pre ⟨T.setVm vm₁, locs, cells, slots⟩ (Value.ref b :: argsL).toArray) :
    (∃ (v : Option Value) (vm₁ : Vm) (B : Pt), s.WarmedH vm₁ ∧ Stand p l e R s m args below meth c B.U B.locs B.cells B.slots ∧ Post ⟨T.setVm vm₁, locs, cells, slots⟩ (Value.ref b :: argsL).toArray v B ∧
      ∀ target, Steps p.tables e below (B.U.setTop { g with pc := g.pc + 3, stack := v.toList ++ rest }) target → Steps p.tables e below (T.setTop g) target) ∨
    (∃ (q : Addr) (vm₁ : Vm) (B : Pt), s.WarmedH vm₁ ∧ Stand p l e R s m args below meth c B.U B.locs B.cells B.slots ∧ PostX ⟨T.setVm vm₁, locs, cells, slots⟩ (Value.ref b :: argsL).toArray q B ∧
      Steps p.tables e below (T.setTop g) ((B.U.setTop { g with stack := rest }).pushFrame (.throwing q))) := by
  obtain ⟨mk, methM, hnamed, hmethM, hstM, habM⟩ := Cond.instanceMethod_spec hinst
  obtain ⟨methM', cM, hmethM', -, -, -, -, -, -, hsigM⟩ := Cond.code_spec hnamed hcode
  cases hmethM.symm.trans hmethM'
  obtain ⟨ps, dk, kp, hps, hdk, hkp, hsuper, -, -, hnid⟩ := Cond.superclass_spec hown hsup
  have hn : s.methodNamed? ⟨y.cls, y.name, y.desc⟩ = some mk := hnamed
  have hpm : ps = mk.cls := Option.some.inj (hps.symm.trans (findClass_of_methodNamed hnamed))
  have hsub : s.vm.isSubclass ps mk.cls = true := by rw [hpm]; simp [Vm.isSubclass, Vm.isSubclassAux]
  obtain ⟨vm₁, X₁, hstep₁⟩ := X.invokespecialUp hexec hown hlink hsame hn hmethM hstM habM hno hdk hnid hps hsuper hsub (a := b) (cell := cellB) hcell
    (fun z h => by rw [h] at hobj; cases hobj) hkB (g := g) hg (argsL := argsL) (rest := rest) (hlen _ hsigM) hstack hdg
  rcases hK m meth c ⟨T.setVm vm₁, locs, cells, slots⟩ { g with stack := rest } (.invokespecial index) mk (Value.ref b :: argsL).toArray X₁ hg hsize hdg hW (X₁.named hnamed) (hpre vm₁ X₁.warmed) with ⟨v, B, X', hpost, hsteps⟩ | ⟨q, B, X', hpost, hsteps⟩
  · exact Or.inl ⟨v, vm₁, B, X₁.warmed, X', hpost, fun target h => hstep₁ _ (by rw [doInvoke_state]; exact hsteps.trans h)⟩
  · exact Or.inr ⟨q, vm₁, B, X₁.warmed, X', hpost, hstep₁ _ (by rw [doInvoke_state]; exact hsteps)⟩
theorem vx_runSU {y : MethodName} {bytes cc : ByteArray} {maxL nL mc ms n index : Nat} {ret : Option FieldType} {ws : List Cond} {rm : Room} {Pc : Array Value → State → Prop} {Qc : Array Value → State → Outcome → State → Prop} {XC : String → State → State → Prop} {free : Addr → Prop} {Ts : List Cond} {own C : String} {cC : ClassId} {b : Addr} {As rest : List Value} {g : JFrame}
    (hat : ClassAt s C cC) (S : CallFix p m c cc nL s args Ts own) (hM : vx_Met l y ws rm Pc Qc XC mc ms free) (cw : va_CS R s args own index y bytes maxL ret ws rm mc ms n) (hp : PreV s H C b Pc As)
    (hg : g.method = m) (hn : As.length = n) (hsize : g.locals.size = nL) (hstack : g.stack = As.reverse ++ .ref b :: rest) (hW : 2 * g.monitorRoom + (rest.map fun v => v.category).sum ≤ 8) (hdg : decode cc g.pc = .ok (.invokespecial index, 3)) (hf : cells + mc ≤ R.cells ∧ slots + ms ≤ R.slots) :
    vx_Run p l e R s m args below meth c H locs cells slots mc ms g rest (Qc (Value.ref b :: As).toArray) XC free := by
  obtain ⟨⟨hrc, hrs, hfr, hlo, hws, hcw⟩, hl1, hl2, hl3, hl4, hini, hcode, hno, hlen⟩ := cw
  have hK : vx_Back l R p e below s args y 3 8 (PreOf R mc ms Pc) (PostOf Qc mc ms free) (vx_Post XC mc ms free) := vx_back (bytes := bytes) (maxL := maxL) (ret := ret) hM hp.1 hrc hrs hfr hlo hws hcw (fun a' U hW => word_at hW (Or.inl (by first | rfl | simp [Cond.onTables, Cond.keeps, Cond.steady])) hini)
  obtain ⟨hx, hb, hml, ho, -⟩ := S
  obtain ⟨-, ⟨cellB, hcB, hoB, hclB⟩, hPc⟩ := hp
  obtain ⟨hfc, kB, hkB, -⟩ := hat
  cases hfc.symm.trans hclB
  intro T hT X
  rcases vx_callSU X hx (bytes := bytes) (maxL := maxL) (ret := ret) ho hl1 hl2 hl3 hl4 hcode hno hK (by rw [hT]; exact hcB) hoB hkB hg (hsize.trans hml.symm) (argsL := As) (rest := rest) (fun sig h => hn.trans (hlen sig h)) hstack hW (by rw [hb]; exact hdg)
    (fun vm₁ hW₁ => ⟨hf.1, hf.2, hPc (T.setVm vm₁) hT hW₁⟩) with ⟨v, vm₁, ⟨U', l2, c2, s2⟩, hW₁, X', ⟨g', mk, t, L, e1, e2, hq, h1, hL, h2, h3⟩, st⟩ | ⟨q, vm₁, ⟨U', l2, c2, s2⟩, hW₁, X', ⟨g', mk, t, L, E, ce, e1, e2, hq, hce, hcv, hcl, h1, hL, h2, h3⟩, st⟩
  · dsimp only [Pt.U, Pt.locs, Pt.cells, Pt.slots] at X' e1 e2 h1 h2 h3 st
    subst h1; subst h2; subst h3
    exact Or.inl ⟨v, (T.setVm vm₁).calling g' mk (Value.ref b :: As).toArray, t, U', L, hT, X', hL, e1, e2, hq, st⟩
  · dsimp only [Pt.U, Pt.locs, Pt.cells, Pt.slots] at X' e1 e2 h1 h2 h3 st hcl
    subst h1; subst h2; subst h3
    exact Or.inr ⟨q, (T.setVm vm₁).calling g' mk (Value.ref b :: As).toArray, t, U', L, E, ce, hT, X', hL, e1, e2, hq, hce, hcv, vx_cls hW₁ hcl, st⟩
end
/-! ===== END ===== -/
/-! ===== BEGIN a private method of a nest mate that may throw (follows va_callVN, va_callSN, va_runVN, va_runSN) ===== -/
section
variable {p : Program} {l : Launch} {e : Env} {R : Room} {s : State} {m : MethodId} {args : Array Value} {below : List Frame} {meth : Method} {c : Code} {H : Heap} {locs : List Loc} {cells slots : Nat}
variable {T : State}
theorem vx_callVN (X : Stand p l e R s m args below meth c T locs cells slots) (hexec : p.tables.exec = Jvm.exec) {own C : String} {index : Nat} {host : String} {y : MethodName} {bytes : ByteArray} {maxL : Nat} {ret : Option FieldType}
    (hown : s.vm.findClass own = some m.cls) (hlink : (Cond.methodLinkNest own index y host).before args s = true) (hinst : (Cond.instanceMethod y).before args s = true) (hsel : (Cond.selects C y y).before args s = true)
    (hcode : (Cond.code y bytes maxL ret).before args s = true) (hy : y.cls ≠ "java/lang/invoke/MethodHandle" ∧ y.cls ≠ "java/lang/invoke/VarHandle")
    {W : Nat} {Pre : Pt → Array Value → Prop} {Post : Pt → Array Value → Option Value → Pt → Prop} {PostX : Pt → Array Value → Addr → Pt → Prop} (hK : vx_Back l R p e below s args y 3 W Pre Post PostX)
    {b : Addr} {cellB : Cell} (hcell : T.heap[b]? = some cellB) (hobj : cellB.vm.isStatics = false) (hcls : s.vm.findClass C = some cellB.cls)
    {g : JFrame} (hg : g.method = m) (hsize : g.locals.size = c.maxLocals) {argsL rest : List Value} (hlen : ∀ sig, parseMethodDescriptor y.desc = some sig → argsL.length = sig.parameters.length)
    (hstack : g.stack = argsL.reverse ++ .ref b :: rest) (hW : 2 * g.monitorRoom + (rest.map fun v => v.category).sum ≤ W) (hdg : decode c.code g.pc = .ok (.invokevirtual index, 3))
    (hpre : ∀ vm₁, s.WarmedH vm₁ → Pre ⟨T.setVm vm₁, locs, cells, slots⟩ (Value.ref b :: argsL).toArray) :
    (∃ (v : Option Value) (vm₁ : Vm) (B : Pt), s.WarmedH vm₁ ∧ Stand p l e R s m args below meth c B.U B.locs B.cells B.slots ∧ Post ⟨T.setVm vm₁, locs, cells, slots⟩ (Value.ref b :: argsL).toArray v B ∧
      ∀ target, Steps p.tables e below (B.U.setTop { g with pc := g.pc + 3, stack := v.toList ++ rest }) target → Steps p.tables e below (T.setTop g) target) ∨
    (∃ (q : Addr) (vm₁ : Vm) (B : Pt), s.WarmedH vm₁ ∧ Stand p l e R s m args below meth c B.U B.locs B.cells B.slots ∧ PostX ⟨T.setVm vm₁, locs, cells, slots⟩ (Value.ref b :: argsL).toArray q B ∧
      Steps p.tables e below (T.setTop g) ((B.U.setTop { g with stack := rest }).pushFrame (.throwing q))) := by
  obtain ⟨mk, methM, hnamed, hmethM, hstM, habM⟩ := Cond.instanceMethod_spec hinst
  obtain ⟨methM', cM, hmethM', -, -, -, -, -, -, hsigM⟩ := Cond.code_spec hnamed hcode
  cases hmethM.symm.trans hmethM'
  obtain ⟨c2, r2, m2, q1, q2, q3, q4, kP, hkP, hkPi⟩ := Cond.selects_spec hsel
  cases hcls.symm.trans q1
  cases (State.methodFound?_of_named hnamed hy).symm.trans q2
  cases hnamed.symm.trans q3
  have hselP : selectMethod e.platform s.vm cellB.cls mk = .method mk := by rw [Launch.admits_selectMethod X.admits]; exact q4
  obtain ⟨vm₁, X₁, hstep₁⟩ := X.invokevirtualNest hexec hown hlink hnamed hmethM hstM hkP hkPi hy (a := b) (cell := cellB) hcell
    (fun z h => by rw [h] at hobj; cases hobj) hselP hmethM habM hkP hkPi (g := g) hg (argsL := argsL) (rest := rest) (hlen _ hsigM) hstack hdg
  rcases hK m meth c ⟨T.setVm vm₁, locs, cells, slots⟩ { g with stack := rest } (.invokevirtual index) mk (Value.ref b :: argsL).toArray X₁ hg hsize hdg hW (X₁.named hnamed) (hpre vm₁ X₁.warmed) with ⟨v, B, X', hpost, hsteps⟩ | ⟨q, B, X', hpost, hsteps⟩
  · exact Or.inl ⟨v, vm₁, B, X₁.warmed, X', hpost, fun target h => hstep₁ _ fun acts => by rw [doInvoke_state]; exact hsteps.trans h⟩
  · exact Or.inr ⟨q, vm₁, B, X₁.warmed, X', hpost, hstep₁ _ fun acts => by rw [doInvoke_state]; exact hsteps⟩
theorem vx_callSN (X : Stand p l e R s m args below meth c T locs cells slots) (hexec : p.tables.exec = Jvm.exec) {own : String} {index : Nat} {host : String} {y : MethodName} {bytes : ByteArray} {maxL : Nat} {ret : Option FieldType}
    (hown : s.vm.findClass own = some m.cls) (hlink : (Cond.methodLinkNest own index y host).before args s = true) (hstat : (Cond.static y).before args s = true) (hinit : (Cond.initialized y.cls).before args s = true)
    (hcode : (Cond.code y bytes maxL ret).before args s = true) (hy : y.cls ≠ "java/lang/invoke/MethodHandle" ∧ y.cls ≠ "java/lang/invoke/VarHandle")
    {W : Nat} {Pre : Pt → Array Value → Prop} {Post : Pt → Array Value → Option Value → Pt → Prop} {PostX : Pt → Array Value → Addr → Pt → Prop} (hK : vx_Back l R p e below s args y 3 W Pre Post PostX)
    {g : JFrame} (hg : g.method = m) (hsize : g.locals.size = c.maxLocals) {argsL rest : List Value} (hlen : ∀ sig, parseMethodDescriptor y.desc = some sig → argsL.length = sig.parameters.length)
    (hstack : g.stack = argsL.reverse ++ rest) (hW : 2 * g.monitorRoom + (rest.map fun v => v.category).sum ≤ W) (hdg : decode c.code g.pc = .ok (.invokestatic index, 3))
    (hpre : ∀ vm₁, s.WarmedH vm₁ → Pre ⟨T.setVm vm₁, locs, cells, slots⟩ argsL.toArray) :
    (∃ (v : Option Value) (vm₁ : Vm) (B : Pt), s.WarmedH vm₁ ∧ Stand p l e R s m args below meth c B.U B.locs B.cells B.slots ∧ Post ⟨T.setVm vm₁, locs, cells, slots⟩ argsL.toArray v B ∧
      ∀ target, Steps p.tables e below (B.U.setTop { g with pc := g.pc + 3, stack := v.toList ++ rest }) target → Steps p.tables e below (T.setTop g) target) ∨
    (∃ (q : Addr) (vm₁ : Vm) (B : Pt), s.WarmedH vm₁ ∧ Stand p l e R s m args below meth c B.U B.locs B.cells B.slots ∧ PostX ⟨T.setVm vm₁, locs, cells, slots⟩ argsL.toArray q B ∧
      Steps p.tables e below (T.setTop g) ((B.U.setTop { g with stack := rest }).pushFrame (.throwing q))) := by
  obtain ⟨mk, hnamed⟩ := Cond.code_named hcode
  obtain ⟨methM, cM, hmethM, -, -, -, -, -, -, hsigM⟩ := Cond.code_spec hnamed hcode
  have hstatic : methM.isStatic = true := Cond.static_spec hnamed hmethM hstat
  obtain ⟨kP, hkP, -⟩ := className_of_methodNamed hnamed
  have hinitP : kP.init = .initialized := Cond.initialized_spec (findClass_of_methodNamed hnamed) hkP hinit
  obtain ⟨vm₁, X₁, hstep₁⟩ := X.invokestaticNest hexec hown hlink hnamed hmethM hstatic hkP hinitP hy (g := g) hg (argsL := argsL) (rest := rest) (hlen _ hsigM) hstack hdg
  rcases hK m meth c ⟨T.setVm vm₁, locs, cells, slots⟩ { g with stack := rest } (.invokestatic index) mk argsL.toArray X₁ hg hsize hdg hW (X₁.named hnamed) (hpre vm₁ X₁.warmed) with ⟨v, B, X', hpost, hsteps⟩ | ⟨q, B, X', hpost, hsteps⟩
  · exact Or.inl ⟨v, vm₁, B, X₁.warmed, X', hpost, fun target h => hstep₁ _ fun acts => by rw [doInvoke_state]; exact hsteps.trans h⟩
  · exact Or.inr ⟨q, vm₁, B, X₁.warmed, X', hpost, hstep₁ _ fun acts => by rw [doInvoke_state]; exact hsteps⟩
theorem vx_runVN {y : MethodName} {bytes cc : ByteArray} {maxL nL mc ms n index : Nat} {ret : Option FieldType} {ws : List Cond} {rm : Room} {Pc : Array Value → State → Prop} {Qc : Array Value → State → Outcome → State → Prop} {XC : String → State → State → Prop} {free : Addr → Prop} {Ts : List Cond} {own C host : String} {b : Addr} {As rest : List Value} {g : JFrame}
    (S : CallFix p m c cc nL s args Ts own) (hM : vx_Met l y ws rm Pc Qc XC mc ms free) (cw : va_CN R s args own index y host bytes maxL ret ws rm mc ms n ∧ (Cond.instanceMethod y).before args s = true ∧ (Cond.selects C y y).before args s = true) (hp : PreV s H C b Pc As)
    (hg : g.method = m) (hn : As.length = n) (hsize : g.locals.size = nL) (hstack : g.stack = As.reverse ++ .ref b :: rest) (hW : 2 * g.monitorRoom + (rest.map fun v => v.category).sum ≤ 8) (hdg : decode cc g.pc = .ok (.invokevirtual index, 3)) (hf : cells + mc ≤ R.cells ∧ slots + ms ≤ R.slots) :
    vx_Run p l e R s m args below meth c H locs cells slots mc ms g rest (Qc (Value.ref b :: As).toArray) XC free := by
  obtain ⟨⟨⟨hrc, hrs, hfr, hlo, hws, hcw⟩, hcode, hini, hy, hlen, hl⟩, hx1, hx2⟩ := cw
  have hK : vx_Back l R p e below s args y 3 8 (PreOf R mc ms Pc) (PostOf Qc mc ms free) (vx_Post XC mc ms free) := vx_back (bytes := bytes) (maxL := maxL) (ret := ret) hM hp.1 hrc hrs hfr hlo hws hcw (fun a' U hW => word_at hW (Or.inl (by first | rfl | simp [Cond.onTables, Cond.keeps, Cond.steady])) hini)
  obtain ⟨hx, hb, hml, ho, -⟩ := S
  obtain ⟨-, ⟨cellB, hcB, hoB, hclB⟩, hPc⟩ := hp
  intro T hT X
  rcases vx_callVN X hx (C := C) (bytes := bytes) (maxL := maxL) (ret := ret) ho hl hx1 hx2 hcode hy hK (by rw [hT]; exact hcB) hoB hclB hg (hsize.trans hml.symm) (argsL := As) (rest := rest) (fun sig h => hn.trans (hlen sig h)) hstack hW (by rw [hb]; exact hdg)
    (fun vm₁ hW₁ => ⟨hf.1, hf.2, hPc (T.setVm vm₁) hT hW₁⟩) with ⟨v, vm₁, ⟨U', l2, c2, s2⟩, hW₁, X', ⟨g', mk, t, L, e1, e2, hq, h1, hL, h2, h3⟩, st⟩ | ⟨q, vm₁, ⟨U', l2, c2, s2⟩, hW₁, X', ⟨g', mk, t, L, E, ce, e1, e2, hq, hce, hcv, hcl, h1, hL, h2, h3⟩, st⟩
  · dsimp only [Pt.U, Pt.locs, Pt.cells, Pt.slots] at X' e1 e2 h1 h2 h3 st
    subst h1; subst h2; subst h3
    exact Or.inl ⟨v, (T.setVm vm₁).calling g' mk (Value.ref b :: As).toArray, t, U', L, hT, X', hL, e1, e2, hq, st⟩
  · dsimp only [Pt.U, Pt.locs, Pt.cells, Pt.slots] at X' e1 e2 h1 h2 h3 st hcl
    subst h1; subst h2; subst h3
    exact Or.inr ⟨q, (T.setVm vm₁).calling g' mk (Value.ref b :: As).toArray, t, U', L, E, ce, hT, X', hL, e1, e2, hq, hce, hcv, vx_cls hW₁ hcl, st⟩
theorem vx_runSN {y : MethodName} {bytes cc : ByteArray} {maxL nL mc ms n index : Nat} {ret : Option FieldType} {ws : List Cond} {rm : Room} {Pc : Array Value → State → Prop} {Qc : Array Value → State → Outcome → State → Prop} {XC : String → State → State → Prop} {free : Addr → Prop} {Ts : List Cond} {own host : String} {As rest : List Value} {g : JFrame}
    (S : CallFix p m c cc nL s args Ts own) (hM : vx_Met l y ws rm Pc Qc XC mc ms free) (cw : va_CN R s args own index y host bytes maxL ret ws rm mc ms n ∧ (Cond.static y).before args s = true ∧ True) (hp : PreS s H Pc As)
    (hg : g.method = m) (hn : As.length = n) (hsize : g.locals.size = nL) (hstack : g.stack = As.reverse ++ rest) (hW : 2 * g.monitorRoom + (rest.map fun v => v.category).sum ≤ 8) (hdg : decode cc g.pc = .ok (.invokestatic index, 3)) (hf : cells + mc ≤ R.cells ∧ slots + ms ≤ R.slots) :
    vx_Run p l e R s m args below meth c H locs cells slots mc ms g rest (Qc As.toArray) XC free := by
  obtain ⟨⟨⟨hrc, hrs, hfr, hlo, hws, hcw⟩, hcode, hini, hy, hlen, hl⟩, hx1, hx2⟩ := cw
  have hK : vx_Back l R p e below s args y 3 8 (PreOf R mc ms Pc) (PostOf Qc mc ms free) (vx_Post XC mc ms free) := vx_back (bytes := bytes) (maxL := maxL) (ret := ret) hM hp.1 hrc hrs hfr hlo hws hcw (fun a' U hW => word_at hW (Or.inl (by first | rfl | simp [Cond.onTables, Cond.keeps, Cond.steady])) hini)
  obtain ⟨hx, hb, hml, ho, -⟩ := S
  have hPc := hp.2
  intro T hT X
  rcases vx_callSN X hx (bytes := bytes) (maxL := maxL) (ret := ret) ho hl hx1 hini hcode hy hK hg (hsize.trans hml.symm) (argsL := As) (rest := rest) (fun sig h => hn.trans (hlen sig h)) hstack hW (by rw [hb]; exact hdg)
    (fun vm₁ hW₁ => ⟨hf.1, hf.2, hPc (T.setVm vm₁) hT hW₁⟩) with ⟨v, vm₁, ⟨U', l2, c2, s2⟩, hW₁, X', ⟨g', mk, t, L, e1, e2, hq, h1, hL, h2, h3⟩, st⟩ | ⟨q, vm₁, ⟨U', l2, c2, s2⟩, hW₁, X', ⟨g', mk, t, L, E, ce, e1, e2, hq, hce, hcv, hcl, h1, hL, h2, h3⟩, st⟩
  · dsimp only [Pt.U, Pt.locs, Pt.cells, Pt.slots] at X' e1 e2 h1 h2 h3 st
    subst h1; subst h2; subst h3
    exact Or.inl ⟨v, (T.setVm vm₁).calling g' mk As.toArray, t, U', L, hT, X', hL, e1, e2, hq, st⟩
  · dsimp only [Pt.U, Pt.locs, Pt.cells, Pt.slots] at X' e1 e2 h1 h2 h3 st hcl
    subst h1; subst h2; subst h3
    exact Or.inr ⟨q, (T.setVm vm₁).calling g' mk As.toArray, t, U', L, E, ce, hT, X', hL, e1, e2, hq, hce, hcv, vx_cls hW₁ hcl, st⟩
end
/-! ===== END ===== -/
/-! ===== BEGIN calls by an interface of methods that may throw (vx_callIF, vx_runF follow va_callIF, va_runF of this kit) ===== -/
section
variable {p : Program} {l : Launch} {e : Env} {R : Room} {s : State} {m : MethodId} {args : Array Value} {below : List Frame} {meth : Method} {c : Code} {H : Heap} {locs : List Loc} {cells slots : Nat} {Q : State → Prop}
variable {mc ms : Nat} {free : Addr → Prop} {A0 A1 : Nat → Prop} {H0 : Heap} {a : Array Value} {pc : Nat} {ls : Array Slot} {st0 rest : List Value}
def vx_Run5 (p : Program) (l : Launch) (e : Env) (R : Room) (s : State) (m : MethodId) (args : Array Value) (below : List Frame) (meth : Method) (c : Code) (H : Heap) (locs : List Loc) (cells slots mc ms : Nat) (g : JFrame) (rest : List Value) (Qa : State → Outcome → State → Prop) (XC : String → State → State → Prop) (free : Addr → Prop) : Prop :=
  ∀ T : State, T.heap = H → Stand p l e R s m args below meth c T locs cells slots →
    (∃ (v : Option Value) (st₀ t T' : State) (L : List Loc), st₀.heap = H ∧ Stand p l e R s m args below meth c T' (locs ++ L) (cells + mc) (slots + ms) ∧ (∀ q ∈ L, free q.base) ∧ T'.heap = t.heap ∧ T'.vm = t.vm ∧ Qa st₀ (.returned v) t ∧
      Goes p e below T g T' { g with pc := g.pc + 5, stack := v.toList ++ rest }) ∨
    (∃ (q : Addr) (st₀ t T' : State) (L : List Loc) (E : String) (ce : Cell), st₀.heap = H ∧ Stand p l e R s m args below meth c T' (locs ++ L) (cells + mc) (slots + ms) ∧ (∀ z ∈ L, free z.base) ∧ T'.heap = t.heap ∧ T'.vm = t.vm ∧ XC E st₀ t ∧ t.heap[q]? = some ce ∧ ce.vm = .none ∧ s.vm.findClass E = some ce.cls ∧
      Steps p.tables e below (T.setTop g) ((T'.setTop { g with stack := rest }).pushFrame (.throwing q)))
theorem vx_callIF {T : State} (X : Stand p l e R s m args below meth c T locs cells slots) (hexec : p.tables.exec = Jvm.exec) {own C : String} {index count : Nat} {x y : MethodName} {bytes : ByteArray} {maxL : Nat} {ret : Option FieldType}
    (hown : s.vm.findClass own = some m.cls) (hlink : (Cond.methodLink own index x).before args s = true) (hdecl : (Cond.declares x).before args s = true) (hface : (Cond.interfaceMethod x.cls x.cls x.name x.desc).before args s = true)
    (hsel : (Cond.selects C x y).before args s = true) (hinst : (Cond.instanceMethod y).before args s = true) (hpub : (Cond.publicMethod y).before args s = true) (hunh : (Cond.unhidden C x.name x.desc).before args s = true)
    (hcast : (Cond.castable C x.cls).before args s = true) (hcode : (Cond.code y bytes maxL ret).before args s = true) (hx : x.cls ≠ "java/lang/invoke/MethodHandle" ∧ x.cls ≠ "java/lang/invoke/VarHandle")
    {W9 : Nat} {Pre : Pt → Array Value → Prop} {Post : Pt → Array Value → Option Value → Pt → Prop} {PostX : Pt → Array Value → Addr → Pt → Prop} (hK : vx_Back l R p e below s args y 5 W9 Pre Post PostX)
    {b : Addr} {cellB : Cell} {kB : Class} (hcell : T.heap[b]? = some cellB) (hobj : cellB.vm.isStatics = false) (hcls : s.vm.findClass C = some cellB.cls) (hkB : s.vm.classes[cellB.cls]? = some kB)
    {g : JFrame} (hg : g.method = m) (hsize : g.locals.size = c.maxLocals) {argsL rest : List Value} (hlen : ∀ sig, parseMethodDescriptor x.desc = some sig → argsL.length = sig.parameters.length)
    (hstack : g.stack = argsL.reverse ++ .ref b :: rest) (hW : 2 * g.monitorRoom + (rest.map fun v => v.category).sum ≤ W9) (hdg : decode c.code g.pc = .ok (.invokeinterface index count, 5))
    (hpre : ∀ vm₁, s.WarmedH vm₁ → Pre ⟨T.setVm vm₁, locs, cells, slots⟩ (Value.ref b :: argsL).toArray) :
    (∃ (v : Option Value) (vm₁ : Vm) (B : Pt), s.WarmedH vm₁ ∧ Stand p l e R s m args below meth c B.U B.locs B.cells B.slots ∧ Post ⟨T.setVm vm₁, locs, cells, slots⟩ (Value.ref b :: argsL).toArray v B ∧
      ∀ target, Steps p.tables e below (B.U.setTop { g with pc := g.pc + 5, stack := v.toList ++ rest }) target → Steps p.tables e below (T.setTop g) target) ∨
    (∃ (q : Addr) (vm₁ : Vm) (B : Pt), s.WarmedH vm₁ ∧ Stand p l e R s m args below meth c B.U B.locs B.cells B.slots ∧ PostX ⟨T.setVm vm₁, locs, cells, slots⟩ (Value.ref b :: argsL).toArray q B ∧
      Steps p.tables e below (T.setTop g) ((B.U.setTop { g with stack := rest }).pushFrame (.throwing q))) := by
  obtain ⟨r0, r, hn, hrm, hstR, hsigR⟩ := Cond.declares_spec hdecl
  obtain ⟨cL, kL, r1, hcL, hkL, hiL, hfoundL, hn1⟩ := Cond.interfaceMethod_spec hface
  cases hn.symm.trans hn1
  have hr0cls : r0.cls = cL := Option.some.inj ((findClass_of_methodNamed hn).symm.trans hcL)
  obtain ⟨hnameR, hdescR⟩ := name_of_methodNamed hn hrm
  obtain ⟨mk, methM, hnamed, hmethM, -, habM⟩ := Cond.instanceMethod_spec hinst
  obtain ⟨c2, r2, m2, q1, q2, q3, q4, -⟩ := Cond.selects_spec hsel
  cases hcls.symm.trans q1
  cases hfoundL.symm.trans q2
  cases hnamed.symm.trans q3
  have hselP : selectMethod e.platform s.vm cellB.cls r0 = .method mk := by rw [Launch.admits_selectMethod X.admits]; exact q4
  have hpubM : hasFlag methM.accessFlags Acc.public_ = true := Cond.publicMethod_spec hnamed hmethM hpub
  have hway : ((cellB.cls :: s.vm.superclasses cellB.cls).any fun k => (declaredIn s.vm r.name r.desc k).any fun (_, z) => z.isPrivate || z.isStatic) = false := by
    rw [hnameR, hdescR]; exact Cond.unhidden_spec hcls hunh
  obtain ⟨c3, t3, w1, w2, w3⟩ := Cond.castable_spec hcast
  cases hcls.symm.trans w1
  cases hcL.symm.trans w2
  obtain ⟨vm₁, X₁, hstep₁⟩ := X.invokeinterface hexec hown hlink hn hrm hstR (by rw [hr0cls]; exact hkL) hiL hx (a := b) (cell := cellB) (kcell := kB) hcell
    (fun z h => by rw [h] at hobj; cases hobj) hkB (by rw [hr0cls]; exact w3) hselP hmethM hway hpubM habM (g := g) hg (argsL := argsL) (rest := rest) (hlen _ hsigR) hstack hdg
  rcases hK m meth c ⟨T.setVm vm₁, locs, cells, slots⟩ { g with stack := rest } (.invokeinterface index count) mk (Value.ref b :: argsL).toArray X₁ hg hsize hdg hW (X₁.named hnamed) (hpre vm₁ X₁.warmed) with ⟨v, B, X', hpost, hsteps⟩ | ⟨q, B, X', hpost, hsteps⟩
  · exact Or.inl ⟨v, vm₁, B, X₁.warmed, X', hpost, fun target h => hstep₁ _ fun acts => by rw [doInvoke_state]; exact hsteps.trans h⟩
  · exact Or.inr ⟨q, vm₁, B, X₁.warmed, X', hpost, hstep₁ _ fun acts => by rw [doInvoke_state]; exact hsteps⟩
theorem vx_runF {x y : MethodName} {bytes cc : ByteArray} {maxL nL mc ms n index count : Nat} {ret : Option FieldType} {ws : List Cond} {rm : Room} {Pc : Array Value → State → Prop} {Qc : Array Value → State → Outcome → State → Prop} {XC : String → State → State → Prop} {free : Addr → Prop} {Ts : List Cond} {own C : String} {cC : ClassId} {b : Addr} {As rest : List Value} {g : JFrame}
    (hat : ClassAt s C cC) (S : CallFix p m c cc nL s args Ts own) (hM : vx_Met l y ws rm Pc Qc XC mc ms free) (cw : va_CI R s args own C index x y bytes maxL ret ws rm mc ms n) (hp : PreV s H C b Pc As)
    (hg : g.method = m) (hn : As.length = n) (hsize : g.locals.size = nL) (hstack : g.stack = As.reverse ++ .ref b :: rest) (hW : 2 * g.monitorRoom + (rest.map fun v => v.category).sum ≤ 8) (hdg : decode cc g.pc = .ok (.invokeinterface index count, 5)) (hf : cells + mc ≤ R.cells ∧ slots + ms ≤ R.slots) :
    vx_Run5 p l e R s m args below meth c H locs cells slots mc ms g rest (Qc (Value.ref b :: As).toArray) XC free := by
  obtain ⟨hrc, hrs, hfr, hlo, hws, hcw⟩ := cw.back
  have hini := cw.init
  have hK : vx_Back l R p e below s args y 5 8 (PreOf R mc ms Pc) (PostOf Qc mc ms free) (vx_Post XC mc ms free) := vx_back (bytes := bytes) (maxL := maxL) (ret := ret) hM hp.1 hrc hrs hfr hlo hws hcw (fun a' U hW => word_at hW (Or.inl (by first | rfl | simp [Cond.onTables, Cond.keeps, Cond.steady])) hini)
  obtain ⟨hx, hb, hml, ho, -⟩ := S
  obtain ⟨-, ⟨cellB, hcB, hoB, hclB⟩, hPc⟩ := hp
  obtain ⟨hfc, kB, hkB, -⟩ := hat
  cases hfc.symm.trans hclB
  intro T hT X
  rcases vx_callIF X hx (C := C) (bytes := bytes) (maxL := maxL) (ret := ret) ho cw.link cw.decl cw.face cw.sel cw.inst cw.pub cw.unh cw.cast cw.code cw.notMH hK (by rw [hT]; exact hcB) hoB hclB hkB hg (hsize.trans hml.symm) (argsL := As) (rest := rest) (fun sig h => hn.trans (cw.len sig h)) hstack hW (by rw [hb]; exact hdg)
    (fun vm₁ hW₁ => ⟨hf.1, hf.2, hPc (T.setVm vm₁) hT hW₁⟩) with ⟨v, vm₁, ⟨U', l2, c2, s2⟩, hW₁, X', ⟨g', mk, t, L, e1, e2, hq, h1, hL, h2, h3⟩, st⟩ | ⟨q, vm₁, ⟨U', l2, c2, s2⟩, hW₁, X', ⟨g', mk, t, L, E, ce, e1, e2, hq, hce, hcv, hcl, h1, hL, h2, h3⟩, st⟩
  · dsimp only [Pt.U, Pt.locs, Pt.cells, Pt.slots] at X' e1 e2 h1 h2 h3 st
    subst h1; subst h2; subst h3
    exact Or.inl ⟨v, (T.setVm vm₁).calling g' mk (Value.ref b :: As).toArray, t, U', L, hT, X', hL, e1, e2, hq, st⟩
  · dsimp only [Pt.U, Pt.locs, Pt.cells, Pt.slots] at X' e1 e2 h1 h2 h3 st hcl
    subst h1; subst h2; subst h3
    exact Or.inr ⟨q, (T.setVm vm₁).calling g' mk (Value.ref b :: As).toArray, t, U', L, E, ce, hT, X', hL, e1, e2, hq, hce, hcv, vx_cls hW₁ hcl, st⟩
theorem vx_callFv {S SX : Type} {post : S → Prop} {px : SX → Prop} {B : S → State → Prop} {BX : String → SX → State → Prop} {AX : Nat → Prop} (hr : vx_Run5 p l e R s m args below meth c H locs cells slots mc ms (F0 m pc ls st0) rest (va_Qv post B A1 a) (vx_X px BX AX) free) (hS : va_S A0 H0 H locs) (hA : ∀ q, q < H.size → A1 q → A0 q) (hf : ∀ q, free q → A0 q) (hAX : ∀ q, q < H.size → AX q → A0 q)
    (kx : ∀ (E : String) (ce : Cell) (q9 : Addr) (u : SX) (t : State) (H1 : Heap) (locs1 : List Loc), t.heap = H1 → s.vm.Alike t.vm → px u → BX E u t → H.size ≤ H1.size → (∀ q : Nat, q < H.size → ¬ AX q → H1[q]? = H[q]?) → va_S A0 H0 H1 locs1 → H1[q9]? = some ce → ce.vm = .none → s.vm.findClass E = some ce.cls → vx_W p l e R s m args below meth c H1 locs1 (cells + mc) (slots + ms) Q (F0 m pc ls rest) q9)
    (kk : ∀ (u : S) (t : State) (H1 : Heap) (locs1 : List Loc), t.heap = H1 → s.vm.Alike t.vm → post u → B u t → H.size ≤ H1.size → (∀ q : Nat, q < H.size → ¬ A1 q → H1[q]? = H[q]?) → va_S A0 H0 H1 locs1 → W p l e R s m args below meth c H1 locs1 (cells + mc) (slots + ms) Q (F0 m (pc + 5) ls (rest))) : W p l e R s m args below meth c H locs cells slots Q (F0 m pc ls st0) := by
  intro T hT X
  rcases hr T hT X with ⟨v, st₀, t, T', L, h0, X', hL, e1, e2, ⟨⟨u, hv, hp, hb⟩, hF⟩, st⟩ | ⟨q, st₀, t, T', L, E, ce, h0, X', hL, e1, e2, ⟨u, hp, hb, hF⟩, hce, hcv, hcl, st⟩
  · cases hv
    obtain ⟨k1, k2, k3⟩ := vx_keep h0 e1 hS hA hf hL hF
    obtain ⟨t2, a1, b1⟩ := kk u t T'.heap (locs ++ L) e1.symm (by rw [← e2]; exact X'.warmed.alike) hp hb k1 k2 k3 T' rfl X'
    exact ⟨t2, st t2 a1, b1⟩
  · obtain ⟨k1, k2, k3⟩ := vx_keep h0 e1 hS hAX hf hL hF
    obtain ⟨t2, a1, b1⟩ := kx E ce q u t T'.heap (locs ++ L) e1.symm (by rw [← e2]; exact X'.warmed.alike) hp hb k1 k2 k3 (by rw [e1]; exact hce) hcv hcl T' rfl X'
    exact ⟨t2, st.trans a1, b1⟩
theorem vx_callFi {S SX : Type} {post : Int32 → S → Prop} {px : SX → Prop} {B : S → State → Prop} {BX : String → SX → State → Prop} {AX : Nat → Prop} (hr : vx_Run5 p l e R s m args below meth c H locs cells slots mc ms (F0 m pc ls st0) rest (va_Qi post B A1 a) (vx_X px BX AX) free) (hS : va_S A0 H0 H locs) (hA : ∀ q, q < H.size → A1 q → A0 q) (hf : ∀ q, free q → A0 q) (hAX : ∀ q, q < H.size → AX q → A0 q)
    (kx : ∀ (E : String) (ce : Cell) (q9 : Addr) (u : SX) (t : State) (H1 : Heap) (locs1 : List Loc), t.heap = H1 → s.vm.Alike t.vm → px u → BX E u t → H.size ≤ H1.size → (∀ q : Nat, q < H.size → ¬ AX q → H1[q]? = H[q]?) → va_S A0 H0 H1 locs1 → H1[q9]? = some ce → ce.vm = .none → s.vm.findClass E = some ce.cls → vx_W p l e R s m args below meth c H1 locs1 (cells + mc) (slots + ms) Q (F0 m pc ls rest) q9)
    (kk : ∀ (r : Int32) (u : S) (t : State) (H1 : Heap) (locs1 : List Loc), t.heap = H1 → s.vm.Alike t.vm → post r u → B u t → H.size ≤ H1.size → (∀ q : Nat, q < H.size → ¬ A1 q → H1[q]? = H[q]?) → va_S A0 H0 H1 locs1 → W p l e R s m args below meth c H1 locs1 (cells + mc) (slots + ms) Q (F0 m (pc + 5) ls (.int r :: rest))) : W p l e R s m args below meth c H locs cells slots Q (F0 m pc ls st0) := by
  intro T hT X
  rcases hr T hT X with ⟨v, st₀, t, T', L, h0, X', hL, e1, e2, ⟨⟨r, u, hv, hp, hb⟩, hF⟩, st⟩ | ⟨q, st₀, t, T', L, E, ce, h0, X', hL, e1, e2, ⟨u, hp, hb, hF⟩, hce, hcv, hcl, st⟩
  · cases hv
    obtain ⟨k1, k2, k3⟩ := vx_keep h0 e1 hS hA hf hL hF
    obtain ⟨t2, a1, b1⟩ := kk r u t T'.heap (locs ++ L) e1.symm (by rw [← e2]; exact X'.warmed.alike) hp hb k1 k2 k3 T' rfl X'
    exact ⟨t2, st t2 a1, b1⟩
  · obtain ⟨k1, k2, k3⟩ := vx_keep h0 e1 hS hAX hf hL hF
    obtain ⟨t2, a1, b1⟩ := kx E ce q u t T'.heap (locs ++ L) e1.symm (by rw [← e2]; exact X'.warmed.alike) hp hb k1 k2 k3 (by rw [e1]; exact hce) hcv hcl T' rfl X'
    exact ⟨t2, st.trans a1, b1⟩
theorem vx_callFl {S SX : Type} {post : Int64 → S → Prop} {px : SX → Prop} {B : S → State → Prop} {BX : String → SX → State → Prop} {AX : Nat → Prop} (hr : vx_Run5 p l e R s m args below meth c H locs cells slots mc ms (F0 m pc ls st0) rest (va_Ql post B A1 a) (vx_X px BX AX) free) (hS : va_S A0 H0 H locs) (hA : ∀ q, q < H.size → A1 q → A0 q) (hf : ∀ q, free q → A0 q) (hAX : ∀ q, q < H.size → AX q → A0 q)
    (kx : ∀ (E : String) (ce : Cell) (q9 : Addr) (u : SX) (t : State) (H1 : Heap) (locs1 : List Loc), t.heap = H1 → s.vm.Alike t.vm → px u → BX E u t → H.size ≤ H1.size → (∀ q : Nat, q < H.size → ¬ AX q → H1[q]? = H[q]?) → va_S A0 H0 H1 locs1 → H1[q9]? = some ce → ce.vm = .none → s.vm.findClass E = some ce.cls → vx_W p l e R s m args below meth c H1 locs1 (cells + mc) (slots + ms) Q (F0 m pc ls rest) q9)
    (kk : ∀ (r : Int64) (u : S) (t : State) (H1 : Heap) (locs1 : List Loc), t.heap = H1 → s.vm.Alike t.vm → post r u → B u t → H.size ≤ H1.size → (∀ q : Nat, q < H.size → ¬ A1 q → H1[q]? = H[q]?) → va_S A0 H0 H1 locs1 → W p l e R s m args below meth c H1 locs1 (cells + mc) (slots + ms) Q (F0 m (pc + 5) ls (.long r :: rest))) : W p l e R s m args below meth c H locs cells slots Q (F0 m pc ls st0) := by
  intro T hT X
  rcases hr T hT X with ⟨v, st₀, t, T', L, h0, X', hL, e1, e2, ⟨⟨r, u, hv, hp, hb⟩, hF⟩, st⟩ | ⟨q, st₀, t, T', L, E, ce, h0, X', hL, e1, e2, ⟨u, hp, hb, hF⟩, hce, hcv, hcl, st⟩
  · cases hv
    obtain ⟨k1, k2, k3⟩ := vx_keep h0 e1 hS hA hf hL hF
    obtain ⟨t2, a1, b1⟩ := kk r u t T'.heap (locs ++ L) e1.symm (by rw [← e2]; exact X'.warmed.alike) hp hb k1 k2 k3 T' rfl X'
    exact ⟨t2, st t2 a1, b1⟩
  · obtain ⟨k1, k2, k3⟩ := vx_keep h0 e1 hS hAX hf hL hF
    obtain ⟨t2, a1, b1⟩ := kx E ce q u t T'.heap (locs ++ L) e1.symm (by rw [← e2]; exact X'.warmed.alike) hp hb k1 k2 k3 (by rw [e1]; exact hce) hcv hcl T' rfl X'
    exact ⟨t2, st.trans a1, b1⟩
theorem vx_callFf {S SX : Type} {post : UInt32 → S → Prop} {px : SX → Prop} {B : S → State → Prop} {BX : String → SX → State → Prop} {AX : Nat → Prop} (hr : vx_Run5 p l e R s m args below meth c H locs cells slots mc ms (F0 m pc ls st0) rest (va_Qf post B A1 a) (vx_X px BX AX) free) (hS : va_S A0 H0 H locs) (hA : ∀ q, q < H.size → A1 q → A0 q) (hf : ∀ q, free q → A0 q) (hAX : ∀ q, q < H.size → AX q → A0 q)
    (kx : ∀ (E : String) (ce : Cell) (q9 : Addr) (u : SX) (t : State) (H1 : Heap) (locs1 : List Loc), t.heap = H1 → s.vm.Alike t.vm → px u → BX E u t → H.size ≤ H1.size → (∀ q : Nat, q < H.size → ¬ AX q → H1[q]? = H[q]?) → va_S A0 H0 H1 locs1 → H1[q9]? = some ce → ce.vm = .none → s.vm.findClass E = some ce.cls → vx_W p l e R s m args below meth c H1 locs1 (cells + mc) (slots + ms) Q (F0 m pc ls rest) q9)
    (kk : ∀ (r : UInt32) (u : S) (t : State) (H1 : Heap) (locs1 : List Loc), t.heap = H1 → s.vm.Alike t.vm → post r u → B u t → H.size ≤ H1.size → (∀ q : Nat, q < H.size → ¬ A1 q → H1[q]? = H[q]?) → va_S A0 H0 H1 locs1 → W p l e R s m args below meth c H1 locs1 (cells + mc) (slots + ms) Q (F0 m (pc + 5) ls (.float r :: rest))) : W p l e R s m args below meth c H locs cells slots Q (F0 m pc ls st0) := by
  intro T hT X
  rcases hr T hT X with ⟨v, st₀, t, T', L, h0, X', hL, e1, e2, ⟨⟨r, u, hv, hp, hb⟩, hF⟩, st⟩ | ⟨q, st₀, t, T', L, E, ce, h0, X', hL, e1, e2, ⟨u, hp, hb, hF⟩, hce, hcv, hcl, st⟩
  · cases hv
    obtain ⟨k1, k2, k3⟩ := vx_keep h0 e1 hS hA hf hL hF
    obtain ⟨t2, a1, b1⟩ := kk r u t T'.heap (locs ++ L) e1.symm (by rw [← e2]; exact X'.warmed.alike) hp hb k1 k2 k3 T' rfl X'
    exact ⟨t2, st t2 a1, b1⟩
  · obtain ⟨k1, k2, k3⟩ := vx_keep h0 e1 hS hAX hf hL hF
    obtain ⟨t2, a1, b1⟩ := kx E ce q u t T'.heap (locs ++ L) e1.symm (by rw [← e2]; exact X'.warmed.alike) hp hb k1 k2 k3 (by rw [e1]; exact hce) hcv hcl T' rfl X'
    exact ⟨t2, st.trans a1, b1⟩
theorem vx_callFd {S SX : Type} {post : UInt64 → S → Prop} {px : SX → Prop} {B : S → State → Prop} {BX : String → SX → State → Prop} {AX : Nat → Prop} (hr : vx_Run5 p l e R s m args below meth c H locs cells slots mc ms (F0 m pc ls st0) rest (va_Qd post B A1 a) (vx_X px BX AX) free) (hS : va_S A0 H0 H locs) (hA : ∀ q, q < H.size → A1 q → A0 q) (hf : ∀ q, free q → A0 q) (hAX : ∀ q, q < H.size → AX q → A0 q)
    (kx : ∀ (E : String) (ce : Cell) (q9 : Addr) (u : SX) (t : State) (H1 : Heap) (locs1 : List Loc), t.heap = H1 → s.vm.Alike t.vm → px u → BX E u t → H.size ≤ H1.size → (∀ q : Nat, q < H.size → ¬ AX q → H1[q]? = H[q]?) → va_S A0 H0 H1 locs1 → H1[q9]? = some ce → ce.vm = .none → s.vm.findClass E = some ce.cls → vx_W p l e R s m args below meth c H1 locs1 (cells + mc) (slots + ms) Q (F0 m pc ls rest) q9)
    (kk : ∀ (r : UInt64) (u : S) (t : State) (H1 : Heap) (locs1 : List Loc), t.heap = H1 → s.vm.Alike t.vm → post r u → B u t → H.size ≤ H1.size → (∀ q : Nat, q < H.size → ¬ A1 q → H1[q]? = H[q]?) → va_S A0 H0 H1 locs1 → W p l e R s m args below meth c H1 locs1 (cells + mc) (slots + ms) Q (F0 m (pc + 5) ls (.double r :: rest))) : W p l e R s m args below meth c H locs cells slots Q (F0 m pc ls st0) := by
  intro T hT X
  rcases hr T hT X with ⟨v, st₀, t, T', L, h0, X', hL, e1, e2, ⟨⟨r, u, hv, hp, hb⟩, hF⟩, st⟩ | ⟨q, st₀, t, T', L, E, ce, h0, X', hL, e1, e2, ⟨u, hp, hb, hF⟩, hce, hcv, hcl, st⟩
  · cases hv
    obtain ⟨k1, k2, k3⟩ := vx_keep h0 e1 hS hA hf hL hF
    obtain ⟨t2, a1, b1⟩ := kk r u t T'.heap (locs ++ L) e1.symm (by rw [← e2]; exact X'.warmed.alike) hp hb k1 k2 k3 T' rfl X'
    exact ⟨t2, st t2 a1, b1⟩
  · obtain ⟨k1, k2, k3⟩ := vx_keep h0 e1 hS hAX hf hL hF
    obtain ⟨t2, a1, b1⟩ := kx E ce q u t T'.heap (locs ++ L) e1.symm (by rw [← e2]; exact X'.warmed.alike) hp hb k1 k2 k3 (by rw [e1]; exact hce) hcv hcl T' rfl X'
    exact ⟨t2, st.trans a1, b1⟩
end
/-! ===== END ===== -/
/-! ===== BEGIN by an interface, a method with a table of its own that may throw (follows va_callIFW, va_runFW) ===== -/
section
variable {p : Program} {l : Launch} {e : Env} {R : Room} {s : State} {m : MethodId} {args : Array Value} {below : List Frame} {meth : Method} {c : Code} {H : Heap} {locs : List Loc} {cells slots : Nat}
theorem vx_callIFW {T : State} (X : Stand p l e R s m args below meth c T locs cells slots) (hexec : p.tables.exec = Jvm.exec) {own C : String} {index count : Nat} {x y : MethodName} {bytes : ByteArray} {maxL : Nat} {ret : Option FieldType} {hh : List (Nat × Nat × Nat × Nat)}
    (hown : s.vm.findClass own = some m.cls) (hlink : (Cond.methodLink own index x).before args s = true) (hdecl : (Cond.declares x).before args s = true) (hface : (Cond.interfaceMethod x.cls x.cls x.name x.desc).before args s = true)
    (hsel : (Cond.selects C x y).before args s = true) (hinst : (Cond.instanceMethod y).before args s = true) (hpub : (Cond.publicMethod y).before args s = true) (hunh : (Cond.unhidden C x.name x.desc).before args s = true)
    (hcast : (Cond.castable C x.cls).before args s = true) (hcode : (Cond.codeWith y bytes maxL ret hh).before args s = true) (hx : x.cls ≠ "java/lang/invoke/MethodHandle" ∧ x.cls ≠ "java/lang/invoke/VarHandle")
    {W : Nat} {Pre : Pt → Array Value → Prop} {Post : Pt → Array Value → Option Value → Pt → Prop} {PostX : Pt → Array Value → Addr → Pt → Prop} (hK : vx_Back l R p e below s args y 5 W Pre Post PostX)
    {b : Addr} {cellB : Cell} {kB : Class} (hcell : T.heap[b]? = some cellB) (hobj : cellB.vm.isStatics = false) (hcls : s.vm.findClass C = some cellB.cls) (hkB : s.vm.classes[cellB.cls]? = some kB)
    {g : JFrame} (hg : g.method = m) (hsize : g.locals.size = c.maxLocals) {argsL rest : List Value} (hlen : ∀ sig, parseMethodDescriptor x.desc = some sig → argsL.length = sig.parameters.length)
    (hstack : g.stack = argsL.reverse ++ .ref b :: rest) (hW : 2 * g.monitorRoom + (rest.map fun v => v.category).sum ≤ W) (hdg : decode c.code g.pc = .ok (.invokeinterface index count, 5))
    (hpre : ∀ vm₁, s.WarmedH vm₁ → Pre ⟨T.setVm vm₁, locs, cells, slots⟩ (Value.ref b :: argsL).toArray) :
    (∃ (v : Option Value) (vm₁ : Vm) (B : Pt), s.WarmedH vm₁ ∧ Stand p l e R s m args below meth c B.U B.locs B.cells B.slots ∧ Post ⟨T.setVm vm₁, locs, cells, slots⟩ (Value.ref b :: argsL).toArray v B ∧
      ∀ target, Steps p.tables e below (B.U.setTop { g with pc := g.pc + 5, stack := v.toList ++ rest }) target → Steps p.tables e below (T.setTop g) target) ∨
    (∃ (q : Addr) (vm₁ : Vm) (B : Pt), s.WarmedH vm₁ ∧ Stand p l e R s m args below meth c B.U B.locs B.cells B.slots ∧ PostX ⟨T.setVm vm₁, locs, cells, slots⟩ (Value.ref b :: argsL).toArray q B ∧
      Steps p.tables e below (T.setTop g) ((B.U.setTop { g with stack := rest }).pushFrame (.throwing q))) := by
  obtain ⟨r0, r, hn, hrm, hstR, hsigR⟩ := Cond.declares_spec hdecl
  obtain ⟨cL, kL, r1, hcL, hkL, hiL, hfoundL, hn1⟩ := Cond.interfaceMethod_spec hface
  cases hn.symm.trans hn1
  have hr0cls : r0.cls = cL := Option.some.inj ((findClass_of_methodNamed hn).symm.trans hcL)
  obtain ⟨hnameR, hdescR⟩ := name_of_methodNamed hn hrm
  obtain ⟨mk, methM, hnamed, hmethM, -, habM⟩ := Cond.instanceMethod_spec hinst
  obtain ⟨c2, r2, m2, q1, q2, q3, q4, -⟩ := Cond.selects_spec hsel
  cases hcls.symm.trans q1
  cases hfoundL.symm.trans q2
  cases hnamed.symm.trans q3
  have hselP : selectMethod e.platform s.vm cellB.cls r0 = .method mk := by rw [Launch.admits_selectMethod X.admits]; exact q4
  have hpubM : hasFlag methM.accessFlags Acc.public_ = true := Cond.publicMethod_spec hnamed hmethM hpub
  have hway : ((cellB.cls :: s.vm.superclasses cellB.cls).any fun k => (declaredIn s.vm r.name r.desc k).any fun (_, z) => z.isPrivate || z.isStatic) = false := by
    rw [hnameR, hdescR]; exact Cond.unhidden_spec hcls hunh
  obtain ⟨c3, t3, w1, w2, w3⟩ := Cond.castable_spec hcast
  cases hcls.symm.trans w1
  cases hcL.symm.trans w2
  obtain ⟨vm₁, X₁, hstep₁⟩ := X.invokeinterface hexec hown hlink hn hrm hstR (by rw [hr0cls]; exact hkL) hiL hx (a := b) (cell := cellB) (kcell := kB) hcell
    (fun z h => by rw [h] at hobj; cases hobj) hkB (by rw [hr0cls]; exact w3) hselP hmethM hway hpubM habM (g := g) hg (argsL := argsL) (rest := rest) (hlen _ hsigR) hstack hdg
  rcases hK m meth c ⟨T.setVm vm₁, locs, cells, slots⟩ { g with stack := rest } (.invokeinterface index count) mk (Value.ref b :: argsL).toArray X₁ hg hsize hdg hW (X₁.named hnamed) (hpre vm₁ X₁.warmed) with ⟨v, B, X', hpost, hsteps⟩ | ⟨q, B, X', hpost, hsteps⟩
  · exact Or.inl ⟨v, vm₁, B, X₁.warmed, X', hpost, fun target h => hstep₁ _ fun acts => by rw [doInvoke_state]; exact hsteps.trans h⟩
  · exact Or.inr ⟨q, vm₁, B, X₁.warmed, X', hpost, hstep₁ _ fun acts => by rw [doInvoke_state]; exact hsteps⟩
theorem vx_runFW {x y : MethodName} {bytes cc : ByteArray} {maxL nL mc ms n index count : Nat} {ret : Option FieldType} {hh : List (Nat × Nat × Nat × Nat)} {ws : List Cond} {rm : Room} {Pc : Array Value → State → Prop} {Qc : Array Value → State → Outcome → State → Prop} {XC : String → State → State → Prop} {free : Addr → Prop} {Ts : List Cond} {own C : String} {cC : ClassId} {b : Addr} {As rest : List Value} {g : JFrame}
    (hat : ClassAt s C cC) (S : CallFix p m c cc nL s args Ts own) (hM : vx_Met l y ws rm Pc Qc XC mc ms free) (cw : va_CIW R s args own C index x y bytes maxL ret hh ws rm mc ms n) (hp : PreV s H C b Pc As)
    (hg : g.method = m) (hn : As.length = n) (hsize : g.locals.size = nL) (hstack : g.stack = As.reverse ++ .ref b :: rest) (hW : 2 * g.monitorRoom + (rest.map fun v => v.category).sum ≤ 8) (hdg : decode cc g.pc = .ok (.invokeinterface index count, 5)) (hf : cells + mc ≤ R.cells ∧ slots + ms ≤ R.slots) :
    vx_Run5 p l e R s m args below meth c H locs cells slots mc ms g rest (Qc (Value.ref b :: As).toArray) XC free := by
  obtain ⟨hrc, hrs, hfr, hlo, hws, hcw⟩ := cw.back
  have hini := cw.init
  have hK : vx_Back l R p e below s args y 5 8 (PreOf R mc ms Pc) (PostOf Qc mc ms free) (vx_Post XC mc ms free) := vx_backW (hh := hh) (bytes := bytes) (maxL := maxL) (ret := ret) hM hp.1 hrc hrs hfr hlo hws hcw (fun a' U hW => word_at hW (Or.inl (by first | rfl | simp [Cond.onTables, Cond.keeps, Cond.steady])) hini)
  obtain ⟨hx, hb, hml, ho, -⟩ := S
  obtain ⟨-, ⟨cellB, hcB, hoB, hclB⟩, hPc⟩ := hp
  obtain ⟨hfc, kB, hkB, -⟩ := hat
  cases hfc.symm.trans hclB
  intro T hT X
  rcases vx_callIFW X hx (C := C) (hh := hh) (bytes := bytes) (maxL := maxL) (ret := ret) ho cw.link cw.decl cw.face cw.sel cw.inst cw.pub cw.unh cw.cast cw.code cw.notMH hK (by rw [hT]; exact hcB) hoB hclB hkB hg (hsize.trans hml.symm) (argsL := As) (rest := rest) (fun sig h => hn.trans (cw.len sig h)) hstack hW (by rw [hb]; exact hdg)
    (fun vm₁ hW₁ => ⟨hf.1, hf.2, hPc (T.setVm vm₁) hT hW₁⟩) with ⟨v, vm₁, ⟨U', l2, c2, s2⟩, hW₁, X', ⟨g', mk, t, L, e1, e2, hq, h1, hL, h2, h3⟩, st⟩ | ⟨q, vm₁, ⟨U', l2, c2, s2⟩, hW₁, X', ⟨g', mk, t, L, E, ce, e1, e2, hq, hce, hcv, hcl, h1, hL, h2, h3⟩, st⟩
  · dsimp only [Pt.U, Pt.locs, Pt.cells, Pt.slots] at X' e1 e2 h1 h2 h3 st
    subst h1; subst h2; subst h3
    exact Or.inl ⟨v, (T.setVm vm₁).calling g' mk (Value.ref b :: As).toArray, t, U', L, hT, X', hL, e1, e2, hq, st⟩
  · dsimp only [Pt.U, Pt.locs, Pt.cells, Pt.slots] at X' e1 e2 h1 h2 h3 st hcl
    subst h1; subst h2; subst h3
    exact Or.inr ⟨q, (T.setVm vm₁).calling g' mk (Value.ref b :: As).toArray, t, U', L, E, ce, hT, X', hL, e1, e2, hq, hce, hcv, vx_cls hW₁ hcl, st⟩
end
/-! ===== END ===== -/
/-! ===== BEGIN .. of methods that hand back an object of the pool ===== -/
section
variable {p : Program} {l : Launch} {e : Env} {R : Room} {s : State} {m : MethodId} {args : Array Value} {below : List Frame} {meth : Method} {c : Code} {H : Heap} {locs : List Loc} {cells slots : Nat} {Q : State → Prop}
variable {mc ms : Nat} {free : Addr → Prop} {A0 A1 : Nat → Prop} {H0 : Heap} {a : Array Value} {pc : Nat} {ls : Array Slot} {st0 rest : List Value}
theorem vx_callq {S SX : Type} {post : Option Nat → S → Prop} {px : SX → Prop} {B : S → State → Prop} {BX : String → SX → State → Prop} {AX : Nat → Prop} (hr : vx_Run p l e R s m args below meth c H locs cells slots mc ms (F0 m pc ls st0) rest (va_Qq post B A1 a) (vx_X px BX AX) free) (hS : va_S A0 H0 H locs) (hA : ∀ q, q < H.size → A1 q → A0 q) (hf : ∀ q, free q → A0 q) (hAX : ∀ q, q < H.size → AX q → A0 q)
    (kx : ∀ (E : String) (ce : Cell) (q9 : Addr) (u : SX) (t : State) (H1 : Heap) (locs1 : List Loc), t.heap = H1 → s.vm.Alike t.vm → px u → BX E u t → H.size ≤ H1.size → (∀ q : Nat, q < H.size → ¬ AX q → H1[q]? = H[q]?) → va_S A0 H0 H1 locs1 → H1[q9]? = some ce → ce.vm = .none → s.vm.findClass E = some ce.cls → vx_W p l e R s m args below meth c H1 locs1 (cells + mc) (slots + ms) Q (F0 m pc ls rest) q9)
    (kk : ∀ (r : Option Nat) (u : S) (t : State) (H1 : Heap) (locs1 : List Loc), t.heap = H1 → s.vm.Alike t.vm → post r u → B u t → H.size ≤ H1.size → (∀ q : Nat, q < H.size → ¬ A1 q → H1[q]? = H[q]?) → va_S A0 H0 H1 locs1 → W p l e R s m args below meth c H1 locs1 (cells + mc) (slots + ms) Q (F0 m (pc + 3) ls (va_rf r :: rest))) : W p l e R s m args below meth c H locs cells slots Q (F0 m pc ls st0) := by
  intro T hT X
  rcases hr T hT X with ⟨v, st₀, t, T', L, h0, X', hL, e1, e2, ⟨⟨r, u, hv, hp, hb⟩, hF⟩, st⟩ | ⟨q, st₀, t, T', L, E, ce, h0, X', hL, e1, e2, ⟨u, hp, hb, hF⟩, hce, hcv, hcl, st⟩
  · cases hv
    obtain ⟨k1, k2, k3⟩ := vx_keep h0 e1 hS hA hf hL hF
    obtain ⟨t2, a1, b1⟩ := kk r u t T'.heap (locs ++ L) e1.symm (by rw [← e2]; exact X'.warmed.alike) hp hb k1 k2 k3 T' rfl X'
    exact ⟨t2, st t2 a1, b1⟩
  · obtain ⟨k1, k2, k3⟩ := vx_keep h0 e1 hS hAX hf hL hF
    obtain ⟨t2, a1, b1⟩ := kx E ce q u t T'.heap (locs ++ L) e1.symm (by rw [← e2]; exact X'.warmed.alike) hp hb k1 k2 k3 (by rw [e1]; exact hce) hcv hcl T' rfl X'
    exact ⟨t2, st.trans a1, b1⟩
end
/-! ===== END ===== -/
/-! ===== BEGIN .. a constant ===== -/
section
variable {p : Program} {l : Launch} {e : Env} {R : Room} {s : State} {m : MethodId} {args : Array Value} {below : List Frame} {meth : Method} {c : Code} {H : Heap} {locs : List Loc} {cells slots : Nat} {Q : State → Prop}
variable {mc ms : Nat} {free : Addr → Prop} {A0 A1 : Nat → Prop} {H0 : Heap} {a : Array Value} {pc : Nat} {ls : Array Slot} {st0 rest : List Value}
theorem vx_calle {ad : Nat → Nat} {S SX : Type} {post : Option Nat → S → Prop} {px : SX → Prop} {B : S → State → Prop} {BX : String → SX → State → Prop} {AX : Nat → Prop} (hr : vx_Run p l e R s m args below meth c H locs cells slots mc ms (F0 m pc ls st0) rest (va_Qe ad post B A1 a) (vx_X px BX AX) free) (hS : va_S A0 H0 H locs) (hA : ∀ q, q < H.size → A1 q → A0 q) (hf : ∀ q, free q → A0 q) (hAX : ∀ q, q < H.size → AX q → A0 q)
    (kx : ∀ (E : String) (ce : Cell) (q9 : Addr) (u : SX) (t : State) (H1 : Heap) (locs1 : List Loc), t.heap = H1 → s.vm.Alike t.vm → px u → BX E u t → H.size ≤ H1.size → (∀ q : Nat, q < H.size → ¬ AX q → H1[q]? = H[q]?) → va_S A0 H0 H1 locs1 → H1[q9]? = some ce → ce.vm = .none → s.vm.findClass E = some ce.cls → vx_W p l e R s m args below meth c H1 locs1 (cells + mc) (slots + ms) Q (F0 m pc ls rest) q9)
    (kk : ∀ (r : Option Nat) (u : S) (t : State) (H1 : Heap) (locs1 : List Loc), t.heap = H1 → s.vm.Alike t.vm → post r u → B u t → H.size ≤ H1.size → (∀ q : Nat, q < H.size → ¬ A1 q → H1[q]? = H[q]?) → va_S A0 H0 H1 locs1 → W p l e R s m args below meth c H1 locs1 (cells + mc) (slots + ms) Q (F0 m (pc + 3) ls (va_re ad r :: rest))) : W p l e R s m args below meth c H locs cells slots Q (F0 m pc ls st0) := by
  intro T hT X
  rcases hr T hT X with ⟨v, st₀, t, T', L, h0, X', hL, e1, e2, ⟨⟨r, u, hv, hp, hb⟩, hF⟩, st⟩ | ⟨q, st₀, t, T', L, E, ce, h0, X', hL, e1, e2, ⟨u, hp, hb, hF⟩, hce, hcv, hcl, st⟩
  · cases hv
    obtain ⟨k1, k2, k3⟩ := vx_keep h0 e1 hS hA hf hL hF
    obtain ⟨t2, a1, b1⟩ := kk r u t T'.heap (locs ++ L) e1.symm (by rw [← e2]; exact X'.warmed.alike) hp hb k1 k2 k3 T' rfl X'
    exact ⟨t2, st t2 a1, b1⟩
  · obtain ⟨k1, k2, k3⟩ := vx_keep h0 e1 hS hAX hf hL hF
    obtain ⟨t2, a1, b1⟩ := kx E ce q u t T'.heap (locs ++ L) e1.symm (by rw [← e2]; exact X'.warmed.alike) hp hb k1 k2 k3 (by rw [e1]; exact hce) hcv hcl T' rfl X'
    exact ⟨t2, st.trans a1, b1⟩
end
/-! ===== END ===== -/
/-! ===== BEGIN .. by an interface, an object ===== -/
section
variable {p : Program} {l : Launch} {e : Env} {R : Room} {s : State} {m : MethodId} {args : Array Value} {below : List Frame} {meth : Method} {c : Code} {H : Heap} {locs : List Loc} {cells slots : Nat} {Q : State → Prop}
variable {mc ms : Nat} {free : Addr → Prop} {A0 A1 : Nat → Prop} {H0 : Heap} {a : Array Value} {pc : Nat} {ls : Array Slot} {st0 rest : List Value}
theorem vx_callFq {S SX : Type} {post : Option Nat → S → Prop} {px : SX → Prop} {B : S → State → Prop} {BX : String → SX → State → Prop} {AX : Nat → Prop} (hr : vx_Run5 p l e R s m args below meth c H locs cells slots mc ms (F0 m pc ls st0) rest (va_Qq post B A1 a) (vx_X px BX AX) free) (hS : va_S A0 H0 H locs) (hA : ∀ q, q < H.size → A1 q → A0 q) (hf : ∀ q, free q → A0 q) (hAX : ∀ q, q < H.size → AX q → A0 q)
    (kx : ∀ (E : String) (ce : Cell) (q9 : Addr) (u : SX) (t : State) (H1 : Heap) (locs1 : List Loc), t.heap = H1 → s.vm.Alike t.vm → px u → BX E u t → H.size ≤ H1.size → (∀ q : Nat, q < H.size → ¬ AX q → H1[q]? = H[q]?) → va_S A0 H0 H1 locs1 → H1[q9]? = some ce → ce.vm = .none → s.vm.findClass E = some ce.cls → vx_W p l e R s m args below meth c H1 locs1 (cells + mc) (slots + ms) Q (F0 m pc ls rest) q9)
    (kk : ∀ (r : Option Nat) (u : S) (t : State) (H1 : Heap) (locs1 : List Loc), t.heap = H1 → s.vm.Alike t.vm → post r u → B u t → H.size ≤ H1.size → (∀ q : Nat, q < H.size → ¬ A1 q → H1[q]? = H[q]?) → va_S A0 H0 H1 locs1 → W p l e R s m args below meth c H1 locs1 (cells + mc) (slots + ms) Q (F0 m (pc + 5) ls (va_rf r :: rest))) : W p l e R s m args below meth c H locs cells slots Q (F0 m pc ls st0) := by
  intro T hT X
  rcases hr T hT X with ⟨v, st₀, t, T', L, h0, X', hL, e1, e2, ⟨⟨r, u, hv, hp, hb⟩, hF⟩, st⟩ | ⟨q, st₀, t, T', L, E, ce, h0, X', hL, e1, e2, ⟨u, hp, hb, hF⟩, hce, hcv, hcl, st⟩
  · cases hv
    obtain ⟨k1, k2, k3⟩ := vx_keep h0 e1 hS hA hf hL hF
    obtain ⟨t2, a1, b1⟩ := kk r u t T'.heap (locs ++ L) e1.symm (by rw [← e2]; exact X'.warmed.alike) hp hb k1 k2 k3 T' rfl X'
    exact ⟨t2, st t2 a1, b1⟩
  · obtain ⟨k1, k2, k3⟩ := vx_keep h0 e1 hS hAX hf hL hF
    obtain ⟨t2, a1, b1⟩ := kx E ce q u t T'.heap (locs ++ L) e1.symm (by rw [← e2]; exact X'.warmed.alike) hp hb k1 k2 k3 (by rw [e1]; exact hce) hcv hcl T' rfl X'
    exact ⟨t2, st.trans a1, b1⟩
end
/-! ===== END ===== -/
/-! ===== BEGIN .. by an interface, a constant ===== -/
section
variable {p : Program} {l : Launch} {e : Env} {R : Room} {s : State} {m : MethodId} {args : Array Value} {below : List Frame} {meth : Method} {c : Code} {H : Heap} {locs : List Loc} {cells slots : Nat} {Q : State → Prop}
variable {mc ms : Nat} {free : Addr → Prop} {A0 A1 : Nat → Prop} {H0 : Heap} {a : Array Value} {pc : Nat} {ls : Array Slot} {st0 rest : List Value}
theorem vx_callFe {ad : Nat → Nat} {S SX : Type} {post : Option Nat → S → Prop} {px : SX → Prop} {B : S → State → Prop} {BX : String → SX → State → Prop} {AX : Nat → Prop} (hr : vx_Run5 p l e R s m args below meth c H locs cells slots mc ms (F0 m pc ls st0) rest (va_Qe ad post B A1 a) (vx_X px BX AX) free) (hS : va_S A0 H0 H locs) (hA : ∀ q, q < H.size → A1 q → A0 q) (hf : ∀ q, free q → A0 q) (hAX : ∀ q, q < H.size → AX q → A0 q)
    (kx : ∀ (E : String) (ce : Cell) (q9 : Addr) (u : SX) (t : State) (H1 : Heap) (locs1 : List Loc), t.heap = H1 → s.vm.Alike t.vm → px u → BX E u t → H.size ≤ H1.size → (∀ q : Nat, q < H.size → ¬ AX q → H1[q]? = H[q]?) → va_S A0 H0 H1 locs1 → H1[q9]? = some ce → ce.vm = .none → s.vm.findClass E = some ce.cls → vx_W p l e R s m args below meth c H1 locs1 (cells + mc) (slots + ms) Q (F0 m pc ls rest) q9)
    (kk : ∀ (r : Option Nat) (u : S) (t : State) (H1 : Heap) (locs1 : List Loc), t.heap = H1 → s.vm.Alike t.vm → post r u → B u t → H.size ≤ H1.size → (∀ q : Nat, q < H.size → ¬ A1 q → H1[q]? = H[q]?) → va_S A0 H0 H1 locs1 → W p l e R s m args below meth c H1 locs1 (cells + mc) (slots + ms) Q (F0 m (pc + 5) ls (va_re ad r :: rest))) : W p l e R s m args below meth c H locs cells slots Q (F0 m pc ls st0) := by
  intro T hT X
  rcases hr T hT X with ⟨v, st₀, t, T', L, h0, X', hL, e1, e2, ⟨⟨r, u, hv, hp, hb⟩, hF⟩, st⟩ | ⟨q, st₀, t, T', L, E, ce, h0, X', hL, e1, e2, ⟨u, hp, hb, hF⟩, hce, hcv, hcl, st⟩
  · cases hv
    obtain ⟨k1, k2, k3⟩ := vx_keep h0 e1 hS hA hf hL hF
    obtain ⟨t2, a1, b1⟩ := kk r u t T'.heap (locs ++ L) e1.symm (by rw [← e2]; exact X'.warmed.alike) hp hb k1 k2 k3 T' rfl X'
    exact ⟨t2, st t2 a1, b1⟩
  · obtain ⟨k1, k2, k3⟩ := vx_keep h0 e1 hS hAX hf hL hF
    obtain ⟨t2, a1, b1⟩ := kx E ce q u t T'.heap (locs ++ L) e1.symm (by rw [← e2]; exact X'.warmed.alike) hp hb k1 k2 k3 (by rw [e1]; exact hce) hcv hcl T' rfl X'
    exact ⟨t2, st.trans a1, b1⟩
end
/-! ===== END ===== -/
/-! ===== BEGIN what the machine throws by itself: null at a field, at athrow ===== -/
section VXM2
variable {p : Program} {l : Launch} {e : Env} {R : Room} {s : State} {m : MethodId} {args : Array Value} {below : List Frame} {meth : Method} {c : Code} {H : Heap} {locs : List Loc} {cells slots : Nat}
variable {Q : State → Prop} {cc : ByteArray} {pc : Nat} {ls : Array Slot} {rest : List Value}
theorem vx_getfN {D cl tys} {own ref C : String} {T : u_T} {N ci index : Nat} {Ts : List Cond} (hexec : p.tables.exec = Jvm.exec) (hb : c.code = cc) (hts : ∀ w ∈ Ts, w.before args s = true) (hin : ∀ w ∈ u_ws C T N, w ∈ Ts) (hown : s.vm.findClass own = some m.cls) (hK : va_K D cl tys s) (hc : cl[ci]? = some (C, T, N)) (k : Nat) (hk : k < N) (hlink : (Cond.fieldLink own index ref (T k).2.1 (T k).2.2.1).before args s = true) (hsame : ∀ x, s.fieldFound? (T k).1 (T k).2.1 (T k).2.2.1 = some x → s.fieldFound? ref (T k).2.1 (T k).2.2.1 = some x) (hdg : decode cc pc = .ok (.getfield index, 3)) (kk : vx_NoteN p l e R s m args below meth c H locs cells slots Q (F0 m pc ls rest)) : W p l e R s m args below meth c H locs cells slots Q (F0 m pc ls (.null :: rest)) := by
  obtain ⟨hS, hfc, kC, hkC, -⟩ := hK.1 ci _ hc
  obtain ⟨cf, kf, fi, f, hi, -⟩ := hS k hk
  intro U hU X
  obtain ⟨vm', X1, st1⟩ := X.getfieldNull hexec hown hlink (hsame _ hi) (u_facts hfc hkC (u_lays hts hin hk) hi).1 (g := F0 m pc ls (.null :: rest)) rfl (rest := rest) rfl (by rw [hb]; exact hdg)
  obtain ⟨t, st, q⟩ := kk (U.setVm vm') hU X1
  exact ⟨t, st1 t st, q⟩
theorem vx_getfNN {D cl tys} {own ref C host : String} {T : u_T} {N ci index : Nat} {Ts : List Cond} (hexec : p.tables.exec = Jvm.exec) (hb : c.code = cc) (hts : ∀ w ∈ Ts, w.before args s = true) (hin : ∀ w ∈ u_ws C T N, w ∈ Ts) (hown : s.vm.findClass own = some m.cls) (hK : va_K D cl tys s) (hc : cl[ci]? = some (C, T, N)) (k : Nat) (hk : k < N) (hlink : (Cond.fieldLinkNest own index ref (T k).2.1 (T k).2.2.1 host).before args s = true) (hsame : ∀ x, s.fieldFound? (T k).1 (T k).2.1 (T k).2.2.1 = some x → s.fieldFound? ref (T k).2.1 (T k).2.2.1 = some x) (hdg : decode cc pc = .ok (.getfield index, 3)) (kk : vx_NoteN p l e R s m args below meth c H locs cells slots Q (F0 m pc ls rest)) : W p l e R s m args below meth c H locs cells slots Q (F0 m pc ls (.null :: rest)) := by
  obtain ⟨hS, hfc, kC, hkC, -⟩ := hK.1 ci _ hc
  obtain ⟨cf, kf, fi, f, hi, -⟩ := hS k hk
  intro U hU X
  obtain ⟨vm', X1, st1⟩ := X.getfieldNullNest hexec hown hlink (hsame _ hi) (u_facts hfc hkC (u_lays hts hin hk) hi).1 (g := F0 m pc ls (.null :: rest)) rfl (rest := rest) rfl (by rw [hb]; exact hdg)
  obtain ⟨t, st, q⟩ := kk (U.setVm vm') hU X1
  exact ⟨t, st1 t st, q⟩
theorem vx_putfN {D cl tys} {own ref C : String} {T : u_T} {N ci index : Nat} {Ts : List Cond} (hexec : p.tables.exec = Jvm.exec) (hb : c.code = cc) (hts : ∀ w ∈ Ts, w.before args s = true) (hin : ∀ w ∈ u_ws C T N, w ∈ Ts) (hown : s.vm.findClass own = some m.cls) (hK : va_K D cl tys s) (hc : cl[ci]? = some (C, T, N)) (k : Nat) (hk : k < N) (hlink : (Cond.fieldLink own index ref (T k).2.1 (T k).2.2.1).before args s = true) (hsame : ∀ x, s.fieldFound? (T k).1 (T k).2.1 (T k).2.2.1 = some x → s.fieldFound? ref (T k).2.1 (T k).2.2.1 = some x) (hfin : (T k).2.2.2 = false) {v : Value} (hdg : decode cc pc = .ok (.putfield index, 3)) (kk : vx_NoteN p l e R s m args below meth c H locs cells slots Q (F0 m pc ls rest)) : W p l e R s m args below meth c H locs cells slots Q (F0 m pc ls (v :: .null :: rest)) := by
  obtain ⟨hS, hfc, kC, hkC, -⟩ := hK.1 ci _ hc
  obtain ⟨cf, kf, fi, f, hi, -⟩ := hS k hk
  have hlay := hts _ (hin _ (u_in_lay hk))
  unfold u_lay at hlay
  rw [if_neg (by rw [hfin]; decide)] at hlay
  obtain ⟨c9, k9, cf9, kf9, fi9, f9, -, -, hi9, hst9, hnf9, -⟩ := Cond.lays_spec hlay
  cases hi.symm.trans hi9
  intro U hU X
  obtain ⟨vm', X1, st1⟩ := X.putfieldNull hexec hown hlink (hsame _ hi) hst9 hnf9 (g := F0 m pc ls (v :: .null :: rest)) rfl (v := v) (rest := rest) rfl (by rw [hb]; exact hdg)
  obtain ⟨t, st, q⟩ := kk (U.setVm vm') hU X1
  exact ⟨t, st1 t st, q⟩
theorem vx_putfNN {D cl tys} {own ref C host : String} {T : u_T} {N ci index : Nat} {Ts : List Cond} (hexec : p.tables.exec = Jvm.exec) (hb : c.code = cc) (hts : ∀ w ∈ Ts, w.before args s = true) (hin : ∀ w ∈ u_ws C T N, w ∈ Ts) (hown : s.vm.findClass own = some m.cls) (hK : va_K D cl tys s) (hc : cl[ci]? = some (C, T, N)) (k : Nat) (hk : k < N) (hlink : (Cond.fieldLinkNest own index ref (T k).2.1 (T k).2.2.1 host).before args s = true) (hsame : ∀ x, s.fieldFound? (T k).1 (T k).2.1 (T k).2.2.1 = some x → s.fieldFound? ref (T k).2.1 (T k).2.2.1 = some x) (hfin : (T k).2.2.2 = false) {v : Value} (hdg : decode cc pc = .ok (.putfield index, 3)) (kk : vx_NoteN p l e R s m args below meth c H locs cells slots Q (F0 m pc ls rest)) : W p l e R s m args below meth c H locs cells slots Q (F0 m pc ls (v :: .null :: rest)) := by
  obtain ⟨hS, hfc, kC, hkC, -⟩ := hK.1 ci _ hc
  obtain ⟨cf, kf, fi, f, hi, -⟩ := hS k hk
  have hlay := hts _ (hin _ (u_in_lay hk))
  unfold u_lay at hlay
  rw [if_neg (by rw [hfin]; decide)] at hlay
  obtain ⟨c9, k9, cf9, kf9, fi9, f9, -, -, hi9, hst9, hnf9, -⟩ := Cond.lays_spec hlay
  cases hi.symm.trans hi9
  intro U hU X
  obtain ⟨vm', X1, st1⟩ := X.putfieldNullNest hexec hown hlink (hsame _ hi) hst9 hnf9 (g := F0 m pc ls (v :: .null :: rest)) rfl (v := v) (rest := rest) rfl (by rw [hb]; exact hdg)
  obtain ⟨t, st, q⟩ := kk (U.setVm vm') hU X1
  exact ⟨t, st1 t st, q⟩
theorem vx_athrowN (hexec : p.tables.exec = Jvm.exec) (hb : c.code = cc) (hdg : decode cc pc = .ok (.athrow, 1)) (k : vx_NoteN p l e R s m args below meth c H locs cells slots Q (F0 m pc ls rest)) : W p l e R s m args below meth c H locs cells slots Q (F0 m pc ls (.null :: rest)) := by
  intro T hT X
  obtain ⟨t, st, q⟩ := k T hT X
  exact ⟨t, X.athrowNull hexec (g := F0 m pc ls (.null :: rest)) rfl (rest := rest) rfl (by rw [hb]; exact hdg) t st, q⟩
end VXM2
/-! ===== END ===== -/
end
section
-- ===== PART A: goes FIRST, ahead of the names: the tables' words, and 'selects' of the private methods out of them =====
/-- a private method of a class that the tables say can be made, by its rows of tables_1 -/
def lw_okq (q : MethodName × Nat) : Prop := (q.1.cls ≠ "java/lang/invoke/MethodHandle" ∧ q.1.cls ≠ "java/lang/invoke/VarHandle") ∧ Cond.instantiable q.1.cls q.2 ∈ tables_1 ∧ Cond.privateMethod q.1 ∈ tables_1 ∧ Cond.instanceMethod q.1 ∈ tables_1
theorem lw_p0 : lw_okq (⟨"Handshakewarden$Cast", "partOf", "(I)LHandshakewarden$Part;"⟩, 3) := ⟨⟨by decide +kernel, by decide +kernel⟩, List.mem_of_getElem? (i := 566) (by decide +kernel), List.mem_of_getElem? (i := 564) (by decide +kernel), List.mem_of_getElem? (i := 565) (by decide +kernel)⟩
theorem lw_p1 : lw_okq (⟨"Handshakewarden", "cutWhole", "(I)LHandshakewarden$Whole;"⟩, 10) := ⟨⟨by decide +kernel, by decide +kernel⟩, List.mem_of_getElem? (i := 36) (by decide +kernel), List.mem_of_getElem? (i := 634) (by decide +kernel), List.mem_of_getElem? (i := 635) (by decide +kernel)⟩
theorem lw_p2 : lw_okq (⟨"Handshakewarden", "wholeAt", "(I)LHandshakewarden$Whole;"⟩, 10) := ⟨⟨by decide +kernel, by decide +kernel⟩, List.mem_of_getElem? (i := 36) (by decide +kernel), List.mem_of_getElem? (i := 638) (by decide +kernel), List.mem_of_getElem? (i := 639) (by decide +kernel)⟩
theorem lw_p3 : lw_okq (⟨"java/lang/Throwable", "fillInStackTrace", "(I)Ljava/lang/Throwable;"⟩, 6) := ⟨⟨by decide +kernel, by decide +kernel⟩, List.mem_of_getElem? (i := 684) (by decide +kernel), List.mem_of_getElem? (i := 682) (by decide +kernel), List.mem_of_getElem? (i := 683) (by decide +kernel)⟩
theorem lw_p4 : lw_okq (⟨"Handshakewarden$Cutter", "partFor", "(LHandshakewarden$Whole;I)LHandshakewarden$Part;"⟩, 19) := ⟨⟨by decide +kernel, by decide +kernel⟩, List.mem_of_getElem? (i := 272) (by decide +kernel), List.mem_of_getElem? (i := 719) (by decide +kernel), List.mem_of_getElem? (i := 720) (by decide +kernel)⟩
theorem lw_p5 : lw_okq (⟨"Handshakewarden$Cutter", "findReach", "()V"⟩, 19) := ⟨⟨by decide +kernel, by decide +kernel⟩, List.mem_of_getElem? (i := 272) (by decide +kernel), List.mem_of_getElem? (i := 726) (by decide +kernel), List.mem_of_getElem? (i := 727) (by decide +kernel)⟩
theorem lw_p6 : lw_okq (⟨"Handshakewarden$Cutter", "nextSets", "([JI)J"⟩, 19) := ⟨⟨by decide +kernel, by decide +kernel⟩, List.mem_of_getElem? (i := 272) (by decide +kernel), List.mem_of_getElem? (i := 739) (by decide +kernel), List.mem_of_getElem? (i := 740) (by decide +kernel)⟩
theorem lw_p7 : lw_okq (⟨"Handshakewarden$Cutter", "findEnds", "()V"⟩, 19) := ⟨⟨by decide +kernel, by decide +kernel⟩, List.mem_of_getElem? (i := 272) (by decide +kernel), List.mem_of_getElem? (i := 744) (by decide +kernel), List.mem_of_getElem? (i := 745) (by decide +kernel)⟩
theorem lw_p8 : lw_okq (⟨"Handshakewarden$Cutter", "findShown", "()V"⟩, 19) := ⟨⟨by decide +kernel, by decide +kernel⟩, List.mem_of_getElem? (i := 272) (by decide +kernel), List.mem_of_getElem? (i := 755) (by decide +kernel), List.mem_of_getElem? (i := 756) (by decide +kernel)⟩
theorem lw_p9 : lw_okq (⟨"Handshakewarden$Cutter", "replaced", "(I)J"⟩, 19) := ⟨⟨by decide +kernel, by decide +kernel⟩, List.mem_of_getElem? (i := 272) (by decide +kernel), List.mem_of_getElem? (i := 760) (by decide +kernel), List.mem_of_getElem? (i := 761) (by decide +kernel)⟩
theorem lw_p10 : lw_okq (⟨"Handshakewarden$Cutter", "findSteps", "()V"⟩, 19) := ⟨⟨by decide +kernel, by decide +kernel⟩, List.mem_of_getElem? (i := 272) (by decide +kernel), List.mem_of_getElem? (i := 769) (by decide +kernel), List.mem_of_getElem? (i := 770) (by decide +kernel)⟩
theorem lw_p11 : lw_okq (⟨"Handshakewarden$Cutter", "markOf", "(I)I"⟩, 19) := ⟨⟨by decide +kernel, by decide +kernel⟩, List.mem_of_getElem? (i := 272) (by decide +kernel), List.mem_of_getElem? (i := 774) (by decide +kernel), List.mem_of_getElem? (i := 775) (by decide +kernel)⟩
theorem lw_p12 : lw_okq (⟨"Handshakewarden$Rows", "clearHeads", "(I)V"⟩, 7) := ⟨⟨by decide +kernel, by decide +kernel⟩, List.mem_of_getElem? (i := 278) (by decide +kernel), List.mem_of_getElem? (i := 788) (by decide +kernel), List.mem_of_getElem? (i := 789) (by decide +kernel)⟩
theorem lw_p13 : lw_okq (⟨"Handshakewarden$Cutter", "probeOf", "(J)[I"⟩, 19) := ⟨⟨by decide +kernel, by decide +kernel⟩, List.mem_of_getElem? (i := 272) (by decide +kernel), List.mem_of_getElem? (i := 792) (by decide +kernel), List.mem_of_getElem? (i := 793) (by decide +kernel)⟩
theorem lw_p14 : lw_okq (⟨"Handshakewarden$Rows", "headOf", "([II)I"⟩, 7) := ⟨⟨by decide +kernel, by decide +kernel⟩, List.mem_of_getElem? (i := 278) (by decide +kernel), List.mem_of_getElem? (i := 800) (by decide +kernel), List.mem_of_getElem? (i := 801) (by decide +kernel)⟩
theorem lw_p15 : lw_okq (⟨"Handshakewarden$Rows", "widenHeads", "()V"⟩, 7) := ⟨⟨by decide +kernel, by decide +kernel⟩, List.mem_of_getElem? (i := 278) (by decide +kernel), List.mem_of_getElem? (i := 828) (by decide +kernel), List.mem_of_getElem? (i := 829) (by decide +kernel)⟩
def lw_privs_1 : List (MethodName × Nat) := [(⟨"Handshakewarden$Cast", "partOf", "(I)LHandshakewarden$Part;"⟩, 3), (⟨"Handshakewarden", "cutWhole", "(I)LHandshakewarden$Whole;"⟩, 10), (⟨"Handshakewarden", "wholeAt", "(I)LHandshakewarden$Whole;"⟩, 10), (⟨"java/lang/Throwable", "fillInStackTrace", "(I)Ljava/lang/Throwable;"⟩, 6), (⟨"Handshakewarden$Cutter", "partFor", "(LHandshakewarden$Whole;I)LHandshakewarden$Part;"⟩, 19), (⟨"Handshakewarden$Cutter", "findReach", "()V"⟩, 19), (⟨"Handshakewarden$Cutter", "nextSets", "([JI)J"⟩, 19), (⟨"Handshakewarden$Cutter", "findEnds", "()V"⟩, 19), (⟨"Handshakewarden$Cutter", "findShown", "()V"⟩, 19), (⟨"Handshakewarden$Cutter", "replaced", "(I)J"⟩, 19), (⟨"Handshakewarden$Cutter", "findSteps", "()V"⟩, 19), (⟨"Handshakewarden$Cutter", "markOf", "(I)I"⟩, 19), (⟨"Handshakewarden$Rows", "clearHeads", "(I)V"⟩, 7), (⟨"Handshakewarden$Cutter", "probeOf", "(J)[I"⟩, 19), (⟨"Handshakewarden$Rows", "headOf", "([II)I"⟩, 7), (⟨"Handshakewarden$Rows", "widenHeads", "()V"⟩, 7)]
theorem lw_r1 : ∀ q ∈ lw_privs_1, lw_okq q := List.forall_mem_cons.mpr ⟨lw_p0, List.forall_mem_cons.mpr ⟨lw_p1, List.forall_mem_cons.mpr ⟨lw_p2, List.forall_mem_cons.mpr ⟨lw_p3, List.forall_mem_cons.mpr ⟨lw_p4, List.forall_mem_cons.mpr ⟨lw_p5, List.forall_mem_cons.mpr ⟨lw_p6, List.forall_mem_cons.mpr ⟨lw_p7, List.forall_mem_cons.mpr ⟨lw_p8, List.forall_mem_cons.mpr ⟨lw_p9, List.forall_mem_cons.mpr ⟨lw_p10, List.forall_mem_cons.mpr ⟨lw_p11, List.forall_mem_cons.mpr ⟨lw_p12, List.forall_mem_cons.mpr ⟨lw_p13, List.forall_mem_cons.mpr ⟨lw_p14, List.forall_mem_cons.mpr ⟨lw_p15, fun _ h => absurd h List.not_mem_nil⟩⟩⟩⟩⟩⟩⟩⟩⟩⟩⟩⟩⟩⟩⟩⟩
theorem lw_p16 : lw_okq (⟨"Handshakewarden$Cutter", "goTogether", "(J)Z"⟩, 19) := ⟨⟨by decide +kernel, by decide +kernel⟩, List.mem_of_getElem? (i := 272) (by decide +kernel), List.mem_of_getElem? (i := 840) (by decide +kernel), List.mem_of_getElem? (i := 841) (by decide +kernel)⟩
theorem lw_p17 : lw_okq (⟨"Handshakewarden$Cutter", "goTogether", "(II)Z"⟩, 19) := ⟨⟨by decide +kernel, by decide +kernel⟩, List.mem_of_getElem? (i := 272) (by decide +kernel), List.mem_of_getElem? (i := 844) (by decide +kernel), List.mem_of_getElem? (i := 845) (by decide +kernel)⟩
theorem lw_p18 : lw_okq (⟨"Handshakewarden$Cutter", "makeState", "(IJ)Z"⟩, 19) := ⟨⟨by decide +kernel, by decide +kernel⟩, List.mem_of_getElem? (i := 272) (by decide +kernel), List.mem_of_getElem? (i := 848) (by decide +kernel), List.mem_of_getElem? (i := 849) (by decide +kernel)⟩
theorem lw_p19 : lw_okq (⟨"Handshakewarden$Cutter", "behindAll", "(JI)J"⟩, 19) := ⟨⟨by decide +kernel, by decide +kernel⟩, List.mem_of_getElem? (i := 272) (by decide +kernel), List.mem_of_getElem? (i := 853) (by decide +kernel), List.mem_of_getElem? (i := 854) (by decide +kernel)⟩
theorem lw_p20 : lw_okq (⟨"Handshakewarden$Cutter", "madePart", "()LHandshakewarden$Part;"⟩, 19) := ⟨⟨by decide +kernel, by decide +kernel⟩, List.mem_of_getElem? (i := 272) (by decide +kernel), List.mem_of_getElem? (i := 862) (by decide +kernel), List.mem_of_getElem? (i := 863) (by decide +kernel)⟩
theorem lw_p21 : lw_okq (⟨"Handshakewarden$Cutter", "placeToKeep", "(I)I"⟩, 19) := ⟨⟨by decide +kernel, by decide +kernel⟩, List.mem_of_getElem? (i := 272) (by decide +kernel), List.mem_of_getElem? (i := 866) (by decide +kernel), List.mem_of_getElem? (i := 867) (by decide +kernel)⟩
theorem lw_p22 : lw_okq (⟨"Handshakewarden$Explorer", "nameColumns", "()I"⟩, 10) := ⟨⟨by decide +kernel, by decide +kernel⟩, List.mem_of_getElem? (i := 442) (by decide +kernel), List.mem_of_getElem? (i := 955) (by decide +kernel), List.mem_of_getElem? (i := 956) (by decide +kernel)⟩
theorem lw_p23 : lw_okq (⟨"Handshakewarden$Explorer", "lookAtNow", "()V"⟩, 10) := ⟨⟨by decide +kernel, by decide +kernel⟩, List.mem_of_getElem? (i := 442) (by decide +kernel), List.mem_of_getElem? (i := 976) (by decide +kernel), List.mem_of_getElem? (i := 977) (by decide +kernel)⟩
theorem lw_p24 : lw_okq (⟨"Handshakewarden$Explorer", "trySending", "(I)V"⟩, 10) := ⟨⟨by decide +kernel, by decide +kernel⟩, List.mem_of_getElem? (i := 442) (by decide +kernel), List.mem_of_getElem? (i := 982) (by decide +kernel), List.mem_of_getElem? (i := 983) (by decide +kernel)⟩
theorem lw_p25 : lw_okq (⟨"Handshakewarden$Explorer", "columnOf", "(II)I"⟩, 10) := ⟨⟨by decide +kernel, by decide +kernel⟩, List.mem_of_getElem? (i := 442) (by decide +kernel), List.mem_of_getElem? (i := 987) (by decide +kernel), List.mem_of_getElem? (i := 988) (by decide +kernel)⟩
theorem lw_p26 : lw_okq (⟨"Handshakewarden$Explorer", "moveTo", "(IIII)V"⟩, 10) := ⟨⟨by decide +kernel, by decide +kernel⟩, List.mem_of_getElem? (i := 442) (by decide +kernel), List.mem_of_getElem? (i := 1007) (by decide +kernel), List.mem_of_getElem? (i := 1008) (by decide +kernel)⟩
theorem lw_p27 : lw_okq (⟨"Handshakewarden$Explorer", "tryHearing", "(II)V"⟩, 10) := ⟨⟨by decide +kernel, by decide +kernel⟩, List.mem_of_getElem? (i := 442) (by decide +kernel), List.mem_of_getElem? (i := 1012) (by decide +kernel), List.mem_of_getElem? (i := 1013) (by decide +kernel)⟩
theorem lw_p28 : lw_okq (⟨"Handshakewarden$Explorer", "isLetterLeft", "()Z"⟩, 10) := ⟨⟨by decide +kernel, by decide +kernel⟩, List.mem_of_getElem? (i := 442) (by decide +kernel), List.mem_of_getElem? (i := 1021) (by decide +kernel), List.mem_of_getElem? (i := 1022) (by decide +kernel)⟩
theorem lw_p29 : lw_okq (⟨"Handshakewarden$Explorer", "showRing", "()V"⟩, 10) := ⟨⟨by decide +kernel, by decide +kernel⟩, List.mem_of_getElem? (i := 442) (by decide +kernel), List.mem_of_getElem? (i := 1025) (by decide +kernel), List.mem_of_getElem? (i := 1026) (by decide +kernel)⟩
theorem lw_p30 : lw_okq (⟨"Handshakewarden$Comparer", "hold", "(LHandshakewarden$Part;LHandshakewarden$Part;I)V"⟩, 21) := ⟨⟨by decide +kernel, by decide +kernel⟩, List.mem_of_getElem? (i := 370) (by decide +kernel), List.mem_of_getElem? (i := 1041) (by decide +kernel), List.mem_of_getElem? (i := 1042) (by decide +kernel)⟩
theorem lw_p31 : lw_okq (⟨"Handshakewarden$Comparer", "takeSides", "(LHandshakewarden$Part;LHandshakewarden$Part;)V"⟩, 21) := ⟨⟨by decide +kernel, by decide +kernel⟩, List.mem_of_getElem? (i := 370) (by decide +kernel), List.mem_of_getElem? (i := 1045) (by decide +kernel), List.mem_of_getElem? (i := 1046) (by decide +kernel)⟩
def lw_privs_2 : List (MethodName × Nat) := [(⟨"Handshakewarden$Cutter", "goTogether", "(J)Z"⟩, 19), (⟨"Handshakewarden$Cutter", "goTogether", "(II)Z"⟩, 19), (⟨"Handshakewarden$Cutter", "makeState", "(IJ)Z"⟩, 19), (⟨"Handshakewarden$Cutter", "behindAll", "(JI)J"⟩, 19), (⟨"Handshakewarden$Cutter", "madePart", "()LHandshakewarden$Part;"⟩, 19), (⟨"Handshakewarden$Cutter", "placeToKeep", "(I)I"⟩, 19), (⟨"Handshakewarden$Explorer", "nameColumns", "()I"⟩, 10), (⟨"Handshakewarden$Explorer", "lookAtNow", "()V"⟩, 10), (⟨"Handshakewarden$Explorer", "trySending", "(I)V"⟩, 10), (⟨"Handshakewarden$Explorer", "columnOf", "(II)I"⟩, 10), (⟨"Handshakewarden$Explorer", "moveTo", "(IIII)V"⟩, 10), (⟨"Handshakewarden$Explorer", "tryHearing", "(II)V"⟩, 10), (⟨"Handshakewarden$Explorer", "isLetterLeft", "()Z"⟩, 10), (⟨"Handshakewarden$Explorer", "showRing", "()V"⟩, 10), (⟨"Handshakewarden$Comparer", "hold", "(LHandshakewarden$Part;LHandshakewarden$Part;I)V"⟩, 21), (⟨"Handshakewarden$Comparer", "takeSides", "(LHandshakewarden$Part;LHandshakewarden$Part;)V"⟩, 21)]
theorem lw_r2 : ∀ q ∈ lw_privs_2, lw_okq q := List.forall_mem_cons.mpr ⟨lw_p16, List.forall_mem_cons.mpr ⟨lw_p17, List.forall_mem_cons.mpr ⟨lw_p18, List.forall_mem_cons.mpr ⟨lw_p19, List.forall_mem_cons.mpr ⟨lw_p20, List.forall_mem_cons.mpr ⟨lw_p21, List.forall_mem_cons.mpr ⟨lw_p22, List.forall_mem_cons.mpr ⟨lw_p23, List.forall_mem_cons.mpr ⟨lw_p24, List.forall_mem_cons.mpr ⟨lw_p25, List.forall_mem_cons.mpr ⟨lw_p26, List.forall_mem_cons.mpr ⟨lw_p27, List.forall_mem_cons.mpr ⟨lw_p28, List.forall_mem_cons.mpr ⟨lw_p29, List.forall_mem_cons.mpr ⟨lw_p30, List.forall_mem_cons.mpr ⟨lw_p31, fun _ h => absurd h List.not_mem_nil⟩⟩⟩⟩⟩⟩⟩⟩⟩⟩⟩⟩⟩⟩⟩⟩
theorem lw_p32 : lw_okq (⟨"Handshakewarden$Comparer", "findClasses", "(LHandshakewarden$Part;)V"⟩, 21) := ⟨⟨by decide +kernel, by decide +kernel⟩, List.mem_of_getElem? (i := 370) (by decide +kernel), List.mem_of_getElem? (i := 1064) (by decide +kernel), List.mem_of_getElem? (i := 1065) (by decide +kernel)⟩
theorem lw_p33 : lw_okq (⟨"Handshakewarden$Comparer", "folded", "(LHandshakewarden$Part;[I)LHandshakewarden$Part;"⟩, 21) := ⟨⟨by decide +kernel, by decide +kernel⟩, List.mem_of_getElem? (i := 370) (by decide +kernel), List.mem_of_getElem? (i := 1078) (by decide +kernel), List.mem_of_getElem? (i := 1079) (by decide +kernel)⟩
theorem lw_p34 : lw_okq (⟨"Handshakewarden$Comparer", "startSearch", "()V"⟩, 21) := ⟨⟨by decide +kernel, by decide +kernel⟩, List.mem_of_getElem? (i := 370) (by decide +kernel), List.mem_of_getElem? (i := 1085) (by decide +kernel), List.mem_of_getElem? (i := 1086) (by decide +kernel)⟩
theorem lw_p35 : lw_okq (⟨"Handshakewarden$Comparer", "keep", "(IJJ)V"⟩, 21) := ⟨⟨by decide +kernel, by decide +kernel⟩, List.mem_of_getElem? (i := 370) (by decide +kernel), List.mem_of_getElem? (i := 1090) (by decide +kernel), List.mem_of_getElem? (i := 1091) (by decide +kernel)⟩
theorem lw_p36 : lw_okq (⟨"Handshakewarden$Comparer", "unseen", "(JJ)J"⟩, 21) := ⟨⟨by decide +kernel, by decide +kernel⟩, List.mem_of_getElem? (i := 370) (by decide +kernel), List.mem_of_getElem? (i := 1094) (by decide +kernel), List.mem_of_getElem? (i := 1095) (by decide +kernel)⟩
theorem lw_p37 : lw_okq (⟨"Handshakewarden$Comparer", "goOnFrom", "(I)V"⟩, 21) := ⟨⟨by decide +kernel, by decide +kernel⟩, List.mem_of_getElem? (i := 370) (by decide +kernel), List.mem_of_getElem? (i := 1107) (by decide +kernel), List.mem_of_getElem? (i := 1108) (by decide +kernel)⟩
theorem lw_p38 : lw_okq (⟨"Handshakewarden$Comparer", "swapLevels", "()V"⟩, 21) := ⟨⟨by decide +kernel, by decide +kernel⟩, List.mem_of_getElem? (i := 370) (by decide +kernel), List.mem_of_getElem? (i := 1111) (by decide +kernel), List.mem_of_getElem? (i := 1112) (by decide +kernel)⟩
theorem lw_p39 : lw_okq (⟨"Handshakewarden$Comparer", "cannotBe", "(IJ)Z"⟩, 21) := ⟨⟨by decide +kernel, by decide +kernel⟩, List.mem_of_getElem? (i := 370) (by decide +kernel), List.mem_of_getElem? (i := 1115) (by decide +kernel), List.mem_of_getElem? (i := 1116) (by decide +kernel)⟩
theorem lw_p40 : lw_okq (⟨"Handshakewarden$Comparer", "goOn", "(II)V"⟩, 21) := ⟨⟨by decide +kernel, by decide +kernel⟩, List.mem_of_getElem? (i := 370) (by decide +kernel), List.mem_of_getElem? (i := 1128) (by decide +kernel), List.mem_of_getElem? (i := 1129) (by decide +kernel)⟩
theorem lw_p41 : lw_okq (⟨"Handshakewarden", "appendWord", "(I)V"⟩, 10) := ⟨⟨by decide +kernel, by decide +kernel⟩, List.mem_of_getElem? (i := 36) (by decide +kernel), List.mem_of_getElem? (i := 1174) (by decide +kernel), List.mem_of_getElem? (i := 1175) (by decide +kernel)⟩
theorem lw_p42 : lw_okq (⟨"Handshakewarden", "appendByte", "(I)V"⟩, 10) := ⟨⟨by decide +kernel, by decide +kernel⟩, List.mem_of_getElem? (i := 36) (by decide +kernel), List.mem_of_getElem? (i := 1178) (by decide +kernel), List.mem_of_getElem? (i := 1179) (by decide +kernel)⟩
theorem lw_p43 : lw_okq (⟨"Handshakewarden$Reader", "findTokens", "([II)V"⟩, 14) := ⟨⟨by decide +kernel, by decide +kernel⟩, List.mem_of_getElem? (i := 222) (by decide +kernel), List.mem_of_getElem? (i := 1195) (by decide +kernel), List.mem_of_getElem? (i := 1196) (by decide +kernel)⟩
theorem lw_p44 : lw_okq (⟨"Handshakewarden$Reader", "advance", "()V"⟩, 14) := ⟨⟨by decide +kernel, by decide +kernel⟩, List.mem_of_getElem? (i := 222) (by decide +kernel), List.mem_of_getElem? (i := 1218) (by decide +kernel), List.mem_of_getElem? (i := 1219) (by decide +kernel)⟩
theorem lw_p45 : lw_okq (⟨"Handshakewarden$Reader", "whole", "(I)I"⟩, 14) := ⟨⟨by decide +kernel, by decide +kernel⟩, List.mem_of_getElem? (i := 222) (by decide +kernel), List.mem_of_getElem? (i := 1223) (by decide +kernel), List.mem_of_getElem? (i := 1224) (by decide +kernel)⟩
theorem lw_p46 : lw_okq (⟨"Handshakewarden$Reader", "fail", "()I"⟩, 14) := ⟨⟨by decide +kernel, by decide +kernel⟩, List.mem_of_getElem? (i := 222) (by decide +kernel), List.mem_of_getElem? (i := 1227) (by decide +kernel), List.mem_of_getElem? (i := 1228) (by decide +kernel)⟩
theorem lw_p47 : lw_okq (⟨"Handshakewarden$Reader", "loop", "(I)I"⟩, 14) := ⟨⟨by decide +kernel, by decide +kernel⟩, List.mem_of_getElem? (i := 222) (by decide +kernel), List.mem_of_getElem? (i := 1231) (by decide +kernel), List.mem_of_getElem? (i := 1232) (by decide +kernel)⟩
def lw_privs_3 : List (MethodName × Nat) := [(⟨"Handshakewarden$Comparer", "findClasses", "(LHandshakewarden$Part;)V"⟩, 21), (⟨"Handshakewarden$Comparer", "folded", "(LHandshakewarden$Part;[I)LHandshakewarden$Part;"⟩, 21), (⟨"Handshakewarden$Comparer", "startSearch", "()V"⟩, 21), (⟨"Handshakewarden$Comparer", "keep", "(IJJ)V"⟩, 21), (⟨"Handshakewarden$Comparer", "unseen", "(JJ)J"⟩, 21), (⟨"Handshakewarden$Comparer", "goOnFrom", "(I)V"⟩, 21), (⟨"Handshakewarden$Comparer", "swapLevels", "()V"⟩, 21), (⟨"Handshakewarden$Comparer", "cannotBe", "(IJ)Z"⟩, 21), (⟨"Handshakewarden$Comparer", "goOn", "(II)V"⟩, 21), (⟨"Handshakewarden", "appendWord", "(I)V"⟩, 10), (⟨"Handshakewarden", "appendByte", "(I)V"⟩, 10), (⟨"Handshakewarden$Reader", "findTokens", "([II)V"⟩, 14), (⟨"Handshakewarden$Reader", "advance", "()V"⟩, 14), (⟨"Handshakewarden$Reader", "whole", "(I)I"⟩, 14), (⟨"Handshakewarden$Reader", "fail", "()I"⟩, 14), (⟨"Handshakewarden$Reader", "loop", "(I)I"⟩, 14)]
theorem lw_r3 : ∀ q ∈ lw_privs_3, lw_okq q := List.forall_mem_cons.mpr ⟨lw_p32, List.forall_mem_cons.mpr ⟨lw_p33, List.forall_mem_cons.mpr ⟨lw_p34, List.forall_mem_cons.mpr ⟨lw_p35, List.forall_mem_cons.mpr ⟨lw_p36, List.forall_mem_cons.mpr ⟨lw_p37, List.forall_mem_cons.mpr ⟨lw_p38, List.forall_mem_cons.mpr ⟨lw_p39, List.forall_mem_cons.mpr ⟨lw_p40, List.forall_mem_cons.mpr ⟨lw_p41, List.forall_mem_cons.mpr ⟨lw_p42, List.forall_mem_cons.mpr ⟨lw_p43, List.forall_mem_cons.mpr ⟨lw_p44, List.forall_mem_cons.mpr ⟨lw_p45, List.forall_mem_cons.mpr ⟨lw_p46, List.forall_mem_cons.mpr ⟨lw_p47, fun _ h => absurd h List.not_mem_nil⟩⟩⟩⟩⟩⟩⟩⟩⟩⟩⟩⟩⟩⟩⟩⟩
theorem lw_p48 : lw_okq (⟨"Handshakewarden$Reader", "letterPlace", "(I)I"⟩, 14) := ⟨⟨by decide +kernel, by decide +kernel⟩, List.mem_of_getElem? (i := 222) (by decide +kernel), List.mem_of_getElem? (i := 1235) (by decide +kernel), List.mem_of_getElem? (i := 1236) (by decide +kernel)⟩
theorem lw_p49 : lw_okq (⟨"Handshakewarden$Reader", "isFreeRole", "()Z"⟩, 14) := ⟨⟨by decide +kernel, by decide +kernel⟩, List.mem_of_getElem? (i := 222) (by decide +kernel), List.mem_of_getElem? (i := 1239) (by decide +kernel), List.mem_of_getElem? (i := 1240) (by decide +kernel)⟩
theorem lw_p50 : lw_okq (⟨"Handshakewarden$Reader", "isSign", "(I)Z"⟩, 14) := ⟨⟨by decide +kernel, by decide +kernel⟩, List.mem_of_getElem? (i := 222) (by decide +kernel), List.mem_of_getElem? (i := 1244) (by decide +kernel), List.mem_of_getElem? (i := 1245) (by decide +kernel)⟩
theorem lw_p51 : lw_okq (⟨"Handshakewarden$Reader", "draft", "(I)I"⟩, 14) := ⟨⟨by decide +kernel, by decide +kernel⟩, List.mem_of_getElem? (i := 222) (by decide +kernel), List.mem_of_getElem? (i := 1248) (by decide +kernel), List.mem_of_getElem? (i := 1249) (by decide +kernel)⟩
theorem lw_p52 : lw_okq (⟨"Handshakewarden$Reader", "branches", "(II)I"⟩, 14) := ⟨⟨by decide +kernel, by decide +kernel⟩, List.mem_of_getElem? (i := 222) (by decide +kernel), List.mem_of_getElem? (i := 1252) (by decide +kernel), List.mem_of_getElem? (i := 1253) (by decide +kernel)⟩
theorem lw_p53 : lw_okq (⟨"Handshakewarden$Reader", "closed", "(II)I"⟩, 14) := ⟨⟨by decide +kernel, by decide +kernel⟩, List.mem_of_getElem? (i := 222) (by decide +kernel), List.mem_of_getElem? (i := 1256) (by decide +kernel), List.mem_of_getElem? (i := 1257) (by decide +kernel)⟩
theorem lw_p54 : lw_okq (⟨"Handshakewarden$Reader", "beside", "(I)I"⟩, 14) := ⟨⟨by decide +kernel, by decide +kernel⟩, List.mem_of_getElem? (i := 222) (by decide +kernel), List.mem_of_getElem? (i := 1260) (by decide +kernel), List.mem_of_getElem? (i := 1261) (by decide +kernel)⟩
theorem lw_p55 : lw_okq (⟨"Handshakewarden$Reader", "numbered", "(I)LHandshakewarden$Whole;"⟩, 14) := ⟨⟨by decide +kernel, by decide +kernel⟩, List.mem_of_getElem? (i := 222) (by decide +kernel), List.mem_of_getElem? (i := 1264) (by decide +kernel), List.mem_of_getElem? (i := 1265) (by decide +kernel)⟩
theorem lw_p56 : lw_okq (⟨"Handshakewarden$Reader", "come", "(II)I"⟩, 14) := ⟨⟨by decide +kernel, by decide +kernel⟩, List.mem_of_getElem? (i := 222) (by decide +kernel), List.mem_of_getElem? (i := 1268) (by decide +kernel), List.mem_of_getElem? (i := 1269) (by decide +kernel)⟩
theorem lw_p57 : lw_okq (⟨"Handshakewarden", "keepWhole", "(ILHandshakewarden$Whole;)V"⟩, 10) := ⟨⟨by decide +kernel, by decide +kernel⟩, List.mem_of_getElem? (i := 36) (by decide +kernel), List.mem_of_getElem? (i := 1275) (by decide +kernel), List.mem_of_getElem? (i := 1276) (by decide +kernel)⟩
theorem lw_p58 : lw_okq (⟨"Handshakewarden", "imageAt", "(I)LHandshakewarden$Hall;"⟩, 10) := ⟨⟨by decide +kernel, by decide +kernel⟩, List.mem_of_getElem? (i := 36) (by decide +kernel), List.mem_of_getElem? (i := 1307) (by decide +kernel), List.mem_of_getElem? (i := 1308) (by decide +kernel)⟩
theorem lw_p59 : lw_okq (⟨"Handshakewarden$Comparer", "addPlaces", "(II)V"⟩, 21) := ⟨⟨by decide +kernel, by decide +kernel⟩, List.mem_of_getElem? (i := 370) (by decide +kernel), List.mem_of_getElem? (i := 1434) (by decide +kernel), List.mem_of_getElem? (i := 1435) (by decide +kernel)⟩
theorem lw_p60 : lw_okq (⟨"Handshakewarden", "slotAt", "(I)LHandshakewarden$Part;"⟩, 10) := ⟨⟨by decide +kernel, by decide +kernel⟩, List.mem_of_getElem? (i := 36) (by decide +kernel), List.mem_of_getElem? (i := 1478) (by decide +kernel), List.mem_of_getElem? (i := 1479) (by decide +kernel)⟩
theorem lw_p61 : lw_okq (⟨"Handshakewarden", "castOf", "(LHandshakewarden$Whole;)LHandshakewarden$Cast;"⟩, 10) := ⟨⟨by decide +kernel, by decide +kernel⟩, List.mem_of_getElem? (i := 36) (by decide +kernel), List.mem_of_getElem? (i := 1560) (by decide +kernel), List.mem_of_getElem? (i := 1561) (by decide +kernel)⟩
theorem lw_p62 : lw_okq (⟨"Handshakewarden", "cast", "()LHandshakewarden$Cast;"⟩, 10) := ⟨⟨by decide +kernel, by decide +kernel⟩, List.mem_of_getElem? (i := 36) (by decide +kernel), List.mem_of_getElem? (i := 1581) (by decide +kernel), List.mem_of_getElem? (i := 1582) (by decide +kernel)⟩
theorem lw_p63 : lw_okq (⟨"Handshakewarden", "castWith", "(I)LHandshakewarden$Cast;"⟩, 10) := ⟨⟨by decide +kernel, by decide +kernel⟩, List.mem_of_getElem? (i := 36) (by decide +kernel), List.mem_of_getElem? (i := 1601) (by decide +kernel), List.mem_of_getElem? (i := 1602) (by decide +kernel)⟩
def lw_privs_4 : List (MethodName × Nat) := [(⟨"Handshakewarden$Reader", "letterPlace", "(I)I"⟩, 14), (⟨"Handshakewarden$Reader", "isFreeRole", "()Z"⟩, 14), (⟨"Handshakewarden$Reader", "isSign", "(I)Z"⟩, 14), (⟨"Handshakewarden$Reader", "draft", "(I)I"⟩, 14), (⟨"Handshakewarden$Reader", "branches", "(II)I"⟩, 14), (⟨"Handshakewarden$Reader", "closed", "(II)I"⟩, 14), (⟨"Handshakewarden$Reader", "beside", "(I)I"⟩, 14), (⟨"Handshakewarden$Reader", "numbered", "(I)LHandshakewarden$Whole;"⟩, 14), (⟨"Handshakewarden$Reader", "come", "(II)I"⟩, 14), (⟨"Handshakewarden", "keepWhole", "(ILHandshakewarden$Whole;)V"⟩, 10), (⟨"Handshakewarden", "imageAt", "(I)LHandshakewarden$Hall;"⟩, 10), (⟨"Handshakewarden$Comparer", "addPlaces", "(II)V"⟩, 21), (⟨"Handshakewarden", "slotAt", "(I)LHandshakewarden$Part;"⟩, 10), (⟨"Handshakewarden", "castOf", "(LHandshakewarden$Whole;)LHandshakewarden$Cast;"⟩, 10), (⟨"Handshakewarden", "cast", "()LHandshakewarden$Cast;"⟩, 10), (⟨"Handshakewarden", "castWith", "(I)LHandshakewarden$Cast;"⟩, 10)]
theorem lw_r4 : ∀ q ∈ lw_privs_4, lw_okq q := List.forall_mem_cons.mpr ⟨lw_p48, List.forall_mem_cons.mpr ⟨lw_p49, List.forall_mem_cons.mpr ⟨lw_p50, List.forall_mem_cons.mpr ⟨lw_p51, List.forall_mem_cons.mpr ⟨lw_p52, List.forall_mem_cons.mpr ⟨lw_p53, List.forall_mem_cons.mpr ⟨lw_p54, List.forall_mem_cons.mpr ⟨lw_p55, List.forall_mem_cons.mpr ⟨lw_p56, List.forall_mem_cons.mpr ⟨lw_p57, List.forall_mem_cons.mpr ⟨lw_p58, List.forall_mem_cons.mpr ⟨lw_p59, List.forall_mem_cons.mpr ⟨lw_p60, List.forall_mem_cons.mpr ⟨lw_p61, List.forall_mem_cons.mpr ⟨lw_p62, List.forall_mem_cons.mpr ⟨lw_p63, fun _ h => absurd h List.not_mem_nil⟩⟩⟩⟩⟩⟩⟩⟩⟩⟩⟩⟩⟩⟩⟩⟩
theorem lw_p64 : lw_okq (⟨"Handshakewarden", "lettersOf", "(II)I"⟩, 10) := ⟨⟨by decide +kernel, by decide +kernel⟩, List.mem_of_getElem? (i := 36) (by decide +kernel), List.mem_of_getElem? (i := 1656) (by decide +kernel), List.mem_of_getElem? (i := 1657) (by decide +kernel)⟩
theorem lw_p65 : lw_okq (⟨"Handshakewarden$Weaver", "startWith", "(I)V"⟩, 6) := ⟨⟨by decide +kernel, by decide +kernel⟩, List.mem_of_getElem? (i := 481) (by decide +kernel), List.mem_of_getElem? (i := 1709) (by decide +kernel), List.mem_of_getElem? (i := 1710) (by decide +kernel)⟩
theorem lw_p66 : lw_okq (⟨"Handshakewarden$Weaver", "addWays", "(IJ)V"⟩, 6) := ⟨⟨by decide +kernel, by decide +kernel⟩, List.mem_of_getElem? (i := 481) (by decide +kernel), List.mem_of_getElem? (i := 1719) (by decide +kernel), List.mem_of_getElem? (i := 1720) (by decide +kernel)⟩
theorem lw_p67 : lw_okq (⟨"Handshakewarden$Weaver", "swapWays", "()V"⟩, 6) := ⟨⟨by decide +kernel, by decide +kernel⟩, List.mem_of_getElem? (i := 481) (by decide +kernel), List.mem_of_getElem? (i := 1724) (by decide +kernel), List.mem_of_getElem? (i := 1725) (by decide +kernel)⟩
theorem lw_p68 : lw_okq (⟨"Handshakewarden$Weaver", "goOn", "(LHandshakewarden$Cast;)V"⟩, 6) := ⟨⟨by decide +kernel, by decide +kernel⟩, List.mem_of_getElem? (i := 481) (by decide +kernel), List.mem_of_getElem? (i := 1728) (by decide +kernel), List.mem_of_getElem? (i := 1729) (by decide +kernel)⟩
theorem lw_p69 : lw_okq (⟨"Handshakewarden$Weaver", "meet", "(LHandshakewarden$Cast;IJ)V"⟩, 6) := ⟨⟨by decide +kernel, by decide +kernel⟩, List.mem_of_getElem? (i := 481) (by decide +kernel), List.mem_of_getElem? (i := 1739) (by decide +kernel), List.mem_of_getElem? (i := 1740) (by decide +kernel)⟩
theorem lw_p70 : lw_okq (⟨"Handshakewarden$Weaver", "commonKinds", "(LHandshakewarden$Cast;I)I"⟩, 6) := ⟨⟨by decide +kernel, by decide +kernel⟩, List.mem_of_getElem? (i := 481) (by decide +kernel), List.mem_of_getElem? (i := 1743) (by decide +kernel), List.mem_of_getElem? (i := 1744) (by decide +kernel)⟩
theorem lw_p71 : lw_okq (⟨"Handshakewarden$Weaver", "behind", "(LHandshakewarden$Cast;II)I"⟩, 6) := ⟨⟨by decide +kernel, by decide +kernel⟩, List.mem_of_getElem? (i := 481) (by decide +kernel), List.mem_of_getElem? (i := 1751) (by decide +kernel), List.mem_of_getElem? (i := 1752) (by decide +kernel)⟩
theorem lw_p72 : lw_okq (⟨"Handshakewarden$Weaver", "lastWays", "(LHandshakewarden$Cast;)J"⟩, 6) := ⟨⟨by decide +kernel, by decide +kernel⟩, List.mem_of_getElem? (i := 481) (by decide +kernel), List.mem_of_getElem? (i := 1758) (by decide +kernel), List.mem_of_getElem? (i := 1759) (by decide +kernel)⟩
theorem lw_p73 : lw_okq (⟨"Handshakewarden$Weaver", "weaveLetter", "(LHandshakewarden$Cast;II)Z"⟩, 6) := ⟨⟨by decide +kernel, by decide +kernel⟩, List.mem_of_getElem? (i := 481) (by decide +kernel), List.mem_of_getElem? (i := 1775) (by decide +kernel), List.mem_of_getElem? (i := 1776) (by decide +kernel)⟩
theorem lw_p74 : lw_okq (⟨"Handshakewarden", "keepImage", "(ILHandshakewarden$Hall;)V"⟩, 10) := ⟨⟨by decide +kernel, by decide +kernel⟩, List.mem_of_getElem? (i := 36) (by decide +kernel), List.mem_of_getElem? (i := 1811) (by decide +kernel), List.mem_of_getElem? (i := 1812) (by decide +kernel)⟩
theorem lw_p75 : lw_okq (⟨"HandshakewardenModel", "refused", "(ZI)Z"⟩, 41) := ⟨⟨by decide +kernel, by decide +kernel⟩, List.mem_of_getElem? (i := 1832) (by decide +kernel), List.mem_of_getElem? (i := 2055) (by decide +kernel), List.mem_of_getElem? (i := 2056) (by decide +kernel)⟩
theorem lw_p76 : lw_okq (⟨"HandshakewardenModel", "newPlace", "(III)I"⟩, 41) := ⟨⟨by decide +kernel, by decide +kernel⟩, List.mem_of_getElem? (i := 1832) (by decide +kernel), List.mem_of_getElem? (i := 2091) (by decide +kernel), List.mem_of_getElem? (i := 2092) (by decide +kernel)⟩
theorem lw_p77 : lw_okq (⟨"HandshakewardenModel", "readToken", "()V"⟩, 41) := ⟨⟨by decide +kernel, by decide +kernel⟩, List.mem_of_getElem? (i := 1832) (by decide +kernel), List.mem_of_getElem? (i := 2095) (by decide +kernel), List.mem_of_getElem? (i := 2096) (by decide +kernel)⟩
theorem lw_p78 : lw_okq (⟨"HandshakewardenModel", "isLetterAt", "(I)Z"⟩, 41) := ⟨⟨by decide +kernel, by decide +kernel⟩, List.mem_of_getElem? (i := 1832) (by decide +kernel), List.mem_of_getElem? (i := 2099) (by decide +kernel), List.mem_of_getElem? (i := 2100) (by decide +kernel)⟩
theorem lw_p79 : lw_okq (⟨"HandshakewardenModel", "isWord", "(Ljava/lang/String;)Z"⟩, 41) := ⟨⟨by decide +kernel, by decide +kernel⟩, List.mem_of_getElem? (i := 1832) (by decide +kernel), List.mem_of_getElem? (i := 2104) (by decide +kernel), List.mem_of_getElem? (i := 2105) (by decide +kernel)⟩
def lw_privs_5 : List (MethodName × Nat) := [(⟨"Handshakewarden", "lettersOf", "(II)I"⟩, 10), (⟨"Handshakewarden$Weaver", "startWith", "(I)V"⟩, 6), (⟨"Handshakewarden$Weaver", "addWays", "(IJ)V"⟩, 6), (⟨"Handshakewarden$Weaver", "swapWays", "()V"⟩, 6), (⟨"Handshakewarden$Weaver", "goOn", "(LHandshakewarden$Cast;)V"⟩, 6), (⟨"Handshakewarden$Weaver", "meet", "(LHandshakewarden$Cast;IJ)V"⟩, 6), (⟨"Handshakewarden$Weaver", "commonKinds", "(LHandshakewarden$Cast;I)I"⟩, 6), (⟨"Handshakewarden$Weaver", "behind", "(LHandshakewarden$Cast;II)I"⟩, 6), (⟨"Handshakewarden$Weaver", "lastWays", "(LHandshakewarden$Cast;)J"⟩, 6), (⟨"Handshakewarden$Weaver", "weaveLetter", "(LHandshakewarden$Cast;II)Z"⟩, 6), (⟨"Handshakewarden", "keepImage", "(ILHandshakewarden$Hall;)V"⟩, 10), (⟨"HandshakewardenModel", "refused", "(ZI)Z"⟩, 41), (⟨"HandshakewardenModel", "newPlace", "(III)I"⟩, 41), (⟨"HandshakewardenModel", "readToken", "()V"⟩, 41), (⟨"HandshakewardenModel", "isLetterAt", "(I)Z"⟩, 41), (⟨"HandshakewardenModel", "isWord", "(Ljava/lang/String;)Z"⟩, 41)]
theorem lw_r5 : ∀ q ∈ lw_privs_5, lw_okq q := List.forall_mem_cons.mpr ⟨lw_p64, List.forall_mem_cons.mpr ⟨lw_p65, List.forall_mem_cons.mpr ⟨lw_p66, List.forall_mem_cons.mpr ⟨lw_p67, List.forall_mem_cons.mpr ⟨lw_p68, List.forall_mem_cons.mpr ⟨lw_p69, List.forall_mem_cons.mpr ⟨lw_p70, List.forall_mem_cons.mpr ⟨lw_p71, List.forall_mem_cons.mpr ⟨lw_p72, List.forall_mem_cons.mpr ⟨lw_p73, List.forall_mem_cons.mpr ⟨lw_p74, List.forall_mem_cons.mpr ⟨lw_p75, List.forall_mem_cons.mpr ⟨lw_p76, List.forall_mem_cons.mpr ⟨lw_p77, List.forall_mem_cons.mpr ⟨lw_p78, List.forall_mem_cons.mpr ⟨lw_p79, fun _ h => absurd h List.not_mem_nil⟩⟩⟩⟩⟩⟩⟩⟩⟩⟩⟩⟩⟩⟩⟩⟩
theorem lw_p80 : lw_okq (⟨"HandshakewardenModel", "isDigitAt", "(I)Z"⟩, 41) := ⟨⟨by decide +kernel, by decide +kernel⟩, List.mem_of_getElem? (i := 1832) (by decide +kernel), List.mem_of_getElem? (i := 2109) (by decide +kernel), List.mem_of_getElem? (i := 2110) (by decide +kernel)⟩
theorem lw_p81 : lw_okq (⟨"HandshakewardenModel", "readWhole", "(I)I"⟩, 41) := ⟨⟨by decide +kernel, by decide +kernel⟩, List.mem_of_getElem? (i := 1832) (by decide +kernel), List.mem_of_getElem? (i := 2113) (by decide +kernel), List.mem_of_getElem? (i := 2114) (by decide +kernel)⟩
theorem lw_p82 : lw_okq (⟨"HandshakewardenModel", "wrong", "()I"⟩, 41) := ⟨⟨by decide +kernel, by decide +kernel⟩, List.mem_of_getElem? (i := 1832) (by decide +kernel), List.mem_of_getElem? (i := 2117) (by decide +kernel), List.mem_of_getElem? (i := 2118) (by decide +kernel)⟩
theorem lw_p83 : lw_okq (⟨"HandshakewardenModel", "readLoop", "(I)I"⟩, 41) := ⟨⟨by decide +kernel, by decide +kernel⟩, List.mem_of_getElem? (i := 1832) (by decide +kernel), List.mem_of_getElem? (i := 2121) (by decide +kernel), List.mem_of_getElem? (i := 2122) (by decide +kernel)⟩
theorem lw_p84 : lw_okq (⟨"HandshakewardenModel", "opens", "()Z"⟩, 41) := ⟨⟨by decide +kernel, by decide +kernel⟩, List.mem_of_getElem? (i := 1832) (by decide +kernel), List.mem_of_getElem? (i := 2125) (by decide +kernel), List.mem_of_getElem? (i := 2126) (by decide +kernel)⟩
theorem lw_p85 : lw_okq (⟨"HandshakewardenModel", "readLetter", "(I)I"⟩, 41) := ⟨⟨by decide +kernel, by decide +kernel⟩, List.mem_of_getElem? (i := 1832) (by decide +kernel), List.mem_of_getElem? (i := 2129) (by decide +kernel), List.mem_of_getElem? (i := 2130) (by decide +kernel)⟩
theorem lw_p86 : lw_okq (⟨"HandshakewardenModel", "readRole", "(II)I"⟩, 41) := ⟨⟨by decide +kernel, by decide +kernel⟩, List.mem_of_getElem? (i := 1832) (by decide +kernel), List.mem_of_getElem? (i := 2133) (by decide +kernel), List.mem_of_getElem? (i := 2134) (by decide +kernel)⟩
theorem lw_p87 : lw_okq (⟨"HandshakewardenModel", "takes", "(I)Z"⟩, 41) := ⟨⟨by decide +kernel, by decide +kernel⟩, List.mem_of_getElem? (i := 1832) (by decide +kernel), List.mem_of_getElem? (i := 2137) (by decide +kernel), List.mem_of_getElem? (i := 2138) (by decide +kernel)⟩
theorem lw_p88 : lw_okq (⟨"HandshakewardenModel", "isSign", "(I)Z"⟩, 41) := ⟨⟨by decide +kernel, by decide +kernel⟩, List.mem_of_getElem? (i := 1832) (by decide +kernel), List.mem_of_getElem? (i := 2141) (by decide +kernel), List.mem_of_getElem? (i := 2142) (by decide +kernel)⟩
theorem lw_p89 : lw_okq (⟨"HandshakewardenModel", "readBranch", "(II)Z"⟩, 41) := ⟨⟨by decide +kernel, by decide +kernel⟩, List.mem_of_getElem? (i := 1832) (by decide +kernel), List.mem_of_getElem? (i := 2145) (by decide +kernel), List.mem_of_getElem? (i := 2146) (by decide +kernel)⟩
theorem lw_p90 : lw_okq (⟨"HandshakewardenModel", "readBeside", "(I)I"⟩, 41) := ⟨⟨by decide +kernel, by decide +kernel⟩, List.mem_of_getElem? (i := 1832) (by decide +kernel), List.mem_of_getElem? (i := 2149) (by decide +kernel), List.mem_of_getElem? (i := 2150) (by decide +kernel)⟩
theorem lw_p91 : lw_okq (⟨"HandshakewardenModel$Cutter", "isEnd", "(I)Z"⟩, 12) := ⟨⟨by decide +kernel, by decide +kernel⟩, List.mem_of_getElem? (i := 2191) (by decide +kernel), List.mem_of_getElem? (i := 2203) (by decide +kernel), List.mem_of_getElem? (i := 2204) (by decide +kernel)⟩
theorem lw_p92 : lw_okq (⟨"HandshakewardenModel$Cutter", "stateOf", "(J)I"⟩, 12) := ⟨⟨by decide +kernel, by decide +kernel⟩, List.mem_of_getElem? (i := 2191) (by decide +kernel), List.mem_of_getElem? (i := 2207) (by decide +kernel), List.mem_of_getElem? (i := 2208) (by decide +kernel)⟩
theorem lw_p93 : lw_okq (⟨"HandshakewardenModel$Cutter", "grow", "()V"⟩, 12) := ⟨⟨by decide +kernel, by decide +kernel⟩, List.mem_of_getElem? (i := 2191) (by decide +kernel), List.mem_of_getElem? (i := 2219) (by decide +kernel), List.mem_of_getElem? (i := 2220) (by decide +kernel)⟩
theorem lw_p94 : lw_okq (⟨"HandshakewardenModel$Cutter", "goOn", "(I)V"⟩, 12) := ⟨⟨by decide +kernel, by decide +kernel⟩, List.mem_of_getElem? (i := 2191) (by decide +kernel), List.mem_of_getElem? (i := 2225) (by decide +kernel), List.mem_of_getElem? (i := 2226) (by decide +kernel)⟩
theorem lw_p95 : lw_okq (⟨"HandshakewardenModel$Cutter", "isRight", "(I)Z"⟩, 12) := ⟨⟨by decide +kernel, by decide +kernel⟩, List.mem_of_getElem? (i := 2191) (by decide +kernel), List.mem_of_getElem? (i := 2229) (by decide +kernel), List.mem_of_getElem? (i := 2230) (by decide +kernel)⟩
def lw_privs_6 : List (MethodName × Nat) := [(⟨"HandshakewardenModel", "isDigitAt", "(I)Z"⟩, 41), (⟨"HandshakewardenModel", "readWhole", "(I)I"⟩, 41), (⟨"HandshakewardenModel", "wrong", "()I"⟩, 41), (⟨"HandshakewardenModel", "readLoop", "(I)I"⟩, 41), (⟨"HandshakewardenModel", "opens", "()Z"⟩, 41), (⟨"HandshakewardenModel", "readLetter", "(I)I"⟩, 41), (⟨"HandshakewardenModel", "readRole", "(II)I"⟩, 41), (⟨"HandshakewardenModel", "takes", "(I)Z"⟩, 41), (⟨"HandshakewardenModel", "isSign", "(I)Z"⟩, 41), (⟨"HandshakewardenModel", "readBranch", "(II)Z"⟩, 41), (⟨"HandshakewardenModel", "readBeside", "(I)I"⟩, 41), (⟨"HandshakewardenModel$Cutter", "isEnd", "(I)Z"⟩, 12), (⟨"HandshakewardenModel$Cutter", "stateOf", "(J)I"⟩, 12), (⟨"HandshakewardenModel$Cutter", "grow", "()V"⟩, 12), (⟨"HandshakewardenModel$Cutter", "goOn", "(I)V"⟩, 12), (⟨"HandshakewardenModel$Cutter", "isRight", "(I)Z"⟩, 12)]
theorem lw_r6 : ∀ q ∈ lw_privs_6, lw_okq q := List.forall_mem_cons.mpr ⟨lw_p80, List.forall_mem_cons.mpr ⟨lw_p81, List.forall_mem_cons.mpr ⟨lw_p82, List.forall_mem_cons.mpr ⟨lw_p83, List.forall_mem_cons.mpr ⟨lw_p84, List.forall_mem_cons.mpr ⟨lw_p85, List.forall_mem_cons.mpr ⟨lw_p86, List.forall_mem_cons.mpr ⟨lw_p87, List.forall_mem_cons.mpr ⟨lw_p88, List.forall_mem_cons.mpr ⟨lw_p89, List.forall_mem_cons.mpr ⟨lw_p90, List.forall_mem_cons.mpr ⟨lw_p91, List.forall_mem_cons.mpr ⟨lw_p92, List.forall_mem_cons.mpr ⟨lw_p93, List.forall_mem_cons.mpr ⟨lw_p94, List.forall_mem_cons.mpr ⟨lw_p95, fun _ h => absurd h List.not_mem_nil⟩⟩⟩⟩⟩⟩⟩⟩⟩⟩⟩⟩⟩⟩⟩⟩
theorem lw_p96 : lw_okq (⟨"HandshakewardenModel$Cutter", "goTogether", "(II)Z"⟩, 12) := ⟨⟨by decide +kernel, by decide +kernel⟩, List.mem_of_getElem? (i := 2191) (by decide +kernel), List.mem_of_getElem? (i := 2233) (by decide +kernel), List.mem_of_getElem? (i := 2234) (by decide +kernel)⟩
theorem lw_p97 : lw_okq (⟨"HandshakewardenModel$Cutter", "look", "(I)V"⟩, 12) := ⟨⟨by decide +kernel, by decide +kernel⟩, List.mem_of_getElem? (i := 2191) (by decide +kernel), List.mem_of_getElem? (i := 2237) (by decide +kernel), List.mem_of_getElem? (i := 2238) (by decide +kernel)⟩
theorem lw_p98 : lw_okq (⟨"HandshakewardenModel", "findRow", "(LHandshakewardenModel$Part;LHandshakewardenModel$Part;)I"⟩, 41) := ⟨⟨by decide +kernel, by decide +kernel⟩, List.mem_of_getElem? (i := 1832) (by decide +kernel), List.mem_of_getElem? (i := 2334) (by decide +kernel), List.mem_of_getElem? (i := 2335) (by decide +kernel)⟩
theorem lw_p99 : lw_okq (⟨"HandshakewardenModel", "layRow", "([I[II)I"⟩, 41) := ⟨⟨by decide +kernel, by decide +kernel⟩, List.mem_of_getElem? (i := 1832) (by decide +kernel), List.mem_of_getElem? (i := 2338) (by decide +kernel), List.mem_of_getElem? (i := 2339) (by decide +kernel)⟩
theorem lw_p100 : lw_okq (⟨"HandshakewardenModel", "beginMonitor", "()V"⟩, 41) := ⟨⟨by decide +kernel, by decide +kernel⟩, List.mem_of_getElem? (i := 1832) (by decide +kernel), List.mem_of_getElem? (i := 2358) (by decide +kernel), List.mem_of_getElem? (i := 2359) (by decide +kernel)⟩
theorem lw_p101 : lw_okq (⟨"HandshakewardenModel", "isInRun", "(I)Z"⟩, 41) := ⟨⟨by decide +kernel, by decide +kernel⟩, List.mem_of_getElem? (i := 1832) (by decide +kernel), List.mem_of_getElem? (i := 2366) (by decide +kernel), List.mem_of_getElem? (i := 2367) (by decide +kernel)⟩
theorem lw_p102 : lw_okq (⟨"HandshakewardenModel", "isAt", "(II)Z"⟩, 41) := ⟨⟨by decide +kernel, by decide +kernel⟩, List.mem_of_getElem? (i := 1832) (by decide +kernel), List.mem_of_getElem? (i := 2374) (by decide +kernel), List.mem_of_getElem? (i := 2375) (by decide +kernel)⟩
theorem lw_p103 : lw_okq (⟨"HandshakewardenModel", "stepOf", "(II)I"⟩, 41) := ⟨⟨by decide +kernel, by decide +kernel⟩, List.mem_of_getElem? (i := 1832) (by decide +kernel), List.mem_of_getElem? (i := 2378) (by decide +kernel), List.mem_of_getElem? (i := 2379) (by decide +kernel)⟩
theorem lw_p104 : lw_okq (⟨"HandshakewardenModel", "otherNow", "(I)I"⟩, 41) := ⟨⟨by decide +kernel, by decide +kernel⟩, List.mem_of_getElem? (i := 1832) (by decide +kernel), List.mem_of_getElem? (i := 2382) (by decide +kernel), List.mem_of_getElem? (i := 2383) (by decide +kernel)⟩
theorem lw_p105 : lw_okq (⟨"HandshakewardenModel", "canAct", "(I)Z"⟩, 41) := ⟨⟨by decide +kernel, by decide +kernel⟩, List.mem_of_getElem? (i := 1832) (by decide +kernel), List.mem_of_getElem? (i := 2409) (by decide +kernel), List.mem_of_getElem? (i := 2410) (by decide +kernel)⟩
theorem lw_p106 : lw_okq (⟨"HandshakewardenModel", "lookThroughRun", "(I)V"⟩, 41) := ⟨⟨by decide +kernel, by decide +kernel⟩, List.mem_of_getElem? (i := 1832) (by decide +kernel), List.mem_of_getElem? (i := 2421) (by decide +kernel), List.mem_of_getElem? (i := 2422) (by decide +kernel)⟩
theorem lw_p107 : lw_okq (⟨"HandshakewardenModel", "lookThrough", "([LHandshakewardenModel$Part;II)V"⟩, 41) := ⟨⟨by decide +kernel, by decide +kernel⟩, List.mem_of_getElem? (i := 1832) (by decide +kernel), List.mem_of_getElem? (i := 2425) (by decide +kernel), List.mem_of_getElem? (i := 2426) (by decide +kernel)⟩
theorem lw_p108 : lw_okq (⟨"HandshakewardenModel", "meet", "(I)V"⟩, 41) := ⟨⟨by decide +kernel, by decide +kernel⟩, List.mem_of_getElem? (i := 1832) (by decide +kernel), List.mem_of_getElem? (i := 2429) (by decide +kernel), List.mem_of_getElem? (i := 2430) (by decide +kernel)⟩
theorem lw_p109 : lw_okq (⟨"HandshakewardenModel", "unfold", "(I)V"⟩, 41) := ⟨⟨by decide +kernel, by decide +kernel⟩, List.mem_of_getElem? (i := 1832) (by decide +kernel), List.mem_of_getElem? (i := 2434) (by decide +kernel), List.mem_of_getElem? (i := 2435) (by decide +kernel)⟩
theorem lw_p110 : lw_okq (⟨"HandshakewardenModel", "look", "(I[LHandshakewardenModel$Part;II)V"⟩, 41) := ⟨⟨by decide +kernel, by decide +kernel⟩, List.mem_of_getElem? (i := 1832) (by decide +kernel), List.mem_of_getElem? (i := 2440) (by decide +kernel), List.mem_of_getElem? (i := 2441) (by decide +kernel)⟩
theorem lw_p111 : lw_okq (⟨"HandshakewardenModel", "goOn", "(ILHandshakewardenModel$Part;II)V"⟩, 41) := ⟨⟨by decide +kernel, by decide +kernel⟩, List.mem_of_getElem? (i := 1832) (by decide +kernel), List.mem_of_getElem? (i := 2447) (by decide +kernel), List.mem_of_getElem? (i := 2448) (by decide +kernel)⟩
def lw_privs_7 : List (MethodName × Nat) := [(⟨"HandshakewardenModel$Cutter", "goTogether", "(II)Z"⟩, 12), (⟨"HandshakewardenModel$Cutter", "look", "(I)V"⟩, 12), (⟨"HandshakewardenModel", "findRow", "(LHandshakewardenModel$Part;LHandshakewardenModel$Part;)I"⟩, 41), (⟨"HandshakewardenModel", "layRow", "([I[II)I"⟩, 41), (⟨"HandshakewardenModel", "beginMonitor", "()V"⟩, 41), (⟨"HandshakewardenModel", "isInRun", "(I)Z"⟩, 41), (⟨"HandshakewardenModel", "isAt", "(II)Z"⟩, 41), (⟨"HandshakewardenModel", "stepOf", "(II)I"⟩, 41), (⟨"HandshakewardenModel", "otherNow", "(I)I"⟩, 41), (⟨"HandshakewardenModel", "canAct", "(I)Z"⟩, 41), (⟨"HandshakewardenModel", "lookThroughRun", "(I)V"⟩, 41), (⟨"HandshakewardenModel", "lookThrough", "([LHandshakewardenModel$Part;II)V"⟩, 41), (⟨"HandshakewardenModel", "meet", "(I)V"⟩, 41), (⟨"HandshakewardenModel", "unfold", "(I)V"⟩, 41), (⟨"HandshakewardenModel", "look", "(I[LHandshakewardenModel$Part;II)V"⟩, 41), (⟨"HandshakewardenModel", "goOn", "(ILHandshakewardenModel$Part;II)V"⟩, 41)]
theorem lw_r7 : ∀ q ∈ lw_privs_7, lw_okq q := List.forall_mem_cons.mpr ⟨lw_p96, List.forall_mem_cons.mpr ⟨lw_p97, List.forall_mem_cons.mpr ⟨lw_p98, List.forall_mem_cons.mpr ⟨lw_p99, List.forall_mem_cons.mpr ⟨lw_p100, List.forall_mem_cons.mpr ⟨lw_p101, List.forall_mem_cons.mpr ⟨lw_p102, List.forall_mem_cons.mpr ⟨lw_p103, List.forall_mem_cons.mpr ⟨lw_p104, List.forall_mem_cons.mpr ⟨lw_p105, List.forall_mem_cons.mpr ⟨lw_p106, List.forall_mem_cons.mpr ⟨lw_p107, List.forall_mem_cons.mpr ⟨lw_p108, List.forall_mem_cons.mpr ⟨lw_p109, List.forall_mem_cons.mpr ⟨lw_p110, List.forall_mem_cons.mpr ⟨lw_p111, fun _ h => absurd h List.not_mem_nil⟩⟩⟩⟩⟩⟩⟩⟩⟩⟩⟩⟩⟩⟩⟩⟩
theorem lw_p112 : lw_okq (⟨"HandshakewardenModel", "comes", "(I)V"⟩, 41) := ⟨⟨by decide +kernel, by decide +kernel⟩, List.mem_of_getElem? (i := 1832) (by decide +kernel), List.mem_of_getElem? (i := 2454) (by decide +kernel), List.mem_of_getElem? (i := 2455) (by decide +kernel)⟩
theorem lw_p113 : lw_okq (⟨"HandshakewardenModel", "firstSender", "([I)I"⟩, 41) := ⟨⟨by decide +kernel, by decide +kernel⟩, List.mem_of_getElem? (i := 1832) (by decide +kernel), List.mem_of_getElem? (i := 2490) (by decide +kernel), List.mem_of_getElem? (i := 2491) (by decide +kernel)⟩
theorem lw_p114 : lw_okq (⟨"HandshakewardenModel", "allPlaces", "()I"⟩, 41) := ⟨⟨by decide +kernel, by decide +kernel⟩, List.mem_of_getElem? (i := 1832) (by decide +kernel), List.mem_of_getElem? (i := 2556) (by decide +kernel), List.mem_of_getElem? (i := 2557) (by decide +kernel)⟩
def lw_privs_8 : List (MethodName × Nat) := [(⟨"HandshakewardenModel", "comes", "(I)V"⟩, 41), (⟨"HandshakewardenModel", "firstSender", "([I)I"⟩, 41), (⟨"HandshakewardenModel", "allPlaces", "()I"⟩, 41)]
theorem lw_r8 : ∀ q ∈ lw_privs_8, lw_okq q := List.forall_mem_cons.mpr ⟨lw_p112, List.forall_mem_cons.mpr ⟨lw_p113, List.forall_mem_cons.mpr ⟨lw_p114, fun _ h => absurd h List.not_mem_nil⟩⟩⟩
def lw_privs : List (MethodName × Nat) := lw_privs_1 ++ (lw_privs_2 ++ (lw_privs_3 ++ (lw_privs_4 ++ (lw_privs_5 ++ (lw_privs_6 ++ (lw_privs_7 ++ (lw_privs_8)))))))
def lw_tbl : List Cond := k2_sels lw_privs ++ tables_1
theorem lw_privs_ok : ∀ q ∈ lw_privs, lw_okq q := by
  show ∀ q ∈ lw_privs_1 ++ (lw_privs_2 ++ (lw_privs_3 ++ (lw_privs_4 ++ (lw_privs_5 ++ (lw_privs_6 ++ (lw_privs_7 ++ (lw_privs_8))))))), lw_okq q
  exact List.forall_mem_append.mpr ⟨lw_r1, List.forall_mem_append.mpr ⟨lw_r2, List.forall_mem_append.mpr ⟨lw_r3, List.forall_mem_append.mpr ⟨lw_r4, List.forall_mem_append.mpr ⟨lw_r5, List.forall_mem_append.mpr ⟨lw_r6, List.forall_mem_append.mpr ⟨lw_r7, lw_r8⟩⟩⟩⟩⟩⟩⟩
/-- the streams that the claim lets the run draw from -/
abbrev lw_cs : List Choice := [Jvm.Choice.named "NaN.bits"]
theorem lw_bits : nanBits ∈ lw_cs := by first | decide | exact List.mem_cons_self | simp [lw_cs, nanBits]
end
section
/-! THE CHUNKS of the tables' words, laid by a program. -/
def e_ch (c : Nat) : List Cond := match c with
  | 0 => k2_sels lw_privs_1
  | 1 => k2_sels lw_privs_2
  | 2 => k2_sels lw_privs_3
  | 3 => k2_sels lw_privs_4
  | 4 => k2_sels lw_privs_5
  | 5 => k2_sels lw_privs_6
  | 6 => k2_sels lw_privs_7
  | 7 => k2_sels lw_privs_8
  | 8 => tables_1_1
  | 9 => tables_1_2
  | 10 => tables_1_3
  | 11 => tables_1_4
  | 12 => tables_1_5
  | 13 => tables_1_6
  | 14 => tables_1_7
  | 15 => tables_1_8
  | 16 => tables_1_9
  | 17 => tables_1_10
  | 18 => tables_1_11
  | _ => []
theorem e_ch_p {qs : List (MethodName × Nat)} {w : Cond} (h : w ∈ k2_sels qs) (hs : ∀ q ∈ qs, q ∈ lw_privs) : w ∈ lw_tbl := by
  obtain ⟨q, hq, rfl⟩ := List.mem_map.mp h
  exact List.mem_append_left _ (List.mem_map.mpr ⟨q, hs q hq, rfl⟩)
theorem e_ch_in {c : Nat} {w : Cond} (h : w ∈ e_ch c) : w ∈ lw_tbl := by
  unfold e_ch at h
  split at h
  · exact e_ch_p h (fun q hq => List.mem_append_left _ hq)
  · exact e_ch_p h (fun q hq => List.mem_append_right _ (List.mem_append_left _ hq))
  · exact e_ch_p h (fun q hq => List.mem_append_right _ (List.mem_append_right _ (List.mem_append_left _ hq)))
  · exact e_ch_p h (fun q hq => List.mem_append_right _ (List.mem_append_right _ (List.mem_append_right _ (List.mem_append_left _ hq))))
  · exact e_ch_p h (fun q hq => List.mem_append_right _ (List.mem_append_right _ (List.mem_append_right _ (List.mem_append_right _ (List.mem_append_left _ hq)))))
  · exact e_ch_p h (fun q hq => List.mem_append_right _ (List.mem_append_right _ (List.mem_append_right _ (List.mem_append_right _ (List.mem_append_right _ (List.mem_append_left _ hq))))))
  · exact e_ch_p h (fun q hq => List.mem_append_right _ (List.mem_append_right _ (List.mem_append_right _ (List.mem_append_right _ (List.mem_append_right _ (List.mem_append_right _ (List.mem_append_left _ hq)))))))
  · exact e_ch_p h (fun q hq => List.mem_append_right _ (List.mem_append_right _ (List.mem_append_right _ (List.mem_append_right _ (List.mem_append_right _ (List.mem_append_right _ (List.mem_append_right _ (hq))))))))
  · exact List.mem_append_right _ (List.mem_append_left _ h)
  · exact List.mem_append_right _ (List.mem_append_right _ (List.mem_append_left _ h))
  · exact List.mem_append_right _ (List.mem_append_right _ (List.mem_append_right _ (List.mem_append_left _ h)))
  · exact List.mem_append_right _ (List.mem_append_right _ (List.mem_append_right _ (List.mem_append_right _ (List.mem_append_left _ h))))
  · exact List.mem_append_right _ (List.mem_append_right _ (List.mem_append_right _ (List.mem_append_right _ (List.mem_append_right _ (List.mem_append_left _ h)))))
  · exact List.mem_append_right _ (List.mem_append_right _ (List.mem_append_right _ (List.mem_append_right _ (List.mem_append_right _ (List.mem_append_right _ (List.mem_append_left _ h))))))
  · exact List.mem_append_right _ (List.mem_append_right _ (List.mem_append_right _ (List.mem_append_right _ (List.mem_append_right _ (List.mem_append_right _ (List.mem_append_right _ (List.mem_append_left _ h)))))))
  · exact List.mem_append_right _ (List.mem_append_right _ (List.mem_append_right _ (List.mem_append_right _ (List.mem_append_right _ (List.mem_append_right _ (List.mem_append_right _ (List.mem_append_right _ (List.mem_append_left _ h))))))))
  · exact List.mem_append_right _ (List.mem_append_right _ (List.mem_append_right _ (List.mem_append_right _ (List.mem_append_right _ (List.mem_append_right _ (List.mem_append_right _ (List.mem_append_right _ (List.mem_append_right _ (List.mem_append_left _ h)))))))))
  · exact List.mem_append_right _ (List.mem_append_right _ (List.mem_append_right _ (List.mem_append_right _ (List.mem_append_right _ (List.mem_append_right _ (List.mem_append_right _ (List.mem_append_right _ (List.mem_append_right _ (List.mem_append_right _ (List.mem_append_left _ h))))))))))
  · exact List.mem_append_right _ (List.mem_append_right _ (List.mem_append_right _ (List.mem_append_right _ (List.mem_append_right _ (List.mem_append_right _ (List.mem_append_right _ (List.mem_append_right _ (List.mem_append_right _ (List.mem_append_right _ (List.mem_append_right _ (h)))))))))))
  · cases h
end
section
/-! THE TABLES of the engine, laid by a program out of the listing: for each method its instructions as (place, kind, a, b, x), its room, its handlers, for each class what its fields hold at first, the switches' jumps; then the names. -/
abbrev e_V : Type := Nat × Nat
abbrev e_E : Type := Nat × Nat × Nat × Nat × Nat
abbrev e_C : Type := Nat × Nat × e_V × List (Nat × e_V)
abbrev e_N : Type := Nat × List e_E × Nat × Nat × Nat
abbrev e_F : Type := e_N × List e_E × List e_V × List e_V
def e_T : Nat → Type
  | 0 => Option e_C
  | n + 1 => e_T n × e_T n
abbrev e_W : Type := Nat × e_T 9
abbrev e_I : Type := List (Nat × Nat)
abbrev e_A : Type := e_N → List e_E → List e_V → List e_V → List e_F → e_W → e_I → Bool
abbrev e_i (n : Nat) : Int32 := Int32.ofNat n
abbrev e_u (x : Int32) : Nat := x.toBitVec.toNat
abbrev e_l (n : Nat) : Int64 := Int64.ofNat n
abbrev e_ul (x : Int64) : Nat := x.toBitVec.toNat

noncomputable section
set_option maxRecDepth 100000 in
def e_p0 : List e_E := [(0, 7, 0, 10, 0), (3, 20, 0, 0, 0), (4, 8, 1, 1, 1), (7, 9, 1, 2, 0), (8, 7, 1, 41, 0), (11, 20, 0, 0, 0), (12, 8, 190, 1, 2), (15, 9, 2, 2, 0), (16, 2, 0, 1, 0), (17, 14, 3, 0, 0), (19, 9, 3, 2, 0), (20, 2, 0, 0, 0), (21, 9, 4, 0, 0), (23, 1, 4, 0, 0), (25, 1, 0, 2, 0), (26, 12, 0, 0, 0), (27, 2, 0, 6, 0), (29, 17, 2, 0, 0), (30, 16, 4, 0, 3350), (33, 1, 0, 2, 0), (34, 1, 4, 0, 0), (36, 18, 1, 0, 0), (37, 2, 0, 63, 0), (39, 17, 4, 0, 0), (40, 24, 0, 43, 0), (232, 1, 1, 2, 0), (233, 1, 0, 2, 0), (234, 1, 4, 0, 0), (236, 2, 0, 1, 0), (237, 17, 1, 0, 0), (238, 18, 1, 0, 0), (239, 1, 0, 2, 0), (240, 1, 4, 0, 0), (242, 2, 0, 2, 0), (243, 17, 1, 0, 0), (244, 18, 1, 0, 0), (245, 1, 0, 2, 0), (246, 1, 4, 0, 0), (248, 2, 0, 3, 0), (249, 17, 1, 0, 0), (250, 18, 1, 0, 0), (251, 1, 0, 2, 0), (252, 1, 4, 0, 0), (254, 2, 0, 4, 0), (255, 17, 1, 0, 0), (256, 18, 1, 0, 0), (257, 1, 0, 2, 0), (258, 1, 4, 0, 0), (260, 2, 0, 5, 0), (261, 17, 1, 0, 0), (262, 18, 1, 0, 0), (263, 1, 3, 2, 0), (264, 8, 155, 7, 0), (267, 9, 5, 0, 0), (269, 1, 2, 2, 0), (270, 1, 0, 2, 0), (271, 1, 4, 0, 0), (273, 2, 0, 1, 0), (274, 17, 1, 0, 0), (275, 18, 1, 0, 0), (276, 1, 0, 2, 0), (277, 1, 4, 0, 0), (279, 2, 0, 2, 0), (280, 17, 1, 0, 0), (281, 18, 1, 0, 0), (282, 1, 0, 2, 0), (283, 1, 4, 0, 0), (285, 2, 0, 3, 0), (286, 17, 1, 0, 0), (287, 18, 1, 0, 0), (288, 1, 0, 2, 0), (289, 1, 4, 0, 0), (291, 2, 0, 4, 0), (292, 17, 1, 0, 0), (293, 18, 1, 0, 0), (294, 1, 0, 2, 0), (295, 1, 4, 0, 0), (297, 2, 0, 5, 0), (298, 17, 1, 0, 0), (299, 18, 1, 0, 0), (300, 8, 193, 6, 2), (303, 9, 6, 0, 0), (305, 1, 2, 2, 0), (306, 8, 261, 1, 2), (309, 1, 5, 0, 0), (311, 16, 0, 0, 4), (314, 0, 0, 0, 0), (315, 0, 0, 0, 0), (316, 1, 5, 0, 0), (318, 10, 1, 0, 18), (321, 1, 3, 2, 0), (322, 2, 0, 0, 0), (323, 18, 3, 0, 0), (324, 1, 6, 0, 0), (326, 22, 0, 0, 0), (327, 28, 0, 0, 0), (328, 10, 0, 0, 4), (331, 0, 0, 0, 0), (332, 0, 0, 0, 0), (333, 3, 0, 0, 3184), (336, 1, 1, 2, 0), (337, 8, 19, 1, 1), (340, 1, 2, 2, 0), (341, 8, 203, 1, 2), (344, 16, 0, 0, 3174), (347, 0, 0, 0, 0), (348, 0, 0, 0, 0), (349, 1, 1, 2, 0), (350, 8, 23, 1, 1), (353, 1, 2, 2, 0), (354, 8, 207, 1, 2), (357, 16, 0, 0, 3160), (360, 0, 0, 0, 0), (361, 0, 0, 0, 0), (362, 1, 1, 2, 0), (363, 1, 0, 2, 0), (364, 1, 4, 0, 0), (366, 2, 0, 1, 0), (367, 17, 1, 0, 0), (368, 18, 1, 0, 0), (369, 1, 3, 2, 0), (370, 8, 176, 3, 0), (373, 9, 5, 0, 0), (375, 1, 2, 2, 0), (376, 1, 0, 2, 0), (377, 1, 4, 0, 0), (379, 2, 0, 1, 0), (380, 17, 1, 0, 0), (381, 18, 1, 0, 0), (382, 8, 242, 2, 2), (385, 9, 6, 0, 0), (387, 1, 2, 2, 0), (388, 8, 261, 1, 2), (391, 1, 5, 0, 0), (393, 16, 0, 0, 4), (396, 0, 0, 0, 0), (397, 0, 0, 0, 0), (398, 1, 5, 0, 0), (400, 10, 1, 0, 18), (403, 0, 0, 0, 0), (404, 0, 0, 0, 0), (405, 0, 0, 0, 0), (406, 0, 0, 0, 0), (408, 0, 0, 0, 0), (409, 0, 0, 0, 0), (410, 0, 0, 0, 0), (413, 0, 0, 0, 0), (414, 0, 0, 0, 0), (415, 3, 0, 0, 3086), (418, 1, 1, 2, 0), (419, 1, 0, 2, 0), (420, 1, 4, 0, 0), (422, 2, 0, 1, 0), (423, 17, 1, 0, 0), (424, 18, 1, 0, 0), (425, 1, 3, 2, 0), (426, 8, 161, 3, 0), (429, 9, 5, 0, 0), (431, 1, 2, 2, 0), (432, 1, 0, 2, 0), (433, 1, 4, 0, 0), (435, 2, 0, 1, 0), (436, 17, 1, 0, 0), (437, 18, 1, 0, 0), (438, 8, 209, 2, 2), (441, 9, 6, 0, 0), (443, 1, 2, 2, 0), (444, 8, 261, 1, 2), (447, 1, 5, 0, 0), (449, 16, 0, 0, 4), (452, 0, 0, 0, 0), (453, 0, 0, 0, 0), (454, 1, 5, 0, 0), (456, 10, 1, 0, 18), (459, 1, 3, 2, 0), (460, 2, 0, 0, 0), (461, 18, 3, 0, 0), (462, 1, 6, 0, 0), (464, 22, 0, 0, 0), (465, 28, 0, 0, 0), (466, 10, 0, 0, 4), (469, 0, 0, 0, 0), (470, 0, 0, 0, 0), (471, 3, 0, 0, 3016), (474, 1, 1, 2, 0), (475, 1, 0, 2, 0), (476, 1, 4, 0, 0), (478, 2, 0, 1, 0), (479, 17, 1, 0, 0), (480, 18, 1, 0, 0), (481, 1, 3, 2, 0), (482, 8, 172, 3, 0), (485, 9, 5, 0, 0), (487, 1, 2, 2, 0), (488, 1, 0, 2, 0), (489, 1, 4, 0, 0), (491, 2, 0, 1, 0), (492, 17, 1, 0, 0), (493, 18, 1, 0, 0), (494, 8, 236, 2, 2), (497, 9, 6, 0, 0), (499, 1, 2, 2, 0), (500, 8, 261, 1, 2), (503, 1, 5, 0, 0), (505, 16, 0, 0, 4), (508, 0, 0, 0, 0), (509, 0, 0, 0, 0), (510, 1, 5, 0, 0), (512, 10, 1, 0, 18), (515, 1, 3, 2, 0), (516, 2, 0, 0, 0), (517, 18, 3, 0, 0), (518, 1, 6, 0, 0), (520, 22, 0, 0, 0), (521, 28, 0, 0, 0), (522, 10, 0, 0, 4), (525, 0, 0, 0, 0), (526, 0, 0, 0, 0), (527, 3, 0, 0, 2946), (530, 1, 1, 2, 0), (531, 1, 0, 2, 0), (532, 1, 4, 0, 0), (534, 2, 0, 1, 0), (535, 17, 1, 0, 0), (536, 18, 1, 0, 0), (537, 1, 0, 2, 0), (538, 1, 4, 0, 0), (540, 2, 0, 2, 0), (541, 17, 1, 0, 0), (542, 18, 1, 0, 0), (543, 1, 0, 2, 0), (544, 1, 4, 0, 0), (546, 2, 0, 3, 0), (547, 17, 1, 0, 0), (548, 18, 1, 0, 0), (549, 1, 3, 2, 0), (550, 8, 171, 5, 0), (553, 9, 5, 0, 0), (555, 1, 2, 2, 0), (556, 1, 0, 2, 0), (557, 1, 4, 0, 0), (559, 2, 0, 1, 0), (560, 17, 1, 0, 0), (561, 18, 1, 0, 0), (562, 1, 0, 2, 0), (563, 1, 4, 0, 0), (565, 2, 0, 2, 0), (566, 17, 1, 0, 0), (567, 18, 1, 0, 0), (568, 1, 0, 2, 0), (569, 1, 4, 0, 0), (571, 2, 0, 3, 0), (572, 17, 1, 0, 0), (573, 18, 1, 0, 0), (574, 8, 235, 4, 2), (577, 9, 6, 0, 0), (579, 1, 2, 2, 0), (580, 8, 261, 1, 2), (583, 1, 5, 0, 0), (585, 16, 0, 0, 4), (588, 0, 0, 0, 0), (589, 0, 0, 0, 0), (590, 1, 5, 0, 0), (592, 10, 1, 0, 18), (595, 1, 3, 2, 0), (596, 2, 0, 0, 0), (597, 18, 3, 0, 0), (598, 1, 6, 0, 0), (600, 22, 0, 0, 0), (601, 28, 0, 0, 0), (602, 10, 0, 0, 4), (605, 0, 0, 0, 0), (606, 0, 0, 0, 0), (607, 3, 0, 0, 2836), (610, 1, 1, 2, 0), (611, 1, 0, 2, 0), (612, 1, 4, 0, 0), (614, 2, 0, 1, 0), (615, 17, 1, 0, 0), (616, 18, 1, 0, 0), (617, 1, 0, 2, 0), (618, 1, 4, 0, 0), (620, 2, 0, 2, 0), (621, 17, 1, 0, 0), (622, 18, 1, 0, 0), (623, 1, 0, 2, 0), (624, 1, 4, 0, 0), (626, 2, 0, 3, 0), (627, 17, 1, 0, 0), (628, 18, 1, 0, 0), (629, 1, 3, 2, 0), (630, 8, 169, 5, 0), (633, 9, 5, 0, 0), (635, 1, 2, 2, 0), (636, 1, 0, 2, 0), (637, 1, 4, 0, 0), (639, 2, 0, 1, 0), (640, 17, 1, 0, 0), (641, 18, 1, 0, 0), (642, 1, 0, 2, 0), (643, 1, 4, 0, 0), (645, 2, 0, 2, 0), (646, 17, 1, 0, 0), (647, 18, 1, 0, 0), (648, 1, 0, 2, 0), (649, 1, 4, 0, 0), (651, 2, 0, 3, 0), (652, 17, 1, 0, 0), (653, 18, 1, 0, 0), (654, 8, 231, 4, 2), (657, 9, 6, 0, 0), (659, 1, 2, 2, 0), (660, 8, 261, 1, 2), (663, 1, 5, 0, 0), (665, 16, 0, 0, 4), (668, 0, 0, 0, 0), (669, 0, 0, 0, 0), (670, 1, 5, 0, 0), (672, 10, 1, 0, 18), (675, 1, 3, 2, 0), (676, 2, 0, 0, 0), (677, 18, 3, 0, 0), (678, 1, 6, 0, 0), (680, 22, 0, 0, 0), (681, 28, 0, 0, 0), (682, 10, 0, 0, 4), (685, 0, 0, 0, 0), (686, 0, 0, 0, 0), (687, 3, 0, 0, 2726), (690, 1, 1, 2, 0), (691, 1, 0, 2, 0), (692, 1, 4, 0, 0), (694, 2, 0, 1, 0), (695, 17, 1, 0, 0), (696, 18, 1, 0, 0), (697, 1, 3, 2, 0), (698, 8, 180, 3, 0), (701, 9, 5, 0, 0), (703, 1, 2, 2, 0), (704, 1, 0, 2, 0), (705, 1, 4, 0, 0), (707, 2, 0, 1, 0), (708, 17, 1, 0, 0), (709, 18, 1, 0, 0), (710, 8, 249, 2, 2), (713, 9, 6, 0, 0), (715, 1, 2, 2, 0), (716, 8, 261, 1, 2), (719, 1, 5, 0, 0), (721, 16, 0, 0, 4), (724, 0, 0, 0, 0), (725, 0, 0, 0, 0), (726, 1, 5, 0, 0), (728, 10, 1, 0, 18), (731, 1, 3, 2, 0), (732, 2, 0, 0, 0), (733, 18, 3, 0, 0), (734, 1, 6, 0, 0), (736, 22, 0, 0, 0), (737, 28, 0, 0, 0), (738, 10, 0, 0, 4), (741, 0, 0, 0, 0), (742, 0, 0, 0, 0), (743, 3, 0, 0, 2656), (746, 1, 1, 2, 0), (747, 1, 0, 2, 0), (748, 1, 4, 0, 0), (750, 2, 0, 1, 0), (751, 17, 1, 0, 0), (752, 18, 1, 0, 0), (753, 1, 0, 2, 0), (754, 1, 4, 0, 0), (756, 2, 0, 2, 0), (757, 17, 1, 0, 0), (758, 18, 1, 0, 0), (759, 1, 3, 2, 0), (760, 8, 156, 4, 0), (763, 9, 5, 0, 0), (765, 1, 2, 2, 0), (766, 1, 0, 2, 0), (767, 1, 4, 0, 0), (769, 2, 0, 1, 0), (770, 17, 1, 0, 0), (771, 18, 1, 0, 0), (772, 1, 0, 2, 0), (773, 1, 4, 0, 0), (775, 2, 0, 2, 0), (776, 17, 1, 0, 0), (777, 18, 1, 0, 0), (778, 8, 194, 3, 2), (781, 9, 6, 0, 0), (783, 1, 2, 2, 0), (784, 8, 261, 1, 2), (787, 1, 5, 0, 0), (789, 16, 0, 0, 4), (792, 0, 0, 0, 0), (793, 0, 0, 0, 0), (794, 1, 5, 0, 0), (796, 10, 1, 0, 24), (799, 1, 3, 2, 0), (800, 2, 0, 0, 0), (801, 18, 3, 0, 0), (802, 1, 6, 0, 0), (804, 10, 0, 0, 4), (807, 2, 1, 1, 0), (808, 3, 0, 0, 2), (811, 0, 0, 0, 0), (812, 28, 0, 0, 0), (813, 10, 0, 0, 4), (816, 0, 0, 0, 0), (817, 0, 0, 0, 0), (818, 3, 0, 0, 2560), (821, 1, 1, 2, 0), (822, 1, 0, 2, 0), (823, 1, 4, 0, 0), (825, 2, 0, 1, 0), (826, 17, 1, 0, 0), (827, 18, 1, 0, 0), (828, 1, 3, 2, 0), (829, 8, 160, 3, 0), (832, 9, 5, 0, 0), (834, 1, 2, 2, 0), (835, 1, 0, 2, 0), (836, 1, 4, 0, 0), (838, 2, 0, 1, 0), (839, 17, 1, 0, 0), (840, 18, 1, 0, 0), (841, 8, 204, 2, 2), (844, 9, 6, 0, 0), (846, 1, 2, 2, 0), (847, 8, 261, 1, 2), (850, 1, 5, 0, 0), (852, 16, 0, 0, 4), (855, 0, 0, 0, 0), (856, 0, 0, 0, 0), (857, 1, 5, 0, 0), (859, 10, 1, 0, 18), (862, 1, 3, 2, 0), (863, 2, 0, 0, 0), (864, 18, 3, 0, 0), (865, 1, 6, 0, 0), (867, 22, 0, 0, 0), (868, 28, 0, 0, 0), (869, 10, 0, 0, 4), (872, 0, 0, 0, 0), (873, 0, 0, 0, 0), (874, 3, 0, 0, 2490), (877, 1, 1, 2, 0), (878, 1, 0, 2, 0), (879, 1, 4, 0, 0), (881, 2, 0, 1, 0), (882, 17, 1, 0, 0), (883, 18, 1, 0, 0), (884, 1, 0, 2, 0), (885, 1, 4, 0, 0), (887, 2, 0, 2, 0), (888, 17, 1, 0, 0), (889, 18, 1, 0, 0), (890, 1, 3, 2, 0), (891, 8, 189, 4, 0), (894, 9, 5, 0, 0), (896, 1, 2, 2, 0), (897, 1, 0, 2, 0), (898, 1, 4, 0, 0), (900, 2, 0, 1, 0), (901, 17, 1, 0, 0), (902, 18, 1, 0, 0), (903, 1, 0, 2, 0), (904, 1, 4, 0, 0), (906, 2, 0, 2, 0), (907, 17, 1, 0, 0), (908, 18, 1, 0, 0), (909, 8, 263, 3, 2), (912, 9, 6, 0, 0), (914, 1, 2, 2, 0), (915, 8, 261, 1, 2), (918, 1, 5, 0, 0), (920, 16, 0, 0, 4), (923, 0, 0, 0, 0), (924, 0, 0, 0, 0), (925, 1, 5, 0, 0), (927, 10, 1, 0, 18), (930, 1, 3, 2, 0), (931, 2, 0, 0, 0), (932, 18, 3, 0, 0), (933, 1, 6, 0, 0), (935, 22, 0, 0, 0), (936, 28, 0, 0, 0), (937, 10, 0, 0, 4), (940, 0, 0, 0, 0), (941, 0, 0, 0, 0), (942, 3, 0, 0, 2400), (945, 1, 1, 2, 0), (946, 1, 0, 2, 0), (947, 1, 4, 0, 0), (949, 2, 0, 1, 0), (950, 17, 1, 0, 0), (951, 18, 1, 0, 0), (952, 1, 0, 2, 0), (953, 1, 4, 0, 0), (955, 2, 0, 2, 0), (956, 17, 1, 0, 0), (957, 18, 1, 0, 0), (958, 1, 0, 2, 0), (959, 1, 4, 0, 0), (961, 2, 0, 3, 0), (962, 17, 1, 0, 0), (963, 18, 1, 0, 0), (964, 1, 3, 2, 0), (965, 8, 170, 5, 0), (968, 9, 5, 0, 0), (970, 1, 2, 2, 0), (971, 1, 0, 2, 0), (972, 1, 4, 0, 0), (974, 2, 0, 1, 0), (975, 17, 1, 0, 0), (976, 18, 1, 0, 0), (977, 1, 0, 2, 0), (978, 1, 4, 0, 0), (980, 2, 0, 2, 0), (981, 17, 1, 0, 0), (982, 18, 1, 0, 0), (983, 1, 0, 2, 0), (984, 1, 4, 0, 0), (986, 2, 0, 3, 0), (987, 17, 1, 0, 0), (988, 18, 1, 0, 0), (989, 8, 233, 4, 2), (992, 9, 6, 0, 0), (994, 1, 2, 2, 0), (995, 8, 261, 1, 2), (998, 1, 5, 0, 0), (1000, 16, 0, 0, 4), (1003, 0, 0, 0, 0), (1004, 0, 0, 0, 0), (1005, 1, 5, 0, 0), (1007, 10, 1, 0, 18), (1010, 1, 3, 2, 0), (1011, 2, 0, 0, 0), (1012, 18, 3, 0, 0), (1013, 1, 6, 0, 0), (1015, 22, 0, 0, 0), (1016, 28, 0, 0, 0), (1017, 10, 0, 0, 4), (1020, 0, 0, 0, 0), (1021, 0, 0, 0, 0), (1022, 3, 0, 0, 2290), (1025, 1, 1, 2, 0), (1026, 1, 0, 2, 0), (1027, 1, 4, 0, 0), (1029, 2, 0, 1, 0), (1030, 17, 1, 0, 0), (1031, 18, 1, 0, 0), (1032, 1, 0, 2, 0), (1033, 1, 4, 0, 0), (1035, 2, 0, 2, 0), (1036, 17, 1, 0, 0), (1037, 18, 1, 0, 0), (1038, 1, 3, 2, 0), (1039, 8, 168, 4, 0), (1042, 9, 5, 0, 0), (1044, 1, 2, 2, 0), (1045, 1, 0, 2, 0), (1046, 1, 4, 0, 0), (1048, 2, 0, 1, 0), (1049, 17, 1, 0, 0), (1050, 18, 1, 0, 0), (1051, 1, 0, 2, 0), (1052, 1, 4, 0, 0), (1054, 2, 0, 2, 0), (1055, 17, 1, 0, 0), (1056, 18, 1, 0, 0), (1057, 8, 229, 3, 2), (1060, 9, 6, 0, 0), (1062, 1, 2, 2, 0), (1063, 8, 261, 1, 2), (1066, 1, 5, 0, 0), (1068, 16, 0, 0, 4), (1071, 0, 0, 0, 0), (1072, 0, 0, 0, 0), (1073, 1, 5, 0, 0), (1075, 10, 1, 0, 18), (1078, 0, 0, 0, 0), (1079, 0, 0, 0, 0), (1080, 0, 0, 0, 0), (1081, 0, 0, 0, 0), (1083, 0, 0, 0, 0), (1084, 0, 0, 0, 0), (1085, 0, 0, 0, 0), (1088, 0, 0, 0, 0), (1089, 0, 0, 0, 0), (1090, 3, 0, 0, 2200), (1093, 1, 1, 2, 0), (1094, 1, 0, 2, 0), (1095, 1, 4, 0, 0), (1097, 2, 0, 1, 0), (1098, 17, 1, 0, 0), (1099, 18, 1, 0, 0), (1100, 1, 3, 2, 0), (1101, 8, 179, 3, 0), (1104, 9, 5, 0, 0), (1106, 1, 2, 2, 0), (1107, 1, 0, 2, 0), (1108, 1, 4, 0, 0), (1110, 2, 0, 1, 0), (1111, 17, 1, 0, 0), (1112, 18, 1, 0, 0), (1113, 8, 248, 2, 2), (1116, 9, 6, 0, 0), (1118, 1, 2, 2, 0), (1119, 8, 261, 1, 2), (1122, 1, 5, 0, 0), (1124, 16, 0, 0, 4), (1127, 0, 0, 0, 0), (1128, 0, 0, 0, 0), (1129, 1, 5, 0, 0), (1131, 10, 1, 0, 18), (1134, 1, 3, 2, 0), (1135, 2, 0, 0, 0), (1136, 18, 3, 0, 0), (1137, 1, 6, 0, 0), (1139, 22, 0, 0, 0), (1140, 28, 0, 0, 0), (1141, 10, 0, 0, 4), (1144, 0, 0, 0, 0), (1145, 0, 0, 0, 0), (1146, 3, 0, 0, 2130), (1149, 1, 1, 2, 0), (1150, 1, 0, 2, 0), (1151, 1, 4, 0, 0), (1153, 2, 0, 1, 0), (1154, 17, 1, 0, 0), (1155, 18, 1, 0, 0), (1156, 1, 3, 2, 0), (1157, 8, 187, 3, 0), (1160, 9, 5, 0, 0), (1162, 1, 2, 2, 0), (1163, 1, 0, 2, 0), (1164, 1, 4, 0, 0), (1166, 2, 0, 1, 0), (1167, 17, 1, 0, 0), (1168, 18, 1, 0, 0), (1169, 8, 259, 2, 2), (1172, 9, 6, 0, 0), (1174, 1, 2, 2, 0), (1175, 8, 261, 1, 2), (1178, 1, 5, 0, 0), (1180, 16, 0, 0, 4), (1183, 0, 0, 0, 0), (1184, 0, 0, 0, 0), (1185, 1, 5, 0, 0), (1187, 10, 1, 0, 18), (1190, 1, 3, 2, 0), (1191, 2, 0, 0, 0), (1192, 18, 3, 0, 0), (1193, 1, 6, 0, 0), (1195, 22, 0, 0, 0), (1196, 28, 0, 0, 0), (1197, 10, 0, 0, 4), (1200, 0, 0, 0, 0), (1201, 0, 0, 0, 0), (1202, 3, 0, 0, 2060), (1205, 1, 1, 2, 0), (1206, 1, 0, 2, 0), (1207, 1, 4, 0, 0), (1209, 2, 0, 1, 0), (1210, 17, 1, 0, 0), (1211, 18, 1, 0, 0), (1212, 1, 0, 2, 0), (1213, 1, 4, 0, 0), (1215, 2, 0, 2, 0), (1216, 17, 1, 0, 0), (1217, 18, 1, 0, 0), (1218, 1, 0, 2, 0), (1219, 1, 4, 0, 0), (1221, 2, 0, 3, 0), (1222, 17, 1, 0, 0), (1223, 18, 1, 0, 0), (1224, 1, 3, 2, 0), (1225, 8, 185, 5, 0), (1228, 9, 5, 0, 0), (1230, 1, 2, 2, 0), (1231, 1, 0, 2, 0), (1232, 1, 4, 0, 0), (1234, 2, 0, 1, 0), (1235, 17, 1, 0, 0), (1236, 18, 1, 0, 0), (1237, 1, 0, 2, 0), (1238, 1, 4, 0, 0), (1240, 2, 0, 2, 0), (1241, 17, 1, 0, 0), (1242, 18, 1, 0, 0), (1243, 1, 0, 2, 0), (1244, 1, 4, 0, 0), (1246, 2, 0, 3, 0), (1247, 17, 1, 0, 0), (1248, 18, 1, 0, 0), (1249, 8, 257, 4, 2), (1252, 9, 6, 0, 0), (1254, 1, 2, 2, 0), (1255, 8, 261, 1, 2), (1258, 1, 5, 0, 0), (1260, 16, 0, 0, 4), (1263, 0, 0, 0, 0), (1264, 0, 0, 0, 0), (1265, 1, 5, 0, 0), (1267, 10, 1, 0, 18), (1270, 1, 3, 2, 0), (1271, 2, 0, 0, 0), (1272, 18, 3, 0, 0), (1273, 1, 6, 0, 0), (1275, 22, 0, 0, 0), (1276, 28, 0, 0, 0), (1277, 10, 0, 0, 4), (1280, 0, 0, 0, 0), (1281, 0, 0, 0, 0), (1282, 3, 0, 0, 1950), (1285, 1, 1, 2, 0), (1286, 1, 0, 2, 0), (1287, 1, 4, 0, 0), (1289, 2, 0, 1, 0), (1290, 17, 1, 0, 0), (1291, 18, 1, 0, 0), (1292, 1, 0, 2, 0), (1293, 1, 4, 0, 0), (1295, 2, 0, 2, 0), (1296, 17, 1, 0, 0), (1297, 18, 1, 0, 0), (1298, 1, 0, 2, 0), (1299, 1, 4, 0, 0), (1301, 2, 0, 3, 0), (1302, 17, 1, 0, 0), (1303, 18, 1, 0, 0), (1304, 1, 3, 2, 0), (1305, 8, 188, 5, 0), (1308, 9, 5, 0, 0), (1310, 1, 2, 2, 0), (1311, 1, 0, 2, 0), (1312, 1, 4, 0, 0), (1314, 2, 0, 1, 0), (1315, 17, 1, 0, 0), (1316, 18, 1, 0, 0), (1317, 1, 0, 2, 0), (1318, 1, 4, 0, 0), (1320, 2, 0, 2, 0), (1321, 17, 1, 0, 0), (1322, 18, 1, 0, 0), (1323, 1, 0, 2, 0), (1324, 1, 4, 0, 0), (1326, 2, 0, 3, 0), (1327, 17, 1, 0, 0), (1328, 18, 1, 0, 0), (1329, 8, 260, 4, 2), (1332, 9, 6, 0, 0), (1334, 1, 2, 2, 0), (1335, 8, 261, 1, 2), (1338, 1, 5, 0, 0), (1340, 16, 0, 0, 4), (1343, 0, 0, 0, 0), (1344, 0, 0, 0, 0), (1345, 1, 5, 0, 0), (1347, 10, 1, 0, 18), (1350, 1, 3, 2, 0), (1351, 2, 0, 0, 0), (1352, 18, 3, 0, 0), (1353, 1, 6, 0, 0), (1355, 22, 0, 0, 0), (1356, 28, 0, 0, 0), (1357, 10, 0, 0, 4), (1360, 0, 0, 0, 0), (1361, 0, 0, 0, 0), (1362, 3, 0, 0, 1840), (1365, 1, 1, 2, 0), (1366, 1, 0, 2, 0), (1367, 1, 4, 0, 0), (1369, 2, 0, 1, 0), (1370, 17, 1, 0, 0), (1371, 18, 1, 0, 0), (1372, 1, 0, 2, 0), (1373, 1, 4, 0, 0), (1375, 2, 0, 2, 0), (1376, 17, 1, 0, 0), (1377, 18, 1, 0, 0), (1378, 1, 3, 2, 0), (1379, 8, 165, 4, 0), (1382, 9, 5, 0, 0), (1384, 1, 2, 2, 0), (1385, 1, 0, 2, 0), (1386, 1, 4, 0, 0), (1388, 2, 0, 1, 0), (1389, 17, 1, 0, 0), (1390, 18, 1, 0, 0), (1391, 1, 0, 2, 0), (1392, 1, 4, 0, 0), (1394, 2, 0, 2, 0), (1395, 17, 1, 0, 0), (1396, 18, 1, 0, 0), (1397, 8, 215, 3, 2), (1400, 9, 6, 0, 0), (1402, 1, 2, 2, 0), (1403, 8, 261, 1, 2), (1406, 1, 5, 0, 0), (1408, 16, 0, 0, 4), (1411, 0, 0, 0, 0), (1412, 0, 0, 0, 0), (1413, 1, 5, 0, 0), (1415, 10, 1, 0, 24), (1418, 1, 3, 2, 0), (1419, 2, 0, 0, 0), (1420, 18, 3, 0, 0), (1421, 1, 6, 0, 0), (1423, 10, 0, 0, 4), (1426, 2, 1, 1, 0), (1427, 3, 0, 0, 2), (1430, 0, 0, 0, 0), (1431, 28, 0, 0, 0), (1432, 10, 0, 0, 4), (1435, 0, 0, 0, 0), (1436, 0, 0, 0, 0), (1437, 3, 0, 0, 1744), (1440, 1, 1, 2, 0), (1441, 1, 0, 2, 0), (1442, 1, 4, 0, 0), (1444, 2, 0, 1, 0), (1445, 17, 1, 0, 0), (1446, 18, 1, 0, 0), (1447, 1, 0, 2, 0), (1448, 1, 4, 0, 0), (1450, 2, 0, 2, 0), (1451, 17, 1, 0, 0), (1452, 18, 1, 0, 0), (1453, 1, 3, 2, 0), (1454, 8, 183, 4, 0), (1457, 9, 5, 0, 0), (1459, 1, 2, 2, 0), (1460, 1, 0, 2, 0), (1461, 1, 4, 0, 0), (1463, 2, 0, 1, 0), (1464, 17, 1, 0, 0), (1465, 18, 1, 0, 0), (1466, 1, 0, 2, 0), (1467, 1, 4, 0, 0), (1469, 2, 0, 2, 0), (1470, 17, 1, 0, 0), (1471, 18, 1, 0, 0), (1472, 8, 254, 3, 2), (1475, 9, 6, 0, 0), (1477, 1, 2, 2, 0), (1478, 8, 261, 1, 2), (1481, 1, 5, 0, 0), (1483, 16, 0, 0, 4), (1486, 0, 0, 0, 0), (1487, 0, 0, 0, 0), (1488, 1, 5, 0, 0), (1490, 10, 1, 0, 18), (1493, 1, 3, 2, 0), (1494, 2, 0, 0, 0), (1495, 18, 3, 0, 0), (1496, 1, 6, 0, 0), (1498, 22, 0, 0, 0), (1499, 28, 0, 0, 0), (1500, 10, 0, 0, 4), (1503, 0, 0, 0, 0), (1504, 0, 0, 0, 0), (1505, 3, 0, 0, 1654), (1508, 1, 1, 2, 0), (1509, 1, 0, 2, 0), (1510, 1, 4, 0, 0), (1512, 2, 0, 1, 0), (1513, 17, 1, 0, 0), (1514, 18, 1, 0, 0), (1515, 1, 0, 2, 0), (1516, 1, 4, 0, 0), (1518, 2, 0, 2, 0), (1519, 17, 1, 0, 0), (1520, 18, 1, 0, 0), (1521, 1, 0, 2, 0), (1522, 1, 4, 0, 0), (1524, 2, 0, 3, 0), (1525, 17, 1, 0, 0), (1526, 18, 1, 0, 0), (1527, 1, 3, 2, 0), (1528, 8, 184, 5, 0), (1531, 9, 5, 0, 0), (1533, 1, 2, 2, 0), (1534, 1, 0, 2, 0), (1535, 1, 4, 0, 0), (1537, 2, 0, 1, 0), (1538, 17, 1, 0, 0), (1539, 18, 1, 0, 0), (1540, 1, 0, 2, 0), (1541, 1, 4, 0, 0), (1543, 2, 0, 2, 0), (1544, 17, 1, 0, 0), (1545, 18, 1, 0, 0), (1546, 1, 0, 2, 0), (1547, 1, 4, 0, 0), (1549, 2, 0, 3, 0), (1550, 17, 1, 0, 0), (1551, 18, 1, 0, 0), (1552, 8, 255, 4, 2), (1555, 9, 6, 0, 0), (1557, 1, 2, 2, 0), (1558, 8, 261, 1, 2), (1561, 1, 5, 0, 0), (1563, 16, 0, 0, 4), (1566, 0, 0, 0, 0), (1567, 0, 0, 0, 0), (1568, 1, 5, 0, 0), (1570, 10, 1, 0, 18), (1573, 0, 0, 0, 0), (1574, 0, 0, 0, 0), (1575, 0, 0, 0, 0), (1576, 0, 0, 0, 0), (1578, 0, 0, 0, 0), (1579, 0, 0, 0, 0), (1580, 0, 0, 0, 0), (1583, 0, 0, 0, 0), (1584, 0, 0, 0, 0), (1585, 3, 0, 0, 1544), (1588, 1, 1, 2, 0), (1589, 1, 0, 2, 0), (1590, 1, 4, 0, 0), (1592, 2, 0, 1, 0), (1593, 17, 1, 0, 0), (1594, 18, 1, 0, 0), (1595, 1, 0, 2, 0), (1596, 1, 4, 0, 0), (1598, 2, 0, 2, 0), (1599, 17, 1, 0, 0), (1600, 18, 1, 0, 0), (1601, 1, 3, 2, 0), (1602, 8, 162, 4, 0), (1605, 9, 5, 0, 0), (1607, 1, 2, 2, 0), (1608, 1, 0, 2, 0), (1609, 1, 4, 0, 0), (1611, 2, 0, 1, 0), (1612, 17, 1, 0, 0), (1613, 18, 1, 0, 0), (1614, 1, 0, 2, 0), (1615, 1, 4, 0, 0), (1617, 2, 0, 2, 0), (1618, 17, 1, 0, 0), (1619, 18, 1, 0, 0), (1620, 8, 212, 3, 2), (1623, 9, 6, 0, 0), (1625, 1, 2, 2, 0), (1626, 8, 261, 1, 2), (1629, 1, 5, 0, 0), (1631, 16, 0, 0, 4), (1634, 0, 0, 0, 0), (1635, 0, 0, 0, 0), (1636, 1, 5, 0, 0), (1638, 10, 1, 0, 24), (1641, 1, 3, 2, 0), (1642, 2, 0, 0, 0), (1643, 18, 3, 0, 0), (1644, 1, 6, 0, 0), (1646, 10, 0, 0, 4), (1649, 0, 0, 0, 0), (1650, 0, 0, 0, 0), (1653, 2, 1, 0, 0), (1654, 28, 0, 0, 0), (1655, 10, 0, 0, 4), (1658, 0, 0, 0, 0), (1659, 0, 0, 0, 0), (1660, 3, 0, 0, 1448), (1663, 1, 1, 2, 0), (1664, 1, 0, 2, 0), (1665, 1, 4, 0, 0), (1667, 2, 0, 1, 0), (1668, 17, 1, 0, 0), (1669, 18, 1, 0, 0), (1670, 1, 0, 2, 0), (1671, 1, 4, 0, 0), (1673, 2, 0, 2, 0), (1674, 17, 1, 0, 0), (1675, 18, 1, 0, 0), (1676, 1, 3, 2, 0), (1677, 8, 158, 4, 0), (1680, 9, 5, 0, 0), (1682, 1, 2, 2, 0), (1683, 1, 0, 2, 0), (1684, 1, 4, 0, 0), (1686, 2, 0, 1, 0), (1687, 17, 1, 0, 0), (1688, 18, 1, 0, 0), (1689, 1, 0, 2, 0), (1690, 1, 4, 0, 0), (1692, 2, 0, 2, 0), (1693, 17, 1, 0, 0), (1694, 18, 1, 0, 0), (1695, 8, 196, 3, 2), (1698, 9, 6, 0, 0), (1700, 1, 2, 2, 0), (1701, 8, 261, 1, 2), (1704, 1, 5, 0, 0), (1706, 16, 0, 0, 4), (1709, 0, 0, 0, 0), (1710, 0, 0, 0, 0), (1711, 1, 5, 0, 0), (1713, 10, 1, 0, 18), (1716, 1, 3, 2, 0), (1717, 2, 0, 0, 0), (1718, 18, 3, 0, 0), (1719, 1, 6, 0, 0), (1721, 22, 0, 0, 0), (1722, 28, 0, 0, 0), (1723, 10, 0, 0, 4), (1726, 0, 0, 0, 0), (1727, 0, 0, 0, 0), (1728, 3, 0, 0, 1358), (1731, 1, 1, 2, 0), (1732, 1, 0, 2, 0), (1733, 1, 4, 0, 0), (1735, 2, 0, 1, 0), (1736, 17, 1, 0, 0), (1737, 18, 1, 0, 0), (1738, 1, 3, 2, 0), (1739, 8, 173, 3, 0), (1742, 9, 5, 0, 0), (1744, 1, 2, 2, 0), (1745, 1, 0, 2, 0), (1746, 1, 4, 0, 0), (1748, 2, 0, 1, 0), (1749, 17, 1, 0, 0), (1750, 18, 1, 0, 0), (1751, 8, 238, 2, 2), (1754, 9, 6, 0, 0), (1756, 1, 2, 2, 0), (1757, 8, 261, 1, 2), (1760, 1, 5, 0, 0), (1762, 16, 0, 0, 4), (1765, 0, 0, 0, 0), (1766, 0, 0, 0, 0), (1767, 1, 5, 0, 0), (1769, 10, 1, 0, 18), (1772, 0, 0, 0, 0), (1773, 0, 0, 0, 0), (1774, 0, 0, 0, 0), (1775, 0, 0, 0, 0), (1777, 0, 0, 0, 0), (1778, 0, 0, 0, 0), (1779, 0, 0, 0, 0), (1782, 0, 0, 0, 0), (1783, 0, 0, 0, 0), (1784, 3, 0, 0, 1288), (1787, 1, 1, 2, 0), (1788, 1, 0, 2, 0), (1789, 1, 4, 0, 0), (1791, 2, 0, 1, 0), (1792, 17, 1, 0, 0), (1793, 18, 1, 0, 0), (1794, 1, 0, 2, 0), (1795, 1, 4, 0, 0), (1797, 2, 0, 2, 0), (1798, 17, 1, 0, 0), (1799, 18, 1, 0, 0), (1800, 1, 3, 2, 0), (1801, 8, 182, 4, 0), (1804, 9, 5, 0, 0), (1806, 1, 2, 2, 0), (1807, 1, 0, 2, 0), (1808, 1, 4, 0, 0), (1810, 2, 0, 1, 0), (1811, 17, 1, 0, 0), (1812, 18, 1, 0, 0), (1813, 1, 0, 2, 0), (1814, 1, 4, 0, 0), (1816, 2, 0, 2, 0), (1817, 17, 1, 0, 0), (1818, 18, 1, 0, 0), (1819, 8, 252, 3, 2), (1822, 9, 6, 0, 0), (1824, 1, 2, 2, 0), (1825, 8, 261, 1, 2), (1828, 1, 5, 0, 0), (1830, 16, 0, 0, 4), (1833, 0, 0, 0, 0), (1834, 0, 0, 0, 0), (1835, 1, 5, 0, 0), (1837, 10, 1, 0, 18), (1840, 0, 0, 0, 0), (1841, 0, 0, 0, 0), (1842, 0, 0, 0, 0), (1843, 0, 0, 0, 0), (1845, 0, 0, 0, 0), (1846, 0, 0, 0, 0), (1847, 0, 0, 0, 0), (1850, 0, 0, 0, 0), (1851, 0, 0, 0, 0), (1852, 3, 0, 0, 1198), (1855, 1, 1, 2, 0), (1856, 1, 0, 2, 0), (1857, 1, 4, 0, 0), (1859, 2, 0, 1, 0), (1860, 17, 1, 0, 0), (1861, 18, 1, 0, 0), (1862, 1, 3, 2, 0), (1863, 8, 163, 3, 0), (1866, 9, 5, 0, 0), (1868, 1, 2, 2, 0), (1869, 1, 0, 2, 0), (1870, 1, 4, 0, 0), (1872, 2, 0, 1, 0), (1873, 17, 1, 0, 0), (1874, 18, 1, 0, 0), (1875, 8, 213, 2, 2), (1878, 9, 6, 0, 0), (1880, 1, 2, 2, 0), (1881, 8, 261, 1, 2), (1884, 1, 5, 0, 0), (1886, 16, 0, 0, 4), (1889, 0, 0, 0, 0), (1890, 0, 0, 0, 0), (1891, 1, 5, 0, 0), (1893, 10, 1, 0, 18), (1896, 0, 0, 0, 0), (1897, 0, 0, 0, 0), (1898, 0, 0, 0, 0), (1899, 0, 0, 0, 0), (1901, 0, 0, 0, 0), (1902, 0, 0, 0, 0), (1903, 0, 0, 0, 0), (1906, 0, 0, 0, 0), (1907, 0, 0, 0, 0), (1908, 3, 0, 0, 1128), (1911, 1, 1, 2, 0), (1912, 1, 0, 2, 0), (1913, 1, 4, 0, 0), (1915, 2, 0, 1, 0), (1916, 17, 1, 0, 0), (1917, 18, 1, 0, 0), (1918, 1, 3, 2, 0), (1919, 8, 186, 3, 0), (1922, 9, 5, 0, 0), (1924, 1, 2, 2, 0), (1925, 1, 0, 2, 0), (1926, 1, 4, 0, 0), (1928, 2, 0, 1, 0), (1929, 17, 1, 0, 0), (1930, 18, 1, 0, 0), (1931, 8, 258, 2, 2), (1934, 9, 6, 0, 0), (1936, 1, 2, 2, 0), (1937, 8, 261, 1, 2), (1940, 1, 5, 0, 0), (1942, 16, 0, 0, 4), (1945, 0, 0, 0, 0), (1946, 0, 0, 0, 0), (1947, 1, 5, 0, 0), (1949, 10, 1, 0, 18), (1952, 0, 0, 0, 0), (1953, 0, 0, 0, 0), (1954, 0, 0, 0, 0), (1955, 0, 0, 0, 0), (1957, 0, 0, 0, 0), (1958, 0, 0, 0, 0), (1959, 0, 0, 0, 0), (1962, 0, 0, 0, 0), (1963, 0, 0, 0, 0), (1964, 3, 0, 0, 1058), (1967, 1, 1, 2, 0), (1968, 1, 0, 2, 0), (1969, 1, 4, 0, 0), (1971, 2, 0, 1, 0), (1972, 17, 1, 0, 0), (1973, 18, 1, 0, 0), (1974, 1, 0, 2, 0), (1975, 1, 4, 0, 0), (1977, 2, 0, 2, 0), (1978, 17, 1, 0, 0), (1979, 18, 1, 0, 0), (1980, 1, 3, 2, 0), (1981, 8, 174, 4, 0), (1984, 9, 5, 0, 0), (1986, 1, 2, 2, 0), (1987, 1, 0, 2, 0), (1988, 1, 4, 0, 0), (1990, 2, 0, 1, 0), (1991, 17, 1, 0, 0), (1992, 18, 1, 0, 0), (1993, 1, 0, 2, 0), (1994, 1, 4, 0, 0), (1996, 2, 0, 2, 0), (1997, 17, 1, 0, 0), (1998, 18, 1, 0, 0), (1999, 8, 239, 3, 2), (2002, 9, 6, 0, 0), (2004, 1, 2, 2, 0), (2005, 8, 261, 1, 2), (2008, 1, 5, 0, 0), (2010, 16, 0, 0, 4), (2013, 0, 0, 0, 0), (2014, 0, 0, 0, 0), (2015, 1, 5, 0, 0), (2017, 10, 1, 0, 18), (2020, 1, 3, 2, 0), (2021, 2, 0, 0, 0), (2022, 18, 3, 0, 0), (2023, 1, 6, 0, 0), (2025, 22, 0, 0, 0), (2026, 28, 0, 0, 0), (2027, 10, 0, 0, 4), (2030, 0, 0, 0, 0), (2031, 0, 0, 0, 0), (2032, 3, 0, 0, 968), (2035, 1, 1, 2, 0), (2036, 1, 0, 2, 0), (2037, 1, 4, 0, 0), (2039, 2, 0, 1, 0), (2040, 17, 1, 0, 0), (2041, 18, 1, 0, 0), (2042, 1, 0, 2, 0), (2043, 1, 4, 0, 0), (2045, 2, 0, 2, 0), (2046, 17, 1, 0, 0), (2047, 18, 1, 0, 0), (2048, 1, 0, 2, 0), (2049, 1, 4, 0, 0), (2051, 2, 0, 3, 0), (2052, 17, 1, 0, 0), (2053, 18, 1, 0, 0), (2054, 1, 3, 2, 0), (2055, 8, 175, 5, 0), (2058, 9, 5, 0, 0), (2060, 1, 2, 2, 0), (2061, 1, 0, 2, 0), (2062, 1, 4, 0, 0), (2064, 2, 0, 1, 0), (2065, 17, 1, 0, 0), (2066, 18, 1, 0, 0), (2067, 1, 0, 2, 0), (2068, 1, 4, 0, 0), (2070, 2, 0, 2, 0), (2071, 17, 1, 0, 0), (2072, 18, 1, 0, 0), (2073, 1, 0, 2, 0), (2074, 1, 4, 0, 0), (2076, 2, 0, 3, 0), (2077, 17, 1, 0, 0), (2078, 18, 1, 0, 0), (2079, 8, 240, 4, 2), (2082, 9, 6, 0, 0), (2084, 1, 2, 2, 0), (2085, 8, 261, 1, 2), (2088, 1, 5, 0, 0), (2090, 16, 0, 0, 4), (2093, 0, 0, 0, 0), (2094, 0, 0, 0, 0), (2095, 1, 5, 0, 0), (2097, 10, 1, 0, 18), (2100, 0, 0, 0, 0), (2101, 0, 0, 0, 0), (2102, 0, 0, 0, 0), (2103, 0, 0, 0, 0), (2105, 0, 0, 0, 0), (2106, 0, 0, 0, 0), (2107, 0, 0, 0, 0), (2110, 0, 0, 0, 0), (2111, 0, 0, 0, 0), (2112, 3, 0, 0, 858), (2115, 1, 1, 2, 0), (2116, 8, 65, 1, 1), (2119, 1, 2, 2, 0), (2120, 8, 256, 1, 2), (2123, 16, 0, 0, 848), (2126, 0, 0, 0, 0), (2127, 0, 0, 0, 0), (2128, 1, 1, 2, 0), (2129, 8, 59, 1, 1), (2132, 1, 2, 2, 0), (2133, 8, 253, 1, 2), (2136, 16, 0, 0, 834), (2139, 0, 0, 0, 0), (2140, 0, 0, 0, 0), (2141, 1, 1, 2, 0), (2142, 1, 0, 2, 0), (2143, 1, 4, 0, 0), (2145, 2, 0, 1, 0), (2146, 17, 1, 0, 0), (2147, 18, 1, 0, 0), (2148, 1, 0, 2, 0), (2149, 1, 4, 0, 0), (2151, 2, 0, 2, 0), (2152, 17, 1, 0, 0), (2153, 18, 1, 0, 0), (2154, 1, 3, 2, 0), (2155, 8, 154, 4, 0), (2158, 9, 5, 0, 0), (2160, 1, 2, 2, 0), (2161, 1, 0, 2, 0), (2162, 1, 4, 0, 0), (2164, 2, 0, 1, 0), (2165, 17, 1, 0, 0), (2166, 18, 1, 0, 0), (2167, 1, 0, 2, 0), (2168, 1, 4, 0, 0), (2170, 2, 0, 2, 0), (2171, 17, 1, 0, 0), (2172, 18, 1, 0, 0), (2173, 8, 191, 3, 2), (2176, 9, 6, 0, 0), (2178, 1, 2, 2, 0), (2179, 8, 261, 1, 2), (2182, 1, 5, 0, 0), (2184, 16, 0, 0, 4), (2187, 0, 0, 0, 0), (2188, 0, 0, 0, 0), (2189, 1, 5, 0, 0), (2191, 10, 1, 0, 18), (2194, 0, 0, 0, 0), (2195, 0, 0, 0, 0), (2196, 0, 0, 0, 0), (2197, 0, 0, 0, 0), (2199, 0, 0, 0, 0), (2200, 0, 0, 0, 0), (2201, 0, 0, 0, 0), (2204, 0, 0, 0, 0), (2205, 0, 0, 0, 0), (2206, 3, 0, 0, 740), (2209, 1, 1, 2, 0), (2210, 1, 0, 2, 0), (2211, 1, 4, 0, 0), (2213, 2, 0, 1, 0), (2214, 17, 1, 0, 0), (2215, 18, 1, 0, 0), (2216, 1, 0, 2, 0), (2217, 1, 4, 0, 0), (2219, 2, 0, 2, 0), (2220, 17, 1, 0, 0), (2221, 18, 1, 0, 0), (2222, 1, 3, 2, 0), (2223, 8, 178, 4, 0), (2226, 9, 5, 0, 0), (2228, 1, 2, 2, 0), (2229, 1, 0, 2, 0), (2230, 1, 4, 0, 0), (2232, 2, 0, 1, 0), (2233, 17, 1, 0, 0), (2234, 18, 1, 0, 0), (2235, 1, 0, 2, 0), (2236, 1, 4, 0, 0), (2238, 2, 0, 2, 0), (2239, 17, 1, 0, 0), (2240, 18, 1, 0, 0), (2241, 8, 247, 3, 2), (2244, 9, 6, 0, 0), (2246, 1, 2, 2, 0), (2247, 8, 261, 1, 2), (2250, 1, 5, 0, 0), (2252, 16, 0, 0, 4), (2255, 0, 0, 0, 0), (2256, 0, 0, 0, 0), (2257, 1, 5, 0, 0), (2259, 10, 1, 0, 18), (2262, 0, 0, 0, 0), (2263, 0, 0, 0, 0), (2264, 0, 0, 0, 0), (2265, 0, 0, 0, 0), (2267, 0, 0, 0, 0), (2268, 0, 0, 0, 0), (2269, 0, 0, 0, 0), (2272, 0, 0, 0, 0), (2273, 0, 0, 0, 0), (2274, 3, 0, 0, 650), (2277, 1, 1, 2, 0), (2278, 1, 3, 2, 0), (2279, 8, 166, 2, 0), (2282, 9, 5, 0, 0), (2284, 1, 2, 2, 0), (2285, 8, 222, 1, 2), (2288, 9, 6, 0, 0), (2290, 1, 2, 2, 0), (2291, 8, 261, 1, 2), (2294, 1, 5, 0, 0), (2296, 16, 0, 0, 4), (2299, 0, 0, 0, 0), (2300, 0, 0, 0, 0), (2301, 1, 5, 0, 0), (2303, 10, 1, 0, 18), (2306, 0, 0, 0, 0), (2307, 0, 0, 0, 0), (2308, 0, 0, 0, 0), (2309, 0, 0, 0, 0), (2311, 0, 0, 0, 0), (2312, 0, 0, 0, 0), (2313, 0, 0, 0, 0), (2316, 0, 0, 0, 0), (2317, 0, 0, 0, 0), (2318, 3, 0, 0, 600), (2321, 1, 1, 2, 0), (2322, 1, 0, 2, 0), (2323, 1, 4, 0, 0), (2325, 2, 0, 1, 0), (2326, 17, 1, 0, 0), (2327, 18, 1, 0, 0), (2328, 1, 0, 2, 0), (2329, 1, 4, 0, 0), (2331, 2, 0, 2, 0), (2332, 17, 1, 0, 0), (2333, 18, 1, 0, 0), (2334, 1, 3, 2, 0), (2335, 8, 181, 4, 0), (2338, 9, 5, 0, 0), (2340, 1, 2, 2, 0), (2341, 1, 0, 2, 0), (2342, 1, 4, 0, 0), (2344, 2, 0, 1, 0), (2345, 17, 1, 0, 0), (2346, 18, 1, 0, 0), (2347, 1, 0, 2, 0), (2348, 1, 4, 0, 0), (2350, 2, 0, 2, 0), (2351, 17, 1, 0, 0), (2352, 18, 1, 0, 0), (2353, 8, 251, 3, 2), (2356, 9, 6, 1, 0), (2358, 1, 2, 2, 0), (2359, 8, 261, 1, 2), (2362, 1, 5, 0, 0), (2364, 16, 0, 0, 4), (2367, 0, 0, 0, 0), (2368, 0, 0, 0, 0), (2369, 1, 5, 0, 0), (2371, 10, 1, 0, 16), (2374, 1, 3, 2, 0), (2375, 2, 0, 0, 0), (2376, 18, 3, 0, 0), (2377, 1, 6, 1, 0), (2379, 28, 0, 0, 0), (2380, 10, 0, 0, 4), (2383, 0, 0, 0, 0), (2384, 0, 0, 0, 0), (2385, 3, 0, 0, 512), (2388, 1, 1, 2, 0), (2389, 1, 0, 2, 0), (2390, 1, 4, 0, 0), (2392, 2, 0, 1, 0), (2393, 17, 1, 0, 0), (2394, 18, 1, 0, 0), (2395, 1, 3, 2, 0), (2396, 8, 157, 3, 0), (2399, 9, 5, 0, 0), (2401, 1, 2, 2, 0), (2402, 1, 0, 2, 0), (2403, 1, 4, 0, 0), (2405, 2, 0, 1, 0), (2406, 17, 1, 0, 0), (2407, 18, 1, 0, 0), (2408, 8, 195, 2, 2), (2411, 9, 6, 0, 0), (2413, 1, 2, 2, 0), (2414, 8, 261, 1, 2), (2417, 1, 5, 0, 0), (2419, 16, 0, 0, 4), (2422, 0, 0, 0, 0), (2423, 0, 0, 0, 0), (2424, 1, 5, 0, 0), (2426, 10, 1, 0, 18), (2429, 0, 0, 0, 0), (2430, 0, 0, 0, 0), (2431, 0, 0, 0, 0), (2432, 0, 0, 0, 0), (2434, 0, 0, 0, 0), (2435, 0, 0, 0, 0), (2436, 0, 0, 0, 0), (2439, 0, 0, 0, 0), (2440, 0, 0, 0, 0), (2441, 3, 0, 0, 442), (2444, 1, 1, 2, 0), (2445, 1, 0, 2, 0), (2446, 1, 4, 0, 0), (2448, 2, 0, 1, 0), (2449, 17, 1, 0, 0), (2450, 18, 1, 0, 0), (2451, 1, 0, 2, 0), (2452, 1, 4, 0, 0), (2454, 2, 0, 2, 0), (2455, 17, 1, 0, 0), (2456, 18, 1, 0, 0), (2457, 1, 0, 2, 0), (2458, 1, 4, 0, 0), (2460, 2, 0, 3, 0), (2461, 17, 1, 0, 0), (2462, 18, 1, 0, 0), (2463, 1, 3, 2, 0), (2464, 8, 167, 5, 0), (2467, 9, 5, 0, 0), (2469, 1, 2, 2, 0), (2470, 1, 0, 2, 0), (2471, 1, 4, 0, 0), (2473, 2, 0, 1, 0), (2474, 17, 1, 0, 0), (2475, 18, 1, 0, 0), (2476, 1, 0, 2, 0), (2477, 1, 4, 0, 0), (2479, 2, 0, 2, 0), (2480, 17, 1, 0, 0), (2481, 18, 1, 0, 0), (2482, 1, 0, 2, 0), (2483, 1, 4, 0, 0), (2485, 2, 0, 3, 0), (2486, 17, 1, 0, 0), (2487, 18, 1, 0, 0), (2488, 8, 223, 4, 2), (2491, 9, 6, 0, 0), (2493, 1, 2, 2, 0), (2494, 8, 261, 1, 2), (2497, 1, 5, 0, 0), (2499, 16, 0, 0, 4), (2502, 0, 0, 0, 0), (2503, 0, 0, 0, 0), (2504, 1, 5, 0, 0), (2506, 10, 1, 0, 24), (2509, 0, 0, 0, 0), (2510, 0, 0, 0, 0), (2511, 0, 0, 0, 0), (2512, 0, 0, 0, 0), (2514, 0, 0, 0, 0), (2517, 0, 0, 0, 0), (2518, 0, 0, 0, 0), (2521, 0, 0, 0, 0), (2522, 0, 0, 0, 0), (2523, 0, 0, 0, 0), (2526, 0, 0, 0, 0), (2527, 0, 0, 0, 0), (2528, 3, 0, 0, 326), (2531, 1, 1, 2, 0), (2532, 1, 0, 2, 0), (2533, 1, 4, 0, 0), (2535, 2, 0, 1, 0), (2536, 17, 1, 0, 0), (2537, 18, 1, 0, 0), (2538, 1, 3, 2, 0), (2539, 8, 159, 3, 0), (2542, 9, 5, 0, 0), (2544, 1, 2, 2, 0), (2545, 1, 0, 2, 0), (2546, 1, 4, 0, 0), (2548, 2, 0, 1, 0), (2549, 17, 1, 0, 0), (2550, 18, 1, 0, 0), (2551, 8, 198, 2, 2), (2554, 9, 6, 0, 0), (2556, 1, 2, 2, 0), (2557, 8, 261, 1, 2), (2560, 1, 5, 0, 0), (2562, 16, 0, 0, 4), (2565, 0, 0, 0, 0), (2566, 0, 0, 0, 0), (2567, 1, 5, 0, 0), (2569, 10, 1, 0, 18), (2572, 1, 3, 2, 0), (2573, 2, 0, 0, 0), (2574, 18, 3, 0, 0), (2575, 1, 6, 0, 0), (2577, 22, 0, 0, 0), (2578, 28, 0, 0, 0), (2579, 10, 0, 0, 4), (2582, 0, 0, 0, 0), (2583, 0, 0, 0, 0), (2584, 3, 0, 0, 256), (2587, 1, 1, 2, 0), (2588, 1, 0, 2, 0), (2589, 1, 4, 0, 0), (2591, 2, 0, 1, 0), (2592, 17, 1, 0, 0), (2593, 18, 1, 0, 0), (2594, 1, 3, 2, 0), (2595, 8, 164, 3, 0), (2598, 9, 5, 0, 0), (2600, 1, 2, 2, 0), (2601, 1, 0, 2, 0), (2602, 1, 4, 0, 0), (2604, 2, 0, 1, 0), (2605, 17, 1, 0, 0), (2606, 18, 1, 0, 0), (2607, 8, 214, 2, 2), (2610, 9, 6, 0, 0), (2612, 1, 2, 2, 0), (2613, 8, 261, 1, 2), (2616, 1, 5, 0, 0), (2618, 16, 0, 0, 4), (2621, 0, 0, 0, 0), (2622, 0, 0, 0, 0), (2623, 1, 5, 0, 0), (2625, 10, 1, 0, 18), (2628, 1, 3, 2, 0), (2629, 2, 0, 0, 0), (2630, 18, 3, 0, 0), (2631, 1, 6, 0, 0), (2633, 22, 0, 0, 0), (2634, 28, 0, 0, 0), (2635, 10, 0, 0, 4), (2638, 0, 0, 0, 0), (2639, 0, 0, 0, 0), (2640, 3, 0, 0, 186), (2643, 1, 1, 2, 0), (2644, 1, 0, 2, 0), (2645, 1, 4, 0, 0), (2647, 2, 0, 1, 0), (2648, 17, 1, 0, 0), (2649, 18, 1, 0, 0), (2650, 1, 3, 2, 0), (2651, 8, 177, 3, 0), (2654, 9, 5, 0, 0), (2656, 1, 2, 2, 0), (2657, 1, 0, 2, 0), (2658, 1, 4, 0, 0), (2660, 2, 0, 1, 0), (2661, 17, 1, 0, 0), (2662, 18, 1, 0, 0), (2663, 8, 246, 2, 2), (2666, 9, 6, 0, 0), (2668, 1, 2, 2, 0), (2669, 8, 261, 1, 2), (2672, 1, 5, 0, 0), (2674, 16, 0, 0, 4), (2677, 0, 0, 0, 0), (2678, 0, 0, 0, 0), (2679, 1, 5, 0, 0), (2681, 10, 1, 0, 18), (2684, 0, 0, 0, 0), (2685, 0, 0, 0, 0), (2686, 0, 0, 0, 0), (2687, 0, 0, 0, 0), (2689, 0, 0, 0, 0), (2690, 0, 0, 0, 0), (2691, 0, 0, 0, 0), (2694, 0, 0, 0, 0), (2695, 0, 0, 0, 0), (2696, 3, 0, 0, 116), (2699, 1, 1, 2, 0), (2700, 8, 18, 1, 1), (2703, 1, 2, 2, 0), (2704, 8, 201, 1, 2), (2707, 16, 0, 0, 106), (2710, 0, 0, 0, 0), (2711, 0, 0, 0, 0), (2712, 1, 1, 2, 0), (2713, 8, 39, 1, 1), (2716, 9, 5, 4, 0), (2718, 1, 2, 2, 0), (2719, 8, 227, 1, 2), (2722, 9, 7, 4, 0), (2724, 1, 5, 4, 0), (2726, 1, 7, 4, 0), (2728, 39, 0, 0, 0), (2729, 10, 0, 0, 20), (2732, 0, 0, 0, 0), (2734, 0, 0, 0, 0), (2736, 0, 0, 0, 0), (2737, 0, 0, 0, 0), (2740, 0, 0, 0, 0), (2742, 0, 0, 0, 0), (2744, 0, 0, 0, 0), (2745, 0, 0, 0, 0), (2748, 0, 0, 0, 0), (2749, 0, 0, 0, 0), (2750, 3, 0, 0, 60), (2753, 1, 1, 2, 0), (2754, 8, 21, 1, 1), (2757, 38, 0, 0, 0), (2758, 9, 5, 4, 0), (2760, 1, 2, 2, 0), (2761, 8, 205, 1, 2), (2764, 38, 0, 0, 0), (2765, 9, 7, 4, 0), (2767, 1, 5, 4, 0), (2769, 1, 7, 4, 0), (2771, 39, 0, 0, 0), (2772, 10, 0, 0, 20), (2775, 0, 0, 0, 0), (2777, 0, 0, 0, 0), (2779, 0, 0, 0, 0), (2780, 0, 0, 0, 0), (2783, 0, 0, 0, 0), (2785, 0, 0, 0, 0), (2787, 0, 0, 0, 0), (2788, 0, 0, 0, 0), (2791, 0, 0, 0, 0), (2792, 0, 0, 0, 0), (2793, 3, 0, 0, 14), (2796, 1, 1, 2, 0), (2797, 8, 24, 1, 1), (2800, 1, 2, 2, 0), (2801, 8, 208, 1, 2), (2804, 16, 0, 0, 4), (2807, 0, 0, 0, 0), (2808, 0, 0, 0, 0), (2809, 4, 4, 6, 0), (2812, 3, 0, 0, 27), (2815, 2, 0, 1, 0), (2816, 13, 0, 1, 0)]
set_option maxRecDepth 100000 in
def e_p1 : List e_E := [(0, 1, 0, 2, 0), (1, 25, 0, 0, 0), (4, 1, 0, 2, 0), (5, 2, 0, 240, 0), (8, 14, 1, 0, 0), (10, 19, 0, 0, 3), (13, 1, 0, 2, 0), (14, 2, 0, 4294967295, 0), (15, 19, 0, 2, 0), (18, 1, 0, 2, 0), (19, 7, 7, 10, 0), (22, 20, 0, 0, 0), (23, 8, 108, 1, 8), (26, 19, 0, 3, 3), (29, 1, 0, 2, 0), (30, 2, 0, 2, 0), (31, 14, 11, 0, 0), (34, 19, 0, 4, 3), (37, 1, 0, 2, 0), (38, 7, 9, 14, 0), (41, 20, 0, 0, 0), (42, 8, 126, 1, 10), (45, 19, 0, 5, 3), (48, 1, 0, 2, 0), (49, 7, 4, 19, 0), (52, 20, 0, 0, 0), (53, 8, 99, 1, 5), (56, 19, 0, 6, 3), (59, 1, 0, 2, 0), (60, 7, 3, 21, 0), (63, 20, 0, 0, 0), (64, 8, 84, 1, 4), (67, 19, 0, 7, 3), (70, 1, 0, 2, 0), (71, 7, 5, 10, 0), (74, 20, 0, 0, 0), (75, 8, 101, 1, 6), (78, 19, 0, 8, 3), (81, 1, 0, 2, 0), (82, 7, 11, 6, 0), (85, 20, 0, 0, 0), (86, 8, 140, 1, 12), (89, 19, 0, 9, 3), (92, 5, 0, 0, 0)]
set_option maxRecDepth 100000 in
def e_p2 : List e_E := [(0, 1, 1, 0, 0), (1, 8, 15, 1, 0), (4, 1, 2, 0, 0), (5, 2, 0, 5, 0), (6, 8, 17, 2, 0), (9, 1, 0, 2, 0), (10, 11, 0, 8, 0), (13, 1, 0, 2, 0), (14, 8, 11, 1, 1), (17, 0, 0, 0, 0), (18, 0, 0, 0, 0), (21, 0, 0, 0, 0), (22, 0, 0, 0, 0), (25, 0, 0, 0, 0)]
set_option maxRecDepth 100000 in
def e_p3 : List e_E := [(0, 2, 0, 5, 0), (1, 14, 1, 0, 0), (3, 20, 0, 0, 0), (4, 2, 0, 0, 0), (5, 1, 1, 0, 0), (6, 30, 1, 0, 0), (7, 20, 0, 0, 0), (8, 2, 0, 1, 0), (9, 1, 2, 0, 0), (10, 30, 1, 0, 0), (11, 20, 0, 0, 0), (12, 2, 0, 2, 0), (13, 1, 3, 0, 0), (14, 30, 1, 0, 0), (15, 20, 0, 0, 0), (16, 2, 0, 3, 0), (17, 1, 4, 0, 0), (19, 30, 1, 0, 0), (20, 20, 0, 0, 0), (21, 2, 0, 4, 0), (22, 1, 5, 0, 0), (24, 30, 1, 0, 0), (25, 9, 6, 2, 0), (27, 1, 0, 2, 0), (28, 11, 0, 1, 0), (31, 9, 7, 0, 0), (33, 2, 0, 0, 0), (34, 9, 8, 0, 0), (36, 1, 8, 0, 0), (38, 1, 6, 2, 0), (40, 12, 0, 0, 0), (41, 16, 3, 0, 18), (44, 1, 7, 0, 0), (46, 1, 6, 2, 0), (48, 1, 8, 0, 0), (50, 18, 1, 0, 0), (51, 8, 10, 1, 0), (54, 17, 1, 0, 0), (55, 9, 7, 0, 0), (57, 4, 8, 1, 0), (60, 3, 0, 0, 57), (63, 1, 7, 0, 0), (65, 2, 0, 240, 0), (68, 16, 5, 0, 10), (71, 0, 0, 0, 0), (74, 0, 0, 0, 0), (75, 0, 0, 0, 0), (77, 0, 0, 0, 0), (80, 0, 0, 0, 0), (81, 2, 0, 0, 0), (82, 9, 8, 0, 0), (84, 1, 8, 0, 0), (86, 1, 6, 2, 0), (88, 12, 0, 0, 0), (89, 16, 3, 0, 14), (92, 1, 0, 2, 0), (93, 1, 6, 2, 0), (95, 1, 8, 0, 0), (97, 18, 1, 0, 0), (98, 8, 5, 2, 1), (101, 4, 8, 1, 0), (104, 3, 0, 0, 103), (107, 1, 0, 2, 0), (108, 11, 0, 1, 0), (111, 13, 0, 0, 0)]
set_option maxRecDepth 100000 in
def e_p4 : List e_E := [(0, 1, 0, 2, 0), (1, 11, 0, 1, 0), (4, 2, 0, 240, 0), (7, 16, 3, 0, 24), (10, 1, 0, 2, 0), (11, 11, 0, 0, 0), (14, 1, 0, 2, 0), (15, 11, 0, 1, 0), (18, 1, 1, 0, 0), (19, 8, 61, 3, 0), (22, 1, 0, 2, 0), (23, 20, 0, 0, 0), (24, 11, 0, 1, 0), (27, 2, 0, 1, 0), (28, 17, 1, 0, 0), (29, 19, 0, 1, 0), (32, 5, 0, 0, 0)]
set_option maxRecDepth 100000 in
def e_p5 : List e_E := [(0, 2, 0, 24, 0), (2, 9, 2, 0, 0), (3, 1, 2, 0, 0), (4, 10, 2, 0, 26), (7, 1, 1, 0, 0), (8, 1, 2, 0, 0), (9, 17, 9, 0, 0), (10, 2, 0, 255, 0), (13, 17, 4, 0, 0), (14, 9, 3, 0, 0), (15, 1, 3, 0, 0), (16, 10, 0, 0, 6), (19, 1, 0, 2, 0), (20, 1, 3, 0, 0), (21, 8, 4, 2, 1), (24, 4, 2, 4294967288, 0), (27, 3, 0, 0, 5), (30, 5, 0, 0, 0)]
set_option maxRecDepth 100000 in
def e_p6 : List e_E := [(0, 1, 0, 2, 0), (1, 11, 0, 7, 0), (4, 1, 0, 2, 0), (5, 1, 1, 0, 0), (6, 8, 70, 2, 1), (9, 1, 0, 2, 0), (10, 1, 2, 0, 0), (11, 8, 70, 2, 1), (14, 8, 86, 3, 4), (17, 13, 0, 1, 0)]
set_option maxRecDepth 100000 in
def e_p7 : List e_E := [(0, 1, 1, 0, 0), (1, 2, 0, 4, 0), (2, 8, 17, 2, 0), (5, 1, 0, 2, 0), (6, 11, 0, 9, 0), (9, 1, 0, 2, 0), (10, 8, 11, 1, 1), (13, 0, 0, 0, 0), (16, 0, 0, 0, 0), (17, 0, 0, 0, 0), (18, 0, 0, 0, 0), (21, 0, 0, 0, 0), (22, 0, 0, 0, 0), (23, 0, 0, 0, 0), (24, 0, 0, 0, 0), (25, 0, 0, 0, 0), (26, 0, 0, 0, 0), (29, 0, 0, 0, 0), (30, 0, 0, 0, 0), (33, 0, 0, 0, 0)]
set_option maxRecDepth 100000 in
def e_p8 : List e_E := [(0, 1, 0, 2, 0), (1, 1, 1, 0, 0), (2, 8, 70, 2, 1), (5, 9, 3, 2, 0), (6, 1, 2, 0, 0), (7, 8, 15, 1, 0), (10, 1, 0, 2, 0), (11, 11, 0, 3, 0), (14, 1, 0, 2, 0), (15, 1, 3, 2, 0), (16, 8, 12, 2, 1), (19, 1, 2, 0, 0), (20, 8, 109, 3, 8), (23, 1, 3, 2, 0), (24, 11, 12, 2, 0), (27, 8, 275, 1, 0), (30, 13, 0, 0, 0)]
set_option maxRecDepth 100000 in
def e_p9 : List e_E := [(0, 1, 1, 0, 0), (1, 2, 0, 2, 0), (2, 8, 17, 2, 0), (5, 1, 0, 2, 0), (6, 11, 0, 3, 0), (9, 11, 7, 9, 0), (12, 2, 0, 4294967295, 0), (13, 16, 1, 0, 4), (16, 2, 0, 4294967295, 0), (17, 13, 0, 0, 0), (18, 0, 0, 0, 0), (19, 0, 0, 0, 0), (22, 0, 0, 0, 0), (23, 0, 0, 0, 0), (26, 0, 0, 0, 0), (29, 0, 0, 0, 0), (32, 0, 0, 0, 0), (33, 0, 0, 0, 0), (36, 0, 0, 0, 0), (39, 0, 0, 0, 0)]
set_option maxRecDepth 100000 in
def e_p10 : List e_E := [(0, 2, 0, 0, 0), (1, 9, 1, 0, 0), (2, 2, 0, 24, 0), (4, 9, 2, 0, 0), (5, 1, 2, 0, 0), (6, 10, 2, 0, 28), (9, 1, 1, 0, 0), (10, 1, 0, 0, 0), (11, 1, 2, 0, 0), (12, 17, 9, 0, 0), (13, 2, 0, 255, 0), (16, 17, 4, 0, 0), (17, 10, 0, 0, 4), (20, 2, 0, 1, 0), (21, 3, 0, 0, 2), (24, 2, 0, 0, 0), (25, 17, 1, 0, 0), (26, 9, 1, 0, 0), (27, 4, 2, 4294967288, 0), (30, 3, 0, 0, 9), (33, 1, 1, 0, 0), (34, 13, 0, 0, 0)]
set_option maxRecDepth 100000 in
def e_p11 : List e_E := [(0, 1, 0, 2, 0), (1, 11, 0, 3, 0), (4, 11, 7, 2, 0), (7, 15, 1, 0, 10), (10, 6, 1, 0, 0), (13, 0, 0, 0, 0), (14, 0, 0, 0, 0), (17, 0, 0, 0, 0), (20, 0, 0, 0, 0), (21, 0, 0, 0, 0), (22, 0, 0, 0, 0), (25, 0, 0, 0, 0), (28, 0, 0, 0, 0)]
set_option maxRecDepth 100000 in
def e_p12 : List e_E := [(0, 1, 0, 2, 0), (1, 11, 0, 6, 0), (4, 1, 1, 2, 0), (5, 8, 100, 2, 5), (8, 1, 1, 2, 0), (9, 11, 12, 6, 0), (12, 15, 1, 0, 10), (15, 0, 0, 0, 0), (18, 0, 0, 0, 0), (19, 0, 0, 0, 0), (22, 0, 0, 0, 0), (25, 0, 0, 0, 0), (26, 1, 1, 2, 0), (27, 11, 12, 6, 0), (30, 13, 2, 0, 0)]
set_option maxRecDepth 100000 in
def e_p13 : List e_E := [(0, 1, 0, 2, 0), (1, 11, 0, 3, 0), (4, 11, 7, 2, 0), (7, 9, 2, 2, 0), (8, 1, 2, 2, 0), (9, 15, 0, 0, 10), (12, 0, 0, 0, 0), (13, 0, 0, 0, 0), (16, 0, 0, 0, 0), (17, 0, 0, 0, 0), (20, 0, 0, 0, 0), (23, 6, 2, 0, 0), (26, 0, 0, 0, 0), (27, 0, 0, 0, 0), (30, 0, 0, 0, 0), (33, 0, 0, 0, 0), (34, 0, 0, 0, 0), (35, 0, 0, 0, 0)]
set_option maxRecDepth 100000 in
def e_p14 : List e_E := [(0, 1, 0, 2, 0), (1, 15, 0, 0, 20), (4, 1, 1, 0, 0), (5, 10, 2, 0, 16), (8, 1, 1, 0, 0), (9, 1, 0, 2, 0), (10, 12, 0, 0, 0), (11, 16, 3, 0, 8), (14, 1, 0, 2, 0), (15, 1, 1, 0, 0), (16, 18, 1, 0, 0), (17, 3, 0, 0, 2), (20, 2, 0, 4294967295, 0), (21, 13, 0, 0, 0)]
set_option maxRecDepth 100000 in
def e_p15 : List e_E := [(0, 1, 0, 0, 0), (1, 2, 0, 1, 0), (2, 16, 2, 0, 6), (5, 1, 0, 0, 0), (6, 2, 0, 5, 0), (7, 16, 5, 0, 10), (10, 6, 0, 0, 0), (13, 0, 0, 0, 0), (14, 0, 0, 0, 0), (17, 0, 0, 0, 0), (20, 0, 0, 0, 0), (21, 5, 0, 0, 0)]
set_option maxRecDepth 100000 in
def e_p16 : List e_E := [(0, 1, 0, 0, 0), (1, 10, 2, 0, 6), (4, 1, 0, 0, 0), (5, 1, 1, 0, 0), (6, 16, 2, 0, 10), (9, 6, 2, 0, 0), (12, 0, 0, 0, 0), (13, 0, 0, 0, 0), (16, 0, 0, 0, 0), (19, 0, 0, 0, 0), (20, 5, 0, 0, 0)]
set_option maxRecDepth 100000 in
def e_p17 : List e_E := [(0, 1, 0, 0, 0), (1, 10, 2, 0, 6), (4, 1, 0, 0, 0), (5, 1, 1, 0, 0), (6, 16, 2, 0, 10), (9, 6, 0, 0, 0), (12, 0, 0, 0, 0), (13, 0, 0, 0, 0), (16, 0, 0, 0, 0), (19, 0, 0, 0, 0), (20, 5, 0, 0, 0)]
set_option maxRecDepth 100000 in
def e_p18 : List e_E := [(0, 2, 0, 17, 0), (2, 9, 1, 0, 0), (3, 2, 0, 0, 0), (4, 9, 2, 0, 0), (5, 1, 2, 0, 0), (6, 2, 0, 4, 0), (7, 16, 3, 0, 24), (10, 2, 0, 31, 0), (12, 1, 1, 0, 0), (13, 17, 3, 0, 0), (14, 1, 0, 2, 0), (15, 11, 0, 3, 0), (18, 1, 2, 0, 0), (19, 8, 115, 2, 8), (22, 11, 12, 0, 0), (25, 17, 1, 0, 0), (26, 9, 1, 0, 0), (27, 4, 2, 1, 0), (30, 3, 0, 0, 9), (33, 2, 0, 0, 0), (34, 9, 2, 0, 0), (35, 1, 2, 0, 0), (36, 2, 0, 8, 0), (38, 16, 3, 0, 24), (41, 2, 0, 31, 0), (43, 1, 1, 0, 0), (44, 17, 3, 0, 0), (45, 1, 0, 2, 0), (46, 11, 0, 3, 0), (49, 1, 2, 0, 0), (50, 8, 113, 2, 8), (53, 11, 8, 1, 0), (56, 17, 1, 0, 0), (57, 9, 1, 0, 0), (58, 4, 2, 1, 0), (61, 3, 0, 0, 43), (64, 2, 0, 0, 0), (65, 9, 2, 0, 0), (66, 1, 2, 0, 0), (67, 2, 0, 6, 0), (69, 16, 3, 0, 46), (72, 1, 0, 2, 0), (73, 11, 0, 3, 0), (76, 11, 7, 2, 0), (79, 15, 0, 0, 34), (82, 0, 0, 0, 0), (83, 0, 0, 0, 0), (86, 0, 0, 0, 0), (89, 0, 0, 0, 0), (92, 0, 0, 0, 0), (93, 0, 0, 0, 0), (96, 0, 0, 0, 0), (99, 0, 0, 0, 0), (101, 0, 0, 0, 0), (102, 0, 0, 0, 0), (103, 0, 0, 0, 0), (104, 0, 0, 0, 0), (107, 0, 0, 0, 0), (110, 0, 0, 0, 0), (111, 0, 0, 0, 0), (114, 0, 0, 0, 0), (115, 0, 0, 0, 0), (116, 4, 2, 1, 0), (119, 3, 0, 0, 77), (122, 1, 1, 0, 0), (123, 13, 0, 0, 0)]
set_option maxRecDepth 100000 in
def e_p19 : List e_E := [(0, 1, 0, 2, 0), (1, 11, 0, 1, 0), (4, 9, 1, 0, 0), (5, 1, 0, 2, 0), (6, 2, 0, 0, 0), (7, 19, 0, 1, 0), (10, 1, 1, 0, 0), (11, 13, 0, 0, 0)]
set_option maxRecDepth 100000 in
def e_p20 : List e_E := [(0, 1, 0, 2, 0), (1, 1, 1, 0, 0), (2, 8, 22, 2, 1), (5, 9, 2, 2, 0), (6, 1, 2, 2, 0), (7, 11, 12, 6, 0), (10, 15, 1, 0, 4), (13, 0, 0, 0, 0), (14, 0, 0, 0, 0), (17, 1, 2, 2, 0), (18, 11, 12, 2, 0), (21, 8, 275, 1, 0), (24, 13, 0, 0, 0)]
set_option maxRecDepth 100000 in
def e_p21 : List e_E := [(0, 2, 0, 0, 0), (1, 9, 1, 0, 0), (2, 2, 0, 0, 0), (3, 9, 2, 0, 0), (4, 1, 2, 0, 0), (5, 2, 0, 4, 0), (6, 16, 3, 0, 26), (9, 1, 1, 0, 0), (10, 1, 0, 2, 0), (11, 1, 2, 0, 0), (12, 8, 22, 2, 1), (15, 11, 12, 6, 0), (18, 15, 1, 0, 4), (21, 0, 0, 0, 0), (22, 0, 0, 0, 0), (25, 2, 0, 1, 0), (26, 17, 1, 0, 0), (27, 9, 1, 0, 0), (28, 4, 2, 1, 0), (31, 3, 0, 0, 9), (34, 1, 1, 0, 0), (35, 36, 0, 0, 0), (36, 2, 6, 1082130432, 0), (39, 37, 0, 0, 0), (40, 13, 3, 0, 0)]
set_option maxRecDepth 100000 in
def e_p22 : List e_E := [(0, 1, 0, 2, 0), (1, 1, 1, 0, 0), (2, 8, 70, 2, 1), (5, 9, 2, 2, 0), (6, 1, 0, 2, 0), (7, 11, 0, 6, 0), (10, 1, 2, 2, 0), (11, 8, 100, 2, 5), (14, 1, 2, 2, 0), (15, 13, 2, 0, 0)]
set_option maxRecDepth 100000 in
def e_p23 : List e_E := [(0, 1, 0, 2, 0), (1, 11, 0, 2, 0), (4, 13, 0, 0, 0)]
set_option maxRecDepth 100000 in
def e_p24 : List e_E := [(0, 2, 0, 0, 0), (1, 9, 1, 0, 0), (2, 2, 0, 0, 0), (3, 9, 2, 0, 0), (4, 1, 2, 0, 0), (5, 2, 0, 4, 0), (6, 16, 3, 0, 44), (9, 1, 0, 2, 0), (10, 1, 2, 0, 0), (11, 8, 22, 2, 1), (14, 11, 12, 6, 0), (17, 9, 3, 2, 0), (18, 1, 1, 0, 0), (19, 1, 3, 2, 0), (20, 15, 0, 0, 18), (23, 1, 0, 2, 0), (24, 11, 0, 8, 0), (27, 1, 3, 2, 0), (28, 2, 0, 1, 0), (29, 8, 102, 3, 6), (32, 8, 107, 1, 7), (35, 10, 0, 0, 4), (38, 0, 0, 0, 0), (39, 0, 0, 0, 0), (42, 2, 0, 0, 0), (43, 17, 1, 0, 0), (44, 9, 1, 0, 0), (45, 4, 2, 1, 0), (48, 3, 0, 0, 9), (51, 2, 0, 0, 0), (52, 9, 2, 0, 0), (53, 1, 2, 0, 0), (54, 2, 0, 8, 0), (56, 16, 3, 0, 70), (59, 1, 0, 2, 0), (60, 11, 0, 3, 0), (63, 1, 2, 0, 0), (64, 8, 113, 2, 8), (67, 9, 3, 2, 0), (68, 1, 1, 0, 0), (69, 1, 0, 2, 0), (70, 11, 0, 7, 0), (73, 1, 3, 2, 0), (74, 1, 3, 2, 0), (75, 8, 87, 3, 4), (78, 10, 0, 0, 4), (81, 2, 0, 0, 0), (82, 3, 0, 0, 2), (85, 0, 0, 0, 0), (86, 17, 1, 0, 0), (87, 9, 1, 0, 0), (88, 1, 1, 0, 0), (89, 1, 3, 2, 0), (90, 8, 122, 1, 9), (93, 2, 0, 4294967295, 0), (94, 16, 0, 0, 12), (97, 0, 0, 0, 0), (98, 0, 0, 0, 0), (99, 0, 0, 0, 0), (102, 0, 0, 0, 0), (105, 0, 0, 0, 0), (108, 0, 0, 0, 0), (111, 2, 0, 0, 0), (112, 3, 0, 0, 2), (115, 0, 0, 0, 0), (116, 17, 1, 0, 0), (117, 9, 1, 0, 0), (118, 4, 2, 1, 0), (121, 3, 0, 0, 63), (124, 1, 1, 0, 0), (125, 13, 0, 0, 0)]
set_option maxRecDepth 100000 in
def e_p25 : List e_E := [(0, 1, 1, 0, 0), (1, 2, 0, 5, 0), (2, 8, 17, 2, 0), (5, 1, 1, 0, 0), (6, 8, 26, 1, 0), (9, 9, 2, 2, 0), (10, 1, 0, 2, 0), (11, 2, 0, 0, 0), (12, 19, 0, 1, 0), (15, 2, 0, 0, 0), (16, 9, 3, 0, 0), (17, 1, 3, 0, 0), (18, 1, 2, 2, 0), (19, 8, 284, 1, 1000), (22, 16, 3, 0, 20), (25, 1, 3, 0, 0), (26, 2, 0, 240, 0), (29, 16, 3, 0, 14), (32, 1, 0, 2, 0), (33, 1, 2, 2, 0), (34, 1, 3, 0, 0), (35, 8, 280, 2, 1000), (38, 8, 4, 2, 1), (41, 4, 3, 1, 0), (44, 3, 0, 0, 23), (47, 1, 0, 2, 0), (48, 11, 0, 1, 0), (51, 13, 0, 0, 0)]
set_option maxRecDepth 100000 in
def e_p26 : List e_E := [(0, 1, 0, 0, 0), (1, 24, 0, 3, 1), (32, 34, 8, 3, 0), (35, 13, 2, 0, 0), (36, 34, 8, 4, 0), (39, 13, 2, 0, 0), (40, 34, 8, 5, 0), (43, 13, 2, 0, 0), (44, 34, 8, 6, 0), (47, 13, 2, 0, 0), (48, 34, 8, 7, 0), (51, 13, 2, 0, 0)]
set_option maxRecDepth 100000 in
def e_p27 : List e_E := [(0, 1, 0, 2, 0), (1, 1, 1, 0, 0), (2, 8, 64, 2, 1), (5, 9, 3, 2, 0), (6, 1, 0, 2, 0), (7, 1, 2, 0, 0), (8, 8, 64, 2, 1), (11, 9, 4, 2, 0), (13, 1, 3, 2, 0), (14, 8, 122, 1, 9), (17, 1, 4, 2, 0), (19, 11, 8, 0, 0), (22, 16, 1, 0, 10), (25, 0, 0, 0, 0), (27, 0, 0, 0, 0), (30, 0, 0, 0, 0), (31, 0, 0, 0, 0), (34, 0, 0, 0, 0), (37, 2, 0, 0, 0), (38, 13, 0, 1, 0), (39, 0, 0, 0, 0), (40, 0, 0, 0, 0), (43, 0, 0, 0, 0), (44, 0, 0, 0, 0), (46, 0, 0, 0, 0), (49, 0, 0, 0, 0), (52, 0, 0, 0, 0)]
set_option maxRecDepth 100000 in
def e_p28 : List e_E := [(0, 1, 1, 0, 0), (1, 10, 2, 0, 22), (4, 1, 1, 0, 0), (5, 2, 0, 31, 0), (7, 16, 3, 0, 16), (10, 1, 0, 0, 0), (11, 1, 1, 0, 0), (12, 17, 8, 0, 0), (13, 2, 0, 1, 0), (14, 17, 4, 0, 0), (15, 10, 0, 0, 4), (18, 0, 0, 0, 0), (19, 0, 0, 0, 0), (22, 2, 0, 0, 0), (23, 13, 0, 1, 0)]
set_option maxRecDepth 100000 in
def e_p29 : List e_E := [(0, 1, 0, 1, 0), (1, 1, 2, 0, 0), (2, 8, 45, 1, 0), (5, 26, 4, 0, 0), (6, 2, 1, 0, 0), (7, 28, 0, 0, 0), (8, 10, 0, 0, 4), (11, 2, 0, 1, 0), (12, 3, 0, 0, 2), (15, 0, 0, 0, 0), (16, 13, 0, 1, 0)]
set_option maxRecDepth 100000 in
def e_p30 : List e_E := [(0, 1, 0, 2, 0), (1, 1, 1, 0, 0), (2, 8, 13, 2, 1), (5, 0, 0, 0, 0), (6, 0, 0, 0, 0), (7, 0, 0, 0, 0), (10, 0, 0, 0, 0), (13, 0, 0, 0, 0), (14, 0, 0, 0, 0), (17, 0, 0, 0, 0), (18, 0, 0, 0, 0), (19, 0, 0, 0, 0), (20, 0, 0, 0, 0), (21, 0, 0, 0, 0), (24, 0, 0, 0, 0), (25, 0, 0, 0, 0), (28, 0, 0, 0, 0), (31, 0, 0, 0, 0), (32, 0, 0, 0, 0), (35, 0, 0, 0, 0), (38, 0, 0, 0, 0), (39, 0, 0, 0, 0), (40, 0, 0, 0, 0), (41, 0, 0, 0, 0), (42, 0, 0, 0, 0), (45, 0, 0, 0, 0), (46, 0, 0, 0, 0), (49, 0, 0, 0, 0), (51, 0, 0, 0, 0), (52, 0, 0, 0, 0), (55, 0, 0, 0, 0), (58, 0, 0, 0, 0), (60, 0, 0, 0, 0), (63, 0, 0, 0, 0), (65, 0, 0, 0, 0), (67, 0, 0, 0, 0), (70, 0, 0, 0, 0), (73, 0, 0, 0, 0), (76, 0, 0, 0, 0), (77, 0, 0, 0, 0), (80, 0, 0, 0, 0), (83, 0, 0, 0, 0), (84, 0, 0, 0, 0), (86, 0, 0, 0, 0), (87, 0, 0, 0, 0), (90, 0, 0, 0, 0), (92, 0, 0, 0, 0), (93, 0, 0, 0, 0), (94, 0, 0, 0, 0), (95, 0, 0, 0, 0), (98, 0, 0, 0, 0), (100, 0, 0, 0, 0), (103, 0, 0, 0, 0), (106, 0, 0, 0, 0), (109, 0, 0, 0, 0), (110, 0, 0, 0, 0), (113, 0, 0, 0, 0), (116, 0, 0, 0, 0), (117, 0, 0, 0, 0), (118, 0, 0, 0, 0), (121, 0, 0, 0, 0), (124, 0, 0, 0, 0), (126, 0, 0, 0, 0), (128, 0, 0, 0, 0), (131, 0, 0, 0, 0), (134, 0, 0, 0, 0), (135, 0, 0, 0, 0), (138, 0, 0, 0, 0), (141, 0, 0, 0, 0), (142, 0, 0, 0, 0), (143, 0, 0, 0, 0), (144, 0, 0, 0, 0), (145, 0, 0, 0, 0), (147, 0, 0, 0, 0), (150, 0, 0, 0, 0), (153, 0, 0, 0, 0), (155, 0, 0, 0, 0)]
set_option maxRecDepth 100000 in
def e_p31 : List e_E := [(0, 1, 1, 0, 0), (1, 2, 0, 2, 0), (2, 8, 17, 2, 0), (5, 1, 0, 2, 0), (6, 1, 1, 0, 0), (7, 8, 32, 2, 1), (10, 9, 2, 2, 0), (11, 1, 2, 2, 0), (12, 15, 1, 0, 16), (15, 7, 7, 10, 0), (18, 20, 0, 0, 0), (19, 8, 108, 1, 8), (22, 9, 2, 2, 0), (23, 1, 0, 2, 0), (24, 1, 1, 0, 0), (25, 1, 2, 2, 0), (26, 8, 34, 3, 1), (29, 1, 2, 2, 0), (30, 1, 0, 2, 0), (31, 11, 0, 3, 0), (34, 8, 111, 2, 8), (37, 1, 0, 2, 0), (38, 11, 0, 3, 0), (41, 8, 114, 1, 8), (44, 13, 0, 0, 0)]
set_option maxRecDepth 100000 in
def e_p32 : List e_E := [(0, 1, 1, 0, 0), (1, 10, 2, 0, 20), (4, 1, 1, 0, 0), (5, 1, 0, 2, 0), (6, 11, 0, 4, 0), (9, 12, 0, 0, 0), (10, 16, 3, 0, 10), (13, 1, 0, 2, 0), (14, 11, 0, 4, 0), (17, 1, 1, 0, 0), (18, 18, 11, 0, 0), (19, 3, 0, 0, 2), (22, 0, 0, 0, 0), (23, 13, 2, 0, 0)]
set_option maxRecDepth 100000 in
def e_p33 : List e_E := [(0, 1, 0, 2, 0), (1, 11, 0, 7, 0), (4, 1, 0, 2, 0), (5, 1, 1, 0, 0), (6, 8, 64, 2, 1), (9, 1, 0, 2, 0), (10, 1, 2, 0, 0), (11, 8, 64, 2, 1), (14, 8, 87, 3, 4), (17, 13, 0, 1, 0)]
set_option maxRecDepth 100000 in
def e_p34 : List e_E := [(0, 1, 1, 0, 0), (1, 10, 2, 0, 20), (4, 1, 1, 0, 0), (5, 1, 0, 2, 0), (6, 11, 0, 4, 0), (9, 12, 0, 0, 0), (10, 16, 3, 0, 10), (13, 1, 0, 2, 0), (14, 11, 0, 4, 0), (17, 1, 1, 0, 0), (18, 1, 2, 2, 0), (19, 43, 11, 0, 0), (20, 5, 0, 0, 0)]
set_option maxRecDepth 100000 in
def e_p35 : List e_E := [(0, 1, 0, 2, 0), (1, 8, 11, 1, 1), (4, 0, 0, 0, 0), (5, 0, 0, 0, 0), (6, 0, 0, 0, 0), (7, 0, 0, 0, 0), (8, 0, 0, 0, 0), (9, 0, 0, 0, 0), (12, 0, 0, 0, 0), (13, 0, 0, 0, 0), (16, 0, 0, 0, 0), (17, 0, 0, 0, 0), (18, 0, 0, 0, 0), (21, 0, 0, 0, 0), (22, 0, 0, 0, 0), (23, 0, 0, 0, 0), (26, 0, 0, 0, 0), (27, 0, 0, 0, 0), (30, 0, 0, 0, 0), (31, 0, 0, 0, 0), (32, 0, 0, 0, 0), (33, 0, 0, 0, 0), (36, 0, 0, 0, 0), (39, 0, 0, 0, 0), (40, 0, 0, 0, 0), (41, 0, 0, 0, 0), (44, 0, 0, 0, 0), (47, 0, 0, 0, 0), (48, 0, 0, 0, 0)]
set_option maxRecDepth 100000 in
def e_p36 : List e_E := [(0, 1, 1, 0, 0), (1, 2, 0, 6, 0), (3, 8, 17, 2, 0), (6, 1, 2, 0, 0), (7, 2, 0, 6, 0), (9, 8, 17, 2, 0), (12, 1, 3, 0, 0), (13, 2, 0, 10, 0), (15, 8, 17, 2, 0), (18, 1, 1, 0, 0), (19, 1, 2, 0, 0), (20, 16, 1, 0, 10), (23, 6, 0, 0, 0), (26, 0, 0, 0, 0), (27, 0, 0, 0, 0), (30, 0, 0, 0, 0), (33, 0, 0, 0, 0), (34, 1, 0, 2, 0), (35, 8, 11, 1, 1), (38, 0, 0, 0, 0), (39, 0, 0, 0, 0), (40, 0, 0, 0, 0), (43, 0, 0, 0, 0), (44, 0, 0, 0, 0), (45, 0, 0, 0, 0), (46, 0, 0, 0, 0), (49, 0, 0, 0, 0)]
set_option maxRecDepth 100000 in
def e_p37 : List e_E := [(0, 2, 0, 0, 0), (1, 9, 1, 0, 0), (2, 2, 0, 0, 0), (3, 9, 2, 0, 0), (4, 1, 2, 0, 0), (5, 2, 0, 5, 0), (6, 16, 3, 0, 18), (9, 1, 0, 0, 0), (10, 2, 0, 4, 0), (11, 1, 2, 0, 0), (12, 17, 3, 0, 0), (13, 17, 9, 0, 0), (14, 10, 5, 0, 6), (17, 0, 0, 0, 0), (20, 0, 0, 0, 0), (23, 0, 0, 0, 0), (26, 1, 1, 0, 0), (27, 13, 0, 0, 0)]
set_option maxRecDepth 100000 in
def e_p38 : List e_E := [(0, 1, 1, 0, 0), (1, 2, 0, 6, 0), (3, 8, 17, 2, 0), (6, 1, 2, 0, 0), (7, 2, 0, 6, 0), (9, 8, 17, 2, 0), (12, 1, 0, 2, 0), (13, 11, 0, 3, 0), (16, 11, 7, 5, 0), (19, 1, 1, 0, 0), (20, 1, 2, 0, 0), (21, 8, 51, 2, 0), (24, 8, 14, 2, 0), (27, 13, 0, 0, 0)]
set_option maxRecDepth 100000 in
def e_p39 : List e_E := [(0, 2, 0, 0, 0), (1, 9, 1, 0, 0), (2, 2, 0, 0, 0), (3, 9, 2, 0, 0), (4, 2, 0, 0, 0), (5, 9, 3, 0, 0), (6, 1, 3, 0, 0), (7, 2, 0, 4, 0), (8, 16, 3, 0, 70), (11, 1, 0, 2, 0), (12, 11, 0, 3, 0), (15, 1, 3, 0, 0), (16, 8, 115, 2, 8), (19, 9, 4, 2, 0), (21, 2, 0, 0, 0), (22, 9, 5, 0, 0), (24, 1, 5, 0, 0), (26, 1, 4, 2, 0), (28, 11, 12, 0, 0), (31, 16, 3, 0, 44), (34, 1, 1, 0, 0), (35, 1, 4, 2, 0), (37, 1, 5, 0, 0), (39, 2, 0, 3, 0), (40, 8, 153, 3, 13), (43, 8, 275, 1, 0), (46, 17, 1, 0, 0), (47, 9, 1, 0, 0), (48, 1, 2, 0, 0), (49, 1, 4, 2, 0), (51, 1, 5, 0, 0), (53, 2, 0, 0, 0), (54, 8, 153, 3, 13), (57, 2, 0, 1, 0), (58, 16, 1, 0, 4), (61, 0, 0, 0, 0), (62, 0, 0, 0, 0), (65, 2, 0, 0, 0), (66, 17, 1, 0, 0), (67, 9, 2, 0, 0), (68, 4, 5, 1, 0), (71, 3, 0, 0, 33), (74, 4, 3, 1, 0), (77, 3, 0, 0, 13), (80, 1, 2, 0, 0), (81, 10, 1, 0, 4), (84, 2, 7, 0, 0), (85, 3, 0, 0, 10), (88, 0, 0, 0, 0), (89, 0, 0, 0, 0), (90, 0, 0, 0, 0), (91, 0, 0, 0, 0), (92, 0, 0, 0, 0), (93, 13, 4, 0, 0)]
set_option maxRecDepth 100000 in
def e_p40 : List e_E := [(0, 1, 0, 2, 0), (1, 1, 1, 0, 0), (2, 8, 64, 2, 1), (5, 9, 3, 2, 0), (6, 1, 2, 0, 0), (7, 2, 0, 8, 0), (9, 8, 17, 2, 0), (12, 1, 3, 2, 0), (13, 8, 122, 1, 9), (16, 2, 0, 4294967295, 0), (17, 16, 1, 0, 10), (20, 6, 1, 0, 0), (23, 0, 0, 0, 0), (24, 0, 0, 0, 0), (26, 0, 0, 0, 0), (29, 0, 0, 0, 0), (30, 0, 0, 0, 0), (31, 0, 0, 0, 0), (34, 0, 0, 0, 0), (36, 0, 0, 0, 0), (37, 0, 0, 0, 0), (40, 0, 0, 0, 0), (41, 0, 0, 0, 0), (43, 0, 0, 0, 0), (46, 0, 0, 0, 0), (48, 0, 0, 0, 0), (51, 0, 0, 0, 0)]
set_option maxRecDepth 100000 in
def e_p41 : List e_E := [(0, 1, 0, 2, 0), (1, 1, 1, 0, 0), (2, 8, 70, 2, 1), (5, 9, 4, 2, 0), (7, 1, 3, 0, 0), (8, 2, 0, 10, 0), (10, 8, 17, 2, 0), (13, 1, 2, 0, 0), (14, 1, 4, 2, 0), (16, 11, 12, 0, 0), (19, 8, 16, 2, 0), (22, 1, 4, 2, 0), (24, 1, 2, 0, 0), (25, 1, 3, 0, 0), (26, 8, 148, 3, 13), (29, 13, 0, 0, 0)]
set_option maxRecDepth 100000 in
def e_p42 : List e_E := [(0, 2, 0, 0, 0), (1, 9, 1, 0, 0), (2, 1, 1, 0, 0), (3, 2, 0, 6, 0), (5, 16, 3, 0, 18), (8, 1, 0, 0, 0), (9, 2, 0, 1, 0), (10, 1, 1, 0, 0), (11, 17, 7, 0, 0), (12, 16, 1, 0, 4), (15, 0, 0, 0, 0), (16, 0, 0, 0, 0), (17, 4, 1, 1, 0), (20, 3, 0, 0, 5), (23, 2, 0, 4294967295, 0), (24, 13, 0, 0, 0)]
set_option maxRecDepth 100000 in
def e_p43 : List e_E := [(0, 1, 0, 2, 0), (1, 1, 1, 0, 0), (2, 8, 70, 2, 1), (5, 9, 4, 2, 0), (7, 1, 2, 0, 0), (8, 2, 0, 6, 0), (10, 8, 17, 2, 0), (13, 1, 3, 0, 0), (14, 2, 0, 8, 0), (16, 8, 17, 2, 0), (19, 1, 0, 2, 0), (20, 11, 0, 6, 0), (23, 1, 4, 2, 0), (25, 8, 100, 2, 5), (28, 1, 4, 2, 0), (30, 1, 2, 0, 0), (31, 8, 152, 2, 13), (34, 9, 5, 2, 0), (36, 1, 5, 2, 0), (38, 15, 1, 0, 10), (41, 0, 0, 0, 0), (44, 0, 0, 0, 0), (45, 0, 0, 0, 0), (47, 0, 0, 0, 0), (50, 0, 0, 0, 0), (51, 1, 0, 2, 0), (52, 11, 0, 3, 0), (55, 1, 3, 0, 0), (56, 1, 5, 2, 0), (58, 8, 112, 3, 8), (61, 1, 5, 2, 0), (63, 11, 8, 1, 0), (66, 13, 0, 0, 0)]
set_option maxRecDepth 100000 in
def e_p44 : List e_E := [(0, 1, 0, 2, 0), (1, 1, 1, 0, 0), (2, 8, 70, 2, 1), (5, 9, 4, 2, 0), (7, 1, 3, 0, 0), (8, 2, 0, 4, 0), (9, 8, 17, 2, 0), (12, 1, 2, 0, 0), (13, 1, 4, 2, 0), (15, 11, 12, 0, 0), (18, 8, 16, 2, 0), (21, 1, 4, 2, 0), (23, 1, 2, 0, 0), (24, 1, 3, 0, 0), (25, 8, 153, 3, 13), (28, 13, 0, 0, 0)]
set_option maxRecDepth 100000 in
def e_p45 : List e_E := [(0, 1, 0, 0, 0), (1, 10, 2, 0, 14), (4, 1, 0, 0, 0), (5, 2, 0, 64, 0), (7, 16, 3, 0, 8), (10, 2, 1, 1, 0), (11, 1, 0, 0, 0), (12, 27, 7, 0, 0), (13, 3, 0, 0, 2), (16, 0, 0, 0, 0), (17, 13, 1, 0, 0)]
set_option maxRecDepth 100000 in
def e_p46 : List e_E := [(0, 1, 0, 2, 0), (1, 1, 1, 0, 0), (2, 8, 70, 2, 1), (5, 11, 12, 0, 0), (8, 13, 0, 0, 0)]
set_option maxRecDepth 100000 in
def e_p47 : List e_E := [(0, 1, 0, 2, 0), (1, 1, 1, 0, 0), (2, 8, 64, 2, 1), (5, 9, 2, 2, 0), (6, 1, 0, 2, 0), (7, 8, 11, 1, 1), (10, 0, 0, 0, 0), (11, 0, 0, 0, 0), (12, 0, 0, 0, 0), (15, 0, 0, 0, 0), (18, 0, 0, 0, 0), (21, 0, 0, 0, 0), (22, 0, 0, 0, 0), (25, 0, 0, 0, 0), (26, 0, 0, 0, 0), (29, 0, 0, 0, 0), (32, 0, 0, 0, 0), (35, 0, 0, 0, 0), (38, 0, 0, 0, 0), (39, 0, 0, 0, 0), (41, 0, 0, 0, 0), (44, 0, 0, 0, 0), (45, 0, 0, 0, 0), (46, 0, 0, 0, 0), (49, 0, 0, 0, 0), (50, 0, 0, 0, 0), (51, 0, 0, 0, 0), (54, 0, 0, 0, 0), (57, 0, 0, 0, 0), (58, 0, 0, 0, 0), (61, 0, 0, 0, 0)]
set_option maxRecDepth 100000 in
def e_p48 : List e_E := [(0, 1, 1, 0, 0), (1, 10, 2, 0, 16), (4, 1, 1, 0, 0), (5, 1, 0, 2, 0), (6, 12, 0, 0, 0), (7, 16, 3, 0, 8), (10, 1, 0, 2, 0), (11, 1, 1, 0, 0), (12, 1, 2, 1, 0), (13, 30, 3, 0, 0), (14, 5, 0, 0, 0)]
set_option maxRecDepth 100000 in
def e_p49 : List e_E := [(0, 1, 0, 2, 0), (1, 1, 1, 0, 0), (2, 1, 2, 0, 0), (3, 8, 38, 3, 1), (6, 8, 37, 1, 0), (9, 13, 0, 0, 0)]
set_option maxRecDepth 100000 in
def e_p50 : List e_E := [(0, 1, 0, 2, 0), (1, 1, 1, 0, 0), (2, 1, 2, 0, 0), (3, 8, 38, 3, 1), (6, 9, 4, 0, 0), (8, 1, 3, 0, 0), (9, 1, 4, 0, 0), (11, 8, 37, 1, 0), (14, 8, 16, 2, 0), (17, 0, 0, 0, 0), (19, 0, 0, 0, 0), (20, 0, 0, 0, 0), (23, 0, 0, 0, 0)]
set_option maxRecDepth 100000 in
def e_p51 : List e_E := [(0, 1, 0, 0, 0), (1, 10, 2, 0, 4), (4, 1, 1, 0, 0), (5, 10, 3, 0, 4), (8, 0, 0, 0, 0), (9, 0, 0, 0, 0), (12, 2, 0, 6, 0), (14, 1, 0, 0, 0), (15, 17, 3, 0, 0), (16, 1, 1, 0, 0), (17, 17, 1, 0, 0), (18, 13, 0, 0, 0)]
set_option maxRecDepth 100000 in
def e_p52 : List e_E := [(0, 1, 1, 0, 0), (1, 2, 0, 4, 0), (2, 8, 17, 2, 0), (5, 1, 0, 2, 0), (6, 11, 0, 5, 0), (9, 1, 0, 2, 0), (10, 11, 0, 0, 0), (13, 1, 0, 2, 0), (14, 11, 0, 1, 0), (17, 8, 131, 3, 10), (20, 9, 2, 2, 0), (21, 1, 0, 2, 0), (22, 2, 0, 0, 0), (23, 19, 0, 1, 0), (26, 1, 0, 2, 0), (27, 1, 0, 2, 0), (28, 11, 0, 5, 0), (31, 11, 9, 6, 0), (34, 19, 0, 2, 0), (37, 1, 2, 2, 0), (38, 15, 1, 0, 10), (41, 6, 0, 0, 0), (44, 0, 0, 0, 0), (45, 0, 0, 0, 0), (47, 0, 0, 0, 0), (50, 0, 0, 0, 0), (51, 0, 0, 0, 0), (52, 0, 0, 0, 0), (53, 0, 0, 0, 0), (54, 0, 0, 0, 0), (57, 0, 0, 0, 0), (58, 0, 0, 0, 0), (61, 0, 0, 0, 0)]
set_option maxRecDepth 100000 in
def e_p53 : List e_E := [(0, 1, 1, 0, 0), (1, 2, 0, 2, 0), (2, 8, 17, 2, 0), (5, 1, 0, 2, 0), (6, 1, 1, 0, 0), (7, 8, 32, 2, 1), (10, 9, 2, 2, 0), (11, 1, 2, 2, 0), (12, 15, 1, 0, 10), (15, 0, 0, 0, 0), (18, 0, 0, 0, 0), (19, 0, 0, 0, 0), (22, 0, 0, 0, 0), (25, 0, 0, 0, 0), (26, 0, 0, 0, 0), (27, 0, 0, 0, 0), (30, 0, 0, 0, 0), (31, 0, 0, 0, 0), (34, 0, 0, 0, 0), (35, 0, 0, 0, 0), (38, 0, 0, 0, 0), (41, 0, 0, 0, 0)]
set_option maxRecDepth 100000 in
def e_p54 : List e_E := [(0, 1, 1, 0, 0), (1, 8, 15, 1, 0), (4, 1, 0, 2, 0), (5, 11, 0, 8, 0), (8, 1, 0, 2, 0), (9, 8, 11, 1, 1), (12, 0, 0, 0, 0), (13, 0, 0, 0, 0), (16, 0, 0, 0, 0), (17, 0, 0, 0, 0), (18, 0, 0, 0, 0), (21, 0, 0, 0, 0), (22, 0, 0, 0, 0), (23, 0, 0, 0, 0), (26, 0, 0, 0, 0), (29, 0, 0, 0, 0), (32, 0, 0, 0, 0), (33, 0, 0, 0, 0), (36, 0, 0, 0, 0), (39, 0, 0, 0, 0), (40, 0, 0, 0, 0), (41, 0, 0, 0, 0), (44, 0, 0, 0, 0), (45, 0, 0, 0, 0), (48, 0, 0, 0, 0)]
set_option maxRecDepth 100000 in
def e_p55 : List e_E := [(0, 1, 0, 2, 0), (1, 1, 1, 0, 0), (2, 8, 64, 2, 1), (5, 11, 8, 0, 0), (8, 13, 0, 0, 0)]
set_option maxRecDepth 100000 in
def e_p56 : List e_E := [(0, 1, 0, 2, 0), (1, 1, 1, 0, 0), (2, 8, 70, 2, 1), (5, 11, 12, 2, 0), (8, 13, 0, 0, 0)]
set_option maxRecDepth 100000 in
def e_p57 : List e_E := [(0, 1, 0, 2, 0), (1, 1, 1, 0, 0), (2, 8, 70, 2, 1), (5, 9, 3, 2, 0), (6, 1, 2, 0, 0), (7, 2, 0, 13, 0), (9, 8, 17, 2, 0), (12, 1, 0, 2, 0), (13, 11, 0, 9, 0), (16, 1, 0, 2, 0), (17, 1, 3, 2, 0), (18, 8, 12, 2, 1), (21, 1, 2, 0, 0), (22, 8, 142, 3, 12), (25, 13, 1, 0, 0)]
set_option maxRecDepth 100000 in
def e_p58 : List e_E := [(0, 1, 0, 2, 0), (1, 1, 1, 0, 0), (2, 8, 13, 2, 1), (5, 0, 0, 0, 0), (6, 0, 0, 0, 0), (7, 0, 0, 0, 0), (9, 0, 0, 0, 0), (12, 0, 0, 0, 0), (13, 0, 0, 0, 0), (16, 0, 0, 0, 0), (19, 0, 0, 0, 0), (20, 0, 0, 0, 0), (23, 0, 0, 0, 0), (25, 0, 0, 0, 0), (26, 0, 0, 0, 0), (27, 0, 0, 0, 0), (28, 0, 0, 0, 0), (30, 0, 0, 0, 0), (33, 0, 0, 0, 0), (36, 0, 0, 0, 0), (38, 0, 0, 0, 0), (39, 0, 0, 0, 0), (40, 0, 0, 0, 0), (42, 0, 0, 0, 0), (45, 0, 0, 0, 0), (46, 0, 0, 0, 0), (49, 0, 0, 0, 0), (50, 0, 0, 0, 0), (51, 0, 0, 0, 0), (53, 0, 0, 0, 0), (56, 0, 0, 0, 0), (57, 0, 0, 0, 0), (60, 0, 0, 0, 0), (63, 0, 0, 0, 0), (66, 0, 0, 0, 0), (67, 0, 0, 0, 0), (70, 0, 0, 0, 0), (73, 0, 0, 0, 0), (74, 0, 0, 0, 0), (75, 0, 0, 0, 0), (78, 0, 0, 0, 0), (81, 0, 0, 0, 0), (83, 0, 0, 0, 0), (86, 0, 0, 0, 0), (88, 0, 0, 0, 0), (90, 0, 0, 0, 0), (93, 0, 0, 0, 0), (94, 0, 0, 0, 0), (97, 0, 0, 0, 0), (100, 0, 0, 0, 0), (103, 0, 0, 0, 0), (106, 0, 0, 0, 0), (107, 0, 0, 0, 0), (110, 0, 0, 0, 0), (113, 0, 0, 0, 0), (114, 0, 0, 0, 0), (115, 0, 0, 0, 0), (118, 0, 0, 0, 0), (121, 0, 0, 0, 0), (123, 0, 0, 0, 0), (125, 0, 0, 0, 0), (126, 0, 0, 0, 0), (129, 0, 0, 0, 0), (132, 0, 0, 0, 0), (133, 0, 0, 0, 0), (136, 0, 0, 0, 0), (139, 0, 0, 0, 0), (140, 0, 0, 0, 0), (141, 0, 0, 0, 0), (142, 0, 0, 0, 0), (144, 0, 0, 0, 0), (145, 0, 0, 0, 0), (148, 0, 0, 0, 0), (151, 0, 0, 0, 0), (152, 0, 0, 0, 0), (155, 0, 0, 0, 0), (156, 0, 0, 0, 0), (159, 0, 0, 0, 0), (160, 0, 0, 0, 0), (161, 0, 0, 0, 0), (164, 0, 0, 0, 0), (166, 0, 0, 0, 0), (169, 0, 0, 0, 0), (170, 0, 0, 0, 0), (171, 0, 0, 0, 0)]
set_option maxRecDepth 100000 in
def e_p59 : List e_E := [(0, 1, 0, 2, 0), (1, 11, 0, 3, 0), (4, 11, 7, 6, 0), (7, 13, 0, 0, 0)]
set_option maxRecDepth 100000 in
def e_p60 : List e_E := [(0, 1, 1, 0, 0), (1, 10, 2, 0, 16), (4, 1, 1, 0, 0), (5, 1, 0, 2, 0), (6, 12, 0, 0, 0), (7, 16, 3, 0, 8), (10, 1, 0, 2, 0), (11, 1, 1, 0, 0), (12, 18, 3, 0, 0), (13, 3, 0, 0, 2), (16, 0, 0, 0, 0), (17, 13, 1, 0, 0)]
set_option maxRecDepth 100000 in
def e_p61 : List e_E := [(0, 1, 0, 2, 0), (1, 15, 0, 0, 20), (4, 1, 1, 0, 0), (5, 10, 2, 0, 16), (8, 1, 1, 0, 0), (9, 1, 0, 2, 0), (10, 12, 0, 0, 0), (11, 16, 3, 0, 8), (14, 1, 0, 2, 0), (15, 1, 1, 0, 0), (16, 1, 2, 0, 0), (17, 30, 1, 0, 0), (18, 5, 0, 0, 0)]
set_option maxRecDepth 100000 in
def e_p62 : List e_E := [(0, 1, 0, 2, 0), (1, 11, 0, 7, 0), (4, 1, 0, 2, 0), (5, 1, 1, 0, 0), (6, 8, 64, 2, 1), (9, 1, 0, 2, 0), (10, 1, 2, 0, 0), (11, 8, 64, 2, 1), (14, 8, 94, 3, 4), (17, 13, 0, 0, 0)]
set_option maxRecDepth 100000 in
def e_p63 : List e_E := [(0, 1, 3, 0, 0), (1, 1, 0, 2, 0), (2, 11, 0, 7, 0), (5, 1, 0, 2, 0), (6, 1, 1, 0, 0), (7, 8, 64, 2, 1), (10, 1, 0, 2, 0), (11, 1, 2, 0, 0), (12, 8, 64, 2, 1), (15, 8, 94, 3, 4), (18, 8, 16, 2, 0), (21, 0, 0, 0, 0), (22, 0, 0, 0, 0), (25, 0, 0, 0, 0), (26, 0, 0, 0, 0), (29, 0, 0, 0, 0)]
set_option maxRecDepth 100000 in
def e_p64 : List e_E := [(0, 1, 1, 0, 0), (1, 2, 0, 8, 0), (3, 8, 17, 2, 0), (6, 1, 0, 2, 0), (7, 11, 0, 3, 0), (10, 1, 1, 0, 0), (11, 8, 113, 2, 8), (14, 13, 2, 0, 0)]
set_option maxRecDepth 100000 in
def e_p65 : List e_E := [(0, 1, 0, 2, 0), (1, 11, 0, 3, 0), (4, 11, 7, 2, 0), (7, 9, 1, 2, 0), (8, 1, 1, 2, 0), (9, 15, 1, 0, 4), (12, 2, 0, 4294967295, 0), (13, 13, 0, 0, 0), (14, 0, 0, 0, 0), (15, 0, 0, 0, 0), (16, 0, 0, 0, 0), (19, 0, 0, 0, 0), (22, 0, 0, 0, 0), (25, 0, 0, 0, 0), (28, 0, 0, 0, 0), (29, 0, 0, 0, 0), (32, 0, 0, 0, 0), (35, 0, 0, 0, 0), (38, 0, 0, 0, 0), (39, 0, 0, 0, 0), (42, 0, 0, 0, 0), (43, 0, 0, 0, 0), (44, 0, 0, 0, 0), (45, 0, 0, 0, 0), (46, 0, 0, 0, 0), (47, 0, 0, 0, 0), (49, 0, 0, 0, 0), (52, 0, 0, 0, 0), (53, 0, 0, 0, 0), (56, 0, 0, 0, 0), (57, 0, 0, 0, 0), (60, 0, 0, 0, 0), (63, 0, 0, 0, 0), (64, 0, 0, 0, 0), (65, 0, 0, 0, 0), (68, 0, 0, 0, 0), (71, 0, 0, 0, 0), (72, 0, 0, 0, 0)]
set_option maxRecDepth 100000 in
def e_p66 : List e_E := [(0, 1, 0, 2, 0), (1, 1, 1, 0, 0), (2, 8, 64, 2, 1), (5, 9, 4, 2, 0), (7, 1, 3, 0, 0), (8, 2, 0, 3, 0), (9, 8, 17, 2, 0), (12, 1, 2, 0, 0), (13, 1, 4, 2, 0), (15, 11, 8, 1, 0), (18, 8, 16, 2, 0), (21, 1, 4, 2, 0), (23, 1, 2, 0, 0), (24, 1, 3, 0, 0), (25, 8, 125, 3, 9), (28, 13, 0, 0, 0)]
set_option maxRecDepth 100000 in
def e_p67 : List e_E := [(0, 1, 0, 2, 0), (1, 1, 1, 0, 0), (2, 8, 13, 2, 1), (5, 0, 0, 0, 0), (6, 0, 0, 0, 0), (7, 0, 0, 0, 0), (10, 0, 0, 0, 0), (13, 0, 0, 0, 0), (14, 0, 0, 0, 0), (17, 0, 0, 0, 0)]
set_option maxRecDepth 100000 in
def e_p68 : List e_E := [(0, 1, 0, 2, 0), (1, 1, 1, 0, 0), (2, 8, 64, 2, 1), (5, 11, 8, 1, 0), (8, 13, 0, 0, 0)]
set_option maxRecDepth 100000 in
def e_p69 : List e_E := [(0, 1, 0, 2, 0), (1, 1, 1, 0, 0), (2, 8, 64, 2, 1), (5, 9, 4, 2, 0), (7, 1, 3, 0, 0), (8, 2, 0, 10, 0), (10, 8, 17, 2, 0), (13, 1, 2, 0, 0), (14, 1, 4, 2, 0), (16, 11, 8, 1, 0), (19, 8, 16, 2, 0), (22, 1, 4, 2, 0), (24, 1, 2, 0, 0), (25, 1, 3, 0, 0), (26, 8, 117, 3, 9), (29, 13, 0, 0, 0)]
set_option maxRecDepth 100000 in
def e_p70 : List e_E := [(0, 1, 1, 0, 0), (1, 2, 0, 4, 0), (2, 8, 17, 2, 0), (5, 1, 0, 2, 0), (6, 11, 0, 3, 0), (9, 1, 1, 0, 0), (10, 8, 115, 2, 8), (13, 13, 2, 0, 0)]
set_option maxRecDepth 100000 in
def e_p71 : List e_E := [(0, 1, 0, 2, 0), (1, 1, 1, 0, 0), (2, 8, 70, 2, 1), (5, 9, 3, 2, 0), (6, 1, 2, 0, 0), (7, 2, 0, 3, 0), (8, 8, 17, 2, 0), (11, 1, 0, 2, 0), (12, 11, 0, 6, 0), (15, 1, 3, 2, 0), (16, 8, 100, 2, 5), (19, 1, 3, 2, 0), (20, 11, 12, 3, 0), (23, 1, 2, 0, 0), (24, 8, 14, 2, 0), (27, 13, 0, 0, 0)]
set_option maxRecDepth 100000 in
def e_p72 : List e_E := [(0, 1, 1, 0, 0), (1, 2, 0, 2, 0), (2, 1, 0, 2, 0), (3, 12, 0, 0, 0), (4, 17, 3, 0, 0), (5, 8, 278, 2, 0), (8, 9, 2, 0, 0), (9, 1, 1, 0, 0), (10, 1, 0, 2, 0), (11, 12, 0, 0, 0), (12, 16, 5, 0, 8), (15, 0, 0, 0, 0), (16, 0, 0, 0, 0), (17, 0, 0, 0, 0), (20, 0, 0, 0, 0), (23, 1, 0, 2, 0), (24, 13, 2, 0, 0)]
set_option maxRecDepth 100000 in
def e_p73 : List e_E := [(0, 1, 1, 0, 0), (1, 2, 0, 2, 0), (2, 1, 0, 2, 0), (3, 12, 0, 0, 0), (4, 17, 3, 0, 0), (5, 8, 278, 2, 0), (8, 9, 2, 0, 0), (9, 1, 1, 0, 0), (10, 1, 0, 2, 0), (11, 12, 0, 0, 0), (12, 16, 5, 0, 8), (15, 0, 0, 0, 0), (16, 0, 0, 0, 0), (17, 0, 0, 0, 0), (20, 0, 0, 0, 0), (23, 1, 0, 2, 0), (24, 13, 2, 0, 0)]
set_option maxRecDepth 100000 in
def e_p74 : List e_E := [(0, 1, 0, 2, 0), (1, 25, 0, 0, 0), (4, 1, 0, 2, 0), (5, 2, 0, 6, 0), (7, 14, 12, 0, 0), (10, 19, 2, 1, 3), (13, 1, 0, 2, 0), (14, 2, 0, 6, 0), (16, 14, 10, 0, 0), (19, 19, 2, 2, 3), (22, 1, 0, 2, 0), (23, 1, 1, 0, 0), (24, 19, 2, 0, 0), (27, 2, 0, 0, 0), (28, 9, 3, 0, 0), (29, 1, 3, 0, 0), (30, 2, 0, 6, 0), (32, 16, 3, 0, 30), (35, 1, 0, 2, 0), (36, 11, 2, 1, 0), (39, 1, 3, 0, 0), (40, 1, 3, 0, 0), (41, 1, 2, 2, 0), (42, 12, 0, 0, 0), (43, 16, 3, 0, 8), (46, 1, 2, 2, 0), (47, 1, 3, 0, 0), (48, 18, 12, 0, 0), (49, 3, 0, 0, 2), (52, 0, 0, 0, 0), (53, 43, 12, 0, 0), (54, 4, 3, 1, 0), (57, 3, 0, 0, 31), (60, 5, 0, 0, 0)]
set_option maxRecDepth 100000 in
def e_p75 : List e_E := [(0, 1, 1, 0, 0), (1, 10, 2, 0, 20), (4, 1, 1, 0, 0), (5, 1, 0, 2, 0), (6, 11, 2, 2, 0), (9, 12, 0, 0, 0), (10, 16, 3, 0, 10), (13, 1, 0, 2, 0), (14, 11, 2, 2, 0), (17, 1, 1, 0, 0), (18, 18, 10, 0, 0), (19, 3, 0, 0, 2), (22, 0, 0, 0, 0), (23, 13, 2, 0, 0)]
set_option maxRecDepth 100000 in
def e_p76 : List e_E := [(0, 2, 0, 1, 0), (1, 9, 2, 0, 0), (2, 2, 0, 0, 0), (3, 9, 3, 0, 0), (4, 1, 3, 0, 0), (5, 2, 0, 6, 0), (7, 16, 3, 0, 30), (10, 1, 2, 0, 0), (11, 10, 0, 0, 18), (14, 1, 0, 2, 0), (15, 1, 3, 0, 0), (16, 1, 1, 2, 0), (17, 1, 3, 0, 0), (18, 8, 14, 2, 0), (21, 8, 82, 3, 3), (24, 10, 1, 0, 4), (27, 2, 0, 1, 0), (28, 3, 0, 0, 2), (31, 0, 0, 0, 0), (32, 9, 2, 0, 0), (33, 4, 3, 1, 0), (36, 3, 0, 0, 9), (39, 1, 2, 0, 0), (40, 13, 0, 1, 0)]
set_option maxRecDepth 100000 in
def e_p77 : List e_E := [(0, 1, 1, 0, 0), (1, 10, 2, 0, 20), (4, 1, 1, 0, 0), (5, 1, 0, 2, 0), (6, 11, 2, 2, 0), (9, 12, 0, 0, 0), (10, 16, 3, 0, 10), (13, 1, 0, 2, 0), (14, 11, 2, 2, 0), (17, 1, 1, 0, 0), (18, 1, 2, 2, 0), (19, 43, 10, 0, 0), (20, 5, 0, 0, 0)]
set_option maxRecDepth 100000 in
def e_p78 : List e_E := [(0, 1, 2, 2, 0), (1, 1, 1, 0, 0), (2, 8, 14, 2, 0), (5, 9, 3, 0, 0), (6, 1, 0, 2, 0), (7, 1, 1, 0, 0), (8, 1, 3, 0, 0), (9, 8, 79, 3, 3), (12, 9, 4, 0, 0), (14, 1, 2, 2, 0), (15, 1, 4, 0, 0), (17, 8, 14, 2, 0), (20, 9, 5, 0, 0), (22, 1, 0, 2, 0), (23, 1, 1, 0, 0), (24, 1, 3, 0, 0), (25, 8, 82, 3, 3), (28, 2, 0, 1, 0), (29, 16, 1, 0, 28), (32, 0, 0, 0, 0), (33, 0, 0, 0, 0), (35, 0, 0, 0, 0), (37, 0, 0, 0, 0), (40, 0, 0, 0, 0), (41, 0, 0, 0, 0), (44, 0, 0, 0, 0), (45, 0, 0, 0, 0), (47, 0, 0, 0, 0), (49, 0, 0, 0, 0), (52, 0, 0, 0, 0), (53, 0, 0, 0, 0), (56, 0, 0, 0, 0), (57, 0, 0, 0, 0), (60, 2, 0, 0, 0), (61, 13, 0, 1, 0)]
set_option maxRecDepth 100000 in
def e_p79 : List e_E := [(0, 1, 0, 2, 0), (1, 1, 1, 0, 0), (2, 1, 2, 0, 0), (3, 2, 0, 1, 0), (4, 8, 83, 4, 3), (7, 13, 0, 0, 0)]
set_option maxRecDepth 100000 in
def e_p80 : List e_E := [(0, 1, 0, 2, 0), (1, 1, 1, 0, 0), (2, 8, 81, 2, 3), (5, 9, 2, 2, 0), (6, 1, 2, 2, 0), (7, 15, 1, 0, 4), (10, 0, 0, 0, 0), (11, 0, 0, 0, 0), (14, 1, 2, 2, 0), (15, 11, 8, 4, 0), (18, 13, 0, 0, 0)]
set_option maxRecDepth 100000 in
def e_p81 : List e_E := [(0, 1, 1, 0, 0), (1, 10, 2, 0, 16), (4, 1, 1, 0, 0), (5, 2, 0, 6, 0), (7, 16, 3, 0, 10), (10, 1, 0, 2, 0), (11, 11, 2, 1, 0), (14, 1, 1, 0, 0), (15, 18, 12, 0, 0), (16, 3, 0, 0, 2), (19, 0, 0, 0, 0), (20, 13, 2, 0, 0)]
set_option maxRecDepth 100000 in
def e_p82 : List e_E := [(0, 1, 0, 2, 0), (1, 1, 1, 0, 0), (2, 1, 2, 0, 0), (3, 2, 0, 0, 0), (4, 8, 83, 4, 3), (7, 13, 0, 0, 0)]
set_option maxRecDepth 100000 in
def e_p83 : List e_E := [(0, 1, 0, 2, 0), (1, 1, 1, 0, 0), (2, 8, 81, 2, 3), (5, 9, 4, 2, 0), (7, 1, 4, 2, 0), (9, 15, 1, 0, 4), (12, 0, 0, 0, 0), (13, 0, 0, 0, 0), (16, 1, 4, 2, 0), (18, 1, 2, 0, 0), (19, 1, 3, 0, 0), (20, 8, 125, 3, 9), (23, 13, 0, 0, 0)]
set_option maxRecDepth 100000 in
def e_p84 : List e_E := [(0, 1, 0, 2, 0), (1, 25, 0, 0, 0), (4, 1, 0, 2, 0), (5, 7, 10, 7, 0), (8, 20, 0, 0, 0), (9, 8, 133, 1, 11), (12, 19, 3, 0, 3), (15, 1, 0, 2, 0), (16, 2, 0, 12, 0), (18, 14, 1, 0, 0), (20, 19, 3, 1, 3), (23, 1, 0, 2, 0), (24, 2, 0, 64, 0), (26, 14, 1, 0, 0), (28, 19, 3, 9, 3), (31, 1, 0, 2, 0), (32, 2, 0, 64, 0), (34, 14, 1, 0, 0), (36, 19, 3, 10, 3), (39, 1, 0, 2, 0), (40, 2, 0, 64, 0), (42, 14, 3, 0, 0), (44, 19, 3, 11, 3), (47, 1, 0, 2, 0), (48, 2, 0, 64, 0), (50, 14, 1, 0, 0), (52, 19, 3, 14, 3), (55, 1, 0, 2, 0), (56, 2, 0, 64, 0), (58, 14, 3, 0, 0), (60, 19, 3, 15, 3), (63, 1, 0, 2, 0), (64, 2, 0, 64, 0), (66, 14, 3, 0, 0), (68, 19, 3, 16, 3), (71, 1, 0, 2, 0), (72, 2, 0, 64, 0), (74, 14, 1, 0, 0), (76, 19, 3, 18, 3), (79, 1, 0, 2, 0), (80, 2, 0, 64, 0), (82, 14, 3, 0, 0), (84, 19, 3, 19, 3), (87, 1, 0, 2, 0), (88, 2, 0, 64, 0), (90, 14, 3, 0, 0), (92, 19, 3, 20, 3), (95, 5, 0, 0, 0)]
set_option maxRecDepth 100000 in
def e_p85 : List e_E := [(0, 1, 1, 0, 0), (1, 2, 0, 4294967295, 0), (2, 16, 0, 0, 36), (5, 1, 2, 0, 0), (6, 2, 0, 4294967295, 0), (7, 16, 0, 0, 30), (10, 1, 0, 2, 0), (11, 11, 3, 1, 0), (14, 2, 0, 0, 0), (15, 2, 0, 64, 0), (17, 1, 1, 0, 0), (18, 17, 3, 0, 0), (19, 1, 2, 0, 0), (20, 17, 1, 0, 0), (21, 8, 61, 3, 0), (24, 1, 0, 2, 0), (25, 11, 3, 0, 0), (28, 1, 0, 2, 0), (29, 11, 3, 1, 0), (32, 8, 138, 2, 11), (35, 21, 0, 0, 0), (36, 5, 0, 0, 0)]
set_option maxRecDepth 100000 in
def e_p86 : List e_E := [(0, 1, 0, 2, 0), (1, 11, 3, 0, 0), (4, 2, 0, 1, 0), (5, 2, 0, 1, 0), (6, 2, 0, 4096, 0), (9, 8, 139, 4, 11), (12, 1, 0, 2, 0), (13, 2, 0, 0, 0), (14, 2, 0, 0, 0), (15, 8, 85, 3, 4), (18, 2, 0, 0, 0), (19, 9, 3, 0, 0), (20, 1, 3, 0, 0), (21, 1, 0, 2, 0), (22, 11, 3, 0, 0), (25, 11, 10, 3, 0), (28, 16, 3, 0, 112), (31, 1, 3, 0, 0), (32, 2, 0, 4096, 0), (35, 16, 3, 0, 106), (38, 1, 0, 2, 0), (39, 11, 3, 0, 0), (42, 1, 3, 0, 0), (43, 2, 0, 0, 0), (44, 8, 134, 3, 11), (47, 2, 0, 64, 0), (49, 17, 10, 0, 0), (50, 9, 4, 0, 0), (52, 1, 0, 2, 0), (53, 11, 3, 0, 0), (56, 1, 3, 0, 0), (57, 2, 0, 0, 0), (58, 8, 134, 3, 11), (61, 2, 0, 64, 0), (63, 17, 11, 0, 0), (64, 9, 5, 0, 0), (66, 2, 0, 0, 0), (67, 9, 6, 0, 0), (69, 1, 6, 0, 0), (71, 2, 0, 4, 0), (72, 16, 3, 0, 26), (75, 1, 1, 2, 0), (76, 1, 4, 0, 0), (78, 1, 6, 0, 0), (80, 8, 153, 3, 13), (83, 1, 2, 2, 0), (84, 1, 5, 0, 0), (86, 1, 6, 0, 0), (88, 8, 153, 3, 13), (91, 16, 0, 0, 4), (94, 0, 0, 0, 0), (95, 0, 0, 0, 0), (96, 4, 6, 1, 0), (99, 3, 0, 0, 77), (102, 2, 0, 0, 0), (103, 9, 6, 0, 0), (105, 1, 6, 0, 0), (107, 2, 0, 10, 0), (109, 16, 3, 0, 24), (112, 1, 0, 2, 0), (113, 1, 1, 2, 0), (114, 1, 4, 0, 0), (116, 1, 6, 0, 0), (118, 8, 148, 3, 13), (121, 1, 2, 2, 0), (122, 1, 5, 0, 0), (124, 1, 6, 0, 0), (126, 8, 148, 3, 13), (129, 8, 85, 3, 4), (132, 4, 6, 1, 0), (135, 3, 0, 0, 113), (138, 4, 3, 1, 0), (141, 3, 0, 0, 25), (144, 2, 0, 1, 0), (145, 13, 0, 1, 0)]
set_option maxRecDepth 100000 in
def e_p87 : List e_E := [(0, 1, 0, 2, 0), (1, 1, 1, 2, 0), (2, 1, 2, 2, 0), (3, 2, 0, 4294967295, 0), (4, 8, 91, 4, 4), (7, 1, 1, 2, 0), (8, 11, 8, 0, 0), (11, 1, 2, 2, 0), (12, 11, 8, 0, 0), (15, 16, 1, 0, 12), (18, 1, 0, 2, 0), (19, 11, 3, 4, 0), (22, 2, 0, 4294967295, 0), (23, 16, 1, 0, 4), (26, 2, 0, 1, 0), (27, 3, 0, 0, 2), (30, 0, 0, 0, 0), (31, 13, 0, 1, 0)]
set_option maxRecDepth 100000 in
def e_p88 : List e_E := [(0, 1, 0, 2, 0), (1, 11, 3, 7, 0), (4, 1, 1, 0, 0), (5, 8, 120, 2, 9), (8, 9, 4, 0, 0), (10, 1, 0, 2, 0), (11, 11, 3, 8, 0), (14, 11, 8, 9, 0), (17, 10, 0, 0, 24), (20, 0, 0, 0, 0), (22, 0, 0, 0, 0), (23, 0, 0, 0, 0), (26, 0, 0, 0, 0), (27, 0, 0, 0, 0), (28, 0, 0, 0, 0), (31, 0, 0, 0, 0), (34, 0, 0, 0, 0), (37, 0, 0, 0, 0), (38, 0, 0, 0, 0), (41, 0, 0, 0, 0), (42, 0, 0, 0, 0), (43, 2, 0, 1, 0), (44, 9, 5, 0, 0), (46, 2, 0, 0, 0), (47, 9, 6, 0, 0), (49, 1, 5, 0, 0), (51, 10, 0, 0, 48), (54, 1, 6, 0, 0), (56, 1, 0, 2, 0), (57, 11, 3, 8, 0), (60, 11, 8, 7, 0), (63, 12, 0, 0, 0), (64, 16, 3, 0, 36), (67, 1, 2, 1, 0), (68, 1, 6, 0, 0), (70, 8, 29, 2, 0), (73, 10, 0, 0, 16), (76, 1, 4, 0, 0), (78, 1, 0, 2, 0), (79, 11, 3, 8, 0), (82, 11, 8, 7, 0), (85, 1, 6, 0, 0), (87, 18, 1, 0, 0), (88, 8, 93, 2, 0), (91, 10, 0, 0, 4), (94, 2, 0, 1, 0), (95, 3, 0, 0, 2), (98, 0, 0, 0, 0), (99, 9, 5, 0, 0), (101, 4, 6, 1, 0), (104, 3, 0, 0, 51), (107, 1, 5, 0, 0), (109, 10, 1, 0, 4), (112, 0, 0, 0, 0), (113, 0, 0, 0, 0), (116, 2, 0, 0, 0), (117, 13, 0, 1, 0)]
set_option maxRecDepth 100000 in
def e_p89 : List e_E := [(0, 1, 0, 2, 0), (1, 11, 3, 14, 0), (4, 1, 1, 0, 0), (5, 8, 14, 2, 0), (8, 9, 3, 0, 0), (9, 1, 0, 2, 0), (10, 11, 3, 15, 0), (13, 1, 1, 0, 0), (14, 8, 60, 2, 0), (17, 9, 4, 1, 0), (19, 1, 0, 2, 0), (20, 11, 3, 16, 0), (23, 1, 1, 0, 0), (24, 8, 60, 2, 0), (27, 9, 6, 1, 0), (29, 2, 0, 0, 0), (30, 9, 8, 0, 0), (32, 1, 8, 0, 0), (34, 2, 0, 10, 0), (36, 16, 3, 0, 158), (39, 1, 0, 2, 0), (40, 11, 3, 7, 0), (43, 1, 3, 0, 0), (44, 1, 8, 0, 0), (46, 8, 117, 3, 9), (49, 9, 9, 0, 0), (51, 1, 2, 0, 0), (52, 1, 0, 2, 0), (53, 11, 3, 5, 0), (56, 16, 2, 0, 16), (59, 1, 2, 0, 0), (60, 1, 0, 2, 0), (61, 11, 3, 5, 0), (64, 2, 0, 16, 0), (66, 17, 1, 0, 0), (67, 16, 3, 0, 4), (70, 2, 0, 1, 0), (71, 3, 0, 0, 2), (74, 0, 0, 0, 0), (75, 9, 10, 0, 0), (77, 1, 10, 0, 0), (79, 10, 0, 0, 20), (82, 1, 8, 0, 0), (84, 22, 0, 0, 0), (85, 2, 0, 4, 0), (86, 1, 2, 0, 0), (87, 1, 0, 2, 0), (88, 11, 3, 5, 0), (91, 17, 2, 0, 0), (92, 17, 3, 0, 0), (93, 27, 7, 0, 0), (94, 3, 0, 0, 2), (97, 0, 0, 0, 0), (98, 9, 11, 1, 0), (100, 1, 9, 0, 0), (102, 2, 0, 4294967295, 0), (103, 16, 0, 0, 32), (106, 0, 0, 0, 0), (107, 0, 0, 0, 0), (110, 0, 0, 0, 0), (113, 0, 0, 0, 0), (116, 0, 0, 0, 0), (117, 0, 0, 0, 0), (119, 0, 0, 0, 0), (120, 0, 0, 0, 0), (123, 0, 0, 0, 0), (125, 0, 0, 0, 0), (127, 0, 0, 0, 0), (130, 0, 0, 0, 0), (132, 0, 0, 0, 0), (134, 0, 0, 0, 0), (135, 0, 0, 0, 0), (138, 0, 0, 0, 0), (141, 1, 9, 0, 0), (143, 2, 0, 4294967295, 0), (144, 16, 0, 0, 42), (147, 0, 0, 0, 0), (148, 0, 0, 0, 0), (151, 0, 0, 0, 0), (153, 0, 0, 0, 0), (154, 0, 0, 0, 0), (156, 0, 0, 0, 0), (159, 0, 0, 0, 0), (160, 0, 0, 0, 0), (163, 0, 0, 0, 0), (164, 0, 0, 0, 0), (166, 0, 0, 0, 0), (167, 0, 0, 0, 0), (170, 0, 0, 0, 0), (172, 0, 0, 0, 0), (173, 0, 0, 0, 0), (175, 0, 0, 0, 0), (178, 0, 0, 0, 0), (179, 0, 0, 0, 0), (181, 0, 0, 0, 0), (183, 0, 0, 0, 0), (184, 0, 0, 0, 0), (187, 4, 8, 1, 0), (190, 3, 0, 0, 35), (193, 5, 0, 0, 0)]
set_option maxRecDepth 100000 in
def e_p90 : List e_E := [(0, 1, 0, 2, 0), (1, 8, 96, 1, 4), (4, 2, 0, 0, 0), (5, 9, 2, 0, 0), (6, 1, 2, 0, 0), (7, 1, 0, 2, 0), (8, 11, 3, 13, 0), (11, 16, 3, 0, 54), (14, 1, 0, 2, 0), (15, 1, 0, 2, 0), (16, 11, 3, 14, 0), (19, 1, 2, 0, 0), (20, 8, 14, 2, 0), (23, 1, 0, 2, 0), (24, 11, 3, 15, 0), (27, 1, 2, 0, 0), (28, 8, 60, 2, 0), (31, 8, 88, 3, 4), (34, 10, 0, 0, 20), (37, 0, 0, 0, 0), (38, 0, 0, 0, 0), (39, 0, 0, 0, 0), (42, 0, 0, 0, 0), (43, 0, 0, 0, 0), (46, 0, 0, 0, 0), (49, 0, 0, 0, 0), (50, 0, 0, 0, 0), (51, 0, 0, 0, 0), (54, 0, 0, 0, 0), (55, 1, 0, 2, 0), (56, 1, 2, 0, 0), (57, 1, 1, 0, 0), (58, 8, 89, 3, 4), (61, 4, 2, 1, 0), (64, 3, 0, 0, 9), (67, 5, 0, 0, 0)]
set_option maxRecDepth 100000 in
def e_p91 : List e_E := [(0, 1, 1, 2, 0), (1, 1, 0, 2, 0), (2, 11, 3, 2, 0), (5, 29, 0, 0, 12), (8, 1, 2, 2, 0), (9, 1, 0, 2, 0), (10, 11, 3, 3, 0), (13, 29, 0, 0, 4), (16, 2, 0, 1, 0), (17, 3, 0, 0, 2), (20, 2, 0, 0, 0), (21, 9, 4, 0, 0), (23, 1, 4, 0, 0), (25, 10, 0, 0, 16), (28, 1, 3, 0, 0), (29, 2, 0, 4294967295, 0), (30, 16, 0, 0, 8), (33, 0, 0, 0, 0), (34, 0, 0, 0, 0), (35, 0, 0, 0, 0), (38, 0, 0, 0, 0), (41, 5, 0, 0, 0), (42, 1, 4, 0, 0), (44, 10, 1, 0, 20), (47, 1, 0, 2, 0), (48, 1, 1, 2, 0), (49, 19, 3, 2, 3), (52, 1, 0, 2, 0), (53, 1, 2, 2, 0), (54, 19, 3, 3, 3), (57, 1, 0, 2, 0), (58, 1, 1, 2, 0), (59, 1, 2, 2, 0), (60, 8, 97, 3, 4), (63, 1, 0, 2, 0), (64, 1, 3, 0, 0), (65, 2, 0, 0, 0), (66, 8, 278, 2, 0), (69, 19, 3, 5, 0), (72, 1, 0, 2, 0), (73, 2, 1, 0, 0), (74, 19, 3, 6, 2), (77, 1, 0, 2, 0), (78, 2, 0, 4294967295, 0), (79, 19, 3, 4, 0), (82, 1, 0, 2, 0), (83, 11, 3, 7, 0), (86, 15, 0, 0, 6), (89, 1, 0, 2, 0), (90, 11, 3, 8, 0), (93, 15, 1, 0, 2), (96, 0, 0, 0, 0), (97, 1, 0, 2, 0), (98, 11, 3, 7, 0), (101, 11, 8, 0, 0), (104, 1, 0, 2, 0), (105, 11, 3, 8, 0), (108, 11, 8, 0, 0), (111, 16, 0, 0, 8), (114, 0, 0, 0, 0), (115, 0, 0, 0, 0), (116, 0, 0, 0, 0), (119, 0, 0, 0, 0), (120, 1, 0, 2, 0), (121, 8, 95, 1, 4), (124, 2, 0, 0, 0), (125, 9, 5, 0, 0), (127, 1, 0, 2, 0), (128, 11, 3, 17, 0), (131, 10, 5, 0, 24), (134, 1, 0, 2, 0), (135, 11, 3, 4, 0), (138, 2, 0, 4294967295, 0), (139, 16, 1, 0, 16), (142, 1, 5, 0, 0), (144, 2, 0, 1073741824, 0), (146, 16, 3, 0, 10), (149, 1, 0, 2, 0), (150, 1, 5, 0, 0), (152, 8, 90, 2, 4), (155, 4, 5, 1, 0), (158, 3, 0, 0, 135), (161, 5, 0, 0, 0)]
set_option maxRecDepth 100000 in
def e_p92 : List e_E := [(0, 1, 0, 2, 0), (1, 11, 3, 8, 0), (4, 11, 8, 9, 0), (7, 10, 1, 0, 4), (10, 2, 0, 1, 0), (11, 3, 0, 0, 2), (14, 0, 0, 0, 0), (15, 9, 6, 0, 0), (17, 1, 6, 0, 0), (19, 10, 0, 0, 12), (22, 1, 0, 2, 0), (23, 1, 1, 0, 0), (24, 22, 0, 0, 0), (25, 1, 2, 1, 0), (26, 8, 98, 3, 4), (29, 3, 0, 0, 2), (32, 0, 0, 0, 0), (33, 9, 7, 1, 0), (35, 1, 1, 0, 0), (36, 22, 0, 0, 0), (37, 1, 0, 2, 0), (38, 11, 3, 8, 0), (41, 11, 8, 1, 0), (44, 22, 0, 0, 0), (45, 26, 3, 0, 0), (46, 1, 2, 1, 0), (47, 26, 1, 0, 0), (48, 9, 9, 1, 0), (50, 1, 6, 0, 0), (52, 10, 0, 0, 10), (55, 1, 7, 1, 0), (57, 2, 1, 0, 0), (58, 28, 0, 0, 0), (59, 10, 1, 0, 32), (62, 0, 0, 0, 0), (65, 0, 0, 0, 0), (66, 0, 0, 0, 0), (68, 0, 0, 0, 0), (71, 0, 0, 0, 0), (72, 0, 0, 0, 0), (73, 0, 0, 0, 0), (75, 0, 0, 0, 0), (78, 0, 0, 0, 0), (79, 0, 0, 0, 0), (80, 0, 0, 0, 0), (81, 0, 0, 0, 0), (84, 0, 0, 0, 0), (85, 0, 0, 0, 0), (86, 0, 0, 0, 0), (89, 0, 0, 0, 0), (90, 1, 0, 2, 0), (91, 1, 0, 2, 0), (92, 11, 3, 18, 0), (95, 1, 0, 2, 0), (96, 11, 3, 17, 0), (99, 2, 0, 1, 0), (100, 17, 1, 0, 0), (101, 8, 72, 2, 0), (104, 19, 3, 18, 3), (107, 1, 0, 2, 0), (108, 1, 0, 2, 0), (109, 11, 3, 19, 0), (112, 1, 0, 2, 0), (113, 11, 3, 17, 0), (116, 2, 0, 1, 0), (117, 17, 1, 0, 0), (118, 8, 73, 2, 0), (121, 19, 3, 19, 3), (124, 1, 0, 2, 0), (125, 1, 0, 2, 0), (126, 11, 3, 20, 0), (129, 1, 0, 2, 0), (130, 11, 3, 17, 0), (133, 2, 0, 1, 0), (134, 17, 1, 0, 0), (135, 8, 73, 2, 0), (138, 19, 3, 20, 3), (141, 1, 0, 2, 0), (142, 11, 3, 18, 0), (145, 1, 0, 2, 0), (146, 11, 3, 17, 0), (149, 1, 1, 0, 0), (150, 8, 61, 3, 0), (153, 1, 0, 2, 0), (154, 11, 3, 19, 0), (157, 1, 0, 2, 0), (158, 11, 3, 17, 0), (161, 1, 7, 1, 0), (163, 8, 48, 3, 0), (166, 1, 0, 2, 0), (167, 11, 3, 20, 0), (170, 1, 0, 2, 0), (171, 11, 3, 17, 0), (174, 1, 4, 1, 0), (176, 8, 48, 3, 0), (179, 1, 0, 2, 0), (180, 20, 0, 0, 0), (181, 11, 3, 17, 0), (184, 2, 0, 1, 0), (185, 17, 1, 0, 0), (186, 19, 3, 17, 0), (189, 5, 0, 0, 0)]
set_option maxRecDepth 100000 in
def e_p93 : List e_E := [(0, 1, 0, 0, 0), (1, 8, 119, 1, 0), (4, 9, 2, 0, 0), (5, 1, 1, 0, 0), (6, 8, 119, 1, 0), (9, 9, 3, 0, 0), (10, 1, 0, 0, 0), (11, 8, 124, 1, 0), (14, 1, 1, 0, 0), (15, 8, 124, 1, 0), (18, 16, 1, 0, 10), (21, 1, 0, 0, 0), (22, 8, 123, 1, 0), (25, 1, 1, 0, 0), (26, 8, 123, 1, 0), (29, 16, 0, 0, 4), (32, 0, 0, 0, 0), (33, 0, 0, 0, 0), (34, 1, 0, 0, 0), (35, 8, 124, 1, 0), (38, 2, 0, 1, 0), (39, 16, 1, 0, 20), (42, 0, 0, 0, 0), (43, 0, 0, 0, 0), (44, 0, 0, 0, 0), (45, 0, 0, 0, 0), (46, 0, 0, 0, 0), (47, 0, 0, 0, 0), (50, 0, 0, 0, 0), (51, 0, 0, 0, 0), (54, 0, 0, 0, 0), (55, 0, 0, 0, 0), (58, 1, 3, 0, 0), (59, 1, 2, 0, 0), (60, 2, 0, 4294967295, 0), (61, 17, 6, 0, 0), (62, 17, 4, 0, 0), (63, 10, 1, 0, 4), (66, 2, 0, 1, 0), (67, 3, 0, 0, 2), (70, 0, 0, 0, 0), (71, 13, 0, 1, 0)]
set_option maxRecDepth 100000 in
def e_p94 : List e_E := [(0, 1, 0, 2, 0), (1, 1, 1, 2, 0), (2, 1, 2, 2, 0), (3, 2, 0, 4294967295, 0), (4, 8, 91, 4, 4), (7, 1, 0, 2, 0), (8, 11, 3, 4, 0), (11, 13, 0, 0, 0)]
set_option maxRecDepth 100000 in
def e_p95 : List e_E := [(0, 2, 0, 0, 0), (1, 9, 1, 0, 0), (2, 1, 1, 0, 0), (3, 1, 0, 2, 0), (4, 11, 3, 12, 0), (7, 16, 3, 0, 14), (10, 0, 0, 0, 0), (11, 0, 0, 0, 0), (14, 0, 0, 0, 0), (15, 0, 0, 0, 0), (16, 0, 0, 0, 0), (19, 0, 0, 0, 0), (22, 0, 0, 0, 0), (25, 1, 0, 2, 0), (26, 2, 0, 0, 0), (27, 19, 3, 12, 0), (30, 1, 0, 2, 0), (31, 2, 0, 0, 0), (32, 19, 3, 17, 0), (35, 1, 0, 2, 0), (36, 2, 0, 0, 0), (37, 1, 0, 2, 0), (38, 11, 3, 8, 0), (41, 11, 8, 9, 0), (44, 10, 0, 0, 4), (47, 0, 0, 0, 0), (48, 0, 0, 0, 0), (51, 1, 0, 2, 0), (52, 11, 3, 8, 0), (55, 11, 8, 6, 0), (58, 2, 1, 0, 0), (59, 8, 92, 4, 4), (62, 5, 0, 0, 0)]
set_option maxRecDepth 100000 in
def e_p96 : List e_E := [(0, 1, 0, 2, 0), (1, 11, 3, 14, 0), (4, 9, 1, 2, 0), (5, 1, 0, 2, 0), (6, 11, 3, 15, 0), (9, 9, 2, 2, 0), (10, 1, 0, 2, 0), (11, 11, 3, 16, 0), (14, 9, 3, 2, 0), (15, 1, 0, 2, 0), (16, 1, 0, 2, 0), (17, 11, 3, 18, 0), (20, 19, 3, 14, 3), (23, 1, 0, 2, 0), (24, 1, 0, 2, 0), (25, 11, 3, 19, 0), (28, 19, 3, 15, 3), (31, 1, 0, 2, 0), (32, 1, 0, 2, 0), (33, 11, 3, 20, 0), (36, 19, 3, 16, 3), (39, 1, 0, 2, 0), (40, 1, 0, 2, 0), (41, 11, 3, 17, 0), (44, 19, 3, 13, 0), (47, 1, 0, 2, 0), (48, 1, 1, 2, 0), (49, 19, 3, 18, 3), (52, 1, 0, 2, 0), (53, 1, 2, 2, 0), (54, 19, 3, 19, 3), (57, 1, 0, 2, 0), (58, 1, 3, 2, 0), (59, 19, 3, 20, 3), (62, 1, 0, 2, 0), (63, 2, 0, 0, 0), (64, 19, 3, 17, 0), (67, 5, 0, 0, 0)]
set_option maxRecDepth 100000 in
def e_p97 : List e_E := [(0, 1, 0, 2, 0), (1, 2, 3, 0, 0), (2, 19, 3, 7, 3), (5, 1, 0, 2, 0), (6, 2, 3, 0, 0), (7, 19, 3, 8, 3), (10, 1, 1, 2, 0), (11, 15, 0, 0, 14), (14, 1, 2, 2, 0), (15, 15, 0, 0, 10), (18, 1, 1, 2, 0), (19, 11, 8, 0, 0), (22, 1, 2, 2, 0), (23, 11, 8, 0, 0), (26, 16, 0, 0, 2), (29, 0, 0, 0, 0), (30, 1, 2, 2, 0), (31, 11, 8, 9, 0), (34, 10, 1, 0, 14), (37, 1, 0, 2, 0), (38, 1, 1, 2, 0), (39, 19, 3, 7, 3), (42, 1, 0, 2, 0), (43, 1, 2, 2, 0), (44, 19, 3, 8, 3), (47, 3, 0, 0, 112), (50, 0, 0, 0, 0), (51, 0, 0, 0, 0), (54, 0, 0, 0, 0), (57, 0, 0, 0, 0), (58, 0, 0, 0, 0), (59, 0, 0, 0, 0), (62, 0, 0, 0, 0), (65, 0, 0, 0, 0), (66, 0, 0, 0, 0), (67, 0, 0, 0, 0), (70, 0, 0, 0, 0), (73, 0, 0, 0, 0), (76, 0, 0, 0, 0), (77, 0, 0, 0, 0), (80, 0, 0, 0, 0), (81, 0, 0, 0, 0), (82, 0, 0, 0, 0), (83, 0, 0, 0, 0), (86, 0, 0, 0, 0), (87, 0, 0, 0, 0), (90, 0, 0, 0, 0), (91, 0, 0, 0, 0), (94, 0, 0, 0, 0), (95, 0, 0, 0, 0), (98, 0, 0, 0, 0), (101, 0, 0, 0, 0), (102, 0, 0, 0, 0), (103, 0, 0, 0, 0), (106, 0, 0, 0, 0), (107, 0, 0, 0, 0), (110, 0, 0, 0, 0), (111, 0, 0, 0, 0), (114, 0, 0, 0, 0), (115, 0, 0, 0, 0), (118, 0, 0, 0, 0), (121, 0, 0, 0, 0), (122, 0, 0, 0, 0), (123, 0, 0, 0, 0), (126, 0, 0, 0, 0), (127, 0, 0, 0, 0), (128, 0, 0, 0, 0), (129, 0, 0, 0, 0), (130, 0, 0, 0, 0), (133, 0, 0, 0, 0), (136, 0, 0, 0, 0), (139, 0, 0, 0, 0), (140, 0, 0, 0, 0), (141, 0, 0, 0, 0), (144, 0, 0, 0, 0), (145, 0, 0, 0, 0), (146, 0, 0, 0, 0), (147, 0, 0, 0, 0), (148, 0, 0, 0, 0), (151, 0, 0, 0, 0), (154, 0, 0, 0, 0), (157, 0, 0, 0, 0), (160, 5, 0, 0, 0)]
set_option maxRecDepth 100000 in
def e_p98 : List e_E := [(0, 1, 1, 1, 0), (1, 2, 1, 4194304, 0), (4, 28, 0, 0, 0), (5, 10, 2, 0, 4), (8, 0, 0, 0, 0), (9, 0, 0, 0, 0), (10, 1, 1, 1, 0), (11, 23, 0, 0, 0), (12, 9, 5, 0, 0), (14, 1, 0, 2, 0), (15, 1, 0, 2, 0), (16, 11, 3, 11, 0), (19, 1, 5, 0, 0), (21, 2, 0, 1, 0), (22, 17, 1, 0, 0), (23, 8, 73, 2, 0), (26, 19, 3, 11, 3), (29, 1, 0, 2, 0), (30, 1, 0, 2, 0), (31, 11, 3, 12, 0), (34, 1, 5, 0, 0), (36, 2, 0, 1, 0), (37, 17, 1, 0, 0), (38, 8, 278, 2, 0), (41, 19, 3, 12, 0), (44, 1, 3, 1, 0), (45, 1, 0, 2, 0), (46, 11, 3, 11, 0), (49, 1, 5, 0, 0), (51, 8, 60, 2, 0), (54, 2, 1, 18446744073709551615, 0), (57, 26, 6, 0, 0), (58, 26, 4, 0, 0), (59, 9, 6, 1, 0), (61, 1, 0, 2, 0), (62, 11, 3, 11, 0), (65, 1, 5, 0, 0), (67, 1, 0, 2, 0), (68, 11, 3, 11, 0), (71, 1, 5, 0, 0), (73, 8, 60, 2, 0), (76, 1, 3, 1, 0), (77, 26, 5, 0, 0), (78, 8, 48, 3, 0), (81, 1, 6, 1, 0), (83, 13, 1, 0, 0)]
set_option maxRecDepth 100000 in
def e_p99 : List e_E := [(0, 1, 0, 2, 0), (1, 25, 0, 0, 0), (4, 1, 0, 2, 0), (5, 7, 10, 7, 0), (8, 20, 0, 0, 0), (9, 8, 133, 1, 11), (12, 19, 4, 0, 3), (15, 1, 0, 2, 0), (16, 2, 0, 2, 0), (17, 14, 1, 0, 0), (19, 19, 4, 1, 3), (22, 1, 0, 2, 0), (23, 2, 0, 64, 0), (25, 14, 3, 0, 0), (27, 19, 4, 2, 3), (30, 1, 0, 2, 0), (31, 2, 0, 64, 0), (33, 14, 3, 0, 0), (35, 19, 4, 3, 3), (38, 1, 0, 2, 0), (39, 2, 0, 6, 0), (41, 14, 12, 0, 0), (44, 19, 4, 4, 3), (47, 1, 0, 2, 0), (48, 2, 0, 256, 0), (51, 14, 12, 0, 0), (54, 19, 4, 5, 3), (57, 1, 0, 2, 0), (58, 2, 0, 64, 0), (60, 14, 1, 0, 0), (62, 19, 4, 6, 3), (65, 1, 0, 2, 0), (66, 2, 0, 64, 0), (68, 14, 1, 0, 0), (70, 19, 4, 7, 3), (73, 1, 0, 2, 0), (74, 2, 0, 640, 0), (77, 14, 3, 0, 0), (79, 19, 4, 8, 3), (82, 2, 0, 0, 0), (83, 9, 1, 0, 0), (84, 1, 1, 0, 0), (85, 2, 0, 6, 0), (87, 16, 3, 0, 16), (90, 1, 0, 2, 0), (91, 11, 4, 4, 0), (94, 1, 1, 0, 0), (95, 1, 1, 0, 0), (96, 8, 118, 1, 0), (99, 43, 12, 0, 0), (100, 4, 1, 1, 0), (103, 3, 0, 0, 83), (106, 5, 0, 0, 0)]
set_option maxRecDepth 100000 in
def e_p100 : List e_E := [(0, 1, 1, 2, 0), (1, 11, 12, 5, 0), (4, 10, 0, 0, 2), (7, 5, 0, 0, 0), (8, 1, 1, 2, 0), (9, 2, 0, 1, 0), (10, 19, 12, 5, 1), (13, 2, 0, 1, 0), (14, 9, 2, 0, 0), (15, 2, 0, 0, 0), (16, 9, 3, 0, 0), (17, 1, 3, 0, 0), (18, 2, 0, 6, 0), (20, 16, 3, 0, 92), (23, 1, 1, 2, 0), (24, 11, 12, 2, 0), (27, 1, 3, 0, 0), (28, 8, 28, 2, 0), (31, 9, 4, 0, 0), (33, 1, 4, 0, 0), (35, 10, 0, 0, 10), (38, 0, 0, 0, 0), (39, 0, 0, 0, 0), (40, 0, 0, 0, 0), (41, 0, 0, 0, 0), (44, 0, 0, 0, 0), (47, 1, 0, 2, 0), (48, 11, 4, 4, 0), (51, 1, 3, 0, 0), (52, 18, 12, 0, 0), (53, 9, 5, 2, 0), (55, 1, 1, 2, 0), (56, 1, 3, 0, 0), (57, 1, 5, 2, 0), (59, 8, 151, 3, 13), (62, 1, 5, 2, 0), (64, 15, 1, 0, 42), (67, 0, 0, 0, 0), (68, 0, 0, 0, 0), (71, 0, 0, 0, 0), (72, 0, 0, 0, 0), (73, 0, 0, 0, 0), (74, 0, 0, 0, 0), (77, 0, 0, 0, 0), (78, 0, 0, 0, 0), (79, 0, 0, 0, 0), (82, 0, 0, 0, 0), (83, 0, 0, 0, 0), (86, 0, 0, 0, 0), (87, 0, 0, 0, 0), (88, 0, 0, 0, 0), (91, 0, 0, 0, 0), (94, 0, 0, 0, 0), (95, 0, 0, 0, 0), (98, 0, 0, 0, 0), (99, 0, 0, 0, 0), (100, 0, 0, 0, 0), (103, 0, 0, 0, 0), (106, 4, 3, 1, 0), (109, 3, 0, 0, 23), (112, 1, 2, 0, 0), (113, 10, 0, 0, 18), (116, 1, 1, 2, 0), (117, 7, 2, 3, 0), (120, 20, 0, 0, 0), (121, 1, 1, 2, 0), (122, 11, 12, 2, 0), (125, 1, 1, 2, 0), (126, 11, 12, 4, 0), (129, 8, 74, 3, 3), (132, 19, 12, 6, 3), (135, 5, 0, 0, 0)]
set_option maxRecDepth 100000 in
def e_p101 : List e_E := [(0, 1, 0, 2, 0), (1, 25, 0, 0, 0), (4, 1, 0, 2, 0), (5, 7, 10, 7, 0), (8, 20, 0, 0, 0), (9, 8, 133, 1, 11), (12, 19, 5, 0, 3), (15, 1, 0, 2, 0), (16, 2, 0, 43, 0), (18, 14, 1, 0, 0), (20, 19, 5, 1, 3), (23, 1, 0, 2, 0), (24, 2, 0, 43, 0), (26, 14, 1, 0, 0), (28, 19, 5, 2, 3), (31, 1, 0, 2, 0), (32, 2, 0, 36, 0), (34, 14, 1, 0, 0), (36, 19, 5, 3, 3), (39, 5, 0, 0, 0)]
set_option maxRecDepth 100000 in
def e_p102 : List e_E := [(0, 1, 0, 2, 0), (1, 1, 1, 2, 0), (2, 1, 2, 0, 0), (3, 8, 75, 2, 3), (6, 19, 5, 7, 3), (9, 1, 0, 2, 0), (10, 11, 5, 7, 0), (13, 15, 0, 0, 6), (16, 1, 0, 2, 0), (17, 11, 5, 7, 0), (20, 13, 2, 0, 0), (21, 1, 0, 2, 0), (22, 7, 6, 7, 0), (25, 20, 0, 0, 0), (26, 8, 106, 1, 7), (29, 19, 5, 7, 3), (32, 1, 0, 2, 0), (33, 1, 1, 2, 0), (34, 19, 5, 4, 3), (37, 1, 0, 2, 0), (38, 1, 2, 0, 0), (39, 19, 5, 5, 0), (42, 1, 0, 2, 0), (43, 2, 0, 0, 0), (44, 19, 5, 9, 1), (47, 1, 0, 2, 0), (48, 1, 0, 2, 0), (49, 8, 105, 1, 6), (52, 19, 5, 6, 0), (55, 1, 0, 2, 0), (56, 11, 5, 2, 0), (59, 2, 0, 0, 0), (60, 8, 286, 2, 0), (63, 1, 0, 2, 0), (64, 11, 5, 0, 0), (67, 1, 0, 2, 0), (68, 11, 5, 6, 0), (71, 1, 0, 2, 0), (72, 11, 5, 6, 0), (75, 2, 0, 1, 0), (76, 17, 1, 0, 0), (77, 2, 0, 600, 0), (80, 8, 139, 4, 11), (83, 1, 0, 2, 0), (84, 11, 5, 0, 0), (87, 1, 0, 2, 0), (88, 11, 5, 2, 0), (91, 8, 138, 2, 11), (94, 21, 0, 0, 0), (95, 2, 0, 0, 0), (96, 9, 3, 0, 0), (97, 1, 3, 0, 0), (98, 1, 0, 2, 0), (99, 11, 5, 0, 0), (102, 11, 10, 3, 0), (105, 16, 3, 0, 26), (108, 1, 3, 0, 0), (109, 2, 0, 600, 0), (112, 16, 3, 0, 20), (115, 1, 0, 2, 0), (116, 11, 5, 0, 0), (119, 1, 3, 0, 0), (120, 1, 0, 2, 0), (121, 11, 5, 1, 0), (124, 8, 136, 3, 11), (127, 1, 0, 2, 0), (128, 8, 104, 1, 6), (131, 4, 3, 1, 0), (134, 3, 0, 0, 103), (137, 1, 0, 2, 0), (138, 11, 5, 7, 0), (141, 1, 0, 2, 0), (142, 11, 5, 9, 0), (145, 10, 0, 0, 4), (148, 0, 0, 0, 0), (149, 0, 0, 0, 0), (152, 1, 0, 2, 0), (153, 11, 5, 0, 0), (156, 11, 10, 3, 0), (159, 19, 6, 0, 0), (162, 1, 1, 2, 0), (163, 1, 2, 0, 0), (164, 1, 0, 2, 0), (165, 11, 5, 7, 0), (168, 8, 77, 3, 3), (171, 1, 0, 2, 0), (172, 11, 5, 7, 0), (175, 13, 2, 0, 0)]
set_option maxRecDepth 100000 in
def e_p103 : List e_E := [(0, 2, 0, 0, 0), (1, 9, 1, 0, 0), (2, 2, 0, 6, 0), (4, 9, 2, 0, 0), (5, 1, 2, 0, 0), (6, 1, 0, 2, 0), (7, 11, 5, 6, 0), (10, 16, 3, 0, 26), (13, 0, 0, 0, 0), (14, 0, 0, 0, 0), (17, 0, 0, 0, 0), (18, 0, 0, 0, 0), (21, 0, 0, 0, 0), (22, 0, 0, 0, 0), (25, 0, 0, 0, 0), (28, 0, 0, 0, 0), (29, 0, 0, 0, 0), (32, 0, 0, 0, 0), (33, 0, 0, 0, 0), (34, 0, 0, 0, 0), (37, 0, 0, 0, 0), (40, 1, 1, 0, 0), (41, 13, 0, 1, 0)]
set_option maxRecDepth 100000 in
def e_p104 : List e_E := [(0, 1, 0, 2, 0), (1, 11, 5, 1, 0), (4, 1, 0, 2, 0), (5, 11, 5, 6, 0), (8, 8, 14, 2, 0), (11, 9, 1, 0, 0), (12, 1, 0, 2, 0), (13, 2, 0, 0, 0), (14, 19, 5, 8, 1), (17, 2, 0, 0, 0), (18, 9, 2, 0, 0), (19, 1, 2, 0, 0), (20, 2, 0, 6, 0), (22, 16, 3, 0, 50), (25, 1, 0, 2, 0), (26, 11, 5, 4, 0), (29, 1, 2, 0, 0), (30, 1, 0, 2, 0), (31, 11, 5, 1, 0), (34, 1, 2, 0, 0), (35, 8, 14, 2, 0), (38, 8, 82, 3, 3), (41, 9, 3, 0, 0), (42, 1, 3, 0, 0), (43, 2, 0, 1, 0), (44, 16, 1, 0, 8), (47, 0, 0, 0, 0), (48, 0, 0, 0, 0), (49, 0, 0, 0, 0), (52, 0, 0, 0, 0), (55, 1, 3, 0, 0), (56, 2, 0, 2, 0), (57, 16, 1, 0, 8), (60, 0, 0, 0, 0), (61, 0, 0, 0, 0), (62, 0, 0, 0, 0), (63, 0, 0, 0, 0), (66, 4, 2, 1, 0), (69, 3, 0, 0, 23), (72, 1, 0, 2, 0), (73, 11, 5, 4, 0), (76, 1, 0, 2, 0), (77, 11, 5, 1, 0), (80, 8, 76, 2, 3), (83, 10, 0, 0, 34), (86, 1, 0, 2, 0), (87, 11, 5, 7, 0), (90, 1, 0, 2, 0), (91, 11, 5, 7, 0), (94, 11, 6, 3, 0), (97, 2, 0, 4294967295, 0), (98, 16, 1, 0, 10), (101, 1, 0, 2, 0), (102, 8, 103, 1, 6), (105, 10, 0, 0, 4), (108, 0, 0, 0, 0), (109, 0, 0, 0, 0), (112, 1, 0, 2, 0), (113, 11, 5, 7, 0), (116, 11, 6, 3, 0), (119, 19, 6, 3, 0), (122, 3, 0, 0, 28), (125, 0, 0, 0, 0), (126, 0, 0, 0, 0), (129, 0, 0, 0, 0), (132, 0, 0, 0, 0), (133, 0, 0, 0, 0), (136, 0, 0, 0, 0), (139, 0, 0, 0, 0), (140, 0, 0, 0, 0), (143, 0, 0, 0, 0), (144, 0, 0, 0, 0), (147, 0, 0, 0, 0), (148, 0, 0, 0, 0), (151, 0, 0, 0, 0), (152, 0, 0, 0, 0), (155, 5, 0, 0, 0)]
set_option maxRecDepth 100000 in
def e_p105 : List e_E := [(0, 2, 0, 6, 0), (2, 9, 1, 0, 0), (3, 2, 0, 0, 0), (4, 9, 2, 0, 0), (5, 1, 2, 0, 0), (6, 2, 0, 6, 0), (8, 16, 3, 0, 70), (11, 2, 0, 0, 0), (12, 9, 3, 0, 0), (13, 1, 3, 0, 0), (14, 2, 0, 6, 0), (16, 16, 3, 0, 56), (19, 1, 0, 2, 0), (20, 11, 5, 4, 0), (23, 1, 2, 0, 0), (24, 8, 80, 2, 3), (27, 1, 3, 0, 0), (28, 8, 28, 2, 0), (31, 9, 4, 0, 0), (33, 1, 0, 2, 0), (34, 11, 5, 3, 0), (37, 1, 2, 0, 0), (38, 1, 3, 0, 0), (39, 8, 51, 2, 0), (42, 1, 4, 0, 0), (44, 10, 0, 0, 4), (47, 0, 0, 0, 0), (48, 0, 0, 0, 0), (51, 2, 0, 4294967295, 0), (52, 8, 61, 3, 0), (55, 1, 1, 0, 0), (56, 1, 4, 0, 0), (58, 10, 0, 0, 4), (61, 0, 0, 0, 0), (62, 0, 0, 0, 0), (65, 2, 0, 0, 0), (66, 17, 1, 0, 0), (67, 9, 1, 0, 0), (68, 4, 3, 1, 0), (71, 3, 0, 0, 19), (74, 4, 2, 1, 0), (77, 3, 0, 0, 9), (80, 1, 1, 0, 0), (81, 13, 0, 0, 0)]
set_option maxRecDepth 100000 in
def e_p106 : List e_E := [(0, 1, 0, 2, 0), (1, 25, 0, 0, 0), (4, 1, 0, 2, 0), (5, 2, 0, 4294967295, 0), (6, 19, 6, 1, 0), (9, 1, 0, 2, 0), (10, 2, 0, 4294967295, 0), (11, 19, 6, 2, 0), (14, 1, 0, 2, 0), (15, 2, 0, 4294967295, 0), (16, 19, 6, 3, 0), (19, 1, 0, 2, 0), (20, 2, 0, 6, 0), (22, 14, 1, 0, 0), (24, 19, 6, 5, 3), (27, 5, 0, 0, 0)]
set_option maxRecDepth 100000 in
def e_p107 : List e_E := [(0, 1, 0, 2, 0), (1, 11, 6, 0, 0), (4, 2, 0, 4294967295, 0), (5, 16, 0, 0, 28), (8, 1, 0, 2, 0), (9, 11, 6, 1, 0), (12, 2, 0, 4294967295, 0), (13, 16, 1, 0, 16), (16, 1, 0, 2, 0), (17, 11, 6, 2, 0), (20, 2, 0, 4294967295, 0), (21, 16, 1, 0, 8), (24, 1, 0, 2, 0), (25, 11, 6, 3, 0), (28, 2, 0, 4294967295, 0), (29, 16, 0, 0, 4), (32, 0, 0, 0, 0), (33, 0, 0, 0, 0), (36, 2, 0, 0, 0), (37, 13, 0, 1, 0)]
set_option maxRecDepth 100000 in
def e_p108 : List e_E := [(0, 1, 0, 2, 0), (1, 25, 0, 0, 0), (4, 1, 0, 2, 0), (5, 2, 0, 4, 0), (6, 14, 16, 0, 0), (9, 19, 7, 0, 3), (12, 1, 0, 2, 0), (13, 2, 0, 8, 0), (15, 14, 12, 0, 0), (18, 19, 7, 1, 3), (21, 1, 0, 2, 0), (22, 2, 0, 6, 0), (24, 14, 1, 0, 0), (26, 19, 7, 4, 3), (29, 1, 0, 2, 0), (30, 2, 0, 36, 0), (32, 14, 1, 0, 0), (34, 19, 7, 5, 3), (37, 1, 0, 2, 0), (38, 2, 0, 6, 0), (40, 14, 1, 0, 0), (42, 19, 7, 7, 3), (45, 1, 0, 2, 0), (46, 2, 0, 4294967295, 0), (47, 19, 7, 9, 0), (50, 8, 150, 0, 0), (53, 9, 1, 2, 0), (54, 2, 0, 0, 0), (55, 8, 118, 1, 0), (58, 9, 2, 2, 0), (59, 2, 0, 0, 0), (60, 9, 3, 0, 0), (61, 1, 3, 0, 0), (62, 2, 0, 4, 0), (63, 16, 3, 0, 14), (66, 1, 0, 2, 0), (67, 11, 7, 0, 0), (70, 1, 3, 0, 0), (71, 1, 1, 2, 0), (72, 43, 16, 0, 0), (73, 4, 3, 1, 0), (76, 3, 0, 0, 65), (79, 2, 0, 0, 0), (80, 9, 3, 0, 0), (81, 1, 3, 0, 0), (82, 2, 0, 8, 0), (84, 16, 3, 0, 14), (87, 1, 0, 2, 0), (88, 11, 7, 1, 0), (91, 1, 3, 0, 0), (92, 1, 2, 2, 0), (93, 43, 12, 0, 0), (94, 4, 3, 1, 0), (97, 3, 0, 0, 89), (100, 5, 0, 0, 0)]
set_option maxRecDepth 100000 in
def e_p109 : List e_E := [(0, 1, 0, 2, 0), (1, 1, 2, 0, 0), (2, 19, 7, 3, 0), (5, 1, 0, 2, 0), (6, 2, 0, 0, 0), (7, 19, 7, 6, 0), (10, 1, 0, 2, 0), (11, 11, 7, 5, 0), (14, 2, 0, 0, 0), (15, 8, 286, 2, 0), (18, 1, 0, 2, 0), (19, 1, 1, 2, 0), (20, 8, 110, 2, 8), (23, 5, 0, 0, 0)]
set_option maxRecDepth 100000 in
def e_p110 : List e_E := [(0, 1, 0, 2, 0), (1, 1, 1, 2, 0), (2, 19, 7, 2, 3), (5, 1, 0, 2, 0), (6, 11, 7, 4, 0), (9, 2, 0, 0, 0), (10, 8, 286, 2, 0), (13, 1, 0, 2, 0), (14, 11, 7, 7, 0), (17, 2, 0, 0, 0), (18, 8, 286, 2, 0), (21, 1, 0, 2, 0), (22, 2, 0, 0, 0), (23, 19, 7, 8, 0), (26, 1, 0, 2, 0), (27, 2, 0, 4294967295, 0), (28, 19, 7, 9, 0), (31, 5, 0, 0, 0)]
set_option maxRecDepth 100000 in
def e_p111 : List e_E := [(0, 2, 0, 0, 0), (1, 9, 2, 0, 0), (2, 1, 2, 0, 0), (3, 2, 0, 4, 0), (4, 16, 3, 0, 20), (7, 1, 0, 2, 0), (8, 11, 7, 0, 0), (11, 1, 2, 0, 0), (12, 1, 1, 2, 0), (13, 11, 7, 0, 0), (16, 1, 2, 0, 0), (17, 18, 16, 0, 0), (18, 43, 16, 0, 0), (19, 4, 2, 1, 0), (22, 3, 0, 0, 5), (25, 2, 0, 0, 0), (26, 9, 2, 0, 0), (27, 1, 2, 0, 0), (28, 2, 0, 8, 0), (30, 16, 3, 0, 20), (33, 1, 0, 2, 0), (34, 11, 7, 1, 0), (37, 1, 2, 0, 0), (38, 1, 1, 2, 0), (39, 11, 7, 1, 0), (42, 1, 2, 0, 0), (43, 18, 12, 0, 0), (44, 43, 12, 0, 0), (45, 4, 2, 1, 0), (48, 3, 0, 0, 35), (51, 1, 0, 2, 0), (52, 1, 1, 2, 0), (53, 11, 7, 2, 0), (56, 19, 7, 2, 3), (59, 1, 0, 2, 0), (60, 1, 1, 2, 0), (61, 11, 7, 3, 0), (64, 19, 7, 3, 0), (67, 1, 1, 2, 0), (68, 11, 7, 4, 0), (71, 2, 0, 0, 0), (72, 1, 0, 2, 0), (73, 11, 7, 4, 0), (76, 2, 0, 0, 0), (77, 2, 0, 6, 0), (79, 33, 0, 0, 0), (82, 1, 1, 2, 0), (83, 11, 7, 5, 0), (86, 2, 0, 0, 0), (87, 1, 0, 2, 0), (88, 11, 7, 5, 0), (91, 2, 0, 0, 0), (92, 2, 0, 36, 0), (94, 33, 0, 0, 0), (97, 1, 0, 2, 0), (98, 1, 1, 2, 0), (99, 11, 7, 6, 0), (102, 19, 7, 6, 0), (105, 1, 1, 2, 0), (106, 11, 7, 7, 0), (109, 2, 0, 0, 0), (110, 1, 0, 2, 0), (111, 11, 7, 7, 0), (114, 2, 0, 0, 0), (115, 2, 0, 6, 0), (117, 33, 0, 0, 0), (120, 1, 0, 2, 0), (121, 1, 1, 2, 0), (122, 11, 7, 8, 0), (125, 19, 7, 8, 0), (128, 1, 0, 2, 0), (129, 1, 1, 2, 0), (130, 11, 7, 9, 0), (133, 19, 7, 9, 0), (136, 5, 0, 0, 0)]
set_option maxRecDepth 100000 in
def e_p112 : List e_E := [(0, 1, 1, 0, 0), (1, 10, 2, 0, 16), (4, 1, 1, 0, 0), (5, 2, 0, 8, 0), (7, 16, 3, 0, 10), (10, 1, 0, 2, 0), (11, 11, 7, 1, 0), (14, 1, 1, 0, 0), (15, 1, 2, 2, 0), (16, 43, 12, 0, 0), (17, 5, 0, 0, 0)]
set_option maxRecDepth 100000 in
def e_p113 : List e_E := [(0, 1, 0, 2, 0), (1, 11, 7, 1, 0), (4, 1, 1, 0, 0), (5, 10, 2, 0, 10), (8, 1, 1, 0, 0), (9, 2, 0, 8, 0), (11, 16, 3, 0, 4), (14, 1, 1, 0, 0), (15, 3, 0, 0, 2), (18, 0, 0, 0, 0), (19, 18, 12, 0, 0), (20, 13, 2, 0, 0)]
set_option maxRecDepth 100000 in
def e_p114 : List e_E := [(0, 2, 0, 0, 0), (1, 9, 1, 0, 0), (2, 2, 0, 0, 0), (3, 9, 2, 0, 0), (4, 1, 2, 0, 0), (5, 2, 0, 4, 0), (6, 16, 3, 0, 18), (9, 1, 1, 0, 0), (10, 1, 0, 2, 0), (11, 1, 2, 0, 0), (12, 8, 115, 2, 8), (15, 11, 12, 0, 0), (18, 17, 1, 0, 0), (19, 9, 1, 0, 0), (20, 4, 2, 1, 0), (23, 3, 0, 0, 9), (26, 1, 1, 0, 0), (27, 13, 0, 0, 0)]
set_option maxRecDepth 100000 in
def e_p115 : List e_E := [(0, 1, 0, 2, 0), (1, 11, 7, 0, 0), (4, 1, 1, 0, 0), (5, 10, 2, 0, 10), (8, 1, 1, 0, 0), (9, 2, 0, 4, 0), (10, 16, 3, 0, 4), (13, 1, 1, 0, 0), (14, 3, 0, 0, 2), (17, 0, 0, 0, 0), (18, 18, 16, 0, 0), (19, 13, 2, 0, 0)]
set_option maxRecDepth 100000 in
def e_p116 : List e_E := [(0, 1, 0, 2, 0), (1, 25, 0, 0, 0), (4, 1, 0, 2, 0), (5, 2, 0, 1, 0), (6, 19, 8, 12, 1), (9, 1, 0, 2, 0), (10, 1, 1, 0, 0), (11, 19, 8, 0, 0), (14, 1, 0, 2, 0), (15, 1, 3, 0, 0), (16, 19, 8, 1, 0), (19, 1, 0, 2, 0), (20, 1, 2, 0, 0), (21, 19, 8, 2, 0), (24, 1, 0, 2, 0), (25, 1, 4, 2, 0), (27, 19, 8, 5, 3), (30, 1, 0, 2, 0), (31, 1, 5, 1, 0), (33, 19, 8, 6, 2), (36, 1, 0, 2, 0), (37, 1, 7, 2, 0), (39, 19, 8, 7, 3), (42, 1, 0, 2, 0), (43, 1, 8, 2, 0), (45, 19, 8, 8, 3), (48, 1, 0, 2, 0), (49, 2, 0, 1, 0), (50, 1, 2, 0, 0), (51, 8, 275, 1, 0), (54, 17, 1, 0, 0), (55, 19, 8, 3, 0), (58, 1, 0, 2, 0), (59, 2, 0, 0, 0), (60, 19, 8, 9, 1), (63, 1, 0, 2, 0), (64, 2, 0, 4294967295, 0), (65, 19, 8, 10, 0), (68, 2, 0, 0, 0), (69, 9, 9, 0, 0), (71, 2, 0, 0, 0), (72, 9, 10, 0, 0), (74, 1, 10, 0, 0), (76, 1, 3, 0, 0), (77, 16, 3, 0, 42), (80, 1, 4, 2, 0), (82, 1, 0, 2, 0), (83, 11, 8, 3, 0), (86, 1, 10, 0, 0), (88, 17, 3, 0, 0), (89, 8, 14, 2, 0), (92, 8, 123, 1, 0), (95, 9, 11, 0, 0), (97, 1, 9, 0, 0), (99, 1, 11, 0, 0), (101, 2, 0, 4294967295, 0), (102, 16, 1, 0, 4), (105, 2, 0, 0, 0), (106, 3, 0, 0, 6), (109, 0, 0, 0, 0), (110, 0, 0, 0, 0), (112, 0, 0, 0, 0), (113, 17, 5, 0, 0), (114, 9, 9, 0, 0), (116, 4, 10, 1, 0), (119, 3, 0, 0, 85), (122, 1, 0, 2, 0), (123, 1, 9, 0, 0), (125, 19, 8, 4, 0), (128, 5, 0, 0, 0)]
set_option maxRecDepth 100000 in
def e_p117 : List e_E := [(0, 1, 1, 0, 0), (1, 10, 2, 0, 18), (4, 1, 1, 0, 0), (5, 1, 0, 2, 0), (6, 11, 8, 1, 0), (9, 16, 3, 0, 10), (12, 1, 0, 2, 0), (13, 11, 8, 2, 0), (16, 1, 2, 0, 0), (17, 8, 28, 2, 0), (20, 10, 1, 0, 4), (23, 2, 0, 4294967295, 0), (24, 13, 0, 0, 0), (25, 0, 0, 0, 0), (26, 0, 0, 0, 0), (29, 0, 0, 0, 0), (30, 0, 0, 0, 0), (33, 0, 0, 0, 0), (34, 0, 0, 0, 0), (35, 0, 0, 0, 0), (36, 0, 0, 0, 0), (37, 0, 0, 0, 0), (38, 0, 0, 0, 0), (41, 0, 0, 0, 0), (42, 0, 0, 0, 0), (45, 0, 0, 0, 0), (46, 0, 0, 0, 0), (49, 0, 0, 0, 0)]
set_option maxRecDepth 100000 in
def e_p118 : List e_E := [(0, 2, 0, 1, 0), (1, 14, 1, 0, 0), (3, 20, 0, 0, 0), (4, 2, 0, 0, 0), (5, 2, 0, 0, 0), (6, 2, 0, 4294967295, 0), (7, 2, 0, 0, 0), (8, 8, 121, 3, 0), (11, 30, 1, 0, 0), (12, 9, 1, 2, 0), (13, 7, 8, 13, 0), (16, 20, 0, 0, 0), (17, 1, 0, 0, 0), (18, 2, 0, 0, 0), (19, 2, 0, 1, 0), (20, 1, 1, 2, 0), (21, 2, 1, 1, 0), (22, 1, 1, 2, 0), (23, 2, 0, 0, 0), (24, 14, 3, 0, 0), (26, 8, 116, 8, 9), (29, 13, 2, 0, 0)]
set_option maxRecDepth 100000 in
def e_p119 : List e_E := [(0, 1, 0, 0, 0), (1, 2, 0, 8, 0), (3, 17, 9, 0, 0), (4, 13, 0, 0, 0)]
set_option maxRecDepth 100000 in
def e_p120 : List e_E := [(0, 1, 0, 2, 0), (1, 1, 1, 0, 0), (2, 2, 0, 0, 0), (3, 8, 125, 3, 9), (6, 1, 0, 2, 0), (7, 1, 1, 0, 0), (8, 2, 0, 1, 0), (9, 8, 125, 3, 9), (12, 1, 0, 2, 0), (13, 1, 1, 0, 0), (14, 2, 0, 2, 0), (15, 8, 125, 3, 9), (18, 8, 121, 3, 0), (21, 13, 0, 0, 0)]
set_option maxRecDepth 100000 in
def e_p121 : List e_E := [(0, 1, 2, 0, 0), (1, 2, 0, 8, 0), (3, 17, 7, 0, 0), (4, 1, 1, 0, 0), (5, 2, 0, 1, 0), (6, 17, 1, 0, 0), (7, 2, 0, 4, 0), (8, 17, 7, 0, 0), (9, 17, 5, 0, 0), (10, 1, 0, 0, 0), (11, 17, 5, 0, 0), (12, 13, 0, 0, 0)]
set_option maxRecDepth 100000 in
def e_p122 : List e_E := [(0, 1, 0, 2, 0), (1, 11, 8, 4, 0), (4, 8, 42, 1, 0), (7, 13, 0, 0, 0)]
set_option maxRecDepth 100000 in
def e_p123 : List e_E := [(0, 1, 0, 0, 0), (1, 2, 0, 4, 0), (2, 17, 9, 0, 0), (3, 2, 0, 15, 0), (5, 17, 4, 0, 0), (6, 2, 0, 1, 0), (7, 17, 2, 0, 0), (8, 13, 0, 0, 0)]
set_option maxRecDepth 100000 in
def e_p124 : List e_E := [(0, 1, 0, 0, 0), (1, 2, 0, 15, 0), (3, 17, 4, 0, 0), (4, 13, 0, 0, 0)]
set_option maxRecDepth 100000 in
def e_p125 : List e_E := [(0, 1, 1, 0, 0), (1, 10, 2, 0, 24), (4, 1, 1, 0, 0), (5, 1, 0, 2, 0), (6, 11, 8, 1, 0), (9, 16, 3, 0, 16), (12, 1, 0, 2, 0), (13, 11, 8, 3, 0), (16, 1, 1, 0, 0), (17, 17, 3, 0, 0), (18, 1, 0, 2, 0), (19, 11, 8, 5, 0), (22, 12, 0, 0, 0), (23, 16, 2, 0, 4), (26, 0, 0, 0, 0), (27, 0, 0, 0, 0), (28, 1, 0, 2, 0), (29, 11, 8, 5, 0), (32, 1, 0, 2, 0), (33, 11, 8, 3, 0), (36, 1, 1, 0, 0), (37, 17, 3, 0, 0), (38, 18, 1, 0, 0), (39, 9, 3, 0, 0), (40, 1, 3, 0, 0), (41, 2, 0, 15, 0), (43, 17, 4, 0, 0), (44, 9, 4, 0, 0), (46, 1, 0, 2, 0), (47, 11, 8, 9, 0), (50, 10, 0, 0, 8), (53, 0, 0, 0, 0), (55, 0, 0, 0, 0), (58, 0, 0, 0, 0), (59, 0, 0, 0, 0), (62, 2, 0, 0, 0), (63, 9, 5, 0, 0), (65, 1, 2, 0, 0), (66, 10, 1, 0, 16), (69, 1, 5, 0, 0), (71, 10, 0, 0, 8), (74, 0, 0, 0, 0), (75, 0, 0, 0, 0), (77, 0, 0, 0, 0), (78, 0, 0, 0, 0), (81, 1, 4, 0, 0), (83, 13, 0, 0, 0), (84, 1, 2, 0, 0), (85, 2, 0, 1, 0), (86, 16, 1, 0, 26), (89, 1, 5, 0, 0), (91, 10, 0, 0, 6), (94, 0, 0, 0, 0), (95, 0, 0, 0, 0), (98, 0, 0, 0, 0), (101, 1, 3, 0, 0), (102, 2, 0, 4, 0), (103, 17, 9, 0, 0), (104, 2, 0, 15, 0), (106, 17, 4, 0, 0), (107, 2, 0, 1, 0), (108, 17, 2, 0, 0), (109, 13, 0, 0, 0), (110, 1, 3, 0, 0), (111, 2, 0, 8, 0), (113, 17, 9, 0, 0), (114, 13, 0, 0, 0)]
set_option maxRecDepth 100000 in
def e_p126 : List e_E := [(0, 1, 0, 2, 0), (1, 25, 0, 0, 0), (4, 1, 0, 2, 0), (5, 2, 0, 241, 0), (8, 14, 1, 0, 0), (10, 19, 9, 0, 3), (13, 1, 0, 2, 0), (14, 2, 0, 241, 0), (17, 14, 1, 0, 0), (19, 19, 9, 1, 3), (22, 1, 0, 2, 0), (23, 2, 0, 241, 0), (26, 14, 1, 0, 0), (28, 19, 9, 2, 3), (31, 1, 0, 2, 0), (32, 2, 0, 4294967295, 0), (33, 19, 9, 6, 0), (36, 1, 0, 2, 0), (37, 2, 0, 896, 0), (40, 14, 1, 0, 0), (42, 19, 9, 7, 3), (45, 1, 0, 2, 0), (46, 2, 0, 3, 0), (47, 14, 1, 0, 0), (49, 19, 9, 9, 3), (52, 1, 0, 2, 0), (53, 2, 0, 64, 0), (55, 14, 1, 0, 0), (57, 19, 9, 12, 3), (60, 1, 0, 2, 0), (61, 2, 0, 64, 0), (63, 14, 1, 0, 0), (65, 19, 9, 13, 3), (68, 5, 0, 0, 0)]
set_option maxRecDepth 100000 in
def e_p127 : List e_E := [(0, 1, 0, 2, 0), (1, 1, 0, 2, 0), (2, 11, 9, 3, 0), (5, 2, 0, 1, 0), (6, 17, 1, 0, 0), (7, 2, 0, 240, 0), (10, 8, 279, 2, 0), (13, 19, 9, 3, 0), (16, 1, 0, 2, 0), (17, 1, 0, 2, 0), (18, 11, 9, 0, 0), (21, 1, 0, 2, 0), (22, 11, 9, 3, 0), (25, 8, 14, 2, 0), (28, 19, 9, 4, 0), (31, 1, 0, 2, 0), (32, 1, 0, 2, 0), (33, 11, 9, 1, 0), (36, 1, 0, 2, 0), (37, 11, 9, 3, 0), (40, 8, 14, 2, 0), (43, 19, 9, 5, 0), (46, 5, 0, 0, 0)]
set_option maxRecDepth 100000 in
def e_p128 : List e_E := [(0, 1, 0, 2, 0), (1, 11, 9, 6, 0), (4, 2, 0, 4294967295, 0), (5, 16, 1, 0, 14), (8, 1, 0, 2, 0), (9, 1, 0, 2, 0), (10, 11, 9, 2, 0), (13, 1, 0, 2, 0), (14, 11, 9, 3, 0), (17, 8, 14, 2, 0), (20, 19, 9, 6, 0), (23, 2, 0, 4294967295, 0), (24, 13, 0, 0, 0)]
set_option maxRecDepth 100000 in
def e_p129 : List e_E := [(0, 2, 0, 0, 0), (1, 9, 3, 0, 0), (2, 2, 0, 0, 0), (3, 9, 4, 0, 0), (5, 1, 4, 0, 0), (7, 1, 2, 0, 0), (8, 16, 3, 0, 130), (11, 0, 0, 0, 0), (12, 0, 0, 0, 0), (15, 0, 0, 0, 0), (18, 0, 0, 0, 0), (19, 0, 0, 0, 0), (21, 0, 0, 0, 0), (24, 0, 0, 0, 0), (26, 0, 0, 0, 0), (28, 0, 0, 0, 0), (29, 0, 0, 0, 0), (30, 0, 0, 0, 0), (32, 0, 0, 0, 0), (34, 0, 0, 0, 0), (37, 0, 0, 0, 0), (40, 0, 0, 0, 0), (42, 0, 0, 0, 0), (43, 0, 0, 0, 0), (46, 0, 0, 0, 0), (47, 0, 0, 0, 0), (49, 0, 0, 0, 0), (52, 0, 0, 0, 0), (55, 0, 0, 0, 0), (58, 0, 0, 0, 0), (61, 0, 0, 0, 0), (64, 0, 0, 0, 0), (66, 0, 0, 0, 0), (68, 0, 0, 0, 0), (71, 0, 0, 0, 0), (73, 0, 0, 0, 0), (75, 0, 0, 0, 0), (78, 0, 0, 0, 0), (80, 0, 0, 0, 0), (81, 0, 0, 0, 0), (84, 0, 0, 0, 0), (85, 0, 0, 0, 0), (87, 0, 0, 0, 0), (90, 0, 0, 0, 0), (93, 0, 0, 0, 0), (94, 0, 0, 0, 0), (96, 0, 0, 0, 0), (97, 0, 0, 0, 0), (100, 0, 0, 0, 0), (101, 0, 0, 0, 0), (103, 0, 0, 0, 0), (106, 0, 0, 0, 0), (107, 0, 0, 0, 0), (110, 0, 0, 0, 0), (111, 0, 0, 0, 0), (112, 0, 0, 0, 0), (114, 0, 0, 0, 0), (116, 0, 0, 0, 0), (118, 0, 0, 0, 0), (119, 0, 0, 0, 0), (121, 0, 0, 0, 0), (124, 0, 0, 0, 0), (127, 0, 0, 0, 0), (128, 0, 0, 0, 0), (131, 0, 0, 0, 0), (132, 0, 0, 0, 0), (134, 0, 0, 0, 0), (137, 0, 0, 0, 0), (140, 0, 0, 0, 0), (143, 0, 0, 0, 0), (145, 0, 0, 0, 0), (147, 0, 0, 0, 0), (150, 1, 0, 2, 0), (151, 11, 9, 2, 0), (154, 1, 3, 0, 0), (155, 1, 2, 0, 0), (156, 8, 61, 3, 0), (159, 1, 0, 2, 0), (160, 11, 9, 0, 0), (163, 1, 3, 0, 0), (164, 2, 0, 0, 0), (165, 8, 61, 3, 0), (168, 1, 0, 2, 0), (169, 11, 9, 1, 0), (172, 1, 3, 0, 0), (173, 2, 0, 4294967295, 0), (174, 8, 61, 3, 0), (177, 5, 0, 0, 0)]
set_option maxRecDepth 100000 in
def e_p130 : List e_E := [(0, 1, 0, 2, 0), (1, 11, 9, 4, 0), (4, 2, 0, 8, 0), (6, 16, 1, 0, 12), (9, 0, 0, 0, 0), (10, 0, 0, 0, 0), (13, 0, 0, 0, 0), (14, 0, 0, 0, 0), (17, 0, 0, 0, 0), (18, 0, 0, 0, 0), (21, 2, 0, 0, 0), (22, 13, 0, 1, 0)]
set_option maxRecDepth 100000 in
def e_p131 : List e_E := [(0, 1, 0, 2, 0), (1, 1, 1, 2, 0), (2, 1, 2, 0, 0), (3, 8, 129, 3, 10), (6, 1, 0, 2, 0), (7, 2, 0, 4294967295, 0), (8, 19, 9, 3, 0), (11, 1, 0, 2, 0), (12, 2, 0, 4294967295, 0), (13, 19, 9, 6, 0), (16, 1, 0, 2, 0), (17, 2, 0, 1, 0), (18, 19, 9, 8, 0), (21, 1, 0, 2, 0), (22, 11, 9, 7, 0), (25, 2, 0, 0, 0), (26, 8, 149, 2, 0), (29, 1, 0, 2, 0), (30, 11, 9, 9, 0), (33, 2, 0, 4294967294, 0), (35, 8, 286, 2, 0), (38, 1, 0, 2, 0), (39, 2, 0, 0, 0), (40, 19, 9, 11, 0), (43, 1, 0, 2, 0), (44, 2, 0, 0, 0), (45, 19, 9, 10, 0), (48, 1, 0, 2, 0), (49, 8, 127, 1, 10), (52, 1, 0, 2, 0), (53, 2, 0, 0, 0), (54, 8, 132, 2, 10), (57, 9, 3, 0, 0), (58, 1, 3, 0, 0), (59, 2, 0, 4294967295, 0), (60, 16, 0, 0, 12), (63, 0, 0, 0, 0), (64, 0, 0, 0, 0), (67, 0, 0, 0, 0), (70, 0, 0, 0, 0), (71, 0, 0, 0, 0), (74, 0, 0, 0, 0), (75, 1, 0, 2, 0), (76, 11, 9, 6, 0), (79, 2, 0, 4294967295, 0), (80, 16, 1, 0, 14), (83, 0, 0, 0, 0), (84, 0, 0, 0, 0), (85, 0, 0, 0, 0), (88, 0, 0, 0, 0), (89, 0, 0, 0, 0), (90, 0, 0, 0, 0), (93, 0, 0, 0, 0), (96, 2, 3, 0, 0), (97, 13, 2, 0, 0)]
set_option maxRecDepth 100000 in
def e_p132 : List e_E := [(0, 1, 0, 2, 0), (1, 11, 9, 5, 0), (4, 9, 2, 0, 0), (5, 1, 0, 2, 0), (6, 11, 9, 4, 0), (9, 24, 3, 3, 2), (40, 0, 0, 0, 0), (41, 0, 0, 0, 0), (44, 0, 0, 0, 0), (45, 0, 0, 0, 0), (46, 0, 0, 0, 0), (47, 0, 0, 0, 0), (50, 0, 0, 0, 0), (51, 0, 0, 0, 0), (54, 0, 0, 0, 0), (57, 0, 0, 0, 0), (58, 0, 0, 0, 0), (61, 0, 0, 0, 0), (62, 0, 0, 0, 0), (63, 0, 0, 0, 0), (66, 0, 0, 0, 0), (67, 0, 0, 0, 0), (70, 0, 0, 0, 0), (71, 0, 0, 0, 0), (74, 0, 0, 0, 0), (75, 0, 0, 0, 0), (76, 0, 0, 0, 0), (78, 0, 0, 0, 0), (81, 0, 0, 0, 0), (82, 0, 0, 0, 0), (83, 0, 0, 0, 0), (84, 0, 0, 0, 0), (85, 0, 0, 0, 0), (88, 0, 0, 0, 0), (91, 0, 0, 0, 0), (92, 0, 0, 0, 0), (95, 0, 0, 0, 0), (96, 0, 0, 0, 0), (97, 0, 0, 0, 0), (98, 0, 0, 0, 0), (101, 0, 0, 0, 0), (102, 1, 0, 2, 0), (103, 2, 0, 40, 0), (105, 8, 130, 2, 10), (108, 10, 0, 0, 18), (111, 0, 0, 0, 0), (112, 0, 0, 0, 0), (114, 0, 0, 0, 0), (117, 0, 0, 0, 0), (118, 0, 0, 0, 0), (119, 0, 0, 0, 0), (120, 0, 0, 0, 0), (121, 0, 0, 0, 0), (124, 0, 0, 0, 0), (127, 1, 0, 2, 0), (128, 8, 128, 1, 10), (131, 13, 0, 0, 0)]
set_option maxRecDepth 100000 in
def e_p133 : List e_E := [(0, 1, 0, 2, 0), (1, 25, 0, 0, 0), (4, 1, 0, 2, 0), (5, 2, 0, 64, 0), (7, 14, 1, 0, 0), (9, 19, 10, 4, 3), (12, 1, 0, 2, 0), (13, 2, 0, 64, 0), (15, 14, 1, 0, 0), (17, 19, 10, 5, 3), (20, 5, 0, 0, 0)]
set_option maxRecDepth 100000 in
def e_p134 : List e_E := [(0, 1, 1, 0, 0), (1, 10, 2, 0, 28), (4, 1, 1, 0, 0), (5, 1, 0, 2, 0), (6, 11, 10, 3, 0), (9, 16, 3, 0, 20), (12, 1, 0, 2, 0), (13, 11, 10, 4, 0), (16, 1, 0, 2, 0), (17, 11, 10, 1, 0), (20, 1, 1, 0, 0), (21, 17, 3, 0, 0), (22, 1, 2, 0, 0), (23, 17, 1, 0, 0), (24, 8, 14, 2, 0), (27, 3, 0, 0, 2), (30, 0, 0, 0, 0), (31, 13, 0, 0, 0)]
set_option maxRecDepth 100000 in
def e_p135 : List e_E := [(0, 1, 0, 2, 0), (1, 1, 1, 0, 0), (2, 19, 10, 6, 0), (5, 1, 1, 0, 0), (6, 1, 0, 2, 0), (7, 11, 10, 5, 0), (10, 12, 0, 0, 0), (11, 16, 5, 0, 8), (14, 0, 0, 0, 0), (15, 0, 0, 0, 0), (16, 0, 0, 0, 0), (18, 0, 0, 0, 0), (21, 2, 0, 0, 0), (22, 9, 2, 0, 0), (23, 1, 2, 0, 0), (24, 1, 1, 0, 0), (25, 16, 3, 0, 24), (28, 1, 2, 0, 0), (29, 1, 0, 2, 0), (30, 11, 10, 5, 0), (33, 12, 0, 0, 0), (34, 16, 3, 0, 14), (37, 1, 0, 2, 0), (38, 11, 10, 5, 0), (41, 1, 2, 0, 0), (42, 2, 0, 0, 0), (43, 30, 1, 0, 0), (44, 4, 2, 1, 0), (47, 3, 0, 0, 29), (50, 5, 0, 0, 0)]
set_option maxRecDepth 100000 in
def e_p136 : List e_E := [(0, 2, 0, 0, 0), (1, 9, 3, 0, 0), (2, 1, 3, 0, 0), (3, 1, 0, 2, 0), (4, 11, 10, 1, 0), (7, 16, 3, 0, 18), (10, 1, 2, 2, 0), (11, 1, 3, 0, 0), (12, 1, 0, 2, 0), (13, 1, 1, 0, 0), (14, 1, 3, 0, 0), (15, 8, 134, 3, 11), (18, 8, 61, 3, 0), (21, 4, 3, 1, 0), (24, 3, 0, 0, 5), (27, 5, 0, 0, 0)]
set_option maxRecDepth 100000 in
def e_p137 : List e_E := [(0, 1, 2, 0, 0), (1, 10, 2, 0, 26), (4, 1, 2, 0, 0), (5, 1, 0, 2, 0), (6, 11, 10, 0, 0), (9, 17, 1, 0, 0), (10, 1, 1, 2, 0), (11, 12, 0, 0, 0), (12, 16, 4, 0, 12), (15, 1, 0, 2, 0), (16, 11, 10, 6, 0), (19, 1, 0, 2, 0), (20, 11, 10, 5, 0), (23, 12, 0, 0, 0), (24, 16, 5, 0, 4), (27, 0, 0, 0, 0), (28, 0, 0, 0, 0), (29, 2, 0, 17, 0), (31, 9, 3, 0, 0), (32, 2, 0, 0, 0), (33, 9, 4, 0, 0), (35, 1, 4, 0, 0), (37, 1, 0, 2, 0), (38, 11, 10, 0, 0), (41, 16, 3, 0, 24), (44, 2, 0, 31, 0), (46, 1, 3, 0, 0), (47, 17, 3, 0, 0), (48, 1, 1, 2, 0), (49, 1, 2, 0, 0), (50, 1, 4, 0, 0), (52, 17, 1, 0, 0), (53, 18, 1, 0, 0), (54, 17, 1, 0, 0), (55, 9, 3, 0, 0), (56, 4, 4, 1, 0), (59, 3, 0, 0, 43), (62, 1, 3, 0, 0), (63, 2, 0, 2654435761, 0), (65, 17, 3, 0, 0), (66, 9, 3, 0, 0), (67, 1, 3, 0, 0), (68, 1, 3, 0, 0), (69, 2, 0, 15, 0), (71, 17, 9, 0, 0), (72, 17, 6, 0, 0), (73, 9, 3, 0, 0), (74, 2, 0, 0, 0), (75, 9, 4, 0, 0), (77, 1, 4, 0, 0), (79, 1, 0, 2, 0), (80, 11, 10, 6, 0), (83, 16, 3, 0, 134), (86, 1, 3, 0, 0), (87, 1, 4, 0, 0), (89, 17, 1, 0, 0), (90, 1, 0, 2, 0), (91, 11, 10, 6, 0), (94, 2, 0, 1, 0), (95, 17, 2, 0, 0), (96, 17, 4, 0, 0), (97, 9, 5, 0, 0), (99, 1, 0, 2, 0), (100, 11, 10, 1, 0), (103, 1, 0, 2, 0), (104, 11, 10, 5, 0), (107, 1, 5, 0, 0), (109, 18, 1, 0, 0), (110, 2, 0, 1, 0), (111, 17, 2, 0, 0), (112, 17, 3, 0, 0), (113, 9, 6, 0, 0), (115, 1, 6, 0, 0), (117, 10, 2, 0, 20), (120, 0, 0, 0, 0), (122, 0, 0, 0, 0), (123, 0, 0, 0, 0), (126, 0, 0, 0, 0), (127, 0, 0, 0, 0), (128, 0, 0, 0, 0), (131, 0, 0, 0, 0), (132, 0, 0, 0, 0), (135, 0, 0, 0, 0), (136, 0, 0, 0, 0), (139, 2, 0, 0, 0), (140, 9, 7, 0, 0), (142, 2, 0, 0, 0), (143, 9, 8, 0, 0), (145, 1, 7, 0, 0), (147, 10, 0, 0, 44), (150, 0, 0, 0, 0), (152, 0, 0, 0, 0), (153, 0, 0, 0, 0), (156, 0, 0, 0, 0), (159, 0, 0, 0, 0), (160, 0, 0, 0, 0), (163, 0, 0, 0, 0), (165, 0, 0, 0, 0), (167, 0, 0, 0, 0), (168, 0, 0, 0, 0), (169, 0, 0, 0, 0), (170, 0, 0, 0, 0), (171, 0, 0, 0, 0), (173, 0, 0, 0, 0), (174, 0, 0, 0, 0), (175, 0, 0, 0, 0), (178, 0, 0, 0, 0), (179, 0, 0, 0, 0), (182, 0, 0, 0, 0), (183, 0, 0, 0, 0), (185, 0, 0, 0, 0), (188, 0, 0, 0, 0), (191, 1, 6, 0, 0), (193, 10, 2, 0, 4), (196, 0, 0, 0, 0), (198, 0, 0, 0, 0), (201, 1, 5, 0, 0), (203, 13, 0, 0, 0), (204, 0, 0, 0, 0), (207, 0, 0, 0, 0), (210, 0, 0, 0, 0), (211, 0, 0, 0, 0)]
set_option maxRecDepth 100000 in
def e_p138 : List e_E := [(0, 1, 1, 2, 0), (1, 15, 0, 0, 10), (4, 1, 1, 2, 0), (5, 12, 0, 0, 0), (6, 1, 0, 2, 0), (7, 11, 10, 1, 0), (10, 16, 3, 0, 4), (13, 0, 0, 0, 0), (14, 0, 0, 0, 0), (15, 1, 0, 2, 0), (16, 1, 1, 2, 0), (17, 2, 0, 0, 0), (18, 8, 137, 3, 11), (21, 9, 2, 0, 0), (22, 1, 0, 2, 0), (23, 11, 10, 5, 0), (26, 1, 2, 0, 0), (27, 8, 14, 2, 0), (30, 10, 5, 0, 14), (33, 0, 0, 0, 0), (34, 0, 0, 0, 0), (37, 0, 0, 0, 0), (38, 0, 0, 0, 0), (41, 0, 0, 0, 0), (42, 0, 0, 0, 0), (43, 0, 0, 0, 0), (44, 1, 0, 2, 0), (45, 11, 10, 3, 0), (48, 1, 0, 2, 0), (49, 11, 10, 2, 0), (52, 16, 3, 0, 6), (55, 1, 2, 0, 0), (56, 2, 0, 4294967295, 0), (57, 16, 1, 0, 4), (60, 0, 0, 0, 0), (61, 0, 0, 0, 0), (62, 1, 0, 2, 0), (63, 1, 0, 2, 0), (64, 11, 10, 4, 0), (67, 1, 0, 2, 0), (68, 11, 10, 1, 0), (71, 1, 0, 2, 0), (72, 11, 10, 3, 0), (75, 2, 0, 1, 0), (76, 17, 1, 0, 0), (77, 17, 3, 0, 0), (78, 8, 72, 2, 0), (81, 19, 10, 4, 3), (84, 1, 1, 2, 0), (85, 2, 0, 0, 0), (86, 1, 0, 2, 0), (87, 11, 10, 4, 0), (90, 1, 0, 2, 0), (91, 11, 10, 1, 0), (94, 1, 0, 2, 0), (95, 11, 10, 3, 0), (98, 17, 3, 0, 0), (99, 1, 0, 2, 0), (100, 11, 10, 1, 0), (103, 33, 0, 0, 0), (106, 1, 0, 2, 0), (107, 20, 0, 0, 0), (108, 11, 10, 3, 0), (111, 2, 0, 1, 0), (112, 17, 1, 0, 0), (113, 19, 10, 3, 0), (116, 1, 0, 2, 0), (117, 11, 10, 5, 0), (120, 1, 2, 0, 0), (121, 1, 0, 2, 0), (122, 11, 10, 3, 0), (125, 8, 61, 3, 0), (128, 2, 0, 2, 0), (129, 1, 0, 2, 0), (130, 11, 10, 3, 0), (133, 17, 3, 0, 0), (134, 1, 0, 2, 0), (135, 11, 10, 6, 0), (138, 16, 5, 0, 4), (141, 0, 0, 0, 0), (142, 0, 0, 0, 0), (145, 1, 0, 2, 0), (146, 11, 10, 3, 0), (149, 2, 0, 1, 0), (150, 17, 2, 0, 0), (151, 13, 0, 0, 0)]
set_option maxRecDepth 100000 in
def e_p139 : List e_E := [(0, 1, 0, 2, 0), (1, 1, 1, 0, 0), (2, 19, 10, 0, 0), (5, 1, 0, 2, 0), (6, 1, 2, 0, 0), (7, 19, 10, 1, 0), (10, 1, 0, 2, 0), (11, 1, 3, 0, 0), (12, 19, 10, 2, 0), (15, 1, 0, 2, 0), (16, 2, 0, 0, 0), (17, 19, 10, 3, 0), (20, 1, 0, 2, 0), (21, 2, 0, 64, 0), (23, 8, 135, 2, 11), (26, 5, 0, 0, 0)]
set_option maxRecDepth 100000 in
def e_p140 : List e_E := [(0, 1, 0, 2, 0), (1, 25, 0, 0, 0), (4, 1, 0, 2, 0), (5, 7, 10, 7, 0), (8, 20, 0, 0, 0), (9, 8, 133, 1, 11), (12, 19, 11, 0, 3), (15, 1, 0, 2, 0), (16, 2, 0, 6, 0), (18, 14, 1, 0, 0), (20, 19, 11, 1, 3), (23, 1, 0, 2, 0), (24, 2, 0, 6, 0), (26, 14, 1, 0, 0), (28, 19, 11, 2, 3), (31, 1, 0, 2, 0), (32, 2, 0, 64, 0), (34, 14, 3, 0, 0), (36, 19, 11, 3, 3), (39, 1, 0, 2, 0), (40, 2, 0, 64, 0), (42, 14, 3, 0, 0), (44, 19, 11, 4, 3), (47, 1, 0, 2, 0), (48, 2, 0, 560, 0), (51, 14, 1, 0, 0), (53, 19, 11, 5, 3), (56, 5, 0, 0, 0)]
set_option maxRecDepth 100000 in
def e_p141 : List e_E := [(0, 1, 0, 2, 0), (1, 1, 0, 2, 0), (2, 11, 11, 4, 0), (5, 1, 1, 0, 0), (6, 2, 0, 1, 0), (7, 17, 1, 0, 0), (8, 8, 73, 2, 0), (11, 19, 11, 4, 3), (14, 1, 1, 0, 0), (15, 10, 2, 0, 26), (18, 1, 1, 0, 0), (19, 1, 0, 2, 0), (20, 11, 11, 4, 0), (23, 12, 0, 0, 0), (24, 16, 3, 0, 16), (27, 1, 0, 2, 0), (28, 11, 11, 4, 0), (31, 1, 1, 0, 0), (32, 31, 0, 0, 0), (33, 18, 3, 0, 0), (34, 1, 2, 1, 0), (35, 26, 1, 0, 0), (36, 30, 3, 0, 0), (37, 5, 0, 0, 0)]
set_option maxRecDepth 100000 in
def e_p142 : List e_E := [(0, 1, 0, 2, 0), (1, 2, 0, 262144, 0), (3, 8, 145, 2, 12), (6, 1, 0, 2, 0), (7, 11, 11, 4, 0), (10, 2, 1, 0, 0), (11, 8, 287, 2, 0), (14, 1, 0, 2, 0), (15, 2, 0, 0, 0), (16, 2, 1, 1, 0), (17, 8, 141, 3, 12), (20, 2, 0, 1, 0), (21, 9, 3, 0, 0), (22, 1, 3, 0, 0), (23, 1, 2, 0, 0), (24, 16, 3, 0, 14), (27, 1, 0, 2, 0), (28, 8, 146, 1, 12), (31, 1, 0, 2, 0), (32, 1, 1, 2, 0), (33, 8, 143, 2, 12), (36, 4, 3, 1, 0), (39, 3, 0, 0, 27), (42, 1, 2, 0, 0), (43, 10, 1, 0, 4), (46, 2, 1, 1, 0), (47, 3, 0, 0, 6), (50, 1, 0, 2, 0), (51, 1, 1, 2, 0), (52, 8, 144, 2, 12), (55, 13, 1, 0, 0)]
set_option maxRecDepth 100000 in
def e_p143 : List e_E := [(0, 1, 0, 2, 0), (1, 11, 11, 0, 0), (4, 11, 10, 3, 0), (7, 9, 2, 0, 0), (8, 2, 0, 0, 0), (9, 9, 3, 0, 0), (10, 1, 3, 0, 0), (11, 1, 2, 0, 0), (12, 16, 3, 0, 70), (15, 1, 0, 2, 0), (16, 11, 11, 3, 0), (19, 1, 3, 0, 0), (20, 8, 60, 2, 0), (23, 9, 4, 1, 0), (25, 1, 0, 2, 0), (26, 11, 11, 0, 0), (29, 1, 3, 0, 0), (30, 1, 0, 2, 0), (31, 11, 11, 1, 0), (34, 8, 136, 3, 11), (37, 2, 0, 0, 0), (38, 9, 6, 0, 0), (40, 1, 4, 1, 0), (42, 2, 1, 0, 0), (43, 28, 0, 0, 0), (44, 10, 5, 0, 32), (47, 1, 6, 0, 0), (49, 2, 0, 6, 0), (51, 16, 3, 0, 26), (54, 1, 1, 2, 0), (55, 1, 6, 0, 0), (57, 1, 0, 2, 0), (58, 11, 11, 1, 0), (61, 8, 78, 3, 3), (64, 10, 0, 0, 10), (67, 0, 0, 0, 0), (68, 0, 0, 0, 0), (69, 0, 0, 0, 0), (71, 0, 0, 0, 0), (73, 0, 0, 0, 0), (76, 4, 6, 1, 0), (79, 3, 0, 0, 45), (82, 4, 3, 1, 0), (85, 3, 0, 0, 13), (88, 5, 0, 0, 0)]
set_option maxRecDepth 100000 in
def e_p144 : List e_E := [(0, 2, 1, 0, 0), (1, 9, 2, 1, 0), (2, 2, 0, 0, 0), (3, 9, 4, 0, 0), (5, 1, 4, 0, 0), (7, 1, 0, 2, 0), (8, 11, 11, 0, 0), (11, 11, 10, 3, 0), (14, 16, 3, 0, 82), (17, 1, 0, 2, 0), (18, 11, 11, 4, 0), (21, 1, 4, 0, 0), (23, 8, 60, 2, 0), (26, 9, 5, 1, 0), (28, 1, 0, 2, 0), (29, 11, 11, 0, 0), (32, 1, 4, 0, 0), (34, 1, 0, 2, 0), (35, 11, 11, 1, 0), (38, 8, 136, 3, 11), (41, 2, 0, 0, 0), (42, 9, 7, 0, 0), (44, 1, 5, 1, 0), (46, 2, 1, 0, 0), (47, 28, 0, 0, 0), (48, 10, 5, 0, 44), (51, 1, 7, 0, 0), (53, 2, 0, 6, 0), (55, 16, 3, 0, 38), (58, 1, 1, 2, 0), (59, 1, 7, 0, 0), (61, 1, 0, 2, 0), (62, 11, 11, 1, 0), (65, 8, 78, 3, 3), (68, 10, 0, 0, 22), (71, 0, 0, 0, 0), (72, 0, 0, 0, 0), (74, 0, 0, 0, 0), (75, 0, 0, 0, 0), (76, 0, 0, 0, 0), (78, 0, 0, 0, 0), (81, 0, 0, 0, 0), (84, 0, 0, 0, 0), (85, 0, 0, 0, 0), (86, 0, 0, 0, 0), (87, 0, 0, 0, 0), (88, 4, 7, 1, 0), (91, 3, 0, 0, 45), (94, 4, 4, 1, 0), (97, 3, 0, 0, 9), (100, 1, 2, 1, 0), (101, 13, 1, 0, 0)]
set_option maxRecDepth 100000 in
def e_p145 : List e_E := [(0, 1, 0, 2, 0), (1, 11, 11, 0, 0), (4, 2, 0, 6, 0), (6, 2, 0, 6, 0), (8, 1, 1, 0, 0), (9, 8, 139, 4, 11), (12, 1, 0, 2, 0), (13, 11, 11, 2, 0), (16, 2, 0, 0, 0), (17, 8, 286, 2, 0), (20, 1, 0, 2, 0), (21, 11, 11, 0, 0), (24, 1, 0, 2, 0), (25, 11, 11, 2, 0), (28, 8, 138, 2, 11), (31, 21, 0, 0, 0), (32, 5, 0, 0, 0)]
set_option maxRecDepth 100000 in
def e_p146 : List e_E := [(0, 1, 0, 2, 0), (1, 11, 11, 3, 0), (4, 9, 1, 2, 0), (5, 1, 0, 2, 0), (6, 1, 0, 2, 0), (7, 11, 11, 4, 0), (10, 19, 11, 3, 3), (13, 1, 0, 2, 0), (14, 1, 1, 2, 0), (15, 19, 11, 4, 3), (18, 1, 0, 2, 0), (19, 11, 11, 4, 0), (22, 2, 1, 0, 0), (23, 8, 287, 2, 0), (26, 5, 0, 0, 0)]
set_option maxRecDepth 100000 in
def e_p147 : List e_E := [(0, 1, 0, 2, 0), (1, 25, 0, 0, 0), (4, 1, 0, 2, 0), (5, 2, 0, 3, 0), (6, 14, 1, 0, 0), (8, 20, 0, 0, 0), (9, 2, 0, 0, 0), (10, 2, 0, 4294967295, 0), (11, 30, 1, 0, 0), (12, 20, 0, 0, 0), (13, 2, 0, 1, 0), (14, 2, 0, 4294967295, 0), (15, 30, 1, 0, 0), (16, 20, 0, 0, 0), (17, 2, 0, 2, 0), (18, 2, 0, 4294967295, 0), (19, 30, 1, 0, 0), (20, 19, 12, 3, 3), (23, 1, 0, 2, 0), (24, 2, 0, 6, 0), (26, 14, 12, 0, 0), (29, 19, 12, 4, 3), (32, 1, 0, 2, 0), (33, 1, 1, 0, 0), (34, 19, 12, 0, 0), (37, 1, 0, 2, 0), (38, 1, 2, 2, 0), (39, 19, 12, 1, 3), (42, 2, 0, 0, 0), (43, 9, 3, 0, 0), (44, 2, 0, 0, 0), (45, 9, 4, 0, 0), (47, 1, 4, 0, 0), (49, 1, 1, 0, 0), (50, 16, 3, 0, 70), (53, 1, 2, 2, 0), (54, 2, 0, 14, 0), (56, 1, 4, 0, 0), (58, 17, 3, 0, 0), (59, 2, 0, 0, 0), (60, 17, 1, 0, 0), (61, 8, 14, 2, 0), (64, 2, 0, 1, 0), (65, 16, 1, 0, 48), (68, 0, 0, 0, 0), (69, 0, 0, 0, 0), (70, 0, 0, 0, 0), (71, 0, 0, 0, 0), (73, 0, 0, 0, 0), (75, 0, 0, 0, 0), (76, 0, 0, 0, 0), (77, 0, 0, 0, 0), (78, 0, 0, 0, 0), (81, 0, 0, 0, 0), (82, 0, 0, 0, 0), (83, 0, 0, 0, 0), (84, 0, 0, 0, 0), (85, 0, 0, 0, 0), (86, 0, 0, 0, 0), (87, 0, 0, 0, 0), (89, 0, 0, 0, 0), (91, 0, 0, 0, 0), (92, 0, 0, 0, 0), (93, 0, 0, 0, 0), (94, 0, 0, 0, 0), (97, 0, 0, 0, 0), (98, 0, 0, 0, 0), (99, 0, 0, 0, 0), (100, 4, 4, 1, 0), (103, 3, 0, 0, 65), (106, 1, 0, 2, 0), (107, 1, 3, 0, 0), (108, 19, 12, 2, 0), (111, 5, 0, 0, 0)]
set_option maxRecDepth 100000 in
def e_p148 : List e_E := [(0, 1, 2, 0, 0), (1, 10, 2, 0, 14), (4, 1, 0, 2, 0), (5, 1, 1, 0, 0), (6, 2, 0, 4, 0), (7, 1, 2, 0, 0), (8, 17, 1, 0, 0), (9, 8, 153, 3, 13), (12, 3, 0, 0, 2), (15, 0, 0, 0, 0), (16, 13, 0, 0, 0)]
set_option maxRecDepth 100000 in
def e_p149 : List e_E := [(0, 2, 0, 0, 0), (1, 9, 2, 0, 0), (2, 1, 2, 0, 0), (3, 2, 0, 14, 0), (5, 16, 3, 0, 46), (8, 1, 2, 0, 0), (9, 10, 0, 0, 6), (12, 1, 2, 0, 0), (13, 2, 0, 3, 0), (14, 16, 1, 0, 4), (17, 2, 0, 1, 0), (18, 3, 0, 0, 2), (21, 2, 0, 0, 0), (22, 9, 3, 0, 0), (23, 1, 0, 2, 0), (24, 2, 0, 14, 0), (26, 1, 1, 0, 0), (27, 17, 3, 0, 0), (28, 1, 2, 0, 0), (29, 17, 1, 0, 0), (30, 1, 3, 0, 0), (31, 10, 0, 0, 4), (34, 2, 0, 0, 0), (35, 3, 0, 0, 2), (38, 2, 0, 4294967295, 0), (39, 8, 61, 3, 0), (42, 4, 2, 1, 0), (45, 3, 0, 0, 5), (48, 5, 0, 0, 0)]
set_option maxRecDepth 100000 in
def e_p150 : List e_E := [(0, 2, 0, 14, 0), (2, 14, 1, 0, 0), (4, 9, 0, 2, 0), (5, 1, 0, 2, 0), (6, 2, 0, 0, 0), (7, 8, 149, 2, 0), (10, 7, 12, 7, 0), (13, 20, 0, 0, 0), (14, 2, 0, 1, 0), (15, 1, 0, 2, 0), (16, 8, 147, 3, 13), (19, 13, 2, 0, 0)]
set_option maxRecDepth 100000 in
def e_p151 : List e_E := [(0, 1, 1, 0, 0), (1, 10, 2, 0, 20), (4, 1, 1, 0, 0), (5, 1, 0, 2, 0), (6, 11, 12, 4, 0), (9, 12, 0, 0, 0), (10, 16, 3, 0, 10), (13, 1, 0, 2, 0), (14, 11, 12, 4, 0), (17, 1, 1, 0, 0), (18, 1, 2, 2, 0), (19, 43, 12, 0, 0), (20, 5, 0, 0, 0)]
set_option maxRecDepth 100000 in
def e_p152 : List e_E := [(0, 1, 1, 0, 0), (1, 10, 2, 0, 20), (4, 1, 1, 0, 0), (5, 1, 0, 2, 0), (6, 11, 12, 4, 0), (9, 12, 0, 0, 0), (10, 16, 3, 0, 10), (13, 1, 0, 2, 0), (14, 11, 12, 4, 0), (17, 1, 1, 0, 0), (18, 18, 12, 0, 0), (19, 3, 0, 0, 2), (22, 0, 0, 0, 0), (23, 13, 2, 0, 0)]
set_option maxRecDepth 100000 in
def e_p153 : List e_E := [(0, 1, 1, 0, 0), (1, 10, 2, 0, 22), (4, 1, 1, 0, 0), (5, 1, 0, 2, 0), (6, 11, 12, 0, 0), (9, 16, 3, 0, 14), (12, 1, 2, 0, 0), (13, 10, 2, 0, 10), (16, 1, 2, 0, 0), (17, 2, 0, 14, 0), (19, 16, 3, 0, 4), (22, 2, 0, 1, 0), (23, 3, 0, 0, 2), (26, 0, 0, 0, 0), (27, 9, 3, 0, 0), (28, 1, 3, 0, 0), (29, 10, 0, 0, 34), (32, 2, 0, 14, 0), (34, 1, 0, 2, 0), (35, 11, 12, 0, 0), (38, 17, 3, 0, 0), (39, 1, 0, 2, 0), (40, 11, 12, 1, 0), (43, 12, 0, 0, 0), (44, 16, 4, 0, 18), (47, 1, 0, 2, 0), (48, 11, 12, 1, 0), (51, 2, 0, 14, 0), (53, 1, 1, 0, 0), (54, 17, 3, 0, 0), (55, 1, 2, 0, 0), (56, 17, 1, 0, 0), (57, 18, 1, 0, 0), (58, 3, 0, 0, 2), (61, 0, 0, 0, 0), (62, 13, 0, 0, 0)]
set_option maxRecDepth 100000 in
def e_p154 : List e_E := [(0, 1, 3, 2, 0), (1, 2, 0, 0, 0), (2, 1, 0, 2, 0), (3, 1, 1, 0, 0), (4, 1, 2, 0, 0), (5, 8, 2, 3, 1), (8, 0, 0, 0, 0), (9, 0, 0, 0, 0), (10, 0, 0, 0, 0), (13, 9, 4, 2, 0), (15, 2, 0, 1, 0), (16, 13, 0, 0, 0), (17, 9, 4, 2, 0), (19, 2, 0, 2, 0), (20, 13, 0, 0, 0), (21, 0, 0, 0, 0), (22, 0, 0, 0, 0)]
set_option maxRecDepth 100000 in
def e_p155 : List e_E := [(0, 1, 6, 2, 0), (2, 2, 0, 0, 0), (3, 1, 0, 2, 0), (4, 1, 1, 0, 0), (5, 1, 2, 0, 0), (6, 1, 3, 0, 0), (7, 1, 4, 0, 0), (9, 1, 5, 0, 0), (11, 8, 3, 6, 1), (14, 22, 0, 0, 0), (15, 30, 3, 0, 0), (16, 3, 0, 0, 6), (19, 0, 0, 0, 0), (21, 0, 0, 0, 0), (22, 0, 0, 0, 0), (23, 2, 0, 0, 0), (24, 13, 0, 0, 0)]
set_option maxRecDepth 100000 in
def e_p156 : List e_E := [(0, 1, 3, 2, 0), (1, 2, 0, 0, 0), (2, 1, 0, 2, 0), (3, 1, 1, 0, 0), (4, 1, 2, 0, 0), (5, 8, 6, 3, 1), (8, 10, 0, 0, 4), (11, 2, 1, 1, 0), (12, 3, 0, 0, 2), (15, 0, 0, 0, 0), (16, 30, 3, 0, 0), (17, 3, 0, 0, 6), (20, 9, 4, 2, 0), (22, 2, 0, 1, 0), (23, 13, 0, 0, 0), (24, 2, 0, 0, 0), (25, 13, 0, 0, 0)]
set_option maxRecDepth 100000 in
def e_p157 : List e_E := [(0, 1, 2, 2, 0), (1, 2, 0, 0, 0), (2, 1, 0, 2, 0), (3, 1, 1, 0, 0), (4, 8, 7, 2, 1), (7, 0, 0, 0, 0), (8, 0, 0, 0, 0), (9, 0, 0, 0, 0), (12, 9, 3, 2, 0), (13, 2, 0, 1, 0), (14, 13, 0, 0, 0), (15, 9, 3, 2, 0), (16, 2, 0, 2, 0), (17, 13, 0, 0, 0), (18, 0, 0, 0, 0), (19, 0, 0, 0, 0)]
set_option maxRecDepth 100000 in
def e_p158 : List e_E := [(0, 1, 3, 2, 0), (1, 2, 0, 0, 0), (2, 1, 0, 2, 0), (3, 1, 1, 0, 0), (4, 1, 2, 0, 0), (5, 8, 8, 3, 1), (8, 22, 0, 0, 0), (9, 30, 3, 0, 0), (10, 3, 0, 0, 12), (13, 9, 4, 2, 0), (15, 2, 0, 1, 0), (16, 13, 0, 0, 0), (17, 0, 0, 0, 0), (19, 0, 0, 0, 0), (20, 0, 0, 0, 0), (21, 2, 0, 0, 0), (22, 13, 0, 0, 0)]
set_option maxRecDepth 100000 in
def e_p159 : List e_E := [(0, 1, 2, 2, 0), (1, 2, 0, 0, 0), (2, 1, 0, 2, 0), (3, 1, 1, 0, 0), (4, 8, 9, 2, 1), (7, 22, 0, 0, 0), (8, 30, 3, 0, 0), (9, 3, 0, 0, 6), (12, 9, 3, 2, 0), (13, 2, 0, 1, 0), (14, 13, 0, 0, 0), (15, 2, 0, 0, 0), (16, 13, 0, 0, 0)]
set_option maxRecDepth 100000 in
def e_p160 : List e_E := [(0, 1, 2, 2, 0), (1, 2, 0, 0, 0), (2, 1, 0, 2, 0), (3, 1, 1, 0, 0), (4, 8, 20, 2, 1), (7, 22, 0, 0, 0), (8, 30, 3, 0, 0), (9, 3, 0, 0, 6), (12, 9, 3, 2, 0), (13, 2, 0, 1, 0), (14, 13, 0, 0, 0), (15, 2, 0, 0, 0), (16, 13, 0, 0, 0)]
set_option maxRecDepth 100000 in
def e_p161 : List e_E := [(0, 1, 2, 2, 0), (1, 2, 0, 0, 0), (2, 1, 0, 2, 0), (3, 1, 1, 0, 0), (4, 8, 25, 2, 1), (7, 22, 0, 0, 0), (8, 30, 3, 0, 0), (9, 3, 0, 0, 6), (12, 9, 3, 2, 0), (13, 2, 0, 1, 0), (14, 13, 0, 0, 0), (15, 2, 0, 0, 0), (16, 13, 0, 0, 0)]
set_option maxRecDepth 100000 in
def e_p162 : List e_E := [(0, 1, 3, 2, 0), (1, 2, 0, 0, 0), (2, 1, 0, 2, 0), (3, 1, 1, 0, 0), (4, 1, 2, 0, 0), (5, 8, 27, 3, 1), (8, 10, 0, 0, 4), (11, 0, 0, 0, 0), (12, 0, 0, 0, 0), (15, 2, 1, 0, 0), (16, 30, 3, 0, 0), (17, 3, 0, 0, 6), (20, 9, 4, 2, 0), (22, 2, 0, 1, 0), (23, 13, 0, 0, 0), (24, 2, 0, 0, 0), (25, 13, 0, 0, 0)]
set_option maxRecDepth 100000 in
def e_p163 : List e_E := [(0, 1, 2, 2, 0), (1, 2, 0, 0, 0), (2, 1, 0, 2, 0), (3, 1, 1, 0, 0), (4, 8, 30, 2, 1), (7, 0, 0, 0, 0), (8, 0, 0, 0, 0), (9, 0, 0, 0, 0), (12, 9, 3, 2, 0), (13, 2, 0, 1, 0), (14, 13, 0, 0, 0), (15, 0, 0, 0, 0), (16, 0, 0, 0, 0), (17, 0, 0, 0, 0), (18, 0, 0, 0, 0), (19, 0, 0, 0, 0), (20, 0, 0, 0, 0), (21, 0, 0, 0, 0), (22, 0, 0, 0, 0)]
set_option maxRecDepth 100000 in
def e_p164 : List e_E := [(0, 1, 2, 2, 0), (1, 2, 0, 0, 0), (2, 1, 0, 2, 0), (3, 1, 1, 0, 0), (4, 8, 31, 2, 1), (7, 22, 0, 0, 0), (8, 30, 3, 0, 0), (9, 3, 0, 0, 6), (12, 9, 3, 2, 0), (13, 2, 0, 1, 0), (14, 13, 0, 0, 0), (15, 2, 0, 0, 0), (16, 13, 0, 0, 0)]
set_option maxRecDepth 100000 in
def e_p165 : List e_E := [(0, 1, 3, 2, 0), (1, 2, 0, 0, 0), (2, 1, 0, 2, 0), (3, 1, 1, 0, 0), (4, 1, 2, 0, 0), (5, 8, 33, 3, 1), (8, 10, 0, 0, 4), (11, 2, 1, 1, 0), (12, 3, 0, 0, 2), (15, 0, 0, 0, 0), (16, 30, 3, 0, 0), (17, 3, 0, 0, 6), (20, 9, 4, 2, 0), (22, 2, 0, 1, 0), (23, 13, 0, 0, 0), (24, 2, 0, 0, 0), (25, 13, 0, 0, 0)]
set_option maxRecDepth 100000 in
def e_p166 : List e_E := [(0, 1, 1, 2, 0), (1, 2, 0, 0, 0), (2, 1, 0, 2, 0), (3, 8, 35, 1, 1), (6, 0, 0, 0, 0), (7, 0, 0, 0, 0), (8, 0, 0, 0, 0), (11, 9, 2, 2, 0), (12, 2, 0, 1, 0), (13, 13, 0, 0, 0), (14, 0, 0, 0, 0), (15, 0, 0, 0, 0)]
set_option maxRecDepth 100000 in
def e_p167 : List e_E := [(0, 1, 4, 2, 0), (2, 2, 0, 0, 0), (3, 1, 0, 2, 0), (4, 1, 1, 0, 0), (5, 1, 2, 0, 0), (6, 1, 3, 0, 0), (7, 8, 36, 4, 1), (10, 0, 0, 0, 0), (13, 0, 0, 0, 0), (14, 0, 0, 0, 0), (17, 0, 0, 0, 0), (18, 0, 0, 0, 0), (19, 0, 0, 0, 0), (22, 9, 5, 2, 0), (24, 2, 0, 1, 0), (25, 13, 0, 0, 0), (26, 9, 5, 2, 0), (28, 2, 0, 2, 0), (29, 13, 0, 0, 0), (30, 0, 0, 0, 0), (31, 0, 0, 0, 0)]
set_option maxRecDepth 100000 in
def e_p168 : List e_E := [(0, 1, 3, 2, 0), (1, 2, 0, 0, 0), (2, 1, 0, 2, 0), (3, 1, 1, 0, 0), (4, 1, 2, 0, 0), (5, 8, 40, 3, 1), (8, 0, 0, 0, 0), (9, 0, 0, 0, 0), (10, 0, 0, 0, 0), (13, 9, 4, 2, 0), (15, 2, 0, 1, 0), (16, 13, 0, 0, 0), (17, 9, 4, 2, 0), (19, 2, 0, 2, 0), (20, 13, 0, 0, 0), (21, 0, 0, 0, 0), (22, 0, 0, 0, 0)]
set_option maxRecDepth 100000 in
def e_p169 : List e_E := [(0, 1, 4, 2, 0), (2, 2, 0, 0, 0), (3, 1, 0, 2, 0), (4, 1, 1, 0, 0), (5, 1, 2, 0, 0), (6, 1, 3, 0, 0), (7, 8, 41, 4, 1), (10, 22, 0, 0, 0), (11, 30, 3, 0, 0), (12, 3, 0, 0, 12), (15, 9, 5, 2, 0), (17, 2, 0, 1, 0), (18, 13, 0, 0, 0), (19, 9, 5, 2, 0), (21, 2, 0, 2, 0), (22, 13, 0, 0, 0), (23, 2, 0, 0, 0), (24, 13, 0, 0, 0)]
set_option maxRecDepth 100000 in
def e_p170 : List e_E := [(0, 1, 4, 2, 0), (2, 2, 0, 0, 0), (3, 1, 0, 2, 0), (4, 1, 1, 0, 0), (5, 1, 2, 0, 0), (6, 1, 3, 0, 0), (7, 8, 43, 4, 1), (10, 22, 0, 0, 0), (11, 30, 3, 0, 0), (12, 3, 0, 0, 12), (15, 9, 5, 2, 0), (17, 2, 0, 1, 0), (18, 13, 0, 0, 0), (19, 0, 0, 0, 0), (21, 0, 0, 0, 0), (22, 0, 0, 0, 0), (23, 2, 0, 0, 0), (24, 13, 0, 0, 0)]
set_option maxRecDepth 100000 in
def e_p171 : List e_E := [(0, 1, 4, 2, 0), (2, 2, 0, 0, 0), (3, 1, 0, 2, 0), (4, 1, 1, 0, 0), (5, 1, 2, 0, 0), (6, 1, 3, 0, 0), (7, 8, 44, 4, 1), (10, 22, 0, 0, 0), (11, 30, 3, 0, 0), (12, 3, 0, 0, 12), (15, 9, 5, 2, 0), (17, 2, 0, 1, 0), (18, 13, 0, 0, 0), (19, 9, 5, 2, 0), (21, 2, 0, 2, 0), (22, 13, 0, 0, 0), (23, 2, 0, 0, 0), (24, 13, 0, 0, 0)]
set_option maxRecDepth 100000 in
def e_p172 : List e_E := [(0, 1, 2, 2, 0), (1, 2, 0, 0, 0), (2, 1, 0, 2, 0), (3, 1, 1, 0, 0), (4, 8, 46, 2, 1), (7, 22, 0, 0, 0), (8, 30, 3, 0, 0), (9, 3, 0, 0, 6), (12, 9, 3, 2, 0), (13, 2, 0, 1, 0), (14, 13, 0, 0, 0), (15, 2, 0, 0, 0), (16, 13, 0, 0, 0)]
set_option maxRecDepth 100000 in
def e_p173 : List e_E := [(0, 1, 2, 2, 0), (1, 2, 0, 0, 0), (2, 1, 0, 2, 0), (3, 1, 1, 0, 0), (4, 8, 47, 2, 1), (7, 0, 0, 0, 0), (8, 0, 0, 0, 0), (9, 0, 0, 0, 0), (12, 9, 3, 2, 0), (13, 2, 0, 1, 0), (14, 13, 0, 0, 0), (15, 9, 3, 2, 0), (16, 2, 0, 2, 0), (17, 13, 0, 0, 0), (18, 0, 0, 0, 0), (19, 0, 0, 0, 0)]
set_option maxRecDepth 100000 in
def e_p174 : List e_E := [(0, 1, 3, 2, 0), (1, 2, 0, 0, 0), (2, 1, 0, 2, 0), (3, 1, 1, 0, 0), (4, 1, 2, 0, 0), (5, 8, 49, 3, 1), (8, 22, 0, 0, 0), (9, 30, 3, 0, 0), (10, 3, 0, 0, 6), (13, 9, 4, 2, 0), (15, 2, 0, 1, 0), (16, 13, 0, 0, 0), (17, 2, 0, 0, 0), (18, 13, 0, 0, 0)]
set_option maxRecDepth 100000 in
def e_p175 : List e_E := [(0, 1, 4, 2, 0), (2, 2, 0, 0, 0), (3, 1, 0, 2, 0), (4, 1, 1, 0, 0), (5, 1, 2, 0, 0), (6, 1, 3, 0, 0), (7, 8, 50, 4, 1), (10, 0, 0, 0, 0), (11, 0, 0, 0, 0), (12, 0, 0, 0, 0), (15, 9, 5, 2, 0), (17, 2, 0, 1, 0), (18, 13, 0, 0, 0), (19, 9, 5, 2, 0), (21, 2, 0, 2, 0), (22, 13, 0, 0, 0), (23, 0, 0, 0, 0), (24, 0, 0, 0, 0)]
set_option maxRecDepth 100000 in
def e_p176 : List e_E := [(0, 1, 2, 2, 0), (1, 2, 0, 0, 0), (2, 1, 0, 2, 0), (3, 1, 1, 0, 0), (4, 8, 52, 2, 1), (7, 0, 0, 0, 0), (8, 0, 0, 0, 0), (9, 0, 0, 0, 0), (12, 9, 3, 2, 0), (13, 2, 0, 1, 0), (14, 13, 0, 0, 0), (15, 0, 0, 0, 0), (16, 0, 0, 0, 0)]
set_option maxRecDepth 100000 in
def e_p177 : List e_E := [(0, 1, 2, 2, 0), (1, 2, 0, 0, 0), (2, 1, 0, 2, 0), (3, 1, 1, 0, 0), (4, 8, 53, 2, 1), (7, 0, 0, 0, 0), (8, 0, 0, 0, 0), (9, 0, 0, 0, 0), (12, 9, 3, 2, 0), (13, 2, 0, 1, 0), (14, 13, 0, 0, 0), (15, 9, 3, 2, 0), (16, 2, 0, 2, 0), (17, 13, 0, 0, 0), (18, 0, 0, 0, 0), (19, 0, 0, 0, 0)]
set_option maxRecDepth 100000 in
def e_p178 : List e_E := [(0, 1, 3, 2, 0), (1, 2, 0, 0, 0), (2, 1, 0, 2, 0), (3, 1, 1, 0, 0), (4, 1, 2, 0, 0), (5, 8, 54, 3, 1), (8, 0, 0, 0, 0), (9, 0, 0, 0, 0), (10, 0, 0, 0, 0), (13, 9, 4, 2, 0), (15, 2, 0, 1, 0), (16, 13, 0, 0, 0), (17, 9, 4, 2, 0), (19, 2, 0, 2, 0), (20, 13, 0, 0, 0), (21, 0, 0, 0, 0), (23, 0, 0, 0, 0), (24, 0, 0, 0, 0), (25, 0, 0, 0, 0), (26, 0, 0, 0, 0)]
set_option maxRecDepth 100000 in
def e_p179 : List e_E := [(0, 1, 2, 2, 0), (1, 2, 0, 0, 0), (2, 1, 0, 2, 0), (3, 1, 1, 0, 0), (4, 8, 55, 2, 1), (7, 22, 0, 0, 0), (8, 30, 3, 0, 0), (9, 3, 0, 0, 6), (12, 9, 3, 2, 0), (13, 2, 0, 1, 0), (14, 13, 0, 0, 0), (15, 2, 0, 0, 0), (16, 13, 0, 0, 0)]
set_option maxRecDepth 100000 in
def e_p180 : List e_E := [(0, 1, 2, 2, 0), (1, 2, 0, 0, 0), (2, 1, 0, 2, 0), (3, 1, 1, 0, 0), (4, 8, 56, 2, 1), (7, 22, 0, 0, 0), (8, 30, 3, 0, 0), (9, 3, 0, 0, 6), (12, 9, 3, 2, 0), (13, 2, 0, 1, 0), (14, 13, 0, 0, 0), (15, 2, 0, 0, 0), (16, 13, 0, 0, 0)]
set_option maxRecDepth 100000 in
def e_p181 : List e_E := [(0, 1, 3, 2, 0), (1, 2, 0, 0, 0), (2, 1, 0, 2, 0), (3, 1, 1, 0, 0), (4, 1, 2, 0, 0), (5, 8, 57, 3, 1), (8, 30, 3, 0, 0), (9, 3, 0, 0, 12), (12, 9, 4, 2, 0), (14, 2, 0, 1, 0), (15, 13, 0, 0, 0), (16, 0, 0, 0, 0), (18, 0, 0, 0, 0), (19, 0, 0, 0, 0), (20, 2, 0, 0, 0), (21, 13, 0, 0, 0)]
set_option maxRecDepth 100000 in
def e_p182 : List e_E := [(0, 1, 3, 2, 0), (1, 2, 0, 0, 0), (2, 1, 0, 2, 0), (3, 1, 1, 0, 0), (4, 1, 2, 0, 0), (5, 8, 58, 3, 1), (8, 0, 0, 0, 0), (9, 0, 0, 0, 0), (10, 0, 0, 0, 0), (13, 9, 4, 2, 0), (15, 2, 0, 1, 0), (16, 13, 0, 0, 0), (17, 0, 0, 0, 0), (19, 0, 0, 0, 0), (20, 0, 0, 0, 0), (21, 0, 0, 0, 0), (23, 0, 0, 0, 0), (24, 0, 0, 0, 0), (25, 0, 0, 0, 0), (26, 0, 0, 0, 0)]
set_option maxRecDepth 100000 in
def e_p183 : List e_E := [(0, 1, 3, 2, 0), (1, 2, 0, 0, 0), (2, 1, 0, 2, 0), (3, 1, 1, 0, 0), (4, 1, 2, 0, 0), (5, 8, 62, 3, 1), (8, 22, 0, 0, 0), (9, 30, 3, 0, 0), (10, 3, 0, 0, 6), (13, 9, 4, 2, 0), (15, 2, 0, 1, 0), (16, 13, 0, 0, 0), (17, 2, 0, 0, 0), (18, 13, 0, 0, 0)]
set_option maxRecDepth 100000 in
def e_p184 : List e_E := [(0, 1, 4, 2, 0), (2, 2, 0, 0, 0), (3, 1, 0, 2, 0), (4, 1, 1, 0, 0), (5, 1, 2, 0, 0), (6, 1, 3, 0, 0), (7, 8, 63, 4, 1), (10, 0, 0, 0, 0), (11, 0, 0, 0, 0), (12, 0, 0, 0, 0), (15, 9, 5, 2, 0), (17, 2, 0, 1, 0), (18, 13, 0, 0, 0), (19, 9, 5, 2, 0), (21, 2, 0, 2, 0), (22, 13, 0, 0, 0), (23, 0, 0, 0, 0), (24, 0, 0, 0, 0)]
set_option maxRecDepth 100000 in
def e_p185 : List e_E := [(0, 1, 4, 2, 0), (2, 2, 0, 0, 0), (3, 1, 0, 2, 0), (4, 1, 1, 0, 0), (5, 1, 2, 0, 0), (6, 1, 3, 0, 0), (7, 8, 66, 4, 1), (10, 22, 0, 0, 0), (11, 30, 3, 0, 0), (12, 3, 0, 0, 12), (15, 9, 5, 2, 0), (17, 2, 0, 1, 0), (18, 13, 0, 0, 0), (19, 9, 5, 2, 0), (21, 2, 0, 2, 0), (22, 13, 0, 0, 0), (23, 2, 0, 0, 0), (24, 13, 0, 0, 0)]
set_option maxRecDepth 100000 in
def e_p186 : List e_E := [(0, 1, 2, 2, 0), (1, 2, 0, 0, 0), (2, 1, 0, 2, 0), (3, 1, 1, 0, 0), (4, 8, 67, 2, 1), (7, 0, 0, 0, 0), (8, 0, 0, 0, 0), (9, 0, 0, 0, 0), (12, 9, 3, 2, 0), (13, 2, 0, 1, 0), (14, 13, 0, 0, 0), (15, 0, 0, 0, 0), (16, 0, 0, 0, 0)]
set_option maxRecDepth 100000 in
def e_p187 : List e_E := [(0, 1, 2, 2, 0), (1, 2, 0, 0, 0), (2, 1, 0, 2, 0), (3, 1, 1, 0, 0), (4, 8, 68, 2, 1), (7, 22, 0, 0, 0), (8, 30, 3, 0, 0), (9, 3, 0, 0, 6), (12, 9, 3, 2, 0), (13, 2, 0, 1, 0), (14, 13, 0, 0, 0), (15, 2, 0, 0, 0), (16, 13, 0, 0, 0)]
set_option maxRecDepth 100000 in
def e_p188 : List e_E := [(0, 1, 4, 2, 0), (2, 2, 0, 0, 0), (3, 1, 0, 2, 0), (4, 1, 1, 0, 0), (5, 1, 2, 0, 0), (6, 1, 3, 0, 0), (7, 8, 69, 4, 1), (10, 22, 0, 0, 0), (11, 30, 3, 0, 0), (12, 3, 0, 0, 12), (15, 9, 5, 2, 0), (17, 2, 0, 1, 0), (18, 13, 0, 0, 0), (19, 9, 5, 2, 0), (21, 2, 0, 2, 0), (22, 13, 0, 0, 0), (23, 2, 0, 0, 0), (24, 13, 0, 0, 0)]
set_option maxRecDepth 100000 in
def e_p189 : List e_E := [(0, 1, 3, 2, 0), (1, 2, 0, 0, 0), (2, 1, 0, 2, 0), (3, 1, 1, 0, 0), (4, 1, 2, 0, 0), (5, 8, 71, 3, 1), (8, 22, 0, 0, 0), (9, 30, 3, 0, 0), (10, 3, 0, 0, 6), (13, 9, 4, 2, 0), (15, 2, 0, 1, 0), (16, 13, 0, 0, 0), (17, 2, 0, 0, 0), (18, 13, 0, 0, 0)]
set_option maxRecDepth 100000 in
def e_p190 : List e_E := [(0, 1, 0, 2, 0), (1, 25, 0, 0, 0), (4, 1, 0, 2, 0), (5, 2, 0, 4, 0), (6, 14, 20, 0, 0), (9, 19, 1, 0, 3), (12, 1, 0, 2, 0), (13, 2, 0, 8, 0), (15, 14, 19, 0, 0), (18, 19, 1, 1, 3), (21, 1, 0, 2, 0), (22, 2, 0, 6, 0), (24, 14, 19, 0, 0), (27, 19, 1, 4, 3), (30, 1, 0, 2, 0), (31, 2, 0, 6, 0), (33, 14, 1, 0, 0), (35, 19, 1, 5, 3), (38, 1, 0, 2, 0), (39, 2, 0, 216, 0), (42, 14, 1, 0, 0), (44, 19, 1, 6, 3), (47, 1, 0, 2, 0), (48, 2, 0, 6, 0), (50, 14, 1, 0, 0), (52, 19, 1, 8, 3), (55, 1, 0, 2, 0), (56, 2, 0, 4294967295, 0), (57, 19, 1, 10, 0), (60, 1, 0, 2, 0), (61, 2, 0, 240, 0), (64, 14, 1, 0, 0), (66, 19, 1, 12, 3), (69, 1, 0, 2, 0), (70, 2, 0, 4294967295, 0), (71, 19, 1, 14, 0), (74, 1, 0, 2, 0), (75, 2, 0, 3, 0), (76, 14, 1, 0, 0), (78, 19, 1, 23, 3), (81, 1, 0, 2, 0), (82, 2, 0, 0, 0), (83, 14, 1, 0, 0), (85, 19, 1, 25, 3), (88, 1, 0, 2, 0), (89, 2, 0, 4294967295, 0), (90, 19, 1, 31, 0), (93, 1, 0, 2, 0), (94, 2, 0, 6, 0), (96, 14, 1, 0, 0), (98, 19, 1, 38, 3), (101, 1, 0, 2, 0), (102, 2, 0, 36, 0), (104, 14, 1, 0, 0), (106, 19, 1, 39, 3), (109, 1, 0, 2, 0), (110, 2, 0, 2, 0), (111, 14, 18, 0, 0), (114, 19, 1, 40, 3), (117, 2, 0, 0, 0), (118, 9, 1, 0, 0), (119, 1, 1, 0, 0), (120, 2, 0, 4, 0), (121, 16, 3, 0, 20), (124, 1, 0, 2, 0), (125, 11, 1, 0, 0), (128, 1, 1, 0, 0), (129, 7, 16, 6, 0), (132, 20, 0, 0, 0), (133, 2, 0, 1, 0), (134, 8, 274, 2, 17), (137, 43, 20, 0, 0), (138, 4, 1, 1, 0), (141, 3, 0, 0, 123), (144, 2, 0, 0, 0), (145, 9, 1, 0, 0), (146, 1, 1, 0, 0), (147, 2, 0, 8, 0), (149, 16, 3, 0, 16), (152, 1, 0, 2, 0), (153, 11, 1, 1, 0), (156, 1, 1, 0, 0), (157, 2, 0, 0, 0), (158, 8, 206, 1, 0), (161, 43, 19, 0, 0), (162, 4, 1, 1, 0), (165, 3, 0, 0, 153), (168, 2, 0, 0, 0), (169, 9, 1, 0, 0), (170, 1, 1, 0, 0), (171, 2, 0, 4, 0), (172, 16, 3, 0, 50), (175, 1, 0, 2, 0), (176, 11, 1, 0, 0), (179, 1, 1, 0, 0), (180, 18, 20, 0, 0), (181, 11, 16, 2, 0), (184, 2, 0, 0, 0), (185, 2, 0, 4294967295, 0), (186, 30, 1, 0, 0), (187, 1, 0, 2, 0), (188, 11, 1, 0, 0), (191, 1, 1, 0, 0), (192, 18, 20, 0, 0), (193, 11, 16, 3, 0), (196, 2, 0, 0, 0), (197, 2, 0, 4294967295, 0), (198, 30, 1, 0, 0), (199, 1, 0, 2, 0), (200, 11, 1, 0, 0), (203, 1, 1, 0, 0), (204, 18, 20, 0, 0), (205, 11, 16, 5, 0), (208, 2, 0, 0, 0), (209, 8, 202, 2, 0), (212, 4, 1, 1, 0), (215, 3, 0, 0, 179), (218, 5, 0, 0, 0)]
set_option maxRecDepth 100000 in
def e_p191 : List e_E := [(0, 1, 0, 2, 0), (1, 2, 0, 0, 0), (2, 19, 1, 11, 0), (5, 1, 0, 2, 0), (6, 1, 1, 0, 0), (7, 2, 0, 1, 0), (8, 2, 0, 5, 0), (9, 8, 264, 3, 0), (12, 10, 0, 0, 14), (15, 1, 2, 0, 0), (16, 2, 0, 0, 0), (17, 2, 0, 4, 0), (18, 8, 264, 3, 0), (21, 10, 0, 0, 4), (24, 2, 0, 1, 0), (25, 3, 0, 0, 2), (28, 2, 0, 0, 0), (29, 2, 0, 1, 0), (30, 8, 245, 3, 2), (33, 10, 1, 0, 20), (36, 1, 0, 2, 0), (37, 1, 0, 2, 0), (38, 11, 1, 2, 0), (41, 10, 5, 0, 4), (44, 0, 0, 0, 0), (45, 0, 0, 0, 0), (48, 2, 0, 0, 0), (49, 2, 0, 2, 0), (50, 8, 245, 3, 2), (53, 10, 0, 0, 4), (56, 2, 0, 0, 0), (57, 13, 0, 0, 0), (58, 0, 0, 0, 0), (59, 0, 0, 0, 0), (60, 0, 0, 0, 0), (63, 0, 0, 0, 0), (64, 0, 0, 0, 0), (67, 0, 0, 0, 0), (70, 0, 0, 0, 0), (71, 0, 0, 0, 0), (72, 0, 0, 0, 0), (73, 0, 0, 0, 0), (74, 0, 0, 0, 0), (77, 0, 0, 0, 0), (78, 0, 0, 0, 0), (81, 0, 0, 0, 0), (84, 0, 0, 0, 0), (85, 0, 0, 0, 0), (86, 0, 0, 0, 0), (89, 0, 0, 0, 0), (90, 0, 0, 0, 0), (93, 0, 0, 0, 0), (96, 0, 0, 0, 0), (97, 0, 0, 0, 0), (100, 0, 0, 0, 0), (101, 0, 0, 0, 0), (102, 0, 0, 0, 0), (105, 0, 0, 0, 0), (106, 0, 0, 0, 0), (109, 0, 0, 0, 0), (112, 0, 0, 0, 0), (113, 0, 0, 0, 0), (114, 0, 0, 0, 0), (117, 0, 0, 0, 0), (118, 0, 0, 0, 0), (121, 0, 0, 0, 0), (124, 0, 0, 0, 0), (125, 0, 0, 0, 0), (128, 0, 0, 0, 0), (129, 0, 0, 0, 0), (132, 0, 0, 0, 0), (133, 0, 0, 0, 0), (134, 0, 0, 0, 0), (137, 0, 0, 0, 0), (138, 0, 0, 0, 0), (141, 0, 0, 0, 0), (142, 0, 0, 0, 0), (145, 0, 0, 0, 0), (146, 0, 0, 0, 0), (147, 0, 0, 0, 0)]
set_option maxRecDepth 100000 in
def e_p192 : List e_E := [(0, 2, 0, 0, 0), (1, 9, 1, 0, 0), (2, 1, 0, 2, 0), (3, 11, 1, 0, 0), (6, 9, 2, 2, 0), (7, 1, 2, 2, 0), (8, 12, 0, 0, 0), (9, 9, 3, 0, 0), (10, 2, 0, 0, 0), (11, 9, 4, 0, 0), (13, 1, 4, 0, 0), (15, 1, 3, 0, 0), (16, 16, 3, 0, 22), (19, 1, 2, 2, 0), (20, 1, 4, 0, 0), (22, 18, 20, 0, 0), (23, 9, 5, 2, 0), (25, 1, 1, 0, 0), (26, 1, 5, 2, 0), (28, 11, 16, 0, 0), (31, 17, 1, 0, 0), (32, 9, 1, 0, 0), (33, 4, 4, 1, 0), (36, 3, 0, 0, 21), (39, 1, 1, 0, 0), (40, 13, 0, 0, 0)]
set_option maxRecDepth 100000 in
def e_p193 : List e_E := [(0, 1, 0, 2, 0), (1, 2, 0, 0, 0), (2, 19, 1, 11, 0), (5, 2, 0, 0, 0), (6, 9, 6, 0, 0), (8, 2, 0, 0, 0), (9, 9, 7, 0, 0), (11, 1, 7, 0, 0), (13, 2, 0, 20, 0), (15, 16, 3, 0, 32), (18, 1, 6, 0, 0), (20, 1, 1, 0, 0), (21, 1, 2, 0, 0), (22, 1, 3, 0, 0), (23, 1, 4, 0, 0), (25, 1, 5, 0, 0), (27, 1, 7, 0, 0), (29, 8, 199, 6, 0), (32, 10, 1, 0, 4), (35, 2, 0, 0, 0), (36, 3, 0, 0, 2), (39, 2, 0, 1, 0), (40, 17, 1, 0, 0), (41, 9, 6, 0, 0), (43, 4, 7, 1, 0), (46, 3, 0, 0, 15), (49, 1, 0, 2, 0), (50, 1, 0, 2, 0), (51, 11, 1, 13, 0), (54, 1, 6, 0, 0), (56, 17, 1, 0, 0), (57, 2, 0, 240, 0), (60, 16, 4, 0, 4), (63, 2, 0, 1, 0), (64, 3, 0, 0, 2), (67, 0, 0, 0, 0), (68, 2, 0, 1, 0), (69, 8, 245, 3, 2), (72, 10, 0, 0, 4), (75, 0, 0, 0, 0), (76, 0, 0, 0, 0), (77, 2, 0, 0, 0), (78, 9, 7, 0, 0), (80, 1, 7, 0, 0), (82, 2, 0, 20, 0), (84, 16, 3, 0, 48), (87, 1, 1, 0, 0), (88, 1, 2, 0, 0), (89, 1, 3, 0, 0), (90, 1, 4, 0, 0), (92, 1, 5, 0, 0), (94, 1, 7, 0, 0), (96, 8, 199, 6, 0), (99, 9, 8, 0, 0), (101, 1, 8, 0, 0), (103, 10, 0, 0, 24), (106, 1, 0, 2, 0), (107, 11, 1, 12, 0), (110, 1, 0, 2, 0), (111, 11, 1, 13, 0), (114, 1, 8, 0, 0), (116, 30, 1, 0, 0), (117, 1, 0, 2, 0), (118, 20, 0, 0, 0), (119, 11, 1, 13, 0), (122, 2, 0, 1, 0), (123, 17, 1, 0, 0), (124, 19, 1, 13, 0), (127, 4, 7, 1, 0), (130, 3, 0, 0, 87), (133, 1, 0, 2, 0), (134, 11, 1, 13, 0), (137, 13, 0, 0, 0)]
set_option maxRecDepth 100000 in
def e_p194 : List e_E := [(0, 1, 0, 2, 0), (1, 2, 0, 0, 0), (2, 19, 1, 11, 0), (5, 1, 0, 2, 0), (6, 1, 1, 0, 0), (7, 8, 221, 1, 0), (10, 10, 0, 0, 10), (13, 1, 2, 0, 0), (14, 8, 221, 1, 0), (17, 10, 0, 0, 4), (20, 2, 0, 1, 0), (21, 3, 0, 0, 2), (24, 2, 0, 0, 0), (25, 2, 0, 1, 0), (26, 8, 245, 3, 2), (29, 10, 0, 0, 4), (32, 2, 0, 0, 0), (33, 13, 0, 1, 0), (34, 1, 0, 2, 0), (35, 11, 1, 0, 0), (38, 1, 1, 0, 0), (39, 18, 20, 0, 0), (40, 9, 3, 2, 0), (41, 1, 0, 2, 0), (42, 11, 1, 0, 0), (45, 1, 2, 0, 0), (46, 18, 20, 0, 0), (47, 9, 4, 2, 0), (49, 1, 3, 2, 0), (50, 11, 16, 0, 0), (53, 1, 4, 2, 0), (55, 11, 16, 0, 0), (58, 17, 3, 0, 0), (59, 14, 2, 0, 0), (61, 9, 5, 2, 0), (63, 1, 3, 2, 0), (64, 11, 16, 0, 0), (67, 1, 4, 2, 0), (69, 11, 16, 0, 0), (72, 17, 3, 0, 0), (73, 14, 1, 0, 0), (75, 9, 6, 2, 0), (77, 2, 0, 1, 0), (78, 9, 7, 0, 0), (80, 1, 5, 2, 0), (82, 2, 0, 0, 0), (83, 2, 0, 1, 0), (84, 30, 2, 0, 0), (85, 2, 0, 0, 0), (86, 9, 8, 0, 0), (88, 1, 8, 0, 0), (90, 1, 7, 0, 0), (92, 16, 3, 0, 234), (95, 1, 6, 2, 0), (97, 1, 8, 0, 0), (99, 18, 1, 0, 0), (100, 1, 4, 2, 0), (102, 11, 16, 0, 0), (105, 17, 10, 0, 0), (106, 9, 9, 0, 0), (108, 1, 6, 2, 0), (110, 1, 8, 0, 0), (112, 18, 1, 0, 0), (113, 1, 4, 2, 0), (115, 11, 16, 0, 0), (118, 17, 11, 0, 0), (119, 9, 10, 0, 0), (121, 1, 3, 2, 0), (122, 11, 16, 1, 0), (125, 1, 9, 0, 0), (127, 18, 1, 0, 0), (128, 1, 4, 2, 0), (130, 11, 16, 1, 0), (133, 1, 10, 0, 0), (135, 18, 1, 0, 0), (136, 16, 1, 0, 54), (139, 1, 3, 2, 0), (140, 11, 16, 2, 0), (143, 1, 9, 0, 0), (145, 18, 1, 0, 0), (146, 1, 4, 2, 0), (148, 11, 16, 2, 0), (151, 1, 10, 0, 0), (153, 18, 1, 0, 0), (154, 16, 1, 0, 36), (157, 1, 3, 2, 0), (158, 11, 16, 3, 0), (161, 1, 9, 0, 0), (163, 18, 1, 0, 0), (164, 1, 4, 2, 0), (166, 11, 16, 3, 0), (169, 1, 10, 0, 0), (171, 18, 1, 0, 0), (172, 16, 1, 0, 18), (175, 1, 3, 2, 0), (176, 11, 16, 4, 0), (179, 1, 9, 0, 0), (181, 18, 1, 0, 0), (182, 1, 4, 2, 0), (184, 11, 16, 4, 0), (187, 1, 10, 0, 0), (189, 18, 1, 0, 0), (190, 16, 0, 0, 4), (193, 0, 0, 0, 0), (194, 0, 0, 0, 0), (195, 2, 0, 0, 0), (196, 9, 11, 0, 0), (198, 1, 11, 0, 0), (200, 2, 0, 10, 0), (202, 16, 3, 0, 116), (205, 1, 3, 2, 0), (206, 11, 16, 5, 0), (209, 2, 0, 10, 0), (211, 1, 9, 0, 0), (213, 17, 3, 0, 0), (214, 1, 11, 0, 0), (216, 17, 1, 0, 0), (217, 18, 1, 0, 0), (218, 2, 0, 4294967295, 0), (219, 16, 1, 0, 4), (222, 2, 0, 0, 0), (223, 3, 0, 0, 40), (226, 0, 0, 0, 0), (227, 0, 0, 0, 0), (230, 0, 0, 0, 0), (232, 0, 0, 0, 0), (234, 0, 0, 0, 0), (235, 0, 0, 0, 0), (237, 0, 0, 0, 0), (238, 0, 0, 0, 0), (239, 0, 0, 0, 0), (241, 0, 0, 0, 0), (244, 0, 0, 0, 0), (245, 0, 0, 0, 0), (247, 0, 0, 0, 0), (250, 0, 0, 0, 0), (252, 0, 0, 0, 0), (254, 0, 0, 0, 0), (255, 0, 0, 0, 0), (257, 0, 0, 0, 0), (258, 0, 0, 0, 0), (259, 0, 0, 0, 0), (260, 9, 12, 0, 0), (262, 1, 3, 2, 0), (263, 11, 16, 5, 0), (266, 2, 0, 10, 0), (268, 1, 9, 0, 0), (270, 17, 3, 0, 0), (271, 1, 11, 0, 0), (273, 17, 1, 0, 0), (274, 18, 1, 0, 0), (275, 2, 0, 4294967295, 0), (276, 16, 0, 0, 26), (279, 0, 0, 0, 0), (281, 0, 0, 0, 0), (283, 0, 0, 0, 0), (284, 0, 0, 0, 0), (287, 0, 0, 0, 0), (289, 0, 0, 0, 0), (291, 0, 0, 0, 0), (292, 0, 0, 0, 0), (293, 0, 0, 0, 0), (295, 0, 0, 0, 0), (297, 0, 0, 0, 0), (299, 0, 0, 0, 0), (300, 0, 0, 0, 0), (303, 4, 11, 1, 0), (306, 3, 0, 0, 215), (309, 4, 8, 1, 0), (312, 3, 0, 0, 101), (315, 2, 0, 1, 0), (316, 13, 0, 1, 0)]
set_option maxRecDepth 100000 in
def e_p195 : List e_E := [(0, 1, 0, 2, 0), (1, 2, 0, 0, 0), (2, 19, 1, 11, 0), (5, 1, 0, 2, 0), (6, 1, 1, 0, 0), (7, 8, 221, 1, 0), (10, 2, 0, 1, 0), (11, 8, 245, 3, 2), (14, 10, 1, 0, 20), (17, 1, 0, 2, 0), (18, 1, 0, 2, 0), (19, 11, 1, 2, 0), (22, 10, 5, 0, 4), (25, 0, 0, 0, 0), (26, 0, 0, 0, 0), (29, 2, 0, 0, 0), (30, 2, 0, 2, 0), (31, 8, 245, 3, 2), (34, 10, 0, 0, 4), (37, 2, 0, 0, 0), (38, 13, 0, 0, 0), (39, 0, 0, 0, 0), (42, 0, 0, 0, 0), (43, 0, 0, 0, 0), (45, 0, 0, 0, 0), (48, 0, 0, 0, 0), (49, 0, 0, 0, 0), (51, 0, 0, 0, 0), (53, 0, 0, 0, 0), (54, 0, 0, 0, 0), (55, 0, 0, 0, 0), (57, 0, 0, 0, 0), (59, 0, 0, 0, 0), (61, 0, 0, 0, 0), (63, 0, 0, 0, 0), (64, 0, 0, 0, 0), (66, 0, 0, 0, 0), (68, 0, 0, 0, 0), (70, 0, 0, 0, 0), (73, 0, 0, 0, 0), (74, 0, 0, 0, 0), (77, 0, 0, 0, 0), (79, 0, 0, 0, 0), (82, 0, 0, 0, 0), (83, 0, 0, 0, 0), (85, 0, 0, 0, 0), (87, 0, 0, 0, 0), (89, 0, 0, 0, 0), (92, 0, 0, 0, 0), (94, 0, 0, 0, 0), (96, 0, 0, 0, 0), (97, 0, 0, 0, 0), (99, 0, 0, 0, 0), (100, 0, 0, 0, 0), (102, 0, 0, 0, 0), (103, 0, 0, 0, 0), (105, 0, 0, 0, 0), (106, 0, 0, 0, 0), (107, 0, 0, 0, 0), (108, 0, 0, 0, 0), (111, 0, 0, 0, 0), (112, 0, 0, 0, 0), (113, 0, 0, 0, 0), (114, 0, 0, 0, 0), (117, 0, 0, 0, 0), (120, 0, 0, 0, 0), (121, 0, 0, 0, 0), (123, 0, 0, 0, 0), (126, 0, 0, 0, 0), (128, 0, 0, 0, 0), (130, 0, 0, 0, 0), (131, 0, 0, 0, 0), (134, 0, 0, 0, 0), (135, 0, 0, 0, 0), (138, 0, 0, 0, 0), (140, 0, 0, 0, 0), (141, 0, 0, 0, 0), (142, 0, 0, 0, 0), (143, 0, 0, 0, 0), (146, 0, 0, 0, 0), (148, 0, 0, 0, 0), (149, 0, 0, 0, 0), (150, 0, 0, 0, 0), (151, 0, 0, 0, 0), (153, 0, 0, 0, 0), (155, 0, 0, 0, 0), (157, 0, 0, 0, 0), (160, 0, 0, 0, 0), (161, 0, 0, 0, 0), (163, 0, 0, 0, 0), (166, 0, 0, 0, 0), (169, 0, 0, 0, 0), (170, 0, 0, 0, 0), (173, 0, 0, 0, 0), (175, 0, 0, 0, 0), (176, 0, 0, 0, 0), (179, 0, 0, 0, 0), (181, 0, 0, 0, 0), (183, 0, 0, 0, 0), (184, 0, 0, 0, 0), (185, 0, 0, 0, 0), (188, 0, 0, 0, 0), (189, 0, 0, 0, 0), (190, 0, 0, 0, 0), (193, 0, 0, 0, 0), (196, 0, 0, 0, 0), (199, 0, 0, 0, 0), (200, 0, 0, 0, 0), (203, 0, 0, 0, 0), (205, 0, 0, 0, 0), (206, 0, 0, 0, 0), (209, 0, 0, 0, 0), (211, 0, 0, 0, 0), (213, 0, 0, 0, 0), (214, 0, 0, 0, 0), (215, 0, 0, 0, 0), (217, 0, 0, 0, 0), (218, 0, 0, 0, 0), (221, 0, 0, 0, 0), (223, 0, 0, 0, 0), (224, 0, 0, 0, 0), (225, 0, 0, 0, 0), (226, 0, 0, 0, 0), (229, 0, 0, 0, 0), (231, 0, 0, 0, 0), (233, 0, 0, 0, 0), (234, 0, 0, 0, 0), (235, 0, 0, 0, 0), (238, 0, 0, 0, 0), (240, 0, 0, 0, 0), (242, 0, 0, 0, 0), (243, 0, 0, 0, 0), (244, 0, 0, 0, 0), (247, 0, 0, 0, 0), (249, 0, 0, 0, 0), (250, 0, 0, 0, 0), (253, 0, 0, 0, 0), (255, 0, 0, 0, 0), (256, 0, 0, 0, 0), (259, 0, 0, 0, 0), (261, 0, 0, 0, 0), (263, 0, 0, 0, 0), (264, 0, 0, 0, 0), (265, 0, 0, 0, 0), (266, 0, 0, 0, 0), (267, 0, 0, 0, 0), (269, 0, 0, 0, 0), (271, 0, 0, 0, 0), (273, 0, 0, 0, 0), (276, 0, 0, 0, 0), (277, 0, 0, 0, 0), (280, 0, 0, 0, 0), (282, 0, 0, 0, 0), (283, 0, 0, 0, 0), (285, 0, 0, 0, 0), (286, 0, 0, 0, 0), (287, 0, 0, 0, 0), (288, 0, 0, 0, 0), (291, 0, 0, 0, 0), (294, 0, 0, 0, 0), (295, 0, 0, 0, 0), (298, 0, 0, 0, 0), (300, 0, 0, 0, 0), (302, 0, 0, 0, 0), (304, 0, 0, 0, 0), (306, 0, 0, 0, 0), (309, 0, 0, 0, 0), (312, 0, 0, 0, 0), (313, 0, 0, 0, 0), (314, 0, 0, 0, 0), (316, 0, 0, 0, 0), (318, 0, 0, 0, 0), (320, 0, 0, 0, 0), (322, 0, 0, 0, 0), (323, 0, 0, 0, 0), (325, 0, 0, 0, 0), (326, 0, 0, 0, 0), (328, 0, 0, 0, 0), (331, 0, 0, 0, 0), (332, 0, 0, 0, 0), (335, 0, 0, 0, 0), (337, 0, 0, 0, 0), (339, 0, 0, 0, 0), (341, 0, 0, 0, 0), (343, 0, 0, 0, 0), (346, 0, 0, 0, 0), (348, 0, 0, 0, 0), (351, 0, 0, 0, 0), (353, 0, 0, 0, 0), (354, 0, 0, 0, 0), (356, 0, 0, 0, 0), (358, 0, 0, 0, 0), (360, 0, 0, 0, 0), (363, 0, 0, 0, 0), (364, 0, 0, 0, 0), (366, 0, 0, 0, 0), (367, 0, 0, 0, 0), (369, 0, 0, 0, 0), (370, 0, 0, 0, 0), (373, 0, 0, 0, 0), (376, 0, 0, 0, 0), (379, 0, 0, 0, 0), (381, 0, 0, 0, 0), (383, 0, 0, 0, 0), (386, 0, 0, 0, 0), (387, 0, 0, 0, 0), (388, 0, 0, 0, 0), (389, 0, 0, 0, 0), (391, 0, 0, 0, 0), (393, 0, 0, 0, 0), (394, 0, 0, 0, 0), (396, 0, 0, 0, 0), (398, 0, 0, 0, 0), (399, 0, 0, 0, 0), (400, 0, 0, 0, 0), (403, 0, 0, 0, 0), (405, 0, 0, 0, 0), (406, 0, 0, 0, 0), (409, 0, 0, 0, 0), (411, 0, 0, 0, 0), (413, 0, 0, 0, 0), (414, 0, 0, 0, 0), (416, 0, 0, 0, 0), (417, 0, 0, 0, 0), (419, 0, 0, 0, 0), (420, 0, 0, 0, 0), (423, 0, 0, 0, 0), (426, 0, 0, 0, 0), (429, 0, 0, 0, 0), (432, 0, 0, 0, 0), (433, 0, 0, 0, 0), (435, 0, 0, 0, 0), (438, 0, 0, 0, 0), (440, 0, 0, 0, 0), (441, 0, 0, 0, 0), (444, 0, 0, 0, 0), (445, 0, 0, 0, 0), (447, 0, 0, 0, 0), (448, 0, 0, 0, 0), (450, 0, 0, 0, 0), (453, 0, 0, 0, 0)]
set_option maxRecDepth 100000 in
def e_p196 : List e_E := [(0, 1, 0, 2, 0), (1, 2, 0, 0, 0), (2, 19, 1, 11, 0), (5, 1, 0, 2, 0), (6, 1, 1, 0, 0), (7, 8, 221, 1, 0), (10, 10, 0, 0, 14), (13, 1, 2, 0, 0), (14, 2, 0, 1, 0), (15, 2, 0, 5, 0), (16, 8, 264, 3, 0), (19, 10, 0, 0, 4), (22, 2, 0, 1, 0), (23, 3, 0, 0, 2), (26, 2, 0, 0, 0), (27, 2, 0, 1, 0), (28, 8, 245, 3, 2), (31, 10, 1, 0, 26), (34, 1, 0, 2, 0), (35, 1, 0, 2, 0), (36, 11, 1, 0, 0), (39, 1, 1, 0, 0), (40, 18, 20, 0, 0), (41, 8, 266, 1, 0), (44, 15, 1, 0, 4), (47, 2, 0, 1, 0), (48, 3, 0, 0, 2), (51, 0, 0, 0, 0), (52, 2, 0, 2, 0), (53, 8, 245, 3, 2), (56, 10, 0, 0, 4), (59, 2, 0, 0, 0), (60, 13, 0, 0, 0), (61, 1, 0, 2, 0), (62, 1, 2, 0, 0), (63, 19, 1, 2, 0), (66, 1, 0, 2, 0), (67, 1, 0, 2, 0), (68, 11, 1, 0, 0), (71, 1, 1, 0, 0), (72, 18, 20, 0, 0), (73, 8, 250, 1, 0), (76, 19, 1, 3, 0), (79, 2, 0, 0, 0), (80, 9, 3, 0, 0), (81, 1, 3, 0, 0), (82, 2, 0, 6, 0), (84, 16, 3, 0, 60), (87, 1, 0, 2, 0), (88, 11, 1, 4, 0), (91, 1, 3, 0, 0), (92, 1, 0, 2, 0), (93, 11, 1, 3, 0), (96, 1, 3, 0, 0), (97, 17, 8, 0, 0), (98, 2, 0, 1, 0), (99, 17, 4, 0, 0), (100, 2, 0, 1, 0), (101, 16, 1, 0, 20), (104, 0, 0, 0, 0), (107, 0, 0, 0, 0), (108, 0, 0, 0, 0), (109, 0, 0, 0, 0), (112, 0, 0, 0, 0), (113, 0, 0, 0, 0), (114, 0, 0, 0, 0), (115, 0, 0, 0, 0), (118, 0, 0, 0, 0), (121, 0, 0, 0, 0), (124, 2, 3, 0, 0), (125, 43, 19, 0, 0), (126, 1, 0, 2, 0), (127, 11, 1, 5, 0), (130, 1, 3, 0, 0), (131, 2, 0, 0, 0), (132, 30, 1, 0, 0), (133, 4, 3, 1, 0), (136, 3, 0, 0, 91), (139, 2, 0, 0, 0), (140, 9, 3, 0, 0), (141, 1, 3, 0, 0), (142, 2, 0, 216, 0), (145, 16, 3, 0, 14), (148, 1, 0, 2, 0), (149, 11, 1, 6, 0), (152, 1, 3, 0, 0), (153, 2, 0, 0, 0), (154, 30, 1, 0, 0), (155, 4, 3, 1, 0), (158, 3, 0, 0, 161), (161, 1, 0, 2, 0), (162, 2, 0, 0, 0), (163, 19, 1, 7, 0), (166, 1, 0, 2, 0), (167, 20, 0, 0, 0), (168, 11, 1, 26, 0), (171, 2, 0, 1, 0), (172, 17, 1, 0, 0), (173, 19, 1, 26, 0), (176, 1, 0, 2, 0), (177, 8, 197, 1, 2), (180, 1, 0, 2, 0), (181, 11, 1, 3, 0), (184, 8, 275, 1, 0), (187, 13, 0, 0, 0)]
set_option maxRecDepth 100000 in
def e_p197 : List e_E := [(0, 2, 0, 0, 0), (1, 9, 1, 0, 0), (2, 1, 1, 0, 0), (3, 2, 0, 6, 0), (5, 16, 3, 0, 14), (8, 1, 0, 2, 0), (9, 11, 1, 8, 0), (12, 1, 1, 0, 0), (13, 2, 0, 0, 0), (14, 30, 1, 0, 0), (15, 4, 1, 1, 0), (18, 3, 0, 0, 5), (21, 1, 0, 2, 0), (22, 2, 0, 0, 0), (23, 19, 1, 9, 0), (26, 1, 0, 2, 0), (27, 2, 0, 4294967295, 0), (28, 19, 1, 10, 0), (31, 5, 0, 0, 0)]
set_option maxRecDepth 100000 in
def e_p198 : List e_E := [(0, 1, 0, 2, 0), (1, 2, 0, 0, 0), (2, 19, 1, 11, 0), (5, 1, 0, 2, 0), (6, 1, 1, 0, 0), (7, 2, 0, 0, 0), (8, 2, 0, 1, 0), (9, 8, 264, 3, 0), (12, 2, 0, 1, 0), (13, 8, 245, 3, 2), (16, 10, 0, 0, 4), (19, 2, 0, 0, 0), (20, 13, 0, 0, 0), (21, 1, 0, 2, 0), (22, 11, 1, 10, 0), (25, 2, 0, 4294967295, 0), (26, 16, 1, 0, 4), (29, 2, 0, 4294967295, 0), (30, 3, 0, 0, 14), (33, 0, 0, 0, 0), (34, 0, 0, 0, 0), (37, 0, 0, 0, 0), (38, 0, 0, 0, 0), (41, 0, 0, 0, 0), (44, 0, 0, 0, 0), (45, 0, 0, 0, 0), (48, 13, 0, 0, 0)]
set_option maxRecDepth 100000 in
def e_p199 : List e_E := [(0, 1, 5, 0, 0), (2, 2, 0, 4, 0), (3, 16, 3, 0, 4), (6, 1, 0, 0, 0), (7, 3, 0, 0, 32), (10, 1, 5, 0, 0), (12, 2, 0, 8, 0), (14, 16, 3, 0, 4), (17, 1, 1, 0, 0), (18, 3, 0, 0, 22), (21, 1, 5, 0, 0), (23, 2, 0, 12, 0), (25, 16, 3, 0, 4), (28, 1, 2, 0, 0), (29, 3, 0, 0, 12), (32, 1, 5, 0, 0), (34, 2, 0, 16, 0), (36, 16, 3, 0, 4), (39, 1, 3, 0, 0), (40, 3, 0, 0, 2), (43, 1, 4, 0, 0), (45, 9, 6, 0, 0), (47, 1, 6, 0, 0), (49, 2, 0, 24, 0), (51, 2, 0, 8, 0), (53, 1, 5, 0, 0), (55, 2, 0, 4, 0), (56, 17, 11, 0, 0), (57, 17, 3, 0, 0), (58, 17, 2, 0, 0), (59, 17, 9, 0, 0), (60, 2, 0, 255, 0), (63, 17, 4, 0, 0), (64, 13, 0, 0, 0)]
set_option maxRecDepth 100000 in
def e_p200 : List e_E := [(0, 1, 0, 2, 0), (1, 1, 2, 0, 0), (2, 18, 19, 0, 0), (3, 9, 5, 2, 0), (5, 1, 0, 2, 0), (6, 1, 3, 0, 0), (7, 18, 19, 0, 0), (8, 9, 6, 2, 0), (10, 1, 5, 2, 0), (12, 15, 0, 0, 4), (15, 0, 0, 0, 0), (17, 0, 0, 0, 0), (20, 2, 0, 0, 0), (21, 13, 0, 1, 0), (22, 0, 0, 0, 0), (24, 0, 0, 0, 0), (27, 0, 0, 0, 0), (28, 0, 0, 0, 0), (29, 0, 0, 0, 0), (30, 0, 0, 0, 0), (31, 0, 0, 0, 0), (32, 0, 0, 0, 0), (35, 0, 0, 0, 0), (37, 0, 0, 0, 0), (40, 0, 0, 0, 0), (41, 0, 0, 0, 0), (42, 0, 0, 0, 0), (43, 0, 0, 0, 0), (44, 0, 0, 0, 0), (45, 0, 0, 0, 0), (48, 0, 0, 0, 0), (50, 0, 0, 0, 0), (53, 0, 0, 0, 0), (55, 0, 0, 0, 0), (56, 0, 0, 0, 0), (57, 0, 0, 0, 0), (58, 0, 0, 0, 0), (59, 0, 0, 0, 0), (61, 0, 0, 0, 0), (62, 0, 0, 0, 0), (63, 0, 0, 0, 0), (64, 0, 0, 0, 0), (67, 0, 0, 0, 0), (68, 0, 0, 0, 0), (71, 0, 0, 0, 0), (72, 0, 0, 0, 0), (74, 0, 0, 0, 0), (76, 0, 0, 0, 0), (79, 0, 0, 0, 0), (81, 0, 0, 0, 0), (84, 0, 0, 0, 0), (85, 0, 0, 0, 0), (86, 0, 0, 0, 0), (87, 0, 0, 0, 0), (88, 0, 0, 0, 0), (89, 0, 0, 0, 0), (92, 0, 0, 0, 0), (94, 0, 0, 0, 0), (97, 0, 0, 0, 0), (98, 0, 0, 0, 0), (99, 0, 0, 0, 0), (100, 0, 0, 0, 0), (101, 0, 0, 0, 0), (102, 0, 0, 0, 0), (105, 0, 0, 0, 0), (107, 0, 0, 0, 0), (110, 0, 0, 0, 0), (112, 0, 0, 0, 0), (113, 0, 0, 0, 0), (114, 0, 0, 0, 0), (115, 0, 0, 0, 0), (116, 0, 0, 0, 0), (118, 0, 0, 0, 0), (119, 0, 0, 0, 0), (120, 0, 0, 0, 0), (121, 0, 0, 0, 0), (124, 0, 0, 0, 0), (125, 0, 0, 0, 0), (128, 0, 0, 0, 0), (129, 0, 0, 0, 0)]
set_option maxRecDepth 100000 in
def e_p201 : List e_E := [(0, 1, 0, 2, 0), (1, 2, 0, 0, 0), (2, 19, 1, 11, 0), (5, 2, 0, 17, 0), (7, 9, 1, 0, 0), (8, 1, 0, 2, 0), (9, 11, 1, 0, 0), (12, 9, 2, 2, 0), (13, 1, 2, 2, 0), (14, 12, 0, 0, 0), (15, 9, 3, 0, 0), (16, 2, 0, 0, 0), (17, 9, 4, 0, 0), (19, 1, 4, 0, 0), (21, 1, 3, 0, 0), (22, 16, 3, 0, 26), (25, 1, 2, 2, 0), (26, 1, 4, 0, 0), (28, 18, 20, 0, 0), (29, 9, 5, 2, 0), (31, 2, 0, 31, 0), (33, 1, 1, 0, 0), (34, 17, 3, 0, 0), (35, 1, 5, 2, 0), (37, 11, 16, 0, 0), (40, 17, 1, 0, 0), (41, 9, 1, 0, 0), (42, 4, 4, 1, 0), (45, 3, 0, 0, 27), (48, 1, 0, 2, 0), (49, 11, 1, 1, 0), (52, 9, 2, 2, 0), (53, 1, 2, 2, 0), (54, 12, 0, 0, 0), (55, 9, 3, 0, 0), (56, 2, 0, 0, 0), (57, 9, 4, 0, 0), (59, 1, 4, 0, 0), (61, 1, 3, 0, 0), (62, 16, 3, 0, 26), (65, 1, 2, 2, 0), (66, 1, 4, 0, 0), (68, 18, 19, 0, 0), (69, 9, 5, 2, 0), (71, 2, 0, 31, 0), (73, 1, 1, 0, 0), (74, 17, 3, 0, 0), (75, 1, 5, 2, 0), (77, 11, 15, 1, 0), (80, 17, 1, 0, 0), (81, 9, 1, 0, 0), (82, 4, 4, 1, 0), (85, 3, 0, 0, 75), (88, 2, 0, 0, 0), (89, 9, 2, 0, 0), (90, 1, 2, 0, 0), (91, 2, 0, 6, 0), (93, 16, 3, 0, 34), (96, 1, 0, 2, 0), (97, 1, 2, 0, 0), (98, 8, 216, 2, 2), (101, 10, 0, 0, 18), (104, 0, 0, 0, 0), (106, 0, 0, 0, 0), (107, 0, 0, 0, 0), (108, 0, 0, 0, 0), (109, 0, 0, 0, 0), (112, 0, 0, 0, 0), (113, 0, 0, 0, 0), (114, 0, 0, 0, 0), (115, 0, 0, 0, 0), (118, 1, 1, 0, 0), (119, 9, 1, 0, 0), (120, 4, 2, 1, 0), (123, 3, 0, 0, 111), (126, 1, 1, 0, 0), (127, 13, 0, 0, 0)]
set_option maxRecDepth 100000 in
def e_p202 : List e_E := [(0, 2, 0, 0, 0), (1, 9, 2, 0, 0), (2, 1, 2, 0, 0), (3, 2, 0, 10, 0), (5, 16, 3, 0, 20), (8, 1, 0, 2, 0), (9, 2, 0, 10, 0), (11, 1, 1, 0, 0), (12, 17, 3, 0, 0), (13, 1, 2, 0, 0), (14, 17, 1, 0, 0), (15, 2, 0, 4294967295, 0), (16, 30, 1, 0, 0), (17, 4, 2, 1, 0), (20, 3, 0, 0, 5), (23, 5, 0, 0, 0)]
set_option maxRecDepth 100000 in
def e_p203 : List e_E := [(0, 1, 0, 2, 0), (1, 2, 0, 0, 0), (2, 19, 1, 11, 0), (5, 1, 0, 2, 0), (6, 11, 1, 13, 0), (9, 9, 1, 0, 0), (10, 1, 0, 2, 0), (11, 2, 0, 0, 0), (12, 19, 1, 13, 0), (15, 1, 1, 0, 0), (16, 13, 0, 0, 0)]
set_option maxRecDepth 100000 in
def e_p204 : List e_E := [(0, 1, 0, 2, 0), (1, 2, 0, 0, 0), (2, 19, 1, 11, 0), (5, 1, 0, 2, 0), (6, 1, 1, 0, 0), (7, 8, 221, 1, 0), (10, 2, 0, 1, 0), (11, 8, 245, 3, 2), (14, 10, 0, 0, 4), (17, 2, 0, 0, 0), (18, 13, 0, 0, 0), (19, 1, 0, 2, 0), (20, 11, 1, 0, 0), (23, 1, 1, 0, 0), (24, 18, 20, 0, 0), (25, 8, 266, 1, 0), (28, 15, 0, 0, 4), (31, 0, 0, 0, 0), (32, 0, 0, 0, 0), (35, 1, 0, 2, 0), (36, 11, 1, 0, 0), (39, 1, 1, 0, 0), (40, 18, 20, 0, 0), (41, 8, 250, 1, 0), (44, 8, 275, 1, 0), (47, 13, 0, 0, 0)]
set_option maxRecDepth 100000 in
def e_p205 : List e_E := [(0, 1, 0, 2, 0), (1, 2, 0, 0, 0), (2, 19, 1, 11, 0), (5, 2, 0, 0, 0), (6, 9, 1, 0, 0), (7, 1, 0, 2, 0), (8, 11, 1, 0, 0), (11, 9, 2, 2, 0), (12, 1, 2, 2, 0), (13, 12, 0, 0, 0), (14, 9, 3, 0, 0), (15, 2, 0, 0, 0), (16, 9, 4, 0, 0), (18, 1, 4, 0, 0), (20, 1, 3, 0, 0), (21, 16, 3, 0, 30), (24, 1, 2, 2, 0), (25, 1, 4, 0, 0), (27, 18, 20, 0, 0), (28, 9, 5, 2, 0), (30, 1, 1, 0, 0), (31, 1, 5, 2, 0), (33, 8, 266, 1, 0), (36, 15, 1, 0, 4), (39, 2, 0, 1, 0), (40, 3, 0, 0, 2), (43, 0, 0, 0, 0), (44, 17, 1, 0, 0), (45, 9, 1, 0, 0), (46, 4, 4, 1, 0), (49, 3, 0, 0, 27), (52, 1, 1, 0, 0), (53, 36, 0, 0, 0), (54, 2, 6, 1082130432, 0), (57, 37, 0, 0, 0), (58, 13, 3, 0, 0)]
set_option maxRecDepth 100000 in
def e_p206 : List e_E := [(0, 7, 15, 6, 0), (3, 20, 0, 0, 0), (4, 1, 0, 0, 0), (5, 2, 0, 1, 0), (6, 8, 273, 3, 16), (9, 9, 1, 2, 0), (10, 1, 1, 2, 0), (11, 11, 15, 3, 0), (14, 2, 0, 0, 0), (15, 2, 0, 4294967295, 0), (16, 30, 1, 0, 0), (17, 1, 1, 2, 0), (18, 11, 15, 5, 0), (21, 2, 0, 0, 0), (22, 8, 202, 2, 0), (25, 1, 1, 2, 0), (26, 13, 2, 0, 0)]
set_option maxRecDepth 100000 in
def e_p207 : List e_E := [(0, 1, 0, 2, 0), (1, 2, 0, 0, 0), (2, 19, 1, 11, 0), (5, 1, 0, 2, 0), (6, 11, 1, 14, 0), (9, 13, 0, 0, 0)]
set_option maxRecDepth 100000 in
def e_p208 : List e_E := [(0, 1, 0, 2, 0), (1, 2, 0, 0, 0), (2, 19, 1, 11, 0), (5, 2, 0, 0, 0), (6, 9, 1, 0, 0), (7, 1, 0, 2, 0), (8, 11, 1, 0, 0), (11, 9, 2, 2, 0), (12, 1, 2, 2, 0), (13, 12, 0, 0, 0), (14, 9, 3, 0, 0), (15, 2, 0, 0, 0), (16, 9, 4, 0, 0), (18, 1, 4, 0, 0), (20, 1, 3, 0, 0), (21, 16, 3, 0, 80), (24, 1, 2, 2, 0), (25, 1, 4, 0, 0), (27, 18, 20, 0, 0), (28, 9, 5, 2, 0), (30, 1, 5, 2, 0), (32, 8, 266, 1, 0), (35, 15, 1, 0, 62), (38, 1, 0, 2, 0), (39, 1, 5, 2, 0), (41, 8, 234, 1, 0), (44, 1, 5, 2, 0), (46, 8, 250, 1, 0), (49, 2, 0, 1, 0), (50, 8, 226, 4, 2), (53, 1, 0, 2, 0), (54, 2, 0, 4294967295, 0), (55, 19, 1, 31, 0), (58, 1, 1, 0, 0), (59, 1, 0, 2, 0), (60, 11, 1, 33, 0), (63, 10, 1, 0, 28), (66, 1, 0, 2, 0), (67, 11, 1, 34, 0), (70, 2, 0, 4294967295, 0), (71, 16, 1, 0, 16), (74, 1, 0, 2, 0), (75, 11, 1, 35, 0), (78, 2, 0, 4294967295, 0), (79, 16, 1, 0, 8), (82, 1, 0, 2, 0), (83, 11, 1, 36, 0), (86, 2, 0, 4294967295, 0), (87, 16, 0, 0, 4), (90, 0, 0, 0, 0), (91, 0, 0, 0, 0), (94, 2, 0, 0, 0), (95, 17, 1, 0, 0), (96, 9, 1, 0, 0), (97, 4, 4, 1, 0), (100, 3, 0, 0, 27), (103, 1, 0, 2, 0), (104, 11, 1, 1, 0), (107, 9, 2, 2, 0), (108, 1, 2, 2, 0), (109, 12, 0, 0, 0), (110, 9, 3, 0, 0), (111, 2, 0, 0, 0), (112, 9, 4, 0, 0), (114, 1, 4, 0, 0), (116, 1, 3, 0, 0), (117, 16, 3, 0, 82), (120, 1, 2, 2, 0), (121, 1, 4, 0, 0), (123, 18, 19, 0, 0), (124, 9, 5, 2, 0), (126, 1, 1, 0, 0), (127, 1, 0, 2, 0), (128, 1, 5, 2, 0), (130, 1, 5, 2, 0), (132, 8, 211, 3, 2), (135, 2, 0, 4294967295, 0), (136, 16, 1, 0, 4), (139, 2, 0, 0, 0), (140, 3, 0, 0, 2), (143, 0, 0, 0, 0), (144, 17, 1, 0, 0), (145, 9, 1, 0, 0), (146, 1, 5, 2, 0), (148, 8, 232, 1, 0), (151, 8, 275, 1, 0), (154, 2, 0, 1, 0), (155, 16, 1, 0, 4), (158, 0, 0, 0, 0), (159, 0, 0, 0, 0), (162, 2, 0, 0, 0), (163, 9, 6, 0, 0), (165, 1, 1, 0, 0), (166, 1, 6, 0, 0), (168, 10, 0, 0, 16), (171, 0, 0, 0, 0), (173, 0, 0, 0, 0), (176, 0, 0, 0, 0), (179, 0, 0, 0, 0), (181, 0, 0, 0, 0), (184, 0, 0, 0, 0), (187, 0, 0, 0, 0), (188, 0, 0, 0, 0), (191, 2, 0, 0, 0), (192, 17, 1, 0, 0), (193, 9, 1, 0, 0), (194, 4, 4, 1, 0), (197, 3, 0, 0, 129), (200, 1, 1, 0, 0), (201, 13, 0, 0, 0)]
set_option maxRecDepth 100000 in
def e_p209 : List e_E := [(0, 1, 0, 2, 0), (1, 2, 0, 0, 0), (2, 19, 1, 11, 0), (5, 1, 0, 2, 0), (6, 1, 1, 0, 0), (7, 2, 0, 0, 0), (8, 2, 0, 4, 0), (9, 8, 264, 3, 0), (12, 2, 0, 1, 0), (13, 8, 245, 3, 2), (16, 10, 0, 0, 4), (19, 2, 0, 0, 0), (20, 13, 0, 0, 0), (21, 1, 1, 0, 0), (22, 8, 210, 1, 0), (25, 9, 2, 2, 0), (26, 1, 0, 2, 0), (27, 1, 2, 2, 0), (28, 8, 284, 1, 1000), (31, 19, 1, 13, 0), (34, 2, 0, 0, 0), (35, 9, 3, 0, 0), (36, 1, 3, 0, 0), (37, 1, 0, 2, 0), (38, 11, 1, 13, 0), (41, 16, 3, 0, 18), (44, 1, 0, 2, 0), (45, 11, 1, 12, 0), (48, 1, 3, 0, 0), (49, 1, 2, 2, 0), (50, 1, 3, 0, 0), (51, 8, 280, 2, 1000), (54, 30, 1, 0, 0), (55, 4, 3, 1, 0), (58, 3, 0, 0, 45), (61, 1, 0, 2, 0), (62, 11, 1, 13, 0), (65, 13, 0, 0, 0)]
set_option maxRecDepth 100000 in
def e_p210 : List e_E := [(0, 1, 0, 0, 0), (1, 24, 0, 3, 3), (32, 34, 8, 24, 0), (34, 13, 2, 0, 0), (35, 34, 8, 25, 0), (37, 13, 2, 0, 0), (38, 34, 8, 26, 0), (40, 13, 2, 0, 0), (41, 34, 8, 27, 0), (43, 13, 2, 0, 0), (44, 34, 8, 28, 0), (46, 13, 2, 0, 0)]
set_option maxRecDepth 100000 in
def e_p211 : List e_E := [(0, 1, 1, 2, 0), (1, 11, 15, 1, 0), (4, 1, 2, 2, 0), (5, 11, 15, 1, 0), (8, 17, 3, 0, 0), (9, 14, 1, 0, 0), (11, 9, 3, 2, 0), (12, 1, 1, 2, 0), (13, 11, 15, 1, 0), (16, 1, 2, 2, 0), (17, 11, 15, 1, 0), (20, 17, 3, 0, 0), (21, 14, 1, 0, 0), (23, 9, 4, 2, 0), (25, 1, 1, 2, 0), (26, 11, 15, 1, 0), (29, 1, 2, 2, 0), (30, 11, 15, 1, 0), (33, 17, 3, 0, 0), (34, 14, 1, 0, 0), (36, 9, 5, 2, 0), (38, 2, 0, 0, 0), (39, 9, 6, 0, 0), (41, 1, 6, 0, 0), (43, 1, 3, 2, 0), (44, 12, 0, 0, 0), (45, 16, 3, 0, 12), (48, 1, 3, 2, 0), (49, 1, 6, 0, 0), (51, 2, 0, 4294967294, 0), (53, 30, 1, 0, 0), (54, 4, 6, 1, 0), (57, 3, 0, 0, 47), (60, 1, 3, 2, 0), (61, 2, 0, 0, 0), (62, 2, 0, 4294967295, 0), (63, 30, 1, 0, 0), (64, 2, 0, 1, 0), (65, 9, 6, 0, 0), (67, 2, 0, 0, 0), (68, 9, 7, 0, 0), (70, 1, 7, 0, 0), (72, 1, 6, 0, 0), (74, 16, 3, 0, 274), (77, 1, 5, 2, 0), (79, 1, 7, 0, 0), (81, 18, 1, 0, 0), (82, 1, 2, 2, 0), (83, 11, 15, 1, 0), (86, 17, 10, 0, 0), (87, 9, 8, 0, 0), (89, 1, 5, 2, 0), (91, 1, 7, 0, 0), (93, 18, 1, 0, 0), (94, 1, 2, 2, 0), (95, 11, 15, 1, 0), (98, 17, 11, 0, 0), (99, 9, 9, 0, 0), (101, 1, 1, 2, 0), (102, 11, 15, 2, 0), (105, 1, 8, 0, 0), (107, 18, 1, 0, 0), (108, 2, 0, 2, 0), (109, 16, 1, 0, 4), (112, 0, 0, 0, 0), (113, 0, 0, 0, 0), (116, 2, 0, 0, 0), (117, 9, 10, 0, 0), (119, 1, 10, 0, 0), (121, 10, 0, 0, 10), (124, 0, 0, 0, 0), (125, 0, 0, 0, 0), (128, 0, 0, 0, 0), (130, 0, 0, 0, 0), (131, 0, 0, 0, 0), (134, 1, 1, 2, 0), (135, 11, 15, 4, 0), (138, 1, 8, 0, 0), (140, 18, 1, 0, 0), (141, 9, 11, 0, 0), (143, 1, 10, 0, 0), (145, 10, 0, 0, 10), (148, 0, 0, 0, 0), (149, 0, 0, 0, 0), (152, 0, 0, 0, 0), (154, 0, 0, 0, 0), (155, 0, 0, 0, 0), (158, 1, 2, 2, 0), (159, 11, 15, 4, 0), (162, 1, 9, 0, 0), (164, 18, 1, 0, 0), (165, 9, 12, 0, 0), (167, 1, 1, 2, 0), (168, 11, 15, 2, 0), (171, 1, 8, 0, 0), (173, 18, 1, 0, 0), (174, 1, 2, 2, 0), (175, 11, 15, 2, 0), (178, 1, 9, 0, 0), (180, 18, 1, 0, 0), (181, 16, 1, 0, 30), (184, 1, 1, 2, 0), (185, 11, 15, 3, 0), (188, 1, 8, 0, 0), (190, 18, 1, 0, 0), (191, 1, 2, 2, 0), (192, 11, 15, 3, 0), (195, 1, 9, 0, 0), (197, 18, 1, 0, 0), (198, 16, 1, 0, 12), (201, 1, 11, 0, 0), (203, 1, 12, 0, 0), (205, 2, 0, 4294967295, 0), (206, 17, 6, 0, 0), (207, 17, 4, 0, 0), (208, 10, 0, 0, 16), (211, 0, 0, 0, 0), (212, 0, 0, 0, 0), (213, 0, 0, 0, 0), (215, 0, 0, 0, 0), (217, 0, 0, 0, 0), (219, 0, 0, 0, 0), (220, 0, 0, 0, 0), (223, 0, 0, 0, 0), (224, 2, 0, 0, 0), (225, 9, 13, 0, 0), (227, 1, 13, 0, 0), (229, 2, 0, 10, 0), (231, 16, 3, 0, 100), (234, 1, 11, 0, 0), (236, 1, 13, 0, 0), (238, 17, 8, 0, 0), (239, 2, 0, 1, 0), (240, 17, 4, 0, 0), (241, 10, 1, 0, 2), (244, 3, 0, 0, 82), (247, 0, 0, 0, 0), (248, 0, 0, 0, 0), (251, 0, 0, 0, 0), (253, 0, 0, 0, 0), (255, 0, 0, 0, 0), (256, 0, 0, 0, 0), (258, 0, 0, 0, 0), (259, 0, 0, 0, 0), (260, 0, 0, 0, 0), (261, 0, 0, 0, 0), (264, 0, 0, 0, 0), (265, 0, 0, 0, 0), (266, 0, 0, 0, 0), (269, 0, 0, 0, 0), (271, 0, 0, 0, 0), (273, 0, 0, 0, 0), (274, 0, 0, 0, 0), (276, 0, 0, 0, 0), (277, 0, 0, 0, 0), (278, 0, 0, 0, 0), (279, 0, 0, 0, 0), (281, 0, 0, 0, 0), (282, 0, 0, 0, 0), (284, 0, 0, 0, 0), (285, 0, 0, 0, 0), (287, 0, 0, 0, 0), (290, 0, 0, 0, 0), (291, 0, 0, 0, 0), (293, 0, 0, 0, 0), (295, 0, 0, 0, 0), (297, 0, 0, 0, 0), (298, 0, 0, 0, 0), (299, 0, 0, 0, 0), (301, 0, 0, 0, 0), (303, 0, 0, 0, 0), (305, 0, 0, 0, 0), (306, 0, 0, 0, 0), (308, 0, 0, 0, 0), (310, 0, 0, 0, 0), (312, 0, 0, 0, 0), (313, 0, 0, 0, 0), (316, 4, 13, 1, 0), (319, 3, 0, 0, 253), (322, 4, 7, 1, 0), (325, 3, 0, 0, 83), (328, 2, 0, 4294967295, 0), (329, 13, 0, 0, 0)]
set_option maxRecDepth 100000 in
def e_p212 : List e_E := [(0, 1, 0, 2, 0), (1, 2, 0, 0, 0), (2, 19, 1, 11, 0), (5, 1, 0, 2, 0), (6, 1, 1, 0, 0), (7, 8, 220, 1, 0), (10, 10, 0, 0, 10), (13, 1, 2, 0, 0), (14, 8, 220, 1, 0), (17, 10, 0, 0, 4), (20, 2, 0, 1, 0), (21, 3, 0, 0, 2), (24, 2, 0, 0, 0), (25, 2, 0, 1, 0), (26, 8, 245, 3, 2), (29, 10, 0, 0, 4), (32, 2, 0, 0, 0), (33, 13, 0, 1, 0), (34, 1, 0, 2, 0), (35, 11, 1, 1, 0), (38, 1, 1, 0, 0), (39, 18, 19, 0, 0), (40, 9, 3, 2, 0), (41, 1, 0, 2, 0), (42, 11, 1, 1, 0), (45, 1, 2, 0, 0), (46, 18, 19, 0, 0), (47, 9, 4, 2, 0), (49, 1, 3, 2, 0), (50, 8, 232, 1, 0), (53, 2, 0, 1, 0), (54, 1, 4, 2, 0), (56, 11, 15, 0, 0), (59, 17, 7, 0, 0), (60, 16, 1, 0, 32), (63, 0, 0, 0, 0), (65, 0, 0, 0, 0), (68, 0, 0, 0, 0), (69, 0, 0, 0, 0), (70, 0, 0, 0, 0), (73, 0, 0, 0, 0), (74, 0, 0, 0, 0), (77, 0, 0, 0, 0), (78, 0, 0, 0, 0), (79, 0, 0, 0, 0), (81, 0, 0, 0, 0), (84, 0, 0, 0, 0), (87, 0, 0, 0, 0), (88, 0, 0, 0, 0), (91, 0, 0, 0, 0), (92, 0, 0, 0, 0), (95, 2, 0, 0, 0), (96, 13, 0, 1, 0)]
set_option maxRecDepth 100000 in
def e_p213 : List e_E := [(0, 1, 0, 2, 0), (1, 2, 0, 0, 0), (2, 19, 1, 11, 0), (5, 1, 0, 2, 0), (6, 1, 0, 2, 0), (7, 1, 1, 0, 0), (8, 8, 216, 2, 2), (11, 2, 0, 1, 0), (12, 8, 245, 3, 2), (15, 10, 1, 0, 16), (18, 0, 0, 0, 0), (19, 0, 0, 0, 0), (20, 0, 0, 0, 0), (21, 0, 0, 0, 0), (22, 0, 0, 0, 0), (25, 0, 0, 0, 0), (26, 0, 0, 0, 0), (29, 0, 0, 0, 0), (32, 2, 0, 0, 0), (33, 13, 0, 0, 0), (34, 0, 0, 0, 0), (35, 0, 0, 0, 0), (36, 0, 0, 0, 0), (39, 0, 0, 0, 0), (40, 0, 0, 0, 0), (43, 0, 0, 0, 0), (44, 0, 0, 0, 0), (45, 0, 0, 0, 0), (46, 0, 0, 0, 0), (49, 0, 0, 0, 0), (50, 0, 0, 0, 0), (51, 0, 0, 0, 0), (54, 0, 0, 0, 0), (55, 0, 0, 0, 0), (58, 0, 0, 0, 0), (59, 0, 0, 0, 0), (60, 0, 0, 0, 0), (63, 0, 0, 0, 0), (66, 0, 0, 0, 0), (67, 0, 0, 0, 0), (68, 0, 0, 0, 0), (69, 0, 0, 0, 0), (70, 0, 0, 0, 0), (73, 0, 0, 0, 0), (74, 0, 0, 0, 0), (75, 0, 0, 0, 0), (76, 0, 0, 0, 0), (77, 0, 0, 0, 0), (80, 0, 0, 0, 0), (81, 0, 0, 0, 0), (84, 0, 0, 0, 0), (85, 0, 0, 0, 0), (88, 0, 0, 0, 0), (89, 0, 0, 0, 0), (90, 0, 0, 0, 0), (93, 0, 0, 0, 0), (96, 0, 0, 0, 0), (97, 0, 0, 0, 0), (98, 0, 0, 0, 0), (99, 0, 0, 0, 0), (102, 0, 0, 0, 0), (103, 0, 0, 0, 0), (104, 0, 0, 0, 0), (105, 0, 0, 0, 0), (106, 0, 0, 0, 0), (107, 0, 0, 0, 0), (108, 0, 0, 0, 0), (111, 0, 0, 0, 0), (112, 0, 0, 0, 0), (113, 0, 0, 0, 0), (114, 0, 0, 0, 0), (115, 0, 0, 0, 0), (118, 0, 0, 0, 0), (119, 0, 0, 0, 0), (120, 0, 0, 0, 0), (122, 0, 0, 0, 0), (124, 0, 0, 0, 0), (125, 0, 0, 0, 0), (128, 0, 0, 0, 0), (129, 0, 0, 0, 0), (130, 0, 0, 0, 0), (133, 0, 0, 0, 0), (134, 0, 0, 0, 0), (137, 0, 0, 0, 0), (138, 0, 0, 0, 0), (140, 0, 0, 0, 0), (141, 0, 0, 0, 0), (142, 0, 0, 0, 0), (145, 0, 0, 0, 0), (146, 0, 0, 0, 0), (148, 0, 0, 0, 0), (149, 0, 0, 0, 0), (150, 0, 0, 0, 0), (151, 0, 0, 0, 0), (152, 0, 0, 0, 0), (153, 0, 0, 0, 0), (156, 0, 0, 0, 0), (159, 0, 0, 0, 0), (160, 0, 0, 0, 0), (163, 0, 0, 0, 0), (164, 0, 0, 0, 0), (165, 0, 0, 0, 0), (166, 0, 0, 0, 0), (167, 0, 0, 0, 0), (168, 0, 0, 0, 0), (169, 0, 0, 0, 0), (170, 0, 0, 0, 0)]
set_option maxRecDepth 100000 in
def e_p214 : List e_E := [(0, 1, 0, 2, 0), (1, 2, 0, 0, 0), (2, 19, 1, 11, 0), (5, 1, 0, 2, 0), (6, 1, 1, 0, 0), (7, 2, 0, 0, 0), (8, 2, 0, 1, 0), (9, 8, 264, 3, 0), (12, 2, 0, 1, 0), (13, 8, 245, 3, 2), (16, 10, 0, 0, 4), (19, 2, 0, 0, 0), (20, 13, 0, 0, 0), (21, 7, 14, 11, 0), (24, 20, 0, 0, 0), (25, 8, 272, 1, 15), (28, 9, 2, 2, 0), (29, 2, 0, 0, 0), (30, 9, 3, 0, 0), (31, 1, 3, 0, 0), (32, 2, 0, 4, 0), (33, 16, 3, 0, 20), (36, 1, 2, 2, 0), (37, 11, 14, 0, 0), (40, 1, 3, 0, 0), (41, 1, 0, 2, 0), (42, 11, 1, 0, 0), (45, 1, 3, 0, 0), (46, 18, 20, 0, 0), (47, 43, 20, 0, 0), (48, 4, 3, 1, 0), (51, 3, 0, 0, 39), (54, 2, 0, 0, 0), (55, 9, 3, 0, 0), (56, 1, 3, 0, 0), (57, 2, 0, 8, 0), (59, 16, 3, 0, 20), (62, 1, 2, 2, 0), (63, 11, 14, 1, 0), (66, 1, 3, 0, 0), (67, 1, 0, 2, 0), (68, 11, 1, 1, 0), (71, 1, 3, 0, 0), (72, 18, 19, 0, 0), (73, 43, 19, 0, 0), (74, 4, 3, 1, 0), (77, 3, 0, 0, 69), (80, 2, 0, 0, 0), (81, 9, 3, 0, 0), (82, 1, 3, 0, 0), (83, 2, 0, 6, 0), (85, 16, 3, 0, 52), (88, 1, 2, 2, 0), (89, 11, 14, 2, 0), (92, 1, 3, 0, 0), (93, 1, 0, 2, 0), (94, 11, 1, 4, 0), (97, 1, 3, 0, 0), (98, 18, 19, 0, 0), (99, 43, 19, 0, 0), (100, 1, 2, 2, 0), (101, 11, 14, 3, 0), (104, 1, 3, 0, 0), (105, 1, 0, 2, 0), (106, 11, 1, 5, 0), (109, 1, 3, 0, 0), (110, 18, 1, 0, 0), (111, 30, 1, 0, 0), (112, 1, 2, 2, 0), (113, 11, 14, 5, 0), (116, 1, 3, 0, 0), (117, 1, 0, 2, 0), (118, 11, 1, 8, 0), (121, 1, 3, 0, 0), (122, 18, 1, 0, 0), (123, 30, 1, 0, 0), (124, 4, 3, 1, 0), (127, 3, 0, 0, 99), (130, 1, 0, 2, 0), (131, 11, 1, 6, 0), (134, 2, 0, 0, 0), (135, 1, 2, 2, 0), (136, 11, 14, 4, 0), (139, 2, 0, 0, 0), (140, 2, 0, 216, 0), (143, 33, 0, 0, 0), (146, 1, 2, 2, 0), (147, 1, 0, 2, 0), (148, 11, 1, 2, 0), (151, 19, 14, 6, 0), (154, 1, 2, 2, 0), (155, 1, 0, 2, 0), (156, 11, 1, 3, 0), (159, 19, 14, 7, 0), (162, 1, 2, 2, 0), (163, 1, 0, 2, 0), (164, 11, 1, 7, 0), (167, 19, 14, 8, 0), (170, 1, 2, 2, 0), (171, 1, 0, 2, 0), (172, 11, 1, 9, 0), (175, 19, 14, 9, 0), (178, 1, 2, 2, 0), (179, 1, 0, 2, 0), (180, 11, 1, 10, 0), (183, 19, 14, 10, 0), (186, 1, 0, 2, 0), (187, 11, 1, 40, 0), (190, 1, 1, 0, 0), (191, 1, 2, 2, 0), (192, 43, 18, 0, 0), (193, 1, 0, 2, 0), (194, 8, 192, 1, 2), (197, 13, 0, 0, 0)]
set_option maxRecDepth 100000 in
def e_p215 : List e_E := [(0, 1, 0, 2, 0), (1, 2, 0, 0, 0), (2, 19, 1, 11, 0), (5, 1, 0, 2, 0), (6, 1, 1, 0, 0), (7, 8, 220, 1, 0), (10, 10, 0, 0, 10), (13, 1, 2, 0, 0), (14, 8, 220, 1, 0), (17, 10, 0, 0, 4), (20, 2, 0, 1, 0), (21, 3, 0, 0, 2), (24, 2, 0, 0, 0), (25, 2, 0, 1, 0), (26, 8, 245, 3, 2), (29, 10, 0, 0, 4), (32, 2, 0, 0, 0), (33, 13, 0, 1, 0), (34, 1, 0, 2, 0), (35, 11, 1, 1, 0), (38, 1, 1, 0, 0), (39, 18, 19, 0, 0), (40, 11, 15, 0, 0), (43, 1, 0, 2, 0), (44, 11, 1, 1, 0), (47, 1, 2, 0, 0), (48, 18, 19, 0, 0), (49, 11, 15, 0, 0), (52, 16, 1, 0, 28), (55, 1, 0, 2, 0), (56, 1, 0, 2, 0), (57, 11, 1, 1, 0), (60, 1, 1, 0, 0), (61, 18, 19, 0, 0), (62, 1, 0, 2, 0), (63, 11, 1, 1, 0), (66, 1, 2, 0, 0), (67, 18, 19, 0, 0), (68, 8, 211, 3, 2), (71, 2, 0, 4294967295, 0), (72, 16, 1, 0, 4), (75, 2, 0, 1, 0), (76, 3, 0, 0, 2), (79, 0, 0, 0, 0), (80, 13, 0, 1, 0)]
set_option maxRecDepth 100000 in
def e_p216 : List e_E := [(0, 1, 0, 2, 0), (1, 11, 1, 2, 0), (4, 10, 5, 0, 26), (7, 0, 0, 0, 0), (8, 0, 0, 0, 0), (11, 0, 0, 0, 0), (14, 0, 0, 0, 0), (15, 0, 0, 0, 0), (18, 0, 0, 0, 0), (19, 0, 0, 0, 0), (20, 0, 0, 0, 0), (21, 0, 0, 0, 0), (22, 0, 0, 0, 0), (23, 0, 0, 0, 0), (26, 0, 0, 0, 0), (27, 0, 0, 0, 0), (30, 2, 0, 0, 0), (31, 13, 0, 1, 0)]
set_option maxRecDepth 100000 in
def e_p217 : List e_E := [(0, 1, 0, 0, 0), (1, 2, 0, 0, 0), (2, 2, 0, 9, 0), (4, 8, 264, 3, 0), (7, 13, 0, 1, 0)]
set_option maxRecDepth 100000 in
def e_p218 : List e_E := [(0, 1, 0, 0, 0), (1, 2, 0, 0, 0), (2, 2, 0, 5, 0), (3, 8, 264, 3, 0), (6, 13, 0, 1, 0)]
set_option maxRecDepth 100000 in
def e_p219 : List e_E := [(0, 1, 0, 2, 0), (1, 11, 1, 17, 0), (4, 2, 0, 5, 0), (5, 16, 1, 0, 12), (8, 0, 0, 0, 0), (9, 0, 0, 0, 0), (12, 0, 0, 0, 0), (13, 0, 0, 0, 0), (16, 0, 0, 0, 0), (17, 0, 0, 0, 0), (20, 2, 0, 0, 0), (21, 13, 0, 1, 0)]
set_option maxRecDepth 100000 in
def e_p220 : List e_E := [(0, 1, 0, 0, 0), (1, 2, 0, 0, 0), (2, 2, 0, 7, 0), (4, 8, 264, 3, 0), (7, 13, 0, 1, 0)]
set_option maxRecDepth 100000 in
def e_p221 : List e_E := [(0, 1, 0, 0, 0), (1, 2, 0, 0, 0), (2, 2, 0, 3, 0), (3, 8, 264, 3, 0), (6, 13, 0, 1, 0)]
set_option maxRecDepth 100000 in
def e_p222 : List e_E := [(0, 1, 0, 2, 0), (1, 2, 0, 0, 0), (2, 19, 1, 11, 0), (5, 1, 0, 2, 0), (6, 1, 0, 2, 0), (7, 11, 1, 2, 0), (10, 10, 5, 0, 4), (13, 0, 0, 0, 0), (14, 0, 0, 0, 0), (17, 2, 0, 0, 0), (18, 2, 0, 1, 0), (19, 8, 245, 3, 2), (22, 10, 0, 0, 4), (25, 2, 0, 0, 0), (26, 13, 0, 0, 0), (27, 0, 0, 0, 0), (28, 0, 0, 0, 0), (29, 0, 0, 0, 0), (30, 0, 0, 0, 0), (31, 0, 0, 0, 0), (34, 0, 0, 0, 0), (35, 0, 0, 0, 0), (36, 0, 0, 0, 0), (39, 0, 0, 0, 0), (40, 0, 0, 0, 0), (43, 0, 0, 0, 0), (46, 0, 0, 0, 0), (47, 0, 0, 0, 0), (50, 0, 0, 0, 0), (53, 0, 0, 0, 0), (54, 0, 0, 0, 0), (57, 0, 0, 0, 0), (60, 0, 0, 0, 0), (61, 0, 0, 0, 0), (64, 0, 0, 0, 0), (65, 0, 0, 0, 0), (66, 0, 0, 0, 0), (69, 0, 0, 0, 0), (72, 0, 0, 0, 0), (73, 0, 0, 0, 0)]
set_option maxRecDepth 100000 in
def e_p223 : List e_E := [(0, 1, 0, 2, 0), (1, 2, 0, 0, 0), (2, 19, 1, 11, 0), (5, 1, 0, 2, 0), (6, 1, 1, 0, 0), (7, 8, 218, 1, 0), (10, 10, 0, 0, 22), (13, 1, 2, 0, 0), (14, 8, 218, 1, 0), (17, 10, 0, 0, 16), (20, 1, 3, 0, 0), (21, 8, 217, 1, 0), (24, 10, 0, 0, 10), (27, 1, 1, 0, 0), (28, 1, 2, 0, 0), (29, 16, 0, 0, 4), (32, 2, 0, 1, 0), (33, 3, 0, 0, 2), (36, 2, 0, 0, 0), (37, 2, 0, 1, 0), (38, 8, 245, 3, 2), (41, 10, 1, 0, 28), (44, 1, 0, 2, 0), (45, 1, 0, 2, 0), (46, 11, 1, 2, 0), (49, 10, 5, 0, 4), (52, 0, 0, 0, 0), (53, 0, 0, 0, 0), (56, 2, 0, 0, 0), (57, 2, 0, 2, 0), (58, 8, 245, 3, 2), (61, 10, 1, 0, 8), (64, 0, 0, 0, 0), (65, 0, 0, 0, 0), (68, 0, 0, 0, 0), (69, 0, 0, 0, 0), (72, 2, 0, 0, 0), (73, 13, 0, 1, 0), (74, 0, 0, 0, 0), (75, 0, 0, 0, 0), (76, 0, 0, 0, 0), (79, 0, 0, 0, 0), (82, 0, 0, 0, 0), (83, 0, 0, 0, 0), (86, 0, 0, 0, 0), (87, 0, 0, 0, 0), (88, 0, 0, 0, 0), (91, 0, 0, 0, 0), (92, 0, 0, 0, 0), (94, 0, 0, 0, 0), (96, 0, 0, 0, 0), (99, 0, 0, 0, 0), (101, 0, 0, 0, 0), (104, 0, 0, 0, 0), (105, 0, 0, 0, 0), (108, 0, 0, 0, 0), (109, 0, 0, 0, 0), (110, 0, 0, 0, 0), (111, 0, 0, 0, 0), (112, 0, 0, 0, 0), (115, 0, 0, 0, 0), (117, 0, 0, 0, 0), (120, 0, 0, 0, 0), (121, 0, 0, 0, 0), (124, 0, 0, 0, 0), (125, 0, 0, 0, 0), (126, 0, 0, 0, 0), (127, 0, 0, 0, 0), (128, 0, 0, 0, 0), (131, 0, 0, 0, 0), (133, 0, 0, 0, 0), (136, 0, 0, 0, 0), (138, 0, 0, 0, 0), (139, 0, 0, 0, 0), (142, 0, 0, 0, 0), (143, 0, 0, 0, 0), (144, 0, 0, 0, 0), (145, 0, 0, 0, 0), (146, 0, 0, 0, 0), (147, 0, 0, 0, 0), (148, 0, 0, 0, 0), (149, 0, 0, 0, 0), (152, 0, 0, 0, 0), (153, 0, 0, 0, 0), (156, 0, 0, 0, 0), (157, 0, 0, 0, 0), (159, 0, 0, 0, 0), (161, 0, 0, 0, 0), (164, 0, 0, 0, 0), (165, 0, 0, 0, 0), (166, 0, 0, 0, 0), (169, 0, 0, 0, 0), (172, 0, 0, 0, 0), (173, 0, 0, 0, 0), (176, 0, 0, 0, 0), (177, 0, 0, 0, 0), (180, 0, 0, 0, 0), (181, 0, 0, 0, 0), (182, 0, 0, 0, 0), (183, 0, 0, 0, 0), (186, 0, 0, 0, 0), (189, 0, 0, 0, 0), (190, 0, 0, 0, 0), (192, 0, 0, 0, 0), (195, 0, 0, 0, 0), (196, 0, 0, 0, 0), (199, 0, 0, 0, 0), (200, 0, 0, 0, 0), (203, 0, 0, 0, 0), (204, 0, 0, 0, 0), (205, 0, 0, 0, 0), (206, 0, 0, 0, 0), (209, 0, 0, 0, 0), (210, 0, 0, 0, 0), (213, 0, 0, 0, 0), (214, 0, 0, 0, 0), (215, 0, 0, 0, 0), (216, 0, 0, 0, 0), (219, 0, 0, 0, 0), (220, 0, 0, 0, 0), (221, 0, 0, 0, 0), (224, 0, 0, 0, 0), (225, 0, 0, 0, 0), (226, 0, 0, 0, 0), (229, 0, 0, 0, 0), (230, 0, 0, 0, 0)]
set_option maxRecDepth 100000 in
def e_p224 : List e_E := [(0, 2, 1, 0, 0), (1, 9, 2, 1, 0), (2, 2, 0, 0, 0), (3, 9, 4, 0, 0), (5, 1, 4, 0, 0), (7, 1, 0, 2, 0), (8, 11, 16, 0, 0), (11, 16, 4, 0, 160), (14, 2, 0, 0, 0), (15, 9, 5, 0, 0), (17, 1, 5, 0, 0), (19, 1, 0, 2, 0), (20, 11, 16, 0, 0), (23, 16, 3, 0, 144), (26, 1, 0, 2, 0), (27, 11, 16, 1, 0), (30, 1, 5, 0, 0), (32, 18, 1, 0, 0), (33, 10, 0, 0, 36), (36, 0, 0, 0, 0), (37, 0, 0, 0, 0), (40, 0, 0, 0, 0), (42, 0, 0, 0, 0), (43, 0, 0, 0, 0), (44, 0, 0, 0, 0), (47, 0, 0, 0, 0), (48, 0, 0, 0, 0), (51, 0, 0, 0, 0), (53, 0, 0, 0, 0), (54, 0, 0, 0, 0), (55, 0, 0, 0, 0), (58, 0, 0, 0, 0), (59, 0, 0, 0, 0), (62, 0, 0, 0, 0), (64, 0, 0, 0, 0), (65, 0, 0, 0, 0), (66, 0, 0, 0, 0), (69, 2, 0, 1, 0), (70, 3, 0, 0, 2), (73, 0, 0, 0, 0), (74, 9, 6, 0, 0), (76, 2, 0, 0, 0), (77, 9, 7, 0, 0), (79, 1, 7, 0, 0), (81, 2, 0, 10, 0), (83, 16, 3, 0, 56), (86, 1, 6, 0, 0), (88, 10, 1, 0, 52), (91, 0, 0, 0, 0), (92, 0, 0, 0, 0), (95, 0, 0, 0, 0), (97, 0, 0, 0, 0), (99, 0, 0, 0, 0), (100, 0, 0, 0, 0), (102, 0, 0, 0, 0), (103, 0, 0, 0, 0), (104, 0, 0, 0, 0), (106, 0, 0, 0, 0), (108, 0, 0, 0, 0), (109, 0, 0, 0, 0), (112, 0, 0, 0, 0), (113, 0, 0, 0, 0), (115, 0, 0, 0, 0), (116, 0, 0, 0, 0), (117, 0, 0, 0, 0), (118, 0, 0, 0, 0), (119, 0, 0, 0, 0), (120, 0, 0, 0, 0), (123, 0, 0, 0, 0), (124, 0, 0, 0, 0), (127, 0, 0, 0, 0), (128, 0, 0, 0, 0), (130, 0, 0, 0, 0), (133, 0, 0, 0, 0), (136, 1, 2, 1, 0), (137, 1, 6, 0, 0), (139, 10, 0, 0, 8), (142, 2, 1, 1, 0), (143, 1, 5, 0, 0), (145, 27, 7, 0, 0), (146, 3, 0, 0, 2), (149, 0, 0, 0, 0), (150, 26, 5, 0, 0), (151, 9, 2, 1, 0), (152, 4, 5, 1, 0), (155, 3, 0, 0, 21), (158, 4, 4, 1, 0), (161, 3, 0, 0, 9), (164, 1, 2, 1, 0), (165, 13, 1, 0, 0)]
set_option maxRecDepth 100000 in
def e_p225 : List e_E := [(0, 2, 0, 1, 0), (1, 9, 5, 0, 0), (3, 2, 0, 1, 0), (4, 9, 6, 0, 0), (6, 2, 0, 0, 0), (7, 9, 7, 0, 0), (9, 2, 0, 0, 0), (10, 9, 8, 0, 0), (12, 2, 0, 0, 0), (13, 9, 9, 0, 0), (15, 1, 9, 0, 0), (17, 2, 0, 6, 0), (19, 16, 3, 0, 262), (22, 1, 3, 0, 0), (23, 1, 9, 0, 0), (25, 17, 8, 0, 0), (26, 2, 0, 1, 0), (27, 17, 4, 0, 0), (28, 10, 1, 0, 2), (31, 3, 0, 0, 244), (34, 0, 0, 0, 0), (35, 0, 0, 0, 0), (37, 0, 0, 0, 0), (38, 0, 0, 0, 0), (40, 0, 0, 0, 0), (42, 0, 0, 0, 0), (45, 0, 0, 0, 0), (46, 0, 0, 0, 0), (49, 0, 0, 0, 0), (51, 0, 0, 0, 0), (52, 0, 0, 0, 0), (53, 0, 0, 0, 0), (55, 0, 0, 0, 0), (57, 0, 0, 0, 0), (60, 0, 0, 0, 0), (62, 0, 0, 0, 0), (65, 0, 0, 0, 0), (66, 0, 0, 0, 0), (69, 0, 0, 0, 0), (70, 0, 0, 0, 0), (72, 0, 0, 0, 0), (74, 0, 0, 0, 0), (75, 0, 0, 0, 0), (78, 0, 0, 0, 0), (79, 0, 0, 0, 0), (82, 0, 0, 0, 0), (84, 0, 0, 0, 0), (86, 0, 0, 0, 0), (87, 0, 0, 0, 0), (89, 0, 0, 0, 0), (92, 0, 0, 0, 0), (93, 0, 0, 0, 0), (96, 0, 0, 0, 0), (98, 0, 0, 0, 0), (99, 0, 0, 0, 0), (100, 0, 0, 0, 0), (101, 0, 0, 0, 0), (102, 0, 0, 0, 0), (105, 0, 0, 0, 0), (107, 0, 0, 0, 0), (110, 0, 0, 0, 0), (111, 0, 0, 0, 0), (114, 0, 0, 0, 0), (115, 0, 0, 0, 0), (117, 0, 0, 0, 0), (118, 0, 0, 0, 0), (119, 0, 0, 0, 0), (122, 0, 0, 0, 0), (125, 0, 0, 0, 0), (127, 0, 0, 0, 0), (130, 0, 0, 0, 0), (131, 0, 0, 0, 0), (134, 0, 0, 0, 0), (135, 0, 0, 0, 0), (138, 0, 0, 0, 0), (140, 0, 0, 0, 0), (143, 0, 0, 0, 0), (145, 0, 0, 0, 0), (148, 0, 0, 0, 0), (149, 0, 0, 0, 0), (152, 0, 0, 0, 0), (153, 0, 0, 0, 0), (155, 0, 0, 0, 0), (158, 0, 0, 0, 0), (160, 0, 0, 0, 0), (161, 0, 0, 0, 0), (164, 0, 0, 0, 0), (165, 0, 0, 0, 0), (168, 0, 0, 0, 0), (170, 0, 0, 0, 0), (172, 0, 0, 0, 0), (175, 0, 0, 0, 0), (176, 0, 0, 0, 0), (179, 0, 0, 0, 0), (181, 0, 0, 0, 0), (182, 0, 0, 0, 0), (183, 0, 0, 0, 0), (184, 0, 0, 0, 0), (186, 0, 0, 0, 0), (187, 0, 0, 0, 0), (188, 0, 0, 0, 0), (190, 0, 0, 0, 0), (192, 0, 0, 0, 0), (195, 0, 0, 0, 0), (197, 0, 0, 0, 0), (200, 0, 0, 0, 0), (202, 0, 0, 0, 0), (203, 0, 0, 0, 0), (206, 0, 0, 0, 0), (208, 0, 0, 0, 0), (209, 0, 0, 0, 0), (210, 0, 0, 0, 0), (212, 0, 0, 0, 0), (214, 0, 0, 0, 0), (215, 0, 0, 0, 0), (216, 0, 0, 0, 0), (217, 0, 0, 0, 0), (218, 0, 0, 0, 0), (219, 0, 0, 0, 0), (220, 0, 0, 0, 0), (223, 0, 0, 0, 0), (224, 0, 0, 0, 0), (227, 0, 0, 0, 0), (228, 0, 0, 0, 0), (230, 0, 0, 0, 0), (232, 0, 0, 0, 0), (235, 0, 0, 0, 0), (237, 0, 0, 0, 0), (240, 0, 0, 0, 0), (242, 0, 0, 0, 0), (245, 0, 0, 0, 0), (246, 0, 0, 0, 0), (249, 0, 0, 0, 0), (250, 0, 0, 0, 0), (252, 0, 0, 0, 0), (254, 0, 0, 0, 0), (257, 0, 0, 0, 0), (259, 0, 0, 0, 0), (262, 0, 0, 0, 0), (263, 0, 0, 0, 0), (266, 0, 0, 0, 0), (267, 0, 0, 0, 0), (269, 4, 9, 1, 0), (272, 3, 0, 0, 21), (275, 1, 0, 2, 0), (276, 11, 1, 39, 0), (279, 9, 9, 2, 0), (281, 1, 9, 2, 0), (283, 12, 0, 0, 0), (284, 9, 10, 0, 0), (286, 2, 0, 0, 0), (287, 9, 11, 0, 0), (289, 1, 11, 0, 0), (291, 1, 10, 0, 0), (293, 16, 3, 0, 28), (296, 1, 9, 2, 0), (298, 1, 11, 0, 0), (300, 18, 1, 0, 0), (301, 9, 12, 0, 0), (303, 1, 8, 0, 0), (305, 10, 1, 0, 4), (308, 1, 12, 0, 0), (310, 10, 5, 0, 4), (313, 0, 0, 0, 0), (314, 0, 0, 0, 0), (317, 2, 0, 0, 0), (318, 9, 8, 0, 0), (320, 4, 11, 1, 0), (323, 3, 0, 0, 305), (326, 1, 0, 2, 0), (327, 1, 0, 2, 0), (328, 11, 1, 34, 0), (331, 2, 0, 4294967295, 0), (332, 16, 1, 0, 12), (335, 1, 5, 0, 0), (337, 10, 1, 0, 8), (340, 0, 0, 0, 0), (342, 0, 0, 0, 0), (345, 0, 0, 0, 0), (346, 0, 0, 0, 0), (349, 1, 0, 2, 0), (350, 11, 1, 34, 0), (353, 19, 1, 34, 0), (356, 1, 0, 2, 0), (357, 1, 0, 2, 0), (358, 11, 1, 35, 0), (361, 2, 0, 4294967295, 0), (362, 16, 1, 0, 8), (365, 1, 7, 0, 0), (367, 10, 0, 0, 4), (370, 0, 0, 0, 0), (371, 0, 0, 0, 0), (374, 1, 0, 2, 0), (375, 11, 1, 35, 0), (378, 19, 1, 35, 0), (381, 1, 0, 2, 0), (382, 1, 0, 2, 0), (383, 11, 1, 36, 0), (386, 2, 0, 4294967295, 0), (387, 16, 1, 0, 12), (390, 1, 5, 0, 0), (392, 10, 0, 0, 8), (395, 1, 8, 0, 0), (397, 10, 0, 0, 4), (400, 0, 0, 0, 0), (401, 0, 0, 0, 0), (404, 1, 0, 2, 0), (405, 11, 1, 36, 0), (408, 19, 1, 36, 0), (411, 5, 0, 0, 0)]
set_option maxRecDepth 100000 in
def e_p226 : List e_E := [(0, 1, 0, 2, 0), (1, 11, 1, 27, 0), (4, 15, 1, 0, 24), (7, 1, 0, 2, 0), (8, 2, 0, 7826, 0), (11, 14, 3, 0, 0), (13, 19, 1, 27, 3), (16, 1, 0, 2, 0), (17, 2, 0, 2048, 0), (20, 14, 1, 0, 0), (22, 19, 1, 28, 3), (25, 1, 0, 2, 0), (26, 2, 0, 602, 0), (29, 14, 1, 0, 0), (31, 19, 1, 29, 3), (34, 2, 0, 0, 0), (35, 9, 4, 0, 0), (37, 1, 4, 0, 0), (39, 2, 0, 2048, 0), (42, 16, 3, 0, 14), (45, 1, 0, 2, 0), (46, 11, 1, 28, 0), (49, 1, 4, 0, 0), (51, 2, 0, 0, 0), (52, 30, 1, 0, 0), (53, 4, 4, 1, 0), (56, 3, 0, 0, 35), (59, 2, 0, 0, 0), (60, 9, 4, 0, 0), (62, 1, 4, 0, 0), (64, 2, 0, 6, 0), (66, 16, 3, 0, 14), (69, 1, 0, 2, 0), (70, 11, 1, 38, 0), (73, 1, 4, 0, 0), (75, 2, 0, 0, 0), (76, 30, 1, 0, 0), (77, 4, 4, 1, 0), (80, 3, 0, 0, 59), (83, 2, 0, 0, 0), (84, 9, 4, 0, 0), (86, 1, 4, 0, 0), (88, 1, 0, 2, 0), (89, 11, 1, 39, 0), (92, 12, 0, 0, 0), (93, 16, 3, 0, 14), (96, 1, 0, 2, 0), (97, 11, 1, 39, 0), (100, 1, 4, 0, 0), (102, 2, 0, 0, 0), (103, 30, 1, 0, 0), (104, 4, 4, 1, 0), (107, 3, 0, 0, 83), (110, 1, 0, 2, 0), (111, 2, 0, 0, 0), (112, 19, 1, 30, 0), (115, 1, 0, 2, 0), (116, 2, 0, 0, 0), (117, 19, 1, 33, 1), (120, 1, 0, 2, 0), (121, 2, 0, 4294967295, 0), (122, 19, 1, 34, 0), (125, 1, 0, 2, 0), (126, 2, 0, 4294967295, 0), (127, 19, 1, 35, 0), (130, 1, 0, 2, 0), (131, 2, 0, 4294967295, 0), (132, 19, 1, 36, 0), (135, 1, 0, 2, 0), (136, 2, 0, 0, 0), (137, 19, 1, 37, 1), (140, 1, 0, 2, 0), (141, 2, 0, 0, 0), (142, 8, 228, 2, 2), (145, 2, 0, 0, 0), (146, 9, 4, 0, 0), (148, 1, 4, 0, 0), (150, 1, 0, 2, 0), (151, 11, 1, 30, 0), (154, 16, 3, 0, 78), (157, 1, 0, 2, 0), (158, 11, 1, 33, 0), (161, 10, 1, 0, 72), (164, 1, 0, 2, 0), (165, 1, 4, 0, 0), (167, 8, 262, 2, 2), (170, 1, 0, 2, 0), (171, 1, 4, 0, 0), (173, 1, 1, 2, 0), (174, 1, 2, 0, 0), (175, 1, 3, 0, 0), (176, 8, 225, 5, 2), (179, 2, 0, 0, 0), (180, 9, 5, 0, 0), (182, 1, 5, 0, 0), (184, 2, 0, 6, 0), (186, 16, 3, 0, 40), (189, 1, 0, 2, 0), (190, 11, 1, 33, 0), (193, 10, 1, 0, 34), (196, 1, 2, 0, 0), (197, 1, 5, 0, 0), (199, 17, 8, 0, 0), (200, 2, 0, 1, 0), (201, 17, 4, 0, 0), (202, 2, 0, 1, 0), (203, 16, 1, 0, 16), (206, 0, 0, 0, 0), (207, 0, 0, 0, 0), (209, 0, 0, 0, 0), (210, 0, 0, 0, 0), (212, 0, 0, 0, 0), (213, 0, 0, 0, 0), (215, 0, 0, 0, 0), (216, 0, 0, 0, 0), (219, 4, 5, 1, 0), (222, 3, 0, 0, 189), (225, 4, 4, 1, 0), (228, 3, 0, 0, 153), (231, 5, 0, 0, 0)]
set_option maxRecDepth 100000 in
def e_p227 : List e_E := [(0, 1, 0, 2, 0), (1, 2, 0, 0, 0), (2, 19, 1, 11, 0), (5, 2, 0, 0, 0), (6, 9, 1, 0, 0), (7, 2, 0, 0, 0), (8, 9, 2, 0, 0), (9, 1, 0, 2, 0), (10, 11, 1, 0, 0), (13, 9, 3, 2, 0), (14, 1, 3, 2, 0), (15, 12, 0, 0, 0), (16, 9, 4, 0, 0), (18, 2, 0, 0, 0), (19, 9, 5, 0, 0), (21, 1, 5, 0, 0), (23, 1, 4, 0, 0), (25, 16, 3, 0, 68), (28, 1, 3, 2, 0), (29, 1, 5, 0, 0), (31, 18, 20, 0, 0), (32, 9, 6, 2, 0), (34, 2, 0, 0, 0), (35, 9, 7, 0, 0), (37, 1, 7, 0, 0), (39, 1, 6, 2, 0), (41, 11, 16, 0, 0), (44, 16, 3, 0, 44), (47, 1, 1, 0, 0), (48, 1, 6, 2, 0), (50, 11, 16, 4, 0), (53, 1, 7, 0, 0), (55, 18, 1, 0, 0), (56, 8, 275, 1, 0), (59, 17, 1, 0, 0), (60, 9, 1, 0, 0), (61, 1, 2, 0, 0), (62, 1, 6, 2, 0), (64, 11, 16, 1, 0), (67, 1, 7, 0, 0), (69, 18, 1, 0, 0), (70, 2, 0, 1, 0), (71, 16, 1, 0, 4), (74, 0, 0, 0, 0), (75, 0, 0, 0, 0), (78, 2, 0, 0, 0), (79, 17, 1, 0, 0), (80, 9, 2, 0, 0), (81, 4, 7, 1, 0), (84, 3, 0, 0, 49), (87, 4, 5, 1, 0), (90, 3, 0, 0, 31), (93, 1, 2, 0, 0), (94, 10, 1, 0, 4), (97, 2, 7, 0, 0), (98, 3, 0, 0, 10), (101, 0, 0, 0, 0), (102, 0, 0, 0, 0), (103, 0, 0, 0, 0), (104, 0, 0, 0, 0), (105, 0, 0, 0, 0), (106, 13, 4, 0, 0)]
set_option maxRecDepth 100000 in
def e_p228 : List e_E := [(0, 2, 0, 13, 0), (2, 1, 0, 2, 0), (3, 11, 1, 30, 0), (6, 17, 3, 0, 0), (7, 9, 2, 0, 0), (8, 1, 0, 2, 0), (9, 11, 1, 27, 0), (12, 1, 2, 0, 0), (13, 2, 1, 0, 0), (14, 30, 3, 0, 0), (15, 2, 0, 0, 0), (16, 9, 3, 0, 0), (17, 1, 3, 0, 0), (18, 2, 0, 6, 0), (20, 16, 3, 0, 36), (23, 1, 0, 2, 0), (24, 11, 1, 27, 0), (27, 1, 2, 0, 0), (28, 1, 0, 2, 0), (29, 11, 1, 27, 0), (32, 1, 2, 0, 0), (33, 18, 3, 0, 0), (34, 2, 0, 10, 0), (36, 27, 7, 0, 0), (37, 1, 0, 2, 0), (38, 11, 1, 38, 0), (41, 1, 3, 0, 0), (42, 18, 1, 0, 0), (43, 22, 0, 0, 0), (44, 26, 5, 0, 0), (45, 30, 3, 0, 0), (46, 4, 3, 1, 0), (49, 3, 0, 0, 25), (52, 2, 0, 1, 0), (53, 9, 3, 0, 0), (54, 1, 3, 0, 0), (55, 2, 0, 13, 0), (57, 16, 3, 0, 82), (60, 1, 0, 2, 0), (61, 11, 1, 27, 0), (64, 1, 2, 0, 0), (65, 1, 3, 0, 0), (66, 17, 1, 0, 0), (67, 1, 0, 2, 0), (68, 11, 1, 39, 0), (71, 2, 0, 3, 0), (72, 1, 3, 0, 0), (73, 17, 3, 0, 0), (74, 2, 0, 3, 0), (75, 17, 2, 0, 0), (76, 18, 1, 0, 0), (77, 22, 0, 0, 0), (78, 2, 0, 40, 0), (80, 27, 7, 0, 0), (81, 1, 0, 2, 0), (82, 11, 1, 39, 0), (85, 2, 0, 3, 0), (86, 1, 3, 0, 0), (87, 17, 3, 0, 0), (88, 2, 0, 2, 0), (89, 17, 2, 0, 0), (90, 18, 1, 0, 0), (91, 22, 0, 0, 0), (92, 2, 0, 20, 0), (94, 27, 7, 0, 0), (95, 26, 5, 0, 0), (96, 1, 0, 2, 0), (97, 11, 1, 39, 0), (100, 2, 0, 3, 0), (101, 1, 3, 0, 0), (102, 17, 3, 0, 0), (103, 2, 0, 1, 0), (104, 17, 2, 0, 0), (105, 18, 1, 0, 0), (106, 22, 0, 0, 0), (107, 26, 5, 0, 0), (108, 30, 3, 0, 0), (109, 4, 3, 1, 0), (112, 3, 0, 0, 71), (115, 2, 1, 0, 0), (116, 9, 3, 1, 0), (117, 2, 0, 0, 0), (118, 9, 5, 0, 0), (120, 1, 5, 0, 0), (122, 2, 0, 13, 0), (124, 16, 3, 0, 38), (127, 1, 3, 1, 0), (128, 1, 0, 2, 0), (129, 11, 1, 27, 0), (132, 1, 2, 0, 0), (133, 1, 5, 0, 0), (135, 17, 1, 0, 0), (136, 18, 3, 0, 0), (137, 26, 6, 0, 0), (138, 2, 1, 11400714819323198485, 0), (141, 26, 3, 0, 0), (142, 9, 3, 1, 0), (143, 1, 3, 1, 0), (144, 1, 3, 1, 0), (145, 2, 0, 29, 0), (147, 27, 9, 0, 0), (148, 26, 6, 0, 0), (149, 9, 3, 1, 0), (150, 4, 5, 1, 0), (153, 3, 0, 0, 167), (156, 1, 3, 1, 0), (157, 2, 0, 40, 0), (159, 27, 9, 0, 0), (160, 23, 0, 0, 0), (161, 2, 0, 2047, 0), (164, 17, 4, 0, 0), (165, 9, 5, 0, 0), (167, 1, 0, 2, 0), (168, 11, 1, 28, 0), (171, 1, 5, 0, 0), (173, 18, 1, 0, 0), (174, 10, 5, 0, 92), (177, 0, 0, 0, 0), (178, 0, 0, 0, 0), (180, 0, 0, 0, 0), (181, 0, 0, 0, 0), (183, 0, 0, 0, 0), (185, 0, 0, 0, 0), (187, 0, 0, 0, 0), (190, 0, 0, 0, 0), (192, 0, 0, 0, 0), (195, 0, 0, 0, 0), (196, 0, 0, 0, 0), (199, 0, 0, 0, 0), (201, 0, 0, 0, 0), (202, 0, 0, 0, 0), (205, 0, 0, 0, 0), (207, 0, 0, 0, 0), (208, 0, 0, 0, 0), (209, 0, 0, 0, 0), (210, 0, 0, 0, 0), (211, 0, 0, 0, 0), (213, 0, 0, 0, 0), (214, 0, 0, 0, 0), (215, 0, 0, 0, 0), (216, 0, 0, 0, 0), (219, 0, 0, 0, 0), (220, 0, 0, 0, 0), (222, 0, 0, 0, 0), (223, 0, 0, 0, 0), (224, 0, 0, 0, 0), (225, 0, 0, 0, 0), (228, 0, 0, 0, 0), (229, 0, 0, 0, 0), (232, 0, 0, 0, 0), (233, 0, 0, 0, 0), (235, 0, 0, 0, 0), (238, 0, 0, 0, 0), (241, 0, 0, 0, 0), (243, 0, 0, 0, 0), (246, 0, 0, 0, 0), (247, 0, 0, 0, 0), (249, 0, 0, 0, 0), (250, 0, 0, 0, 0), (251, 0, 0, 0, 0), (254, 0, 0, 0, 0), (255, 0, 0, 0, 0), (257, 0, 0, 0, 0), (260, 1, 0, 2, 0), (261, 11, 1, 28, 0), (264, 1, 5, 0, 0), (266, 1, 0, 2, 0), (267, 11, 1, 30, 0), (270, 2, 0, 1, 0), (271, 17, 1, 0, 0), (272, 30, 1, 0, 0), (273, 1, 0, 2, 0), (274, 11, 1, 29, 0), (277, 1, 0, 2, 0), (278, 11, 1, 30, 0), (281, 1, 1, 0, 0), (282, 30, 1, 0, 0), (283, 1, 0, 2, 0), (284, 20, 0, 0, 0), (285, 11, 1, 30, 0), (288, 2, 0, 1, 0), (289, 17, 1, 0, 0), (290, 19, 1, 30, 0), (293, 5, 0, 0, 0)]
set_option maxRecDepth 100000 in
def e_p229 : List e_E := [(0, 1, 0, 2, 0), (1, 2, 0, 0, 0), (2, 19, 1, 11, 0), (5, 1, 0, 2, 0), (6, 1, 1, 0, 0), (7, 8, 220, 1, 0), (10, 10, 0, 0, 10), (13, 1, 2, 0, 0), (14, 8, 220, 1, 0), (17, 10, 0, 0, 4), (20, 2, 0, 1, 0), (21, 3, 0, 0, 2), (24, 2, 0, 0, 0), (25, 2, 0, 1, 0), (26, 8, 245, 3, 2), (29, 10, 1, 0, 30), (32, 1, 0, 2, 0), (33, 1, 0, 2, 0), (34, 11, 1, 1, 0), (37, 1, 1, 0, 0), (38, 18, 19, 0, 0), (39, 8, 232, 1, 0), (42, 8, 275, 1, 0), (45, 2, 0, 1, 0), (46, 16, 1, 0, 4), (49, 0, 0, 0, 0), (50, 0, 0, 0, 0), (53, 2, 0, 0, 0), (54, 2, 0, 2, 0), (55, 8, 245, 3, 2), (58, 10, 0, 0, 4), (61, 2, 0, 0, 0), (62, 13, 0, 0, 0), (63, 0, 0, 0, 0), (64, 0, 0, 0, 0), (67, 0, 0, 0, 0), (68, 0, 0, 0, 0), (69, 0, 0, 0, 0), (72, 0, 0, 0, 0), (73, 0, 0, 0, 0), (74, 0, 0, 0, 0), (77, 0, 0, 0, 0), (78, 0, 0, 0, 0), (79, 0, 0, 0, 0), (82, 0, 0, 0, 0), (83, 0, 0, 0, 0), (84, 0, 0, 0, 0), (87, 0, 0, 0, 0)]
set_option maxRecDepth 100000 in
def e_p230 : List e_E := [(0, 1, 0, 2, 0), (1, 11, 1, 22, 0), (4, 9, 4, 0, 0), (6, 1, 0, 2, 0), (7, 20, 0, 0, 0), (8, 11, 1, 22, 0), (11, 2, 0, 1, 0), (12, 17, 1, 0, 0), (13, 19, 1, 22, 0), (16, 1, 0, 2, 0), (17, 11, 1, 21, 0), (20, 11, 16, 1, 0), (23, 1, 4, 0, 0), (25, 1, 1, 0, 0), (26, 30, 1, 0, 0), (27, 1, 0, 2, 0), (28, 11, 1, 21, 0), (31, 11, 16, 2, 0), (34, 1, 4, 0, 0), (36, 1, 2, 0, 0), (37, 30, 1, 0, 0), (38, 1, 0, 2, 0), (39, 11, 1, 21, 0), (42, 11, 16, 3, 0), (45, 1, 4, 0, 0), (47, 1, 3, 0, 0), (48, 30, 1, 0, 0), (49, 1, 0, 2, 0), (50, 11, 1, 21, 0), (53, 11, 16, 4, 0), (56, 1, 4, 0, 0), (58, 2, 0, 0, 0), (59, 30, 1, 0, 0), (60, 1, 0, 2, 0), (61, 11, 1, 21, 0), (64, 11, 16, 5, 0), (67, 1, 4, 0, 0), (69, 8, 202, 2, 0), (72, 2, 0, 0, 0), (73, 9, 5, 0, 0), (75, 1, 5, 0, 0), (77, 1, 0, 2, 0), (78, 11, 1, 23, 0), (81, 12, 0, 0, 0), (82, 16, 3, 0, 36), (85, 1, 0, 2, 0), (86, 11, 1, 23, 0), (89, 1, 5, 0, 0), (91, 1, 0, 2, 0), (92, 11, 1, 23, 0), (95, 1, 5, 0, 0), (97, 18, 1, 0, 0), (98, 2, 0, 4294967295, 0), (99, 16, 1, 0, 4), (102, 0, 0, 0, 0), (104, 0, 0, 0, 0), (107, 1, 0, 2, 0), (108, 11, 1, 23, 0), (111, 1, 5, 0, 0), (113, 18, 1, 0, 0), (114, 30, 1, 0, 0), (115, 4, 5, 1, 0), (118, 3, 0, 0, 81), (121, 1, 4, 0, 0), (123, 13, 0, 0, 0)]
set_option maxRecDepth 100000 in
def e_p231 : List e_E := [(0, 1, 0, 2, 0), (1, 2, 0, 0, 0), (2, 19, 1, 11, 0), (5, 1, 0, 2, 0), (6, 1, 1, 0, 0), (7, 8, 221, 1, 0), (10, 10, 0, 0, 10), (13, 1, 3, 0, 0), (14, 8, 217, 1, 0), (17, 10, 0, 0, 4), (20, 2, 0, 1, 0), (21, 3, 0, 0, 2), (24, 2, 0, 0, 0), (25, 2, 0, 1, 0), (26, 8, 245, 3, 2), (29, 10, 1, 0, 28), (32, 1, 0, 2, 0), (33, 1, 2, 0, 0), (34, 2, 0, 0, 0), (35, 1, 0, 2, 0), (36, 11, 1, 0, 0), (39, 1, 1, 0, 0), (40, 18, 20, 0, 0), (41, 11, 16, 0, 0), (44, 2, 0, 1, 0), (45, 17, 2, 0, 0), (46, 8, 264, 3, 0), (49, 2, 0, 2, 0), (50, 8, 245, 3, 2), (53, 10, 0, 0, 4), (56, 2, 0, 0, 0), (57, 13, 0, 0, 0), (58, 1, 0, 2, 0), (59, 11, 1, 0, 0), (62, 1, 1, 0, 0), (63, 18, 20, 0, 0), (64, 11, 16, 5, 0), (67, 2, 0, 10, 0), (69, 1, 2, 0, 0), (70, 17, 3, 0, 0), (71, 1, 3, 0, 0), (72, 17, 1, 0, 0), (73, 18, 1, 0, 0), (74, 13, 0, 0, 0)]
set_option maxRecDepth 100000 in
def e_p232 : List e_E := [(0, 2, 0, 0, 0), (1, 9, 1, 0, 0), (2, 2, 0, 0, 0), (3, 9, 2, 0, 0), (4, 1, 2, 0, 0), (5, 1, 0, 2, 0), (6, 11, 15, 1, 0), (9, 16, 3, 0, 38), (12, 1, 1, 0, 0), (13, 1, 0, 2, 0), (14, 11, 15, 3, 0), (17, 1, 2, 0, 0), (18, 18, 1, 0, 0), (19, 2, 0, 4294967295, 0), (20, 16, 1, 0, 4), (23, 2, 0, 0, 0), (24, 3, 0, 0, 12), (27, 0, 0, 0, 0), (28, 0, 0, 0, 0), (29, 0, 0, 0, 0), (32, 0, 0, 0, 0), (33, 0, 0, 0, 0), (34, 0, 0, 0, 0), (35, 17, 5, 0, 0), (36, 9, 1, 0, 0), (37, 4, 2, 1, 0), (40, 3, 0, 0, 9), (43, 1, 1, 0, 0), (44, 13, 0, 0, 0)]
set_option maxRecDepth 100000 in
def e_p233 : List e_E := [(0, 1, 0, 2, 0), (1, 2, 0, 0, 0), (2, 19, 1, 11, 0), (5, 1, 0, 2, 0), (6, 1, 1, 0, 0), (7, 8, 221, 1, 0), (10, 10, 0, 0, 16), (13, 1, 2, 0, 0), (14, 8, 218, 1, 0), (17, 10, 0, 0, 10), (20, 1, 3, 0, 0), (21, 8, 220, 1, 0), (24, 10, 0, 0, 4), (27, 2, 0, 1, 0), (28, 3, 0, 0, 2), (31, 2, 0, 0, 0), (32, 2, 0, 1, 0), (33, 8, 245, 3, 2), (36, 10, 0, 0, 4), (39, 2, 0, 0, 0), (40, 13, 0, 0, 0), (41, 7, 13, 12, 0), (44, 20, 0, 0, 0), (45, 1, 0, 2, 0), (46, 11, 1, 0, 0), (49, 1, 1, 0, 0), (50, 18, 20, 0, 0), (51, 1, 2, 0, 0), (52, 8, 267, 3, 14), (55, 9, 4, 2, 0), (57, 1, 0, 2, 0), (58, 1, 4, 2, 0), (60, 11, 13, 9, 0), (63, 2, 0, 4294967295, 0), (64, 16, 1, 0, 4), (67, 2, 0, 1, 0), (68, 3, 0, 0, 2), (71, 0, 0, 0, 0), (72, 2, 0, 2, 0), (73, 8, 245, 3, 2), (76, 10, 0, 0, 4), (79, 0, 0, 0, 0), (80, 0, 0, 0, 0), (81, 1, 0, 2, 0), (82, 11, 1, 0, 0), (85, 1, 1, 0, 0), (86, 18, 20, 0, 0), (87, 8, 250, 1, 0), (90, 1, 2, 0, 0), (91, 17, 8, 0, 0), (92, 2, 0, 1, 0), (93, 17, 4, 0, 0), (94, 2, 0, 1, 0), (95, 16, 1, 0, 4), (98, 0, 0, 0, 0), (99, 0, 0, 0, 0), (102, 2, 0, 0, 0), (103, 9, 5, 0, 0), (105, 1, 0, 2, 0), (106, 11, 1, 1, 0), (109, 1, 3, 0, 0), (110, 1, 5, 0, 0), (112, 10, 0, 0, 6), (115, 0, 0, 0, 0), (117, 0, 0, 0, 0), (120, 0, 0, 0, 0), (123, 1, 2, 0, 0), (124, 8, 206, 1, 0), (127, 43, 19, 0, 0), (128, 1, 0, 2, 0), (129, 11, 1, 1, 0), (132, 1, 3, 0, 0), (133, 18, 19, 0, 0), (134, 11, 15, 1, 0), (137, 13, 0, 0, 0)]
set_option maxRecDepth 100000 in
def e_p234 : List e_E := [(0, 2, 0, 6, 0), (2, 14, 19, 0, 0), (5, 9, 1, 2, 0), (6, 1, 0, 2, 0), (7, 8, 250, 1, 0), (10, 9, 2, 0, 0), (11, 2, 0, 0, 0), (12, 9, 3, 0, 0), (13, 1, 3, 0, 0), (14, 2, 0, 6, 0), (16, 16, 3, 0, 40), (19, 1, 1, 2, 0), (20, 1, 3, 0, 0), (21, 1, 2, 0, 0), (22, 1, 3, 0, 0), (23, 17, 8, 0, 0), (24, 2, 0, 1, 0), (25, 17, 4, 0, 0), (26, 2, 0, 1, 0), (27, 16, 1, 0, 14), (30, 0, 0, 0, 0), (33, 0, 0, 0, 0), (34, 0, 0, 0, 0), (35, 0, 0, 0, 0), (36, 0, 0, 0, 0), (39, 0, 0, 0, 0), (42, 0, 0, 0, 0), (45, 2, 3, 0, 0), (46, 43, 19, 0, 0), (47, 4, 3, 1, 0), (50, 3, 0, 0, 17), (53, 1, 1, 2, 0), (54, 13, 2, 0, 0)]
set_option maxRecDepth 100000 in
def e_p235 : List e_E := [(0, 1, 0, 2, 0), (1, 2, 0, 0, 0), (2, 19, 1, 11, 0), (5, 1, 0, 2, 0), (6, 1, 1, 0, 0), (7, 8, 221, 1, 0), (10, 10, 0, 0, 14), (13, 1, 3, 0, 0), (14, 2, 0, 0, 0), (15, 2, 0, 3, 0), (16, 8, 264, 3, 0), (19, 10, 0, 0, 4), (22, 2, 0, 1, 0), (23, 3, 0, 0, 2), (26, 2, 0, 0, 0), (27, 2, 0, 1, 0), (28, 8, 245, 3, 2), (31, 10, 1, 0, 28), (34, 1, 0, 2, 0), (35, 1, 2, 0, 0), (36, 2, 0, 0, 0), (37, 1, 0, 2, 0), (38, 11, 1, 0, 0), (41, 1, 1, 0, 0), (42, 18, 20, 0, 0), (43, 11, 16, 0, 0), (46, 2, 0, 1, 0), (47, 17, 2, 0, 0), (48, 8, 264, 3, 0), (51, 2, 0, 2, 0), (52, 8, 245, 3, 2), (55, 10, 0, 0, 4), (58, 2, 0, 0, 0), (59, 13, 0, 0, 0), (60, 1, 0, 2, 0), (61, 11, 1, 0, 0), (64, 1, 1, 0, 0), (65, 18, 20, 0, 0), (66, 9, 4, 2, 0), (68, 1, 3, 0, 0), (69, 10, 1, 0, 10), (72, 1, 4, 2, 0), (74, 11, 16, 1, 0), (77, 1, 2, 0, 0), (78, 18, 1, 0, 0), (79, 3, 0, 0, 40), (82, 1, 3, 0, 0), (83, 2, 0, 1, 0), (84, 16, 1, 0, 10), (87, 1, 4, 2, 0), (89, 11, 16, 2, 0), (92, 1, 2, 0, 0), (93, 18, 1, 0, 0), (94, 3, 0, 0, 24), (97, 1, 3, 0, 0), (98, 2, 0, 2, 0), (99, 16, 1, 0, 10), (102, 1, 4, 2, 0), (104, 11, 16, 3, 0), (107, 1, 2, 0, 0), (108, 18, 1, 0, 0), (109, 3, 0, 0, 8), (112, 1, 4, 2, 0), (114, 11, 16, 4, 0), (117, 1, 2, 0, 0), (118, 18, 1, 0, 0), (119, 13, 0, 0, 0)]
set_option maxRecDepth 100000 in
def e_p236 : List e_E := [(0, 1, 0, 2, 0), (1, 2, 0, 0, 0), (2, 19, 1, 11, 0), (5, 1, 0, 2, 0), (6, 1, 1, 0, 0), (7, 8, 221, 1, 0), (10, 2, 0, 1, 0), (11, 8, 245, 3, 2), (14, 10, 0, 0, 4), (17, 2, 0, 0, 0), (18, 3, 0, 0, 10), (21, 1, 0, 2, 0), (22, 11, 1, 0, 0), (25, 1, 1, 0, 0), (26, 18, 20, 0, 0), (27, 11, 16, 0, 0), (30, 13, 0, 0, 0)]
set_option maxRecDepth 100000 in
def e_p237 : List e_E := [(0, 2, 1, 0, 0), (1, 9, 2, 1, 0), (2, 2, 0, 0, 0), (3, 9, 4, 0, 0), (5, 1, 4, 0, 0), (7, 1, 0, 2, 0), (8, 11, 16, 0, 0), (11, 16, 4, 0, 150), (14, 2, 0, 0, 0), (15, 9, 5, 0, 0), (17, 1, 5, 0, 0), (19, 1, 0, 2, 0), (20, 11, 16, 0, 0), (23, 16, 3, 0, 134), (26, 1, 0, 2, 0), (27, 11, 16, 1, 0), (30, 1, 5, 0, 0), (32, 18, 1, 0, 0), (33, 2, 0, 1, 0), (34, 16, 1, 0, 28), (37, 0, 0, 0, 0), (38, 0, 0, 0, 0), (41, 0, 0, 0, 0), (43, 0, 0, 0, 0), (44, 0, 0, 0, 0), (45, 0, 0, 0, 0), (48, 0, 0, 0, 0), (49, 0, 0, 0, 0), (52, 0, 0, 0, 0), (54, 0, 0, 0, 0), (55, 0, 0, 0, 0), (56, 0, 0, 0, 0), (59, 0, 0, 0, 0), (60, 0, 0, 0, 0), (63, 2, 0, 0, 0), (64, 9, 6, 0, 0), (66, 2, 0, 0, 0), (67, 9, 7, 0, 0), (69, 1, 7, 0, 0), (71, 2, 0, 10, 0), (73, 16, 3, 0, 56), (76, 1, 6, 0, 0), (78, 10, 1, 0, 52), (81, 1, 0, 2, 0), (82, 11, 16, 5, 0), (85, 2, 0, 10, 0), (87, 1, 5, 0, 0), (89, 17, 3, 0, 0), (90, 1, 7, 0, 0), (92, 17, 1, 0, 0), (93, 18, 1, 0, 0), (94, 9, 8, 0, 0), (96, 1, 8, 0, 0), (98, 2, 0, 4294967295, 0), (99, 16, 0, 0, 20), (102, 0, 0, 0, 0), (103, 0, 0, 0, 0), (105, 0, 0, 0, 0), (106, 0, 0, 0, 0), (107, 0, 0, 0, 0), (108, 0, 0, 0, 0), (109, 0, 0, 0, 0), (110, 0, 0, 0, 0), (113, 0, 0, 0, 0), (114, 0, 0, 0, 0), (117, 2, 0, 0, 0), (118, 9, 6, 0, 0), (120, 4, 7, 1, 0), (123, 3, 0, 0, 77), (126, 1, 2, 1, 0), (127, 1, 6, 0, 0), (129, 10, 0, 0, 8), (132, 0, 0, 0, 0), (133, 0, 0, 0, 0), (135, 0, 0, 0, 0), (136, 0, 0, 0, 0), (139, 2, 1, 0, 0), (140, 26, 5, 0, 0), (141, 9, 2, 1, 0), (142, 4, 5, 1, 0), (145, 3, 0, 0, 21), (148, 4, 4, 1, 0), (151, 3, 0, 0, 9), (154, 1, 2, 1, 0), (155, 13, 1, 0, 0)]
set_option maxRecDepth 100000 in
def e_p238 : List e_E := [(0, 1, 0, 2, 0), (1, 2, 0, 0, 0), (2, 19, 1, 11, 0), (5, 1, 0, 2, 0), (6, 1, 1, 0, 0), (7, 8, 220, 1, 0), (10, 2, 0, 1, 0), (11, 8, 245, 3, 2), (14, 10, 1, 0, 36), (17, 1, 0, 2, 0), (18, 1, 0, 2, 0), (19, 11, 1, 7, 0), (22, 10, 1, 0, 20), (25, 1, 0, 2, 0), (26, 1, 0, 2, 0), (27, 11, 1, 1, 0), (30, 1, 1, 0, 0), (31, 18, 19, 0, 0), (32, 11, 15, 0, 0), (35, 8, 216, 2, 2), (38, 10, 0, 0, 4), (41, 0, 0, 0, 0), (42, 0, 0, 0, 0), (45, 2, 0, 0, 0), (46, 2, 0, 2, 0), (47, 8, 245, 3, 2), (50, 10, 0, 0, 4), (53, 2, 0, 0, 0), (54, 13, 0, 0, 0), (55, 0, 0, 0, 0), (56, 0, 0, 0, 0), (59, 0, 0, 0, 0), (60, 0, 0, 0, 0), (61, 0, 0, 0, 0), (64, 0, 0, 0, 0), (65, 0, 0, 0, 0), (66, 0, 0, 0, 0), (69, 0, 0, 0, 0), (70, 0, 0, 0, 0), (71, 0, 0, 0, 0), (74, 0, 0, 0, 0), (75, 0, 0, 0, 0), (76, 0, 0, 0, 0), (77, 0, 0, 0, 0), (78, 0, 0, 0, 0), (81, 0, 0, 0, 0), (82, 0, 0, 0, 0), (83, 0, 0, 0, 0), (84, 0, 0, 0, 0), (85, 0, 0, 0, 0), (86, 0, 0, 0, 0), (89, 0, 0, 0, 0), (90, 0, 0, 0, 0), (91, 0, 0, 0, 0), (94, 0, 0, 0, 0), (95, 0, 0, 0, 0), (98, 0, 0, 0, 0), (99, 0, 0, 0, 0)]
set_option maxRecDepth 100000 in
def e_p239 : List e_E := [(0, 1, 0, 2, 0), (1, 2, 0, 0, 0), (2, 19, 1, 11, 0), (5, 1, 0, 2, 0), (6, 1, 1, 0, 0), (7, 8, 218, 1, 0), (10, 10, 0, 0, 10), (13, 1, 2, 0, 0), (14, 8, 218, 1, 0), (17, 10, 0, 0, 4), (20, 2, 0, 1, 0), (21, 3, 0, 0, 2), (24, 2, 0, 0, 0), (25, 2, 0, 1, 0), (26, 8, 245, 3, 2), (29, 10, 0, 0, 4), (32, 2, 0, 0, 0), (33, 3, 0, 0, 12), (36, 1, 0, 2, 0), (37, 11, 1, 6, 0), (40, 1, 1, 0, 0), (41, 1, 2, 0, 0), (42, 8, 241, 2, 0), (45, 18, 1, 0, 0), (46, 13, 0, 0, 0)]
set_option maxRecDepth 100000 in
def e_p240 : List e_E := [(0, 1, 0, 2, 0), (1, 2, 0, 0, 0), (2, 19, 1, 11, 0), (5, 1, 0, 2, 0), (6, 1, 1, 0, 0), (7, 8, 218, 1, 0), (10, 10, 0, 0, 10), (13, 1, 2, 0, 0), (14, 8, 218, 1, 0), (17, 10, 0, 0, 4), (20, 2, 0, 1, 0), (21, 3, 0, 0, 2), (24, 2, 0, 0, 0), (25, 2, 0, 1, 0), (26, 8, 245, 3, 2), (29, 10, 1, 0, 30), (32, 1, 0, 2, 0), (33, 1, 3, 0, 0), (34, 2, 0, 0, 0), (35, 1, 0, 2, 0), (36, 11, 1, 6, 0), (39, 1, 1, 0, 0), (40, 1, 2, 0, 0), (41, 8, 241, 2, 0), (44, 18, 1, 0, 0), (45, 2, 0, 1, 0), (46, 17, 2, 0, 0), (47, 8, 264, 3, 0), (50, 2, 0, 2, 0), (51, 8, 245, 3, 2), (54, 10, 0, 0, 4), (57, 2, 0, 0, 0), (58, 13, 0, 0, 0), (59, 0, 0, 0, 0), (60, 0, 0, 0, 0), (63, 0, 0, 0, 0), (64, 0, 0, 0, 0), (65, 0, 0, 0, 0), (68, 0, 0, 0, 0), (69, 0, 0, 0, 0), (70, 0, 0, 0, 0), (71, 0, 0, 0, 0), (72, 0, 0, 0, 0), (73, 0, 0, 0, 0)]
set_option maxRecDepth 100000 in
def e_p241 : List e_E := [(0, 2, 0, 6, 0), (2, 2, 0, 6, 0), (4, 1, 0, 0, 0), (5, 17, 3, 0, 0), (6, 1, 1, 0, 0), (7, 17, 1, 0, 0), (8, 17, 3, 0, 0), (9, 13, 0, 0, 0)]
set_option maxRecDepth 100000 in
def e_p242 : List e_E := [(0, 1, 0, 2, 0), (1, 2, 0, 0, 0), (2, 19, 1, 11, 0), (5, 1, 0, 2, 0), (6, 1, 1, 0, 0), (7, 8, 221, 1, 0), (10, 2, 0, 1, 0), (11, 8, 245, 3, 2), (14, 10, 0, 0, 4), (17, 2, 0, 0, 0), (18, 13, 0, 0, 0), (19, 1, 0, 2, 0), (20, 2, 0, 0, 0), (21, 19, 1, 15, 0), (24, 1, 0, 2, 0), (25, 2, 0, 0, 0), (26, 19, 1, 20, 0), (29, 1, 0, 2, 0), (30, 2, 0, 4294967295, 0), (31, 19, 1, 19, 0), (34, 1, 0, 2, 0), (35, 2, 0, 0, 0), (36, 19, 1, 24, 0), (39, 1, 0, 2, 0), (40, 7, 16, 6, 0), (43, 20, 0, 0, 0), (44, 2, 0, 240, 0), (47, 8, 274, 2, 17), (50, 19, 1, 21, 3), (53, 1, 0, 2, 0), (54, 2, 0, 0, 0), (55, 19, 1, 22, 0), (58, 2, 0, 0, 0), (59, 9, 2, 0, 0), (60, 1, 2, 0, 0), (61, 1, 0, 2, 0), (62, 11, 1, 23, 0), (65, 12, 0, 0, 0), (66, 16, 3, 0, 14), (69, 1, 0, 2, 0), (70, 11, 1, 23, 0), (73, 1, 2, 0, 0), (74, 2, 0, 4294967294, 0), (76, 30, 1, 0, 0), (77, 4, 2, 1, 0), (80, 3, 0, 0, 69), (83, 1, 0, 2, 0), (84, 2, 0, 0, 0), (85, 2, 0, 4294967295, 0), (86, 2, 0, 4294967295, 0), (87, 8, 230, 4, 2), (90, 9, 2, 0, 0), (91, 1, 0, 2, 0), (92, 8, 243, 1, 2), (95, 1, 0, 2, 0), (96, 2, 0, 0, 0), (97, 8, 244, 2, 2), (100, 9, 3, 0, 0), (101, 1, 3, 0, 0), (102, 2, 0, 4294967293, 0), (104, 16, 0, 0, 14), (107, 0, 0, 0, 0), (108, 0, 0, 0, 0), (111, 0, 0, 0, 0), (113, 0, 0, 0, 0), (116, 0, 0, 0, 0), (117, 0, 0, 0, 0), (120, 0, 0, 0, 0), (121, 1, 0, 2, 0), (122, 1, 3, 0, 0), (123, 2, 0, 4294967293, 0), (125, 16, 1, 0, 6), (128, 1, 0, 2, 0), (129, 11, 1, 19, 0), (132, 3, 0, 0, 2), (135, 0, 0, 0, 0), (136, 19, 1, 14, 0), (139, 1, 0, 2, 0), (140, 2, 0, 0, 0), (141, 19, 1, 13, 0), (144, 1, 0, 2, 0), (145, 1, 3, 0, 0), (146, 2, 0, 4294967293, 0), (148, 16, 0, 0, 4), (151, 0, 0, 0, 0), (152, 0, 0, 0, 0), (155, 2, 0, 0, 0), (156, 2, 0, 1, 0), (157, 8, 245, 3, 2), (160, 10, 0, 0, 4), (163, 2, 0, 0, 0), (164, 13, 0, 0, 0), (165, 0, 0, 0, 0), (166, 0, 0, 0, 0), (169, 0, 0, 0, 0), (170, 0, 0, 0, 0), (171, 0, 0, 0, 0), (174, 0, 0, 0, 0), (175, 0, 0, 0, 0), (178, 0, 0, 0, 0), (179, 0, 0, 0, 0), (180, 0, 0, 0, 0), (183, 0, 0, 0, 0), (184, 0, 0, 0, 0), (185, 0, 0, 0, 0), (188, 0, 0, 0, 0)]
set_option maxRecDepth 100000 in
def e_p243 : List e_E := [(0, 1, 0, 2, 0), (1, 11, 1, 15, 0), (4, 1, 0, 2, 0), (5, 11, 1, 13, 0), (8, 16, 3, 0, 42), (11, 0, 0, 0, 0), (12, 0, 0, 0, 0), (15, 0, 0, 0, 0), (16, 0, 0, 0, 0), (19, 0, 0, 0, 0), (20, 0, 0, 0, 0), (22, 0, 0, 0, 0), (25, 0, 0, 0, 0), (26, 0, 0, 0, 0), (29, 0, 0, 0, 0), (30, 0, 0, 0, 0), (33, 0, 0, 0, 0), (34, 0, 0, 0, 0), (36, 0, 0, 0, 0), (39, 0, 0, 0, 0), (40, 0, 0, 0, 0), (41, 0, 0, 0, 0), (44, 0, 0, 0, 0), (45, 0, 0, 0, 0), (46, 0, 0, 0, 0), (49, 0, 0, 0, 0), (52, 1, 0, 2, 0), (53, 1, 0, 2, 0), (54, 11, 1, 15, 0), (57, 19, 1, 16, 0), (60, 1, 0, 2, 0), (61, 11, 1, 15, 0), (64, 1, 0, 2, 0), (65, 11, 1, 13, 0), (68, 16, 1, 0, 8), (71, 1, 0, 2, 0), (72, 2, 0, 7, 0), (74, 19, 1, 17, 0), (77, 5, 0, 0, 0), (78, 0, 0, 0, 0), (79, 0, 0, 0, 0), (80, 0, 0, 0, 0), (83, 0, 0, 0, 0), (84, 0, 0, 0, 0), (87, 0, 0, 0, 0), (88, 0, 0, 0, 0), (91, 0, 0, 0, 0), (92, 0, 0, 0, 0), (93, 0, 0, 0, 0), (96, 0, 0, 0, 0), (99, 0, 0, 0, 0), (102, 0, 0, 0, 0), (103, 0, 0, 0, 0), (104, 0, 0, 0, 0), (107, 0, 0, 0, 0), (110, 0, 0, 0, 0), (113, 0, 0, 0, 0), (114, 0, 0, 0, 0), (115, 0, 0, 0, 0), (118, 0, 0, 0, 0), (119, 0, 0, 0, 0), (120, 0, 0, 0, 0), (123, 0, 0, 0, 0), (126, 0, 0, 0, 0), (127, 0, 0, 0, 0), (130, 0, 0, 0, 0), (131, 0, 0, 0, 0), (134, 0, 0, 0, 0), (135, 0, 0, 0, 0), (136, 0, 0, 0, 0), (139, 0, 0, 0, 0), (140, 0, 0, 0, 0), (143, 0, 0, 0, 0), (144, 0, 0, 0, 0), (145, 0, 0, 0, 0), (146, 0, 0, 0, 0), (147, 0, 0, 0, 0), (149, 0, 0, 0, 0), (152, 0, 0, 0, 0), (155, 0, 0, 0, 0), (156, 0, 0, 0, 0), (159, 0, 0, 0, 0), (160, 0, 0, 0, 0), (162, 0, 0, 0, 0), (165, 0, 0, 0, 0), (168, 0, 0, 0, 0), (169, 0, 0, 0, 0), (172, 0, 0, 0, 0), (173, 0, 0, 0, 0), (176, 0, 0, 0, 0), (177, 0, 0, 0, 0), (180, 0, 0, 0, 0), (182, 0, 0, 0, 0), (185, 0, 0, 0, 0), (186, 0, 0, 0, 0), (189, 0, 0, 0, 0), (190, 0, 0, 0, 0), (193, 0, 0, 0, 0), (194, 0, 0, 0, 0), (197, 0, 0, 0, 0), (199, 0, 0, 0, 0), (202, 0, 0, 0, 0), (203, 0, 0, 0, 0), (206, 0, 0, 0, 0), (208, 0, 0, 0, 0), (211, 0, 0, 0, 0), (212, 0, 0, 0, 0), (213, 0, 0, 0, 0), (216, 0, 0, 0, 0), (217, 0, 0, 0, 0), (220, 0, 0, 0, 0), (223, 0, 0, 0, 0), (225, 0, 0, 0, 0), (228, 0, 0, 0, 0), (229, 0, 0, 0, 0), (232, 0, 0, 0, 0), (233, 0, 0, 0, 0), (236, 0, 0, 0, 0), (238, 0, 0, 0, 0), (241, 0, 0, 0, 0), (242, 0, 0, 0, 0), (243, 0, 0, 0, 0), (246, 0, 0, 0, 0), (247, 0, 0, 0, 0), (248, 0, 0, 0, 0), (249, 0, 0, 0, 0), (252, 0, 0, 0, 0), (253, 0, 0, 0, 0), (254, 0, 0, 0, 0), (257, 0, 0, 0, 0), (258, 0, 0, 0, 0), (261, 0, 0, 0, 0), (263, 0, 0, 0, 0), (265, 0, 0, 0, 0), (268, 0, 0, 0, 0), (271, 0, 0, 0, 0), (272, 0, 0, 0, 0), (273, 0, 0, 0, 0), (274, 0, 0, 0, 0), (277, 0, 0, 0, 0), (280, 0, 0, 0, 0), (283, 0, 0, 0, 0), (285, 0, 0, 0, 0), (288, 0, 0, 0, 0), (289, 0, 0, 0, 0), (292, 0, 0, 0, 0), (293, 0, 0, 0, 0), (294, 0, 0, 0, 0), (297, 0, 0, 0, 0), (299, 0, 0, 0, 0), (300, 0, 0, 0, 0), (303, 0, 0, 0, 0), (304, 0, 0, 0, 0), (305, 0, 0, 0, 0), (308, 0, 0, 0, 0), (310, 0, 0, 0, 0), (313, 0, 0, 0, 0), (314, 0, 0, 0, 0), (317, 0, 0, 0, 0), (319, 0, 0, 0, 0), (322, 0, 0, 0, 0), (323, 0, 0, 0, 0), (326, 0, 0, 0, 0), (328, 0, 0, 0, 0), (331, 0, 0, 0, 0), (332, 0, 0, 0, 0), (335, 0, 0, 0, 0), (337, 0, 0, 0, 0), (340, 0, 0, 0, 0), (341, 0, 0, 0, 0), (344, 0, 0, 0, 0), (346, 0, 0, 0, 0), (349, 0, 0, 0, 0), (350, 0, 0, 0, 0), (353, 0, 0, 0, 0), (355, 0, 0, 0, 0), (358, 0, 0, 0, 0), (359, 0, 0, 0, 0), (362, 0, 0, 0, 0), (364, 0, 0, 0, 0), (367, 0, 0, 0, 0), (368, 0, 0, 0, 0), (371, 0, 0, 0, 0), (373, 0, 0, 0, 0), (376, 0, 0, 0, 0), (377, 0, 0, 0, 0), (380, 0, 0, 0, 0), (381, 0, 0, 0, 0), (382, 0, 0, 0, 0), (383, 0, 0, 0, 0), (384, 0, 0, 0, 0), (387, 0, 0, 0, 0), (388, 0, 0, 0, 0), (391, 0, 0, 0, 0), (393, 0, 0, 0, 0), (396, 0, 0, 0, 0)]
set_option maxRecDepth 100000 in
def e_p244 : List e_E := [(0, 1, 0, 2, 0), (1, 11, 1, 17, 0), (4, 2, 0, 2, 0), (5, 16, 1, 0, 58), (8, 0, 0, 0, 0), (9, 0, 0, 0, 0), (12, 0, 0, 0, 0), (13, 0, 0, 0, 0), (14, 0, 0, 0, 0), (15, 0, 0, 0, 0), (16, 0, 0, 0, 0), (19, 0, 0, 0, 0), (20, 0, 0, 0, 0), (23, 0, 0, 0, 0), (24, 0, 0, 0, 0), (27, 0, 0, 0, 0), (28, 0, 0, 0, 0), (29, 0, 0, 0, 0), (32, 0, 0, 0, 0), (33, 0, 0, 0, 0), (34, 0, 0, 0, 0), (35, 0, 0, 0, 0), (38, 0, 0, 0, 0), (39, 0, 0, 0, 0), (42, 0, 0, 0, 0), (43, 0, 0, 0, 0), (46, 0, 0, 0, 0), (47, 0, 0, 0, 0), (48, 0, 0, 0, 0), (49, 0, 0, 0, 0), (52, 0, 0, 0, 0), (55, 0, 0, 0, 0), (56, 0, 0, 0, 0), (57, 1, 0, 2, 0), (58, 11, 1, 17, 0), (61, 2, 0, 1, 0), (62, 16, 1, 0, 38), (65, 0, 0, 0, 0), (66, 0, 0, 0, 0), (69, 0, 0, 0, 0), (70, 0, 0, 0, 0), (73, 0, 0, 0, 0), (74, 0, 0, 0, 0), (77, 0, 0, 0, 0), (78, 0, 0, 0, 0), (81, 0, 0, 0, 0), (82, 0, 0, 0, 0), (83, 0, 0, 0, 0), (86, 0, 0, 0, 0), (87, 0, 0, 0, 0), (90, 0, 0, 0, 0), (91, 0, 0, 0, 0), (92, 0, 0, 0, 0), (93, 0, 0, 0, 0), (96, 0, 0, 0, 0), (97, 0, 0, 0, 0), (98, 1, 0, 2, 0), (99, 11, 1, 17, 0), (102, 2, 0, 3, 0), (103, 16, 1, 0, 8), (106, 0, 0, 0, 0), (107, 0, 0, 0, 0), (108, 0, 0, 0, 0), (111, 0, 0, 0, 0), (112, 1, 0, 2, 0), (113, 11, 1, 17, 0), (116, 10, 1, 0, 8), (119, 0, 0, 0, 0), (120, 0, 0, 0, 0), (121, 0, 0, 0, 0), (124, 0, 0, 0, 0), (125, 1, 0, 2, 0), (126, 2, 0, 40, 0), (128, 8, 219, 2, 2), (131, 10, 0, 0, 8), (134, 0, 0, 0, 0), (135, 0, 0, 0, 0), (136, 0, 0, 0, 0), (139, 0, 0, 0, 0), (142, 1, 0, 2, 0), (143, 8, 265, 1, 2), (146, 13, 0, 0, 0)]
set_option maxRecDepth 100000 in
def e_p245 : List e_E := [(0, 1, 1, 0, 0), (1, 10, 1, 0, 6), (4, 1, 0, 2, 0), (5, 1, 2, 0, 0), (6, 19, 1, 11, 0), (9, 1, 1, 0, 0), (10, 10, 1, 0, 4), (13, 2, 0, 1, 0), (14, 3, 0, 0, 2), (17, 2, 0, 0, 0), (18, 13, 0, 1, 0)]
set_option maxRecDepth 100000 in
def e_p246 : List e_E := [(0, 1, 0, 2, 0), (1, 2, 0, 0, 0), (2, 19, 1, 11, 0), (5, 1, 0, 2, 0), (6, 1, 1, 0, 0), (7, 2, 0, 0, 0), (8, 2, 0, 1, 0), (9, 8, 264, 3, 0), (12, 2, 0, 1, 0), (13, 8, 245, 3, 2), (16, 10, 1, 0, 24), (19, 1, 0, 2, 0), (20, 1, 0, 2, 0), (21, 11, 1, 40, 0), (24, 1, 1, 0, 0), (25, 18, 18, 0, 0), (26, 15, 0, 0, 4), (29, 0, 0, 0, 0), (30, 0, 0, 0, 0), (33, 2, 0, 0, 0), (34, 2, 0, 2, 0), (35, 8, 245, 3, 2), (38, 10, 0, 0, 4), (41, 2, 0, 0, 0), (42, 13, 0, 0, 0), (43, 0, 0, 0, 0), (44, 0, 0, 0, 0), (47, 0, 0, 0, 0), (48, 0, 0, 0, 0), (49, 0, 0, 0, 0), (50, 0, 0, 0, 0), (51, 0, 0, 0, 0), (52, 0, 0, 0, 0), (53, 0, 0, 0, 0), (54, 0, 0, 0, 0), (57, 0, 0, 0, 0), (58, 0, 0, 0, 0), (61, 0, 0, 0, 0), (62, 0, 0, 0, 0), (63, 0, 0, 0, 0), (66, 0, 0, 0, 0), (67, 0, 0, 0, 0), (68, 0, 0, 0, 0), (69, 0, 0, 0, 0), (72, 0, 0, 0, 0), (75, 0, 0, 0, 0), (76, 0, 0, 0, 0), (77, 0, 0, 0, 0), (78, 0, 0, 0, 0), (80, 0, 0, 0, 0), (83, 0, 0, 0, 0), (84, 0, 0, 0, 0), (87, 0, 0, 0, 0), (88, 0, 0, 0, 0), (89, 0, 0, 0, 0), (92, 0, 0, 0, 0), (93, 0, 0, 0, 0), (94, 0, 0, 0, 0), (95, 0, 0, 0, 0), (98, 0, 0, 0, 0), (101, 0, 0, 0, 0), (102, 0, 0, 0, 0), (103, 0, 0, 0, 0), (104, 0, 0, 0, 0), (106, 0, 0, 0, 0), (109, 0, 0, 0, 0), (110, 0, 0, 0, 0), (113, 0, 0, 0, 0), (114, 0, 0, 0, 0), (115, 0, 0, 0, 0), (118, 0, 0, 0, 0), (119, 0, 0, 0, 0), (120, 0, 0, 0, 0), (121, 0, 0, 0, 0), (122, 0, 0, 0, 0), (125, 0, 0, 0, 0), (126, 0, 0, 0, 0), (127, 0, 0, 0, 0), (130, 0, 0, 0, 0), (131, 0, 0, 0, 0), (132, 0, 0, 0, 0), (133, 0, 0, 0, 0), (134, 0, 0, 0, 0), (137, 0, 0, 0, 0), (138, 0, 0, 0, 0), (139, 0, 0, 0, 0), (142, 0, 0, 0, 0), (143, 0, 0, 0, 0), (144, 0, 0, 0, 0), (145, 0, 0, 0, 0), (148, 0, 0, 0, 0), (151, 0, 0, 0, 0), (152, 0, 0, 0, 0), (155, 0, 0, 0, 0), (156, 0, 0, 0, 0), (157, 0, 0, 0, 0), (160, 0, 0, 0, 0), (161, 0, 0, 0, 0), (164, 0, 0, 0, 0), (167, 0, 0, 0, 0), (168, 0, 0, 0, 0), (169, 0, 0, 0, 0), (172, 0, 0, 0, 0), (175, 0, 0, 0, 0), (176, 0, 0, 0, 0), (177, 0, 0, 0, 0), (180, 0, 0, 0, 0), (183, 0, 0, 0, 0), (184, 0, 0, 0, 0), (185, 0, 0, 0, 0), (188, 0, 0, 0, 0), (191, 0, 0, 0, 0), (192, 0, 0, 0, 0), (193, 0, 0, 0, 0), (196, 0, 0, 0, 0), (199, 0, 0, 0, 0), (200, 0, 0, 0, 0), (201, 0, 0, 0, 0), (204, 0, 0, 0, 0), (207, 0, 0, 0, 0), (208, 0, 0, 0, 0), (209, 0, 0, 0, 0), (212, 0, 0, 0, 0), (213, 0, 0, 0, 0), (214, 0, 0, 0, 0), (217, 0, 0, 0, 0), (218, 0, 0, 0, 0), (221, 0, 0, 0, 0)]
set_option maxRecDepth 100000 in
def e_p247 : List e_E := [(0, 1, 0, 2, 0), (1, 2, 0, 0, 0), (2, 19, 1, 11, 0), (5, 1, 0, 2, 0), (6, 1, 1, 0, 0), (7, 2, 0, 1, 0), (8, 2, 0, 5, 0), (9, 8, 264, 3, 0), (12, 2, 0, 1, 0), (13, 8, 245, 3, 2), (16, 10, 1, 0, 20), (19, 1, 0, 2, 0), (20, 1, 0, 2, 0), (21, 11, 1, 2, 0), (24, 10, 5, 0, 4), (27, 0, 0, 0, 0), (28, 0, 0, 0, 0), (31, 2, 0, 0, 0), (32, 2, 0, 2, 0), (33, 8, 245, 3, 2), (36, 10, 0, 0, 4), (39, 2, 0, 0, 0), (40, 13, 0, 0, 0), (41, 0, 0, 0, 0), (42, 0, 0, 0, 0), (43, 0, 0, 0, 0), (46, 0, 0, 0, 0), (47, 0, 0, 0, 0), (48, 0, 0, 0, 0), (51, 0, 0, 0, 0), (54, 0, 0, 0, 0), (55, 0, 0, 0, 0), (58, 0, 0, 0, 0), (59, 0, 0, 0, 0), (62, 0, 0, 0, 0), (63, 0, 0, 0, 0), (66, 0, 0, 0, 0), (67, 0, 0, 0, 0), (68, 0, 0, 0, 0), (71, 0, 0, 0, 0), (74, 0, 0, 0, 0), (75, 0, 0, 0, 0), (76, 0, 0, 0, 0), (77, 0, 0, 0, 0), (78, 0, 0, 0, 0), (81, 0, 0, 0, 0), (84, 0, 0, 0, 0), (85, 0, 0, 0, 0), (86, 0, 0, 0, 0), (87, 0, 0, 0, 0), (89, 0, 0, 0, 0), (91, 0, 0, 0, 0), (94, 0, 0, 0, 0), (95, 0, 0, 0, 0), (97, 0, 0, 0, 0), (100, 0, 0, 0, 0), (103, 0, 0, 0, 0), (104, 0, 0, 0, 0), (107, 0, 0, 0, 0), (109, 0, 0, 0, 0), (110, 0, 0, 0, 0), (113, 0, 0, 0, 0), (114, 0, 0, 0, 0), (117, 0, 0, 0, 0), (119, 0, 0, 0, 0), (120, 0, 0, 0, 0), (121, 0, 0, 0, 0), (124, 0, 0, 0, 0), (126, 0, 0, 0, 0), (129, 0, 0, 0, 0), (130, 0, 0, 0, 0), (131, 0, 0, 0, 0), (134, 0, 0, 0, 0), (137, 0, 0, 0, 0), (138, 0, 0, 0, 0), (140, 0, 0, 0, 0), (141, 0, 0, 0, 0), (143, 0, 0, 0, 0), (145, 0, 0, 0, 0), (148, 0, 0, 0, 0), (149, 0, 0, 0, 0), (150, 0, 0, 0, 0), (153, 0, 0, 0, 0), (156, 0, 0, 0, 0), (158, 0, 0, 0, 0), (159, 0, 0, 0, 0), (160, 0, 0, 0, 0), (161, 0, 0, 0, 0), (162, 0, 0, 0, 0), (165, 0, 0, 0, 0), (166, 0, 0, 0, 0), (169, 0, 0, 0, 0), (170, 0, 0, 0, 0), (171, 0, 0, 0, 0), (174, 0, 0, 0, 0), (175, 0, 0, 0, 0), (178, 0, 0, 0, 0), (179, 0, 0, 0, 0), (180, 0, 0, 0, 0), (181, 0, 0, 0, 0), (184, 0, 0, 0, 0), (186, 0, 0, 0, 0), (189, 0, 0, 0, 0), (190, 0, 0, 0, 0), (191, 0, 0, 0, 0), (193, 0, 0, 0, 0), (194, 0, 0, 0, 0), (195, 0, 0, 0, 0), (196, 0, 0, 0, 0), (197, 0, 0, 0, 0), (199, 0, 0, 0, 0), (202, 0, 0, 0, 0), (203, 0, 0, 0, 0), (206, 0, 0, 0, 0), (207, 0, 0, 0, 0), (208, 0, 0, 0, 0), (211, 0, 0, 0, 0), (212, 0, 0, 0, 0), (215, 0, 0, 0, 0), (216, 0, 0, 0, 0), (217, 0, 0, 0, 0), (218, 0, 0, 0, 0), (219, 0, 0, 0, 0), (222, 0, 0, 0, 0), (223, 0, 0, 0, 0), (224, 0, 0, 0, 0), (227, 0, 0, 0, 0), (228, 0, 0, 0, 0)]
set_option maxRecDepth 100000 in
def e_p248 : List e_E := [(0, 1, 0, 2, 0), (1, 2, 0, 0, 0), (2, 19, 1, 11, 0), (5, 1, 0, 2, 0), (6, 1, 1, 0, 0), (7, 8, 220, 1, 0), (10, 2, 0, 1, 0), (11, 8, 245, 3, 2), (14, 10, 0, 0, 4), (17, 2, 0, 0, 0), (18, 3, 0, 0, 10), (21, 1, 0, 2, 0), (22, 11, 1, 1, 0), (25, 1, 1, 0, 0), (26, 18, 19, 0, 0), (27, 11, 15, 0, 0), (30, 13, 0, 0, 0)]
set_option maxRecDepth 100000 in
def e_p249 : List e_E := [(0, 1, 0, 2, 0), (1, 2, 0, 0, 0), (2, 19, 1, 11, 0), (5, 1, 0, 2, 0), (6, 1, 1, 0, 0), (7, 8, 221, 1, 0), (10, 2, 0, 1, 0), (11, 8, 245, 3, 2), (14, 10, 0, 0, 4), (17, 2, 0, 0, 0), (18, 3, 0, 0, 10), (21, 1, 0, 2, 0), (22, 11, 1, 0, 0), (25, 1, 1, 0, 0), (26, 18, 20, 0, 0), (27, 8, 250, 1, 0), (30, 13, 0, 0, 0)]
set_option maxRecDepth 100000 in
def e_p250 : List e_E := [(0, 2, 0, 0, 0), (1, 9, 1, 0, 0), (2, 2, 0, 0, 0), (3, 9, 2, 0, 0), (4, 1, 2, 0, 0), (5, 1, 0, 2, 0), (6, 11, 16, 0, 0), (9, 16, 3, 0, 52), (12, 1, 1, 0, 0), (13, 1, 0, 2, 0), (14, 11, 16, 1, 0), (17, 1, 2, 0, 0), (18, 18, 1, 0, 0), (19, 2, 0, 1, 0), (20, 16, 1, 0, 28), (23, 0, 0, 0, 0), (24, 0, 0, 0, 0), (25, 0, 0, 0, 0), (28, 0, 0, 0, 0), (29, 0, 0, 0, 0), (30, 0, 0, 0, 0), (31, 0, 0, 0, 0), (32, 0, 0, 0, 0), (33, 0, 0, 0, 0), (36, 0, 0, 0, 0), (37, 0, 0, 0, 0), (38, 0, 0, 0, 0), (39, 0, 0, 0, 0), (40, 0, 0, 0, 0), (43, 2, 0, 0, 0), (44, 17, 5, 0, 0), (45, 9, 1, 0, 0), (46, 4, 2, 1, 0), (49, 3, 0, 0, 9), (52, 1, 1, 0, 0), (53, 13, 0, 0, 0)]
set_option maxRecDepth 100000 in
def e_p251 : List e_E := [(0, 1, 0, 2, 0), (1, 2, 0, 0, 0), (2, 19, 1, 11, 0), (5, 1, 0, 2, 0), (6, 1, 1, 0, 0), (7, 8, 221, 1, 0), (10, 10, 0, 0, 14), (13, 1, 2, 0, 0), (14, 2, 0, 0, 0), (15, 2, 0, 12, 0), (17, 8, 264, 3, 0), (20, 10, 0, 0, 4), (23, 2, 0, 1, 0), (24, 3, 0, 0, 2), (27, 2, 0, 0, 0), (28, 2, 0, 1, 0), (29, 8, 245, 3, 2), (32, 10, 1, 0, 26), (35, 1, 0, 2, 0), (36, 1, 0, 2, 0), (37, 11, 1, 0, 0), (40, 1, 1, 0, 0), (41, 18, 20, 0, 0), (42, 8, 266, 1, 0), (45, 15, 1, 0, 4), (48, 2, 0, 1, 0), (49, 3, 0, 0, 2), (52, 0, 0, 0, 0), (53, 2, 0, 2, 0), (54, 8, 245, 3, 2), (57, 10, 0, 0, 4), (60, 2, 1, 0, 0), (61, 13, 1, 0, 0), (62, 1, 0, 2, 0), (63, 11, 1, 0, 0), (66, 1, 1, 0, 0), (67, 18, 20, 0, 0), (68, 8, 234, 1, 0), (71, 9, 3, 2, 0), (72, 2, 0, 16, 0), (74, 14, 3, 0, 0), (76, 9, 4, 2, 0), (78, 2, 0, 16, 0), (80, 14, 3, 0, 0), (82, 9, 5, 2, 0), (84, 2, 0, 1, 0), (85, 9, 6, 0, 0), (87, 1, 5, 2, 0), (89, 2, 0, 0, 0), (90, 2, 1, 1, 0), (91, 30, 3, 0, 0), (92, 2, 0, 6, 0), (94, 14, 1, 0, 0), (96, 9, 7, 2, 0), (98, 2, 0, 0, 0), (99, 9, 8, 0, 0), (101, 1, 8, 0, 0), (103, 1, 2, 0, 0), (104, 16, 3, 0, 248), (107, 2, 0, 16, 0), (109, 14, 3, 0, 0), (111, 9, 9, 2, 0), (113, 2, 0, 16, 0), (115, 14, 3, 0, 0), (117, 9, 10, 2, 0), (119, 2, 0, 0, 0), (120, 9, 11, 0, 0), (122, 2, 0, 0, 0), (123, 9, 12, 0, 0), (125, 1, 12, 0, 0), (127, 1, 6, 0, 0), (129, 16, 3, 0, 206), (132, 2, 0, 0, 0), (133, 9, 13, 0, 0), (135, 1, 13, 0, 0), (137, 2, 0, 360, 0), (140, 16, 3, 0, 192), (143, 1, 13, 0, 0), (145, 2, 0, 60, 0), (147, 17, 10, 0, 0), (148, 9, 14, 0, 0), (150, 1, 13, 0, 0), (152, 2, 0, 10, 0), (154, 17, 10, 0, 0), (155, 2, 0, 6, 0), (157, 17, 11, 0, 0), (158, 9, 15, 0, 0), (160, 2, 0, 5, 0), (161, 9, 16, 0, 0), (163, 1, 16, 0, 0), (165, 10, 2, 0, 34), (168, 1, 7, 2, 0), (170, 1, 16, 0, 0), (172, 1, 4, 2, 0), (174, 1, 12, 0, 0), (176, 18, 3, 0, 0), (177, 2, 0, 10, 0), (179, 2, 0, 5, 0), (180, 1, 16, 0, 0), (182, 17, 2, 0, 0), (183, 17, 3, 0, 0), (184, 27, 8, 0, 0), (185, 2, 1, 1023, 0), (188, 26, 4, 0, 0), (189, 23, 0, 0, 0), (190, 30, 1, 0, 0), (191, 4, 16, 4294967295, 0), (194, 3, 0, 0, 179), (197, 1, 3, 2, 0), (198, 1, 7, 2, 0), (200, 1, 14, 0, 0), (202, 1, 15, 0, 0), (204, 1, 13, 0, 0), (206, 2, 0, 10, 0), (208, 17, 11, 0, 0), (209, 8, 200, 5, 0), (212, 10, 1, 0, 2), (215, 3, 0, 0, 106), (218, 0, 0, 0, 0), (219, 0, 0, 0, 0), (221, 0, 0, 0, 0), (223, 0, 0, 0, 0), (225, 0, 0, 0, 0), (227, 0, 0, 0, 0), (229, 0, 0, 0, 0), (230, 0, 0, 0, 0), (233, 0, 0, 0, 0), (235, 0, 0, 0, 0), (238, 0, 0, 0, 0), (240, 0, 0, 0, 0), (241, 0, 0, 0, 0), (243, 0, 0, 0, 0), (245, 0, 0, 0, 0), (247, 0, 0, 0, 0), (250, 0, 0, 0, 0), (252, 0, 0, 0, 0), (254, 0, 0, 0, 0), (255, 0, 0, 0, 0), (257, 0, 0, 0, 0), (258, 0, 0, 0, 0), (261, 0, 0, 0, 0), (264, 0, 0, 0, 0), (267, 0, 0, 0, 0), (269, 0, 0, 0, 0), (271, 0, 0, 0, 0), (272, 0, 0, 0, 0), (275, 0, 0, 0, 0), (277, 0, 0, 0, 0), (280, 0, 0, 0, 0), (282, 0, 0, 0, 0), (284, 0, 0, 0, 0), (287, 0, 0, 0, 0), (289, 0, 0, 0, 0), (291, 0, 0, 0, 0), (293, 0, 0, 0, 0), (294, 0, 0, 0, 0), (295, 0, 0, 0, 0), (298, 0, 0, 0, 0), (300, 0, 0, 0, 0), (302, 0, 0, 0, 0), (304, 0, 0, 0, 0), (306, 0, 0, 0, 0), (307, 0, 0, 0, 0), (309, 0, 0, 0, 0), (311, 0, 0, 0, 0), (312, 0, 0, 0, 0), (313, 0, 0, 0, 0), (315, 0, 0, 0, 0), (317, 0, 0, 0, 0), (318, 0, 0, 0, 0), (319, 0, 0, 0, 0), (320, 4, 13, 1, 0), (323, 3, 0, 0, 149), (326, 4, 12, 1, 0), (329, 3, 0, 0, 139), (332, 1, 9, 2, 0), (334, 9, 4, 2, 0), (336, 1, 10, 2, 0), (338, 9, 5, 2, 0), (340, 1, 11, 0, 0), (342, 9, 6, 0, 0), (344, 4, 8, 1, 0), (347, 3, 0, 0, 113), (350, 2, 1, 0, 0), (351, 9, 8, 1, 0), (353, 2, 0, 0, 0), (354, 9, 10, 0, 0), (356, 1, 10, 0, 0), (358, 1, 6, 0, 0), (360, 16, 3, 0, 16), (363, 1, 8, 1, 0), (365, 1, 5, 2, 0), (367, 1, 10, 0, 0), (369, 18, 3, 0, 0), (370, 26, 1, 0, 0), (371, 9, 8, 1, 0), (373, 4, 10, 1, 0), (376, 3, 0, 0, 375), (379, 1, 8, 1, 0), (381, 13, 1, 0, 0)]
set_option maxRecDepth 100000 in
def e_p252 : List e_E := [(0, 1, 0, 2, 0), (1, 2, 0, 0, 0), (2, 19, 1, 11, 0), (5, 1, 0, 2, 0), (6, 1, 0, 2, 0), (7, 1, 1, 0, 0), (8, 8, 216, 2, 2), (11, 2, 0, 1, 0), (12, 8, 245, 3, 2), (15, 10, 1, 0, 12), (18, 0, 0, 0, 0), (19, 0, 0, 0, 0), (20, 0, 0, 0, 0), (23, 0, 0, 0, 0), (24, 0, 0, 0, 0), (27, 0, 0, 0, 0), (30, 2, 0, 0, 0), (31, 13, 0, 0, 0), (32, 0, 0, 0, 0), (33, 0, 0, 0, 0), (34, 0, 0, 0, 0), (35, 0, 0, 0, 0), (38, 0, 0, 0, 0), (41, 0, 0, 0, 0), (42, 0, 0, 0, 0), (43, 0, 0, 0, 0), (44, 0, 0, 0, 0), (47, 0, 0, 0, 0), (48, 0, 0, 0, 0), (51, 0, 0, 0, 0), (52, 0, 0, 0, 0), (55, 0, 0, 0, 0), (56, 0, 0, 0, 0), (57, 0, 0, 0, 0), (58, 0, 0, 0, 0), (61, 0, 0, 0, 0), (62, 0, 0, 0, 0), (63, 0, 0, 0, 0), (64, 0, 0, 0, 0), (67, 0, 0, 0, 0), (70, 0, 0, 0, 0), (73, 0, 0, 0, 0), (74, 0, 0, 0, 0), (76, 0, 0, 0, 0), (77, 0, 0, 0, 0), (78, 0, 0, 0, 0), (81, 0, 0, 0, 0), (82, 0, 0, 0, 0), (85, 0, 0, 0, 0), (87, 0, 0, 0, 0), (88, 0, 0, 0, 0), (89, 0, 0, 0, 0), (92, 0, 0, 0, 0), (95, 0, 0, 0, 0), (96, 0, 0, 0, 0), (99, 0, 0, 0, 0), (100, 0, 0, 0, 0), (101, 0, 0, 0, 0), (104, 0, 0, 0, 0), (107, 0, 0, 0, 0), (108, 0, 0, 0, 0), (109, 0, 0, 0, 0), (110, 0, 0, 0, 0), (113, 0, 0, 0, 0), (115, 0, 0, 0, 0), (116, 0, 0, 0, 0), (117, 0, 0, 0, 0), (118, 0, 0, 0, 0), (119, 0, 0, 0, 0), (120, 0, 0, 0, 0), (121, 0, 0, 0, 0), (124, 0, 0, 0, 0), (126, 0, 0, 0, 0), (127, 0, 0, 0, 0), (130, 0, 0, 0, 0), (132, 0, 0, 0, 0), (133, 0, 0, 0, 0), (134, 0, 0, 0, 0), (135, 0, 0, 0, 0), (136, 0, 0, 0, 0), (137, 0, 0, 0, 0), (140, 0, 0, 0, 0), (141, 0, 0, 0, 0), (142, 0, 0, 0, 0), (143, 0, 0, 0, 0), (144, 0, 0, 0, 0), (147, 0, 0, 0, 0), (148, 0, 0, 0, 0), (149, 0, 0, 0, 0), (150, 0, 0, 0, 0), (153, 0, 0, 0, 0), (154, 0, 0, 0, 0), (155, 0, 0, 0, 0), (158, 0, 0, 0, 0), (159, 0, 0, 0, 0), (162, 0, 0, 0, 0), (164, 0, 0, 0, 0), (165, 0, 0, 0, 0)]
set_option maxRecDepth 100000 in
def e_p253 : List e_E := [(0, 1, 0, 2, 0), (1, 2, 0, 0, 0), (2, 19, 1, 11, 0), (5, 1, 0, 2, 0), (6, 11, 1, 7, 0), (9, 13, 0, 0, 0)]
set_option maxRecDepth 100000 in
def e_p254 : List e_E := [(0, 1, 0, 2, 0), (1, 2, 0, 0, 0), (2, 19, 1, 11, 0), (5, 1, 0, 2, 0), (6, 1, 1, 0, 0), (7, 8, 220, 1, 0), (10, 10, 0, 0, 10), (13, 1, 2, 0, 0), (14, 8, 220, 1, 0), (17, 10, 0, 0, 4), (20, 2, 0, 1, 0), (21, 3, 0, 0, 2), (24, 2, 0, 0, 0), (25, 2, 0, 1, 0), (26, 8, 245, 3, 2), (29, 10, 1, 0, 22), (32, 1, 0, 2, 0), (33, 11, 1, 1, 0), (36, 1, 1, 0, 0), (37, 18, 19, 0, 0), (38, 11, 15, 0, 0), (41, 1, 0, 2, 0), (42, 11, 1, 1, 0), (45, 1, 2, 0, 0), (46, 18, 19, 0, 0), (47, 11, 15, 0, 0), (50, 16, 0, 0, 14), (53, 1, 0, 2, 0), (54, 11, 1, 11, 0), (57, 10, 1, 0, 4), (60, 0, 0, 0, 0), (61, 0, 0, 0, 0), (64, 2, 0, 0, 0), (65, 13, 0, 0, 0), (66, 1, 0, 2, 0), (67, 1, 0, 2, 0), (68, 11, 1, 1, 0), (71, 1, 1, 0, 0), (72, 18, 19, 0, 0), (73, 1, 0, 2, 0), (74, 11, 1, 1, 0), (77, 1, 2, 0, 0), (78, 18, 19, 0, 0), (79, 8, 211, 3, 2), (82, 13, 0, 0, 0)]
set_option maxRecDepth 100000 in
def e_p255 : List e_E := [(0, 1, 0, 2, 0), (1, 2, 0, 0, 0), (2, 19, 1, 11, 0), (5, 1, 0, 2, 0), (6, 1, 1, 0, 0), (7, 8, 220, 1, 0), (10, 10, 0, 0, 10), (13, 1, 2, 0, 0), (14, 8, 220, 1, 0), (17, 10, 0, 0, 4), (20, 2, 0, 1, 0), (21, 3, 0, 0, 2), (24, 2, 0, 0, 0), (25, 2, 0, 1, 0), (26, 8, 245, 3, 2), (29, 10, 0, 0, 4), (32, 2, 0, 0, 0), (33, 13, 0, 0, 0), (34, 1, 0, 2, 0), (35, 11, 1, 1, 0), (38, 1, 1, 0, 0), (39, 18, 19, 0, 0), (40, 11, 15, 0, 0), (43, 1, 0, 2, 0), (44, 11, 1, 1, 0), (47, 1, 2, 0, 0), (48, 18, 19, 0, 0), (49, 11, 15, 0, 0), (52, 16, 1, 0, 22), (55, 1, 0, 2, 0), (56, 1, 0, 2, 0), (57, 11, 1, 1, 0), (60, 1, 1, 0, 0), (61, 18, 19, 0, 0), (62, 1, 0, 2, 0), (63, 11, 1, 1, 0), (66, 1, 2, 0, 0), (67, 18, 19, 0, 0), (68, 8, 211, 3, 2), (71, 3, 0, 0, 2), (74, 0, 0, 0, 0), (75, 9, 4, 0, 0), (77, 1, 0, 2, 0), (78, 1, 3, 0, 0), (79, 2, 0, 0, 0), (80, 1, 4, 0, 0), (82, 2, 0, 1, 0), (83, 17, 2, 0, 0), (84, 8, 264, 3, 0), (87, 2, 0, 2, 0), (88, 8, 245, 3, 2), (91, 10, 0, 0, 4), (94, 2, 0, 0, 0), (95, 3, 0, 0, 8), (98, 0, 0, 0, 0), (99, 0, 0, 0, 0), (102, 0, 0, 0, 0), (103, 0, 0, 0, 0), (104, 13, 0, 0, 0)]
set_option maxRecDepth 100000 in
def e_p256 : List e_E := [(0, 1, 0, 2, 0), (1, 2, 0, 0, 0), (2, 19, 1, 11, 0), (5, 1, 0, 2, 0), (6, 11, 1, 2, 0), (9, 10, 1, 0, 4), (12, 2, 0, 4294967295, 0), (13, 13, 0, 0, 0), (14, 0, 0, 0, 0), (15, 0, 0, 0, 0), (16, 0, 0, 0, 0), (17, 0, 0, 0, 0), (18, 0, 0, 0, 0), (19, 0, 0, 0, 0), (20, 0, 0, 0, 0), (21, 0, 0, 0, 0), (23, 0, 0, 0, 0), (25, 0, 0, 0, 0), (27, 0, 0, 0, 0), (30, 0, 0, 0, 0), (31, 0, 0, 0, 0), (33, 0, 0, 0, 0), (36, 0, 0, 0, 0), (39, 0, 0, 0, 0), (40, 0, 0, 0, 0), (43, 0, 0, 0, 0), (44, 0, 0, 0, 0), (46, 0, 0, 0, 0), (47, 0, 0, 0, 0), (50, 0, 0, 0, 0), (53, 0, 0, 0, 0), (54, 0, 0, 0, 0), (57, 0, 0, 0, 0), (58, 0, 0, 0, 0), (59, 0, 0, 0, 0), (60, 0, 0, 0, 0), (63, 0, 0, 0, 0), (64, 0, 0, 0, 0), (66, 0, 0, 0, 0), (69, 0, 0, 0, 0), (72, 0, 0, 0, 0), (73, 0, 0, 0, 0), (76, 0, 0, 0, 0), (77, 0, 0, 0, 0), (78, 0, 0, 0, 0), (81, 0, 0, 0, 0), (84, 0, 0, 0, 0), (85, 0, 0, 0, 0), (87, 0, 0, 0, 0), (89, 0, 0, 0, 0), (92, 0, 0, 0, 0), (95, 0, 0, 0, 0), (96, 0, 0, 0, 0), (99, 0, 0, 0, 0), (100, 0, 0, 0, 0), (103, 0, 0, 0, 0), (105, 0, 0, 0, 0), (106, 0, 0, 0, 0), (109, 0, 0, 0, 0), (110, 0, 0, 0, 0), (113, 0, 0, 0, 0), (114, 0, 0, 0, 0), (115, 0, 0, 0, 0), (118, 0, 0, 0, 0), (121, 0, 0, 0, 0), (122, 0, 0, 0, 0), (125, 0, 0, 0, 0), (126, 0, 0, 0, 0), (129, 0, 0, 0, 0), (130, 0, 0, 0, 0), (133, 0, 0, 0, 0), (134, 0, 0, 0, 0), (137, 0, 0, 0, 0), (138, 0, 0, 0, 0), (141, 0, 0, 0, 0), (142, 0, 0, 0, 0), (145, 0, 0, 0, 0), (146, 0, 0, 0, 0)]
set_option maxRecDepth 100000 in
def e_p257 : List e_E := [(0, 1, 0, 2, 0), (1, 2, 0, 0, 0), (2, 19, 1, 11, 0), (5, 1, 0, 2, 0), (6, 1, 1, 0, 0), (7, 8, 220, 1, 0), (10, 10, 0, 0, 14), (13, 1, 3, 0, 0), (14, 2, 0, 0, 0), (15, 2, 0, 2, 0), (16, 8, 264, 3, 0), (19, 10, 0, 0, 4), (22, 2, 0, 1, 0), (23, 3, 0, 0, 2), (26, 2, 0, 0, 0), (27, 2, 0, 1, 0), (28, 8, 245, 3, 2), (31, 10, 1, 0, 28), (34, 1, 0, 2, 0), (35, 1, 2, 0, 0), (36, 2, 0, 0, 0), (37, 1, 0, 2, 0), (38, 11, 1, 1, 0), (41, 1, 1, 0, 0), (42, 18, 19, 0, 0), (43, 11, 15, 1, 0), (46, 2, 0, 1, 0), (47, 17, 2, 0, 0), (48, 8, 264, 3, 0), (51, 2, 0, 2, 0), (52, 8, 245, 3, 2), (55, 10, 0, 0, 4), (58, 2, 0, 0, 0), (59, 13, 0, 0, 0), (60, 1, 0, 2, 0), (61, 11, 1, 1, 0), (64, 1, 1, 0, 0), (65, 18, 19, 0, 0), (66, 9, 4, 2, 0), (68, 1, 3, 0, 0), (69, 10, 1, 0, 10), (72, 1, 4, 2, 0), (74, 11, 15, 2, 0), (77, 1, 2, 0, 0), (78, 18, 1, 0, 0), (79, 3, 0, 0, 24), (82, 1, 3, 0, 0), (83, 2, 0, 1, 0), (84, 16, 1, 0, 10), (87, 1, 4, 2, 0), (89, 11, 15, 3, 0), (92, 1, 2, 0, 0), (93, 18, 1, 0, 0), (94, 3, 0, 0, 8), (97, 1, 4, 2, 0), (99, 11, 15, 4, 0), (102, 1, 2, 0, 0), (103, 18, 1, 0, 0), (104, 13, 0, 0, 0)]
set_option maxRecDepth 100000 in
def e_p258 : List e_E := [(0, 1, 0, 2, 0), (1, 2, 0, 0, 0), (2, 19, 1, 11, 0), (5, 1, 0, 2, 0), (6, 1, 0, 2, 0), (7, 1, 1, 0, 0), (8, 8, 216, 2, 2), (11, 2, 0, 1, 0), (12, 8, 245, 3, 2), (15, 10, 0, 0, 4), (18, 2, 0, 0, 0), (19, 3, 0, 0, 8), (22, 0, 0, 0, 0), (23, 0, 0, 0, 0), (26, 0, 0, 0, 0), (27, 0, 0, 0, 0), (28, 13, 0, 0, 0)]
set_option maxRecDepth 100000 in
def e_p259 : List e_E := [(0, 1, 0, 2, 0), (1, 2, 0, 0, 0), (2, 19, 1, 11, 0), (5, 1, 0, 2, 0), (6, 1, 1, 0, 0), (7, 8, 220, 1, 0), (10, 2, 0, 1, 0), (11, 8, 245, 3, 2), (14, 10, 0, 0, 4), (17, 2, 0, 0, 0), (18, 3, 0, 0, 10), (21, 1, 0, 2, 0), (22, 11, 1, 1, 0), (25, 1, 1, 0, 0), (26, 18, 19, 0, 0), (27, 11, 15, 1, 0), (30, 13, 0, 0, 0)]
set_option maxRecDepth 100000 in
def e_p260 : List e_E := [(0, 1, 0, 2, 0), (1, 2, 0, 0, 0), (2, 19, 1, 11, 0), (5, 1, 0, 2, 0), (6, 1, 1, 0, 0), (7, 8, 220, 1, 0), (10, 10, 0, 0, 10), (13, 1, 3, 0, 0), (14, 8, 217, 1, 0), (17, 10, 0, 0, 4), (20, 2, 0, 1, 0), (21, 3, 0, 0, 2), (24, 2, 0, 0, 0), (25, 2, 0, 1, 0), (26, 8, 245, 3, 2), (29, 10, 1, 0, 28), (32, 1, 0, 2, 0), (33, 1, 2, 0, 0), (34, 2, 0, 0, 0), (35, 1, 0, 2, 0), (36, 11, 1, 1, 0), (39, 1, 1, 0, 0), (40, 18, 19, 0, 0), (41, 11, 15, 1, 0), (44, 2, 0, 1, 0), (45, 17, 2, 0, 0), (46, 8, 264, 3, 0), (49, 2, 0, 2, 0), (50, 8, 245, 3, 2), (53, 10, 0, 0, 4), (56, 2, 0, 0, 0), (57, 13, 0, 0, 0), (58, 1, 0, 2, 0), (59, 11, 1, 1, 0), (62, 1, 1, 0, 0), (63, 18, 19, 0, 0), (64, 11, 15, 5, 0), (67, 2, 0, 10, 0), (69, 1, 2, 0, 0), (70, 17, 3, 0, 0), (71, 1, 3, 0, 0), (72, 17, 1, 0, 0), (73, 18, 1, 0, 0), (74, 13, 0, 0, 0)]
set_option maxRecDepth 100000 in
def e_p261 : List e_E := [(0, 1, 0, 2, 0), (1, 11, 1, 11, 0), (4, 13, 0, 0, 0)]
set_option maxRecDepth 100000 in
def e_p262 : List e_E := [(0, 1, 0, 2, 0), (1, 11, 1, 27, 0), (4, 2, 0, 13, 0), (6, 1, 1, 0, 0), (7, 17, 3, 0, 0), (8, 18, 3, 0, 0), (9, 9, 2, 1, 0), (10, 2, 0, 5, 0), (11, 9, 4, 0, 0), (13, 1, 4, 0, 0), (15, 10, 2, 0, 28), (18, 1, 0, 2, 0), (19, 11, 1, 38, 0), (22, 1, 4, 0, 0), (24, 1, 2, 1, 0), (25, 2, 1, 1023, 0), (28, 26, 4, 0, 0), (29, 23, 0, 0, 0), (30, 30, 1, 0, 0), (31, 1, 2, 1, 0), (32, 2, 0, 10, 0), (34, 27, 8, 0, 0), (35, 9, 2, 1, 0), (36, 4, 4, 4294967295, 0), (39, 3, 0, 0, 19), (42, 2, 0, 1, 0), (43, 9, 4, 0, 0), (45, 1, 4, 0, 0), (47, 2, 0, 13, 0), (49, 16, 3, 0, 98), (52, 1, 0, 2, 0), (53, 11, 1, 27, 0), (56, 2, 0, 13, 0), (58, 1, 1, 0, 0), (59, 17, 3, 0, 0), (60, 1, 4, 0, 0), (62, 17, 1, 0, 0), (63, 18, 3, 0, 0), (64, 9, 5, 1, 0), (66, 1, 0, 2, 0), (67, 11, 1, 39, 0), (70, 2, 0, 3, 0), (71, 1, 4, 0, 0), (73, 17, 3, 0, 0), (74, 2, 0, 3, 0), (75, 17, 2, 0, 0), (76, 1, 5, 1, 0), (78, 2, 0, 40, 0), (80, 27, 8, 0, 0), (81, 23, 0, 0, 0), (82, 30, 1, 0, 0), (83, 1, 0, 2, 0), (84, 11, 1, 39, 0), (87, 2, 0, 3, 0), (88, 1, 4, 0, 0), (90, 17, 3, 0, 0), (91, 2, 0, 2, 0), (92, 17, 2, 0, 0), (93, 1, 5, 1, 0), (95, 2, 0, 20, 0), (97, 27, 8, 0, 0), (98, 2, 1, 1048575, 0), (101, 26, 4, 0, 0), (102, 23, 0, 0, 0), (103, 30, 1, 0, 0), (104, 1, 0, 2, 0), (105, 11, 1, 39, 0), (108, 2, 0, 3, 0), (109, 1, 4, 0, 0), (111, 17, 3, 0, 0), (112, 2, 0, 1, 0), (113, 17, 2, 0, 0), (114, 1, 5, 1, 0), (116, 2, 1, 1048575, 0), (119, 26, 4, 0, 0), (120, 23, 0, 0, 0), (121, 30, 1, 0, 0), (122, 4, 4, 1, 0), (125, 3, 0, 0, 55), (128, 5, 0, 0, 0)]
set_option maxRecDepth 100000 in
def e_p263 : List e_E := [(0, 1, 0, 2, 0), (1, 2, 0, 0, 0), (2, 19, 1, 11, 0), (5, 1, 0, 2, 0), (6, 1, 1, 0, 0), (7, 8, 221, 1, 0), (10, 10, 0, 0, 14), (13, 1, 2, 0, 0), (14, 2, 0, 0, 0), (15, 2, 0, 2, 0), (16, 8, 264, 3, 0), (19, 10, 0, 0, 4), (22, 2, 0, 1, 0), (23, 3, 0, 0, 2), (26, 2, 0, 0, 0), (27, 2, 0, 1, 0), (28, 8, 245, 3, 2), (31, 10, 0, 0, 4), (34, 2, 0, 0, 0), (35, 13, 0, 0, 0), (36, 1, 0, 2, 0), (37, 11, 1, 0, 0), (40, 1, 1, 0, 0), (41, 18, 20, 0, 0), (42, 8, 266, 1, 0), (45, 9, 3, 2, 0), (46, 1, 3, 2, 0), (47, 15, 1, 0, 4), (50, 2, 0, 4294967295, 0), (51, 3, 0, 0, 26), (54, 0, 0, 0, 0), (55, 0, 0, 0, 0), (58, 0, 0, 0, 0), (59, 0, 0, 0, 0), (62, 0, 0, 0, 0), (65, 0, 0, 0, 0), (66, 0, 0, 0, 0), (67, 0, 0, 0, 0), (70, 0, 0, 0, 0), (71, 0, 0, 0, 0), (74, 0, 0, 0, 0), (77, 0, 0, 0, 0), (78, 0, 0, 0, 0), (81, 13, 0, 0, 0)]
set_option maxRecDepth 100000 in
def e_p264 : List e_E := [(0, 1, 0, 0, 0), (1, 1, 1, 0, 0), (2, 16, 2, 0, 10), (5, 1, 0, 0, 0), (6, 1, 2, 0, 0), (7, 16, 4, 0, 4), (10, 2, 0, 1, 0), (11, 3, 0, 0, 2), (14, 2, 0, 0, 0), (15, 13, 0, 1, 0)]
set_option maxRecDepth 100000 in
def e_p265 : List e_E := [(0, 1, 0, 2, 0), (1, 11, 1, 19, 0), (4, 2, 0, 4294967295, 0), (5, 16, 1, 0, 8), (8, 1, 0, 2, 0), (9, 1, 0, 2, 0), (10, 11, 1, 16, 0), (13, 19, 1, 19, 0), (16, 2, 0, 4294967293, 0), (18, 13, 0, 0, 0)]
set_option maxRecDepth 100000 in
def e_p266 : List e_E := [(0, 1, 0, 2, 0), (1, 8, 250, 1, 0), (4, 9, 1, 0, 0), (5, 2, 0, 0, 0), (6, 9, 2, 0, 0), (7, 1, 2, 0, 0), (8, 2, 0, 6, 0), (10, 16, 3, 0, 42), (13, 1, 1, 0, 0), (14, 1, 2, 0, 0), (15, 17, 8, 0, 0), (16, 2, 0, 1, 0), (17, 17, 4, 0, 0), (18, 2, 0, 1, 0), (19, 16, 1, 0, 24), (22, 0, 0, 0, 0), (25, 0, 0, 0, 0), (26, 0, 0, 0, 0), (27, 0, 0, 0, 0), (28, 0, 0, 0, 0), (31, 0, 0, 0, 0), (32, 0, 0, 0, 0), (33, 0, 0, 0, 0), (36, 0, 0, 0, 0), (37, 0, 0, 0, 0), (40, 0, 0, 0, 0), (41, 0, 0, 0, 0), (42, 4, 2, 1, 0), (45, 3, 0, 0, 11), (48, 2, 3, 0, 0), (49, 13, 2, 0, 0)]
set_option maxRecDepth 100000 in
def e_p267 : List e_E := [(0, 1, 0, 2, 0), (1, 25, 0, 0, 0), (4, 1, 0, 2, 0), (5, 2, 0, 4294967295, 0), (6, 19, 13, 4, 0), (9, 1, 0, 2, 0), (10, 2, 0, 16, 0), (12, 14, 3, 0, 0), (14, 19, 13, 5, 3), (17, 1, 0, 2, 0), (18, 2, 0, 16, 0), (20, 14, 1, 0, 0), (22, 19, 13, 6, 3), (25, 1, 0, 2, 0), (26, 2, 0, 160, 0), (29, 14, 1, 0, 0), (31, 19, 13, 8, 3), (34, 1, 0, 2, 0), (35, 2, 0, 4294967295, 0), (36, 19, 13, 9, 0), (39, 1, 0, 2, 0), (40, 2, 0, 4294967295, 0), (41, 19, 13, 10, 0), (44, 1, 0, 2, 0), (45, 2, 0, 4294967295, 0), (46, 19, 13, 11, 0), (49, 1, 0, 2, 0), (50, 1, 1, 2, 0), (51, 19, 13, 0, 3), (54, 1, 0, 2, 0), (55, 1, 2, 0, 0), (56, 19, 13, 1, 0), (59, 1, 0, 2, 0), (60, 1, 1, 2, 0), (61, 1, 2, 0, 0), (62, 8, 224, 2, 0), (65, 19, 13, 2, 2), (68, 1, 0, 2, 0), (69, 1, 1, 2, 0), (70, 1, 2, 0, 0), (71, 8, 237, 2, 0), (74, 19, 13, 3, 2), (77, 1, 1, 2, 0), (78, 11, 16, 0, 0), (81, 2, 0, 1, 0), (82, 17, 2, 0, 0), (83, 9, 3, 0, 0), (84, 1, 3, 0, 0), (85, 10, 2, 0, 24), (88, 1, 0, 2, 0), (89, 1, 0, 2, 0), (90, 1, 3, 0, 0), (91, 8, 269, 2, 14), (94, 10, 0, 0, 4), (97, 1, 3, 0, 0), (98, 3, 0, 0, 4), (101, 0, 0, 0, 0), (102, 0, 0, 0, 0), (105, 19, 13, 4, 0), (108, 4, 3, 4294967295, 0), (111, 3, 0, 0, 95), (114, 1, 0, 2, 0), (115, 2, 1, 1, 0), (116, 8, 271, 2, 14), (119, 9, 3, 0, 0), (120, 2, 0, 0, 0), (121, 9, 4, 0, 0), (123, 1, 4, 0, 0), (125, 1, 0, 2, 0), (126, 11, 13, 7, 0), (129, 16, 3, 0, 10), (132, 1, 0, 2, 0), (133, 1, 4, 0, 0), (135, 8, 268, 2, 14), (138, 4, 4, 1, 0), (141, 3, 0, 0, 135), (144, 5, 0, 0, 0)]
set_option maxRecDepth 100000 in
def e_p268 : List e_E := [(0, 1, 0, 2, 0), (1, 1, 1, 0, 0), (2, 8, 270, 2, 14), (5, 10, 1, 0, 8), (8, 0, 0, 0, 0), (9, 0, 0, 0, 0), (10, 0, 0, 0, 0), (13, 0, 0, 0, 0), (14, 2, 0, 0, 0), (15, 9, 2, 0, 0), (16, 1, 2, 0, 0), (17, 2, 0, 10, 0), (19, 16, 3, 0, 148), (22, 2, 1, 0, 0), (23, 9, 3, 1, 0), (24, 2, 0, 0, 0), (25, 9, 5, 0, 0), (27, 1, 5, 0, 0), (29, 1, 0, 2, 0), (30, 11, 13, 0, 0), (33, 11, 16, 0, 0), (36, 16, 3, 0, 92), (39, 1, 0, 2, 0), (40, 11, 13, 5, 0), (43, 1, 1, 0, 0), (44, 18, 3, 0, 0), (45, 1, 5, 0, 0), (47, 27, 8, 0, 0), (48, 2, 1, 1, 0), (49, 26, 4, 0, 0), (50, 2, 1, 1, 0), (51, 28, 0, 0, 0), (52, 10, 1, 0, 26), (55, 0, 0, 0, 0), (56, 0, 0, 0, 0), (59, 0, 0, 0, 0), (62, 0, 0, 0, 0), (64, 0, 0, 0, 0), (66, 0, 0, 0, 0), (67, 0, 0, 0, 0), (68, 0, 0, 0, 0), (69, 0, 0, 0, 0), (70, 0, 0, 0, 0), (71, 0, 0, 0, 0), (74, 0, 0, 0, 0), (75, 0, 0, 0, 0), (78, 2, 0, 0, 0), (79, 9, 6, 0, 0), (81, 1, 3, 1, 0), (82, 1, 6, 0, 0), (84, 10, 0, 0, 24), (87, 0, 0, 0, 0), (88, 0, 0, 0, 0), (89, 0, 0, 0, 0), (92, 0, 0, 0, 0), (95, 0, 0, 0, 0), (97, 0, 0, 0, 0), (99, 0, 0, 0, 0), (100, 0, 0, 0, 0), (101, 0, 0, 0, 0), (102, 0, 0, 0, 0), (103, 0, 0, 0, 0), (104, 0, 0, 0, 0), (107, 2, 1, 0, 0), (108, 26, 5, 0, 0), (109, 9, 3, 1, 0), (110, 4, 5, 1, 0), (113, 3, 0, 0, 35), (116, 1, 3, 1, 0), (117, 2, 1, 0, 0), (118, 28, 0, 0, 0), (119, 10, 0, 0, 26), (122, 0, 0, 0, 0), (123, 0, 0, 0, 0), (124, 0, 0, 0, 0), (127, 0, 0, 0, 0), (129, 0, 0, 0, 0), (130, 0, 0, 0, 0), (133, 0, 0, 0, 0), (135, 0, 0, 0, 0), (136, 0, 0, 0, 0), (137, 0, 0, 0, 0), (138, 0, 0, 0, 0), (139, 0, 0, 0, 0), (141, 0, 0, 0, 0), (142, 4, 2, 1, 0), (145, 3, 0, 0, 21), (148, 5, 0, 0, 0)]
set_option maxRecDepth 100000 in
def e_p269 : List e_E := [(0, 1, 0, 2, 0), (1, 11, 13, 2, 0), (4, 1, 1, 0, 0), (5, 27, 8, 0, 0), (6, 2, 1, 1, 0), (7, 26, 4, 0, 0), (8, 2, 1, 0, 0), (9, 28, 0, 0, 0), (10, 10, 0, 0, 44), (13, 1, 0, 2, 0), (14, 11, 13, 0, 0), (17, 11, 16, 1, 0), (20, 1, 1, 0, 0), (21, 18, 1, 0, 0), (22, 10, 0, 0, 32), (25, 0, 0, 0, 0), (26, 0, 0, 0, 0), (29, 0, 0, 0, 0), (32, 0, 0, 0, 0), (33, 0, 0, 0, 0), (34, 0, 0, 0, 0), (35, 0, 0, 0, 0), (38, 0, 0, 0, 0), (39, 0, 0, 0, 0), (42, 0, 0, 0, 0), (43, 0, 0, 0, 0), (44, 0, 0, 0, 0), (45, 0, 0, 0, 0), (46, 0, 0, 0, 0), (47, 0, 0, 0, 0), (48, 0, 0, 0, 0), (51, 2, 0, 1, 0), (52, 3, 0, 0, 2), (55, 0, 0, 0, 0), (56, 13, 0, 1, 0)]
set_option maxRecDepth 100000 in
def e_p270 : List e_E := [(0, 1, 0, 2, 0), (1, 11, 13, 5, 0), (4, 1, 1, 0, 0), (5, 18, 3, 0, 0), (6, 9, 2, 1, 0), (7, 1, 2, 1, 0), (8, 2, 1, 0, 0), (9, 28, 0, 0, 0), (10, 10, 0, 0, 12), (13, 0, 0, 0, 0), (14, 0, 0, 0, 0), (17, 0, 0, 0, 0), (18, 0, 0, 0, 0), (19, 0, 0, 0, 0), (20, 0, 0, 0, 0), (23, 1, 2, 1, 0), (24, 2, 1, 0, 0), (25, 28, 0, 0, 0), (26, 10, 1, 0, 4), (29, 2, 0, 1, 0), (30, 3, 0, 0, 2), (33, 0, 0, 0, 0), (34, 13, 0, 1, 0), (35, 0, 0, 0, 0), (36, 0, 0, 0, 0), (39, 0, 0, 0, 0), (41, 0, 0, 0, 0), (42, 0, 0, 0, 0), (44, 0, 0, 0, 0), (46, 0, 0, 0, 0), (47, 0, 0, 0, 0), (48, 0, 0, 0, 0), (50, 0, 0, 0, 0), (52, 0, 0, 0, 0), (53, 0, 0, 0, 0), (56, 0, 0, 0, 0), (59, 0, 0, 0, 0), (62, 0, 0, 0, 0), (64, 0, 0, 0, 0), (67, 0, 0, 0, 0), (68, 0, 0, 0, 0), (70, 0, 0, 0, 0), (71, 0, 0, 0, 0), (72, 0, 0, 0, 0), (73, 0, 0, 0, 0), (74, 0, 0, 0, 0), (75, 0, 0, 0, 0), (78, 0, 0, 0, 0), (79, 0, 0, 0, 0), (81, 0, 0, 0, 0), (83, 0, 0, 0, 0), (86, 0, 0, 0, 0), (89, 0, 0, 0, 0), (90, 0, 0, 0, 0), (93, 0, 0, 0, 0), (94, 0, 0, 0, 0), (96, 0, 0, 0, 0), (99, 0, 0, 0, 0), (102, 0, 0, 0, 0), (104, 0, 0, 0, 0)]
set_option maxRecDepth 100000 in
def e_p271 : List e_E := [(0, 1, 1, 1, 0), (1, 9, 3, 1, 0), (2, 2, 1, 0, 0), (3, 9, 5, 1, 0), (5, 2, 1, 0, 0), (6, 9, 7, 1, 0), (8, 2, 0, 4294967295, 0), (9, 9, 9, 0, 0), (11, 1, 3, 1, 0), (12, 2, 1, 0, 0), (13, 28, 0, 0, 0), (14, 10, 0, 0, 292), (17, 1, 3, 1, 0), (18, 8, 277, 1, 0), (21, 9, 10, 0, 0), (23, 1, 3, 1, 0), (24, 2, 1, 1, 0), (25, 1, 10, 0, 0), (27, 27, 7, 0, 0), (28, 2, 1, 18446744073709551615, 0), (31, 26, 6, 0, 0), (32, 26, 4, 0, 0), (33, 9, 3, 1, 0), (34, 1, 5, 1, 0), (36, 1, 10, 0, 0), (38, 27, 8, 0, 0), (39, 2, 1, 1, 0), (40, 26, 4, 0, 0), (41, 2, 1, 1, 0), (42, 28, 0, 0, 0), (43, 10, 1, 0, 2), (46, 0, 0, 0, 0), (49, 1, 5, 1, 0), (51, 2, 1, 1, 0), (52, 1, 10, 0, 0), (54, 27, 7, 0, 0), (55, 26, 5, 0, 0), (56, 9, 5, 1, 0), (58, 1, 0, 2, 0), (59, 11, 13, 0, 0), (62, 11, 16, 1, 0), (65, 1, 10, 0, 0), (67, 18, 1, 0, 0), (68, 2, 0, 2, 0), (69, 16, 1, 0, 4), (72, 0, 0, 0, 0), (73, 0, 0, 0, 0), (76, 2, 0, 0, 0), (77, 9, 11, 0, 0), (79, 1, 0, 2, 0), (80, 11, 13, 0, 0), (83, 11, 16, 1, 0), (86, 1, 10, 0, 0), (88, 18, 1, 0, 0), (89, 2, 0, 1, 0), (90, 16, 1, 0, 36), (93, 0, 0, 0, 0), (94, 0, 0, 0, 0), (97, 0, 0, 0, 0), (100, 0, 0, 0, 0), (102, 0, 0, 0, 0), (103, 0, 0, 0, 0), (104, 0, 0, 0, 0), (107, 0, 0, 0, 0), (110, 0, 0, 0, 0), (111, 0, 0, 0, 0), (114, 0, 0, 0, 0), (117, 0, 0, 0, 0), (119, 0, 0, 0, 0), (120, 0, 0, 0, 0), (121, 0, 0, 0, 0), (124, 0, 0, 0, 0), (127, 0, 0, 0, 0), (128, 0, 0, 0, 0), (131, 2, 0, 0, 0), (132, 9, 12, 0, 0), (134, 1, 0, 2, 0), (135, 1, 10, 0, 0), (137, 8, 269, 2, 14), (140, 10, 0, 0, 8), (143, 1, 0, 2, 0), (144, 11, 13, 4, 0), (147, 9, 9, 0, 0), (149, 3, 0, 0, 146), (152, 0, 0, 0, 0), (154, 0, 0, 0, 0), (157, 0, 0, 0, 0), (159, 0, 0, 0, 0), (160, 0, 0, 0, 0), (162, 0, 0, 0, 0), (163, 0, 0, 0, 0), (164, 0, 0, 0, 0), (166, 0, 0, 0, 0), (169, 0, 0, 0, 0), (171, 0, 0, 0, 0), (174, 0, 0, 0, 0), (175, 0, 0, 0, 0), (178, 0, 0, 0, 0), (181, 0, 0, 0, 0), (183, 0, 0, 0, 0), (185, 0, 0, 0, 0), (186, 0, 0, 0, 0), (187, 0, 0, 0, 0), (189, 0, 0, 0, 0), (190, 0, 0, 0, 0), (191, 0, 0, 0, 0), (192, 0, 0, 0, 0), (195, 0, 0, 0, 0), (197, 0, 0, 0, 0), (198, 0, 0, 0, 0), (199, 0, 0, 0, 0), (200, 0, 0, 0, 0), (201, 0, 0, 0, 0), (202, 0, 0, 0, 0), (205, 0, 0, 0, 0), (207, 0, 0, 0, 0), (210, 0, 0, 0, 0), (211, 0, 0, 0, 0), (214, 0, 0, 0, 0), (217, 0, 0, 0, 0), (219, 0, 0, 0, 0), (221, 0, 0, 0, 0), (222, 0, 0, 0, 0), (223, 0, 0, 0, 0), (224, 0, 0, 0, 0), (225, 0, 0, 0, 0), (226, 0, 0, 0, 0), (227, 0, 0, 0, 0), (228, 0, 0, 0, 0), (231, 0, 0, 0, 0), (232, 0, 0, 0, 0), (234, 0, 0, 0, 0), (236, 0, 0, 0, 0), (238, 0, 0, 0, 0), (241, 0, 0, 0, 0), (242, 0, 0, 0, 0), (245, 0, 0, 0, 0), (248, 0, 0, 0, 0), (250, 0, 0, 0, 0), (252, 0, 0, 0, 0), (253, 0, 0, 0, 0), (255, 0, 0, 0, 0), (256, 0, 0, 0, 0), (257, 0, 0, 0, 0), (259, 0, 0, 0, 0), (260, 0, 0, 0, 0), (262, 0, 0, 0, 0), (263, 0, 0, 0, 0), (266, 0, 0, 0, 0), (267, 0, 0, 0, 0), (270, 0, 0, 0, 0), (271, 0, 0, 0, 0), (273, 0, 0, 0, 0), (274, 0, 0, 0, 0), (275, 0, 0, 0, 0), (276, 0, 0, 0, 0), (279, 0, 0, 0, 0), (282, 3, 0, 0, 17), (285, 2, 0, 0, 0), (286, 9, 10, 0, 0), (288, 1, 10, 0, 0), (290, 1, 0, 2, 0), (291, 11, 13, 7, 0), (294, 16, 3, 0, 34), (297, 0, 0, 0, 0), (298, 0, 0, 0, 0), (301, 0, 0, 0, 0), (303, 0, 0, 0, 0), (304, 0, 0, 0, 0), (306, 0, 0, 0, 0), (307, 0, 0, 0, 0), (310, 0, 0, 0, 0), (311, 0, 0, 0, 0), (314, 0, 0, 0, 0), (316, 0, 0, 0, 0), (317, 0, 0, 0, 0), (319, 0, 0, 0, 0), (322, 0, 0, 0, 0), (324, 0, 0, 0, 0), (325, 0, 0, 0, 0), (328, 0, 0, 0, 0), (331, 1, 0, 2, 0), (332, 11, 13, 7, 0), (335, 1, 0, 2, 0), (336, 11, 13, 5, 0), (339, 12, 0, 0, 0), (340, 16, 1, 0, 4), (343, 0, 0, 0, 0), (344, 0, 0, 0, 0), (347, 1, 0, 2, 0), (348, 11, 13, 5, 0), (351, 1, 0, 2, 0), (352, 11, 13, 7, 0), (355, 1, 7, 1, 0), (357, 30, 3, 0, 0), (358, 1, 0, 2, 0), (359, 11, 13, 6, 0), (362, 1, 0, 2, 0), (363, 11, 13, 7, 0), (366, 1, 9, 0, 0), (368, 30, 1, 0, 0), (369, 1, 0, 2, 0), (370, 11, 13, 8, 0), (373, 1, 0, 2, 0), (374, 11, 13, 7, 0), (377, 8, 202, 2, 0), (380, 1, 0, 2, 0), (381, 20, 0, 0, 0), (382, 11, 13, 7, 0), (385, 2, 0, 1, 0), (386, 17, 1, 0, 0), (387, 19, 13, 7, 0), (390, 1, 0, 2, 0), (391, 11, 13, 7, 0), (394, 2, 0, 1, 0), (395, 17, 2, 0, 0), (396, 13, 0, 0, 0)]
set_option maxRecDepth 100000 in
def e_p272 : List e_E := [(0, 1, 0, 2, 0), (1, 25, 0, 0, 0), (4, 1, 0, 2, 0), (5, 2, 0, 4, 0), (6, 14, 20, 0, 0), (9, 19, 14, 0, 3), (12, 1, 0, 2, 0), (13, 2, 0, 8, 0), (15, 14, 19, 0, 0), (18, 19, 14, 1, 3), (21, 1, 0, 2, 0), (22, 2, 0, 6, 0), (24, 14, 19, 0, 0), (27, 19, 14, 2, 3), (30, 1, 0, 2, 0), (31, 2, 0, 6, 0), (33, 14, 1, 0, 0), (35, 19, 14, 3, 3), (38, 1, 0, 2, 0), (39, 2, 0, 216, 0), (42, 14, 1, 0, 0), (44, 19, 14, 4, 3), (47, 1, 0, 2, 0), (48, 2, 0, 6, 0), (50, 14, 1, 0, 0), (52, 19, 14, 5, 3), (55, 5, 0, 0, 0)]
set_option maxRecDepth 100000 in
def e_p273 : List e_E := [(0, 1, 0, 2, 0), (1, 25, 0, 0, 0), (4, 1, 0, 2, 0), (5, 1, 1, 0, 0), (6, 19, 15, 0, 0), (9, 1, 0, 2, 0), (10, 1, 2, 0, 0), (11, 19, 15, 1, 0), (14, 1, 0, 2, 0), (15, 1, 2, 0, 0), (16, 14, 1, 0, 0), (18, 19, 15, 2, 3), (21, 1, 0, 2, 0), (22, 1, 2, 0, 0), (23, 14, 1, 0, 0), (25, 19, 15, 3, 3), (28, 1, 0, 2, 0), (29, 1, 2, 0, 0), (30, 14, 1, 0, 0), (32, 19, 15, 4, 3), (35, 1, 0, 2, 0), (36, 2, 0, 10, 0), (38, 1, 2, 0, 0), (39, 17, 3, 0, 0), (40, 14, 1, 0, 0), (42, 19, 15, 5, 3), (45, 5, 0, 0, 0)]
set_option maxRecDepth 100000 in
def e_p274 : List e_E := [(0, 1, 0, 2, 0), (1, 25, 0, 0, 0), (4, 1, 0, 2, 0), (5, 1, 1, 0, 0), (6, 19, 16, 0, 0), (9, 1, 0, 2, 0), (10, 1, 1, 0, 0), (11, 14, 1, 0, 0), (13, 19, 16, 1, 3), (16, 1, 0, 2, 0), (17, 1, 1, 0, 0), (18, 14, 1, 0, 0), (20, 19, 16, 2, 3), (23, 1, 0, 2, 0), (24, 1, 1, 0, 0), (25, 14, 1, 0, 0), (27, 19, 16, 3, 3), (30, 1, 0, 2, 0), (31, 1, 1, 0, 0), (32, 14, 1, 0, 0), (34, 19, 16, 4, 3), (37, 1, 0, 2, 0), (38, 2, 0, 10, 0), (40, 1, 1, 0, 0), (41, 17, 3, 0, 0), (42, 14, 1, 0, 0), (44, 19, 16, 5, 3), (47, 5, 0, 0, 0)]
set_option maxRecDepth 100000 in
def e_p275 : List e_E := [(0, 1, 0, 0, 0), (1, 1, 0, 0, 0), (2, 2, 0, 1, 0), (3, 17, 9, 0, 0), (4, 2, 0, 1431655765, 0), (7, 17, 4, 0, 0), (8, 17, 2, 0, 0), (9, 9, 0, 0, 0), (10, 1, 0, 0, 0), (11, 2, 0, 858993459, 0), (14, 17, 4, 0, 0), (15, 1, 0, 0, 0), (16, 2, 0, 2, 0), (17, 17, 9, 0, 0), (18, 2, 0, 858993459, 0), (21, 17, 4, 0, 0), (22, 17, 1, 0, 0), (23, 9, 0, 0, 0), (24, 1, 0, 0, 0), (25, 1, 0, 0, 0), (26, 2, 0, 4, 0), (27, 17, 9, 0, 0), (28, 17, 1, 0, 0), (29, 2, 0, 252645135, 0), (32, 17, 4, 0, 0), (33, 9, 0, 0, 0), (34, 1, 0, 0, 0), (35, 1, 0, 0, 0), (36, 2, 0, 8, 0), (38, 17, 9, 0, 0), (39, 17, 1, 0, 0), (40, 9, 0, 0, 0), (41, 1, 0, 0, 0), (42, 1, 0, 0, 0), (43, 2, 0, 16, 0), (45, 17, 9, 0, 0), (46, 17, 1, 0, 0), (47, 9, 0, 0, 0), (48, 1, 0, 0, 0), (49, 2, 0, 63, 0), (51, 17, 4, 0, 0), (52, 13, 0, 0, 0)]
set_option maxRecDepth 100000 in
def e_p276 : List e_E := [(0, 1, 0, 0, 0), (1, 2, 0, 4294967295, 0), (2, 17, 6, 0, 0), (3, 1, 0, 0, 0), (4, 2, 0, 1, 0), (5, 17, 2, 0, 0), (6, 17, 4, 0, 0), (7, 9, 0, 0, 0), (8, 1, 0, 0, 0), (9, 10, 4, 0, 8), (12, 1, 0, 0, 0), (13, 2, 0, 32, 0), (15, 17, 4, 0, 0), (16, 13, 0, 0, 0), (17, 0, 0, 0, 0), (18, 0, 0, 0, 0), (19, 0, 0, 0, 0), (20, 0, 0, 0, 0), (23, 0, 0, 0, 0), (26, 0, 0, 0, 0), (29, 0, 0, 0, 0), (30, 0, 0, 0, 0), (32, 0, 0, 0, 0), (33, 0, 0, 0, 0), (34, 0, 0, 0, 0), (35, 0, 0, 0, 0), (38, 0, 0, 0, 0), (41, 0, 0, 0, 0), (44, 0, 0, 0, 0), (45, 0, 0, 0, 0), (47, 0, 0, 0, 0), (48, 0, 0, 0, 0), (49, 0, 0, 0, 0), (50, 0, 0, 0, 0), (52, 0, 0, 0, 0), (55, 0, 0, 0, 0), (58, 0, 0, 0, 0), (59, 0, 0, 0, 0), (60, 0, 0, 0, 0), (61, 0, 0, 0, 0), (62, 0, 0, 0, 0), (63, 0, 0, 0, 0), (64, 0, 0, 0, 0), (67, 0, 0, 0, 0), (70, 0, 0, 0, 0), (71, 0, 0, 0, 0), (72, 0, 0, 0, 0), (73, 0, 0, 0, 0), (74, 0, 0, 0, 0), (75, 0, 0, 0, 0), (76, 0, 0, 0, 0), (77, 0, 0, 0, 0), (78, 0, 0, 0, 0), (79, 0, 0, 0, 0)]
set_option maxRecDepth 100000 in
def e_p277 : List e_E := [(0, 1, 0, 1, 0), (1, 23, 0, 0, 0), (2, 9, 2, 0, 0), (3, 1, 2, 0, 0), (4, 10, 1, 0, 16), (7, 0, 0, 0, 0), (9, 0, 0, 0, 0), (10, 0, 0, 0, 0), (12, 0, 0, 0, 0), (13, 0, 0, 0, 0), (14, 0, 0, 0, 0), (17, 0, 0, 0, 0), (18, 0, 0, 0, 0), (21, 1, 2, 0, 0), (22, 8, 276, 1, 0), (25, 13, 0, 0, 0)]
set_option maxRecDepth 100000 in
def e_p278 : List e_E := [(0, 1, 0, 0, 0), (1, 1, 1, 0, 0), (2, 16, 2, 0, 4), (5, 0, 0, 0, 0), (6, 0, 0, 0, 0), (9, 1, 1, 0, 0), (10, 13, 0, 0, 0)]
set_option maxRecDepth 100000 in
def e_p279 : List e_E := [(0, 1, 0, 0, 0), (1, 1, 1, 0, 0), (2, 16, 4, 0, 4), (5, 1, 0, 0, 0), (6, 3, 0, 0, 2), (9, 0, 0, 0, 0), (10, 13, 0, 0, 0)]
set_option maxRecDepth 100000 in
def e_p280 : List e_E := [(0, 1, 0, 2, 0), (1, 8, 283, 1, 1000), (4, 10, 0, 0, 10), (7, 1, 0, 2, 0), (8, 40, 0, 0, 0), (11, 1, 1, 0, 0), (12, 8, 285, 2, 0), (15, 13, 0, 2, 0), (16, 0, 0, 0, 0), (17, 0, 0, 0, 0), (20, 0, 0, 0, 0), (21, 0, 0, 0, 0), (24, 0, 0, 0, 0)]
set_option maxRecDepth 100000 in
def e_p281 : List e_E := [(0, 1, 0, 0, 0), (1, 1, 1, 0, 0), (2, 32, 5, 0, 0), (5, 8, 288, 3, 0), (8, 21, 0, 0, 0), (9, 5, 0, 0, 0)]
set_option maxRecDepth 100000 in
def e_p282 : List e_E := [(0, 32, 0, 1, 0), (3, 10, 0, 0, 6), (6, 1, 0, 2, 0), (7, 40, 1, 0, 0), (10, 3, 0, 0, 2), (13, 0, 0, 0, 0), (14, 13, 0, 1, 0)]
set_option maxRecDepth 100000 in
def e_p283 : List e_E := [(0, 32, 0, 1, 0), (3, 10, 0, 0, 10), (6, 1, 0, 2, 0), (7, 40, 1, 0, 0), (10, 10, 1, 0, 4), (13, 2, 0, 1, 0), (14, 3, 0, 0, 2), (17, 0, 0, 0, 0), (18, 13, 0, 1, 0)]
set_option maxRecDepth 100000 in
def e_p284 : List e_E := [(0, 1, 0, 2, 0), (1, 40, 0, 0, 0), (4, 41, 0, 0, 0), (5, 1, 0, 2, 0), (6, 8, 282, 1, 1000), (9, 17, 8, 0, 0), (10, 13, 0, 0, 0)]
set_option maxRecDepth 100000 in
def e_p285 : List e_E := [(0, 1, 1, 0, 0), (1, 1, 0, 2, 0), (2, 41, 0, 0, 0), (3, 8, 281, 2, 0), (6, 1, 0, 2, 0), (7, 1, 1, 0, 0), (8, 42, 0, 0, 0), (9, 2, 0, 255, 0), (12, 17, 4, 0, 0), (13, 35, 0, 0, 0), (14, 13, 0, 2, 0)]
set_option maxRecDepth 100000 in
def e_p286 : List e_E := [(0, 2, 0, 0, 0), (1, 9, 2, 0, 0), (2, 1, 0, 2, 0), (3, 12, 0, 0, 0), (4, 9, 3, 0, 0), (5, 1, 2, 0, 0), (6, 1, 3, 0, 0), (7, 16, 3, 0, 12), (10, 1, 0, 2, 0), (11, 1, 2, 0, 0), (12, 1, 1, 0, 0), (13, 30, 1, 0, 0), (14, 4, 2, 1, 0), (17, 3, 0, 0, 11), (20, 5, 0, 0, 0)]
set_option maxRecDepth 100000 in
def e_p287 : List e_E := [(0, 2, 0, 0, 0), (1, 9, 3, 0, 0), (2, 1, 0, 2, 0), (3, 12, 0, 0, 0), (4, 9, 4, 0, 0), (6, 1, 3, 0, 0), (7, 1, 4, 0, 0), (9, 16, 3, 0, 12), (12, 1, 0, 2, 0), (13, 1, 3, 0, 0), (14, 1, 1, 1, 0), (15, 30, 3, 0, 0), (16, 4, 3, 1, 0), (19, 3, 0, 0, 11), (22, 5, 0, 0, 0)]
set_option maxRecDepth 100000 in
def e_p288 : List e_E := [(0, 1, 0, 0, 0), (1, 10, 2, 0, 6), (4, 1, 0, 0, 0), (5, 1, 1, 0, 0), (6, 16, 2, 0, 10), (9, 0, 0, 0, 0), (10, 0, 0, 0, 0), (11, 0, 0, 0, 0), (12, 0, 0, 0, 0), (15, 0, 0, 0, 0), (16, 1, 0, 0, 0), (17, 13, 0, 0, 0)]
def e_pg (n : Nat) : List e_E := cond (Nat.ble n 143) (cond (Nat.ble n 71) (cond (Nat.ble n 35) (cond (Nat.ble n 17) (cond (Nat.ble n 8) (cond (Nat.ble n 3) (cond (Nat.ble n 1) (cond (Nat.ble n 0) (e_p0) (e_p1)) (cond (Nat.ble n 2) (e_p2) (e_p3))) (cond (Nat.ble n 5) (cond (Nat.ble n 4) (e_p4) (e_p5)) (cond (Nat.ble n 6) (e_p6) (cond (Nat.ble n 7) (e_p7) (e_p8))))) (cond (Nat.ble n 12) (cond (Nat.ble n 10) (cond (Nat.ble n 9) (e_p9) (e_p10)) (cond (Nat.ble n 11) (e_p11) (e_p12))) (cond (Nat.ble n 14) (cond (Nat.ble n 13) (e_p13) (e_p14)) (cond (Nat.ble n 15) (e_p15) (cond (Nat.ble n 16) (e_p16) (e_p17)))))) (cond (Nat.ble n 26) (cond (Nat.ble n 21) (cond (Nat.ble n 19) (cond (Nat.ble n 18) (e_p18) (e_p19)) (cond (Nat.ble n 20) (e_p20) (e_p21))) (cond (Nat.ble n 23) (cond (Nat.ble n 22) (e_p22) (e_p23)) (cond (Nat.ble n 24) (e_p24) (cond (Nat.ble n 25) (e_p25) (e_p26))))) (cond (Nat.ble n 30) (cond (Nat.ble n 28) (cond (Nat.ble n 27) (e_p27) (e_p28)) (cond (Nat.ble n 29) (e_p29) (e_p30))) (cond (Nat.ble n 32) (cond (Nat.ble n 31) (e_p31) (e_p32)) (cond (Nat.ble n 33) (e_p33) (cond (Nat.ble n 34) (e_p34) (e_p35))))))) (cond (Nat.ble n 53) (cond (Nat.ble n 44) (cond (Nat.ble n 39) (cond (Nat.ble n 37) (cond (Nat.ble n 36) (e_p36) (e_p37)) (cond (Nat.ble n 38) (e_p38) (e_p39))) (cond (Nat.ble n 41) (cond (Nat.ble n 40) (e_p40) (e_p41)) (cond (Nat.ble n 42) (e_p42) (cond (Nat.ble n 43) (e_p43) (e_p44))))) (cond (Nat.ble n 48) (cond (Nat.ble n 46) (cond (Nat.ble n 45) (e_p45) (e_p46)) (cond (Nat.ble n 47) (e_p47) (e_p48))) (cond (Nat.ble n 50) (cond (Nat.ble n 49) (e_p49) (e_p50)) (cond (Nat.ble n 51) (e_p51) (cond (Nat.ble n 52) (e_p52) (e_p53)))))) (cond (Nat.ble n 62) (cond (Nat.ble n 57) (cond (Nat.ble n 55) (cond (Nat.ble n 54) (e_p54) (e_p55)) (cond (Nat.ble n 56) (e_p56) (e_p57))) (cond (Nat.ble n 59) (cond (Nat.ble n 58) (e_p58) (e_p59)) (cond (Nat.ble n 60) (e_p60) (cond (Nat.ble n 61) (e_p61) (e_p62))))) (cond (Nat.ble n 66) (cond (Nat.ble n 64) (cond (Nat.ble n 63) (e_p63) (e_p64)) (cond (Nat.ble n 65) (e_p65) (e_p66))) (cond (Nat.ble n 68) (cond (Nat.ble n 67) (e_p67) (e_p68)) (cond (Nat.ble n 69) (e_p69) (cond (Nat.ble n 70) (e_p70) (e_p71)))))))) (cond (Nat.ble n 107) (cond (Nat.ble n 89) (cond (Nat.ble n 80) (cond (Nat.ble n 75) (cond (Nat.ble n 73) (cond (Nat.ble n 72) (e_p72) (e_p73)) (cond (Nat.ble n 74) (e_p74) (e_p75))) (cond (Nat.ble n 77) (cond (Nat.ble n 76) (e_p76) (e_p77)) (cond (Nat.ble n 78) (e_p78) (cond (Nat.ble n 79) (e_p79) (e_p80))))) (cond (Nat.ble n 84) (cond (Nat.ble n 82) (cond (Nat.ble n 81) (e_p81) (e_p82)) (cond (Nat.ble n 83) (e_p83) (e_p84))) (cond (Nat.ble n 86) (cond (Nat.ble n 85) (e_p85) (e_p86)) (cond (Nat.ble n 87) (e_p87) (cond (Nat.ble n 88) (e_p88) (e_p89)))))) (cond (Nat.ble n 98) (cond (Nat.ble n 93) (cond (Nat.ble n 91) (cond (Nat.ble n 90) (e_p90) (e_p91)) (cond (Nat.ble n 92) (e_p92) (e_p93))) (cond (Nat.ble n 95) (cond (Nat.ble n 94) (e_p94) (e_p95)) (cond (Nat.ble n 96) (e_p96) (cond (Nat.ble n 97) (e_p97) (e_p98))))) (cond (Nat.ble n 102) (cond (Nat.ble n 100) (cond (Nat.ble n 99) (e_p99) (e_p100)) (cond (Nat.ble n 101) (e_p101) (e_p102))) (cond (Nat.ble n 104) (cond (Nat.ble n 103) (e_p103) (e_p104)) (cond (Nat.ble n 105) (e_p105) (cond (Nat.ble n 106) (e_p106) (e_p107))))))) (cond (Nat.ble n 125) (cond (Nat.ble n 116) (cond (Nat.ble n 111) (cond (Nat.ble n 109) (cond (Nat.ble n 108) (e_p108) (e_p109)) (cond (Nat.ble n 110) (e_p110) (e_p111))) (cond (Nat.ble n 113) (cond (Nat.ble n 112) (e_p112) (e_p113)) (cond (Nat.ble n 114) (e_p114) (cond (Nat.ble n 115) (e_p115) (e_p116))))) (cond (Nat.ble n 120) (cond (Nat.ble n 118) (cond (Nat.ble n 117) (e_p117) (e_p118)) (cond (Nat.ble n 119) (e_p119) (e_p120))) (cond (Nat.ble n 122) (cond (Nat.ble n 121) (e_p121) (e_p122)) (cond (Nat.ble n 123) (e_p123) (cond (Nat.ble n 124) (e_p124) (e_p125)))))) (cond (Nat.ble n 134) (cond (Nat.ble n 129) (cond (Nat.ble n 127) (cond (Nat.ble n 126) (e_p126) (e_p127)) (cond (Nat.ble n 128) (e_p128) (e_p129))) (cond (Nat.ble n 131) (cond (Nat.ble n 130) (e_p130) (e_p131)) (cond (Nat.ble n 132) (e_p132) (cond (Nat.ble n 133) (e_p133) (e_p134))))) (cond (Nat.ble n 138) (cond (Nat.ble n 136) (cond (Nat.ble n 135) (e_p135) (e_p136)) (cond (Nat.ble n 137) (e_p137) (e_p138))) (cond (Nat.ble n 140) (cond (Nat.ble n 139) (e_p139) (e_p140)) (cond (Nat.ble n 141) (e_p141) (cond (Nat.ble n 142) (e_p142) (e_p143))))))))) (cond (Nat.ble n 215) (cond (Nat.ble n 179) (cond (Nat.ble n 161) (cond (Nat.ble n 152) (cond (Nat.ble n 147) (cond (Nat.ble n 145) (cond (Nat.ble n 144) (e_p144) (e_p145)) (cond (Nat.ble n 146) (e_p146) (e_p147))) (cond (Nat.ble n 149) (cond (Nat.ble n 148) (e_p148) (e_p149)) (cond (Nat.ble n 150) (e_p150) (cond (Nat.ble n 151) (e_p151) (e_p152))))) (cond (Nat.ble n 156) (cond (Nat.ble n 154) (cond (Nat.ble n 153) (e_p153) (e_p154)) (cond (Nat.ble n 155) (e_p155) (e_p156))) (cond (Nat.ble n 158) (cond (Nat.ble n 157) (e_p157) (e_p158)) (cond (Nat.ble n 159) (e_p159) (cond (Nat.ble n 160) (e_p160) (e_p161)))))) (cond (Nat.ble n 170) (cond (Nat.ble n 165) (cond (Nat.ble n 163) (cond (Nat.ble n 162) (e_p162) (e_p163)) (cond (Nat.ble n 164) (e_p164) (e_p165))) (cond (Nat.ble n 167) (cond (Nat.ble n 166) (e_p166) (e_p167)) (cond (Nat.ble n 168) (e_p168) (cond (Nat.ble n 169) (e_p169) (e_p170))))) (cond (Nat.ble n 174) (cond (Nat.ble n 172) (cond (Nat.ble n 171) (e_p171) (e_p172)) (cond (Nat.ble n 173) (e_p173) (e_p174))) (cond (Nat.ble n 176) (cond (Nat.ble n 175) (e_p175) (e_p176)) (cond (Nat.ble n 177) (e_p177) (cond (Nat.ble n 178) (e_p178) (e_p179))))))) (cond (Nat.ble n 197) (cond (Nat.ble n 188) (cond (Nat.ble n 183) (cond (Nat.ble n 181) (cond (Nat.ble n 180) (e_p180) (e_p181)) (cond (Nat.ble n 182) (e_p182) (e_p183))) (cond (Nat.ble n 185) (cond (Nat.ble n 184) (e_p184) (e_p185)) (cond (Nat.ble n 186) (e_p186) (cond (Nat.ble n 187) (e_p187) (e_p188))))) (cond (Nat.ble n 192) (cond (Nat.ble n 190) (cond (Nat.ble n 189) (e_p189) (e_p190)) (cond (Nat.ble n 191) (e_p191) (e_p192))) (cond (Nat.ble n 194) (cond (Nat.ble n 193) (e_p193) (e_p194)) (cond (Nat.ble n 195) (e_p195) (cond (Nat.ble n 196) (e_p196) (e_p197)))))) (cond (Nat.ble n 206) (cond (Nat.ble n 201) (cond (Nat.ble n 199) (cond (Nat.ble n 198) (e_p198) (e_p199)) (cond (Nat.ble n 200) (e_p200) (e_p201))) (cond (Nat.ble n 203) (cond (Nat.ble n 202) (e_p202) (e_p203)) (cond (Nat.ble n 204) (e_p204) (cond (Nat.ble n 205) (e_p205) (e_p206))))) (cond (Nat.ble n 210) (cond (Nat.ble n 208) (cond (Nat.ble n 207) (e_p207) (e_p208)) (cond (Nat.ble n 209) (e_p209) (e_p210))) (cond (Nat.ble n 212) (cond (Nat.ble n 211) (e_p211) (e_p212)) (cond (Nat.ble n 213) (e_p213) (cond (Nat.ble n 214) (e_p214) (e_p215)))))))) (cond (Nat.ble n 251) (cond (Nat.ble n 233) (cond (Nat.ble n 224) (cond (Nat.ble n 219) (cond (Nat.ble n 217) (cond (Nat.ble n 216) (e_p216) (e_p217)) (cond (Nat.ble n 218) (e_p218) (e_p219))) (cond (Nat.ble n 221) (cond (Nat.ble n 220) (e_p220) (e_p221)) (cond (Nat.ble n 222) (e_p222) (cond (Nat.ble n 223) (e_p223) (e_p224))))) (cond (Nat.ble n 228) (cond (Nat.ble n 226) (cond (Nat.ble n 225) (e_p225) (e_p226)) (cond (Nat.ble n 227) (e_p227) (e_p228))) (cond (Nat.ble n 230) (cond (Nat.ble n 229) (e_p229) (e_p230)) (cond (Nat.ble n 231) (e_p231) (cond (Nat.ble n 232) (e_p232) (e_p233)))))) (cond (Nat.ble n 242) (cond (Nat.ble n 237) (cond (Nat.ble n 235) (cond (Nat.ble n 234) (e_p234) (e_p235)) (cond (Nat.ble n 236) (e_p236) (e_p237))) (cond (Nat.ble n 239) (cond (Nat.ble n 238) (e_p238) (e_p239)) (cond (Nat.ble n 240) (e_p240) (cond (Nat.ble n 241) (e_p241) (e_p242))))) (cond (Nat.ble n 246) (cond (Nat.ble n 244) (cond (Nat.ble n 243) (e_p243) (e_p244)) (cond (Nat.ble n 245) (e_p245) (e_p246))) (cond (Nat.ble n 248) (cond (Nat.ble n 247) (e_p247) (e_p248)) (cond (Nat.ble n 249) (e_p249) (cond (Nat.ble n 250) (e_p250) (e_p251))))))) (cond (Nat.ble n 269) (cond (Nat.ble n 260) (cond (Nat.ble n 255) (cond (Nat.ble n 253) (cond (Nat.ble n 252) (e_p252) (e_p253)) (cond (Nat.ble n 254) (e_p254) (e_p255))) (cond (Nat.ble n 257) (cond (Nat.ble n 256) (e_p256) (e_p257)) (cond (Nat.ble n 258) (e_p258) (cond (Nat.ble n 259) (e_p259) (e_p260))))) (cond (Nat.ble n 264) (cond (Nat.ble n 262) (cond (Nat.ble n 261) (e_p261) (e_p262)) (cond (Nat.ble n 263) (e_p263) (e_p264))) (cond (Nat.ble n 266) (cond (Nat.ble n 265) (e_p265) (e_p266)) (cond (Nat.ble n 267) (e_p267) (cond (Nat.ble n 268) (e_p268) (e_p269)))))) (cond (Nat.ble n 278) (cond (Nat.ble n 273) (cond (Nat.ble n 271) (cond (Nat.ble n 270) (e_p270) (e_p271)) (cond (Nat.ble n 272) (e_p272) (e_p273))) (cond (Nat.ble n 275) (cond (Nat.ble n 274) (e_p274) (e_p275)) (cond (Nat.ble n 276) (e_p276) (cond (Nat.ble n 277) (e_p277) (e_p278))))) (cond (Nat.ble n 283) (cond (Nat.ble n 280) (cond (Nat.ble n 279) (e_p279) (e_p280)) (cond (Nat.ble n 281) (e_p281) (cond (Nat.ble n 282) (e_p282) (e_p283)))) (cond (Nat.ble n 285) (cond (Nat.ble n 284) (e_p284) (e_p285)) (cond (Nat.ble n 286) (e_p286) (cond (Nat.ble n 287) (e_p287) (e_p288)))))))))
def e_bud (n : Nat) : Nat × Nat × Nat := cond (Nat.ble n 143) (cond (Nat.ble n 71) (cond (Nat.ble n 35) (cond (Nat.ble n 17) (cond (Nat.ble n 8) (cond (Nat.ble n 3) (cond (Nat.ble n 1) (cond (Nat.ble n 0) ((226, 61659, 9)) ((83, 5370, 1))) (cond (Nat.ble n 2) ((3, 18, 3)) ((1, 5, 9)))) (cond (Nat.ble n 5) (cond (Nat.ble n 4) ((0, 0, 2)) ((0, 0, 4))) (cond (Nat.ble n 6) ((2, 12, 3)) (cond (Nat.ble n 7) ((2, 12, 3)) ((5, 27, 4)))))) (cond (Nat.ble n 12) (cond (Nat.ble n 10) (cond (Nat.ble n 9) ((1, 6, 2)) ((0, 0, 3))) (cond (Nat.ble n 11) ((1, 6, 1)) ((3, 15, 2)))) (cond (Nat.ble n 14) (cond (Nat.ble n 13) ((1, 6, 3)) ((0, 0, 2))) (cond (Nat.ble n 15) ((1, 6, 1)) (cond (Nat.ble n 16) ((1, 6, 2)) ((1, 6, 2))))))) (cond (Nat.ble n 26) (cond (Nat.ble n 21) (cond (Nat.ble n 19) (cond (Nat.ble n 18) ((0, 0, 3)) ((0, 0, 2))) (cond (Nat.ble n 20) ((4, 21, 3)) ((16, 84, 3)))) (cond (Nat.ble n 23) (cond (Nat.ble n 22) ((4, 21, 3)) ((0, 0, 1))) (cond (Nat.ble n 24) ((24, 136, 4)) (cond (Nat.ble n 25) ((1, 6, 4)) ((0, 0, 1)))))) (cond (Nat.ble n 30) (cond (Nat.ble n 28) (cond (Nat.ble n 27) ((2, 12, 5)) ((0, 0, 2))) (cond (Nat.ble n 29) ((0, 0, 3)) ((1, 6, 7)))) (cond (Nat.ble n 32) (cond (Nat.ble n 31) ((14, 120, 3)) ((0, 0, 2))) (cond (Nat.ble n 33) ((2, 12, 3)) (cond (Nat.ble n 34) ((0, 0, 3)) ((1, 6, 4)))))))) (cond (Nat.ble n 53) (cond (Nat.ble n 44) (cond (Nat.ble n 39) (cond (Nat.ble n 37) (cond (Nat.ble n 36) ((4, 24, 4)) ((0, 0, 3))) (cond (Nat.ble n 38) ((2, 12, 3)) ((0, 0, 6)))) (cond (Nat.ble n 41) (cond (Nat.ble n 40) ((3, 18, 5)) ((3, 18, 5))) (cond (Nat.ble n 42) ((0, 0, 2)) (cond (Nat.ble n 43) ((6, 33, 6)) ((3, 18, 5)))))) (cond (Nat.ble n 48) (cond (Nat.ble n 46) (cond (Nat.ble n 45) ((0, 0, 1)) ((1, 6, 2))) (cond (Nat.ble n 47) ((2, 12, 4)) ((0, 0, 4)))) (cond (Nat.ble n 50) (cond (Nat.ble n 49) ((2, 12, 3)) ((3, 18, 5))) (cond (Nat.ble n 51) ((0, 0, 2)) (cond (Nat.ble n 52) ((2, 12, 3)) ((2, 12, 3))))))) (cond (Nat.ble n 62) (cond (Nat.ble n 57) (cond (Nat.ble n 55) (cond (Nat.ble n 54) ((2, 12, 4)) ((1, 6, 2))) (cond (Nat.ble n 56) ((1, 6, 2)) ((5, 27, 4)))) (cond (Nat.ble n 59) (cond (Nat.ble n 58) ((1, 6, 7)) ((0, 0, 1))) (cond (Nat.ble n 60) ((0, 0, 2)) (cond (Nat.ble n 61) ((0, 0, 3)) ((2, 12, 3)))))) (cond (Nat.ble n 66) (cond (Nat.ble n 64) (cond (Nat.ble n 63) ((3, 18, 4)) ((1, 6, 2))) (cond (Nat.ble n 65) ((0, 0, 3)) ((3, 18, 5)))) (cond (Nat.ble n 68) (cond (Nat.ble n 67) ((1, 6, 2)) ((1, 6, 2))) (cond (Nat.ble n 69) ((3, 18, 5)) (cond (Nat.ble n 70) ((1, 6, 2)) ((5, 27, 4))))))))) (cond (Nat.ble n 107) (cond (Nat.ble n 89) (cond (Nat.ble n 80) (cond (Nat.ble n 75) (cond (Nat.ble n 73) (cond (Nat.ble n 72) ((0, 0, 3)) ((0, 0, 3))) (cond (Nat.ble n 74) ((2, 12, 4)) ((0, 0, 2)))) (cond (Nat.ble n 77) (cond (Nat.ble n 76) ((0, 0, 4)) ((0, 0, 3))) (cond (Nat.ble n 78) ((0, 0, 6)) (cond (Nat.ble n 79) ((0, 0, 3)) ((0, 0, 3)))))) (cond (Nat.ble n 84) (cond (Nat.ble n 82) (cond (Nat.ble n 81) ((0, 0, 2)) ((0, 0, 3))) (cond (Nat.ble n 83) ((0, 0, 5)) ((13, 723, 1)))) (cond (Nat.ble n 86) (cond (Nat.ble n 85) ((0, 0, 3)) ((0, 0, 7))) (cond (Nat.ble n 87) ((0, 0, 3)) (cond (Nat.ble n 88) ((0, 0, 7)) ((0, 0, 13))))))) (cond (Nat.ble n 98) (cond (Nat.ble n 93) (cond (Nat.ble n 91) (cond (Nat.ble n 90) ((0, 0, 3)) ((0, 0, 6))) (cond (Nat.ble n 92) ((0, 0, 11)) ((0, 0, 4)))) (cond (Nat.ble n 95) (cond (Nat.ble n 94) ((0, 0, 3)) ((0, 0, 2))) (cond (Nat.ble n 96) ((0, 0, 4)) (cond (Nat.ble n 97) ((0, 0, 4)) ((0, 0, 8)))))) (cond (Nat.ble n 102) (cond (Nat.ble n 100) (cond (Nat.ble n 99) ((29, 1379, 2)) ((3, 15, 6))) (cond (Nat.ble n 101) ((6, 257, 1)) ((2, 13, 4)))) (cond (Nat.ble n 104) (cond (Nat.ble n 103) ((0, 0, 3)) ((0, 0, 4))) (cond (Nat.ble n 105) ((0, 0, 5)) (cond (Nat.ble n 106) ((1, 6, 1)) ((0, 0, 1)))))))) (cond (Nat.ble n 125) (cond (Nat.ble n 116) (cond (Nat.ble n 111) (cond (Nat.ble n 109) (cond (Nat.ble n 108) ((12, 104, 4)) ((0, 0, 3))) (cond (Nat.ble n 110) ((0, 0, 2)) ((0, 0, 3)))) (cond (Nat.ble n 113) (cond (Nat.ble n 112) ((0, 0, 3)) ((0, 0, 2))) (cond (Nat.ble n 114) ((0, 0, 3)) (cond (Nat.ble n 115) ((0, 0, 2)) ((0, 0, 12)))))) (cond (Nat.ble n 120) (cond (Nat.ble n 118) (cond (Nat.ble n 117) ((0, 0, 3)) ((3, 14, 2))) (cond (Nat.ble n 119) ((0, 0, 1)) ((0, 0, 2)))) (cond (Nat.ble n 122) (cond (Nat.ble n 121) ((0, 0, 3)) ((0, 0, 1))) (cond (Nat.ble n 123) ((0, 0, 1)) (cond (Nat.ble n 124) ((0, 0, 1)) ((0, 0, 6))))))) (cond (Nat.ble n 134) (cond (Nat.ble n 129) (cond (Nat.ble n 127) (cond (Nat.ble n 126) ((7, 1750, 1)) ((0, 0, 1))) (cond (Nat.ble n 128) ((0, 0, 1)) ((0, 0, 8)))) (cond (Nat.ble n 131) (cond (Nat.ble n 130) ((0, 0, 2)) ((0, 0, 4))) (cond (Nat.ble n 132) ((0, 0, 3)) (cond (Nat.ble n 133) ((2, 128, 1)) ((0, 0, 3)))))) (cond (Nat.ble n 138) (cond (Nat.ble n 136) (cond (Nat.ble n 135) ((0, 0, 3)) ((0, 0, 4))) (cond (Nat.ble n 137) ((0, 0, 9)) ((0, 0, 3)))) (cond (Nat.ble n 140) (cond (Nat.ble n 139) ((0, 0, 4)) ((8, 835, 1))) (cond (Nat.ble n 141) ((0, 0, 4)) (cond (Nat.ble n 142) ((0, 0, 4)) ((0, 0, 7)))))))))) (cond (Nat.ble n 215) (cond (Nat.ble n 179) (cond (Nat.ble n 161) (cond (Nat.ble n 152) (cond (Nat.ble n 147) (cond (Nat.ble n 145) (cond (Nat.ble n 144) ((0, 0, 8)) ((0, 0, 2))) (cond (Nat.ble n 146) ((0, 0, 2)) ((2, 9, 5)))) (cond (Nat.ble n 149) (cond (Nat.ble n 148) ((0, 0, 3)) ((0, 0, 4))) (cond (Nat.ble n 150) ((4, 30, 1)) (cond (Nat.ble n 151) ((0, 0, 3)) ((0, 0, 2)))))) (cond (Nat.ble n 156) (cond (Nat.ble n 154) (cond (Nat.ble n 153) ((0, 0, 4)) ((3, 18, 5))) (cond (Nat.ble n 155) ((1, 5, 8)) ((2, 12, 5)))) (cond (Nat.ble n 158) (cond (Nat.ble n 157) ((2, 12, 4)) ((5, 27, 5))) (cond (Nat.ble n 159) ((1, 6, 4)) (cond (Nat.ble n 160) ((4, 21, 4)) ((1, 6, 4))))))) (cond (Nat.ble n 170) (cond (Nat.ble n 165) (cond (Nat.ble n 163) (cond (Nat.ble n 162) ((2, 12, 5)) ((1, 6, 4))) (cond (Nat.ble n 164) ((14, 120, 4)) ((2, 12, 5)))) (cond (Nat.ble n 167) (cond (Nat.ble n 166) ((1, 6, 3)) ((4, 24, 6))) (cond (Nat.ble n 168) ((3, 18, 5)) (cond (Nat.ble n 169) ((3, 18, 6)) ((6, 33, 6)))))) (cond (Nat.ble n 174) (cond (Nat.ble n 172) (cond (Nat.ble n 171) ((3, 18, 6)) ((1, 6, 4))) (cond (Nat.ble n 173) ((2, 12, 4)) ((2, 12, 5)))) (cond (Nat.ble n 176) (cond (Nat.ble n 175) ((3, 18, 6)) ((2, 12, 4))) (cond (Nat.ble n 177) ((2, 12, 4)) (cond (Nat.ble n 178) ((2, 12, 5)) ((1, 6, 4)))))))) (cond (Nat.ble n 197) (cond (Nat.ble n 188) (cond (Nat.ble n 183) (cond (Nat.ble n 181) (cond (Nat.ble n 180) ((1, 6, 4)) ((5, 27, 5))) (cond (Nat.ble n 182) ((1, 6, 5)) ((2, 12, 5)))) (cond (Nat.ble n 185) (cond (Nat.ble n 184) ((3, 18, 6)) ((3, 18, 6))) (cond (Nat.ble n 186) ((1, 6, 4)) (cond (Nat.ble n 187) ((1, 6, 4)) ((3, 18, 6)))))) (cond (Nat.ble n 192) (cond (Nat.ble n 190) (cond (Nat.ble n 189) ((5, 27, 5)) ((76, 14149, 2))) (cond (Nat.ble n 191) ((0, 0, 4)) ((0, 0, 6)))) (cond (Nat.ble n 194) (cond (Nat.ble n 193) ((0, 0, 9)) ((2, 2, 13))) (cond (Nat.ble n 195) ((0, 0, 14)) (cond (Nat.ble n 196) ((0, 0, 4)) ((0, 0, 2))))))) (cond (Nat.ble n 206) (cond (Nat.ble n 201) (cond (Nat.ble n 199) (cond (Nat.ble n 198) ((0, 0, 2)) ((0, 0, 7))) (cond (Nat.ble n 200) ((0, 0, 8)) ((0, 0, 6)))) (cond (Nat.ble n 203) (cond (Nat.ble n 202) ((0, 0, 3)) ((0, 0, 2))) (cond (Nat.ble n 204) ((0, 0, 2)) (cond (Nat.ble n 205) ((0, 0, 6)) ((5, 19, 2)))))) (cond (Nat.ble n 210) (cond (Nat.ble n 208) (cond (Nat.ble n 207) ((0, 0, 1)) ((40, 41952, 7))) (cond (Nat.ble n 209) ((0, 0, 4)) ((0, 0, 1)))) (cond (Nat.ble n 212) (cond (Nat.ble n 211) ((3, 3, 15)) ((0, 0, 5))) (cond (Nat.ble n 213) ((0, 0, 5)) (cond (Nat.ble n 214) ((7, 257, 4)) ((3, 3, 3))))))))) (cond (Nat.ble n 251) (cond (Nat.ble n 233) (cond (Nat.ble n 224) (cond (Nat.ble n 219) (cond (Nat.ble n 217) (cond (Nat.ble n 216) ((0, 0, 2)) ((0, 0, 1))) (cond (Nat.ble n 218) ((0, 0, 1)) ((0, 0, 2)))) (cond (Nat.ble n 221) (cond (Nat.ble n 220) ((0, 0, 1)) ((0, 0, 1))) (cond (Nat.ble n 222) ((0, 0, 2)) (cond (Nat.ble n 223) ((0, 0, 6)) ((0, 0, 9)))))) (cond (Nat.ble n 228) (cond (Nat.ble n 226) (cond (Nat.ble n 225) ((0, 0, 14)) ((3, 10476, 6))) (cond (Nat.ble n 227) ((0, 0, 8)) ((0, 0, 8)))) (cond (Nat.ble n 230) (cond (Nat.ble n 229) ((0, 0, 3)) ((0, 0, 6))) (cond (Nat.ble n 231) ((0, 0, 4)) (cond (Nat.ble n 232) ((0, 0, 3)) ((9, 223, 6))))))) (cond (Nat.ble n 242) (cond (Nat.ble n 237) (cond (Nat.ble n 235) (cond (Nat.ble n 234) ((1, 6, 4)) ((0, 0, 5))) (cond (Nat.ble n 236) ((0, 0, 2)) ((0, 0, 9)))) (cond (Nat.ble n 239) (cond (Nat.ble n 238) ((0, 0, 3)) ((0, 0, 3))) (cond (Nat.ble n 240) ((0, 0, 4)) (cond (Nat.ble n 241) ((0, 0, 2)) ((6, 3366, 4)))))) (cond (Nat.ble n 246) (cond (Nat.ble n 244) (cond (Nat.ble n 243) ((0, 0, 2)) ((0, 0, 3))) (cond (Nat.ble n 245) ((0, 0, 3)) ((0, 0, 4)))) (cond (Nat.ble n 248) (cond (Nat.ble n 247) ((0, 0, 6)) ((0, 0, 2))) (cond (Nat.ble n 249) ((0, 0, 2)) (cond (Nat.ble n 250) ((0, 0, 3)) ((28, 428, 19)))))))) (cond (Nat.ble n 269) (cond (Nat.ble n 260) (cond (Nat.ble n 255) (cond (Nat.ble n 253) (cond (Nat.ble n 252) ((0, 0, 5)) ((0, 0, 1))) (cond (Nat.ble n 254) ((3, 3, 3)) ((3, 3, 5)))) (cond (Nat.ble n 257) (cond (Nat.ble n 256) ((0, 0, 5)) ((0, 0, 5))) (cond (Nat.ble n 258) ((0, 0, 2)) (cond (Nat.ble n 259) ((0, 0, 2)) ((0, 0, 4)))))) (cond (Nat.ble n 264) (cond (Nat.ble n 262) (cond (Nat.ble n 261) ((0, 0, 1)) ((0, 0, 7))) (cond (Nat.ble n 263) ((0, 0, 4)) ((0, 0, 3)))) (cond (Nat.ble n 266) (cond (Nat.ble n 265) ((0, 0, 1)) ((0, 0, 4))) (cond (Nat.ble n 267) ((3, 192, 5)) (cond (Nat.ble n 268) ((0, 0, 7)) ((0, 0, 2))))))) (cond (Nat.ble n 278) (cond (Nat.ble n 273) (cond (Nat.ble n 271) (cond (Nat.ble n 270) ((0, 0, 7)) ((0, 0, 15))) (cond (Nat.ble n 272) ((6, 246, 1)) ((4, 13, 3)))) (cond (Nat.ble n 275) (cond (Nat.ble n 274) ((5, 3360, 2)) ((0, 0, 1))) (cond (Nat.ble n 276) ((0, 0, 2)) (cond (Nat.ble n 277) ((0, 0, 3)) ((0, 0, 2)))))) (cond (Nat.ble n 283) (cond (Nat.ble n 280) (cond (Nat.ble n 279) ((0, 0, 2)) ((0, 0, 2))) (cond (Nat.ble n 281) ((0, 0, 2)) (cond (Nat.ble n 282) ((0, 0, 1)) ((0, 0, 1))))) (cond (Nat.ble n 285) (cond (Nat.ble n 284) ((0, 0, 1)) ((0, 0, 2))) (cond (Nat.ble n 286) ((0, 0, 4)) (cond (Nat.ble n 287) ((0, 0, 5)) ((0, 0, 3))))))))))
def e_hn (n : Nat) : List (Nat × Nat × Nat × Nat) := cond (Nat.ble n 143) (cond (Nat.ble n 71) (cond (Nat.ble n 35) (cond (Nat.ble n 17) (cond (Nat.ble n 8) (cond (Nat.ble n 3) (cond (Nat.ble n 1) (cond (Nat.ble n 0) ([]) ([])) (cond (Nat.ble n 2) ([]) ([]))) (cond (Nat.ble n 5) (cond (Nat.ble n 4) ([]) ([])) (cond (Nat.ble n 6) ([]) (cond (Nat.ble n 7) ([]) ([]))))) (cond (Nat.ble n 12) (cond (Nat.ble n 10) (cond (Nat.ble n 9) ([]) ([])) (cond (Nat.ble n 11) ([]) ([]))) (cond (Nat.ble n 14) (cond (Nat.ble n 13) ([]) ([])) (cond (Nat.ble n 15) ([]) (cond (Nat.ble n 16) ([]) ([])))))) (cond (Nat.ble n 26) (cond (Nat.ble n 21) (cond (Nat.ble n 19) (cond (Nat.ble n 18) ([]) ([])) (cond (Nat.ble n 20) ([]) ([]))) (cond (Nat.ble n 23) (cond (Nat.ble n 22) ([]) ([])) (cond (Nat.ble n 24) ([]) (cond (Nat.ble n 25) ([]) ([]))))) (cond (Nat.ble n 30) (cond (Nat.ble n 28) (cond (Nat.ble n 27) ([]) ([])) (cond (Nat.ble n 29) ([]) ([]))) (cond (Nat.ble n 32) (cond (Nat.ble n 31) ([]) ([])) (cond (Nat.ble n 33) ([]) (cond (Nat.ble n 34) ([]) ([]))))))) (cond (Nat.ble n 53) (cond (Nat.ble n 44) (cond (Nat.ble n 39) (cond (Nat.ble n 37) (cond (Nat.ble n 36) ([]) ([])) (cond (Nat.ble n 38) ([]) ([]))) (cond (Nat.ble n 41) (cond (Nat.ble n 40) ([]) ([])) (cond (Nat.ble n 42) ([]) (cond (Nat.ble n 43) ([]) ([]))))) (cond (Nat.ble n 48) (cond (Nat.ble n 46) (cond (Nat.ble n 45) ([]) ([])) (cond (Nat.ble n 47) ([]) ([]))) (cond (Nat.ble n 50) (cond (Nat.ble n 49) ([]) ([])) (cond (Nat.ble n 51) ([]) (cond (Nat.ble n 52) ([]) ([])))))) (cond (Nat.ble n 62) (cond (Nat.ble n 57) (cond (Nat.ble n 55) (cond (Nat.ble n 54) ([]) ([])) (cond (Nat.ble n 56) ([]) ([]))) (cond (Nat.ble n 59) (cond (Nat.ble n 58) ([]) ([])) (cond (Nat.ble n 60) ([]) (cond (Nat.ble n 61) ([]) ([]))))) (cond (Nat.ble n 66) (cond (Nat.ble n 64) (cond (Nat.ble n 63) ([]) ([])) (cond (Nat.ble n 65) ([]) ([]))) (cond (Nat.ble n 68) (cond (Nat.ble n 67) ([]) ([])) (cond (Nat.ble n 69) ([]) (cond (Nat.ble n 70) ([]) ([])))))))) (cond (Nat.ble n 107) (cond (Nat.ble n 89) (cond (Nat.ble n 80) (cond (Nat.ble n 75) (cond (Nat.ble n 73) (cond (Nat.ble n 72) ([]) ([])) (cond (Nat.ble n 74) ([]) ([]))) (cond (Nat.ble n 77) (cond (Nat.ble n 76) ([]) ([])) (cond (Nat.ble n 78) ([]) (cond (Nat.ble n 79) ([]) ([]))))) (cond (Nat.ble n 84) (cond (Nat.ble n 82) (cond (Nat.ble n 81) ([]) ([])) (cond (Nat.ble n 83) ([]) ([]))) (cond (Nat.ble n 86) (cond (Nat.ble n 85) ([]) ([])) (cond (Nat.ble n 87) ([]) (cond (Nat.ble n 88) ([]) ([])))))) (cond (Nat.ble n 98) (cond (Nat.ble n 93) (cond (Nat.ble n 91) (cond (Nat.ble n 90) ([]) ([])) (cond (Nat.ble n 92) ([]) ([]))) (cond (Nat.ble n 95) (cond (Nat.ble n 94) ([]) ([])) (cond (Nat.ble n 96) ([]) (cond (Nat.ble n 97) ([]) ([]))))) (cond (Nat.ble n 102) (cond (Nat.ble n 100) (cond (Nat.ble n 99) ([]) ([])) (cond (Nat.ble n 101) ([]) ([]))) (cond (Nat.ble n 104) (cond (Nat.ble n 103) ([]) ([])) (cond (Nat.ble n 105) ([]) (cond (Nat.ble n 106) ([]) ([]))))))) (cond (Nat.ble n 125) (cond (Nat.ble n 116) (cond (Nat.ble n 111) (cond (Nat.ble n 109) (cond (Nat.ble n 108) ([]) ([])) (cond (Nat.ble n 110) ([]) ([]))) (cond (Nat.ble n 113) (cond (Nat.ble n 112) ([]) ([])) (cond (Nat.ble n 114) ([]) (cond (Nat.ble n 115) ([]) ([]))))) (cond (Nat.ble n 120) (cond (Nat.ble n 118) (cond (Nat.ble n 117) ([]) ([])) (cond (Nat.ble n 119) ([]) ([]))) (cond (Nat.ble n 122) (cond (Nat.ble n 121) ([]) ([])) (cond (Nat.ble n 123) ([]) (cond (Nat.ble n 124) ([]) ([])))))) (cond (Nat.ble n 134) (cond (Nat.ble n 129) (cond (Nat.ble n 127) (cond (Nat.ble n 126) ([]) ([])) (cond (Nat.ble n 128) ([]) ([]))) (cond (Nat.ble n 131) (cond (Nat.ble n 130) ([]) ([])) (cond (Nat.ble n 132) ([]) (cond (Nat.ble n 133) ([]) ([]))))) (cond (Nat.ble n 138) (cond (Nat.ble n 136) (cond (Nat.ble n 135) ([]) ([])) (cond (Nat.ble n 137) ([]) ([]))) (cond (Nat.ble n 140) (cond (Nat.ble n 139) ([]) ([])) (cond (Nat.ble n 141) ([]) (cond (Nat.ble n 142) ([]) ([]))))))))) (cond (Nat.ble n 215) (cond (Nat.ble n 179) (cond (Nat.ble n 161) (cond (Nat.ble n 152) (cond (Nat.ble n 147) (cond (Nat.ble n 145) (cond (Nat.ble n 144) ([]) ([])) (cond (Nat.ble n 146) ([]) ([]))) (cond (Nat.ble n 149) (cond (Nat.ble n 148) ([]) ([])) (cond (Nat.ble n 150) ([]) (cond (Nat.ble n 151) ([]) ([]))))) (cond (Nat.ble n 156) (cond (Nat.ble n 154) (cond (Nat.ble n 153) ([]) ([(0, 10, 0, 9), (0, 10, 1, 12)])) (cond (Nat.ble n 155) ([(0, 16, 1, 12)]) ([(0, 17, 0, 12)]))) (cond (Nat.ble n 158) (cond (Nat.ble n 157) ([(0, 9, 0, 8), (0, 9, 1, 11)]) ([(0, 10, 0, 9), (0, 10, 1, 12)])) (cond (Nat.ble n 159) ([(0, 9, 0, 8)]) (cond (Nat.ble n 160) ([(0, 9, 0, 8)]) ([(0, 9, 0, 8)])))))) (cond (Nat.ble n 170) (cond (Nat.ble n 165) (cond (Nat.ble n 163) (cond (Nat.ble n 162) ([(0, 17, 0, 12)]) ([(0, 9, 2, 8), (0, 9, 1, 11), (0, 9, 3, 14)])) (cond (Nat.ble n 164) ([(0, 9, 0, 8)]) ([(0, 17, 0, 12)]))) (cond (Nat.ble n 167) (cond (Nat.ble n 166) ([(0, 8, 1, 7)]) ([(0, 19, 0, 13), (0, 19, 1, 16)])) (cond (Nat.ble n 168) ([(0, 10, 0, 9), (0, 10, 1, 12)]) (cond (Nat.ble n 169) ([(0, 12, 0, 10), (0, 12, 2, 13)]) ([(0, 12, 0, 10), (0, 12, 1, 13)]))))) (cond (Nat.ble n 174) (cond (Nat.ble n 172) (cond (Nat.ble n 171) ([(0, 12, 0, 10), (0, 12, 2, 13)]) ([(0, 9, 0, 8)])) (cond (Nat.ble n 173) ([(0, 9, 0, 8), (0, 9, 1, 11)]) ([(0, 10, 0, 9)]))) (cond (Nat.ble n 176) (cond (Nat.ble n 175) ([(0, 12, 0, 10), (0, 12, 2, 13)]) ([(0, 9, 0, 8)])) (cond (Nat.ble n 177) ([(0, 9, 0, 8), (0, 9, 3, 11)]) (cond (Nat.ble n 178) ([(0, 10, 0, 9), (0, 10, 1, 12), (0, 10, 3, 15)]) ([(0, 9, 0, 8)]))))))) (cond (Nat.ble n 197) (cond (Nat.ble n 188) (cond (Nat.ble n 183) (cond (Nat.ble n 181) (cond (Nat.ble n 180) ([(0, 9, 0, 8)]) ([(0, 9, 0, 8), (0, 9, 1, 11)])) (cond (Nat.ble n 182) ([(0, 10, 2, 9), (0, 10, 0, 12), (0, 10, 1, 15)]) ([(0, 10, 0, 9)]))) (cond (Nat.ble n 185) (cond (Nat.ble n 184) ([(0, 12, 0, 10), (0, 12, 2, 13)]) ([(0, 12, 0, 10), (0, 12, 2, 13)])) (cond (Nat.ble n 186) ([(0, 9, 2, 8)]) (cond (Nat.ble n 187) ([(0, 9, 0, 8)]) ([(0, 12, 0, 10), (0, 12, 2, 13)]))))) (cond (Nat.ble n 192) (cond (Nat.ble n 190) (cond (Nat.ble n 189) ([(0, 10, 0, 9)]) ([])) (cond (Nat.ble n 191) ([]) ([]))) (cond (Nat.ble n 194) (cond (Nat.ble n 193) ([]) ([])) (cond (Nat.ble n 195) ([]) (cond (Nat.ble n 196) ([]) ([])))))) (cond (Nat.ble n 206) (cond (Nat.ble n 201) (cond (Nat.ble n 199) (cond (Nat.ble n 198) ([]) ([])) (cond (Nat.ble n 200) ([]) ([]))) (cond (Nat.ble n 203) (cond (Nat.ble n 202) ([]) ([])) (cond (Nat.ble n 204) ([]) (cond (Nat.ble n 205) ([]) ([]))))) (cond (Nat.ble n 210) (cond (Nat.ble n 208) (cond (Nat.ble n 207) ([]) ([])) (cond (Nat.ble n 209) ([]) ([]))) (cond (Nat.ble n 212) (cond (Nat.ble n 211) ([]) ([])) (cond (Nat.ble n 213) ([]) (cond (Nat.ble n 214) ([]) ([])))))))) (cond (Nat.ble n 251) (cond (Nat.ble n 233) (cond (Nat.ble n 224) (cond (Nat.ble n 219) (cond (Nat.ble n 217) (cond (Nat.ble n 216) ([]) ([])) (cond (Nat.ble n 218) ([]) ([]))) (cond (Nat.ble n 221) (cond (Nat.ble n 220) ([]) ([])) (cond (Nat.ble n 222) ([]) (cond (Nat.ble n 223) ([]) ([]))))) (cond (Nat.ble n 228) (cond (Nat.ble n 226) (cond (Nat.ble n 225) ([]) ([])) (cond (Nat.ble n 227) ([]) ([]))) (cond (Nat.ble n 230) (cond (Nat.ble n 229) ([]) ([])) (cond (Nat.ble n 231) ([]) (cond (Nat.ble n 232) ([]) ([])))))) (cond (Nat.ble n 242) (cond (Nat.ble n 237) (cond (Nat.ble n 235) (cond (Nat.ble n 234) ([]) ([])) (cond (Nat.ble n 236) ([]) ([]))) (cond (Nat.ble n 239) (cond (Nat.ble n 238) ([]) ([])) (cond (Nat.ble n 240) ([]) (cond (Nat.ble n 241) ([]) ([]))))) (cond (Nat.ble n 246) (cond (Nat.ble n 244) (cond (Nat.ble n 243) ([]) ([])) (cond (Nat.ble n 245) ([]) ([]))) (cond (Nat.ble n 248) (cond (Nat.ble n 247) ([]) ([])) (cond (Nat.ble n 249) ([]) (cond (Nat.ble n 250) ([]) ([]))))))) (cond (Nat.ble n 269) (cond (Nat.ble n 260) (cond (Nat.ble n 255) (cond (Nat.ble n 253) (cond (Nat.ble n 252) ([]) ([])) (cond (Nat.ble n 254) ([]) ([]))) (cond (Nat.ble n 257) (cond (Nat.ble n 256) ([]) ([])) (cond (Nat.ble n 258) ([]) (cond (Nat.ble n 259) ([]) ([]))))) (cond (Nat.ble n 264) (cond (Nat.ble n 262) (cond (Nat.ble n 261) ([]) ([])) (cond (Nat.ble n 263) ([]) ([]))) (cond (Nat.ble n 266) (cond (Nat.ble n 265) ([]) ([])) (cond (Nat.ble n 267) ([]) (cond (Nat.ble n 268) ([]) ([])))))) (cond (Nat.ble n 278) (cond (Nat.ble n 273) (cond (Nat.ble n 271) (cond (Nat.ble n 270) ([]) ([])) (cond (Nat.ble n 272) ([]) ([]))) (cond (Nat.ble n 275) (cond (Nat.ble n 274) ([]) ([])) (cond (Nat.ble n 276) ([]) (cond (Nat.ble n 277) ([]) ([]))))) (cond (Nat.ble n 283) (cond (Nat.ble n 280) (cond (Nat.ble n 279) ([]) ([])) (cond (Nat.ble n 281) ([]) (cond (Nat.ble n 282) ([]) ([])))) (cond (Nat.ble n 285) (cond (Nat.ble n 284) ([]) ([])) (cond (Nat.ble n 286) ([]) (cond (Nat.ble n 287) ([]) ([])))))))))
def e_fl (n : Nat) : List (Nat × e_V) := cond (Nat.ble n 7) (cond (Nat.ble n 3) (cond (Nat.ble n 1) (cond (Nat.ble n 0) ([(0, (3, 0)), (1, (0, 0)), (2, (0, 0)), (3, (3, 0)), (4, (3, 0)), (5, (3, 0)), (6, (3, 0)), (7, (3, 0)), (8, (3, 0)), (9, (3, 0))]) ([(0, (3, 0)), (1, (3, 0)), (2, (0, 0)), (3, (0, 0)), (4, (3, 0)), (5, (3, 0)), (6, (3, 0)), (7, (0, 0)), (8, (3, 0)), (9, (0, 0)), (10, (0, 0)), (11, (0, 0)), (12, (3, 0)), (13, (0, 0)), (14, (0, 0)), (15, (0, 0)), (16, (0, 0)), (17, (0, 0)), (18, (0, 0)), (19, (0, 0)), (20, (0, 0)), (21, (3, 0)), (22, (0, 0)), (23, (3, 0)), (24, (0, 0)), (25, (3, 0)), (26, (0, 0)), (27, (3, 0)), (28, (3, 0)), (29, (3, 0)), (30, (0, 0)), (31, (0, 0)), (32, (0, 0)), (33, (0, 0)), (34, (0, 0)), (35, (0, 0)), (36, (0, 0)), (37, (0, 0)), (38, (3, 0)), (39, (3, 0)), (40, (3, 0))])) (cond (Nat.ble n 2) ([(0, (0, 0)), (1, (3, 0)), (2, (3, 0))]) ([(0, (3, 0)), (1, (3, 0)), (2, (3, 0)), (3, (3, 0)), (4, (0, 0)), (5, (0, 0)), (6, (1, 0)), (7, (3, 0)), (8, (3, 0)), (9, (3, 0)), (10, (3, 0)), (11, (3, 0)), (12, (0, 0)), (13, (0, 0)), (14, (3, 0)), (15, (3, 0)), (16, (3, 0)), (17, (0, 0)), (18, (3, 0)), (19, (3, 0)), (20, (3, 0))]))) (cond (Nat.ble n 5) (cond (Nat.ble n 4) ([(0, (3, 0)), (1, (3, 0)), (2, (3, 0)), (3, (3, 0)), (4, (3, 0)), (5, (3, 0)), (6, (3, 0)), (7, (3, 0)), (8, (3, 0)), (9, (0, 0)), (10, (0, 0)), (11, (3, 0)), (12, (0, 0)), (13, (0, 0)), (14, (1, 0)), (15, (1, 0)), (16, (0, 0)), (17, (0, 0)), (18, (0, 0))]) ([(0, (3, 0)), (1, (3, 0)), (2, (3, 0)), (3, (3, 0)), (4, (3, 0)), (5, (0, 0)), (6, (0, 0)), (7, (3, 0)), (8, (0, 0)), (9, (0, 0))])) (cond (Nat.ble n 6) ([(0, (0, 0)), (1, (0, 0)), (2, (0, 0)), (3, (0, 0)), (4, (0, 0)), (5, (3, 0)), (6, (0, 0))]) ([(0, (3, 0)), (1, (3, 0)), (2, (3, 0)), (3, (0, 0)), (4, (3, 0)), (5, (3, 0)), (6, (0, 0)), (7, (3, 0)), (8, (0, 0)), (9, (0, 0))])))) (cond (Nat.ble n 11) (cond (Nat.ble n 9) (cond (Nat.ble n 8) ([(0, (0, 0)), (1, (0, 0)), (2, (0, 0)), (3, (0, 0)), (4, (0, 0)), (5, (3, 0)), (6, (1, 0)), (7, (3, 0)), (8, (3, 0)), (9, (0, 0)), (10, (0, 0)), (11, (3, 0)), (12, (0, 0))]) ([(0, (3, 0)), (1, (3, 0)), (2, (3, 0)), (3, (0, 0)), (4, (0, 0)), (5, (0, 0)), (6, (0, 0)), (7, (3, 0)), (8, (0, 0)), (9, (3, 0)), (10, (0, 0)), (11, (0, 0)), (12, (3, 0)), (13, (3, 0))])) (cond (Nat.ble n 10) ([(0, (0, 0)), (1, (0, 0)), (2, (0, 0)), (3, (0, 0)), (4, (3, 0)), (5, (3, 0)), (6, (0, 0))]) ([(0, (3, 0)), (1, (3, 0)), (2, (3, 0)), (3, (3, 0)), (4, (3, 0)), (5, (3, 0))]))) (cond (Nat.ble n 13) (cond (Nat.ble n 12) ([(0, (0, 0)), (1, (3, 0)), (2, (0, 0)), (3, (3, 0)), (4, (3, 0)), (5, (0, 0)), (6, (3, 0))]) ([(0, (3, 0)), (1, (0, 0)), (2, (1, 0)), (3, (1, 0)), (4, (0, 0)), (5, (3, 0)), (6, (3, 0)), (7, (0, 0)), (8, (3, 0)), (9, (0, 0)), (10, (0, 0)), (11, (0, 0))])) (cond (Nat.ble n 14) ([(0, (3, 0)), (1, (3, 0)), (2, (3, 0)), (3, (3, 0)), (4, (3, 0)), (5, (3, 0)), (6, (0, 0)), (7, (0, 0)), (8, (0, 0)), (9, (0, 0)), (10, (0, 0))]) (cond (Nat.ble n 15) ([(0, (0, 0)), (1, (0, 0)), (2, (3, 0)), (3, (3, 0)), (4, (3, 0)), (5, (3, 0))]) ([(0, (0, 0)), (1, (3, 0)), (2, (3, 0)), (3, (3, 0)), (4, (3, 0)), (5, (3, 0))])))))
def e_ovr (n : Nat) : List Nat := cond (Nat.ble n 1) (cond (Nat.ble n 0) ([3334, 0, 150, 164, 178, 248, 318, 388, 498, 608, 678, 774, 844, 934, 1044, 1134, 1204, 1274, 1384, 1494, 1590, 1680, 1790, 1886, 1976, 2046, 2136, 2206, 2276, 2366, 2476, 2490, 2504, 2594, 2684, 2734, 2822, 2892, 3008, 3078, 3148, 3218, 3232, 3274, 3320]) ([16, 0, 4, 8, 12])) (cond (Nat.ble n 2) ([70, 62, 8, 0, 38]) ([16, 0, 4, 8, 12]))
def e_tx (n : Nat) : List Nat := cond (Nat.ble n 14) (cond (Nat.ble n 6) (cond (Nat.ble n 2) (cond (Nat.ble n 0) ([97, 32, 110, 117, 109, 98, 101, 114, 32, 105, 115, 32, 111, 117, 116, 32, 111, 102, 32, 114, 97, 110, 103, 101]) (cond (Nat.ble n 1) ([116, 104, 101, 32, 116, 97, 112, 101, 32, 105, 115, 32, 102, 117, 108, 108]) ([116, 104, 101, 32, 116, 101, 120, 116, 32, 104, 97, 115, 32, 97, 110, 32, 101, 114, 114, 111, 114]))) (cond (Nat.ble n 4) (cond (Nat.ble n 3) ([108, 111, 111, 112, 32, 120, 32, 97, 62, 98, 123, 48, 58, 98, 62, 99, 123, 49, 58, 120, 125, 44, 50, 58, 98, 62, 99, 123, 51, 58, 101, 110, 100, 125, 125]) ([97, 62, 98, 123, 48, 58, 97, 62, 99, 123, 48, 58, 98, 62, 99, 123, 49, 58, 101, 110, 100, 125, 125, 44, 49, 58, 97, 62, 99, 123, 49, 58, 99, 62, 98, 123, 50, 58, 101, 110, 100, 125, 125, 125])) (cond (Nat.ble n 5) ([97, 62, 98, 123, 48, 58, 98, 62, 99, 123, 49, 58, 101, 110, 100, 125, 44, 49, 58, 99, 62, 98, 123, 50, 58, 101, 110, 100, 125, 125]) ([40, 97, 62, 98, 123, 48, 58, 101, 110, 100, 125, 124, 108, 111, 111, 112, 32, 121, 32, 99, 62, 100, 123, 49, 58, 121, 44, 50, 58, 100, 62, 99, 123, 51, 58, 101, 110, 100, 125, 125, 41])))) (cond (Nat.ble n 10) (cond (Nat.ble n 8) (cond (Nat.ble n 7) ([108, 111, 111, 112, 32, 120, 32, 97, 62, 98, 123, 48, 58, 98, 62, 97, 123, 49, 58, 120, 44, 50, 58, 101, 110, 100, 125, 44, 51, 58, 98, 62, 97, 123, 52, 58, 101, 110, 100, 125, 125]) ([116, 104, 101, 114, 101, 32, 105, 115, 32, 110, 111, 32, 115, 117, 99, 104, 32, 112, 108, 97, 99, 101])) (cond (Nat.ble n 9) ([116, 104, 101, 32, 119, 104, 111, 108, 101, 32, 99, 97, 110, 110, 111, 116, 32, 98, 101, 32, 99, 117, 116, 32, 102, 111, 114, 32, 116, 104, 105, 115, 32, 114, 111, 108, 101]) ([116, 104, 101, 32, 112, 97, 114, 116, 32, 104, 97, 115, 32, 110, 111, 116, 32, 106, 117, 115, 116, 32, 111, 110, 101, 32, 111, 116, 104, 101, 114, 32, 114, 111, 108, 101]))) (cond (Nat.ble n 12) (cond (Nat.ble n 11) ([116, 104, 101, 32, 98, 111, 117, 110, 100, 32, 105, 115, 32, 111, 117, 116, 32, 111, 102, 32, 114, 97, 110, 103, 101]) ([116, 104, 101, 32, 119, 104, 111, 108, 101, 32, 99, 97, 110, 110, 111, 116, 32, 98, 101, 32, 99, 117, 116])) (cond (Nat.ble n 13) ([110, 111, 32, 114, 117, 110, 32, 119, 97, 115, 32, 98, 101, 103, 117, 110]) ([116, 104, 101, 32, 114, 111, 108, 101, 32, 99, 97, 110, 110, 111, 116, 32, 103, 101, 116, 32, 97, 110, 111, 116, 104, 101, 114, 32, 112, 97, 114, 116, 32, 110, 111, 119]))))) (cond (Nat.ble n 22) (cond (Nat.ble n 18) (cond (Nat.ble n 16) (cond (Nat.ble n 15) ([116, 104, 101, 32, 114, 111, 108, 101, 32, 100, 111, 101, 115, 32, 110, 111, 116, 32, 115, 116, 97, 110, 100, 32, 105, 110, 32, 116, 104, 101, 32, 114, 117, 110]) ([116, 104, 101, 32, 114, 111, 108, 101, 32, 100, 111, 101, 115, 32, 110, 111, 116, 32, 115, 101, 110, 100, 32, 116, 104, 105, 115, 32, 107, 105, 110, 100, 32, 110, 111, 119])) (cond (Nat.ble n 17) ([116, 104, 101, 32, 113, 117, 101, 117, 101, 32, 105, 115, 32, 102, 117, 108, 108]) ([116, 104, 101, 32, 114, 111, 108, 101, 32, 100, 111, 101, 115, 32, 110, 111, 116, 32, 104, 101, 97, 114, 32, 110, 111, 119]))) (cond (Nat.ble n 20) (cond (Nat.ble n 19) ([116, 104, 101, 32, 113, 117, 101, 117, 101, 32, 105, 115, 32, 101, 109, 112, 116, 121]) ([116, 104, 101, 32, 108, 101, 116, 116, 101, 114, 32, 105, 115, 32, 110, 111, 116, 32, 107, 110, 111, 119, 110])) (cond (Nat.ble n 21) ([116, 104, 101, 114, 101, 32, 105, 115, 32, 110, 111, 32, 115, 117, 99, 104, 32, 112, 108, 97, 99, 101, 32, 105, 110, 32, 97, 32, 114, 105, 110, 103]) ([110, 111, 98, 111, 100, 121, 32, 115, 101, 110, 100, 115, 32, 116, 111, 32, 105, 116, 115, 101, 108, 102])))) (cond (Nat.ble n 26) (cond (Nat.ble n 24) (cond (Nat.ble n 23) ([110, 111, 32, 105, 109, 97, 103, 101, 32, 119, 97, 115, 32, 107, 101, 112, 116, 32, 116, 104, 101, 114, 101]) ([108, 111, 111, 112, 32, 120, 32, 97, 62, 98, 123, 48, 58, 98, 62, 99, 123, 49, 58, 120, 125, 44, 50, 58, 98, 62, 99, 123, 51, 58, 101, 110, 100, 125, 125])) (cond (Nat.ble n 25) ([97, 62, 98, 123, 48, 58, 97, 62, 99, 123, 48, 58, 98, 62, 99, 123, 49, 58, 101, 110, 100, 125, 125, 44, 49, 58, 97, 62, 99, 123, 49, 58, 99, 62, 98, 123, 50, 58, 101, 110, 100, 125, 125, 125]) ([97, 62, 98, 123, 48, 58, 98, 62, 99, 123, 49, 58, 101, 110, 100, 125, 44, 49, 58, 99, 62, 98, 123, 50, 58, 101, 110, 100, 125, 125]))) (cond (Nat.ble n 28) (cond (Nat.ble n 27) ([40, 97, 62, 98, 123, 48, 58, 101, 110, 100, 125, 124, 108, 111, 111, 112, 32, 121, 32, 99, 62, 100, 123, 49, 58, 121, 44, 50, 58, 100, 62, 99, 123, 51, 58, 101, 110, 100, 125, 125, 41]) ([108, 111, 111, 112, 32, 120, 32, 97, 62, 98, 123, 48, 58, 98, 62, 97, 123, 49, 58, 120, 44, 50, 58, 101, 110, 100, 125, 44, 51, 58, 98, 62, 97, 123, 52, 58, 101, 110, 100, 125, 125])) (cond (Nat.ble n 29) ([101, 110, 100]) ([108, 111, 111, 112])))))
def e_own (n : Nat) : String := cond (Nat.ble n 143) (cond (Nat.ble n 71) (cond (Nat.ble n 35) (cond (Nat.ble n 17) (cond (Nat.ble n 8) (cond (Nat.ble n 3) (cond (Nat.ble n 1) (cond (Nat.ble n 0) ("HandshakewardenLaw") ("Handshakewarden")) (cond (Nat.ble n 2) ("Handshakewarden") ("Handshakewarden"))) (cond (Nat.ble n 5) (cond (Nat.ble n 4) ("Handshakewarden") ("Handshakewarden")) (cond (Nat.ble n 6) ("Handshakewarden") (cond (Nat.ble n 7) ("Handshakewarden") ("Handshakewarden"))))) (cond (Nat.ble n 12) (cond (Nat.ble n 10) (cond (Nat.ble n 9) ("Handshakewarden") ("Handshakewarden")) (cond (Nat.ble n 11) ("Handshakewarden") ("Handshakewarden"))) (cond (Nat.ble n 14) (cond (Nat.ble n 13) ("Handshakewarden") ("Handshakewarden")) (cond (Nat.ble n 15) ("Handshakewarden") (cond (Nat.ble n 16) ("Handshakewarden") ("Handshakewarden")))))) (cond (Nat.ble n 26) (cond (Nat.ble n 21) (cond (Nat.ble n 19) (cond (Nat.ble n 18) ("Handshakewarden") ("Handshakewarden")) (cond (Nat.ble n 20) ("Handshakewarden") ("Handshakewarden"))) (cond (Nat.ble n 23) (cond (Nat.ble n 22) ("Handshakewarden") ("Handshakewarden")) (cond (Nat.ble n 24) ("Handshakewarden") (cond (Nat.ble n 25) ("Handshakewarden") ("Handshakewarden"))))) (cond (Nat.ble n 30) (cond (Nat.ble n 28) (cond (Nat.ble n 27) ("Handshakewarden") ("Handshakewarden")) (cond (Nat.ble n 29) ("Handshakewarden") ("Handshakewarden"))) (cond (Nat.ble n 32) (cond (Nat.ble n 31) ("Handshakewarden") ("Handshakewarden")) (cond (Nat.ble n 33) ("Handshakewarden") (cond (Nat.ble n 34) ("Handshakewarden") ("Handshakewarden"))))))) (cond (Nat.ble n 53) (cond (Nat.ble n 44) (cond (Nat.ble n 39) (cond (Nat.ble n 37) (cond (Nat.ble n 36) ("Handshakewarden") ("Handshakewarden")) (cond (Nat.ble n 38) ("Handshakewarden") ("Handshakewarden"))) (cond (Nat.ble n 41) (cond (Nat.ble n 40) ("Handshakewarden") ("Handshakewarden")) (cond (Nat.ble n 42) ("Handshakewarden") (cond (Nat.ble n 43) ("Handshakewarden") ("Handshakewarden"))))) (cond (Nat.ble n 48) (cond (Nat.ble n 46) (cond (Nat.ble n 45) ("Handshakewarden") ("Handshakewarden")) (cond (Nat.ble n 47) ("Handshakewarden") ("Handshakewarden"))) (cond (Nat.ble n 50) (cond (Nat.ble n 49) ("Handshakewarden") ("Handshakewarden")) (cond (Nat.ble n 51) ("Handshakewarden") (cond (Nat.ble n 52) ("Handshakewarden") ("Handshakewarden")))))) (cond (Nat.ble n 62) (cond (Nat.ble n 57) (cond (Nat.ble n 55) (cond (Nat.ble n 54) ("Handshakewarden") ("Handshakewarden")) (cond (Nat.ble n 56) ("Handshakewarden") ("Handshakewarden"))) (cond (Nat.ble n 59) (cond (Nat.ble n 58) ("Handshakewarden") ("Handshakewarden")) (cond (Nat.ble n 60) ("Handshakewarden") (cond (Nat.ble n 61) ("Handshakewarden") ("Handshakewarden"))))) (cond (Nat.ble n 66) (cond (Nat.ble n 64) (cond (Nat.ble n 63) ("Handshakewarden") ("Handshakewarden")) (cond (Nat.ble n 65) ("Handshakewarden") ("Handshakewarden"))) (cond (Nat.ble n 68) (cond (Nat.ble n 67) ("Handshakewarden") ("Handshakewarden")) (cond (Nat.ble n 69) ("Handshakewarden") (cond (Nat.ble n 70) ("Handshakewarden") ("Handshakewarden")))))))) (cond (Nat.ble n 107) (cond (Nat.ble n 89) (cond (Nat.ble n 80) (cond (Nat.ble n 75) (cond (Nat.ble n 73) (cond (Nat.ble n 72) ("Handshakewarden") ("Handshakewarden")) (cond (Nat.ble n 74) ("Handshakewarden$Cast") ("Handshakewarden$Cast"))) (cond (Nat.ble n 77) (cond (Nat.ble n 76) ("Handshakewarden$Cast") ("Handshakewarden$Cast")) (cond (Nat.ble n 78) ("Handshakewarden$Cast") (cond (Nat.ble n 79) ("Handshakewarden$Cast") ("Handshakewarden$Cast"))))) (cond (Nat.ble n 84) (cond (Nat.ble n 82) (cond (Nat.ble n 81) ("Handshakewarden$Cast") ("Handshakewarden$Cast")) (cond (Nat.ble n 83) ("Handshakewarden$Cast") ("Handshakewarden$Comparer"))) (cond (Nat.ble n 86) (cond (Nat.ble n 85) ("Handshakewarden$Comparer") ("Handshakewarden$Comparer")) (cond (Nat.ble n 87) ("Handshakewarden$Comparer") (cond (Nat.ble n 88) ("Handshakewarden$Comparer") ("Handshakewarden$Comparer")))))) (cond (Nat.ble n 98) (cond (Nat.ble n 93) (cond (Nat.ble n 91) (cond (Nat.ble n 90) ("Handshakewarden$Comparer") ("Handshakewarden$Comparer")) (cond (Nat.ble n 92) ("Handshakewarden$Comparer") ("Handshakewarden$Comparer"))) (cond (Nat.ble n 95) (cond (Nat.ble n 94) ("Handshakewarden$Comparer") ("Handshakewarden$Comparer")) (cond (Nat.ble n 96) ("Handshakewarden$Comparer") (cond (Nat.ble n 97) ("Handshakewarden$Comparer") ("Handshakewarden$Comparer"))))) (cond (Nat.ble n 102) (cond (Nat.ble n 100) (cond (Nat.ble n 99) ("Handshakewarden$Cutter") ("Handshakewarden$Cutter")) (cond (Nat.ble n 101) ("Handshakewarden$Explorer") ("Handshakewarden$Explorer"))) (cond (Nat.ble n 104) (cond (Nat.ble n 103) ("Handshakewarden$Explorer") ("Handshakewarden$Explorer")) (cond (Nat.ble n 105) ("Handshakewarden$Explorer") (cond (Nat.ble n 106) ("Handshakewarden$Findings") ("Handshakewarden$Findings"))))))) (cond (Nat.ble n 125) (cond (Nat.ble n 116) (cond (Nat.ble n 111) (cond (Nat.ble n 109) (cond (Nat.ble n 108) ("Handshakewarden$Hall") ("Handshakewarden$Hall")) (cond (Nat.ble n 110) ("Handshakewarden$Hall") ("Handshakewarden$Hall"))) (cond (Nat.ble n 113) (cond (Nat.ble n 112) ("Handshakewarden$Hall") ("Handshakewarden$Hall")) (cond (Nat.ble n 114) ("Handshakewarden$Hall") (cond (Nat.ble n 115) ("Handshakewarden$Hall") ("Handshakewarden$Part"))))) (cond (Nat.ble n 120) (cond (Nat.ble n 118) (cond (Nat.ble n 117) ("Handshakewarden$Part") ("Handshakewarden$Part")) (cond (Nat.ble n 119) ("Handshakewarden$Part") ("Handshakewarden$Part"))) (cond (Nat.ble n 122) (cond (Nat.ble n 121) ("Handshakewarden$Part") ("Handshakewarden$Part")) (cond (Nat.ble n 123) ("Handshakewarden$Part") (cond (Nat.ble n 124) ("Handshakewarden$Part") ("Handshakewarden$Part")))))) (cond (Nat.ble n 134) (cond (Nat.ble n 129) (cond (Nat.ble n 127) (cond (Nat.ble n 126) ("Handshakewarden$Reader") ("Handshakewarden$Reader")) (cond (Nat.ble n 128) ("Handshakewarden$Reader") ("Handshakewarden$Reader"))) (cond (Nat.ble n 131) (cond (Nat.ble n 130) ("Handshakewarden$Reader") ("Handshakewarden$Reader")) (cond (Nat.ble n 132) ("Handshakewarden$Reader") (cond (Nat.ble n 133) ("Handshakewarden$Rows") ("Handshakewarden$Rows"))))) (cond (Nat.ble n 138) (cond (Nat.ble n 136) (cond (Nat.ble n 135) ("Handshakewarden$Rows") ("Handshakewarden$Rows")) (cond (Nat.ble n 137) ("Handshakewarden$Rows") ("Handshakewarden$Rows"))) (cond (Nat.ble n 140) (cond (Nat.ble n 139) ("Handshakewarden$Rows") ("Handshakewarden$Weaver")) (cond (Nat.ble n 141) ("Handshakewarden$Weaver") (cond (Nat.ble n 142) ("Handshakewarden$Weaver") ("Handshakewarden$Weaver"))))))))) (cond (Nat.ble n 215) (cond (Nat.ble n 179) (cond (Nat.ble n 161) (cond (Nat.ble n 152) (cond (Nat.ble n 147) (cond (Nat.ble n 145) (cond (Nat.ble n 144) ("Handshakewarden$Weaver") ("Handshakewarden$Weaver")) (cond (Nat.ble n 146) ("Handshakewarden$Weaver") ("Handshakewarden$Whole"))) (cond (Nat.ble n 149) (cond (Nat.ble n 148) ("Handshakewarden$Whole") ("Handshakewarden$Whole")) (cond (Nat.ble n 150) ("Handshakewarden$Whole") (cond (Nat.ble n 151) ("Handshakewarden$Whole") ("Handshakewarden$Whole"))))) (cond (Nat.ble n 156) (cond (Nat.ble n 154) (cond (Nat.ble n 153) ("Handshakewarden$Whole") ("HandshakewardenLaw")) (cond (Nat.ble n 155) ("HandshakewardenLaw") ("HandshakewardenLaw"))) (cond (Nat.ble n 158) (cond (Nat.ble n 157) ("HandshakewardenLaw") ("HandshakewardenLaw")) (cond (Nat.ble n 159) ("HandshakewardenLaw") (cond (Nat.ble n 160) ("HandshakewardenLaw") ("HandshakewardenLaw")))))) (cond (Nat.ble n 170) (cond (Nat.ble n 165) (cond (Nat.ble n 163) (cond (Nat.ble n 162) ("HandshakewardenLaw") ("HandshakewardenLaw")) (cond (Nat.ble n 164) ("HandshakewardenLaw") ("HandshakewardenLaw"))) (cond (Nat.ble n 167) (cond (Nat.ble n 166) ("HandshakewardenLaw") ("HandshakewardenLaw")) (cond (Nat.ble n 168) ("HandshakewardenLaw") (cond (Nat.ble n 169) ("HandshakewardenLaw") ("HandshakewardenLaw"))))) (cond (Nat.ble n 174) (cond (Nat.ble n 172) (cond (Nat.ble n 171) ("HandshakewardenLaw") ("HandshakewardenLaw")) (cond (Nat.ble n 173) ("HandshakewardenLaw") ("HandshakewardenLaw"))) (cond (Nat.ble n 176) (cond (Nat.ble n 175) ("HandshakewardenLaw") ("HandshakewardenLaw")) (cond (Nat.ble n 177) ("HandshakewardenLaw") (cond (Nat.ble n 178) ("HandshakewardenLaw") ("HandshakewardenLaw"))))))) (cond (Nat.ble n 197) (cond (Nat.ble n 188) (cond (Nat.ble n 183) (cond (Nat.ble n 181) (cond (Nat.ble n 180) ("HandshakewardenLaw") ("HandshakewardenLaw")) (cond (Nat.ble n 182) ("HandshakewardenLaw") ("HandshakewardenLaw"))) (cond (Nat.ble n 185) (cond (Nat.ble n 184) ("HandshakewardenLaw") ("HandshakewardenLaw")) (cond (Nat.ble n 186) ("HandshakewardenLaw") (cond (Nat.ble n 187) ("HandshakewardenLaw") ("HandshakewardenLaw"))))) (cond (Nat.ble n 192) (cond (Nat.ble n 190) (cond (Nat.ble n 189) ("HandshakewardenLaw") ("HandshakewardenModel")) (cond (Nat.ble n 191) ("HandshakewardenModel") ("HandshakewardenModel"))) (cond (Nat.ble n 194) (cond (Nat.ble n 193) ("HandshakewardenModel") ("HandshakewardenModel")) (cond (Nat.ble n 195) ("HandshakewardenModel") (cond (Nat.ble n 196) ("HandshakewardenModel") ("HandshakewardenModel")))))) (cond (Nat.ble n 206) (cond (Nat.ble n 201) (cond (Nat.ble n 199) (cond (Nat.ble n 198) ("HandshakewardenModel") ("HandshakewardenModel")) (cond (Nat.ble n 200) ("HandshakewardenModel") ("HandshakewardenModel"))) (cond (Nat.ble n 203) (cond (Nat.ble n 202) ("HandshakewardenModel") ("HandshakewardenModel")) (cond (Nat.ble n 204) ("HandshakewardenModel") (cond (Nat.ble n 205) ("HandshakewardenModel") ("HandshakewardenModel"))))) (cond (Nat.ble n 210) (cond (Nat.ble n 208) (cond (Nat.ble n 207) ("HandshakewardenModel") ("HandshakewardenModel")) (cond (Nat.ble n 209) ("HandshakewardenModel") ("HandshakewardenModel"))) (cond (Nat.ble n 212) (cond (Nat.ble n 211) ("HandshakewardenModel") ("HandshakewardenModel")) (cond (Nat.ble n 213) ("HandshakewardenModel") (cond (Nat.ble n 214) ("HandshakewardenModel") ("HandshakewardenModel")))))))) (cond (Nat.ble n 251) (cond (Nat.ble n 233) (cond (Nat.ble n 224) (cond (Nat.ble n 219) (cond (Nat.ble n 217) (cond (Nat.ble n 216) ("HandshakewardenModel") ("HandshakewardenModel")) (cond (Nat.ble n 218) ("HandshakewardenModel") ("HandshakewardenModel"))) (cond (Nat.ble n 221) (cond (Nat.ble n 220) ("HandshakewardenModel") ("HandshakewardenModel")) (cond (Nat.ble n 222) ("HandshakewardenModel") (cond (Nat.ble n 223) ("HandshakewardenModel") ("HandshakewardenModel"))))) (cond (Nat.ble n 228) (cond (Nat.ble n 226) (cond (Nat.ble n 225) ("HandshakewardenModel") ("HandshakewardenModel")) (cond (Nat.ble n 227) ("HandshakewardenModel") ("HandshakewardenModel"))) (cond (Nat.ble n 230) (cond (Nat.ble n 229) ("HandshakewardenModel") ("HandshakewardenModel")) (cond (Nat.ble n 231) ("HandshakewardenModel") (cond (Nat.ble n 232) ("HandshakewardenModel") ("HandshakewardenModel")))))) (cond (Nat.ble n 242) (cond (Nat.ble n 237) (cond (Nat.ble n 235) (cond (Nat.ble n 234) ("HandshakewardenModel") ("HandshakewardenModel")) (cond (Nat.ble n 236) ("HandshakewardenModel") ("HandshakewardenModel"))) (cond (Nat.ble n 239) (cond (Nat.ble n 238) ("HandshakewardenModel") ("HandshakewardenModel")) (cond (Nat.ble n 240) ("HandshakewardenModel") (cond (Nat.ble n 241) ("HandshakewardenModel") ("HandshakewardenModel"))))) (cond (Nat.ble n 246) (cond (Nat.ble n 244) (cond (Nat.ble n 243) ("HandshakewardenModel") ("HandshakewardenModel")) (cond (Nat.ble n 245) ("HandshakewardenModel") ("HandshakewardenModel"))) (cond (Nat.ble n 248) (cond (Nat.ble n 247) ("HandshakewardenModel") ("HandshakewardenModel")) (cond (Nat.ble n 249) ("HandshakewardenModel") (cond (Nat.ble n 250) ("HandshakewardenModel") ("HandshakewardenModel"))))))) (cond (Nat.ble n 269) (cond (Nat.ble n 260) (cond (Nat.ble n 255) (cond (Nat.ble n 253) (cond (Nat.ble n 252) ("HandshakewardenModel") ("HandshakewardenModel")) (cond (Nat.ble n 254) ("HandshakewardenModel") ("HandshakewardenModel"))) (cond (Nat.ble n 257) (cond (Nat.ble n 256) ("HandshakewardenModel") ("HandshakewardenModel")) (cond (Nat.ble n 258) ("HandshakewardenModel") (cond (Nat.ble n 259) ("HandshakewardenModel") ("HandshakewardenModel"))))) (cond (Nat.ble n 264) (cond (Nat.ble n 262) (cond (Nat.ble n 261) ("HandshakewardenModel") ("HandshakewardenModel")) (cond (Nat.ble n 263) ("HandshakewardenModel") ("HandshakewardenModel"))) (cond (Nat.ble n 266) (cond (Nat.ble n 265) ("HandshakewardenModel") ("HandshakewardenModel")) (cond (Nat.ble n 267) ("HandshakewardenModel$Cutter") (cond (Nat.ble n 268) ("HandshakewardenModel$Cutter") ("HandshakewardenModel$Cutter")))))) (cond (Nat.ble n 278) (cond (Nat.ble n 273) (cond (Nat.ble n 271) (cond (Nat.ble n 270) ("HandshakewardenModel$Cutter") ("HandshakewardenModel$Cutter")) (cond (Nat.ble n 272) ("HandshakewardenModel$Image") ("HandshakewardenModel$Part"))) (cond (Nat.ble n 275) (cond (Nat.ble n 274) ("HandshakewardenModel$Whole") ("java/lang/Integer")) (cond (Nat.ble n 276) ("java/lang/Integer") (cond (Nat.ble n 277) ("java/lang/Long") ("java/lang/Math"))))) (cond (Nat.ble n 283) (cond (Nat.ble n 280) (cond (Nat.ble n 279) ("java/lang/Math") ("java/lang/String")) (cond (Nat.ble n 281) ("java/lang/String") (cond (Nat.ble n 282) ("java/lang/String") ("java/lang/String")))) (cond (Nat.ble n 285) (cond (Nat.ble n 284) ("java/lang/String") ("java/lang/StringLatin1")) (cond (Nat.ble n 286) ("java/util/Arrays") (cond (Nat.ble n 287) ("java/util/Arrays") ("jdk/internal/util/Preconditions")))))))))
def e_mth (n : Nat) : MethodName := cond (Nat.ble n 143) (cond (Nat.ble n 71) (cond (Nat.ble n 35) (cond (Nat.ble n 17) (cond (Nat.ble n 8) (cond (Nat.ble n 3) (cond (Nat.ble n 1) (cond (Nat.ble n 0) (⟨"HandshakewardenLaw", "law", "([I)Z"⟩) (⟨"Handshakewarden", "<init>", "()V"⟩)) (cond (Nat.ble n 2) (⟨"Handshakewarden", "all", "(II)I"⟩) (⟨"Handshakewarden", "append", "(IIIII)I"⟩))) (cond (Nat.ble n 5) (cond (Nat.ble n 4) (⟨"Handshakewarden", "appendByte", "(I)V"⟩) (⟨"Handshakewarden", "appendWord", "(I)V"⟩)) (cond (Nat.ble n 6) (⟨"Handshakewarden", "areAlike", "(II)Z"⟩) (cond (Nat.ble n 7) (⟨"Handshakewarden", "back", "(I)I"⟩) (⟨"Handshakewarden", "begin", "(II)I"⟩))))) (cond (Nat.ble n 12) (cond (Nat.ble n 10) (cond (Nat.ble n 9) (⟨"Handshakewarden", "blame", "(I)I"⟩) (⟨"Handshakewarden", "bytesIn", "(I)I"⟩)) (cond (Nat.ble n 11) (⟨"Handshakewarden", "cast", "()LHandshakewarden$Cast;"⟩) (⟨"Handshakewarden", "castOf", "(LHandshakewarden$Whole;)LHandshakewarden$Cast;"⟩))) (cond (Nat.ble n 14) (cond (Nat.ble n 13) (⟨"Handshakewarden", "castWith", "(I)LHandshakewarden$Cast;"⟩) (⟨"Handshakewarden", "cell", "([II)I"⟩)) (cond (Nat.ble n 15) (⟨"Handshakewarden", "checkBound", "(I)V"⟩) (cond (Nat.ble n 16) (⟨"Handshakewarden", "checkPlace", "(II)V"⟩) (⟨"Handshakewarden", "checkRange", "(II)V"⟩)))))) (cond (Nat.ble n 26) (cond (Nat.ble n 21) (cond (Nat.ble n 19) (cond (Nat.ble n 18) (⟨"Handshakewarden", "checksum", "()I"⟩) (⟨"Handshakewarden", "clearTape", "()I"⟩)) (cond (Nat.ble n 20) (⟨"Handshakewarden", "cut", "(I)I"⟩) (⟨"Handshakewarden", "cutShare", "()F"⟩))) (cond (Nat.ble n 23) (cond (Nat.ble n 22) (⟨"Handshakewarden", "cutWhole", "(I)LHandshakewarden$Whole;"⟩) (⟨"Handshakewarden", "errorPosition", "()I"⟩)) (cond (Nat.ble n 24) (⟨"Handshakewarden", "errors", "()I"⟩) (cond (Nat.ble n 25) (⟨"Handshakewarden", "example", "(I)I"⟩) (⟨"Handshakewarden", "exampleText", "(I)Ljava/lang/String;"⟩))))) (cond (Nat.ble n 30) (cond (Nat.ble n 28) (cond (Nat.ble n 27) (⟨"Handshakewarden", "fit", "(II)Z"⟩) (⟨"Handshakewarden", "hasBit", "(II)Z"⟩)) (cond (Nat.ble n 29) (⟨"Handshakewarden", "hasPlace", "(JI)Z"⟩) (⟨"Handshakewarden", "hear", "(I)I"⟩))) (cond (Nat.ble n 32) (cond (Nat.ble n 31) (⟨"Handshakewarden", "image", "(I)I"⟩) (⟨"Handshakewarden", "imageAt", "(I)LHandshakewarden$Hall;"⟩)) (cond (Nat.ble n 33) (⟨"Handshakewarden", "isBelow", "(II)Z"⟩) (cond (Nat.ble n 34) (⟨"Handshakewarden", "keepImage", "(ILHandshakewarden$Hall;)V"⟩) (⟨"Handshakewarden", "least", "()I"⟩))))))) (cond (Nat.ble n 53) (cond (Nat.ble n 44) (cond (Nat.ble n 39) (cond (Nat.ble n 37) (cond (Nat.ble n 36) (⟨"Handshakewarden", "letter", "(III)Z"⟩) (⟨"Handshakewarden", "lettersIn", "(I)I"⟩)) (cond (Nat.ble n 38) (⟨"Handshakewarden", "lettersOf", "(II)I"⟩) (⟨"Handshakewarden", "meanKinds", "()D"⟩))) (cond (Nat.ble n 41) (cond (Nat.ble n 40) (⟨"Handshakewarden", "mirror", "(II)I"⟩) (⟨"Handshakewarden", "next", "(III)I"⟩)) (cond (Nat.ble n 42) (⟨"Handshakewarden", "onlyBit", "(I)I"⟩) (cond (Nat.ble n 43) (⟨"Handshakewarden", "part", "(III)I"⟩) (⟨"Handshakewarden", "placeAt", "(III)I"⟩))))) (cond (Nat.ble n 48) (cond (Nat.ble n 46) (cond (Nat.ble n 45) (⟨"Handshakewarden", "placeBit", "(I)J"⟩) (⟨"Handshakewarden", "places", "(I)I"⟩)) (cond (Nat.ble n 47) (⟨"Handshakewarden", "put", "(I)I"⟩) (⟨"Handshakewarden", "putSet", "([JIJ)V"⟩))) (cond (Nat.ble n 50) (cond (Nat.ble n 49) (⟨"Handshakewarden", "queue", "(II)I"⟩) (⟨"Handshakewarden", "queueAt", "(III)I"⟩)) (cond (Nat.ble n 51) (⟨"Handshakewarden", "queueNumber", "(II)I"⟩) (cond (Nat.ble n 52) (⟨"Handshakewarden", "read", "(I)I"⟩) (⟨"Handshakewarden", "restore", "(I)I"⟩)))))) (cond (Nat.ble n 62) (cond (Nat.ble n 57) (cond (Nat.ble n 55) (cond (Nat.ble n 54) (⟨"Handshakewarden", "ringAt", "(II)I"⟩) (⟨"Handshakewarden", "roleOf", "(I)I"⟩)) (cond (Nat.ble n 56) (⟨"Handshakewarden", "roles", "(I)I"⟩) (⟨"Handshakewarden", "rows", "(II)J"⟩))) (cond (Nat.ble n 59) (cond (Nat.ble n 58) (⟨"Handshakewarden", "send", "(II)I"⟩) (⟨"Handshakewarden", "sent", "()I"⟩)) (cond (Nat.ble n 60) (⟨"Handshakewarden", "setAt", "([JI)J"⟩) (cond (Nat.ble n 61) (⟨"Handshakewarden", "setCell", "([III)V"⟩) (⟨"Handshakewarden", "shows", "(II)I"⟩))))) (cond (Nat.ble n 66) (cond (Nat.ble n 64) (cond (Nat.ble n 63) (⟨"Handshakewarden", "showsAt", "(III)I"⟩) (⟨"Handshakewarden", "slotAt", "(I)LHandshakewarden$Part;"⟩)) (cond (Nat.ble n 65) (⟨"Handshakewarden", "stands", "()I"⟩) (⟨"Handshakewarden", "stateAt", "(III)I"⟩))) (cond (Nat.ble n 68) (cond (Nat.ble n 67) (⟨"Handshakewarden", "stateOf", "(I)I"⟩) (⟨"Handshakewarden", "states", "(I)I"⟩)) (cond (Nat.ble n 69) (⟨"Handshakewarden", "step", "(III)I"⟩) (cond (Nat.ble n 70) (⟨"Handshakewarden", "wholeAt", "(I)LHandshakewarden$Whole;"⟩) (⟨"Handshakewarden", "why", "(II)I"⟩)))))))) (cond (Nat.ble n 107) (cond (Nat.ble n 89) (cond (Nat.ble n 80) (cond (Nat.ble n 75) (cond (Nat.ble n 73) (cond (Nat.ble n 72) (⟨"Handshakewarden", "wider", "([II)[I"⟩) (⟨"Handshakewarden", "wider", "([JI)[J"⟩)) (cond (Nat.ble n 74) (⟨"Handshakewarden$Cast", "<init>", "(I[LHandshakewarden$Part;)V"⟩) (⟨"Handshakewarden$Cast", "findingsOf", "(I)LHandshakewarden$Findings;"⟩))) (cond (Nat.ble n 77) (cond (Nat.ble n 76) (⟨"Handshakewarden$Cast", "isOver", "([I)Z"⟩) (⟨"Handshakewarden$Cast", "keepFindings", "(ILHandshakewarden$Findings;)V"⟩)) (cond (Nat.ble n 78) (⟨"Handshakewarden$Cast", "meets", "(I[I)Z"⟩) (cond (Nat.ble n 79) (⟨"Handshakewarden$Cast", "otherOf", "(II)I"⟩) (⟨"Handshakewarden$Cast", "othersOf", "(I)I"⟩))))) (cond (Nat.ble n 84) (cond (Nat.ble n 82) (cond (Nat.ble n 81) (⟨"Handshakewarden$Cast", "partOf", "(I)LHandshakewarden$Part;"⟩) (⟨"Handshakewarden$Cast", "sortOf", "(II)I"⟩)) (cond (Nat.ble n 83) (⟨"Handshakewarden$Cast", "tells", "(III)I"⟩) (⟨"Handshakewarden$Comparer", "<init>", "()V"⟩))) (cond (Nat.ble n 86) (cond (Nat.ble n 85) (⟨"Handshakewarden$Comparer", "addPlaces", "(II)V"⟩) (⟨"Handshakewarden$Comparer", "alike", "(LHandshakewarden$Whole;LHandshakewarden$Whole;)Z"⟩)) (cond (Nat.ble n 87) (⟨"Handshakewarden$Comparer", "below", "(LHandshakewarden$Part;LHandshakewarden$Part;)Z"⟩) (cond (Nat.ble n 88) (⟨"Handshakewarden$Comparer", "cannotBe", "(IJ)Z"⟩) (⟨"Handshakewarden$Comparer", "goOn", "(II)V"⟩)))))) (cond (Nat.ble n 98) (cond (Nat.ble n 93) (cond (Nat.ble n 91) (cond (Nat.ble n 90) (⟨"Handshakewarden$Comparer", "goOnFrom", "(I)V"⟩) (⟨"Handshakewarden$Comparer", "hold", "(LHandshakewarden$Part;LHandshakewarden$Part;I)V"⟩)) (cond (Nat.ble n 92) (⟨"Handshakewarden$Comparer", "keep", "(IJJ)V"⟩) (⟨"Handshakewarden$Comparer", "mayBeBelow", "(II)Z"⟩))) (cond (Nat.ble n 95) (cond (Nat.ble n 94) (⟨"Handshakewarden$Comparer", "rowLength", "(LHandshakewarden$Part;LHandshakewarden$Part;)I"⟩) (⟨"Handshakewarden$Comparer", "startSearch", "()V"⟩)) (cond (Nat.ble n 96) (⟨"Handshakewarden$Comparer", "swapLevels", "()V"⟩) (cond (Nat.ble n 97) (⟨"Handshakewarden$Comparer", "takeSides", "(LHandshakewarden$Part;LHandshakewarden$Part;)V"⟩) (⟨"Handshakewarden$Comparer", "unseen", "(JJ)J"⟩))))) (cond (Nat.ble n 102) (cond (Nat.ble n 100) (cond (Nat.ble n 99) (⟨"Handshakewarden$Cutter", "<init>", "()V"⟩) (⟨"Handshakewarden$Cutter", "cutAll", "(LHandshakewarden$Whole;)V"⟩)) (cond (Nat.ble n 101) (⟨"Handshakewarden$Explorer", "<init>", "()V"⟩) (⟨"Handshakewarden$Explorer", "findings", "(LHandshakewarden$Cast;I)LHandshakewarden$Findings;"⟩))) (cond (Nat.ble n 104) (cond (Nat.ble n 103) (⟨"Handshakewarden$Explorer", "isLetterLeft", "()Z"⟩) (⟨"Handshakewarden$Explorer", "lookAtNow", "()V"⟩)) (cond (Nat.ble n 105) (⟨"Handshakewarden$Explorer", "nameColumns", "()I"⟩) (cond (Nat.ble n 106) (⟨"Handshakewarden$Findings", "<init>", "()V"⟩) (⟨"Handshakewarden$Findings", "isBad", "()Z"⟩))))))) (cond (Nat.ble n 125) (cond (Nat.ble n 116) (cond (Nat.ble n 111) (cond (Nat.ble n 109) (cond (Nat.ble n 108) (⟨"Handshakewarden$Hall", "<init>", "()V"⟩) (⟨"Handshakewarden$Hall", "beginRun", "(LHandshakewarden$Cast;I)V"⟩)) (cond (Nat.ble n 110) (⟨"Handshakewarden$Hall", "changeCast", "(LHandshakewarden$Cast;)V"⟩) (⟨"Handshakewarden$Hall", "copyFrom", "(LHandshakewarden$Hall;)V"⟩))) (cond (Nat.ble n 113) (cond (Nat.ble n 112) (⟨"Handshakewarden$Hall", "keepPart", "(ILHandshakewarden$Part;)V"⟩) (⟨"Handshakewarden$Hall", "partIn", "(I)LHandshakewarden$Part;"⟩)) (cond (Nat.ble n 114) (⟨"Handshakewarden$Hall", "placesTogether", "()I"⟩) (cond (Nat.ble n 115) (⟨"Handshakewarden$Hall", "wholeIn", "(I)LHandshakewarden$Whole;"⟩) (⟨"Handshakewarden$Part", "<init>", "(III[IJ[I[J)V"⟩))))) (cond (Nat.ble n 120) (cond (Nat.ble n 118) (cond (Nat.ble n 117) (⟨"Handshakewarden$Part", "behind", "(II)I"⟩) (⟨"Handshakewarden$Part", "justEnd", "(I)LHandshakewarden$Part;"⟩)) (cond (Nat.ble n 119) (⟨"Handshakewarden$Part", "kindsIn", "(I)I"⟩) (⟨"Handshakewarden$Part", "markAt", "(I)I"⟩))) (cond (Nat.ble n 122) (cond (Nat.ble n 121) (⟨"Handshakewarden$Part", "markOf", "(III)I"⟩) (⟨"Handshakewarden$Part", "onlyOther", "()I"⟩)) (cond (Nat.ble n 123) (⟨"Handshakewarden$Part", "otherIn", "(I)I"⟩) (cond (Nat.ble n 124) (⟨"Handshakewarden$Part", "sortIn", "(I)I"⟩) (⟨"Handshakewarden$Part", "tells", "(II)I"⟩)))))) (cond (Nat.ble n 134) (cond (Nat.ble n 129) (cond (Nat.ble n 127) (cond (Nat.ble n 126) (⟨"Handshakewarden$Reader", "<init>", "()V"⟩) (⟨"Handshakewarden$Reader", "advance", "()V"⟩)) (cond (Nat.ble n 128) (⟨"Handshakewarden$Reader", "fail", "()I"⟩) (⟨"Handshakewarden$Reader", "findTokens", "([II)V"⟩))) (cond (Nat.ble n 131) (cond (Nat.ble n 130) (⟨"Handshakewarden$Reader", "isSign", "(I)Z"⟩) (⟨"Handshakewarden$Reader", "parse", "([II)LHandshakewarden$Whole;"⟩)) (cond (Nat.ble n 132) (⟨"Handshakewarden$Reader", "whole", "(I)I"⟩) (cond (Nat.ble n 133) (⟨"Handshakewarden$Rows", "<init>", "()V"⟩) (⟨"Handshakewarden$Rows", "at", "(II)I"⟩))))) (cond (Nat.ble n 138) (cond (Nat.ble n 136) (cond (Nat.ble n 135) (⟨"Handshakewarden$Rows", "clearHeads", "(I)V"⟩) (⟨"Handshakewarden$Rows", "copyRow", "(I[I)V"⟩)) (cond (Nat.ble n 137) (⟨"Handshakewarden$Rows", "headOf", "([II)I"⟩) (⟨"Handshakewarden$Rows", "numberOf", "([I)I"⟩))) (cond (Nat.ble n 140) (cond (Nat.ble n 139) (⟨"Handshakewarden$Rows", "start", "(III)V"⟩) (⟨"Handshakewarden$Weaver", "<init>", "()V"⟩)) (cond (Nat.ble n 141) (⟨"Handshakewarden$Weaver", "addWays", "(IJ)V"⟩) (cond (Nat.ble n 142) (⟨"Handshakewarden$Weaver", "countRows", "(LHandshakewarden$Cast;I)J"⟩) (⟨"Handshakewarden$Weaver", "goOn", "(LHandshakewarden$Cast;)V"⟩))))))))) (cond (Nat.ble n 215) (cond (Nat.ble n 179) (cond (Nat.ble n 161) (cond (Nat.ble n 152) (cond (Nat.ble n 147) (cond (Nat.ble n 145) (cond (Nat.ble n 144) (⟨"Handshakewarden$Weaver", "lastWays", "(LHandshakewarden$Cast;)J"⟩) (⟨"Handshakewarden$Weaver", "startWith", "(I)V"⟩)) (cond (Nat.ble n 146) (⟨"Handshakewarden$Weaver", "swapWays", "()V"⟩) (⟨"Handshakewarden$Whole", "<init>", "(I[I)V"⟩))) (cond (Nat.ble n 149) (cond (Nat.ble n 148) (⟨"Handshakewarden$Whole", "behind", "(II)I"⟩) (⟨"Handshakewarden$Whole", "clearPlace", "([II)V"⟩)) (cond (Nat.ble n 150) (⟨"Handshakewarden$Whole", "justEnd", "()LHandshakewarden$Whole;"⟩) (cond (Nat.ble n 151) (⟨"Handshakewarden$Whole", "keepPart", "(ILHandshakewarden$Part;)V"⟩) (⟨"Handshakewarden$Whole", "partOf", "(I)LHandshakewarden$Part;"⟩))))) (cond (Nat.ble n 156) (cond (Nat.ble n 154) (cond (Nat.ble n 153) (⟨"Handshakewarden$Whole", "tells", "(II)I"⟩) (⟨"HandshakewardenLaw", "all", "(LHandshakewarden;II[J)I"⟩)) (cond (Nat.ble n 155) (⟨"HandshakewardenLaw", "append", "(LHandshakewarden;IIIII[J)I"⟩) (⟨"HandshakewardenLaw", "areAlike", "(LHandshakewarden;II[J)I"⟩))) (cond (Nat.ble n 158) (cond (Nat.ble n 157) (⟨"HandshakewardenLaw", "back", "(LHandshakewarden;I[J)I"⟩) (⟨"HandshakewardenLaw", "begin", "(LHandshakewarden;II[J)I"⟩)) (cond (Nat.ble n 159) (⟨"HandshakewardenLaw", "blame", "(LHandshakewarden;I[J)I"⟩) (cond (Nat.ble n 160) (⟨"HandshakewardenLaw", "cut", "(LHandshakewarden;I[J)I"⟩) (⟨"HandshakewardenLaw", "example", "(LHandshakewarden;I[J)I"⟩)))))) (cond (Nat.ble n 170) (cond (Nat.ble n 165) (cond (Nat.ble n 163) (cond (Nat.ble n 162) (⟨"HandshakewardenLaw", "fit", "(LHandshakewarden;II[J)I"⟩) (⟨"HandshakewardenLaw", "hear", "(LHandshakewarden;I[J)I"⟩)) (cond (Nat.ble n 164) (⟨"HandshakewardenLaw", "image", "(LHandshakewarden;I[J)I"⟩) (⟨"HandshakewardenLaw", "isBelow", "(LHandshakewarden;II[J)I"⟩))) (cond (Nat.ble n 167) (cond (Nat.ble n 166) (⟨"HandshakewardenLaw", "least", "(LHandshakewarden;[J)I"⟩) (⟨"HandshakewardenLaw", "letter", "(LHandshakewarden;III[J)I"⟩)) (cond (Nat.ble n 168) (⟨"HandshakewardenLaw", "mirror", "(LHandshakewarden;II[J)I"⟩) (cond (Nat.ble n 169) (⟨"HandshakewardenLaw", "next", "(LHandshakewarden;III[J)I"⟩) (⟨"HandshakewardenLaw", "part", "(LHandshakewarden;III[J)I"⟩))))) (cond (Nat.ble n 174) (cond (Nat.ble n 172) (cond (Nat.ble n 171) (⟨"HandshakewardenLaw", "placeAt", "(LHandshakewarden;III[J)I"⟩) (⟨"HandshakewardenLaw", "places", "(LHandshakewarden;I[J)I"⟩)) (cond (Nat.ble n 173) (⟨"HandshakewardenLaw", "put", "(LHandshakewarden;I[J)I"⟩) (⟨"HandshakewardenLaw", "queue", "(LHandshakewarden;II[J)I"⟩))) (cond (Nat.ble n 176) (cond (Nat.ble n 175) (⟨"HandshakewardenLaw", "queueAt", "(LHandshakewarden;III[J)I"⟩) (⟨"HandshakewardenLaw", "read", "(LHandshakewarden;I[J)I"⟩)) (cond (Nat.ble n 177) (⟨"HandshakewardenLaw", "restore", "(LHandshakewarden;I[J)I"⟩) (cond (Nat.ble n 178) (⟨"HandshakewardenLaw", "ringAt", "(LHandshakewarden;II[J)I"⟩) (⟨"HandshakewardenLaw", "roleOf", "(LHandshakewarden;I[J)I"⟩))))))) (cond (Nat.ble n 197) (cond (Nat.ble n 188) (cond (Nat.ble n 183) (cond (Nat.ble n 181) (cond (Nat.ble n 180) (⟨"HandshakewardenLaw", "roles", "(LHandshakewarden;I[J)I"⟩) (⟨"HandshakewardenLaw", "rows", "(LHandshakewarden;II[J)I"⟩)) (cond (Nat.ble n 182) (⟨"HandshakewardenLaw", "send", "(LHandshakewarden;II[J)I"⟩) (⟨"HandshakewardenLaw", "shows", "(LHandshakewarden;II[J)I"⟩))) (cond (Nat.ble n 185) (cond (Nat.ble n 184) (⟨"HandshakewardenLaw", "showsAt", "(LHandshakewarden;III[J)I"⟩) (⟨"HandshakewardenLaw", "stateAt", "(LHandshakewarden;III[J)I"⟩)) (cond (Nat.ble n 186) (⟨"HandshakewardenLaw", "stateOf", "(LHandshakewarden;I[J)I"⟩) (cond (Nat.ble n 187) (⟨"HandshakewardenLaw", "states", "(LHandshakewarden;I[J)I"⟩) (⟨"HandshakewardenLaw", "step", "(LHandshakewarden;III[J)I"⟩))))) (cond (Nat.ble n 192) (cond (Nat.ble n 190) (cond (Nat.ble n 189) (⟨"HandshakewardenLaw", "why", "(LHandshakewarden;II[J)I"⟩) (⟨"HandshakewardenModel", "<init>", "()V"⟩)) (cond (Nat.ble n 191) (⟨"HandshakewardenModel", "all", "(II)I"⟩) (⟨"HandshakewardenModel", "allPlaces", "()I"⟩))) (cond (Nat.ble n 194) (cond (Nat.ble n 193) (⟨"HandshakewardenModel", "append", "(IIIII)I"⟩) (⟨"HandshakewardenModel", "areAlike", "(II)Z"⟩)) (cond (Nat.ble n 195) (⟨"HandshakewardenModel", "back", "(I)I"⟩) (cond (Nat.ble n 196) (⟨"HandshakewardenModel", "begin", "(II)I"⟩) (⟨"HandshakewardenModel", "beginMonitor", "()V"⟩)))))) (cond (Nat.ble n 206) (cond (Nat.ble n 201) (cond (Nat.ble n 199) (cond (Nat.ble n 198) (⟨"HandshakewardenModel", "blame", "(I)I"⟩) (⟨"HandshakewardenModel", "byteOf", "(IIIIII)I"⟩)) (cond (Nat.ble n 200) (⟨"HandshakewardenModel", "canPass", "([LHandshakewardenModel$Part;[IIII)Z"⟩) (⟨"HandshakewardenModel", "checksum", "()I"⟩))) (cond (Nat.ble n 203) (cond (Nat.ble n 202) (⟨"HandshakewardenModel", "clear", "([II)V"⟩) (⟨"HandshakewardenModel", "clearTape", "()I"⟩)) (cond (Nat.ble n 204) (⟨"HandshakewardenModel", "cut", "(I)I"⟩) (cond (Nat.ble n 205) (⟨"HandshakewardenModel", "cutShare", "()F"⟩) (⟨"HandshakewardenModel", "endOnly", "(I)LHandshakewardenModel$Part;"⟩))))) (cond (Nat.ble n 210) (cond (Nat.ble n 208) (cond (Nat.ble n 207) (⟨"HandshakewardenModel", "errorPosition", "()I"⟩) (⟨"HandshakewardenModel", "errors", "()I"⟩)) (cond (Nat.ble n 209) (⟨"HandshakewardenModel", "example", "(I)I"⟩) (⟨"HandshakewardenModel", "exampleText", "(I)Ljava/lang/String;"⟩))) (cond (Nat.ble n 212) (cond (Nat.ble n 211) (⟨"HandshakewardenModel", "findRow", "(LHandshakewardenModel$Part;LHandshakewardenModel$Part;)I"⟩) (⟨"HandshakewardenModel", "fit", "(II)Z"⟩)) (cond (Nat.ble n 213) (⟨"HandshakewardenModel", "hear", "(I)I"⟩) (cond (Nat.ble n 214) (⟨"HandshakewardenModel", "image", "(I)I"⟩) (⟨"HandshakewardenModel", "isBelow", "(II)Z"⟩)))))))) (cond (Nat.ble n 251) (cond (Nat.ble n 233) (cond (Nat.ble n 224) (cond (Nat.ble n 219) (cond (Nat.ble n 217) (cond (Nat.ble n 216) (⟨"HandshakewardenModel", "isInRun", "(I)Z"⟩) (⟨"HandshakewardenModel", "isKind", "(I)Z"⟩)) (cond (Nat.ble n 218) (⟨"HandshakewardenModel", "isRole", "(I)Z"⟩) (⟨"HandshakewardenModel", "isSign", "(I)Z"⟩))) (cond (Nat.ble n 221) (cond (Nat.ble n 220) (⟨"HandshakewardenModel", "isSlot", "(I)Z"⟩) (⟨"HandshakewardenModel", "isWhole", "(I)Z"⟩)) (cond (Nat.ble n 222) (⟨"HandshakewardenModel", "least", "()I"⟩) (cond (Nat.ble n 223) (⟨"HandshakewardenModel", "letter", "(III)Z"⟩) (⟨"HandshakewardenModel", "livePlaces", "(LHandshakewardenModel$Whole;I)J"⟩))))) (cond (Nat.ble n 228) (cond (Nat.ble n 226) (cond (Nat.ble n 225) (⟨"HandshakewardenModel", "look", "(I[LHandshakewardenModel$Part;II)V"⟩) (⟨"HandshakewardenModel", "lookThrough", "([LHandshakewardenModel$Part;II)V"⟩)) (cond (Nat.ble n 227) (⟨"HandshakewardenModel", "meanKinds", "()D"⟩) (⟨"HandshakewardenModel", "meet", "(I)V"⟩))) (cond (Nat.ble n 230) (cond (Nat.ble n 229) (⟨"HandshakewardenModel", "mirror", "(II)I"⟩) (⟨"HandshakewardenModel", "newPlace", "(III)I"⟩)) (cond (Nat.ble n 231) (⟨"HandshakewardenModel", "next", "(III)I"⟩) (cond (Nat.ble n 232) (⟨"HandshakewardenModel", "othersOf", "(LHandshakewardenModel$Part;)I"⟩) (⟨"HandshakewardenModel", "part", "(III)I"⟩)))))) (cond (Nat.ble n 242) (cond (Nat.ble n 237) (cond (Nat.ble n 235) (cond (Nat.ble n 234) (⟨"HandshakewardenModel", "partsOf", "(LHandshakewardenModel$Whole;)[LHandshakewardenModel$Part;"⟩) (⟨"HandshakewardenModel", "placeAt", "(III)I"⟩)) (cond (Nat.ble n 236) (⟨"HandshakewardenModel", "places", "(I)I"⟩) (⟨"HandshakewardenModel", "placesWith", "(LHandshakewardenModel$Whole;I)J"⟩))) (cond (Nat.ble n 239) (cond (Nat.ble n 238) (⟨"HandshakewardenModel", "put", "(I)I"⟩) (⟨"HandshakewardenModel", "queue", "(II)I"⟩)) (cond (Nat.ble n 240) (⟨"HandshakewardenModel", "queueAt", "(III)I"⟩) (cond (Nat.ble n 241) (⟨"HandshakewardenModel", "queueAt0", "(II)I"⟩) (⟨"HandshakewardenModel", "read", "(I)I"⟩))))) (cond (Nat.ble n 246) (cond (Nat.ble n 244) (cond (Nat.ble n 243) (⟨"HandshakewardenModel", "readToken", "()V"⟩) (⟨"HandshakewardenModel", "readWhole", "(I)I"⟩)) (cond (Nat.ble n 245) (⟨"HandshakewardenModel", "refused", "(ZI)Z"⟩) (⟨"HandshakewardenModel", "restore", "(I)I"⟩))) (cond (Nat.ble n 248) (cond (Nat.ble n 247) (⟨"HandshakewardenModel", "ringAt", "(II)I"⟩) (⟨"HandshakewardenModel", "roleOf", "(I)I"⟩)) (cond (Nat.ble n 249) (⟨"HandshakewardenModel", "roles", "(I)I"⟩) (cond (Nat.ble n 250) (⟨"HandshakewardenModel", "rolesOf", "(LHandshakewardenModel$Whole;)I"⟩) (⟨"HandshakewardenModel", "rows", "(II)J"⟩))))))) (cond (Nat.ble n 269) (cond (Nat.ble n 260) (cond (Nat.ble n 255) (cond (Nat.ble n 253) (cond (Nat.ble n 252) (⟨"HandshakewardenModel", "send", "(II)I"⟩) (⟨"HandshakewardenModel", "sent", "()I"⟩)) (cond (Nat.ble n 254) (⟨"HandshakewardenModel", "shows", "(II)I"⟩) (⟨"HandshakewardenModel", "showsAt", "(III)I"⟩))) (cond (Nat.ble n 257) (cond (Nat.ble n 256) (⟨"HandshakewardenModel", "stands", "()I"⟩) (⟨"HandshakewardenModel", "stateAt", "(III)I"⟩)) (cond (Nat.ble n 258) (⟨"HandshakewardenModel", "stateOf", "(I)I"⟩) (cond (Nat.ble n 259) (⟨"HandshakewardenModel", "states", "(I)I"⟩) (⟨"HandshakewardenModel", "step", "(III)I"⟩))))) (cond (Nat.ble n 264) (cond (Nat.ble n 262) (cond (Nat.ble n 261) (⟨"HandshakewardenModel", "thrown", "()I"⟩) (⟨"HandshakewardenModel", "unfold", "(I)V"⟩)) (cond (Nat.ble n 263) (⟨"HandshakewardenModel", "why", "(II)I"⟩) (⟨"HandshakewardenModel", "within", "(III)Z"⟩))) (cond (Nat.ble n 266) (cond (Nat.ble n 265) (⟨"HandshakewardenModel", "wrong", "()I"⟩) (⟨"HandshakewardenModel", "wrongCutter", "(LHandshakewardenModel$Whole;)LHandshakewardenModel$Cutter;"⟩)) (cond (Nat.ble n 267) (⟨"HandshakewardenModel$Cutter", "<init>", "(LHandshakewardenModel$Whole;I)V"⟩) (cond (Nat.ble n 268) (⟨"HandshakewardenModel$Cutter", "goOn", "(I)V"⟩) (⟨"HandshakewardenModel$Cutter", "isEnd", "(I)Z"⟩)))))) (cond (Nat.ble n 278) (cond (Nat.ble n 273) (cond (Nat.ble n 271) (cond (Nat.ble n 270) (⟨"HandshakewardenModel$Cutter", "isRight", "(I)Z"⟩) (⟨"HandshakewardenModel$Cutter", "stateOf", "(J)I"⟩)) (cond (Nat.ble n 272) (⟨"HandshakewardenModel$Image", "<init>", "()V"⟩) (⟨"HandshakewardenModel$Part", "<init>", "(II)V"⟩))) (cond (Nat.ble n 275) (cond (Nat.ble n 274) (⟨"HandshakewardenModel$Whole", "<init>", "(I)V"⟩) (⟨"java/lang/Integer", "bitCount", "(I)I"⟩)) (cond (Nat.ble n 276) (⟨"java/lang/Integer", "numberOfTrailingZeros", "(I)I"⟩) (cond (Nat.ble n 277) (⟨"java/lang/Long", "numberOfTrailingZeros", "(J)I"⟩) (⟨"java/lang/Math", "max", "(II)I"⟩))))) (cond (Nat.ble n 283) (cond (Nat.ble n 280) (cond (Nat.ble n 279) (⟨"java/lang/Math", "min", "(II)I"⟩) (⟨"java/lang/String", "charAt", "(I)C"⟩)) (cond (Nat.ble n 281) (⟨"java/lang/String", "checkIndex", "(II)V"⟩) (cond (Nat.ble n 282) (⟨"java/lang/String", "coder", "()B"⟩) (⟨"java/lang/String", "isLatin1", "()Z"⟩)))) (cond (Nat.ble n 285) (cond (Nat.ble n 284) (⟨"java/lang/String", "length", "()I"⟩) (⟨"java/lang/StringLatin1", "charAt", "([BI)C"⟩)) (cond (Nat.ble n 286) (⟨"java/util/Arrays", "fill", "([II)V"⟩) (cond (Nat.ble n 287) (⟨"java/util/Arrays", "fill", "([JJ)V"⟩) (⟨"jdk/internal/util/Preconditions", "checkIndex", "(IILjava/util/function/BiFunction;)I"⟩)))))))))
def e_byt (n : Nat) : ByteArray := cond (Nat.ble n 143) (cond (Nat.ble n 71) (cond (Nat.ble n 35) (cond (Nat.ble n 17) (cond (Nat.ble n 8) (cond (Nat.ble n 3) (cond (Nat.ble n 1) (cond (Nat.ble n 0) (code) (prog_1_method_1_code)) (cond (Nat.ble n 2) (prog_1_method_33_code) (prog_1_method_2_code))) (cond (Nat.ble n 5) (cond (Nat.ble n 4) (prog_1_method_61_code) (prog_1_method_60_code)) (cond (Nat.ble n 6) (prog_1_method_11_code) (cond (Nat.ble n 7) (prog_1_method_37_code) (prog_1_method_24_code))))) (cond (Nat.ble n 12) (cond (Nat.ble n 10) (cond (Nat.ble n 9) (prog_1_method_39_code) (prog_1_method_59_code)) (cond (Nat.ble n 11) (prog_1_method_53_code) (prog_1_method_52_code))) (cond (Nat.ble n 14) (cond (Nat.ble n 13) (prog_1_method_54_code) (prog_1_method_63_code)) (cond (Nat.ble n 15) (prog_1_method_47_code) (cond (Nat.ble n 16) (prog_1_method_48_code) (prog_1_method_46_code)))))) (cond (Nat.ble n 26) (cond (Nat.ble n 21) (cond (Nat.ble n 19) (cond (Nat.ble n 18) (prog_1_method_42_code) (prog_1_method_3_code)) (cond (Nat.ble n 20) (prog_1_method_12_code) (prog_1_method_44_code))) (cond (Nat.ble n 23) (cond (Nat.ble n 22) (prog_1_method_50_code) (prog_1_method_4_code)) (cond (Nat.ble n 24) (prog_1_method_45_code) (cond (Nat.ble n 25) (prog_1_method_6_code) (prog_1_method_62_code))))) (cond (Nat.ble n 30) (cond (Nat.ble n 28) (cond (Nat.ble n 27) (prog_1_method_23_code) (prog_1_method_65_code)) (cond (Nat.ble n 29) (prog_1_method_69_code) (prog_1_method_27_code))) (cond (Nat.ble n 32) (cond (Nat.ble n 31) (prog_1_method_40_code) (prog_1_method_57_code)) (cond (Nat.ble n 33) (prog_1_method_20_code) (cond (Nat.ble n 34) (prog_1_method_58_code) (prog_1_method_35_code))))))) (cond (Nat.ble n 53) (cond (Nat.ble n 44) (cond (Nat.ble n 39) (cond (Nat.ble n 37) (cond (Nat.ble n 36) (prog_1_method_38_code) (prog_1_method_75_code)) (cond (Nat.ble n 38) (prog_1_method_55_code) (prog_1_method_43_code))) (cond (Nat.ble n 41) (cond (Nat.ble n 40) (prog_1_method_15_code) (prog_1_method_9_code)) (cond (Nat.ble n 42) (prog_1_method_66_code) (cond (Nat.ble n 43) (prog_1_method_14_code) (prog_1_method_8_code))))) (cond (Nat.ble n 48) (cond (Nat.ble n 46) (cond (Nat.ble n 45) (prog_1_method_68_code) (prog_1_method_7_code)) (cond (Nat.ble n 47) (prog_1_method_25_code) (prog_1_method_72_code))) (cond (Nat.ble n 50) (cond (Nat.ble n 49) (prog_1_method_29_code) (prog_1_method_30_code)) (cond (Nat.ble n 51) (prog_1_method_79_code) (cond (Nat.ble n 52) (prog_1_method_5_code) (prog_1_method_41_code)))))) (cond (Nat.ble n 62) (cond (Nat.ble n 57) (cond (Nat.ble n 55) (cond (Nat.ble n 54) (prog_1_method_34_code) (prog_1_method_16_code)) (cond (Nat.ble n 56) (prog_1_method_10_code) (prog_1_method_36_code))) (cond (Nat.ble n 59) (cond (Nat.ble n 58) (prog_1_method_26_code) (prog_1_method_32_code)) (cond (Nat.ble n 60) (prog_1_method_71_code) (cond (Nat.ble n 61) (prog_1_method_64_code) (prog_1_method_21_code))))) (cond (Nat.ble n 66) (cond (Nat.ble n 64) (cond (Nat.ble n 63) (prog_1_method_22_code) (prog_1_method_51_code)) (cond (Nat.ble n 65) (prog_1_method_31_code) (prog_1_method_18_code))) (cond (Nat.ble n 68) (cond (Nat.ble n 67) (prog_1_method_28_code) (prog_1_method_17_code)) (cond (Nat.ble n 69) (prog_1_method_19_code) (cond (Nat.ble n 70) (prog_1_method_49_code) (prog_1_method_13_code)))))))) (cond (Nat.ble n 107) (cond (Nat.ble n 89) (cond (Nat.ble n 80) (cond (Nat.ble n 75) (cond (Nat.ble n 73) (cond (Nat.ble n 72) (prog_1_method_73_code) (prog_1_method_74_code)) (cond (Nat.ble n 74) (prog_2_method_1_code) (prog_2_method_2_code))) (cond (Nat.ble n 77) (cond (Nat.ble n 76) (prog_2_method_13_code) (prog_2_method_3_code)) (cond (Nat.ble n 78) (prog_2_method_14_code) (cond (Nat.ble n 79) (prog_2_method_9_code) (prog_2_method_12_code))))) (cond (Nat.ble n 84) (cond (Nat.ble n 82) (cond (Nat.ble n 81) (prog_2_method_5_code) (prog_2_method_8_code)) (cond (Nat.ble n 83) (prog_2_method_7_code) (prog_3_method_1_code))) (cond (Nat.ble n 86) (cond (Nat.ble n 85) (prog_3_method_18_code) (prog_3_method_17_code)) (cond (Nat.ble n 87) (prog_3_method_2_code) (cond (Nat.ble n 88) (prog_3_method_12_code) (prog_3_method_14_code)))))) (cond (Nat.ble n 98) (cond (Nat.ble n 93) (cond (Nat.ble n 91) (cond (Nat.ble n 90) (prog_3_method_10_code) (prog_3_method_5_code)) (cond (Nat.ble n 92) (prog_3_method_15_code) (prog_3_method_13_code))) (cond (Nat.ble n 95) (cond (Nat.ble n 94) (prog_3_method_3_code) (prog_3_method_9_code)) (cond (Nat.ble n 96) (prog_3_method_11_code) (cond (Nat.ble n 97) (prog_3_method_6_code) (prog_3_method_16_code))))) (cond (Nat.ble n 102) (cond (Nat.ble n 100) (cond (Nat.ble n 99) (prog_4_method_1_code) (prog_4_method_3_code)) (cond (Nat.ble n 101) (prog_5_method_1_code) (prog_5_method_2_code))) (cond (Nat.ble n 104) (cond (Nat.ble n 103) (prog_5_method_9_code) (prog_5_method_4_code)) (cond (Nat.ble n 105) (prog_5_method_3_code) (cond (Nat.ble n 106) (prog_6_method_1_code) (prog_6_method_4_code))))))) (cond (Nat.ble n 125) (cond (Nat.ble n 116) (cond (Nat.ble n 111) (cond (Nat.ble n 109) (cond (Nat.ble n 108) (prog_7_method_1_code) (prog_7_method_9_code)) (cond (Nat.ble n 110) (prog_7_method_10_code) (prog_7_method_2_code))) (cond (Nat.ble n 113) (cond (Nat.ble n 112) (prog_7_method_6_code) (prog_7_method_5_code)) (cond (Nat.ble n 114) (prog_7_method_8_code) (cond (Nat.ble n 115) (prog_7_method_3_code) (prog_8_method_1_code))))) (cond (Nat.ble n 120) (cond (Nat.ble n 118) (cond (Nat.ble n 117) (prog_8_method_10_code) (prog_8_method_3_code)) (cond (Nat.ble n 119) (prog_8_method_7_code) (prog_8_method_8_code))) (cond (Nat.ble n 122) (cond (Nat.ble n 121) (prog_8_method_4_code) (prog_8_method_12_code)) (cond (Nat.ble n 123) (prog_8_method_6_code) (cond (Nat.ble n 124) (prog_8_method_5_code) (prog_8_method_9_code)))))) (cond (Nat.ble n 134) (cond (Nat.ble n 129) (cond (Nat.ble n 127) (cond (Nat.ble n 126) (prog_9_method_1_code) (prog_9_method_13_code)) (cond (Nat.ble n 128) (prog_9_method_3_code) (prog_9_method_14_code))) (cond (Nat.ble n 131) (cond (Nat.ble n 130) (prog_9_method_12_code) (prog_9_method_2_code)) (cond (Nat.ble n 132) (prog_9_method_4_code) (cond (Nat.ble n 133) (prog_10_method_1_code) (prog_10_method_5_code))))) (cond (Nat.ble n 138) (cond (Nat.ble n 136) (cond (Nat.ble n 135) (prog_10_method_3_code) (prog_10_method_6_code)) (cond (Nat.ble n 137) (prog_10_method_7_code) (prog_10_method_4_code))) (cond (Nat.ble n 140) (cond (Nat.ble n 139) (prog_10_method_2_code) (prog_11_method_1_code)) (cond (Nat.ble n 141) (prog_11_method_8_code) (cond (Nat.ble n 142) (prog_11_method_2_code) (prog_11_method_4_code))))))))) (cond (Nat.ble n 215) (cond (Nat.ble n 179) (cond (Nat.ble n 161) (cond (Nat.ble n 152) (cond (Nat.ble n 147) (cond (Nat.ble n 145) (cond (Nat.ble n 144) (prog_11_method_9_code) (prog_11_method_10_code)) (cond (Nat.ble n 146) (prog_11_method_3_code) (prog_12_method_1_code))) (cond (Nat.ble n 149) (cond (Nat.ble n 148) (prog_12_method_5_code) (prog_12_method_3_code)) (cond (Nat.ble n 150) (prog_12_method_2_code) (cond (Nat.ble n 151) (prog_12_method_7_code) (prog_12_method_6_code))))) (cond (Nat.ble n 156) (cond (Nat.ble n 154) (cond (Nat.ble n 153) (prog_12_method_4_code) (method_30_code)) (cond (Nat.ble n 155) (method_3_code) (method_10_code))) (cond (Nat.ble n 158) (cond (Nat.ble n 157) (method_34_code) (method_23_code)) (cond (Nat.ble n 159) (method_36_code) (cond (Nat.ble n 160) (method_11_code) (method_5_code)))))) (cond (Nat.ble n 170) (cond (Nat.ble n 165) (cond (Nat.ble n 163) (cond (Nat.ble n 162) (method_22_code) (method_26_code)) (cond (Nat.ble n 164) (method_37_code) (method_19_code))) (cond (Nat.ble n 167) (cond (Nat.ble n 166) (method_32_code) (method_35_code)) (cond (Nat.ble n 168) (method_14_code) (cond (Nat.ble n 169) (method_8_code) (method_13_code))))) (cond (Nat.ble n 174) (cond (Nat.ble n 172) (cond (Nat.ble n 171) (method_7_code) (method_6_code)) (cond (Nat.ble n 173) (method_24_code) (method_28_code))) (cond (Nat.ble n 176) (cond (Nat.ble n 175) (method_29_code) (method_4_code)) (cond (Nat.ble n 177) (method_38_code) (cond (Nat.ble n 178) (method_31_code) (method_15_code))))))) (cond (Nat.ble n 197) (cond (Nat.ble n 188) (cond (Nat.ble n 183) (cond (Nat.ble n 181) (cond (Nat.ble n 180) (method_9_code) (method_33_code)) (cond (Nat.ble n 182) (method_25_code) (method_20_code))) (cond (Nat.ble n 185) (cond (Nat.ble n 184) (method_21_code) (method_17_code)) (cond (Nat.ble n 186) (method_27_code) (cond (Nat.ble n 187) (method_16_code) (method_18_code))))) (cond (Nat.ble n 192) (cond (Nat.ble n 190) (cond (Nat.ble n 189) (method_12_code) (prog_14_method_1_code)) (cond (Nat.ble n 191) (prog_14_method_84_code) (prog_14_method_98_code))) (cond (Nat.ble n 194) (cond (Nat.ble n 193) (prog_14_method_11_code) (prog_14_method_39_code)) (cond (Nat.ble n 195) (prog_14_method_93_code) (cond (Nat.ble n 196) (prog_14_method_61_code) (prog_14_method_62_code)))))) (cond (Nat.ble n 206) (cond (Nat.ble n 201) (cond (Nat.ble n 199) (cond (Nat.ble n 198) (prog_14_method_97_code) (prog_14_method_12_code)) (cond (Nat.ble n 200) (prog_14_method_87_code) (prog_14_method_101_code))) (cond (Nat.ble n 203) (cond (Nat.ble n 202) (prog_14_method_2_code) (prog_14_method_13_code)) (cond (Nat.ble n 204) (prog_14_method_43_code) (cond (Nat.ble n 205) (prog_14_method_103_code) (prog_14_method_3_code))))) (cond (Nat.ble n 210) (cond (Nat.ble n 208) (cond (Nat.ble n 207) (prog_14_method_14_code) (prog_14_method_105_code)) (cond (Nat.ble n 209) (prog_14_method_15_code) (prog_14_method_16_code))) (cond (Nat.ble n 212) (cond (Nat.ble n 211) (prog_14_method_53_code) (prog_14_method_58_code)) (cond (Nat.ble n 213) (prog_14_method_68_code) (cond (Nat.ble n 214) (prog_14_method_99_code) (prog_14_method_55_code)))))))) (cond (Nat.ble n 251) (cond (Nat.ble n 233) (cond (Nat.ble n 224) (cond (Nat.ble n 219) (cond (Nat.ble n 217) (cond (Nat.ble n 216) (prog_14_method_59_code) (prog_14_method_10_code)) (cond (Nat.ble n 218) (prog_14_method_9_code) (prog_14_method_21_code))) (cond (Nat.ble n 221) (cond (Nat.ble n 220) (prog_14_method_8_code) (prog_14_method_7_code)) (cond (Nat.ble n 222) (prog_14_method_86_code) (cond (Nat.ble n 223) (prog_14_method_96_code) (prog_14_method_40_code))))) (cond (Nat.ble n 228) (cond (Nat.ble n 226) (cond (Nat.ble n 225) (prog_14_method_80_code) (prog_14_method_79_code)) (cond (Nat.ble n 227) (prog_14_method_102_code) (prog_14_method_77_code))) (cond (Nat.ble n 230) (cond (Nat.ble n 229) (prog_14_method_48_code) (prog_14_method_24_code)) (cond (Nat.ble n 231) (prog_14_method_36_code) (cond (Nat.ble n 232) (prog_14_method_46_code) (prog_14_method_45_code)))))) (cond (Nat.ble n 242) (cond (Nat.ble n 237) (cond (Nat.ble n 235) (cond (Nat.ble n 234) (prog_14_method_88_code) (prog_14_method_35_code)) (cond (Nat.ble n 236) (prog_14_method_34_code) (prog_14_method_41_code))) (cond (Nat.ble n 239) (cond (Nat.ble n 238) (prog_14_method_63_code) (prog_14_method_70_code)) (cond (Nat.ble n 240) (prog_14_method_71_code) (cond (Nat.ble n 241) (prog_14_method_60_code) (prog_14_method_32_code))))) (cond (Nat.ble n 246) (cond (Nat.ble n 244) (cond (Nat.ble n 243) (prog_14_method_20_code) (prog_14_method_26_code)) (cond (Nat.ble n 245) (prog_14_method_5_code) (prog_14_method_100_code))) (cond (Nat.ble n 248) (cond (Nat.ble n 247) (prog_14_method_85_code) (prog_14_method_49_code)) (cond (Nat.ble n 249) (prog_14_method_38_code) (cond (Nat.ble n 250) (prog_14_method_37_code) (prog_14_method_90_code))))))) (cond (Nat.ble n 269) (cond (Nat.ble n 260) (cond (Nat.ble n 255) (cond (Nat.ble n 253) (cond (Nat.ble n 252) (prog_14_method_67_code) (prog_14_method_74_code)) (cond (Nat.ble n 254) (prog_14_method_56_code) (prog_14_method_57_code))) (cond (Nat.ble n 257) (cond (Nat.ble n 256) (prog_14_method_73_code) (prog_14_method_51_code)) (cond (Nat.ble n 258) (prog_14_method_69_code) (cond (Nat.ble n 259) (prog_14_method_50_code) (prog_14_method_52_code))))) (cond (Nat.ble n 264) (cond (Nat.ble n 262) (cond (Nat.ble n 261) (prog_14_method_4_code) (prog_14_method_78_code)) (cond (Nat.ble n 263) (prog_14_method_44_code) (prog_14_method_6_code))) (cond (Nat.ble n 266) (cond (Nat.ble n 265) (prog_14_method_22_code) (prog_14_method_42_code)) (cond (Nat.ble n 267) (prog_15_method_1_code) (cond (Nat.ble n 268) (prog_15_method_8_code) (prog_15_method_2_code)))))) (cond (Nat.ble n 278) (cond (Nat.ble n 273) (cond (Nat.ble n 271) (cond (Nat.ble n 270) (prog_15_method_7_code) (prog_15_method_3_code)) (cond (Nat.ble n 272) (prog_16_method_1_code) (prog_17_method_1_code))) (cond (Nat.ble n 275) (cond (Nat.ble n 274) (prog_18_method_1_code) (prog_27_method_49_code)) (cond (Nat.ble n 276) (prog_27_method_48_code) (cond (Nat.ble n 277) (prog_28_method_49_code) (prog_29_method_65_code))))) (cond (Nat.ble n 283) (cond (Nat.ble n 280) (cond (Nat.ble n 279) (prog_29_method_69_code) (prog_32_method_56_code)) (cond (Nat.ble n 281) (prog_32_method_155_code) (cond (Nat.ble n 282) (prog_32_method_152_code) (prog_32_method_154_code)))) (cond (Nat.ble n 285) (cond (Nat.ble n 284) (prog_32_method_54_code) (prog_33_method_2_code)) (cond (Nat.ble n 286) (prog_39_method_103_code) (cond (Nat.ble n 287) (prog_39_method_101_code) (prog_41_method_11_code)))))))))
def e_ret (n : Nat) : Option FieldType := cond (Nat.ble n 143) (cond (Nat.ble n 71) (cond (Nat.ble n 35) (cond (Nat.ble n 17) (cond (Nat.ble n 8) (cond (Nat.ble n 3) (cond (Nat.ble n 1) (cond (Nat.ble n 0) ((some Jvm.ClassFile.FieldType.boolean)) ((Option.none : Option Jvm.ClassFile.FieldType))) (cond (Nat.ble n 2) ((Option.some Jvm.ClassFile.FieldType.int)) ((Option.some Jvm.ClassFile.FieldType.int)))) (cond (Nat.ble n 5) (cond (Nat.ble n 4) ((Option.none : Option Jvm.ClassFile.FieldType)) ((Option.none : Option Jvm.ClassFile.FieldType))) (cond (Nat.ble n 6) ((Option.some Jvm.ClassFile.FieldType.boolean)) (cond (Nat.ble n 7) ((Option.some Jvm.ClassFile.FieldType.int)) ((Option.some Jvm.ClassFile.FieldType.int)))))) (cond (Nat.ble n 12) (cond (Nat.ble n 10) (cond (Nat.ble n 9) ((Option.some Jvm.ClassFile.FieldType.int)) ((Option.some Jvm.ClassFile.FieldType.int))) (cond (Nat.ble n 11) ((Option.some (Jvm.ClassFile.FieldType.object "Handshakewarden$Cast"))) ((Option.some (Jvm.ClassFile.FieldType.object "Handshakewarden$Cast"))))) (cond (Nat.ble n 14) (cond (Nat.ble n 13) ((Option.some (Jvm.ClassFile.FieldType.object "Handshakewarden$Cast"))) ((Option.some Jvm.ClassFile.FieldType.int))) (cond (Nat.ble n 15) ((Option.none : Option Jvm.ClassFile.FieldType)) (cond (Nat.ble n 16) ((Option.none : Option Jvm.ClassFile.FieldType)) ((Option.none : Option Jvm.ClassFile.FieldType))))))) (cond (Nat.ble n 26) (cond (Nat.ble n 21) (cond (Nat.ble n 19) (cond (Nat.ble n 18) ((Option.some Jvm.ClassFile.FieldType.int)) ((Option.some Jvm.ClassFile.FieldType.int))) (cond (Nat.ble n 20) ((Option.some Jvm.ClassFile.FieldType.int)) ((Option.some Jvm.ClassFile.FieldType.float)))) (cond (Nat.ble n 23) (cond (Nat.ble n 22) ((Option.some (Jvm.ClassFile.FieldType.object "Handshakewarden$Whole"))) ((Option.some Jvm.ClassFile.FieldType.int))) (cond (Nat.ble n 24) ((Option.some Jvm.ClassFile.FieldType.int)) (cond (Nat.ble n 25) ((Option.some Jvm.ClassFile.FieldType.int)) ((Option.some (Jvm.ClassFile.FieldType.object "java/lang/String"))))))) (cond (Nat.ble n 30) (cond (Nat.ble n 28) (cond (Nat.ble n 27) ((Option.some Jvm.ClassFile.FieldType.boolean)) ((Option.some Jvm.ClassFile.FieldType.boolean))) (cond (Nat.ble n 29) ((Option.some Jvm.ClassFile.FieldType.boolean)) ((Option.some Jvm.ClassFile.FieldType.int)))) (cond (Nat.ble n 32) (cond (Nat.ble n 31) ((Option.some Jvm.ClassFile.FieldType.int)) ((Option.some (Jvm.ClassFile.FieldType.object "Handshakewarden$Hall")))) (cond (Nat.ble n 33) ((Option.some Jvm.ClassFile.FieldType.boolean)) (cond (Nat.ble n 34) ((Option.none : Option Jvm.ClassFile.FieldType)) ((Option.some Jvm.ClassFile.FieldType.int)))))))) (cond (Nat.ble n 53) (cond (Nat.ble n 44) (cond (Nat.ble n 39) (cond (Nat.ble n 37) (cond (Nat.ble n 36) ((Option.some Jvm.ClassFile.FieldType.boolean)) ((Option.some Jvm.ClassFile.FieldType.int))) (cond (Nat.ble n 38) ((Option.some Jvm.ClassFile.FieldType.int)) ((Option.some Jvm.ClassFile.FieldType.double)))) (cond (Nat.ble n 41) (cond (Nat.ble n 40) ((Option.some Jvm.ClassFile.FieldType.int)) ((Option.some Jvm.ClassFile.FieldType.int))) (cond (Nat.ble n 42) ((Option.some Jvm.ClassFile.FieldType.int)) (cond (Nat.ble n 43) ((Option.some Jvm.ClassFile.FieldType.int)) ((Option.some Jvm.ClassFile.FieldType.int)))))) (cond (Nat.ble n 48) (cond (Nat.ble n 46) (cond (Nat.ble n 45) ((Option.some Jvm.ClassFile.FieldType.long)) ((Option.some Jvm.ClassFile.FieldType.int))) (cond (Nat.ble n 47) ((Option.some Jvm.ClassFile.FieldType.int)) ((Option.none : Option Jvm.ClassFile.FieldType)))) (cond (Nat.ble n 50) (cond (Nat.ble n 49) ((Option.some Jvm.ClassFile.FieldType.int)) ((Option.some Jvm.ClassFile.FieldType.int))) (cond (Nat.ble n 51) ((Option.some Jvm.ClassFile.FieldType.int)) (cond (Nat.ble n 52) ((Option.some Jvm.ClassFile.FieldType.int)) ((Option.some Jvm.ClassFile.FieldType.int))))))) (cond (Nat.ble n 62) (cond (Nat.ble n 57) (cond (Nat.ble n 55) (cond (Nat.ble n 54) ((Option.some Jvm.ClassFile.FieldType.int)) ((Option.some Jvm.ClassFile.FieldType.int))) (cond (Nat.ble n 56) ((Option.some Jvm.ClassFile.FieldType.int)) ((Option.some Jvm.ClassFile.FieldType.long)))) (cond (Nat.ble n 59) (cond (Nat.ble n 58) ((Option.some Jvm.ClassFile.FieldType.int)) ((Option.some Jvm.ClassFile.FieldType.int))) (cond (Nat.ble n 60) ((Option.some Jvm.ClassFile.FieldType.long)) (cond (Nat.ble n 61) ((Option.none : Option Jvm.ClassFile.FieldType)) ((Option.some Jvm.ClassFile.FieldType.int)))))) (cond (Nat.ble n 66) (cond (Nat.ble n 64) (cond (Nat.ble n 63) ((Option.some Jvm.ClassFile.FieldType.int)) ((Option.some (Jvm.ClassFile.FieldType.object "Handshakewarden$Part")))) (cond (Nat.ble n 65) ((Option.some Jvm.ClassFile.FieldType.int)) ((Option.some Jvm.ClassFile.FieldType.int)))) (cond (Nat.ble n 68) (cond (Nat.ble n 67) ((Option.some Jvm.ClassFile.FieldType.int)) ((Option.some Jvm.ClassFile.FieldType.int))) (cond (Nat.ble n 69) ((Option.some Jvm.ClassFile.FieldType.int)) (cond (Nat.ble n 70) ((Option.some (Jvm.ClassFile.FieldType.object "Handshakewarden$Whole"))) ((Option.some Jvm.ClassFile.FieldType.int))))))))) (cond (Nat.ble n 107) (cond (Nat.ble n 89) (cond (Nat.ble n 80) (cond (Nat.ble n 75) (cond (Nat.ble n 73) (cond (Nat.ble n 72) ((Option.some (Jvm.ClassFile.FieldType.array Jvm.ClassFile.FieldType.int))) ((Option.some (Jvm.ClassFile.FieldType.array Jvm.ClassFile.FieldType.long)))) (cond (Nat.ble n 74) ((Option.none : Option Jvm.ClassFile.FieldType)) ((Option.some (Jvm.ClassFile.FieldType.object "Handshakewarden$Findings"))))) (cond (Nat.ble n 77) (cond (Nat.ble n 76) ((Option.some Jvm.ClassFile.FieldType.boolean)) ((Option.none : Option Jvm.ClassFile.FieldType))) (cond (Nat.ble n 78) ((Option.some Jvm.ClassFile.FieldType.boolean)) (cond (Nat.ble n 79) ((Option.some Jvm.ClassFile.FieldType.int)) ((Option.some Jvm.ClassFile.FieldType.int)))))) (cond (Nat.ble n 84) (cond (Nat.ble n 82) (cond (Nat.ble n 81) ((Option.some (Jvm.ClassFile.FieldType.object "Handshakewarden$Part"))) ((Option.some Jvm.ClassFile.FieldType.int))) (cond (Nat.ble n 83) ((Option.some Jvm.ClassFile.FieldType.int)) ((Option.none : Option Jvm.ClassFile.FieldType)))) (cond (Nat.ble n 86) (cond (Nat.ble n 85) ((Option.none : Option Jvm.ClassFile.FieldType)) ((Option.some Jvm.ClassFile.FieldType.boolean))) (cond (Nat.ble n 87) ((Option.some Jvm.ClassFile.FieldType.boolean)) (cond (Nat.ble n 88) ((Option.some Jvm.ClassFile.FieldType.boolean)) ((Option.none : Option Jvm.ClassFile.FieldType))))))) (cond (Nat.ble n 98) (cond (Nat.ble n 93) (cond (Nat.ble n 91) (cond (Nat.ble n 90) ((Option.none : Option Jvm.ClassFile.FieldType)) ((Option.none : Option Jvm.ClassFile.FieldType))) (cond (Nat.ble n 92) ((Option.none : Option Jvm.ClassFile.FieldType)) ((Option.some Jvm.ClassFile.FieldType.boolean)))) (cond (Nat.ble n 95) (cond (Nat.ble n 94) ((Option.some Jvm.ClassFile.FieldType.int)) ((Option.none : Option Jvm.ClassFile.FieldType))) (cond (Nat.ble n 96) ((Option.none : Option Jvm.ClassFile.FieldType)) (cond (Nat.ble n 97) ((Option.none : Option Jvm.ClassFile.FieldType)) ((Option.some Jvm.ClassFile.FieldType.long)))))) (cond (Nat.ble n 102) (cond (Nat.ble n 100) (cond (Nat.ble n 99) ((Option.none : Option Jvm.ClassFile.FieldType)) ((Option.none : Option Jvm.ClassFile.FieldType))) (cond (Nat.ble n 101) ((Option.none : Option Jvm.ClassFile.FieldType)) ((Option.some (Jvm.ClassFile.FieldType.object "Handshakewarden$Findings"))))) (cond (Nat.ble n 104) (cond (Nat.ble n 103) ((Option.some Jvm.ClassFile.FieldType.boolean)) ((Option.none : Option Jvm.ClassFile.FieldType))) (cond (Nat.ble n 105) ((Option.some Jvm.ClassFile.FieldType.int)) (cond (Nat.ble n 106) ((Option.none : Option Jvm.ClassFile.FieldType)) ((Option.some Jvm.ClassFile.FieldType.boolean)))))))) (cond (Nat.ble n 125) (cond (Nat.ble n 116) (cond (Nat.ble n 111) (cond (Nat.ble n 109) (cond (Nat.ble n 108) ((Option.none : Option Jvm.ClassFile.FieldType)) ((Option.none : Option Jvm.ClassFile.FieldType))) (cond (Nat.ble n 110) ((Option.none : Option Jvm.ClassFile.FieldType)) ((Option.none : Option Jvm.ClassFile.FieldType)))) (cond (Nat.ble n 113) (cond (Nat.ble n 112) ((Option.none : Option Jvm.ClassFile.FieldType)) ((Option.some (Jvm.ClassFile.FieldType.object "Handshakewarden$Part")))) (cond (Nat.ble n 114) ((Option.some Jvm.ClassFile.FieldType.int)) (cond (Nat.ble n 115) ((Option.some (Jvm.ClassFile.FieldType.object "Handshakewarden$Whole"))) ((Option.none : Option Jvm.ClassFile.FieldType)))))) (cond (Nat.ble n 120) (cond (Nat.ble n 118) (cond (Nat.ble n 117) ((Option.some Jvm.ClassFile.FieldType.int)) ((Option.some (Jvm.ClassFile.FieldType.object "Handshakewarden$Part")))) (cond (Nat.ble n 119) ((Option.some Jvm.ClassFile.FieldType.int)) ((Option.some Jvm.ClassFile.FieldType.int)))) (cond (Nat.ble n 122) (cond (Nat.ble n 121) ((Option.some Jvm.ClassFile.FieldType.int)) ((Option.some Jvm.ClassFile.FieldType.int))) (cond (Nat.ble n 123) ((Option.some Jvm.ClassFile.FieldType.int)) (cond (Nat.ble n 124) ((Option.some Jvm.ClassFile.FieldType.int)) ((Option.some Jvm.ClassFile.FieldType.int))))))) (cond (Nat.ble n 134) (cond (Nat.ble n 129) (cond (Nat.ble n 127) (cond (Nat.ble n 126) ((Option.none : Option Jvm.ClassFile.FieldType)) ((Option.none : Option Jvm.ClassFile.FieldType))) (cond (Nat.ble n 128) ((Option.some Jvm.ClassFile.FieldType.int)) ((Option.none : Option Jvm.ClassFile.FieldType)))) (cond (Nat.ble n 131) (cond (Nat.ble n 130) ((Option.some Jvm.ClassFile.FieldType.boolean)) ((Option.some (Jvm.ClassFile.FieldType.object "Handshakewarden$Whole")))) (cond (Nat.ble n 132) ((Option.some Jvm.ClassFile.FieldType.int)) (cond (Nat.ble n 133) ((Option.none : Option Jvm.ClassFile.FieldType)) ((Option.some Jvm.ClassFile.FieldType.int)))))) (cond (Nat.ble n 138) (cond (Nat.ble n 136) (cond (Nat.ble n 135) ((Option.none : Option Jvm.ClassFile.FieldType)) ((Option.none : Option Jvm.ClassFile.FieldType))) (cond (Nat.ble n 137) ((Option.some Jvm.ClassFile.FieldType.int)) ((Option.some Jvm.ClassFile.FieldType.int)))) (cond (Nat.ble n 140) (cond (Nat.ble n 139) ((Option.none : Option Jvm.ClassFile.FieldType)) ((Option.none : Option Jvm.ClassFile.FieldType))) (cond (Nat.ble n 141) ((Option.none : Option Jvm.ClassFile.FieldType)) (cond (Nat.ble n 142) ((Option.some Jvm.ClassFile.FieldType.long)) ((Option.none : Option Jvm.ClassFile.FieldType)))))))))) (cond (Nat.ble n 215) (cond (Nat.ble n 179) (cond (Nat.ble n 161) (cond (Nat.ble n 152) (cond (Nat.ble n 147) (cond (Nat.ble n 145) (cond (Nat.ble n 144) ((Option.some Jvm.ClassFile.FieldType.long)) ((Option.none : Option Jvm.ClassFile.FieldType))) (cond (Nat.ble n 146) ((Option.none : Option Jvm.ClassFile.FieldType)) ((Option.none : Option Jvm.ClassFile.FieldType)))) (cond (Nat.ble n 149) (cond (Nat.ble n 148) ((Option.some Jvm.ClassFile.FieldType.int)) ((Option.none : Option Jvm.ClassFile.FieldType))) (cond (Nat.ble n 150) ((Option.some (Jvm.ClassFile.FieldType.object "Handshakewarden$Whole"))) (cond (Nat.ble n 151) ((Option.none : Option Jvm.ClassFile.FieldType)) ((Option.some (Jvm.ClassFile.FieldType.object "Handshakewarden$Part"))))))) (cond (Nat.ble n 156) (cond (Nat.ble n 154) (cond (Nat.ble n 153) ((Option.some Jvm.ClassFile.FieldType.int)) ((Option.some Jvm.ClassFile.FieldType.int))) (cond (Nat.ble n 155) ((Option.some Jvm.ClassFile.FieldType.int)) ((Option.some Jvm.ClassFile.FieldType.int)))) (cond (Nat.ble n 158) (cond (Nat.ble n 157) ((Option.some Jvm.ClassFile.FieldType.int)) ((Option.some Jvm.ClassFile.FieldType.int))) (cond (Nat.ble n 159) ((Option.some Jvm.ClassFile.FieldType.int)) (cond (Nat.ble n 160) ((Option.some Jvm.ClassFile.FieldType.int)) ((Option.some Jvm.ClassFile.FieldType.int))))))) (cond (Nat.ble n 170) (cond (Nat.ble n 165) (cond (Nat.ble n 163) (cond (Nat.ble n 162) ((Option.some Jvm.ClassFile.FieldType.int)) ((Option.some Jvm.ClassFile.FieldType.int))) (cond (Nat.ble n 164) ((Option.some Jvm.ClassFile.FieldType.int)) ((Option.some Jvm.ClassFile.FieldType.int)))) (cond (Nat.ble n 167) (cond (Nat.ble n 166) ((Option.some Jvm.ClassFile.FieldType.int)) ((Option.some Jvm.ClassFile.FieldType.int))) (cond (Nat.ble n 168) ((Option.some Jvm.ClassFile.FieldType.int)) (cond (Nat.ble n 169) ((Option.some Jvm.ClassFile.FieldType.int)) ((Option.some Jvm.ClassFile.FieldType.int)))))) (cond (Nat.ble n 174) (cond (Nat.ble n 172) (cond (Nat.ble n 171) ((Option.some Jvm.ClassFile.FieldType.int)) ((Option.some Jvm.ClassFile.FieldType.int))) (cond (Nat.ble n 173) ((Option.some Jvm.ClassFile.FieldType.int)) ((Option.some Jvm.ClassFile.FieldType.int)))) (cond (Nat.ble n 176) (cond (Nat.ble n 175) ((Option.some Jvm.ClassFile.FieldType.int)) ((Option.some Jvm.ClassFile.FieldType.int))) (cond (Nat.ble n 177) ((Option.some Jvm.ClassFile.FieldType.int)) (cond (Nat.ble n 178) ((Option.some Jvm.ClassFile.FieldType.int)) ((Option.some Jvm.ClassFile.FieldType.int)))))))) (cond (Nat.ble n 197) (cond (Nat.ble n 188) (cond (Nat.ble n 183) (cond (Nat.ble n 181) (cond (Nat.ble n 180) ((Option.some Jvm.ClassFile.FieldType.int)) ((Option.some Jvm.ClassFile.FieldType.int))) (cond (Nat.ble n 182) ((Option.some Jvm.ClassFile.FieldType.int)) ((Option.some Jvm.ClassFile.FieldType.int)))) (cond (Nat.ble n 185) (cond (Nat.ble n 184) ((Option.some Jvm.ClassFile.FieldType.int)) ((Option.some Jvm.ClassFile.FieldType.int))) (cond (Nat.ble n 186) ((Option.some Jvm.ClassFile.FieldType.int)) (cond (Nat.ble n 187) ((Option.some Jvm.ClassFile.FieldType.int)) ((Option.some Jvm.ClassFile.FieldType.int)))))) (cond (Nat.ble n 192) (cond (Nat.ble n 190) (cond (Nat.ble n 189) ((Option.some Jvm.ClassFile.FieldType.int)) ((Option.none : Option Jvm.ClassFile.FieldType))) (cond (Nat.ble n 191) ((Option.some Jvm.ClassFile.FieldType.int)) ((Option.some Jvm.ClassFile.FieldType.int)))) (cond (Nat.ble n 194) (cond (Nat.ble n 193) ((Option.some Jvm.ClassFile.FieldType.int)) ((Option.some Jvm.ClassFile.FieldType.boolean))) (cond (Nat.ble n 195) ((Option.some Jvm.ClassFile.FieldType.int)) (cond (Nat.ble n 196) ((Option.some Jvm.ClassFile.FieldType.int)) ((Option.none : Option Jvm.ClassFile.FieldType))))))) (cond (Nat.ble n 206) (cond (Nat.ble n 201) (cond (Nat.ble n 199) (cond (Nat.ble n 198) ((Option.some Jvm.ClassFile.FieldType.int)) ((Option.some Jvm.ClassFile.FieldType.int))) (cond (Nat.ble n 200) ((Option.some Jvm.ClassFile.FieldType.boolean)) ((Option.some Jvm.ClassFile.FieldType.int)))) (cond (Nat.ble n 203) (cond (Nat.ble n 202) ((Option.none : Option Jvm.ClassFile.FieldType)) ((Option.some Jvm.ClassFile.FieldType.int))) (cond (Nat.ble n 204) ((Option.some Jvm.ClassFile.FieldType.int)) (cond (Nat.ble n 205) ((Option.some Jvm.ClassFile.FieldType.float)) ((Option.some (Jvm.ClassFile.FieldType.object "HandshakewardenModel$Part"))))))) (cond (Nat.ble n 210) (cond (Nat.ble n 208) (cond (Nat.ble n 207) ((Option.some Jvm.ClassFile.FieldType.int)) ((Option.some Jvm.ClassFile.FieldType.int))) (cond (Nat.ble n 209) ((Option.some Jvm.ClassFile.FieldType.int)) ((Option.some (Jvm.ClassFile.FieldType.object "java/lang/String"))))) (cond (Nat.ble n 212) (cond (Nat.ble n 211) ((Option.some Jvm.ClassFile.FieldType.int)) ((Option.some Jvm.ClassFile.FieldType.boolean))) (cond (Nat.ble n 213) ((Option.some Jvm.ClassFile.FieldType.int)) (cond (Nat.ble n 214) ((Option.some Jvm.ClassFile.FieldType.int)) ((Option.some Jvm.ClassFile.FieldType.boolean))))))))) (cond (Nat.ble n 251) (cond (Nat.ble n 233) (cond (Nat.ble n 224) (cond (Nat.ble n 219) (cond (Nat.ble n 217) (cond (Nat.ble n 216) ((Option.some Jvm.ClassFile.FieldType.boolean)) ((Option.some Jvm.ClassFile.FieldType.boolean))) (cond (Nat.ble n 218) ((Option.some Jvm.ClassFile.FieldType.boolean)) ((Option.some Jvm.ClassFile.FieldType.boolean)))) (cond (Nat.ble n 221) (cond (Nat.ble n 220) ((Option.some Jvm.ClassFile.FieldType.boolean)) ((Option.some Jvm.ClassFile.FieldType.boolean))) (cond (Nat.ble n 222) ((Option.some Jvm.ClassFile.FieldType.int)) (cond (Nat.ble n 223) ((Option.some Jvm.ClassFile.FieldType.boolean)) ((Option.some Jvm.ClassFile.FieldType.long)))))) (cond (Nat.ble n 228) (cond (Nat.ble n 226) (cond (Nat.ble n 225) ((Option.none : Option Jvm.ClassFile.FieldType)) ((Option.none : Option Jvm.ClassFile.FieldType))) (cond (Nat.ble n 227) ((Option.some Jvm.ClassFile.FieldType.double)) ((Option.none : Option Jvm.ClassFile.FieldType)))) (cond (Nat.ble n 230) (cond (Nat.ble n 229) ((Option.some Jvm.ClassFile.FieldType.int)) ((Option.some Jvm.ClassFile.FieldType.int))) (cond (Nat.ble n 231) ((Option.some Jvm.ClassFile.FieldType.int)) (cond (Nat.ble n 232) ((Option.some Jvm.ClassFile.FieldType.int)) ((Option.some Jvm.ClassFile.FieldType.int))))))) (cond (Nat.ble n 242) (cond (Nat.ble n 237) (cond (Nat.ble n 235) (cond (Nat.ble n 234) ((Option.some (Jvm.ClassFile.FieldType.array (Jvm.ClassFile.FieldType.object "HandshakewardenModel$Part")))) ((Option.some Jvm.ClassFile.FieldType.int))) (cond (Nat.ble n 236) ((Option.some Jvm.ClassFile.FieldType.int)) ((Option.some Jvm.ClassFile.FieldType.long)))) (cond (Nat.ble n 239) (cond (Nat.ble n 238) ((Option.some Jvm.ClassFile.FieldType.int)) ((Option.some Jvm.ClassFile.FieldType.int))) (cond (Nat.ble n 240) ((Option.some Jvm.ClassFile.FieldType.int)) (cond (Nat.ble n 241) ((Option.some Jvm.ClassFile.FieldType.int)) ((Option.some Jvm.ClassFile.FieldType.int)))))) (cond (Nat.ble n 246) (cond (Nat.ble n 244) (cond (Nat.ble n 243) ((Option.none : Option Jvm.ClassFile.FieldType)) ((Option.some Jvm.ClassFile.FieldType.int))) (cond (Nat.ble n 245) ((Option.some Jvm.ClassFile.FieldType.boolean)) ((Option.some Jvm.ClassFile.FieldType.int)))) (cond (Nat.ble n 248) (cond (Nat.ble n 247) ((Option.some Jvm.ClassFile.FieldType.int)) ((Option.some Jvm.ClassFile.FieldType.int))) (cond (Nat.ble n 249) ((Option.some Jvm.ClassFile.FieldType.int)) (cond (Nat.ble n 250) ((Option.some Jvm.ClassFile.FieldType.int)) ((Option.some Jvm.ClassFile.FieldType.long)))))))) (cond (Nat.ble n 269) (cond (Nat.ble n 260) (cond (Nat.ble n 255) (cond (Nat.ble n 253) (cond (Nat.ble n 252) ((Option.some Jvm.ClassFile.FieldType.int)) ((Option.some Jvm.ClassFile.FieldType.int))) (cond (Nat.ble n 254) ((Option.some Jvm.ClassFile.FieldType.int)) ((Option.some Jvm.ClassFile.FieldType.int)))) (cond (Nat.ble n 257) (cond (Nat.ble n 256) ((Option.some Jvm.ClassFile.FieldType.int)) ((Option.some Jvm.ClassFile.FieldType.int))) (cond (Nat.ble n 258) ((Option.some Jvm.ClassFile.FieldType.int)) (cond (Nat.ble n 259) ((Option.some Jvm.ClassFile.FieldType.int)) ((Option.some Jvm.ClassFile.FieldType.int)))))) (cond (Nat.ble n 264) (cond (Nat.ble n 262) (cond (Nat.ble n 261) ((Option.some Jvm.ClassFile.FieldType.int)) ((Option.none : Option Jvm.ClassFile.FieldType))) (cond (Nat.ble n 263) ((Option.some Jvm.ClassFile.FieldType.int)) ((Option.some Jvm.ClassFile.FieldType.boolean)))) (cond (Nat.ble n 266) (cond (Nat.ble n 265) ((Option.some Jvm.ClassFile.FieldType.int)) ((Option.some (Jvm.ClassFile.FieldType.object "HandshakewardenModel$Cutter")))) (cond (Nat.ble n 267) ((Option.none : Option Jvm.ClassFile.FieldType)) (cond (Nat.ble n 268) ((Option.none : Option Jvm.ClassFile.FieldType)) ((Option.some Jvm.ClassFile.FieldType.boolean))))))) (cond (Nat.ble n 278) (cond (Nat.ble n 273) (cond (Nat.ble n 271) (cond (Nat.ble n 270) ((Option.some Jvm.ClassFile.FieldType.boolean)) ((Option.some Jvm.ClassFile.FieldType.int))) (cond (Nat.ble n 272) ((Option.none : Option Jvm.ClassFile.FieldType)) ((Option.none : Option Jvm.ClassFile.FieldType)))) (cond (Nat.ble n 275) (cond (Nat.ble n 274) ((Option.none : Option Jvm.ClassFile.FieldType)) ((Option.some Jvm.ClassFile.FieldType.int))) (cond (Nat.ble n 276) ((Option.some Jvm.ClassFile.FieldType.int)) (cond (Nat.ble n 277) ((Option.some Jvm.ClassFile.FieldType.int)) ((Option.some Jvm.ClassFile.FieldType.int)))))) (cond (Nat.ble n 283) (cond (Nat.ble n 280) (cond (Nat.ble n 279) ((Option.some Jvm.ClassFile.FieldType.int)) ((Option.some Jvm.ClassFile.FieldType.char))) (cond (Nat.ble n 281) ((Option.none : Option Jvm.ClassFile.FieldType)) (cond (Nat.ble n 282) ((Option.some Jvm.ClassFile.FieldType.byte)) ((Option.some Jvm.ClassFile.FieldType.boolean))))) (cond (Nat.ble n 285) (cond (Nat.ble n 284) ((Option.some Jvm.ClassFile.FieldType.int)) ((Option.some Jvm.ClassFile.FieldType.char))) (cond (Nat.ble n 286) ((Option.none : Option Jvm.ClassFile.FieldType)) (cond (Nat.ble n 287) ((Option.none : Option Jvm.ClassFile.FieldType)) ((Option.some Jvm.ClassFile.FieldType.int))))))))))
def e_ini (n : Nat) : Bool := cond (Nat.ble n 143) (cond (Nat.ble n 71) (cond (Nat.ble n 35) (cond (Nat.ble n 17) (cond (Nat.ble n 8) (cond (Nat.ble n 3) (cond (Nat.ble n 1) (cond (Nat.ble n 0) (false) (true)) (cond (Nat.ble n 2) (false) (false))) (cond (Nat.ble n 5) (cond (Nat.ble n 4) (false) (false)) (cond (Nat.ble n 6) (false) (cond (Nat.ble n 7) (false) (false))))) (cond (Nat.ble n 12) (cond (Nat.ble n 10) (cond (Nat.ble n 9) (false) (false)) (cond (Nat.ble n 11) (false) (false))) (cond (Nat.ble n 14) (cond (Nat.ble n 13) (false) (false)) (cond (Nat.ble n 15) (false) (cond (Nat.ble n 16) (false) (false)))))) (cond (Nat.ble n 26) (cond (Nat.ble n 21) (cond (Nat.ble n 19) (cond (Nat.ble n 18) (false) (false)) (cond (Nat.ble n 20) (false) (false))) (cond (Nat.ble n 23) (cond (Nat.ble n 22) (false) (false)) (cond (Nat.ble n 24) (false) (cond (Nat.ble n 25) (false) (false))))) (cond (Nat.ble n 30) (cond (Nat.ble n 28) (cond (Nat.ble n 27) (false) (false)) (cond (Nat.ble n 29) (false) (false))) (cond (Nat.ble n 32) (cond (Nat.ble n 31) (false) (false)) (cond (Nat.ble n 33) (false) (cond (Nat.ble n 34) (false) (false))))))) (cond (Nat.ble n 53) (cond (Nat.ble n 44) (cond (Nat.ble n 39) (cond (Nat.ble n 37) (cond (Nat.ble n 36) (false) (false)) (cond (Nat.ble n 38) (false) (false))) (cond (Nat.ble n 41) (cond (Nat.ble n 40) (false) (false)) (cond (Nat.ble n 42) (false) (cond (Nat.ble n 43) (false) (false))))) (cond (Nat.ble n 48) (cond (Nat.ble n 46) (cond (Nat.ble n 45) (false) (false)) (cond (Nat.ble n 47) (false) (false))) (cond (Nat.ble n 50) (cond (Nat.ble n 49) (false) (false)) (cond (Nat.ble n 51) (false) (cond (Nat.ble n 52) (false) (false)))))) (cond (Nat.ble n 62) (cond (Nat.ble n 57) (cond (Nat.ble n 55) (cond (Nat.ble n 54) (false) (false)) (cond (Nat.ble n 56) (false) (false))) (cond (Nat.ble n 59) (cond (Nat.ble n 58) (false) (false)) (cond (Nat.ble n 60) (false) (cond (Nat.ble n 61) (false) (false))))) (cond (Nat.ble n 66) (cond (Nat.ble n 64) (cond (Nat.ble n 63) (false) (false)) (cond (Nat.ble n 65) (false) (false))) (cond (Nat.ble n 68) (cond (Nat.ble n 67) (false) (false)) (cond (Nat.ble n 69) (false) (cond (Nat.ble n 70) (false) (false)))))))) (cond (Nat.ble n 107) (cond (Nat.ble n 89) (cond (Nat.ble n 80) (cond (Nat.ble n 75) (cond (Nat.ble n 73) (cond (Nat.ble n 72) (false) (false)) (cond (Nat.ble n 74) (true) (false))) (cond (Nat.ble n 77) (cond (Nat.ble n 76) (false) (false)) (cond (Nat.ble n 78) (false) (cond (Nat.ble n 79) (false) (false))))) (cond (Nat.ble n 84) (cond (Nat.ble n 82) (cond (Nat.ble n 81) (false) (false)) (cond (Nat.ble n 83) (false) (true))) (cond (Nat.ble n 86) (cond (Nat.ble n 85) (false) (false)) (cond (Nat.ble n 87) (false) (cond (Nat.ble n 88) (false) (false)))))) (cond (Nat.ble n 98) (cond (Nat.ble n 93) (cond (Nat.ble n 91) (cond (Nat.ble n 90) (false) (false)) (cond (Nat.ble n 92) (false) (false))) (cond (Nat.ble n 95) (cond (Nat.ble n 94) (false) (false)) (cond (Nat.ble n 96) (false) (cond (Nat.ble n 97) (false) (false))))) (cond (Nat.ble n 102) (cond (Nat.ble n 100) (cond (Nat.ble n 99) (true) (false)) (cond (Nat.ble n 101) (true) (false))) (cond (Nat.ble n 104) (cond (Nat.ble n 103) (false) (false)) (cond (Nat.ble n 105) (false) (cond (Nat.ble n 106) (true) (false))))))) (cond (Nat.ble n 125) (cond (Nat.ble n 116) (cond (Nat.ble n 111) (cond (Nat.ble n 109) (cond (Nat.ble n 108) (true) (false)) (cond (Nat.ble n 110) (false) (false))) (cond (Nat.ble n 113) (cond (Nat.ble n 112) (false) (false)) (cond (Nat.ble n 114) (false) (cond (Nat.ble n 115) (false) (true))))) (cond (Nat.ble n 120) (cond (Nat.ble n 118) (cond (Nat.ble n 117) (false) (false)) (cond (Nat.ble n 119) (false) (false))) (cond (Nat.ble n 122) (cond (Nat.ble n 121) (false) (false)) (cond (Nat.ble n 123) (false) (cond (Nat.ble n 124) (false) (false)))))) (cond (Nat.ble n 134) (cond (Nat.ble n 129) (cond (Nat.ble n 127) (cond (Nat.ble n 126) (true) (false)) (cond (Nat.ble n 128) (false) (false))) (cond (Nat.ble n 131) (cond (Nat.ble n 130) (false) (false)) (cond (Nat.ble n 132) (false) (cond (Nat.ble n 133) (true) (false))))) (cond (Nat.ble n 138) (cond (Nat.ble n 136) (cond (Nat.ble n 135) (false) (false)) (cond (Nat.ble n 137) (false) (false))) (cond (Nat.ble n 140) (cond (Nat.ble n 139) (false) (true)) (cond (Nat.ble n 141) (false) (cond (Nat.ble n 142) (false) (false))))))))) (cond (Nat.ble n 215) (cond (Nat.ble n 179) (cond (Nat.ble n 161) (cond (Nat.ble n 152) (cond (Nat.ble n 147) (cond (Nat.ble n 145) (cond (Nat.ble n 144) (false) (false)) (cond (Nat.ble n 146) (false) (true))) (cond (Nat.ble n 149) (cond (Nat.ble n 148) (false) (false)) (cond (Nat.ble n 150) (false) (cond (Nat.ble n 151) (false) (false))))) (cond (Nat.ble n 156) (cond (Nat.ble n 154) (cond (Nat.ble n 153) (false) (false)) (cond (Nat.ble n 155) (false) (false))) (cond (Nat.ble n 158) (cond (Nat.ble n 157) (false) (false)) (cond (Nat.ble n 159) (false) (cond (Nat.ble n 160) (false) (false)))))) (cond (Nat.ble n 170) (cond (Nat.ble n 165) (cond (Nat.ble n 163) (cond (Nat.ble n 162) (false) (false)) (cond (Nat.ble n 164) (false) (false))) (cond (Nat.ble n 167) (cond (Nat.ble n 166) (false) (false)) (cond (Nat.ble n 168) (false) (cond (Nat.ble n 169) (false) (false))))) (cond (Nat.ble n 174) (cond (Nat.ble n 172) (cond (Nat.ble n 171) (false) (false)) (cond (Nat.ble n 173) (false) (false))) (cond (Nat.ble n 176) (cond (Nat.ble n 175) (false) (false)) (cond (Nat.ble n 177) (false) (cond (Nat.ble n 178) (false) (false))))))) (cond (Nat.ble n 197) (cond (Nat.ble n 188) (cond (Nat.ble n 183) (cond (Nat.ble n 181) (cond (Nat.ble n 180) (false) (false)) (cond (Nat.ble n 182) (false) (false))) (cond (Nat.ble n 185) (cond (Nat.ble n 184) (false) (false)) (cond (Nat.ble n 186) (false) (cond (Nat.ble n 187) (false) (false))))) (cond (Nat.ble n 192) (cond (Nat.ble n 190) (cond (Nat.ble n 189) (false) (true)) (cond (Nat.ble n 191) (false) (false))) (cond (Nat.ble n 194) (cond (Nat.ble n 193) (false) (false)) (cond (Nat.ble n 195) (false) (cond (Nat.ble n 196) (false) (false)))))) (cond (Nat.ble n 206) (cond (Nat.ble n 201) (cond (Nat.ble n 199) (cond (Nat.ble n 198) (false) (false)) (cond (Nat.ble n 200) (false) (false))) (cond (Nat.ble n 203) (cond (Nat.ble n 202) (false) (false)) (cond (Nat.ble n 204) (false) (cond (Nat.ble n 205) (false) (false))))) (cond (Nat.ble n 210) (cond (Nat.ble n 208) (cond (Nat.ble n 207) (false) (false)) (cond (Nat.ble n 209) (false) (false))) (cond (Nat.ble n 212) (cond (Nat.ble n 211) (false) (false)) (cond (Nat.ble n 213) (false) (cond (Nat.ble n 214) (false) (false)))))))) (cond (Nat.ble n 251) (cond (Nat.ble n 233) (cond (Nat.ble n 224) (cond (Nat.ble n 219) (cond (Nat.ble n 217) (cond (Nat.ble n 216) (false) (false)) (cond (Nat.ble n 218) (false) (false))) (cond (Nat.ble n 221) (cond (Nat.ble n 220) (false) (false)) (cond (Nat.ble n 222) (false) (cond (Nat.ble n 223) (false) (false))))) (cond (Nat.ble n 228) (cond (Nat.ble n 226) (cond (Nat.ble n 225) (false) (false)) (cond (Nat.ble n 227) (false) (false))) (cond (Nat.ble n 230) (cond (Nat.ble n 229) (false) (false)) (cond (Nat.ble n 231) (false) (cond (Nat.ble n 232) (false) (false)))))) (cond (Nat.ble n 242) (cond (Nat.ble n 237) (cond (Nat.ble n 235) (cond (Nat.ble n 234) (false) (false)) (cond (Nat.ble n 236) (false) (false))) (cond (Nat.ble n 239) (cond (Nat.ble n 238) (false) (false)) (cond (Nat.ble n 240) (false) (cond (Nat.ble n 241) (false) (false))))) (cond (Nat.ble n 246) (cond (Nat.ble n 244) (cond (Nat.ble n 243) (false) (false)) (cond (Nat.ble n 245) (false) (false))) (cond (Nat.ble n 248) (cond (Nat.ble n 247) (false) (false)) (cond (Nat.ble n 249) (false) (cond (Nat.ble n 250) (false) (false))))))) (cond (Nat.ble n 269) (cond (Nat.ble n 260) (cond (Nat.ble n 255) (cond (Nat.ble n 253) (cond (Nat.ble n 252) (false) (false)) (cond (Nat.ble n 254) (false) (false))) (cond (Nat.ble n 257) (cond (Nat.ble n 256) (false) (false)) (cond (Nat.ble n 258) (false) (cond (Nat.ble n 259) (false) (false))))) (cond (Nat.ble n 264) (cond (Nat.ble n 262) (cond (Nat.ble n 261) (false) (false)) (cond (Nat.ble n 263) (false) (false))) (cond (Nat.ble n 266) (cond (Nat.ble n 265) (false) (false)) (cond (Nat.ble n 267) (true) (cond (Nat.ble n 268) (false) (false)))))) (cond (Nat.ble n 278) (cond (Nat.ble n 273) (cond (Nat.ble n 271) (cond (Nat.ble n 270) (false) (false)) (cond (Nat.ble n 272) (true) (true))) (cond (Nat.ble n 275) (cond (Nat.ble n 274) (true) (false)) (cond (Nat.ble n 276) (false) (cond (Nat.ble n 277) (false) (false))))) (cond (Nat.ble n 283) (cond (Nat.ble n 280) (cond (Nat.ble n 279) (false) (false)) (cond (Nat.ble n 281) (false) (cond (Nat.ble n 282) (false) (false)))) (cond (Nat.ble n 285) (cond (Nat.ble n 284) (false) (false)) (cond (Nat.ble n 286) (false) (cond (Nat.ble n 287) (false) (false)))))))))
def e_hh (n : Nat) : List (Nat × Nat × Nat × Nat) := cond (Nat.ble n 143) (cond (Nat.ble n 71) (cond (Nat.ble n 35) (cond (Nat.ble n 17) (cond (Nat.ble n 8) (cond (Nat.ble n 3) (cond (Nat.ble n 1) (cond (Nat.ble n 0) ([]) ([])) (cond (Nat.ble n 2) ([]) ([]))) (cond (Nat.ble n 5) (cond (Nat.ble n 4) ([]) ([])) (cond (Nat.ble n 6) ([]) (cond (Nat.ble n 7) ([]) ([]))))) (cond (Nat.ble n 12) (cond (Nat.ble n 10) (cond (Nat.ble n 9) ([]) ([])) (cond (Nat.ble n 11) ([]) ([]))) (cond (Nat.ble n 14) (cond (Nat.ble n 13) ([]) ([])) (cond (Nat.ble n 15) ([]) (cond (Nat.ble n 16) ([]) ([])))))) (cond (Nat.ble n 26) (cond (Nat.ble n 21) (cond (Nat.ble n 19) (cond (Nat.ble n 18) ([]) ([])) (cond (Nat.ble n 20) ([]) ([]))) (cond (Nat.ble n 23) (cond (Nat.ble n 22) ([]) ([])) (cond (Nat.ble n 24) ([]) (cond (Nat.ble n 25) ([]) ([]))))) (cond (Nat.ble n 30) (cond (Nat.ble n 28) (cond (Nat.ble n 27) ([]) ([])) (cond (Nat.ble n 29) ([]) ([]))) (cond (Nat.ble n 32) (cond (Nat.ble n 31) ([]) ([])) (cond (Nat.ble n 33) ([]) (cond (Nat.ble n 34) ([]) ([]))))))) (cond (Nat.ble n 53) (cond (Nat.ble n 44) (cond (Nat.ble n 39) (cond (Nat.ble n 37) (cond (Nat.ble n 36) ([]) ([])) (cond (Nat.ble n 38) ([]) ([]))) (cond (Nat.ble n 41) (cond (Nat.ble n 40) ([]) ([])) (cond (Nat.ble n 42) ([]) (cond (Nat.ble n 43) ([]) ([]))))) (cond (Nat.ble n 48) (cond (Nat.ble n 46) (cond (Nat.ble n 45) ([]) ([])) (cond (Nat.ble n 47) ([]) ([]))) (cond (Nat.ble n 50) (cond (Nat.ble n 49) ([]) ([])) (cond (Nat.ble n 51) ([]) (cond (Nat.ble n 52) ([]) ([])))))) (cond (Nat.ble n 62) (cond (Nat.ble n 57) (cond (Nat.ble n 55) (cond (Nat.ble n 54) ([]) ([])) (cond (Nat.ble n 56) ([]) ([]))) (cond (Nat.ble n 59) (cond (Nat.ble n 58) ([]) ([])) (cond (Nat.ble n 60) ([]) (cond (Nat.ble n 61) ([]) ([]))))) (cond (Nat.ble n 66) (cond (Nat.ble n 64) (cond (Nat.ble n 63) ([]) ([])) (cond (Nat.ble n 65) ([]) ([]))) (cond (Nat.ble n 68) (cond (Nat.ble n 67) ([]) ([])) (cond (Nat.ble n 69) ([]) (cond (Nat.ble n 70) ([]) ([])))))))) (cond (Nat.ble n 107) (cond (Nat.ble n 89) (cond (Nat.ble n 80) (cond (Nat.ble n 75) (cond (Nat.ble n 73) (cond (Nat.ble n 72) ([]) ([])) (cond (Nat.ble n 74) ([]) ([]))) (cond (Nat.ble n 77) (cond (Nat.ble n 76) ([]) ([])) (cond (Nat.ble n 78) ([]) (cond (Nat.ble n 79) ([]) ([]))))) (cond (Nat.ble n 84) (cond (Nat.ble n 82) (cond (Nat.ble n 81) ([]) ([])) (cond (Nat.ble n 83) ([]) ([]))) (cond (Nat.ble n 86) (cond (Nat.ble n 85) ([]) ([])) (cond (Nat.ble n 87) ([]) (cond (Nat.ble n 88) ([]) ([])))))) (cond (Nat.ble n 98) (cond (Nat.ble n 93) (cond (Nat.ble n 91) (cond (Nat.ble n 90) ([]) ([])) (cond (Nat.ble n 92) ([]) ([]))) (cond (Nat.ble n 95) (cond (Nat.ble n 94) ([]) ([])) (cond (Nat.ble n 96) ([]) (cond (Nat.ble n 97) ([]) ([]))))) (cond (Nat.ble n 102) (cond (Nat.ble n 100) (cond (Nat.ble n 99) ([]) ([])) (cond (Nat.ble n 101) ([]) ([]))) (cond (Nat.ble n 104) (cond (Nat.ble n 103) ([]) ([])) (cond (Nat.ble n 105) ([]) (cond (Nat.ble n 106) ([]) ([]))))))) (cond (Nat.ble n 125) (cond (Nat.ble n 116) (cond (Nat.ble n 111) (cond (Nat.ble n 109) (cond (Nat.ble n 108) ([]) ([])) (cond (Nat.ble n 110) ([]) ([]))) (cond (Nat.ble n 113) (cond (Nat.ble n 112) ([]) ([])) (cond (Nat.ble n 114) ([]) (cond (Nat.ble n 115) ([]) ([]))))) (cond (Nat.ble n 120) (cond (Nat.ble n 118) (cond (Nat.ble n 117) ([]) ([])) (cond (Nat.ble n 119) ([]) ([]))) (cond (Nat.ble n 122) (cond (Nat.ble n 121) ([]) ([])) (cond (Nat.ble n 123) ([]) (cond (Nat.ble n 124) ([]) ([])))))) (cond (Nat.ble n 134) (cond (Nat.ble n 129) (cond (Nat.ble n 127) (cond (Nat.ble n 126) ([]) ([])) (cond (Nat.ble n 128) ([]) ([]))) (cond (Nat.ble n 131) (cond (Nat.ble n 130) ([]) ([])) (cond (Nat.ble n 132) ([]) (cond (Nat.ble n 133) ([]) ([]))))) (cond (Nat.ble n 138) (cond (Nat.ble n 136) (cond (Nat.ble n 135) ([]) ([])) (cond (Nat.ble n 137) ([]) ([]))) (cond (Nat.ble n 140) (cond (Nat.ble n 139) ([]) ([])) (cond (Nat.ble n 141) ([]) (cond (Nat.ble n 142) ([]) ([]))))))))) (cond (Nat.ble n 215) (cond (Nat.ble n 179) (cond (Nat.ble n 161) (cond (Nat.ble n 152) (cond (Nat.ble n 147) (cond (Nat.ble n 145) (cond (Nat.ble n 144) ([]) ([])) (cond (Nat.ble n 146) ([]) ([]))) (cond (Nat.ble n 149) (cond (Nat.ble n 148) ([]) ([])) (cond (Nat.ble n 150) ([]) (cond (Nat.ble n 151) ([]) ([]))))) (cond (Nat.ble n 156) (cond (Nat.ble n 154) (cond (Nat.ble n 153) ([]) ([(0, 10, 13, 19), (0, 10, 17, 13)])) (cond (Nat.ble n 155) ([(0, 16, 19, 13)]) ([(0, 17, 20, 19)]))) (cond (Nat.ble n 158) (cond (Nat.ble n 157) ([(0, 9, 12, 19), (0, 9, 15, 13)]) ([(0, 10, 13, 19), (0, 10, 17, 13)])) (cond (Nat.ble n 159) ([(0, 9, 12, 19)]) (cond (Nat.ble n 160) ([(0, 9, 12, 19)]) ([(0, 9, 12, 19)])))))) (cond (Nat.ble n 170) (cond (Nat.ble n 165) (cond (Nat.ble n 163) (cond (Nat.ble n 162) ([(0, 17, 20, 19)]) ([(0, 9, 12, 31), (0, 9, 15, 13), (0, 9, 18, 92)])) (cond (Nat.ble n 164) ([(0, 9, 12, 19)]) ([(0, 17, 20, 19)]))) (cond (Nat.ble n 167) (cond (Nat.ble n 166) ([(0, 8, 11, 13)]) ([(0, 19, 22, 19), (0, 19, 26, 13)])) (cond (Nat.ble n 168) ([(0, 10, 13, 19), (0, 10, 17, 13)]) (cond (Nat.ble n 169) ([(0, 12, 15, 19), (0, 12, 19, 31)]) ([(0, 12, 15, 19), (0, 12, 19, 13)]))))) (cond (Nat.ble n 174) (cond (Nat.ble n 172) (cond (Nat.ble n 171) ([(0, 12, 15, 19), (0, 12, 19, 31)]) ([(0, 9, 12, 19)])) (cond (Nat.ble n 173) ([(0, 9, 12, 19), (0, 9, 15, 13)]) ([(0, 10, 13, 19)]))) (cond (Nat.ble n 176) (cond (Nat.ble n 175) ([(0, 12, 15, 19), (0, 12, 19, 31)]) ([(0, 9, 12, 19)])) (cond (Nat.ble n 177) ([(0, 9, 12, 19), (0, 9, 15, 92)]) (cond (Nat.ble n 178) ([(0, 10, 13, 19), (0, 10, 17, 13), (0, 10, 21, 92)]) ([(0, 9, 12, 19)]))))))) (cond (Nat.ble n 197) (cond (Nat.ble n 188) (cond (Nat.ble n 183) (cond (Nat.ble n 181) (cond (Nat.ble n 180) ([(0, 9, 12, 19)]) ([(0, 9, 12, 19), (0, 9, 16, 13)])) (cond (Nat.ble n 182) ([(0, 10, 13, 31), (0, 10, 17, 19), (0, 10, 21, 13)]) ([(0, 10, 13, 19)]))) (cond (Nat.ble n 185) (cond (Nat.ble n 184) ([(0, 12, 15, 19), (0, 12, 19, 31)]) ([(0, 12, 15, 19), (0, 12, 19, 31)])) (cond (Nat.ble n 186) ([(0, 9, 12, 31)]) (cond (Nat.ble n 187) ([(0, 9, 12, 19)]) ([(0, 12, 15, 19), (0, 12, 19, 31)]))))) (cond (Nat.ble n 192) (cond (Nat.ble n 190) (cond (Nat.ble n 189) ([(0, 10, 13, 19)]) ([])) (cond (Nat.ble n 191) ([]) ([]))) (cond (Nat.ble n 194) (cond (Nat.ble n 193) ([]) ([])) (cond (Nat.ble n 195) ([]) (cond (Nat.ble n 196) ([]) ([])))))) (cond (Nat.ble n 206) (cond (Nat.ble n 201) (cond (Nat.ble n 199) (cond (Nat.ble n 198) ([]) ([])) (cond (Nat.ble n 200) ([]) ([]))) (cond (Nat.ble n 203) (cond (Nat.ble n 202) ([]) ([])) (cond (Nat.ble n 204) ([]) (cond (Nat.ble n 205) ([]) ([]))))) (cond (Nat.ble n 210) (cond (Nat.ble n 208) (cond (Nat.ble n 207) ([]) ([])) (cond (Nat.ble n 209) ([]) ([]))) (cond (Nat.ble n 212) (cond (Nat.ble n 211) ([]) ([])) (cond (Nat.ble n 213) ([]) (cond (Nat.ble n 214) ([]) ([])))))))) (cond (Nat.ble n 251) (cond (Nat.ble n 233) (cond (Nat.ble n 224) (cond (Nat.ble n 219) (cond (Nat.ble n 217) (cond (Nat.ble n 216) ([]) ([])) (cond (Nat.ble n 218) ([]) ([]))) (cond (Nat.ble n 221) (cond (Nat.ble n 220) ([]) ([])) (cond (Nat.ble n 222) ([]) (cond (Nat.ble n 223) ([]) ([]))))) (cond (Nat.ble n 228) (cond (Nat.ble n 226) (cond (Nat.ble n 225) ([]) ([])) (cond (Nat.ble n 227) ([]) ([]))) (cond (Nat.ble n 230) (cond (Nat.ble n 229) ([]) ([])) (cond (Nat.ble n 231) ([]) (cond (Nat.ble n 232) ([]) ([])))))) (cond (Nat.ble n 242) (cond (Nat.ble n 237) (cond (Nat.ble n 235) (cond (Nat.ble n 234) ([]) ([])) (cond (Nat.ble n 236) ([]) ([]))) (cond (Nat.ble n 239) (cond (Nat.ble n 238) ([]) ([])) (cond (Nat.ble n 240) ([]) (cond (Nat.ble n 241) ([]) ([]))))) (cond (Nat.ble n 246) (cond (Nat.ble n 244) (cond (Nat.ble n 243) ([]) ([])) (cond (Nat.ble n 245) ([]) ([]))) (cond (Nat.ble n 248) (cond (Nat.ble n 247) ([]) ([])) (cond (Nat.ble n 249) ([]) (cond (Nat.ble n 250) ([]) ([]))))))) (cond (Nat.ble n 269) (cond (Nat.ble n 260) (cond (Nat.ble n 255) (cond (Nat.ble n 253) (cond (Nat.ble n 252) ([]) ([])) (cond (Nat.ble n 254) ([]) ([]))) (cond (Nat.ble n 257) (cond (Nat.ble n 256) ([]) ([])) (cond (Nat.ble n 258) ([]) (cond (Nat.ble n 259) ([]) ([]))))) (cond (Nat.ble n 264) (cond (Nat.ble n 262) (cond (Nat.ble n 261) ([]) ([])) (cond (Nat.ble n 263) ([]) ([]))) (cond (Nat.ble n 266) (cond (Nat.ble n 265) ([]) ([])) (cond (Nat.ble n 267) ([]) (cond (Nat.ble n 268) ([]) ([])))))) (cond (Nat.ble n 278) (cond (Nat.ble n 273) (cond (Nat.ble n 271) (cond (Nat.ble n 270) ([]) ([])) (cond (Nat.ble n 272) ([]) ([]))) (cond (Nat.ble n 275) (cond (Nat.ble n 274) ([]) ([])) (cond (Nat.ble n 276) ([]) (cond (Nat.ble n 277) ([]) ([]))))) (cond (Nat.ble n 283) (cond (Nat.ble n 280) (cond (Nat.ble n 279) ([]) ([])) (cond (Nat.ble n 281) ([]) (cond (Nat.ble n 282) ([]) ([])))) (cond (Nat.ble n 285) (cond (Nat.ble n 284) ([]) ([])) (cond (Nat.ble n 286) ([]) (cond (Nat.ble n 287) ([]) ([])))))))))
def e_nm : Nat := 289
def e_cn (n : Nat) : String := cond (Nat.ble n 7) (cond (Nat.ble n 3) (cond (Nat.ble n 1) (cond (Nat.ble n 0) ("Handshakewarden") ("HandshakewardenModel")) (cond (Nat.ble n 2) ("Handshakewarden$Cast") ("Handshakewarden$Comparer"))) (cond (Nat.ble n 5) (cond (Nat.ble n 4) ("Handshakewarden$Cutter") ("Handshakewarden$Explorer")) (cond (Nat.ble n 6) ("Handshakewarden$Findings") ("Handshakewarden$Hall")))) (cond (Nat.ble n 11) (cond (Nat.ble n 9) (cond (Nat.ble n 8) ("Handshakewarden$Part") ("Handshakewarden$Reader")) (cond (Nat.ble n 10) ("Handshakewarden$Rows") ("Handshakewarden$Weaver"))) (cond (Nat.ble n 13) (cond (Nat.ble n 12) ("Handshakewarden$Whole") ("HandshakewardenModel$Cutter")) (cond (Nat.ble n 14) ("HandshakewardenModel$Image") (cond (Nat.ble n 15) ("HandshakewardenModel$Part") ("HandshakewardenModel$Whole")))))
def e_fts (n : Nat) : List (String × String × String × Bool) := cond (Nat.ble n 7) (cond (Nat.ble n 3) (cond (Nat.ble n 1) (cond (Nat.ble n 0) ([("Handshakewarden", "tape", "[I", true), ("Handshakewarden", "tapeLength", "I", false), ("Handshakewarden", "error", "I", false), ("Handshakewarden", "hall", "LHandshakewarden$Hall;", true), ("Handshakewarden", "images", "[LHandshakewarden$Hall;", true), ("Handshakewarden", "reader", "LHandshakewarden$Reader;", true), ("Handshakewarden", "cutter", "LHandshakewarden$Cutter;", true), ("Handshakewarden", "comparer", "LHandshakewarden$Comparer;", true), ("Handshakewarden", "explorer", "LHandshakewarden$Explorer;", true), ("Handshakewarden", "weaver", "LHandshakewarden$Weaver;", true)]) ([("HandshakewardenModel", "wholes", "[LHandshakewardenModel$Whole;", false), ("HandshakewardenModel", "slots", "[LHandshakewardenModel$Part;", false), ("HandshakewardenModel", "bound", "I", false), ("HandshakewardenModel", "inRun", "I", false), ("HandshakewardenModel", "parts", "[LHandshakewardenModel$Part;", false), ("HandshakewardenModel", "states", "[I", false), ("HandshakewardenModel", "queues", "[I", false), ("HandshakewardenModel", "sent", "I", false), ("HandshakewardenModel", "watched", "[I", false), ("HandshakewardenModel", "right", "I", false), ("HandshakewardenModel", "fault", "I", false), ("HandshakewardenModel", "thrown", "I", false), ("HandshakewardenModel", "tape", "[I", true), ("HandshakewardenModel", "bytes", "I", false), ("HandshakewardenModel", "errorPosition", "I", false), ("HandshakewardenModel", "at", "I", false), ("HandshakewardenModel", "begin", "I", false), ("HandshakewardenModel", "token", "I", false), ("HandshakewardenModel", "value", "I", false), ("HandshakewardenModel", "errorAt", "I", false), ("HandshakewardenModel", "open", "I", false), ("HandshakewardenModel", "met", "LHandshakewardenModel$Whole;", false), ("HandshakewardenModel", "metMany", "I", false), ("HandshakewardenModel", "loops", "[I", true), ("HandshakewardenModel", "rolesMet", "I", false), ("HandshakewardenModel", "row", "[I", false), ("HandshakewardenModel", "stamp", "I", false), ("HandshakewardenModel", "seen", "[J", false), ("HandshakewardenModel", "table", "[I", false), ("HandshakewardenModel", "far", "[I", false), ("HandshakewardenModel", "seenMany", "I", false), ("HandshakewardenModel", "seenOf", "I", false), ("HandshakewardenModel", "seenBound", "I", false), ("HandshakewardenModel", "isTooMany", "Z", false), ("HandshakewardenModel", "stuckAt", "I", false), ("HandshakewardenModel", "unknownAt", "I", false), ("HandshakewardenModel", "leftAt", "I", false), ("HandshakewardenModel", "isHindered", "Z", false), ("HandshakewardenModel", "here", "[I", true), ("HandshakewardenModel", "lines", "[I", true), ("HandshakewardenModel", "images", "[LHandshakewardenModel$Image;", true)])) (cond (Nat.ble n 2) ([("Handshakewarden$Cast", "standing", "I", true), ("Handshakewarden$Cast", "parts", "[LHandshakewarden$Part;", true), ("Handshakewarden$Cast", "found", "[LHandshakewarden$Findings;", true)]) ([("Handshakewarden$Comparer", "rows", "LHandshakewarden$Rows;", true), ("Handshakewarden$Comparer", "probe", "[I", true), ("Handshakewarden$Comparer", "one", "LHandshakewarden$Part;", false), ("Handshakewarden$Comparer", "two", "LHandshakewarden$Part;", false), ("Handshakewarden$Comparer", "length", "I", false), ("Handshakewarden$Comparer", "from", "I", false), ("Handshakewarden$Comparer", "kept", "J", false), ("Handshakewarden$Comparer", "low", "LHandshakewarden$Part;", false), ("Handshakewarden$Comparer", "high", "LHandshakewarden$Part;", false), ("Handshakewarden$Comparer", "lowCells", "[I", false), ("Handshakewarden$Comparer", "highCells", "[I", false), ("Handshakewarden$Comparer", "seen", "[J", false), ("Handshakewarden$Comparer", "seenWords", "I", false), ("Handshakewarden$Comparer", "size", "I", false), ("Handshakewarden$Comparer", "states", "[I", false), ("Handshakewarden$Comparer", "points", "[J", false), ("Handshakewarden$Comparer", "labels", "[J", false), ("Handshakewarden$Comparer", "nextSize", "I", false), ("Handshakewarden$Comparer", "nextStates", "[I", false), ("Handshakewarden$Comparer", "nextPoints", "[J", false), ("Handshakewarden$Comparer", "nextLabels", "[J", false)]))) (cond (Nat.ble n 5) (cond (Nat.ble n 4) ([("Handshakewarden$Cutter", "sets", "LHandshakewarden$Rows;", true), ("Handshakewarden$Cutter", "probe", "[I", true), ("Handshakewarden$Cutter", "reach", "[J", true), ("Handshakewarden$Cutter", "shown", "[J", true), ("Handshakewarden$Cutter", "nobody", "[LHandshakewarden$Part;", true), ("Handshakewarden$Cutter", "made", "[LHandshakewarden$Part;", true), ("Handshakewarden$Cutter", "cells", "[I", false), ("Handshakewarden$Cutter", "placeMarks", "[I", true), ("Handshakewarden$Cutter", "placeSteps", "[J", true), ("Handshakewarden$Cutter", "kinds", "I", false), ("Handshakewarden$Cutter", "width", "I", false), ("Handshakewarden$Cutter", "whole", "LHandshakewarden$Whole;", false), ("Handshakewarden$Cutter", "role", "I", false), ("Handshakewarden$Cutter", "count", "I", false), ("Handshakewarden$Cutter", "own", "J", false), ("Handshakewarden$Cutter", "ends", "J", false), ("Handshakewarden$Cutter", "end", "I", false), ("Handshakewarden$Cutter", "clashFirst", "I", false), ("Handshakewarden$Cutter", "clashSecond", "I", false)]) ([("Handshakewarden$Explorer", "seen", "LHandshakewarden$Rows;", true), ("Handshakewarden$Explorer", "now", "[I", true), ("Handshakewarden$Explorer", "then", "[I", true), ("Handshakewarden$Explorer", "columns", "[I", true), ("Handshakewarden$Explorer", "cast", "LHandshakewarden$Cast;", false), ("Handshakewarden$Explorer", "bound", "I", false), ("Handshakewarden$Explorer", "stepColumn", "I", false), ("Handshakewarden$Explorer", "found", "LHandshakewarden$Findings;", false), ("Handshakewarden$Explorer", "moved", "Z", false), ("Handshakewarden$Explorer", "full", "Z", false)])) (cond (Nat.ble n 6) ([("Handshakewarden$Findings", "count", "I", false), ("Handshakewarden$Findings", "stuck", "I", false), ("Handshakewarden$Findings", "unknown", "I", false), ("Handshakewarden$Findings", "left", "I", false), ("Handshakewarden$Findings", "hindered", "Z", false), ("Handshakewarden$Findings", "ring", "[I", true), ("Handshakewarden$Findings", "waiting", "I", false)]) ([("Handshakewarden$Hall", "wholes", "[LHandshakewarden$Whole;", true), ("Handshakewarden$Hall", "slots", "[LHandshakewarden$Part;", true), ("Handshakewarden$Hall", "cast", "LHandshakewarden$Cast;", false), ("Handshakewarden$Hall", "bound", "I", false), ("Handshakewarden$Hall", "states", "[I", true), ("Handshakewarden$Hall", "queues", "[I", true), ("Handshakewarden$Hall", "sent", "I", false), ("Handshakewarden$Hall", "watched", "[I", true), ("Handshakewarden$Hall", "right", "I", false), ("Handshakewarden$Hall", "fault", "I", false)])))) (cond (Nat.ble n 11) (cond (Nat.ble n 9) (cond (Nat.ble n 8) ([("Handshakewarden$Part", "role", "I", true), ("Handshakewarden$Part", "count", "I", true), ("Handshakewarden$Part", "kinds", "I", true), ("Handshakewarden$Part", "width", "I", true), ("Handshakewarden$Part", "others", "I", true), ("Handshakewarden$Part", "cells", "[I", true), ("Handshakewarden$Part", "first", "J", true), ("Handshakewarden$Part", "placeMarks", "[I", true), ("Handshakewarden$Part", "placeSteps", "[J", true), ("Handshakewarden$Part", "isMirror", "Z", true), ("Handshakewarden$Part", "mirroredRole", "I", true), ("Handshakewarden$Part", "mirrored", "LHandshakewarden$Part;", false), ("Handshakewarden$Part", "held", "Z", false)]) ([("Handshakewarden$Reader", "tokens", "[I", true), ("Handshakewarden$Reader", "values", "[I", true), ("Handshakewarden$Reader", "starts", "[I", true), ("Handshakewarden$Reader", "now", "I", false), ("Handshakewarden$Reader", "token", "I", false), ("Handshakewarden$Reader", "value", "I", false), ("Handshakewarden$Reader", "error", "I", false), ("Handshakewarden$Reader", "cells", "[I", true), ("Handshakewarden$Reader", "drafts", "I", false), ("Handshakewarden$Reader", "loops", "[I", true), ("Handshakewarden$Reader", "seen", "I", false), ("Handshakewarden$Reader", "barred", "I", false), ("Handshakewarden$Reader", "order", "[I", true), ("Handshakewarden$Reader", "numbers", "[I", true)])) (cond (Nat.ble n 10) ([("Handshakewarden$Rows", "key", "I", false), ("Handshakewarden$Rows", "width", "I", false), ("Handshakewarden$Rows", "limit", "I", false), ("Handshakewarden$Rows", "count", "I", false), ("Handshakewarden$Rows", "cells", "[I", false), ("Handshakewarden$Rows", "heads", "[I", false), ("Handshakewarden$Rows", "spread", "I", false)]) ([("Handshakewarden$Weaver", "seen", "LHandshakewarden$Rows;", true), ("Handshakewarden$Weaver", "now", "[I", true), ("Handshakewarden$Weaver", "then", "[I", true), ("Handshakewarden$Weaver", "ways", "[J", false), ("Handshakewarden$Weaver", "nextWays", "[J", false), ("Handshakewarden$Weaver", "cells", "[I", true)]))) (cond (Nat.ble n 13) (cond (Nat.ble n 12) ([("Handshakewarden$Whole", "count", "I", true), ("Handshakewarden$Whole", "cells", "[I", true), ("Handshakewarden$Whole", "standing", "I", true), ("Handshakewarden$Whole", "clash", "[I", true), ("Handshakewarden$Whole", "parts", "[LHandshakewarden$Part;", true), ("Handshakewarden$Whole", "tried", "Z", false), ("Handshakewarden$Whole", "cast", "LHandshakewarden$Cast;", false)]) ([("HandshakewardenModel$Cutter", "its", "LHandshakewardenModel$Whole;", true), ("HandshakewardenModel$Cutter", "role", "I", true), ("HandshakewardenModel$Cutter", "live", "J", true), ("HandshakewardenModel$Cutter", "with", "J", true), ("HandshakewardenModel$Cutter", "endPlace", "I", false), ("HandshakewardenModel$Cutter", "letters", "[J", false), ("HandshakewardenModel$Cutter", "ends", "[I", false), ("HandshakewardenModel$Cutter", "many", "I", false), ("HandshakewardenModel$Cutter", "rows", "[I", false), ("HandshakewardenModel$Cutter", "wrongState", "I", false), ("HandshakewardenModel$Cutter", "first", "I", false), ("HandshakewardenModel$Cutter", "second", "I", false)])) (cond (Nat.ble n 14) ([("HandshakewardenModel$Image", "wholes", "[LHandshakewardenModel$Whole;", true), ("HandshakewardenModel$Image", "slots", "[LHandshakewardenModel$Part;", true), ("HandshakewardenModel$Image", "parts", "[LHandshakewardenModel$Part;", true), ("HandshakewardenModel$Image", "states", "[I", true), ("HandshakewardenModel$Image", "queues", "[I", true), ("HandshakewardenModel$Image", "watched", "[I", true), ("HandshakewardenModel$Image", "bound", "I", false), ("HandshakewardenModel$Image", "inRun", "I", false), ("HandshakewardenModel$Image", "sent", "I", false), ("HandshakewardenModel$Image", "right", "I", false), ("HandshakewardenModel$Image", "fault", "I", false)]) (cond (Nat.ble n 15) ([("HandshakewardenModel$Part", "role", "I", true), ("HandshakewardenModel$Part", "many", "I", true), ("HandshakewardenModel$Part", "sort", "[I", true), ("HandshakewardenModel$Part", "other", "[I", true), ("HandshakewardenModel$Part", "kinds", "[I", true), ("HandshakewardenModel$Part", "next", "[I", true)]) ([("HandshakewardenModel$Whole", "many", "I", true), ("HandshakewardenModel$Whole", "sort", "[I", true), ("HandshakewardenModel$Whole", "from", "[I", true), ("HandshakewardenModel$Whole", "to", "[I", true), ("HandshakewardenModel$Whole", "kinds", "[I", true), ("HandshakewardenModel$Whole", "next", "[I", true)])))))
def e_nc : Nat := 17
def e_ex (n : Nat) : String := cond (Nat.ble n 1) (cond (Nat.ble n 0) ("java/lang/IllegalArgumentException") ("java/lang/IllegalStateException")) (cond (Nat.ble n 2) ("java/lang/IndexOutOfBoundsException") ("java/util/NoSuchElementException"))
def e_srs : List (String × Nat × String) := [("Handshakewarden", 386, "a number is out of range"), ("Handshakewarden", 72, "the tape is full"), ("Handshakewarden", 92, "the text has an error"), ("Handshakewarden", 408, "loop x a>b{0:b>c{1:x},2:b>c{3:end}}"), ("Handshakewarden", 410, "a>b{0:a>c{0:b>c{1:end}},1:a>c{1:c>b{2:end}}}"), ("Handshakewarden", 412, "a>b{0:b>c{1:end},1:c>b{2:end}}"), ("Handshakewarden", 414, "(a>b{0:end}|loop y c>d{1:y,2:d>c{3:end}})"), ("Handshakewarden", 416, "loop x a>b{0:b>a{1:x,2:end},3:b>a{4:end}}"), ("Handshakewarden", 392, "there is no such place"), ("Handshakewarden", 169, "the whole cannot be cut for this role"), ("Handshakewarden", 184, "the part has not just one other role"), ("Handshakewarden", 388, "the bound is out of range"), ("Handshakewarden", 395, "the whole cannot be cut"), ("Handshakewarden", 397, "no run was begun"), ("Handshakewarden", 230, "the role cannot get another part now"), ("Handshakewarden", 399, "the role does not stand in the run"), ("Handshakewarden", 259, "the role does not send this kind now"), ("Handshakewarden", 270, "the queue is full"), ("Handshakewarden", 282, "the role does not hear now"), ("Handshakewarden", 286, "the queue is empty"), ("Handshakewarden", 292, "the letter is not known"), ("Handshakewarden", 325, "there is no such place in a ring"), ("Handshakewarden", 343, "nobody sends to itself"), ("Handshakewarden", 370, "no image was kept there"), ("HandshakewardenModel", 124, "loop x a>b{0:b>c{1:x},2:b>c{3:end}}"), ("HandshakewardenModel", 126, "a>b{0:a>c{0:b>c{1:end}},1:a>c{1:c>b{2:end}}}"), ("HandshakewardenModel", 128, "a>b{0:b>c{1:end},1:c>b{2:end}}"), ("HandshakewardenModel", 130, "(a>b{0:end}|loop y c>d{1:y,2:d>c{3:end}})"), ("HandshakewardenModel", 132, "loop x a>b{0:b>a{1:x,2:end},3:b>a{4:end}}"), ("HandshakewardenModel", 150, "end"), ("HandshakewardenModel", 156, "loop")]
def e_host (n : Nat) : String := cond (Nat.ble n 143) (cond (Nat.ble n 71) (cond (Nat.ble n 35) (cond (Nat.ble n 17) (cond (Nat.ble n 8) (cond (Nat.ble n 3) (cond (Nat.ble n 1) (cond (Nat.ble n 0) ("HandshakewardenLaw") ("Handshakewarden")) (cond (Nat.ble n 2) ("Handshakewarden") ("Handshakewarden"))) (cond (Nat.ble n 5) (cond (Nat.ble n 4) ("Handshakewarden") ("Handshakewarden")) (cond (Nat.ble n 6) ("Handshakewarden") (cond (Nat.ble n 7) ("Handshakewarden") ("Handshakewarden"))))) (cond (Nat.ble n 12) (cond (Nat.ble n 10) (cond (Nat.ble n 9) ("Handshakewarden") ("Handshakewarden")) (cond (Nat.ble n 11) ("Handshakewarden") ("Handshakewarden"))) (cond (Nat.ble n 14) (cond (Nat.ble n 13) ("Handshakewarden") ("Handshakewarden")) (cond (Nat.ble n 15) ("Handshakewarden") (cond (Nat.ble n 16) ("Handshakewarden") ("Handshakewarden")))))) (cond (Nat.ble n 26) (cond (Nat.ble n 21) (cond (Nat.ble n 19) (cond (Nat.ble n 18) ("Handshakewarden") ("Handshakewarden")) (cond (Nat.ble n 20) ("Handshakewarden") ("Handshakewarden"))) (cond (Nat.ble n 23) (cond (Nat.ble n 22) ("Handshakewarden") ("Handshakewarden")) (cond (Nat.ble n 24) ("Handshakewarden") (cond (Nat.ble n 25) ("Handshakewarden") ("Handshakewarden"))))) (cond (Nat.ble n 30) (cond (Nat.ble n 28) (cond (Nat.ble n 27) ("Handshakewarden") ("Handshakewarden")) (cond (Nat.ble n 29) ("Handshakewarden") ("Handshakewarden"))) (cond (Nat.ble n 32) (cond (Nat.ble n 31) ("Handshakewarden") ("Handshakewarden")) (cond (Nat.ble n 33) ("Handshakewarden") (cond (Nat.ble n 34) ("Handshakewarden") ("Handshakewarden"))))))) (cond (Nat.ble n 53) (cond (Nat.ble n 44) (cond (Nat.ble n 39) (cond (Nat.ble n 37) (cond (Nat.ble n 36) ("Handshakewarden") ("Handshakewarden")) (cond (Nat.ble n 38) ("Handshakewarden") ("Handshakewarden"))) (cond (Nat.ble n 41) (cond (Nat.ble n 40) ("Handshakewarden") ("Handshakewarden")) (cond (Nat.ble n 42) ("Handshakewarden") (cond (Nat.ble n 43) ("Handshakewarden") ("Handshakewarden"))))) (cond (Nat.ble n 48) (cond (Nat.ble n 46) (cond (Nat.ble n 45) ("Handshakewarden") ("Handshakewarden")) (cond (Nat.ble n 47) ("Handshakewarden") ("Handshakewarden"))) (cond (Nat.ble n 50) (cond (Nat.ble n 49) ("Handshakewarden") ("Handshakewarden")) (cond (Nat.ble n 51) ("Handshakewarden") (cond (Nat.ble n 52) ("Handshakewarden") ("Handshakewarden")))))) (cond (Nat.ble n 62) (cond (Nat.ble n 57) (cond (Nat.ble n 55) (cond (Nat.ble n 54) ("Handshakewarden") ("Handshakewarden")) (cond (Nat.ble n 56) ("Handshakewarden") ("Handshakewarden"))) (cond (Nat.ble n 59) (cond (Nat.ble n 58) ("Handshakewarden") ("Handshakewarden")) (cond (Nat.ble n 60) ("Handshakewarden") (cond (Nat.ble n 61) ("Handshakewarden") ("Handshakewarden"))))) (cond (Nat.ble n 66) (cond (Nat.ble n 64) (cond (Nat.ble n 63) ("Handshakewarden") ("Handshakewarden")) (cond (Nat.ble n 65) ("Handshakewarden") ("Handshakewarden"))) (cond (Nat.ble n 68) (cond (Nat.ble n 67) ("Handshakewarden") ("Handshakewarden")) (cond (Nat.ble n 69) ("Handshakewarden") (cond (Nat.ble n 70) ("Handshakewarden") ("Handshakewarden")))))))) (cond (Nat.ble n 107) (cond (Nat.ble n 89) (cond (Nat.ble n 80) (cond (Nat.ble n 75) (cond (Nat.ble n 73) (cond (Nat.ble n 72) ("Handshakewarden") ("Handshakewarden")) (cond (Nat.ble n 74) ("Handshakewarden") ("Handshakewarden"))) (cond (Nat.ble n 77) (cond (Nat.ble n 76) ("Handshakewarden") ("Handshakewarden")) (cond (Nat.ble n 78) ("Handshakewarden") (cond (Nat.ble n 79) ("Handshakewarden") ("Handshakewarden"))))) (cond (Nat.ble n 84) (cond (Nat.ble n 82) (cond (Nat.ble n 81) ("Handshakewarden") ("Handshakewarden")) (cond (Nat.ble n 83) ("Handshakewarden") ("Handshakewarden"))) (cond (Nat.ble n 86) (cond (Nat.ble n 85) ("Handshakewarden") ("Handshakewarden")) (cond (Nat.ble n 87) ("Handshakewarden") (cond (Nat.ble n 88) ("Handshakewarden") ("Handshakewarden")))))) (cond (Nat.ble n 98) (cond (Nat.ble n 93) (cond (Nat.ble n 91) (cond (Nat.ble n 90) ("Handshakewarden") ("Handshakewarden")) (cond (Nat.ble n 92) ("Handshakewarden") ("Handshakewarden"))) (cond (Nat.ble n 95) (cond (Nat.ble n 94) ("Handshakewarden") ("Handshakewarden")) (cond (Nat.ble n 96) ("Handshakewarden") (cond (Nat.ble n 97) ("Handshakewarden") ("Handshakewarden"))))) (cond (Nat.ble n 102) (cond (Nat.ble n 100) (cond (Nat.ble n 99) ("Handshakewarden") ("Handshakewarden")) (cond (Nat.ble n 101) ("Handshakewarden") ("Handshakewarden"))) (cond (Nat.ble n 104) (cond (Nat.ble n 103) ("Handshakewarden") ("Handshakewarden")) (cond (Nat.ble n 105) ("Handshakewarden") (cond (Nat.ble n 106) ("Handshakewarden") ("Handshakewarden"))))))) (cond (Nat.ble n 125) (cond (Nat.ble n 116) (cond (Nat.ble n 111) (cond (Nat.ble n 109) (cond (Nat.ble n 108) ("Handshakewarden") ("Handshakewarden")) (cond (Nat.ble n 110) ("Handshakewarden") ("Handshakewarden"))) (cond (Nat.ble n 113) (cond (Nat.ble n 112) ("Handshakewarden") ("Handshakewarden")) (cond (Nat.ble n 114) ("Handshakewarden") (cond (Nat.ble n 115) ("Handshakewarden") ("Handshakewarden"))))) (cond (Nat.ble n 120) (cond (Nat.ble n 118) (cond (Nat.ble n 117) ("Handshakewarden") ("Handshakewarden")) (cond (Nat.ble n 119) ("Handshakewarden") ("Handshakewarden"))) (cond (Nat.ble n 122) (cond (Nat.ble n 121) ("Handshakewarden") ("Handshakewarden")) (cond (Nat.ble n 123) ("Handshakewarden") (cond (Nat.ble n 124) ("Handshakewarden") ("Handshakewarden")))))) (cond (Nat.ble n 134) (cond (Nat.ble n 129) (cond (Nat.ble n 127) (cond (Nat.ble n 126) ("Handshakewarden") ("Handshakewarden")) (cond (Nat.ble n 128) ("Handshakewarden") ("Handshakewarden"))) (cond (Nat.ble n 131) (cond (Nat.ble n 130) ("Handshakewarden") ("Handshakewarden")) (cond (Nat.ble n 132) ("Handshakewarden") (cond (Nat.ble n 133) ("Handshakewarden") ("Handshakewarden"))))) (cond (Nat.ble n 138) (cond (Nat.ble n 136) (cond (Nat.ble n 135) ("Handshakewarden") ("Handshakewarden")) (cond (Nat.ble n 137) ("Handshakewarden") ("Handshakewarden"))) (cond (Nat.ble n 140) (cond (Nat.ble n 139) ("Handshakewarden") ("Handshakewarden")) (cond (Nat.ble n 141) ("Handshakewarden") (cond (Nat.ble n 142) ("Handshakewarden") ("Handshakewarden"))))))))) (cond (Nat.ble n 215) (cond (Nat.ble n 179) (cond (Nat.ble n 161) (cond (Nat.ble n 152) (cond (Nat.ble n 147) (cond (Nat.ble n 145) (cond (Nat.ble n 144) ("Handshakewarden") ("Handshakewarden")) (cond (Nat.ble n 146) ("Handshakewarden") ("Handshakewarden"))) (cond (Nat.ble n 149) (cond (Nat.ble n 148) ("Handshakewarden") ("Handshakewarden")) (cond (Nat.ble n 150) ("Handshakewarden") (cond (Nat.ble n 151) ("Handshakewarden") ("Handshakewarden"))))) (cond (Nat.ble n 156) (cond (Nat.ble n 154) (cond (Nat.ble n 153) ("Handshakewarden") ("HandshakewardenLaw")) (cond (Nat.ble n 155) ("HandshakewardenLaw") ("HandshakewardenLaw"))) (cond (Nat.ble n 158) (cond (Nat.ble n 157) ("HandshakewardenLaw") ("HandshakewardenLaw")) (cond (Nat.ble n 159) ("HandshakewardenLaw") (cond (Nat.ble n 160) ("HandshakewardenLaw") ("HandshakewardenLaw")))))) (cond (Nat.ble n 170) (cond (Nat.ble n 165) (cond (Nat.ble n 163) (cond (Nat.ble n 162) ("HandshakewardenLaw") ("HandshakewardenLaw")) (cond (Nat.ble n 164) ("HandshakewardenLaw") ("HandshakewardenLaw"))) (cond (Nat.ble n 167) (cond (Nat.ble n 166) ("HandshakewardenLaw") ("HandshakewardenLaw")) (cond (Nat.ble n 168) ("HandshakewardenLaw") (cond (Nat.ble n 169) ("HandshakewardenLaw") ("HandshakewardenLaw"))))) (cond (Nat.ble n 174) (cond (Nat.ble n 172) (cond (Nat.ble n 171) ("HandshakewardenLaw") ("HandshakewardenLaw")) (cond (Nat.ble n 173) ("HandshakewardenLaw") ("HandshakewardenLaw"))) (cond (Nat.ble n 176) (cond (Nat.ble n 175) ("HandshakewardenLaw") ("HandshakewardenLaw")) (cond (Nat.ble n 177) ("HandshakewardenLaw") (cond (Nat.ble n 178) ("HandshakewardenLaw") ("HandshakewardenLaw"))))))) (cond (Nat.ble n 197) (cond (Nat.ble n 188) (cond (Nat.ble n 183) (cond (Nat.ble n 181) (cond (Nat.ble n 180) ("HandshakewardenLaw") ("HandshakewardenLaw")) (cond (Nat.ble n 182) ("HandshakewardenLaw") ("HandshakewardenLaw"))) (cond (Nat.ble n 185) (cond (Nat.ble n 184) ("HandshakewardenLaw") ("HandshakewardenLaw")) (cond (Nat.ble n 186) ("HandshakewardenLaw") (cond (Nat.ble n 187) ("HandshakewardenLaw") ("HandshakewardenLaw"))))) (cond (Nat.ble n 192) (cond (Nat.ble n 190) (cond (Nat.ble n 189) ("HandshakewardenLaw") ("HandshakewardenModel")) (cond (Nat.ble n 191) ("HandshakewardenModel") ("HandshakewardenModel"))) (cond (Nat.ble n 194) (cond (Nat.ble n 193) ("HandshakewardenModel") ("HandshakewardenModel")) (cond (Nat.ble n 195) ("HandshakewardenModel") (cond (Nat.ble n 196) ("HandshakewardenModel") ("HandshakewardenModel")))))) (cond (Nat.ble n 206) (cond (Nat.ble n 201) (cond (Nat.ble n 199) (cond (Nat.ble n 198) ("HandshakewardenModel") ("HandshakewardenModel")) (cond (Nat.ble n 200) ("HandshakewardenModel") ("HandshakewardenModel"))) (cond (Nat.ble n 203) (cond (Nat.ble n 202) ("HandshakewardenModel") ("HandshakewardenModel")) (cond (Nat.ble n 204) ("HandshakewardenModel") (cond (Nat.ble n 205) ("HandshakewardenModel") ("HandshakewardenModel"))))) (cond (Nat.ble n 210) (cond (Nat.ble n 208) (cond (Nat.ble n 207) ("HandshakewardenModel") ("HandshakewardenModel")) (cond (Nat.ble n 209) ("HandshakewardenModel") ("HandshakewardenModel"))) (cond (Nat.ble n 212) (cond (Nat.ble n 211) ("HandshakewardenModel") ("HandshakewardenModel")) (cond (Nat.ble n 213) ("HandshakewardenModel") (cond (Nat.ble n 214) ("HandshakewardenModel") ("HandshakewardenModel")))))))) (cond (Nat.ble n 251) (cond (Nat.ble n 233) (cond (Nat.ble n 224) (cond (Nat.ble n 219) (cond (Nat.ble n 217) (cond (Nat.ble n 216) ("HandshakewardenModel") ("HandshakewardenModel")) (cond (Nat.ble n 218) ("HandshakewardenModel") ("HandshakewardenModel"))) (cond (Nat.ble n 221) (cond (Nat.ble n 220) ("HandshakewardenModel") ("HandshakewardenModel")) (cond (Nat.ble n 222) ("HandshakewardenModel") (cond (Nat.ble n 223) ("HandshakewardenModel") ("HandshakewardenModel"))))) (cond (Nat.ble n 228) (cond (Nat.ble n 226) (cond (Nat.ble n 225) ("HandshakewardenModel") ("HandshakewardenModel")) (cond (Nat.ble n 227) ("HandshakewardenModel") ("HandshakewardenModel"))) (cond (Nat.ble n 230) (cond (Nat.ble n 229) ("HandshakewardenModel") ("HandshakewardenModel")) (cond (Nat.ble n 231) ("HandshakewardenModel") (cond (Nat.ble n 232) ("HandshakewardenModel") ("HandshakewardenModel")))))) (cond (Nat.ble n 242) (cond (Nat.ble n 237) (cond (Nat.ble n 235) (cond (Nat.ble n 234) ("HandshakewardenModel") ("HandshakewardenModel")) (cond (Nat.ble n 236) ("HandshakewardenModel") ("HandshakewardenModel"))) (cond (Nat.ble n 239) (cond (Nat.ble n 238) ("HandshakewardenModel") ("HandshakewardenModel")) (cond (Nat.ble n 240) ("HandshakewardenModel") (cond (Nat.ble n 241) ("HandshakewardenModel") ("HandshakewardenModel"))))) (cond (Nat.ble n 246) (cond (Nat.ble n 244) (cond (Nat.ble n 243) ("HandshakewardenModel") ("HandshakewardenModel")) (cond (Nat.ble n 245) ("HandshakewardenModel") ("HandshakewardenModel"))) (cond (Nat.ble n 248) (cond (Nat.ble n 247) ("HandshakewardenModel") ("HandshakewardenModel")) (cond (Nat.ble n 249) ("HandshakewardenModel") (cond (Nat.ble n 250) ("HandshakewardenModel") ("HandshakewardenModel"))))))) (cond (Nat.ble n 269) (cond (Nat.ble n 260) (cond (Nat.ble n 255) (cond (Nat.ble n 253) (cond (Nat.ble n 252) ("HandshakewardenModel") ("HandshakewardenModel")) (cond (Nat.ble n 254) ("HandshakewardenModel") ("HandshakewardenModel"))) (cond (Nat.ble n 257) (cond (Nat.ble n 256) ("HandshakewardenModel") ("HandshakewardenModel")) (cond (Nat.ble n 258) ("HandshakewardenModel") (cond (Nat.ble n 259) ("HandshakewardenModel") ("HandshakewardenModel"))))) (cond (Nat.ble n 264) (cond (Nat.ble n 262) (cond (Nat.ble n 261) ("HandshakewardenModel") ("HandshakewardenModel")) (cond (Nat.ble n 263) ("HandshakewardenModel") ("HandshakewardenModel"))) (cond (Nat.ble n 266) (cond (Nat.ble n 265) ("HandshakewardenModel") ("HandshakewardenModel")) (cond (Nat.ble n 267) ("HandshakewardenModel") (cond (Nat.ble n 268) ("HandshakewardenModel") ("HandshakewardenModel")))))) (cond (Nat.ble n 278) (cond (Nat.ble n 273) (cond (Nat.ble n 271) (cond (Nat.ble n 270) ("HandshakewardenModel") ("HandshakewardenModel")) (cond (Nat.ble n 272) ("HandshakewardenModel") ("HandshakewardenModel"))) (cond (Nat.ble n 275) (cond (Nat.ble n 274) ("HandshakewardenModel") ("java/lang/Integer")) (cond (Nat.ble n 276) ("java/lang/Integer") (cond (Nat.ble n 277) ("java/lang/Long") ("java/lang/Math"))))) (cond (Nat.ble n 283) (cond (Nat.ble n 280) (cond (Nat.ble n 279) ("java/lang/Math") ("java/lang/String")) (cond (Nat.ble n 281) ("java/lang/String") (cond (Nat.ble n 282) ("java/lang/String") ("java/lang/String")))) (cond (Nat.ble n 285) (cond (Nat.ble n 284) ("java/lang/String") ("java/lang/StringLatin1")) (cond (Nat.ble n 286) ("java/util/Arrays") (cond (Nat.ble n 287) ("java/util/Arrays") ("jdk/internal/util/Preconditions")))))))))
end
end
section
/-! THE ENGINE: a small machine over numbers, run by the kernel; its soundness over the kit's rows stands behind it. A value is a pair: (0, n) the int n, (1, n) the long n, (2, i) the i-th cell, (3, _) null, (4, k) the k-th unknown int, (5, _) null or some reference, (6, b) a float, (7, b) a double, (8, j) the j-th text, (9, j) its bytes, (10, L) the script; (99, _) nothing. -/
noncomputable section
def e_tget (n : Nat) : e_T n → Nat → Option e_C := Nat.rec (motive := fun n => e_T n → Nat → Option e_C) (fun t _ => t) (fun _ ih t i => Prod.rec (motive := fun _ => Option e_C) (fun a b => cond (Nat.beq (Nat.mod i 2) 0) (ih a (Nat.div i 2)) (ih b (Nat.div i 2))) t) n
def e_tset (n : Nat) : e_T n → Nat → Option e_C → e_T n := Nat.rec (motive := fun n => e_T n → Nat → Option e_C → e_T n) (fun _ _ v => v) (fun n ih t i v => Prod.rec (motive := fun _ => e_T n × e_T n) (fun a b => cond (Nat.beq (Nat.mod i 2) 0) (ih a (Nat.div i 2) v, b) (a, ih b (Nat.div i 2) v)) t) n
def e_tnew (n : Nat) : e_T n := Nat.rec (motive := e_T) (none : Option e_C) (fun _ ih => (ih, ih)) n
def e_nth (l : List e_V) : Nat → e_V := List.rec (motive := fun _ => Nat → e_V) (fun _ => (99, 0)) (fun v _ ih k => Nat.rec (motive := fun _ => e_V) v (fun k' _ => ih k') k) l
def e_put (l : List e_V) : Nat → e_V → List e_V := List.rec (motive := fun _ => Nat → e_V → List e_V) (fun _ _ => []) (fun u t ih k v => Nat.rec (motive := fun _ => List e_V) (v :: t) (fun k' _ => u :: ih k' v) k) l
def e_drop (k : Nat) : List e_E → List e_E := Nat.rec (motive := fun _ => List e_E → List e_E) (fun l => l) (fun _ ih l => List.rec (motive := fun _ => List e_E) [] (fun _ t _ => ih t) l) k
def e_get (l : List (Nat × e_V)) : Nat → e_V → e_V := List.rec (motive := fun _ => Nat → e_V → e_V) (fun _ d => d) (fun q _ ih k d => cond (Nat.beq q.1 k) q.2 (ih k d)) l
def e_set (l : List (Nat × e_V)) : Nat → e_V → List (Nat × e_V) := List.rec (motive := fun _ => Nat → e_V → List (Nat × e_V)) (fun k v => [(k, v)]) (fun q t ih k v => cond (Nat.beq q.1 k) ((k, v) :: t) (q :: ih k v)) l
def e_iv (l : e_I) : Nat → Nat × Nat := List.rec (motive := fun _ => Nat → Nat × Nat) (fun _ => (0, 4294967295)) (fun v _ ih k => Nat.rec (motive := fun _ => Nat × Nat) v (fun k' _ => ih k') k) l
def e_ivp (l : e_I) : Nat → Nat × Nat → e_I := List.rec (motive := fun _ => Nat → Nat × Nat → e_I) (fun _ _ => []) (fun u t ih k v => Nat.rec (motive := fun _ => e_I) (v :: t) (fun k' _ => u :: ih k' v) k) l
def e_ov (l : List Nat) : Nat → Nat := List.rec (motive := fun _ => Nat → Nat) (fun _ => 0) (fun y _ ih k => Nat.rec (motive := fun _ => Nat) y (fun k' _ => ih k') k) l
def e_off (n : Nat) : Nat := Nat.mod (Nat.add n 2147483648) 4294967296
def e_ib (k : Nat) : Unit × (Nat → Nat → Nat) :=
  cond (Nat.ble k 3) (cond (Nat.beq k 1) ((), fun a b => Nat.mod (Nat.add a b) 4294967296) (cond (Nat.beq k 2) ((), fun a b => e_u (e_i a - e_i b)) ((), fun a b => Nat.mod (Nat.mul a b) 4294967296)))
    (cond (Nat.ble k 6) (cond (Nat.beq k 4) ((), fun a b => e_u (e_i a &&& e_i b)) (cond (Nat.beq k 5) ((), fun a b => e_u (e_i a ||| e_i b)) ((), fun a b => e_u (e_i a ^^^ e_i b))))
      (cond (Nat.ble k 8) (cond (Nat.beq k 7) ((), fun a b => e_u (e_i a <<< (e_i b &&& 31))) ((), fun a b => e_u (e_i a >>> (e_i b &&& 31))))
        (cond (Nat.beq k 9) ((), fun a b => e_u ((e_i a).toUInt32 >>> ((e_i b).toUInt32 &&& Int32.toUInt32 31)).toInt32) (cond (Nat.beq k 10) ((), fun a b => e_u (e_i a / e_i b)) ((), fun a b => e_u (e_i a - e_i a / e_i b * e_i b))))))
def e_lb (k : Nat) : Unit × (Nat → Nat → Nat) :=
  cond (Nat.beq k 1) ((), fun a b => e_ul (e_l a + e_l b)) (cond (Nat.beq k 3) ((), fun a b => e_ul (e_l a * e_l b)) (cond (Nat.beq k 4) ((), fun a b => e_ul (e_l a &&& e_l b)) (cond (Nat.beq k 5) ((), fun a b => e_ul (e_l a ||| e_l b)) ((), fun a b => e_ul (e_l a ^^^ e_l b)))))
def e_ls (k : Nat) : Unit × (Nat → Nat → Nat) :=
  cond (Nat.beq k 7) ((), fun a b => e_ul (e_l a <<< ((e_i b).toInt64 &&& 63))) (cond (Nat.beq k 8) ((), fun a b => e_ul (e_l a >>> ((e_i b).toInt64 &&& 63))) ((), fun a b => e_ul ((e_l a).toUInt64 >>> ((e_i b).toInt64.toUInt64 &&& Int64.toUInt64 63)).toInt64))
/-- the range of an int, moved up by 2^31 -/
def e_rng (iv : e_I) (v : e_V) : Nat × Nat := cond (Nat.beq v.1 0) (e_off v.2, e_off v.2) (e_iv iv v.2)
/-- kinds: 0 int, 1 long, 2 reference, 3 float, 4 double -/
def e_is (k t : Nat) : Bool :=
  cond (Nat.beq k 0) (cond (Nat.beq t 0) true (Nat.beq t 4)) (cond (Nat.beq k 1) (Nat.beq t 1) (cond (Nat.beq k 2) (cond (Nat.beq t 2) true (cond (Nat.beq t 3) true (cond (Nat.beq t 5) true (cond (Nat.ble t 7) false (Nat.ble t 10))))) (cond (Nat.beq k 3) (Nat.beq t 6) (Nat.beq t 7))))
def e_cat2 (t : Nat) : Bool := cond (Nat.beq t 1) true (Nat.beq t 7)
def e_eqV (a b : e_V) : Bool := cond (Nat.beq a.1 b.1) (Nat.beq a.2 b.2) false
/-- a jump: forward from behind the instruction, or backward from the method's start -/
def e_jmp (all tl : List e_E) (x : Nat) : List e_E := cond (Nat.beq (Nat.mod x 2) 0) (e_drop (Nat.div x 2) tl) (e_drop (Nat.div x 2) all)
def e_store (l : List e_V) (i : Nat) (v : e_V) : List e_V :=
  Nat.rec (motive := fun _ => List e_V) (cond (e_cat2 v.1) (e_put (e_put l i v) (Nat.succ i) (99, 0)) (e_put l i v)) (fun j _ => cond (e_cat2 (e_nth l j).1) (e_put (cond (e_cat2 v.1) (e_put (e_put l i v) (Nat.succ i) (99, 0)) (e_put l i v)) j (99, 0)) (cond (e_cat2 v.1) (e_put (e_put l i v) (Nat.succ i) (99, 0)) (e_put l i v))) i
def e_entry (n : Nat) : List e_V → List e_V := Nat.rec (motive := fun _ => List e_V → List e_V) (fun _ => []) (fun _ ih vs => List.rec (motive := fun _ => List e_V) ((99, 0) :: ih []) (fun v t _ => v :: ih (cond (e_cat2 v.1) ((99, 0) :: t) t)) vs) n
def e_take (k : Nat) : List e_V → List e_V → List e_V := Nat.rec (motive := fun _ => List e_V → List e_V → List e_V) (fun acc _ => acc) (fun _ ih acc st => List.rec (motive := fun _ => List e_V) acc (fun v t _ => ih (v :: acc) t) st) k
def e_pops (k : Nat) : List e_V → List e_V := Nat.rec (motive := fun _ => List e_V → List e_V) (fun l => l) (fun _ ih l => List.rec (motive := fun _ => List e_V) [] (fun _ t _ => ih t) l) k
def e_zero (k : Nat) : e_V := cond (Nat.beq k 1) (0, 0) (cond (Nat.beq k 2) (0, 0) (cond (Nat.beq k 3) (1, 0) (3, 0)))
/-- the handler of an exception, by a method's table: (from, to, class, place): 0, or the place and 1 -/
def e_hnd (l : List (Nat × Nat × Nat × Nat)) (pc E : Nat) : Nat := List.rec (motive := fun _ => Nat) 0 (fun q _ ih => cond (cond (Nat.ble q.1 pc) (cond (Nat.ble (Nat.succ pc) q.2.1) (Nat.beq q.2.2.1 E) false) false) (Nat.succ q.2.2.2) ih) l
def e_hpc (l : List e_E) : Nat := List.rec (motive := fun _ => Nat) 0 (fun q _ _ => q.1) l
/-- split the unknown int k behind c -/
def e_sp (ih : e_A) (cod : List e_E) (I : e_N) (loc stk : List e_V) (fs : List e_F) (w : e_W) (iv : e_I) (k c : Nat) : Bool :=
  cond (ih I cod loc stk fs w (e_ivp iv k ((e_iv iv k).1, c))) (ih I cod loc stk fs w (e_ivp iv k (Nat.succ c, (e_iv iv k).2))) false
/-- go on with an int as a number -/
def e_conR (r : Nat × Nat) (k : Nat) (kk : Nat → Bool) (ks : Nat → Nat → Bool) : Bool := cond (Nat.beq r.1 r.2) (kk (e_off r.1)) (cond (Nat.ble r.2 (Nat.add r.1 70)) (ks k r.1) false)
def e_con (iv : e_I) (v : e_V) (kk : Nat → Bool) (ks : Nat → Nat → Bool) : Bool := cond (Nat.beq v.1 0) (kk v.2) (cond (Nat.beq v.1 4) (e_conR (e_iv iv v.2) v.2 kk ks) false)
/-- a < b, by their ranges -/
def e_ltR (ra rb : Nat × Nat) (a b : e_V) (kt kf : Bool) (ks : Nat → Nat → Bool) : Bool :=
  cond (Nat.ble (Nat.succ ra.2) rb.1) kt (cond (Nat.ble rb.2 ra.1) kf (cond (Nat.beq a.1 4) (cond (Nat.beq b.1 0) (ks a.2 (Nat.pred rb.1)) (ks a.2 ra.1)) (ks b.2 ra.1)))
def e_eqR (ra rb : Nat × Nat) (a b : e_V) (kt kf : Bool) (ks : Nat → Nat → Bool) : Bool :=
  cond (Nat.ble (Nat.succ ra.2) rb.1) kf (cond (Nat.ble (Nat.succ rb.2) ra.1) kf
    (cond (Nat.beq ra.1 ra.2) (cond (Nat.beq rb.1 rb.2) kt (cond (Nat.ble ra.1 rb.1) (ks b.2 ra.1) (ks b.2 (Nat.pred ra.1))))
      (cond (Nat.ble rb.1 ra.1) (ks a.2 ra.1) (ks a.2 (Nat.pred rb.1)))))
/-- conditions: 0 eq, 1 ne, 2 lt, 3 ge, 4 gt, 5 le -/
def e_cmp (iv : e_I) (cc : Nat) (a b : e_V) (kt kf : Bool) (ks : Nat → Nat → Bool) : Bool :=
  cond (cond (e_is 0 a.1) (e_is 0 b.1) false) (cond (Nat.ble cc 1) (cond (Nat.beq cc 0) (e_eqR (e_rng iv a) (e_rng iv b) a b kt kf ks) (e_eqR (e_rng iv a) (e_rng iv b) a b kf kt ks))
    (cond (Nat.ble cc 3) (cond (Nat.beq cc 2) (e_ltR (e_rng iv a) (e_rng iv b) a b kt kf ks) (e_ltR (e_rng iv a) (e_rng iv b) a b kf kt ks)) (cond (Nat.beq cc 4) (e_ltR (e_rng iv b) (e_rng iv a) b a kt kf ks) (e_ltR (e_rng iv b) (e_rng iv a) b a kf kt ks)))) false
def e_q1 (stk : List e_V) (k : e_V → List e_V → Bool) : Bool := List.rec (motive := fun _ => Bool) false (fun v st _ => k v st) stk
def e_q2 (stk : List e_V) (k : e_V → e_V → List e_V → Bool) : Bool := e_q1 stk (fun v st => e_q1 st (fun u s2 => k v u s2))
def e_rm (I : e_N) (n : Nat) (k : e_N → Bool) : Bool :=
  cond (Nat.ble (Nat.succ I.2.2.1) (e_bud I.1).1) (cond (Nat.ble (Nat.add I.2.2.2.1 n) (e_bud I.1).2.1) (k (I.1, I.2.1, Nat.succ I.2.2.1, Nat.add I.2.2.2.1 n, I.2.2.2.2)) false) false
def e_cell (w : e_W) (v : e_V) (k : e_C → Bool) : Bool := cond (Nat.beq v.1 2) (Option.rec (motive := fun _ => Bool) false k (e_tget 9 w.2 v.2)) false
/-- behind a return -/
def e_res (ih : e_A) (rv : List e_V) (fs : List e_F) (w : e_W) (iv : e_I) : Bool :=
  List.rec (motive := fun _ => Bool) (List.rec (motive := fun _ => Bool) false (fun v _ _ => e_eqV v (0, 1)) rv)
    (fun f fs' _ => ih f.1 (e_drop 1 f.2.1) f.2.2.1 (rv ++ f.2.2.2) fs' w iv) fs
/-- behind a throw of the exception of kind E -/
def e_unw (ih : e_A) (E : Nat) (fs : List e_F) (w : e_W) (iv : e_I) : Bool :=
  List.rec (motive := fun _ => Bool) false (fun f fs' r => Nat.rec (motive := fun _ => Bool) r (fun x _ => ih f.1 (e_drop x f.1.2.1) f.2.2.1 [(5, 0)] fs' w iv) (e_hnd (e_hn f.1.1) (e_hpc f.2.1) E)) fs
abbrev e_H : Type := e_A → e_E → List e_E → e_N → List e_V → List e_V → List e_F → e_W → e_I → Bool
def h_no : e_H := fun _ _ _ _ _ _ _ _ _ => false
def h_load : e_H := fun ih e tl I loc stk fs w iv => Prod.rec (motive := fun _ => Bool) (fun t p => cond (e_is e.2.2.2.1 t) (ih I tl loc ((t, p) :: stk) fs w iv) false) (e_nth loc e.2.2.1)
def h_const : e_H := fun ih e tl I loc stk fs w iv => ih I tl loc ((e.2.2.1, e.2.2.2.1) :: stk) fs w iv
def h_goto : e_H := fun ih e tl I loc stk fs w iv => ih I (e_jmp I.2.1 tl e.2.2.2.2) loc stk fs w iv
def h_iinc : e_H := fun ih e tl I loc stk fs w iv => e_con iv (e_nth loc e.2.2.1) (fun n => ih I tl (e_store loc e.2.2.1 (0, Nat.mod (Nat.add n e.2.2.2.1) 4294967296)) stk fs w iv) (e_sp ih (e :: tl) I loc stk fs w iv)
def h_retv : e_H := fun ih _ _ _ _ stk fs w iv => List.rec (motive := fun _ => Bool) (e_res ih [] fs w iv) (fun _ _ _ => false) stk
/-- the words of a stack -/
def e_cs (l : List e_V) : Nat := List.rec (motive := fun _ => Nat) 0 (fun v _ r => Nat.add r (cond (e_cat2 v.1) 2 1)) l
def h_throw : e_H := fun ih e _ I _ stk fs w iv => cond (Nat.ble (e_cs stk) 8) (e_rm I 6 (fun _ => e_unw ih e.2.2.1 fs w iv)) false
def h_new : e_H := fun ih e tl I loc stk fs w iv => e_rm I e.2.2.2.1 (fun I' => cond (Nat.ble w.1 511) (ih I' tl loc ((2, w.1) :: stk) fs (Nat.succ w.1, e_tset 9 w.2 w.1 (some (0, e.2.2.1, (99, 0), e_fl e.2.2.1))) iv) false)
/-- the object that is called: 0 none, ci + 1 a cell of the class ci, 1000 a text -/
def e_recv (w : e_W) (x : Nat) (vs : List e_V) : Bool := Nat.rec (motive := fun _ => Bool) true (fun ci _ => e_q1 vs (fun v _ => cond (Nat.beq ci 999) (Nat.beq v.1 8) (e_cell w v (fun c => cond (Nat.beq c.1 0) (Nat.beq c.2.1 ci) false)))) x
def e_argsOk (e : e_E) (stk : List e_V) (w : e_W) : Bool := cond (Nat.ble (e_cs (e_pops e.2.2.2.1 stk)) 8) (cond (Nat.ble e.2.2.2.1 stk.length) (cond (Nat.ble (e_cs (e_take e.2.2.2.1 [] stk)) (e_bud e.2.2.1).2.2) (e_recv w e.2.2.2.2 (e_take e.2.2.2.1 [] stk)) false) false) false
def h_call : e_H := fun ih e tl I loc stk fs w iv => cond (e_argsOk e stk w)
  (cond (Nat.ble (Nat.add I.2.2.1 (e_bud e.2.2.1).1) (e_bud I.1).1) (cond (Nat.ble (Nat.add I.2.2.2.1 (e_bud e.2.2.1).2.1) (e_bud I.1).2.1)
    (Nat.rec (motive := fun _ => Bool) false (fun d _ => ih (e.2.2.1, e_pg e.2.2.1, 0, 0, d) (e_pg e.2.2.1) (e_entry (e_bud e.2.2.1).2.2 (e_take e.2.2.2.1 [] stk)) [] (((I.1, I.2.1, Nat.add I.2.2.1 (e_bud e.2.2.1).1, Nat.add I.2.2.2.1 (e_bud e.2.2.1).2.1, I.2.2.2.2), e :: tl, loc, e_pops e.2.2.2.1 stk) :: fs) w iv) I.2.2.2.2) false) false) false
def h_store : e_H := fun ih e tl I loc stk fs w iv => e_q1 stk (fun v st => cond (e_is e.2.2.2.1 v.1) (ih I tl (e_store loc e.2.2.1 v) st fs w iv) false)
def h_if : e_H := fun ih e tl I loc stk fs w iv => e_q1 stk (fun v st => e_cmp iv e.2.2.1 v (0, 0) (ih I (e_jmp I.2.1 tl e.2.2.2.2) loc st fs w iv) (ih I tl loc st fs w iv) (e_sp ih (e :: tl) I loc stk fs w iv))
def h_get : e_H := fun ih e tl I loc stk fs w iv => e_q1 stk (fun v st => e_cell w v (fun c => cond (Nat.beq c.1 0) (cond (Nat.beq c.2.1 e.2.2.1) (Prod.rec (motive := fun _ => Bool) (fun t p => ih I tl loc ((t, p) :: st) fs w iv) (e_get c.2.2.2 e.2.2.2.1 c.2.2.1)) false) false))
def h_alen : e_H := fun ih _ tl I loc stk fs w iv => e_q1 stk (fun v st => cond (Nat.beq v.1 10) (ih I tl loc ((0, v.2) :: st) fs w iv) (e_cell w v (fun c => cond (Nat.beq c.1 0) false (ih I tl loc ((0, c.2.1) :: st) fs w iv))))
/-- what is narrowed at a return: 0 nothing, 1 a boolean or byte, 2 a char -/
def e_nr (k : Nat) (v : e_V) : Bool := cond (Nat.beq k 0) true (cond (Nat.beq v.1 0) (Nat.ble v.2 (cond (Nat.beq k 1) 1 65535)) false)
def h_ret : e_H := fun ih e _ _ _ stk fs w iv => e_q1 stk (fun v st => cond (cond (e_is e.2.2.1 v.1) (e_nr e.2.2.2.1 v) false) (List.rec (motive := fun _ => Bool) (e_res ih [v] fs w iv) (fun _ _ _ => false) st) false)
def h_newa : e_H := fun ih e tl I loc stk fs w iv => e_q1 stk (fun v st => e_con iv v (fun n => cond (Nat.ble n 16777216) (e_rm I n (fun I' => cond (Nat.ble w.1 511) (ih I' tl loc ((2, w.1) :: st) fs (Nat.succ w.1, e_tset 9 w.2 w.1 (some (e.2.2.1, n, e_zero e.2.2.1, []))) iv) false)) false) (e_sp ih (e :: tl) I loc stk fs w iv))
def h_ifn : e_H := fun ih e tl I loc stk fs w iv => e_q1 stk (fun v st => cond (Nat.beq v.1 3) (ih I (cond (Nat.beq e.2.2.1 0) (e_jmp I.2.1 tl e.2.2.2.2) tl) loc st fs w iv) (cond (Nat.beq v.1 2) (ih I (cond (Nat.beq e.2.2.1 0) tl (e_jmp I.2.1 tl e.2.2.2.2)) loc st fs w iv) false))
def h_icmp : e_H := fun ih e tl I loc stk fs w iv => e_q2 stk (fun v u st => e_cmp iv e.2.2.1 u v (ih I (e_jmp I.2.1 tl e.2.2.2.2) loc st fs w iv) (ih I tl loc st fs w iv) (e_sp ih (e :: tl) I loc stk fs w iv))
def h_ibin : e_H := fun ih e tl I loc stk fs w iv => e_q2 stk (fun v u st => cond (cond (Nat.beq u.1 4) (cond (Nat.beq e.2.2.1 4) (cond (e_eqV u (4, 0)) (e_eqV v (0, 63)) false) false) false) (ih I tl loc ((4, 6) :: st) fs w iv)
  (e_con iv v (fun n => e_con iv u (fun m => cond (cond (Nat.ble 10 e.2.2.1) (Nat.beq (Nat.mod n 4294967296) 0) false) false (ih I tl loc ((0, (e_ib e.2.2.1).2 m n) :: st) fs w iv)) (e_sp ih (e :: tl) I loc stk fs w iv)) (e_sp ih (e :: tl) I loc stk fs w iv)))
def h_ald : e_H := fun ih e tl I loc stk fs w iv => e_q2 stk (fun v u st => e_con iv v (fun n => cond (Nat.beq u.1 10) (cond (cond (Nat.beq e.2.2.1 1) (Nat.ble (Nat.succ n) u.2) false) (ih I tl loc ((4, n) :: st) fs w iv) false)
  (e_cell w u (fun c => cond (Nat.beq c.1 e.2.2.1) (cond (Nat.ble (Nat.succ n) c.2.1) (Prod.rec (motive := fun _ => Bool) (fun t p => ih I tl loc ((t, p) :: st) fs w iv) (e_get c.2.2.2 n c.2.2.1)) false) false))) (e_sp ih (e :: tl) I loc stk fs w iv))
/-- a field's kind: 0 int, 1 boolean, 2 long, 3 a reference -/
def e_fk (k : Nat) (v : e_V) : Bool := cond (Nat.beq k 0) (e_is 0 v.1) (cond (Nat.beq k 1) (cond (Nat.beq v.1 0) (Nat.ble v.2 1) false) (cond (Nat.beq k 2) (Nat.beq v.1 1) (e_is 2 v.1)))
def h_putf : e_H := fun ih e tl I loc stk fs w iv => e_q2 stk (fun v u st => e_cell w u (fun c => cond (Nat.beq c.1 0) (cond (Nat.beq c.2.1 e.2.2.1) (cond (e_fk e.2.2.2.2 v) (ih I tl loc st fs (w.1, e_tset 9 w.2 u.2 (some (0, c.2.1, c.2.2.1, e_set c.2.2.2 e.2.2.2.1 v))) iv) false) false) false))
def h_dup : e_H := fun ih _ tl I loc stk fs w iv => e_q1 stk (fun v _ => cond (e_cat2 v.1) false (ih I tl loc (v :: stk) fs w iv))
def h_pop : e_H := fun ih _ tl I loc stk fs w iv => e_q1 stk (fun v st => cond (e_cat2 v.1) false (ih I tl loc st fs w iv))
def h_i2l : e_H := fun ih e tl I loc stk fs w iv => e_q1 stk (fun v st => e_con iv v (fun n => ih I tl loc ((1, e_ul (e_i n).toInt64) :: st) fs w iv) (e_sp ih (e :: tl) I loc stk fs w iv))
def h_l2i : e_H := fun ih _ tl I loc stk fs w iv => e_q1 stk (fun v st => cond (Nat.beq v.1 1) (ih I tl loc ((0, e_u (e_l v.2).toInt32) :: st) fs w iv) false)
def h_tsw : e_H := fun ih e tl I loc stk fs w iv => e_q1 stk (fun v st => cond (e_is 0 v.1) (e_ltR (e_rng iv v) (e_rng iv (0, e.2.2.1)) v (0, e.2.2.1) (ih I (e_jmp I.2.1 tl (e_ov (e_ovr e.2.2.2.2) 0)) loc st fs w iv)
  (e_ltR (e_rng iv (0, Nat.add e.2.2.1 e.2.2.2.1)) (e_rng iv v) (0, Nat.add e.2.2.1 e.2.2.2.1) v (ih I (e_jmp I.2.1 tl (e_ov (e_ovr e.2.2.2.2) 0)) loc st fs w iv)
    (e_con iv v (fun n => cond (cond (Nat.ble e.2.2.1 n) (Nat.ble n (Nat.add e.2.2.1 e.2.2.2.1)) false) (ih I (e_jmp I.2.1 tl (e_ov (e_ovr e.2.2.2.2) (Nat.succ (Nat.sub n e.2.2.1)))) loc st fs w iv) false) (e_sp ih (e :: tl) I loc stk fs w iv)) (e_sp ih (e :: tl) I loc stk fs w iv)) (e_sp ih (e :: tl) I loc stk fs w iv)) false)
def h_objinit : e_H := fun ih _ tl I loc stk fs w iv => e_q1 stk (fun v st => cond (Nat.beq v.1 2) (cond (Nat.ble (e_cs st) 8) (ih I tl loc st fs w iv) false) false)
def h_lbin : e_H := fun ih e tl I loc stk fs w iv => e_q2 stk (fun v u st => cond (cond (Nat.beq v.1 1) (Nat.beq u.1 1) false) (ih I tl loc ((1, (e_lb e.2.2.1).2 u.2 v.2) :: st) fs w iv) false)
def h_lsh : e_H := fun ih e tl I loc stk fs w iv => e_q2 stk (fun v u st => e_con iv v (fun n => cond (Nat.beq u.1 1) (ih I tl loc ((1, (e_ls e.2.2.1).2 u.2 n) :: st) fs w iv) false) (e_sp ih (e :: tl) I loc stk fs w iv))
def h_lcmp : e_H := fun ih _ tl I loc stk fs w iv => e_q2 stk (fun v u st => cond (cond (Nat.beq v.1 1) (Nat.beq u.1 1) false) (ih I tl loc ((0, e_u (lg_cmp (e_l u.2) (e_l v.2))) :: st) fs w iv) false)
def h_acmp : e_H := fun ih e tl I loc stk fs w iv => e_q2 stk (fun v u st => cond (cond (Nat.beq v.1 2) (cond (Nat.beq u.1 2) true (Nat.beq u.1 3)) (cond (Nat.beq v.1 3) (cond (Nat.beq u.1 2) true (Nat.beq u.1 3)) false))
  (ih I (cond (cond (Nat.beq u.1 v.1) (cond (Nat.beq v.1 3) true (Nat.beq u.2 v.2)) false) tl (e_jmp I.2.1 tl e.2.2.2.2)) loc st fs w iv) false)
def h_ast : e_H := fun ih e tl I loc stk fs w iv => e_q2 stk (fun v u s2 => e_q1 s2 (fun z st => e_con iv u (fun n => e_cell w z (fun c => cond (Nat.beq c.1 e.2.2.1) (cond (Nat.ble (Nat.succ n) c.2.1) (cond (cond (Nat.beq e.2.2.1 1) (e_is 0 v.1) (cond (Nat.beq e.2.2.1 2) (cond (Nat.beq v.1 0) (Nat.ble v.2 1) false) (cond (Nat.beq e.2.2.1 3) (Nat.beq v.1 1) false)))
  (ih I tl loc st fs (cond (e_eqV (e_get c.2.2.2 n c.2.2.1) v) w (w.1, e_tset 9 w.2 z.2 (some (c.1, c.2.1, c.2.2.1, e_set c.2.2.2 n v)))) iv) false) false) false)) (e_sp ih (e :: tl) I loc stk fs w iv)))
def h_dup2 : e_H := fun ih _ tl I loc stk fs w iv => e_q2 stk (fun v u _ => cond (cond (e_cat2 v.1) true (e_cat2 u.1)) false (ih I tl loc (v :: u :: stk) fs w iv))
def e_cpy (src : List (Nat × e_V)) (sd : e_V) (sp dp : Nat) (dd : e_V) (mp : List (Nat × e_V)) (n : Nat) : List (Nat × e_V) := Nat.rec (motive := fun _ => List (Nat × e_V)) mp (fun j acc => cond (e_eqV (e_get acc (Nat.add dp j) dd) (e_get src (Nat.add sp j) sd)) acc (e_set acc (Nat.add dp j) (e_get src (Nat.add sp j) sd))) n
def h_acopy : e_H := fun ih _ tl I loc stk fs w iv => e_q2 stk (fun vn vdp s2 => e_q2 s2 (fun vd vsp s3 => e_q1 s3 (fun vs st => cond (cond (Nat.ble (e_cs st) 8) (cond (Nat.beq vn.1 0) (cond (Nat.beq vdp.1 0) (Nat.beq vsp.1 0) false) false) false)
  (e_cell w vs (fun cs => e_cell w vd (fun cd => cond (cond (Nat.beq cs.1 1) (cond (Nat.beq cd.1 1) (cond (Nat.ble (Nat.add vsp.2 vn.2) cs.2.1) (cond (Nat.ble (Nat.add vdp.2 vn.2) cd.2.1) (cond (Nat.ble cs.2.1 16777216) (Nat.ble cd.2.1 16777216) false) false) false) false) false)
    (ih I tl loc st fs (w.1, e_tset 9 w.2 vd.2 (some (1, cd.2.1, cd.2.2.1, e_cpy cs.2.2.2 cs.2.2.1 vsp.2 vdp.2 cd.2.2.1 cd.2.2.2 vn.2))) iv) false))) false)))
def h_i2c : e_H := fun ih e tl I loc stk fs w iv => e_q1 stk (fun v st => e_con iv v (fun n => ih I tl loc ((0, e_u ((e_i n).toUInt32 % 65536).toInt32) :: st) fs w iv) (e_sp ih (e :: tl) I loc stk fs w iv))
def h_i2f : e_H := fun ih _ tl I loc stk fs w iv => e_q1 stk (fun v st => cond (Nat.beq v.1 0) (ih I tl loc ((6, (FP.i2f (e_i v.2)).toNat) :: st) fs w iv) false)
def h_fdiv : e_H := fun ih _ tl I loc stk fs w iv => e_q2 stk (fun v u st => cond (cond (Nat.beq v.1 6) (cond (Nat.beq u.1 6) (decide ((FP.fdiv (UInt32.ofNat u.2) (UInt32.ofNat v.2)) &&& 0x7fffffff ≤ 0x7f800000)) false) false) (ih I tl loc ((6, (FP.fdiv (UInt32.ofNat u.2) (UInt32.ofNat v.2)).toNat) :: st) fs w iv) false)
def h_f2d : e_H := fun ih _ tl I loc stk fs w iv => e_q1 stk (fun v st => cond (cond (Nat.beq v.1 6) (decide ((FP.f2d (UInt32.ofNat v.2)) &&& 0x7fffffffffffffff ≤ 0x7ff0000000000000)) false) (ih I tl loc ((7, (FP.f2d (UInt32.ofNat v.2)).toNat) :: st) fs w iv) false)
def h_dcmp : e_H := fun ih _ tl I loc stk fs w iv => e_q2 stk (fun v u st => cond (cond (Nat.beq v.1 7) (Nat.beq u.1 7) false) (ih I tl loc ((0, e_u (Op.cmpValue (FP.dcmp (UInt64.ofNat u.2) (UInt64.ofNat v.2)) .l)) :: st) fs w iv) false)
def h_tget : e_H := fun ih e tl I loc stk fs w iv => e_q1 stk (fun v st => cond (Nat.beq v.1 8) (ih I tl loc (cond (Nat.beq e.2.2.1 0) (9, v.2) (0, 0) :: st) fs w iv) false)
def h_tlen : e_H := fun ih _ tl I loc stk fs w iv => e_q1 stk (fun v st => cond (Nat.beq v.1 9) (ih I tl loc ((0, (e_tx v.2).length) :: st) fs w iv) false)
def h_tald : e_H := fun ih e tl I loc stk fs w iv => e_q2 stk (fun v u st => e_con iv v (fun n => cond (Nat.beq u.1 9) (cond (Nat.ble (Nat.succ n) (e_tx u.2).length) (ih I tl loc ((0, e_ov (e_tx u.2) n) :: st) fs w iv) false) false) (e_sp ih (e :: tl) I loc stk fs w iv))
def h_astq : e_H := fun ih e tl I loc stk fs w iv => e_q2 stk (fun v u s2 => e_q1 s2 (fun z st => e_con iv u (fun n => e_cell w z (fun c => cond (Nat.beq c.1 e.2.2.1) (cond (Nat.ble (Nat.succ n) c.2.1)
  (cond (cond (Nat.beq v.1 3) true (cond (Nat.beq v.1 2) (Option.rec (motive := fun _ => Bool) false (fun cv => cond (Nat.beq cv.1 0) (Nat.beq (Nat.add 4 cv.2.1) e.2.2.1) false) (e_tget 9 w.2 v.2)) false))
  (ih I tl loc st fs (cond (e_eqV (e_get c.2.2.2 n c.2.2.1) v) w (w.1, e_tset 9 w.2 z.2 (some (c.1, c.2.1, c.2.2.1, e_set c.2.2.2 n v)))) iv) false) false) false)) (e_sp ih (e :: tl) I loc stk fs w iv)))
def e_hsA : List e_H := [h_no, h_load, h_const, h_goto, h_iinc, h_retv, h_throw, h_new, h_call, h_store, h_if, h_get, h_alen, h_ret, h_newa, h_ifn, h_icmp, h_ibin, h_ald, h_putf, h_dup, h_pop, h_i2l, h_l2i, h_tsw, h_objinit, h_lbin, h_lsh, h_lcmp, h_acmp, h_ast, h_dup2, h_const, h_acopy, h_const, h_i2c, h_i2f, h_fdiv, h_f2d, h_dcmp, h_tget, h_tlen, h_tald, h_astq]
def e_sel (op : Nat) : Unit × e_H := ((), List.rec (motive := fun _ => Nat → e_H) (fun _ => h_no) (fun h _ ih k => Nat.rec (motive := fun _ => e_H) h (fun k' _ => ih k') k) e_hsA op)
def e_step (ih : e_A) : e_A := fun I cod loc stk fs w iv => List.rec (motive := fun _ => Bool) false (fun e tl _ => (e_sel e.2.1).2 ih e tl I loc stk fs w iv) cod
def e_acc (n : Nat) : e_A := Nat.rec (motive := fun _ => e_A) (fun _ _ _ _ _ _ _ => false) (fun _ ih => e_step ih) n
end
end
section
/-! WHAT THE ENGINE'S NUMBERS MEAN: values, cells, worlds, frames; and the goal of a configuration. -/
def e_gw : List Cond := lw_tbl.filter goodWord
def e_isHot (w : Cond) : Bool := match w with
  | .fieldLinkNest .. => true
  | .methodLinkNest .. => true
  | .castable .. => true
  | .declares .. => true
  | .arrayOver (.object _) => true
  | _ => false
def e_hot : List Cond := lw_tbl.filter e_isHot
def e_nf (ci : Nat) : Nat := (e_fts ci).length
def e_FT (ci : Nat) : u_T := fun k => (e_fts ci).getD k ("", "", "", false)
def e_ty (ci k : Nat) : FieldType := (parseFieldDescriptor (e_FT ci k).2.2.1).getD .int
def e_cl : List vw_C := (List.range e_nc).map (fun ci => (e_cn ci, e_FT ci, e_nf ci))
theorem e_cl_at {ci : Nat} (h : ci < e_nc) : e_cl[ci]? = some (e_cn ci, e_FT ci, e_nf ci) := by
  simp [e_cl, h]
/-- the unknown ints rho, the texts ta, the script b of L ints, the addresses ads -/
def e_VR (rho : Nat → Int32) (ta : Nat → Nat × Nat) (b L : Nat) (ads : List Nat) (v : e_V) (cv : Value) : Prop :=
  match v.1 with
  | 0 => cv = .int (e_i v.2)
  | 1 => cv = .long (e_l v.2)
  | 2 => ∃ a, ads[v.2]? = some a ∧ cv = .ref a
  | 3 => cv = .null
  | 4 => cv = .int (rho v.2)
  | 5 => cv = .null ∨ ∃ a, cv = .ref a
  | 6 => cv = .float (UInt32.ofNat v.2)
  | 7 => cv = .double (UInt64.ofNat v.2)
  | 8 => cv = .ref (ta v.2).1 ∧ v.2 < e_srs.length
  | 9 => cv = .ref (ta v.2).2 ∧ v.2 < e_srs.length
  | 10 => cv = .ref b ∧ v.2 = L
  | _ => False
section
variable {rho : Nat → Int32} {ta : Nat → Nat × Nat} {b L : Nat} {ads ads' : List Nat} {v : e_V} {cv : Value}
theorem e_VR.mono (h : e_VR rho ta b L ads v cv) (hp : ads <+: ads') : e_VR rho ta b L ads' v cv := by
  obtain ⟨t, n⟩ := v
  unfold e_VR at *
  dsimp only at *
  split at h <;> try exact h
  obtain ⟨a, h1, h2⟩ := h
  refine ⟨a, ?_, h2⟩
  obtain ⟨r, rfl⟩ := hp
  rw [List.getElem?_append_left (List.getElem?_eq_some_iff.mp h1).1]
  exact h1
theorem e_VR.int (h : e_VR rho ta b L ads v cv) (hi : e_is 0 v.1 = true) : ∃ x, cv = .int x := by
  obtain ⟨t, n⟩ := v
  unfold e_VR at h
  unfold e_is at hi
  dsimp only at *
  split at h <;> first | exact h.elim | exact ⟨_, h⟩ | (simp at hi; done)
theorem e_VR.cat (h : e_VR rho ta b L ads v cv) : (cv.category = 2 ↔ e_cat2 v.1 = true) := by
  obtain ⟨t, n⟩ := v
  unfold e_VR at h
  dsimp only at h ⊢
  split at h <;> first | (subst h; simp [Value.category, e_cat2]; done) | (obtain ⟨a, h1, h2⟩ := h; subst h2; simp [Value.category, e_cat2]; done) | (rcases h with rfl | ⟨a, rfl⟩ <;> simp [Value.category, e_cat2]; done) | (obtain ⟨rfl, h2⟩ := h; simp [Value.category, e_cat2]; done) | exact h.elim
end

section
variable {rho : Nat → Int32} {ta : Nat → Nat × Nat} {b L : Nat} {ads ads' : List Nat} {v : e_V} {cv : Value}
theorem e_or {a c : Bool} (h : cond a true c = true) : a = true ∨ c = true := by
  cases a
  · exact Or.inr h
  · exact Or.inl rfl
theorem e_and {a c : Bool} (h : cond a c false = true) : a = true ∧ c = true := by
  cases a
  · cases h
  · exact ⟨rfl, h⟩
theorem e_nand {a c : Bool} (h : cond a false c = true) : a = false ∧ c = true := by
  cases a
  · exact ⟨rfl, h⟩
  · cases h
theorem e_ite {a x y : Bool} (h : cond a x y = true) : (a = true ∧ x = true) ∨ (a = false ∧ y = true) := by
  cases a
  · exact Or.inr ⟨rfl, h⟩
  · exact Or.inl ⟨rfl, h⟩
theorem e_beq {a c : Nat} (h : Nat.beq a c = true) : a = c := Nat.eq_of_beq_eq_true h
theorem e_bne {a c : Nat} (h : Nat.beq a c = false) : a ≠ c := Nat.ne_of_beq_eq_false h
theorem e_ble {a c : Nat} (h : Nat.ble a c = true) : a ≤ c := Nat.le_of_ble_eq_true h
theorem e_nble {a c : Nat} (h : Nat.ble a c = false) : c < a := by
  rcases Nat.lt_or_ge c a with q | q
  · exact q
  · rw [Nat.ble_eq_true_of_le q] at h; cases h
theorem e_is_0 {t : Nat} (h : e_is 0 t = true) : t = 0 ∨ t = 4 := by
  rcases e_or (show cond (Nat.beq t 0) true (Nat.beq t 4) = true from h) with q | q
  · exact Or.inl (e_beq q)
  · exact Or.inr (e_beq q)
theorem e_is_1 {t : Nat} (h : e_is 1 t = true) : t = 1 := e_beq h
theorem e_is_2 {t : Nat} (h : e_is 2 t = true) : t = 2 ∨ t = 3 ∨ t = 5 ∨ t = 8 ∨ t = 9 ∨ t = 10 := by
  rcases e_or (show cond (Nat.beq t 2) true (cond (Nat.beq t 3) true (cond (Nat.beq t 5) true (cond (Nat.ble t 7) false (Nat.ble t 10)))) = true from h) with q | q
  · exact Or.inl (e_beq q)
  rcases e_or q with q | q
  · exact Or.inr (Or.inl (e_beq q))
  rcases e_or q with q | q
  · exact Or.inr (Or.inr (Or.inl (e_beq q)))
  obtain ⟨q1, q2⟩ := e_nand q
  have := e_nble q1
  have := e_ble q2
  omega
theorem e_is_3 {t : Nat} (h : e_is 3 t = true) : t = 6 := e_beq h
theorem e_is_4 {t : Nat} (h : e_is 4 t = true) : t = 7 := e_beq h
theorem e_VR.long (h : e_VR rho ta b L ads v cv) (hi : v.1 = 1) : cv = .long (e_l v.2) := by
  unfold e_VR at h; rw [hi] at h; exact h
theorem e_VR.float (h : e_VR rho ta b L ads v cv) (hi : v.1 = 6) : cv = .float (UInt32.ofNat v.2) := by
  unfold e_VR at h; rw [hi] at h; exact h
theorem e_VR.double (h : e_VR rho ta b L ads v cv) (hi : v.1 = 7) : cv = .double (UInt64.ofNat v.2) := by
  unfold e_VR at h; rw [hi] at h; exact h
theorem e_VR.cell (h : e_VR rho ta b L ads v cv) (hi : v.1 = 2) : ∃ a, ads[v.2]? = some a ∧ cv = .ref a := by
  unfold e_VR at h; rw [hi] at h; exact h
theorem e_VR.null (h : e_VR rho ta b L ads v cv) (hi : v.1 = 3) : cv = .null := by
  unfold e_VR at h; rw [hi] at h; exact h
theorem e_VR.refs (h : e_VR rho ta b L ads v cv) (hi : e_is 2 v.1 = true) : (∃ a, cv = .ref a) ∨ cv = .null := by
  rcases e_is_2 hi with q | q | q | q | q | q <;> unfold e_VR at h <;> rw [q] at h
  · obtain ⟨a, -, h⟩ := h; exact Or.inl ⟨a, h⟩
  · exact Or.inr h
  · rcases h with h | h
    · exact Or.inr h
    · exact Or.inl h
  · exact Or.inl ⟨_, h.1⟩
  · exact Or.inl ⟨_, h.1⟩
  · exact Or.inl ⟨_, h.1⟩
/-- stacks -/
def e_SR (rho : Nat → Int32) (ta : Nat → Nat × Nat) (b L : Nat) (ads : List Nat) : List e_V → List Value → Prop
  | [], cs => cs = []
  | v :: st, cs => ∃ c cs', cs = c :: cs' ∧ e_VR rho ta b L ads v c ∧ e_SR rho ta b L ads st cs'
theorem e_SR.mono {st : List e_V} {cs : List Value} (hp : ads <+: ads') (h : e_SR rho ta b L ads st cs) : e_SR rho ta b L ads' st cs := by
  induction st generalizing cs with
  | nil => exact h
  | cons v st ih =>
    obtain ⟨c, cs', h1, h2, h3⟩ := h
    exact ⟨c, cs', h1, h2.mono hp, ih h3⟩
/-- local variables -/
def e_LR (rho : Nat → Int32) (ta : Nat → Nat × Nat) (b L : Nat) (ads : List Nat) (nL : Nat) (ls : Array Slot) (loc : List e_V) : Prop :=
  ∃ lv, lv_has ls nL lv ∧ ∀ i, (e_nth loc i).1 ≠ 99 → ∃ cv, (i, cv) ∈ lv ∧ e_VR rho ta b L ads (e_nth loc i) cv
theorem e_LR.mono {nL : Nat} {ls : Array Slot} {loc : List e_V} (hp : ads <+: ads') (h : e_LR rho ta b L ads nL ls loc) : e_LR rho ta b L ads' nL ls loc := by
  obtain ⟨lv, h1, h2⟩ := h
  refine ⟨lv, h1, fun i hi => ?_⟩
  obtain ⟨cv, q1, q2⟩ := h2 i hi
  exact ⟨cv, q1, q2.mono hp⟩
theorem e_LR.at {nL : Nat} {ls : Array Slot} {loc : List e_V} (h : e_LR rho ta b L ads nL ls loc) {i : Nat} (hi : (e_nth loc i).1 ≠ 99) : ∃ cv, ls[i]? = some (.val cv) ∧ e_VR rho ta b L ads (e_nth loc i) cv := by
  obtain ⟨lv, h1, h2⟩ := h
  obtain ⟨cv, q1, q2⟩ := h2 i hi
  exact ⟨cv, h1.2.2 (i, cv) q1, q2⟩
theorem e_nth_n (i : Nat) : e_nth [] i = (99, 0) := rfl
theorem e_nth_0 (u : e_V) (t : List e_V) : e_nth (u :: t) 0 = u := rfl
theorem e_nth_s (u : e_V) (t : List e_V) (i : Nat) : e_nth (u :: t) (i + 1) = e_nth t i := rfl
theorem e_put_n (i : Nat) (v : e_V) : e_put [] i v = [] := rfl
theorem e_put_0 (u : e_V) (t : List e_V) (v : e_V) : e_put (u :: t) 0 v = v :: t := rfl
theorem e_put_s (u : e_V) (t : List e_V) (i : Nat) (v : e_V) : e_put (u :: t) (i + 1) v = u :: e_put t i v := rfl
theorem e_nth_put (l : List e_V) (i j : Nat) (v : e_V) : e_nth (e_put l i v) j = if j = i then (if i < l.length then v else (99, 0)) else e_nth l j := by
  induction l generalizing i j with
  | nil => rw [e_put_n, e_nth_n]; split <;> simp
  | cons u t ih =>
    cases i with
    | zero =>
      cases j with
      | zero => rw [e_put_0, e_nth_0]; simp
      | succ j => rw [e_put_0, e_nth_s, e_nth_s]; simp
    | succ i =>
      cases j with
      | zero => rw [e_put_s, e_nth_0, e_nth_0]; simp
      | succ j =>
        rw [e_put_s, e_nth_s, e_nth_s, ih i j]
        simp
theorem e_put_len (l : List e_V) (i : Nat) (v : e_V) : (e_put l i v).length = l.length := by
  induction l generalizing i with
  | nil => rfl
  | cons u t ih =>
    cases i with
    | zero => rfl
    | succ i => rw [e_put_s]; simp [ih i]
/-- what a store leaves at each place -/
theorem e_nth_store (l : List e_V) (i j : Nat) (v : e_V) (h : (e_nth (e_store l i v) j).1 ≠ 99) : (j = i ∧ e_nth (e_store l i v) j = v) ∨ (j ≠ i ∧ e_nth (e_store l i v) j = e_nth l j ∧ ¬ (j + 1 = i ∧ e_cat2 (e_nth l j).1 = true) ∧ ¬ (e_cat2 v.1 = true ∧ j = i + 1)) := by
  have key : ∀ l2 : List e_V, l2 = cond (e_cat2 v.1) (e_put (e_put l i v) (Nat.succ i) (99, 0)) (e_put l i v) → ∀ j, (e_nth l2 j).1 ≠ 99 → (j = i ∧ e_nth l2 j = v) ∨ (j ≠ i ∧ e_nth l2 j = e_nth l j ∧ ¬ (e_cat2 v.1 = true ∧ j = i + 1)) := by
    intro l2 e j hj
    have h1 : ∀ j, (e_nth (e_put l i v) j).1 ≠ 99 → (j = i ∧ e_nth (e_put l i v) j = v) ∨ (j ≠ i ∧ e_nth (e_put l i v) j = e_nth l j) := by
      intro j hj
      rw [e_nth_put] at hj ⊢
      by_cases q : j = i
      · rw [if_pos q] at hj ⊢
        by_cases z : i < l.length
        · rw [if_pos z]; exact Or.inl ⟨q, rfl⟩
        · rw [if_neg z] at hj; exact absurd rfl hj
      · rw [if_neg q]; exact Or.inr ⟨q, rfl⟩
    cases hc : e_cat2 v.1 with
    | false =>
      rw [hc] at e
      subst e
      rcases h1 j hj with q | ⟨q1, q2⟩
      · exact Or.inl q
      · exact Or.inr ⟨q1, q2, fun z => by cases z.1⟩
    | true =>
      rw [hc] at e
      have e : l2 = e_put (e_put l i v) (Nat.succ i) (99, 0) := e
      subst e
      by_cases q : j = Nat.succ i
      · rw [e_nth_put, if_pos q] at hj
        split at hj <;> exact absurd rfl hj
      · rw [e_nth_put, if_neg q] at hj ⊢
        rcases h1 j hj with q0 | ⟨q1, q2⟩
        · exact Or.inl q0
        · exact Or.inr ⟨q1, q2, fun z => q z.2⟩
  cases i with
  | zero =>
    rcases key _ rfl j h with q | ⟨q1, q2, q3⟩
    · exact Or.inl q
    · exact Or.inr ⟨q1, q2, fun z => by omega, q3⟩
  | succ i =>
    have e : e_store l (i + 1) v = cond (e_cat2 (e_nth l i).1) (e_put (cond (e_cat2 v.1) (e_put (e_put l (i + 1) v) (Nat.succ (i + 1)) (99, 0)) (e_put l (i + 1) v)) i (99, 0)) (cond (e_cat2 v.1) (e_put (e_put l (i + 1) v) (Nat.succ (i + 1)) (99, 0)) (e_put l (i + 1) v)) := rfl
    rw [e] at h ⊢
    cases hc : e_cat2 (e_nth l i).1 with
    | false =>
      rw [hc] at h
      rcases key _ rfl j h with q | ⟨q1, q2, q3⟩
      · exact Or.inl q
      · refine Or.inr ⟨q1, q2, fun z => ?_, q3⟩
        have e3 : j = i := by omega
        subst e3
        rw [hc] at z
        cases z.2
    | true =>
      rw [hc] at h
      have h : (e_nth (e_put (cond (e_cat2 v.1) (e_put (e_put l (i + 1) v) (Nat.succ (i + 1)) (99, 0)) (e_put l (i + 1) v)) i (99, 0)) j).1 ≠ 99 := h
      show (j = i + 1 ∧ e_nth (e_put (cond (e_cat2 v.1) (e_put (e_put l (i + 1) v) (Nat.succ (i + 1)) (99, 0)) (e_put l (i + 1) v)) i (99, 0)) j = v) ∨ (j ≠ i + 1 ∧ e_nth (e_put (cond (e_cat2 v.1) (e_put (e_put l (i + 1) v) (Nat.succ (i + 1)) (99, 0)) (e_put l (i + 1) v)) i (99, 0)) j = e_nth l j ∧ _)
      by_cases q : j = i
      · rw [e_nth_put, if_pos q] at h
        split at h <;> exact absurd rfl h
      · rw [e_nth_put, if_neg q] at h ⊢
        rcases key _ rfl j h with q0 | ⟨q1, q2, q3⟩
        · exact Or.inl q0
        · exact Or.inr ⟨q1, q2, fun z => q (by omega), q3⟩
end

section
variable {rho : Nat → Int32} {ta : Nat → Nat × Nat} {b L : Nat} {ads ads' : List Nat} {v : e_V} {cv : Value}
theorem e_LR.sto1 {nL i : Nat} {ls' : Array Slot} {loc : List e_V} {lv : List (Nat × Value)} (h : ∀ i, (e_nth loc i).1 ≠ 99 → ∃ cv, (i, cv) ∈ lv ∧ e_VR rho ta b L ads (e_nth loc i) cv) (hv : e_VR rho ta b L ads v cv) (hc : e_cat2 v.1 = false)
    (h2 : lv_has ls' nL ((i, cv) :: lv.filter (fun q => !(q.1 == i) && !(q.1 + 1 == i && q.2.category == 2)))) : e_LR rho ta b L ads nL ls' (e_store loc i v) := by
  refine ⟨_, h2, fun j hj => ?_⟩
  rcases e_nth_store loc i j v hj with ⟨q1, q2⟩ | ⟨q1, q2, q3, q4⟩
  · rw [q2, q1]
    exact ⟨cv, List.mem_cons_self, hv⟩
  · rw [q2] at hj ⊢
    obtain ⟨cw, w1, w2⟩ := h j hj
    refine ⟨cw, List.mem_cons_of_mem _ (List.mem_filter.mpr ⟨w1, ?_⟩), w2⟩
    have hcat := w2.cat
    by_cases z : j + 1 = i
    · have : ¬ cw.category = 2 := fun y => q3 ⟨z, hcat.mp y⟩
      simp [q1, this]
    · simp [q1, z]
theorem e_LR.sto2 {nL i : Nat} {ls' : Array Slot} {loc : List e_V} {lv : List (Nat × Value)} (h : ∀ i, (e_nth loc i).1 ≠ 99 → ∃ cv, (i, cv) ∈ lv ∧ e_VR rho ta b L ads (e_nth loc i) cv) (hv : e_VR rho ta b L ads v cv) (hc : e_cat2 v.1 = true)
    (h2 : lv_has ls' nL ((i, cv) :: lv.filter (fun q => !(q.1 == i) && (!(q.1 == i + 1) && !(q.1 + 1 == i && q.2.category == 2))))) : e_LR rho ta b L ads nL ls' (e_store loc i v) := by
  refine ⟨_, h2, fun j hj => ?_⟩
  rcases e_nth_store loc i j v hj with ⟨q1, q2⟩ | ⟨q1, q2, q3, q4⟩
  · rw [q2, q1]
    exact ⟨cv, List.mem_cons_self, hv⟩
  · rw [q2] at hj ⊢
    obtain ⟨cw, w1, w2⟩ := h j hj
    refine ⟨cw, List.mem_cons_of_mem _ (List.mem_filter.mpr ⟨w1, ?_⟩), w2⟩
    have hcat := w2.cat
    have q5 : ¬ j = i + 1 := fun y => q4 ⟨hc, y⟩
    by_cases z : j + 1 = i
    · have : ¬ cw.category = 2 := fun y => q3 ⟨z, hcat.mp y⟩
      simp [q1, q5, this]
    · simp [q1, q5, z]
end
/-- ints in order, moved up by 2^31 -/
def e_o (x : Int32) : Nat := e_off x.toBitVec.toNat
theorem e_off_eq (n : Nat) : e_off n = (n + 2147483648) % 4294967296 := rfl
theorem e_i_nat (n : Nat) : (e_i n).toBitVec.toNat = n % 4294967296 := by
  rw [show (e_i n).toBitVec = BitVec.ofNat 32 n from rfl, BitVec.toNat_ofNat]
theorem e_i_mod (n : Nat) : e_i (n % 4294967296) = e_i n := by
  apply Int32.toBitVec_inj.mp
  apply BitVec.eq_of_toNat_eq
  rw [e_i_nat, e_i_nat]
  omega
theorem e_i_u (x : Int32) : e_i (e_u x) = x := by
  apply Int32.toBitVec_inj.mp
  apply BitVec.eq_of_toNat_eq
  rw [e_i_nat]
  exact Nat.mod_eq_of_lt x.toBitVec.isLt
theorem e_l_nat (n : Nat) : (e_l n).toBitVec.toNat = n % 18446744073709551616 := by
  rw [show (e_l n).toBitVec = BitVec.ofNat 64 n from rfl, BitVec.toNat_ofNat]
theorem e_l_u (x : Int64) : e_l (e_ul x) = x := by
  apply Int64.toBitVec_inj.mp
  apply BitVec.eq_of_toNat_eq
  rw [e_l_nat]
  exact Nat.mod_eq_of_lt x.toBitVec.isLt
theorem e_o_i (n : Nat) : e_o (e_i n) = e_off n := by
  show e_off (e_i n).toBitVec.toNat = e_off n
  rw [e_i_nat, e_off_eq, e_off_eq]
  omega
theorem e_o_lt (x : Int32) : e_o x < 4294967296 := by
  show e_off _ < _
  rw [e_off_eq]
  omega
theorem e_i_o (x : Int32) : e_i (e_off (e_o x)) = x := by
  apply Int32.toBitVec_inj.mp
  apply BitVec.eq_of_toNat_eq
  rw [e_i_nat]
  show e_off (e_off x.toBitVec.toNat) % _ = _
  rw [e_off_eq, e_off_eq]
  have := x.toBitVec.isLt
  omega
theorem e_o_inj {x y : Int32} : x = y ↔ e_o x = e_o y := by
  refine ⟨fun h => by rw [h], fun h => ?_⟩
  rw [← e_i_o x, ← e_i_o y, h]
theorem e_o_int (x : Int32) : (e_o x : Int) = x.toInt + 2147483648 := by
  show ((e_off x.toBitVec.toNat : Nat) : Int) = x.toBitVec.toInt + _
  rw [e_off_eq, BitVec.toInt_eq_toNat_cond]
  have := x.toBitVec.isLt
  split <;> omega
theorem e_o_ltI {x y : Int32} : x < y ↔ e_o x < e_o y := by
  rw [Int32.lt_iff_toInt_lt]
  have := e_o_int x
  have := e_o_int y
  omega
theorem e_o_leI {x y : Int32} : x ≤ y ↔ e_o x ≤ e_o y := by
  rw [Int32.le_iff_toInt_le]
  have := e_o_int x
  have := e_o_int y
  omega
def e_IV (rho : Nat → Int32) (iv : e_I) : Prop := ∀ k, (e_iv iv k).1 ≤ e_o (rho k) ∧ e_o (rho k) ≤ (e_iv iv k).2
theorem e_iv_ivp (l : e_I) (i j : Nat) (r : Nat × Nat) : e_iv (e_ivp l i r) j = if j = i then (if i < l.length then r else (0, 4294967295)) else e_iv l j := by
  induction l generalizing i j with
  | nil =>
    show (0, 4294967295) = if j = i then (if i < ([] : e_I).length then r else (0, 4294967295)) else (0, 4294967295)
    split <;> simp
  | cons u t ih =>
    cases i with
    | zero =>
      cases j with
      | zero => rfl
      | succ j => show e_iv t j = _; simp; rfl
    | succ i =>
      cases j with
      | zero => show u = _; simp; rfl
      | succ j =>
        show e_iv (e_ivp t i r) j = _
        rw [ih i j]
        simp
        rfl
theorem e_IV.split {rho : Nat → Int32} {iv : e_I} (h : e_IV rho iv) (k c : Nat) : e_IV rho (e_ivp iv k ((e_iv iv k).1, c)) ∨ e_IV rho (e_ivp iv k (Nat.succ c, (e_iv iv k).2)) := by
  have hh := h k
  have hb := e_o_lt (rho k)
  rcases Nat.lt_or_ge c (e_o (rho k)) with q | q
  · refine Or.inr (fun j => ?_)
    rw [e_iv_ivp]
    by_cases z : j = k
    · subst z
      rw [if_pos rfl]
      split
      · exact ⟨q, hh.2⟩
      · exact ⟨Nat.zero_le _, by omega⟩
    · rw [if_neg z]; exact h j
  · refine Or.inl (fun j => ?_)
    rw [e_iv_ivp]
    by_cases z : j = k
    · subst z
      rw [if_pos rfl]
      split
      · exact ⟨hh.1, q⟩
      · exact ⟨Nat.zero_le _, by omega⟩
    · rw [if_neg z]; exact h j

section
variable {rho : Nat → Int32} {ta : Nat → Nat × Nat} {b L : Nat} {ads ads' : List Nat} {v u : e_V} {cv : Value} {iv : e_I} {x y : Int32} {kt kf : Bool} {ks : Nat → Nat → Bool}
theorem e_con_s {kk : Nat → Bool} (hiv : e_IV rho iv) (hv : e_VR rho ta b L ads v cv) (h : e_con iv v kk ks = true) : (∃ n, cv = .int (e_i n) ∧ kk n = true) ∨ ∃ k c, ks k c = true := by
  obtain ⟨t, n⟩ := v
  rcases e_ite (show cond (Nat.beq t 0) (kk n) (cond (Nat.beq t 4) (e_conR (e_iv iv n) n kk ks) false) = true from h) with ⟨q, h⟩ | ⟨-, h⟩
  · have q := e_beq q
    subst q
    exact Or.inl ⟨n, hv, h⟩
  obtain ⟨q, h⟩ := e_and h
  have q := e_beq q
  subst q
  have hv : cv = .int (rho n) := hv
  rcases e_ite (show cond (Nat.beq (e_iv iv n).1 (e_iv iv n).2) (kk (e_off (e_iv iv n).1)) (cond (Nat.ble (e_iv iv n).2 (Nat.add (e_iv iv n).1 70)) (ks n (e_iv iv n).1) false) = true from h) with ⟨q, h⟩ | ⟨-, h⟩
  · have q := e_beq q
    have hr := hiv n
    have e1 : e_o (rho n) = (e_iv iv n).1 := by omega
    refine Or.inl ⟨_, ?_, h⟩
    rw [← e1, e_i_o]
    exact hv
  · obtain ⟨-, h⟩ := e_and h
    exact Or.inr ⟨_, _, h⟩
theorem e_rng_s (hiv : e_IV rho iv) (hi : e_is 0 v.1 = true) (hv : e_VR rho ta b L ads v (.int x)) : (e_rng iv v).1 ≤ e_o x ∧ e_o x ≤ (e_rng iv v).2 := by
  obtain ⟨t, n⟩ := v
  rcases e_is_0 hi with q | q
  · have q : t = 0 := q
    subst q
    have hv : Value.int x = .int (e_i n) := hv
    cases hv
    rw [show e_rng iv (0, n) = (e_off n, e_off n) from rfl, e_o_i]
    generalize e_off n = z
    exact ⟨Nat.le_refl _, Nat.le_refl _⟩
  · have q : t = 4 := q
    subst q
    have hv : Value.int x = .int (rho n) := hv
    cases hv
    exact hiv n
theorem e_lt_s {ra rb : Nat × Nat} (ha : ra.1 ≤ e_o x ∧ e_o x ≤ ra.2) (hb : rb.1 ≤ e_o y ∧ e_o y ≤ rb.2) (h : e_ltR ra rb v u kt kf ks = true) : (x < y ∧ kt = true) ∨ (¬ x < y ∧ kf = true) ∨ ∃ k c, ks k c = true := by
  rcases e_ite h with ⟨q, h⟩ | ⟨-, h⟩
  · have := e_ble q
    exact Or.inl ⟨e_o_ltI.mpr (by omega), h⟩
  rcases e_ite h with ⟨q, h⟩ | ⟨-, h⟩
  · have := e_ble q
    exact Or.inr (Or.inl ⟨fun z => by have := e_o_ltI.mp z; omega, h⟩)
  refine Or.inr (Or.inr ?_)
  rcases e_ite h with ⟨-, h⟩ | ⟨-, h⟩
  · rcases e_ite h with ⟨-, h⟩ | ⟨-, h⟩ <;> exact ⟨_, _, h⟩
  · exact ⟨_, _, h⟩
theorem e_eq_s {ra rb : Nat × Nat} (ha : ra.1 ≤ e_o x ∧ e_o x ≤ ra.2) (hb : rb.1 ≤ e_o y ∧ e_o y ≤ rb.2) (h : e_eqR ra rb v u kt kf ks = true) : (x = y ∧ kt = true) ∨ (¬ x = y ∧ kf = true) ∨ ∃ k c, ks k c = true := by
  rcases e_ite h with ⟨q, h⟩ | ⟨z1, h⟩
  · have := e_ble q
    exact Or.inr (Or.inl ⟨fun z => by have := e_o_inj.mp z; omega, h⟩)
  rcases e_ite h with ⟨q, h⟩ | ⟨z2, h⟩
  · have := e_ble q
    exact Or.inr (Or.inl ⟨fun z => by have := e_o_inj.mp z; omega, h⟩)
  rcases e_ite h with ⟨q1, h⟩ | ⟨-, h⟩
  · rcases e_ite h with ⟨q2, h⟩ | ⟨-, h⟩
    · have := e_nble z1
      have := e_nble z2
      have := e_beq q1
      have := e_beq q2
      exact Or.inl ⟨e_o_inj.mpr (by omega), h⟩
    · rcases e_ite h with ⟨-, h⟩ | ⟨-, h⟩ <;> exact Or.inr (Or.inr ⟨_, _, h⟩)
  · rcases e_ite h with ⟨-, h⟩ | ⟨-, h⟩ <;> exact Or.inr (Or.inr ⟨_, _, h⟩)
/-- a condition of the machine on two ints -/
def e_cc (cc : Nat) (x y : Int32) : Prop := match cc with
  | 0 => x = y
  | 1 => ¬ x = y
  | 2 => x < y
  | 3 => ¬ x < y
  | 4 => y < x
  | _ => ¬ y < x
theorem e_cmp_s {cu cw : Value} {cc : Nat} (hiv : e_IV rho iv) (hv : e_VR rho ta b L ads v cu) (hu : e_VR rho ta b L ads u cw) (h : e_cmp iv cc v u kt kf ks = true) : ∃ x y, cu = .int x ∧ cw = .int y ∧ ((e_cc cc x y ∧ kt = true) ∨ (¬ e_cc cc x y ∧ kf = true) ∨ ∃ k c, ks k c = true) := by
  obtain ⟨q, h⟩ := e_and h
  obtain ⟨i1, i2⟩ := e_and q
  obtain ⟨x, rfl⟩ := hv.int i1
  obtain ⟨y, rfl⟩ := hu.int i2
  have r1 := e_rng_s hiv i1 hv
  have r2 := e_rng_s hiv i2 hu
  refine ⟨x, y, rfl, rfl, ?_⟩
  rcases e_ite h with ⟨c1, h⟩ | ⟨c1, h⟩
  · rcases e_ite h with ⟨c2, h⟩ | ⟨c2, h⟩
    · have e1 := e_beq c2
      subst e1
      exact e_eq_s r1 r2 h
    · have e1 : cc = 1 := by have := e_ble c1; have := e_bne c2; omega
      subst e1
      rcases e_eq_s r1 r2 h with ⟨a, g⟩ | ⟨a, g⟩ | g
      · exact Or.inr (Or.inl ⟨fun z => z a, g⟩)
      · exact Or.inl ⟨a, g⟩
      · exact Or.inr (Or.inr g)
  have c1 := e_nble c1
  rcases e_ite h with ⟨c2, h⟩ | ⟨c2, h⟩
  · rcases e_ite h with ⟨c3, h⟩ | ⟨c3, h⟩
    · have e1 := e_beq c3
      subst e1
      exact e_lt_s r1 r2 h
    · have e1 : cc = 3 := by have := e_ble c2; have := e_bne c3; omega
      subst e1
      rcases e_lt_s r1 r2 h with ⟨a, g⟩ | ⟨a, g⟩ | g
      · exact Or.inr (Or.inl ⟨fun z => z a, g⟩)
      · exact Or.inl ⟨a, g⟩
      · exact Or.inr (Or.inr g)
  have c2 := e_nble c2
  rcases e_ite h with ⟨c3, h⟩ | ⟨c3, h⟩
  · have e1 := e_beq c3
    subst e1
    exact e_lt_s r2 r1 h
  · have c3 := e_bne c3
    have e2 : e_cc cc x y = ¬ y < x := by
      match cc, c1, c2, c3 with
      | 5, _, _, _ => rfl
      | n + 6, _, _, _ => rfl
      | 4, _, _, c3 => exact absurd rfl c3
    rw [e2]
    rcases e_lt_s r2 r1 h with ⟨a, g⟩ | ⟨a, g⟩ | g
    · exact Or.inr (Or.inl ⟨fun z => z a, g⟩)
    · exact Or.inl ⟨a, g⟩
    · exact Or.inr (Or.inr g)
end

/-- the tree of cells -/
theorem e_tget_set : ∀ (n : Nat) (t : e_T n) (i j : Nat) (c : Option e_C), i < 2 ^ n → j < 2 ^ n → e_tget n (e_tset n t i c) j = if j = i then c else e_tget n t j := by
  intro n
  induction n with
  | zero =>
    intro t i j c hi hj
    have e1 : i = 0 := by omega
    have e2 : j = 0 := by omega
    subst e1; subst e2
    rw [if_pos rfl]
    rfl
  | succ n ih =>
    intro t i j c hi hj
    obtain ⟨a, d⟩ := t
    have hg : ∀ (x y : e_T n) (k : Nat), e_tget (n + 1) (x, y) k = cond (Nat.beq (Nat.mod k 2) 0) (e_tget n x (Nat.div k 2)) (e_tget n y (Nat.div k 2)) := fun _ _ _ => rfl
    have hs : e_tset (n + 1) (a, d) i c = cond (Nat.beq (Nat.mod i 2) 0) (e_tset n a (Nat.div i 2) c, d) (a, e_tset n d (Nat.div i 2) c) := rfl
    have hi2 : Nat.div i 2 < 2 ^ n := by
      show i / 2 < 2 ^ n
      rw [Nat.pow_succ] at hi
      omega
    have hj2 : Nat.div j 2 < 2 ^ n := by
      show j / 2 < 2 ^ n
      rw [Nat.pow_succ] at hj
      omega
    have mi : Nat.mod i 2 = i % 2 := rfl
    have mj : Nat.mod j 2 = j % 2 := rfl
    have di : Nat.div i 2 = i / 2 := rfl
    have dj : Nat.div j 2 = j / 2 := rfl
    rw [hs]
    cases ci : Nat.beq (Nat.mod i 2) 0 with
    | true =>
      have ci := e_beq ci
      rw [show cond true (e_tset n a (Nat.div i 2) c, d) (a, e_tset n d (Nat.div i 2) c) = (e_tset n a (Nat.div i 2) c, d) from rfl, hg, show e_tget (n + 1) ((a, d) : e_T (n + 1)) j = _ from hg a d j]
      cases cj : Nat.beq (Nat.mod j 2) 0 with
      | true =>
        have cj := e_beq cj
        show e_tget n (e_tset n a (Nat.div i 2) c) (Nat.div j 2) = if j = i then c else e_tget n a (Nat.div j 2)
        rw [ih _ _ _ _ hi2 hj2]
        by_cases q : j = i
        · rw [if_pos q, if_pos (by rw [q])]
        · rw [if_neg q, if_neg (by omega)]
      | false =>
        have cj := e_bne cj
        show e_tget n d (Nat.div j 2) = if j = i then c else e_tget n d (Nat.div j 2)
        rw [if_neg (by omega)]
    | false =>
      have ci := e_bne ci
      rw [show cond false (e_tset n a (Nat.div i 2) c, d) (a, e_tset n d (Nat.div i 2) c) = (a, e_tset n d (Nat.div i 2) c) from rfl, hg, show e_tget (n + 1) ((a, d) : e_T (n + 1)) j = _ from hg a d j]
      cases cj : Nat.beq (Nat.mod j 2) 0 with
      | true =>
        have cj := e_beq cj
        show e_tget n a (Nat.div j 2) = if j = i then c else e_tget n a (Nat.div j 2)
        rw [if_neg (by omega)]
      | false =>
        have cj := e_bne cj
        show e_tget n (e_tset n d (Nat.div i 2) c) (Nat.div j 2) = if j = i then c else e_tget n d (Nat.div j 2)
        rw [ih _ _ _ _ hi2 hj2]
        by_cases q : j = i
        · rw [if_pos q, if_pos (by rw [q])]
        · rw [if_neg q, if_neg (by omega)]
theorem e_get_c (q : Nat × e_V) (t : List (Nat × e_V)) (k : Nat) (d : e_V) : e_get (q :: t) k d = cond (Nat.beq q.1 k) q.2 (e_get t k d) := rfl
theorem e_set_c (q : Nat × e_V) (t : List (Nat × e_V)) (k : Nat) (v : e_V) : e_set (q :: t) k v = cond (Nat.beq q.1 k) ((k, v) :: t) (q :: e_set t k v) := rfl
theorem e_get_set (l : List (Nat × e_V)) (i j : Nat) (v d : e_V) : e_get (e_set l i v) j d = if j = i then v else e_get l j d := by
  induction l with
  | nil =>
    show cond (Nat.beq i j) v d = if j = i then v else d
    cases q : Nat.beq i j with
    | true => have := e_beq q; rw [if_pos this.symm]; rfl
    | false => have := e_bne q; rw [if_neg (fun z => this z.symm)]; rfl
  | cons u t ih =>
    rw [e_set_c]
    cases q : Nat.beq u.1 i with
    | true =>
      have q := e_beq q
      show e_get ((i, v) :: t) j d = _
      rw [e_get_c, e_get_c]
      cases z : Nat.beq i j with
      | true => have := e_beq z; rw [if_pos this.symm]; rfl
      | false => have hz := e_bne z; rw [if_neg (fun y => hz y.symm), q, z]; rfl
    | false =>
      have q := e_bne q
      show e_get (u :: e_set t i v) j d = _
      rw [e_get_c, e_get_c, ih]
      cases z : Nat.beq u.1 j with
      | true =>
        have hz := e_beq z
        show u.2 = _
        rw [if_neg (by omega)]
        rfl
      | false => rfl
theorem e_eqV_s {a c : e_V} (h : e_eqV a c = true) : a = c := by
  obtain ⟨h1, h2⟩ := e_and h
  exact Prod.ext (e_beq h1) (e_beq h2)
/-- what a cell is -/
def e_ety (k : Nat) : FieldType := match k with
  | 1 => .int
  | 2 => .boolean
  | 3 => .long
  | k => .object (e_cn (k - 4))
def e_CR (rho : Nat → Int32) (ta : Nat → Nat × Nat) (b L : Nat) (ads : List Nat) (tys : List (ClassId × FieldType)) (c : e_C) (e : va_E) : Prop :=
  c.2.1 ≤ 16777216 ∧
  ((c.1 = 0 ∧ c.2.1 < e_nc ∧ ∃ fs, e = .inr (c.2.1, fs) ∧ fs.length = e_nf c.2.1 ∧ ∀ k, k < e_nf c.2.1 → ∃ cv, fs[k]? = some cv ∧ e_VR rho ta b L ads (e_get c.2.2.2 k c.2.2.1) cv) ∨
  ((c.1 = 1 ∨ c.1 = 2) ∧ ∃ (cA : ClassId) (f : Nat → Int32) (t0 : Nat), e = .inl (cA, c.2.1, .inl f) ∧ tys[t0]? = some (cA, e_ety c.1) ∧ ∀ k, k < c.2.1 → e_VR rho ta b L ads (e_get c.2.2.2 k c.2.2.1) (.int (f k))) ∨
  (c.1 = 3 ∧ ∃ (cA : ClassId) (f : Nat → Int64) (t0 : Nat), e = .inl (cA, c.2.1, .inr (.inl f)) ∧ tys[t0]? = some (cA, .long) ∧ ∀ k, k < c.2.1 → e_VR rho ta b L ads (e_get c.2.2.2 k c.2.2.1) (.long (f k))) ∨
  (4 ≤ c.1 ∧ ∃ (cA : ClassId) (f : Nat → Option Nat) (t0 : Nat), e = .inl (cA, c.2.1, .inr (.inr (.inr (.inr f)))) ∧ tys[t0]? = some (cA, .object (e_cn (c.1 - 4))) ∧ ∀ k, k < c.2.1 → e_VR rho ta b L ads (e_get c.2.2.2 k c.2.2.1) (va_rf (f k))))
def e_WR (rho : Nat → Int32) (ta : Nat → Nat × Nat) (b L : Nat) (tys : List (ClassId × FieldType)) (ws : va_W) (w : e_W) : Prop :=
  ws.length = w.1 ∧ w.1 ≤ 512 ∧ ∀ i c, i < w.1 → e_tget 9 w.2 i = some c → ∃ q, ws[i]? = some q ∧ e_CR rho ta b L (ws.map (·.1)) tys c q.2
theorem e_CR.mono {rho : Nat → Int32} {ta : Nat → Nat × Nat} {b L : Nat} {ads ads' : List Nat} {tys tys' : List (ClassId × FieldType)} {c : e_C} {e : va_E} (h : e_CR rho ta b L ads tys c e) (hp : ads <+: ads') (ht : tys <+: tys') : e_CR rho ta b L ads' tys' c e := by
  have tt : ∀ {t0 : Nat} {q}, tys[t0]? = some q → tys'[t0]? = some q := by
    intro t0 q hq
    obtain ⟨r, rfl⟩ := ht
    rw [List.getElem?_append_left (List.getElem?_eq_some_iff.mp hq).1]
    exact hq
  obtain ⟨hl, h⟩ := h
  refine ⟨hl, ?_⟩
  rcases h with ⟨h1, h2, fs, h3, h4, h5⟩ | ⟨h1, cA, f, t0, h3, h4, h5⟩ | ⟨h1, cA, f, t0, h3, h4, h5⟩ | ⟨h1, cA, f, t0, h3, h4, h5⟩
  · refine Or.inl ⟨h1, h2, fs, h3, h4, fun k hk => ?_⟩
    obtain ⟨cv, q1, q2⟩ := h5 k hk
    exact ⟨cv, q1, q2.mono hp⟩
  · exact Or.inr (Or.inl ⟨h1, cA, f, t0, h3, tt h4, fun k hk => (h5 k hk).mono hp⟩)
  · exact Or.inr (Or.inr (Or.inl ⟨h1, cA, f, t0, h3, tt h4, fun k hk => (h5 k hk).mono hp⟩))
  · exact Or.inr (Or.inr (Or.inr ⟨h1, cA, f, t0, h3, tt h4, fun k hk => (h5 k hk).mono hp⟩))

/-- the exceptions' statics, the hot words, the texts: what a state gives besides the good words -/
def e_GS (rho : Nat → Int32) (ta : Nat → Nat × Nat) (b L : Nat) (A : Nat → Prop) (U : State) (H : Heap) : Prop :=
  (∀ w ∈ e_hot, w.before #[] U = true) ∧ vx_Zq Bundle.tN "UNASSIGNED_STACK" Bundle.steD A U H ∧ vx_Zq Bundle.tN "SUPPRESSED_SENTINEL" Bundle.listD A U H ∧ (∀ j q, e_srs[j]? = some q → vk_R q.1 q.2.1 q.2.2 (ta j).1 U ∧ vk_S 1 [(e_tx j).length] [(e_tx j).map e_i] (fun _ => (ta j).1) (fun _ => (ta j).2) A U H) ∧ va_X b L rho U H ∧ b < H.size ∧ ¬ A b ∧ (∀ j k : Nat, j < 4 → k < 4 → j ≠ k → va_Nc (e_ex j) (e_ex k) U) ∧ va_Z "java/lang/String" "COMPACT_STRINGS" "Z" (.int 1) A U H ∧ va_Zq "jdk/internal/util/Preconditions" "SIOOBE_FORMATTER" "Ljava/util/function/BiFunction;" A U H
/-- what holds of a frame of the method I.1 -/
def e_FC (rho : Nat → Int32) (ta : Nat → Nat × Nat) (b L : Nat) (I : e_N) (n0 : Nat) (p : Program) (l : Launch) (R : Room) (s : State) (m : MethodId) (args : Array Value) (meth : Method) (c : Code) : Prop :=
  p.tables.exec = Jvm.exec ∧ c.code = e_byt I.1 ∧ c.maxLocals = (e_bud I.1).2.2 ∧ s.vm.findClass (e_own I.1) = some m.cls ∧ (∀ w ∈ e_gw, w.before args s = true) ∧ meth.locks = false ∧ meth.sig.returnType = e_ret I.1 ∧ (e_ini I.1 = true → meth.name = "<init>") ∧
  c.exceptionTable.toList = tableOf (e_hh I.1) ∧ I.2.1 = e_pg I.1 ∧ I.1 < e_nm ∧ (e_bud I.1).1 ≤ R.cells ∧ (e_bud I.1).2.1 ≤ R.slots ∧ I.2.2.2.2 + 8 ≤ R.frames ∧ 60 * I.2.2.2.2 + 400 ≤ R.locals ∧ I.2.2.1 ≤ (e_bud I.1).1 ∧ I.2.2.2.1 ≤ (e_bud I.1).2.1 ∧ n0 ≤ s.heap.size ∧ l.stackTraces = false ∧ e_GS rho ta b L (fun q => n0 ≤ q) s s.heap
/-- what holds of the heap -/
def e_WH (rho : Nat → Int32) (ta : Nat → Nat × Nat) (b L n0 : Nat) (D : va_G) (s : State) (H : Heap) (locs : List Loc) (ws : va_W) (tys : List (ClassId × FieldType)) (w : e_W) : Prop :=
  va_K D e_cl tys s ∧ va_P D e_cl ws H ∧ va_D (fun q => n0 ≤ q) ws ∧ va_S (fun q => n0 ≤ q) s.heap H locs ∧ e_WR rho ta b L tys ws w
def e_ads (ws : va_W) : List Nat := ws.map (·.1)
def e_OR (rho : Nat → Int32) (ta : Nat → Nat × Nat) (b L : Nat) (ads : List Nat) (rv : List e_V) (ov : Option Value) : Prop := (rv = [] ∧ ov = none) ∨ ∃ v cv, rv = [v] ∧ ov = some cv ∧ e_VR rho ta b L ads v cv
/-- what a method says of its end: the rest of the run, from its caller on, ends well -/
def e_Qc (rho : Nat → Int32) (ta : Nat → Nat × Nat) (b L n0 : Nat) (D : va_G) (N : Nat) (fs : List e_F) (ads0 : List Nat) : Array Value → State → Outcome → State → Prop := fun _ st o t =>
  ∃ (n' : Nat) (rv : List e_V) (w' : e_W) (iv' : e_I) (ws' : va_W) (tys' : List (ClassId × FieldType)) (ov : Option Value), n' ≤ N ∧ e_res (e_acc n') rv fs w' iv' = true ∧ e_IV rho iv' ∧ o = .returned ov ∧ e_OR rho ta b L (e_ads ws') rv ov ∧
    va_K D e_cl tys' t ∧ va_P D e_cl ws' t.heap ∧ va_D (fun q => n0 ≤ q) ws' ∧ e_WR rho ta b L tys' ws' w' ∧ ads0 <+: e_ads ws' ∧ va_F (fun q => n0 ≤ q) st t
def e_XC (rho : Nat → Int32) (ta : Nat → Nat × Nat) (b L n0 : Nat) (D : va_G) (N : Nat) (fs : List e_F) (ads0 : List Nat) : String → State → State → Prop := fun E st t =>
  ∃ (n' k : Nat) (w' : e_W) (iv' : e_I) (ws' : va_W) (tys' : List (ClassId × FieldType)), n' ≤ N ∧ E = e_ex k ∧ k < 4 ∧ e_unw (e_acc n') k fs w' iv' = true ∧ e_IV rho iv' ∧
    va_K D e_cl tys' t ∧ va_P D e_cl ws' t.heap ∧ va_D (fun q => n0 ≤ q) ws' ∧ e_WR rho ta b L tys' ws' w' ∧ ads0 <+: e_ads ws' ∧ va_F (fun q => n0 ≤ q) st t
/-- the goal of a configuration, in any frame that it describes -/
def e_GG (rho : Nat → Int32) (ta : Nat → Nat × Nat) (b L n0 : Nat) (D : va_G) (l : Launch) (n : Nat) (I : e_N) (cod : List e_E) (loc stk : List e_V) (fs : List e_F) (w : e_W) (iv : e_I) : Prop :=
  ∀ (N : Nat) (p : Program) (e : Env) (R : Room) (s : State) (m : MethodId) (args : Array Value) (below : List Frame) (meth : Method) (c : Code) (H : Heap) (locs : List Loc) (ws : va_W) (tys : List (ClassId × FieldType)) (cst : List Value) (ls : Array Slot) (ads0 : List Nat),
    n ≤ N → e_FC rho ta b L I n0 p l R s m args meth c → e_WH rho ta b L n0 D s H locs ws tys w → e_SR rho ta b L (e_ads ws) stk cst → e_LR rho ta b L (e_ads ws) (e_bud I.1).2.2 ls loc → e_IV rho iv → (∃ k, cod = (e_pg I.1).drop k) → ads0 <+: e_ads ws →
    W p l e R s m args below meth c H locs I.2.2.1 I.2.2.2.1 (vx_MQ below (e_Qc rho ta b L n0 D N fs ads0) (e_XC rho ta b L n0 D N fs ads0) args s (e_bud I.1).1 (e_bud I.1).2.1 (fun q => n0 ≤ q)) (F0 m (e_hpc cod) ls cst)
def e_P (rho : Nat → Int32) (ta : Nat → Nat × Nat) (b L n0 : Nat) (D : va_G) (l : Launch) (n : Nat) : Prop :=
  ∀ (I : e_N) (cod : List e_E) (loc stk : List e_V) (fs : List e_F) (w : e_W) (iv : e_I), e_acc n I cod loc stk fs w iv = true → e_GG rho ta b L n0 D l n I cod loc stk fs w iv

/-- what a program decides of the classes -/
def e_CO : Prop := ∀ ci, ci < e_nc → (∀ w ∈ u_ws (e_cn ci) (e_FT ci) (e_nf ci), w ∈ e_gw) ∧ (∀ k, k < e_nf ci → parseFieldDescriptor (e_FT ci k).2.2.1 = some (e_ty ci k)) ∧ (∀ a, a < e_nf ci → ∀ b, b < e_nf ci → a ≠ b → (e_FT ci a).2.1 ≠ (e_FT ci b).2.1) ∧
  Cond.instantiable (e_cn ci) (e_nf ci) ∈ e_gw ∧ Cond.initialized (e_cn ci) ∈ e_gw ∧ (∀ k, k < e_nf ci → e_get (e_fl ci) k (99, 0) = (match e_ty ci k with | .int => (0, 0) | .boolean => (0, 0) | .long => (1, 0) | _ => (3, 0)) ∧ (match e_ty ci k with | .int => true | .boolean => true | .long => true | .object _ => true | .array _ => true | _ => false) = true)
theorem e_GS.use {rho : Nat → Int32} {ta : Nat → Nat × Nat} {b L : Nat} {A : Nat → Prop} {U : State} {H : Heap} (h : e_GS rho ta b L A U H) {w : Cond} (hw : w ∈ e_hot) (args : Array Value) : w.before args U = true := by
  have g := h.1 w hw
  have hh := (List.mem_filter.mp hw).2
  unfold e_isHot at hh
  split at hh
  · exact va_tabs rfl rfl g
  · exact va_tabs rfl rfl g
  · exact va_tabs rfl rfl g
  · exact va_tabs rfl rfl g
  · exact va_AO.use g
  · cases hh
theorem e_GS.moved {rho : Nat → Int32} {ta : Nat → Nat × Nat} {b L : Nat} {A : Nat → Prop} {s U : State} {H H1 : Heap} (hW : s.WarmedH U.vm) (hq : ∀ a : Nat, a < H.size → ¬ A a → H1[a]? = H[a]?) (h : e_GS rho ta b L A s H) : e_GS rho ta b L A U H1 := by
  obtain ⟨h1, h2, h3, h4, h5, h6, h7, h8, h9, h10⟩ := h
  have hb := hq b h6 h7
  refine ⟨fun w hw => ?_, (h2.moved hW.alike).kept hq, (h3.moved hW.alike).kept hq, fun j q hj => ⟨(h4 j q hj).1.warm hW, ((h4 j q hj).2.moved hW.alike).kept hq⟩, (h5.moved hW.alike).kept hb, ?_, h7, fun j k a1 a2 a3 => (h8 j k a1 a2 a3).moved hW.alike, (h9.moved hW.alike).kept hq, (h10.moved hW.alike).kept hq⟩
  · have g := h1 w hw
    have hh := (List.mem_filter.mp hw).2
    unfold e_isHot at hh
    split at hh
    · exact va_Nw.warmF hW g
    · exact va_Nw.warmM hW g
    · exact va_Nw.warmC hW g
    · exact va_Nw.warmD hW g
    · exact va_AO.moved hW.alike g
    · cases hh
  · obtain ⟨scr, g, -⟩ := h5
    rw [← hb] at g
    exact (Array.getElem?_eq_some_iff.mp g).1
end
section
/-! THE HANDLERS, each over the kit's row. -/
theorem e_suf {e : e_E} {tl all : List e_E} (h : ∃ k, e :: tl = all.drop k) : ∃ k, tl = all.drop k := by
  obtain ⟨k, h⟩ := h
  refine ⟨k + 1, ?_⟩
  rw [← List.drop_drop, ← h]
  rfl
theorem e_drop_eq (k : Nat) (l : List e_E) : e_drop k l = l.drop k := by
  induction k generalizing l with
  | zero => rfl
  | succ k ih =>
    cases l with
    | nil => rfl
    | cons a t => exact ih t
theorem e_sufj {e : e_E} {tl all : List e_E} (x : Nat) (h : ∃ k, e :: tl = all.drop k) : ∃ k, e_jmp all tl x = all.drop k := by
  unfold e_jmp
  cases Nat.beq (Nat.mod x 2) 0 with
  | true =>
    obtain ⟨k, h⟩ := e_suf h
    exact ⟨k + Nat.div x 2, by show e_drop _ tl = _; rw [e_drop_eq, h, List.drop_drop]⟩
  | false => exact ⟨Nat.div x 2, by show e_drop _ all = _; rw [e_drop_eq]⟩
abbrev e_D : Type := Except DecodeError (Instr × Nat)
def v_load (d : e_D) (k a pc nx : Nat) : Bool := match k, d with
  | 0, .ok (.iload_n j, 1) => decide (j.val = a) && Nat.beq nx (pc + 1)
  | 0, .ok (.iload j, 2) => decide (j = a) && Nat.beq nx (pc + 2)
  | 1, .ok (.lload_n j, 1) => decide (j.val = a) && Nat.beq nx (pc + 1)
  | 1, .ok (.lload j, 2) => decide (j = a) && Nat.beq nx (pc + 2)
  | 2, .ok (.aload_n j, 1) => decide (j.val = a) && Nat.beq nx (pc + 1)
  | 2, .ok (.aload j, 2) => decide (j = a) && Nat.beq nx (pc + 2)
  | 4, .ok (.dload_n j, 1) => decide (j.val = a) && Nat.beq nx (pc + 1)
  | 4, .ok (.dload j, 2) => decide (j = a) && Nat.beq nx (pc + 2)
  | _, _ => false
section
variable {rho : Nat → Int32} {ta : Nat → Nat × Nat} {b L n0 : Nat} {D : va_G} {l : Launch} {n : Nat} {e : e_E} {tl : List e_E} {I : e_N} {loc stk : List e_V} {fs : List e_F} {w : e_W} {iv : e_I}
theorem e_and2 {x y : Bool} (h : (x && y) = true) : x = true ∧ y = true := by
  cases x <;> cases y <;> simp_all
theorem s_load (IH : e_P rho ta b L n0 D l n) (hv : v_load (decode (e_byt I.1) e.1) e.2.2.2.1 e.2.2.1 e.1 (e_hpc tl) = true) (h : h_load (e_acc n) e tl I loc stk fs w iv = true) : e_GG rho ta b L n0 D l (n + 1) I (e :: tl) loc stk fs w iv := by
  intro N p e' R s m args below meth c H locs ws tys cst ls ads0 hN hF hW hS hL hI hK hA
  obtain ⟨t, pp, he⟩ : ∃ t pp, e_nth loc e.2.2.1 = (t, pp) := ⟨_, _, rfl⟩
  have h : cond (e_is e.2.2.2.1 t) (e_acc n I tl loc ((t, pp) :: stk) fs w iv) false = true := by
    unfold h_load at h
    rw [he] at h
    exact h
  obtain ⟨hi, h⟩ := e_and h
  have hne : (e_nth loc e.2.2.1).1 ≠ 99 := by
    rw [he]
    intro z
    have z : t = 99 := z
    subst z
    unfold v_load at hv
    split at hv <;> first | (rename_i q _; rw [q] at hi; cases hi; done) | (cases hv; done)
  obtain ⟨cv, hcl, hvr⟩ := hL.at hne
  rw [he] at hvr
  have kk : ∀ q, e_hpc tl = q → W p l e' R s m args below meth c H locs I.2.2.1 I.2.2.2.1 (vx_MQ below (e_Qc rho ta b L n0 D N fs ads0) (e_XC rho ta b L n0 D N fs ads0) args s (e_bud I.1).1 (e_bud I.1).2.1 (fun q => n0 ≤ q)) (F0 m q ls (cv :: cst)) := fun q hq => by
    subst hq
    exact IH I tl loc _ fs w iv h N p e' R s m args below meth c H locs ws tys _ ls ads0 (by omega) hF hW ⟨cv, cst, rfl, hvr, hS⟩ hL hI (e_suf hK) hA
  have hx := hF.1
  have hb := hF.2.1
  show W p l e' R s m args below meth c H locs I.2.2.1 I.2.2.2.1 _ (F0 m e.1 ls cst)
  unfold v_load at hv
  split at hv
  · rename_i q1 q2
    rw [q1] at hi
    obtain ⟨x, rfl⟩ := hvr.int hi
    obtain ⟨z1, z2⟩ := e_and2 hv
    exact lv_iload_n hx hb q2 (of_decide_eq_true z1) hcl (kk _ (e_beq z2))
  · rename_i q1 q2
    rw [q1] at hi
    obtain ⟨x, rfl⟩ := hvr.int hi
    obtain ⟨z1, z2⟩ := e_and2 hv
    have z1 := of_decide_eq_true z1
    subst z1
    exact lv_iload hx hb q2 hcl (kk _ (e_beq z2))
  · rename_i q1 q2
    rw [q1] at hi
    have hvr := hvr.long (e_is_1 hi)
    subst hvr
    obtain ⟨z1, z2⟩ := e_and2 hv
    exact lv_lload_n hx hb q2 (of_decide_eq_true z1) hcl (kk _ (e_beq z2))
  · rename_i q1 q2
    rw [q1] at hi
    have hvr := hvr.long (e_is_1 hi)
    subst hvr
    obtain ⟨z1, z2⟩ := e_and2 hv
    have z1 := of_decide_eq_true z1
    subst z1
    exact lv_lload hx hb q2 hcl (kk _ (e_beq z2))
  · rename_i q1 q2
    rw [q1] at hi
    obtain ⟨z1, z2⟩ := e_and2 hv
    rcases hvr.refs hi with ⟨x, rfl⟩ | rfl
    · exact lv_aload_n hx hb q2 (of_decide_eq_true z1) hcl (kk _ (e_beq z2))
    · exact lv_aload_nN hx hb q2 (of_decide_eq_true z1) hcl (kk _ (e_beq z2))
  · rename_i q1 q2
    rw [q1] at hi
    obtain ⟨z1, z2⟩ := e_and2 hv
    have z1 := of_decide_eq_true z1
    subst z1
    rcases hvr.refs hi with ⟨x, rfl⟩ | rfl
    · exact lv_aload hx hb q2 hcl (kk _ (e_beq z2))
    · exact lv_aloadN hx hb q2 hcl (kk _ (e_beq z2))
  · rename_i q1 q2
    rw [q1] at hi
    have hvr := hvr.double (e_is_4 hi)
    subst hvr
    obtain ⟨z1, z2⟩ := e_and2 hv
    exact lv_dload_n hx hb q2 (of_decide_eq_true z1) hcl (kk _ (e_beq z2))
  · rename_i q1 q2
    rw [q1] at hi
    have hvr := hvr.double (e_is_4 hi)
    subst hvr
    obtain ⟨z1, z2⟩ := e_and2 hv
    have z1 := of_decide_eq_true z1
    subst z1
    exact lv_dload hx hb q2 hcl (kk _ (e_beq z2))
  · cases hv
end

section
variable {rho : Nat → Int32} {ta : Nat → Nat × Nat} {b L n0 : Nat} {D : va_G} {l : Launch} {n : Nat} {e : e_E} {tl : List e_E} {I : e_N} {loc stk : List e_V} {fs : List e_F} {w : e_W} {iv : e_I}
/-- on with the next configuration -/
theorem e_k {cod : List e_E} {N : Nat} {p : Program} {e' : Env} {R : Room} {s : State} {m : MethodId} {args : Array Value} {below : List Frame} {meth : Method} {c : Code} {H : Heap} {locs : List Loc} {ws : va_W} {tys : List (ClassId × FieldType)} {cst : List Value} {ls : Array Slot} {ads0 : List Nat}
    (IH : e_P rho ta b L n0 D l n) (h : e_acc n I cod loc stk fs w iv = true) (hN : n ≤ N) (hF : e_FC rho ta b L I n0 p l R s m args meth c) (hW : e_WH rho ta b L n0 D s H locs ws tys w) (hS : e_SR rho ta b L (e_ads ws) stk cst) (hL : e_LR rho ta b L (e_ads ws) (e_bud I.1).2.2 ls loc) (hI : e_IV rho iv) (hK : ∃ k, cod = (e_pg I.1).drop k) (hA : ads0 <+: e_ads ws) {q : Nat} (hq : e_hpc cod = q) :
    W p l e' R s m args below meth c H locs I.2.2.1 I.2.2.2.1 (vx_MQ below (e_Qc rho ta b L n0 D N fs ads0) (e_XC rho ta b L n0 D N fs ads0) args s (e_bud I.1).1 (e_bud I.1).2.1 (fun q => n0 ≤ q)) (F0 m q ls cst) := by
  subst hq
  exact IH I cod loc stk fs w iv h N p e' R s m args below meth c H locs ws tys cst ls ads0 hN hF hW hS hL hI hK hA
/-- a split unknown -/
theorem e_spl {cod : List e_E} {k c : Nat} (hI : e_IV rho iv) (h : e_sp (e_acc n) cod I loc stk fs w iv k c = true) : ∃ iv', e_IV rho iv' ∧ e_acc n I cod loc stk fs w iv' = true := by
  obtain ⟨h1, h2⟩ := e_and h
  rcases hI.split k c with q | q
  · exact ⟨_, q, h1⟩
  · exact ⟨_, q, h2⟩
theorem e_again (IH : e_P rho ta b L n0 D l n) {cod : List e_E} (h : ∀ rho', rho' = rho → ∃ k c, e_sp (e_acc n) cod I loc stk fs w iv k c = true) : e_GG rho ta b L n0 D l (n + 1) I cod loc stk fs w iv := by
  intro N p e' R s m args below meth c H locs ws tys cst ls ads0 hN hF hW hS hL hI hK hA
  obtain ⟨k, c, h⟩ := h rho rfl
  obtain ⟨iv', h1, h2⟩ := e_spl hI h
  exact IH _ _ _ _ _ _ _ h2 N p e' R s m args below meth _ H locs ws tys cst ls ads0 (by omega) hF hW hS hL h1 hK hA
def e_at (k : Nat) (w : Cond) : Bool := match (e_ch (Nat.div k 4096))[Nat.mod k 4096]? with | some x => decide (x = w) | none => false
theorem e_at_s {k : Nat} {w : Cond} (h : e_at k w = true) : w ∈ lw_tbl := by
  unfold e_at at h
  split at h
  · rename_i x hx
    have h1 := of_decide_eq_true h
    subst h1
    exact e_ch_in (List.mem_of_getElem? hx)
  · cases h
def e_has (k : Nat) (w : Cond) : Bool := e_at k w && goodWord w
def e_hasH (k : Nat) (w : Cond) : Bool := e_at k w && e_isHot w
theorem e_has_s {k : Nat} {w : Cond} (h : e_has k w = true) : w ∈ e_gw := by
  obtain ⟨h1, h2⟩ := e_and2 h
  exact List.mem_filter.mpr ⟨e_at_s h1, h2⟩
theorem e_hasH_s {k : Nat} {w : Cond} (h : e_hasH k w = true) : w ∈ e_hot := by
  obtain ⟨h1, h2⟩ := e_and2 h
  exact List.mem_filter.mpr ⟨e_at_s h1, h2⟩
theorem e_ldcwF0 {p : Program} {l : Launch} {e : Env} {R : Room} {s : State} {m : MethodId} {args : Array Value} {below : List Frame} {meth : Method} {c : Code} {T : State} {locs : List Loc} {cells slots : Nat} (X : Stand p l e R s m args below meth c T locs cells slots) (hexec : p.tables.exec = Jvm.exec) {own : String} {index : Nat} {v : UInt32} (hown : s.vm.findClass own = some m.cls)
    (hconst : (Cond.constantFloat own index v).before args s = true) {g : JFrame} (hg : g.method = m) (hdg : decode c.code g.pc = .ok (.ldc_w index, 3)) :
    ∀ target, Steps p.tables e below (T.setTop { g with pc := g.pc + 3, stack := .float v :: g.stack }) target → Steps p.tables e below (T.setTop g) target := by
  obtain ⟨k, cf, hk, hcf, hcp⟩ := Cond.constantFloat_spec hown hconst
  obtain ⟨k', hk', he⟩ := X.warmed.alike.2.2 _ _ hk
  intro target hrest
  subst hg
  jvm_step X.here [hexec, hdg, ldc_w.wp_float (s := T) (f := g) X.here.top hk' (by rw [he]; exact hcf) hcp]
  exact hrest
theorem e_ldcwF {p : Program} {l : Launch} {e : Env} {R : Room} {s : State} {m : MethodId} {args : Array Value} {below : List Frame} {meth : Method} {c : Code} {H : Heap} {locs : List Loc} {cells slots : Nat} {Q : State → Prop} {cc : ByteArray} {pc : Nat} {ls : Array Slot} {rest : List Value} (hexec : p.tables.exec = Jvm.exec) (hb : c.code = cc) {own : String} {index : Nat} {v : UInt32} (hown : s.vm.findClass own = some m.cls) (hconst : (Cond.constantFloat own index v).before args s = true) (hdg : decode cc pc = .ok (.ldc_w index, 3))
    (k : W p l e R s m args below meth c H locs cells slots Q (F0 m (pc + 3) ls (.float v :: rest))) : W p l e R s m args below meth c H locs cells slots Q (F0 m pc ls rest) := by
  intro T hT X
  obtain ⟨t, a, b⟩ := k T hT X
  exact ⟨t, e_ldcwF0 X hexec hown hconst (g := F0 m pc ls rest) rfl (by rw [hb]; exact hdg) t a, b⟩
def v_const (d : e_D) (own : String) (t v h pc nx : Nat) : Bool := match t, d with
  | 0, .ok (.iconst k, 1) => decide (Int32.ofInt k = e_i v) && Nat.beq nx (pc + 1)
  | 0, .ok (.bipush k, 2) => decide ((Int8.ofInt k).toInt32 = e_i v) && Nat.beq nx (pc + 2)
  | 0, .ok (.sipush k, 3) => decide ((Int16.ofInt k).toInt32 = e_i v) && Nat.beq nx (pc + 3)
  | 1, .ok (.lconst k, 1) => decide (Int64.ofNat k.val = e_l v) && Nat.beq nx (pc + 1)
  | 7, .ok (.dconst 0, 1) => decide (UInt64.ofNat v = FP.dconst0) && Nat.beq nx (pc + 1)
  | 3, .ok (.aconst_null, 1) => Nat.beq nx (pc + 1)
  | 0, .ok (.ldc k, 2) => e_has h (.constant own k (e_i v)) && Nat.beq nx (pc + 2)
  | 0, .ok (.ldc_w k, 3) => e_has h (.constant own k (e_i v)) && Nat.beq nx (pc + 3)
  | 1, .ok (.ldc2_w k, 3) => e_has h (.constantLong own k (e_l v)) && Nat.beq nx (pc + 3)
  | 6, .ok (.ldc_w k, 3) => e_has h (.constantFloat own k (UInt32.ofNat v)) && Nat.beq nx (pc + 3)
  | _, _ => false
theorem s_const (IH : e_P rho ta b L n0 D l n) {hh : Nat} (hv : v_const (decode (e_byt I.1) e.1) (e_own I.1) e.2.2.1 e.2.2.2.1 hh e.1 (e_hpc tl) = true) (h : h_const (e_acc n) e tl I loc stk fs w iv = true) : e_GG rho ta b L n0 D l (n + 1) I (e :: tl) loc stk fs w iv := by
  intro N p e' R s m args below meth c H locs ws tys cst ls ads0 hN hF hW hS hL hI hK hA
  have h : e_acc n I tl loc ((e.2.2.1, e.2.2.2.1) :: stk) fs w iv = true := h
  have hx := hF.1
  have hb := hF.2.1
  have hown := hF.2.2.2.1
  have hts := hF.2.2.2.2.1
  show W p l e' R s m args below meth c H locs I.2.2.1 I.2.2.2.1 _ (F0 m e.1 ls cst)
  unfold v_const at hv
  split at hv
  · rename_i q1 q2
    obtain ⟨z1, z2⟩ := e_and2 hv
    exact lv_iconst hx hb q2 (of_decide_eq_true z1) (e_k IH h (by omega) hF hW ⟨_, _, rfl, by rw [q1]; exact rfl, hS⟩ hL hI (e_suf hK) hA (e_beq z2))
  · rename_i q1 q2
    obtain ⟨z1, z2⟩ := e_and2 hv
    exact lv_bipush hx hb q2 (of_decide_eq_true z1) (e_k IH h (by omega) hF hW ⟨_, _, rfl, by rw [q1]; exact rfl, hS⟩ hL hI (e_suf hK) hA (e_beq z2))
  · rename_i q1 q2
    obtain ⟨z1, z2⟩ := e_and2 hv
    exact lv_sipush hx hb q2 (of_decide_eq_true z1) (e_k IH h (by omega) hF hW ⟨_, _, rfl, by rw [q1]; exact rfl, hS⟩ hL hI (e_suf hK) hA (e_beq z2))
  · rename_i q1 q2
    obtain ⟨z1, z2⟩ := e_and2 hv
    exact lv_lconst hx hb q2 (of_decide_eq_true z1) (e_k IH h (by omega) hF hW ⟨_, _, rfl, by rw [q1]; exact rfl, hS⟩ hL hI (e_suf hK) hA (e_beq z2))
  · rename_i q1 q2
    obtain ⟨z1, z2⟩ := e_and2 hv
    have z1 := of_decide_eq_true z1
    exact lv_dconst0 hx hb q2 (e_k IH h (by omega) hF hW ⟨_, _, rfl, by rw [q1, ← z1]; exact rfl, hS⟩ hL hI (e_suf hK) hA (e_beq z2))
  · rename_i q1 q2
    exact lv_null hx hb q2 (e_k IH h (by omega) hF hW ⟨_, _, rfl, by rw [q1]; exact rfl, hS⟩ hL hI (e_suf hK) hA (e_beq hv))
  · rename_i q1 q2
    obtain ⟨z1, z2⟩ := e_and2 hv
    exact lv_ldc hx hb hown (hts _ (e_has_s z1)) q2 (e_k IH h (by omega) hF hW ⟨_, _, rfl, by rw [q1]; exact rfl, hS⟩ hL hI (e_suf hK) hA (e_beq z2))
  · rename_i q1 q2
    obtain ⟨z1, z2⟩ := e_and2 hv
    exact lv_ldcw hx hb hown (hts _ (e_has_s z1)) q2 (e_k IH h (by omega) hF hW ⟨_, _, rfl, by rw [q1]; exact rfl, hS⟩ hL hI (e_suf hK) hA (e_beq z2))
  · rename_i q1 q2
    obtain ⟨z1, z2⟩ := e_and2 hv
    exact lv_ldc2 hx hb hown (hts _ (e_has_s z1)) q2 (e_k IH h (by omega) hF hW ⟨_, _, rfl, by rw [q1]; exact rfl, hS⟩ hL hI (e_suf hK) hA (e_beq z2))
  · rename_i q1 q2
    obtain ⟨z1, z2⟩ := e_and2 hv
    exact e_ldcwF hx hb hown (hts _ (e_has_s z1)) q2 (e_k IH h (by omega) hF hW ⟨_, _, rfl, by rw [q1]; exact rfl, hS⟩ hL hI (e_suf hK) hA (e_beq z2))
  · cases hv
def v_goto (d : e_D) (pc tg : Nat) : Bool := match d with
  | .ok (.goto off, 3) => decide ((pc : Int) + off = (tg : Int))
  | _ => false
theorem s_goto (IH : e_P rho ta b L n0 D l n) (hv : v_goto (decode (e_byt I.1) e.1) e.1 (e_hpc (e_jmp I.2.1 tl e.2.2.2.2)) = true) (h : h_goto (e_acc n) e tl I loc stk fs w iv = true) : e_GG rho ta b L n0 D l (n + 1) I (e :: tl) loc stk fs w iv := by
  intro N p e' R s m args below meth c H locs ws tys cst ls ads0 hN hF hW hS hL hI hK hA
  have h : e_acc n I (e_jmp I.2.1 tl e.2.2.2.2) loc stk fs w iv = true := h
  have hpg : I.2.1 = e_pg I.1 := hF.2.2.2.2.2.2.2.2.2.1
  show W p l e' R s m args below meth c H locs I.2.2.1 I.2.2.2.1 _ (F0 m e.1 ls cst)
  unfold v_goto at hv
  split at hv
  · rename_i q2
    exact lv_goto hF.1 hF.2.1 q2 (of_decide_eq_true hv) (e_k IH h (by omega) hF hW hS hL hI (by rw [hpg]; exact e_sufj _ hK) hA rfl)
  · cases hv
def v_iinc (d : e_D) (nL a k pc nx : Nat) : Bool := match d with
  | .ok (.iinc i z, 3) => decide (i = a ∧ Int32.ofInt z = e_i k ∧ a < nL) && Nat.beq nx (pc + 3)
  | _ => false
theorem e_i_add (x y : Nat) : e_i (Nat.mod (Nat.add x y) 4294967296) = e_i x + e_i y := by
  show e_i ((x + y) % 4294967296) = _
  rw [e_i_mod]
  exact (nI_add x y).symm
theorem s_iinc (IH : e_P rho ta b L n0 D l n) (hv : v_iinc (decode (e_byt I.1) e.1) (e_bud I.1).2.2 e.2.2.1 e.2.2.2.1 e.1 (e_hpc tl) = true) (h : h_iinc (e_acc n) e tl I loc stk fs w iv = true) : e_GG rho ta b L n0 D l (n + 1) I (e :: tl) loc stk fs w iv := by
  intro N p e' R s m args below meth c H locs ws tys cst ls ads0 hN hF hW hS hL hI hK hA
  have h : e_con iv (e_nth loc e.2.2.1) (fun n' => e_acc n I tl (e_store loc e.2.2.1 (0, Nat.mod (Nat.add n' e.2.2.2.1) 4294967296)) stk fs w iv) (e_sp (e_acc n) (e :: tl) I loc stk fs w iv) = true := h
  have hne : (e_nth loc e.2.2.1).1 ≠ 99 := by
    intro z
    obtain ⟨t, k⟩ : e_V := e_nth loc e.2.2.1
    unfold e_con at h
    rw [z] at h
    cases h
  obtain ⟨lv, hlv, hlr⟩ := id hL
  obtain ⟨cv, hm, hvr⟩ := hlr _ hne
  rcases e_con_s hI hvr h with ⟨k, rfl, h⟩ | h
  · show W p l e' R s m args below meth c H locs I.2.2.1 I.2.2.2.1 _ (F0 m e.1 ls cst)
    unfold v_iinc at hv
    split at hv
    · rename_i q2
      obtain ⟨z1, z2⟩ := e_and2 hv
      obtain ⟨y1, y2, y3⟩ := of_decide_eq_true z1
      subst y1
      obtain ⟨j, hj⟩ := List.getElem?_of_mem hm
      refine lv_iinc (v := e_i (Nat.mod (Nat.add k e.2.2.2.1) 4294967296)) hF.1 hF.2.1 q2 hlv hj (by rw [y2, e_i_add]) y3 rfl (fun ls' hl' => ?_)
      exact e_k IH h (by omega) hF hW hS (e_LR.sto1 hlr rfl rfl hl') hI (e_suf hK) hA (e_beq z2)
    · cases hv
  · exact e_again IH (fun _ _ => h) N p e' R s m args below meth c H locs ws tys cst ls ads0 hN hF hW hS hL hI hK hA
end

section
variable {rho : Nat → Int32} {ta : Nat → Nat × Nat} {b L n0 : Nat} {D : va_G} {l : Launch} {n : Nat} {e : e_E} {tl : List e_E} {I : e_N} {loc stk : List e_V} {fs : List e_F} {w : e_W} {iv : e_I}
theorem e_q1_s {kk : e_V → List e_V → Bool} (h : e_q1 stk kk = true) : ∃ v st, stk = v :: st ∧ kk v st = true := by
  cases stk with
  | nil => cases h
  | cons v st => exact ⟨v, st, rfl, h⟩
theorem e_q2_s {kk : e_V → e_V → List e_V → Bool} (h : e_q2 stk kk = true) : ∃ v u st, stk = v :: u :: st ∧ kk v u st = true := by
  obtain ⟨v, st, rfl, h⟩ := e_q1_s h
  obtain ⟨u, s2, rfl, h⟩ := e_q1_s (show e_q1 st (fun u s2 => kk v u s2) = true from h)
  exact ⟨v, u, s2, rfl, h⟩
def v_store (d : e_D) (k a nL pc nx : Nat) : Bool := match k, d with
  | 0, .ok (.istore_n j, 1) => decide (j.val = a ∧ a < nL) && Nat.beq nx (pc + 1)
  | 0, .ok (.istore j, 2) => decide (j = a ∧ a < nL) && Nat.beq nx (pc + 2)
  | 1, .ok (.lstore_n j, 1) => decide (j.val = a ∧ a + 1 < nL) && Nat.beq nx (pc + 1)
  | 1, .ok (.lstore j, 2) => decide (j = a ∧ a + 1 < nL) && Nat.beq nx (pc + 2)
  | 2, .ok (.astore_n j, 1) => decide (j.val = a ∧ a < nL) && Nat.beq nx (pc + 1)
  | 2, .ok (.astore j, 2) => decide (j = a ∧ a < nL) && Nat.beq nx (pc + 2)
  | 4, .ok (.dstore j, 2) => decide (j = a ∧ a + 1 < nL) && Nat.beq nx (pc + 2)
  | _, _ => false
theorem e_cat2_0 {t : Nat} (h : e_is 0 t = true) : e_cat2 t = false := by
  rcases e_is_0 h with rfl | rfl <;> rfl
theorem e_cat2_2 {t : Nat} (h : e_is 2 t = true) : e_cat2 t = false := by
  rcases e_is_2 h with rfl | rfl | rfl | rfl | rfl | rfl <;> rfl
theorem s_store (IH : e_P rho ta b L n0 D l n) (hv : v_store (decode (e_byt I.1) e.1) e.2.2.2.1 e.2.2.1 (e_bud I.1).2.2 e.1 (e_hpc tl) = true) (h : h_store (e_acc n) e tl I loc stk fs w iv = true) : e_GG rho ta b L n0 D l (n + 1) I (e :: tl) loc stk fs w iv := by
  intro N p e' R s m args below meth c H locs ws tys cst ls ads0 hN hF hW hS hL hI hK hA
  obtain ⟨v, st, rfl, h⟩ := e_q1_s (show e_q1 stk (fun v st => cond (e_is e.2.2.2.1 v.1) (e_acc n I tl (e_store loc e.2.2.1 v) st fs w iv) false) = true from h)
  obtain ⟨hi, h⟩ := e_and h
  obtain ⟨cv, cst, rfl, hvr, hS⟩ := hS
  obtain ⟨lv, hlv, hlr⟩ := id hL
  have hx := hF.1
  have hb := hF.2.1
  show W p l e' R s m args below meth c H locs I.2.2.1 I.2.2.2.1 _ (F0 m e.1 ls (cv :: cst))
  unfold v_store at hv
  split at hv
  · rename_i q1 q2
    rw [q1] at hi
    obtain ⟨x, rfl⟩ := hvr.int hi
    obtain ⟨z1, z2⟩ := e_and2 hv
    obtain ⟨y1, y2⟩ := of_decide_eq_true z1
    exact lv_istore_n hx hb q2 y1 hlv y2 rfl (fun ls' hl' => e_k IH h (by omega) hF hW hS (e_LR.sto1 hlr hvr (e_cat2_0 hi) hl') hI (e_suf hK) hA (e_beq z2))
  · rename_i q1 q2
    rw [q1] at hi
    obtain ⟨x, rfl⟩ := hvr.int hi
    obtain ⟨z1, z2⟩ := e_and2 hv
    obtain ⟨y1, y2⟩ := of_decide_eq_true z1
    subst y1
    exact lv_istore hx hb q2 hlv y2 rfl (fun ls' hl' => e_k IH h (by omega) hF hW hS (e_LR.sto1 hlr hvr (e_cat2_0 hi) hl') hI (e_suf hK) hA (e_beq z2))
  · rename_i q1 q2
    rw [q1] at hi
    have e1 := hvr.long (e_is_1 hi)
    subst e1
    obtain ⟨z1, z2⟩ := e_and2 hv
    obtain ⟨y1, y2⟩ := of_decide_eq_true z1
    exact lv_lstore_n hx hb q2 y1 hlv y2 rfl (fun ls' hl' => e_k IH h (by omega) hF hW hS (e_LR.sto2 hlr hvr (by rw [e_is_1 hi]; rfl) hl') hI (e_suf hK) hA (e_beq z2))
  · rename_i q1 q2
    rw [q1] at hi
    have e1 := hvr.long (e_is_1 hi)
    subst e1
    obtain ⟨z1, z2⟩ := e_and2 hv
    obtain ⟨y1, y2⟩ := of_decide_eq_true z1
    subst y1
    exact lv_lstore hx hb q2 hlv y2 rfl (fun ls' hl' => e_k IH h (by omega) hF hW hS (e_LR.sto2 hlr hvr (by rw [e_is_1 hi]; rfl) hl') hI (e_suf hK) hA (e_beq z2))
  · rename_i q1 q2
    rw [q1] at hi
    obtain ⟨z1, z2⟩ := e_and2 hv
    obtain ⟨y1, y2⟩ := of_decide_eq_true z1
    rcases hvr.refs hi with ⟨x, rfl⟩ | rfl
    · exact lv_astore_n hx hb q2 y1 hlv y2 rfl (fun ls' hl' => e_k IH h (by omega) hF hW hS (e_LR.sto1 hlr hvr (e_cat2_2 hi) hl') hI (e_suf hK) hA (e_beq z2))
    · exact lv_astore_nN hx hb q2 y1 hlv y2 rfl (fun ls' hl' => e_k IH h (by omega) hF hW hS (e_LR.sto1 hlr hvr (e_cat2_2 hi) hl') hI (e_suf hK) hA (e_beq z2))
  · rename_i q1 q2
    rw [q1] at hi
    obtain ⟨z1, z2⟩ := e_and2 hv
    obtain ⟨y1, y2⟩ := of_decide_eq_true z1
    subst y1
    rcases hvr.refs hi with ⟨x, rfl⟩ | rfl
    · exact lv_astore hx hb q2 hlv y2 rfl (fun ls' hl' => e_k IH h (by omega) hF hW hS (e_LR.sto1 hlr hvr (e_cat2_2 hi) hl') hI (e_suf hK) hA (e_beq z2))
    · exact lv_astoreN hx hb q2 hlv y2 rfl (fun ls' hl' => e_k IH h (by omega) hF hW hS (e_LR.sto1 hlr hvr (e_cat2_2 hi) hl') hI (e_suf hK) hA (e_beq z2))
  · rename_i q1 q2
    rw [q1] at hi
    have e1 := hvr.double (e_is_4 hi)
    subst e1
    obtain ⟨z1, z2⟩ := e_and2 hv
    obtain ⟨y1, y2⟩ := of_decide_eq_true z1
    subst y1
    exact lv_dstore hx hb q2 hlv y2 rfl (fun ls' hl' => e_k IH h (by omega) hF hW hS (e_LR.sto2 hlr hvr (by rw [e_is_4 hi]; rfl) hl') hI (e_suf hK) hA (e_beq z2))
  · cases hv
def e_ic (cc : Nat) (k : Jvm.ClassFile.Cond) : Bool := match cc, k with
  | 0, .eq => true
  | 1, .ne => true
  | 2, .lt => true
  | 3, .ge => true
  | 4, .gt => true
  | 5, .le => true
  | _, _ => false
def v_if (d : e_D) (cc pc tg nx : Nat) : Bool := match d with
  | .ok (.ifCond k off, 3) => e_ic cc k && (decide ((pc : Int) + off = (tg : Int)) && Nat.beq nx (pc + 3))
  | _ => false
def v_icmp (d : e_D) (cc pc tg nx : Nat) : Bool := match d with
  | .ok (.if_icmp k off, 3) => e_ic cc k && (decide ((pc : Int) + off = (tg : Int)) && Nat.beq nx (pc + 3))
  | _ => false
theorem e_nlt {x y : Int32} : ¬ x < y ↔ y ≤ x := Int32.not_lt
section
variable {p : Program} {e' : Env} {R : Room} {s : State} {m : MethodId} {args : Array Value} {below : List Frame} {meth : Method} {c : Code} {H : Heap} {locs : List Loc} {cells slots : Nat} {Q : State → Prop} {cc : ByteArray} {pc : Nat} {ls : Array Slot} {rest : List Value}
/-- the six comparisons as one -/
theorem e_icmp_row (hx : p.tables.exec = Jvm.exec) (hb : c.code = cc) {k : Nat} {kc : Jvm.ClassFile.Cond} {x y : Int32} {off : Int} {tgt : Nat} (hk : e_ic k kc = true) (hdg : decode cc pc = .ok (.if_icmp kc off, 3)) (ht : (pc : Int) + off = (tgt : Int)) (kt : e_cc k x y → W p l e' R s m args below meth c H locs cells slots Q (F0 m tgt ls rest)) (kf : ¬ e_cc k x y → W p l e' R s m args below meth c H locs cells slots Q (F0 m (pc + 3) ls rest)) : W p l e' R s m args below meth c H locs cells slots Q (F0 m pc ls (.int y :: .int x :: rest)) := by
  unfold e_ic at hk
  split at hk
  · exact lv_icmp_eq hx hb hdg ht kt kf
  · exact lv_icmp_ne hx hb hdg ht kt (fun h => kf (fun z => z h))
  · exact lv_icmp_lt hx hb hdg ht kt kf
  · exact lv_icmp_ge hx hb hdg ht (fun h => kt (e_nlt.mpr h)) (fun h => kf (fun z => h (e_nlt.mp z)))
  · exact lv_icmp_gt hx hb hdg ht kt kf
  · exact lv_icmp_le hx hb hdg ht (fun h => kt (e_nlt.mpr h)) (fun h => kf (fun z => h (e_nlt.mp z)))
  · cases hk
theorem e_if_row (hx : p.tables.exec = Jvm.exec) (hb : c.code = cc) {k : Nat} {kc : Jvm.ClassFile.Cond} {x : Int32} {off : Int} {tgt : Nat} (hk : e_ic k kc = true) (hdg : decode cc pc = .ok (.ifCond kc off, 3)) (ht : (pc : Int) + off = (tgt : Int)) (kt : e_cc k x 0 → W p l e' R s m args below meth c H locs cells slots Q (F0 m tgt ls rest)) (kf : ¬ e_cc k x 0 → W p l e' R s m args below meth c H locs cells slots Q (F0 m (pc + 3) ls rest)) : W p l e' R s m args below meth c H locs cells slots Q (F0 m pc ls (.int x :: rest)) := by
  unfold e_ic at hk
  split at hk
  · exact lv_if_eq hx hb hdg ht kt kf
  · exact lv_if_ne hx hb hdg ht kt (fun h => kf (fun z => z h))
  · exact lv_if_lt hx hb hdg ht kt kf
  · exact lv_if_ge hx hb hdg ht (fun h => kt (e_nlt.mpr h)) (fun h => kf (fun z => h (e_nlt.mp z)))
  · exact lv_if_gt hx hb hdg ht kt kf
  · exact lv_if_le hx hb hdg ht (fun h => kt (e_nlt.mpr h)) (fun h => kf (fun z => h (e_nlt.mp z)))
  · cases hk
end
theorem s_if (IH : e_P rho ta b L n0 D l n) (hv : v_if (decode (e_byt I.1) e.1) e.2.2.1 e.1 (e_hpc (e_jmp I.2.1 tl e.2.2.2.2)) (e_hpc tl) = true) (h : h_if (e_acc n) e tl I loc stk fs w iv = true) : e_GG rho ta b L n0 D l (n + 1) I (e :: tl) loc stk fs w iv := by
  intro N p e' R s m args below meth c H locs ws tys cst ls ads0 hN hF hW hS hL hI hK hA
  obtain ⟨v, st, rfl, h⟩ := e_q1_s (show e_q1 stk (fun v st => e_cmp iv e.2.2.1 v (0, 0) (e_acc n I (e_jmp I.2.1 tl e.2.2.2.2) loc st fs w iv) (e_acc n I tl loc st fs w iv) (e_sp (e_acc n) (e :: tl) I loc stk fs w iv)) = true from h)
  obtain ⟨cv, cst', rfl, hvr, hS'⟩ := id hS
  have hpg : I.2.1 = e_pg I.1 := hF.2.2.2.2.2.2.2.2.2.1
  obtain ⟨x, y, rfl, hy, hh⟩ := e_cmp_s hI hvr (u := (0, 0)) (cw := .int 0) (show e_VR rho ta b L (e_ads ws) (0, 0) (.int 0) from rfl) h
  cases hy
  show W p l e' R s m args below meth c H locs I.2.2.1 I.2.2.2.1 _ (F0 m e.1 ls (.int x :: cst'))
  unfold v_if at hv
  split at hv
  · rename_i q2
    obtain ⟨z1, z2⟩ := e_and2 hv
    obtain ⟨z2, z3⟩ := e_and2 z2
    rcases hh with ⟨hc, h⟩ | ⟨hc, h⟩ | ⟨k, c', h⟩
    · exact e_if_row hF.1 hF.2.1 z1 q2 (of_decide_eq_true z2) (fun _ => e_k IH h (by omega) hF hW hS' hL hI (by rw [hpg]; exact e_sufj _ hK) hA rfl) (fun z => absurd hc z)
    · exact e_if_row hF.1 hF.2.1 z1 q2 (of_decide_eq_true z2) (fun z => absurd z hc) (fun _ => e_k IH h (by omega) hF hW hS' hL hI (e_suf hK) hA (e_beq z3))
    · exact e_again IH (fun _ _ => ⟨k, c', h⟩) N p e' R s m args below meth c H locs ws tys _ ls ads0 hN hF hW hS hL hI hK hA
  · cases hv
theorem s_icmp (IH : e_P rho ta b L n0 D l n) (hv : v_icmp (decode (e_byt I.1) e.1) e.2.2.1 e.1 (e_hpc (e_jmp I.2.1 tl e.2.2.2.2)) (e_hpc tl) = true) (h : h_icmp (e_acc n) e tl I loc stk fs w iv = true) : e_GG rho ta b L n0 D l (n + 1) I (e :: tl) loc stk fs w iv := by
  intro N p e' R s m args below meth c H locs ws tys cst ls ads0 hN hF hW hS hL hI hK hA
  obtain ⟨v, u, st, rfl, h⟩ := e_q2_s (show e_q2 stk (fun v u st => e_cmp iv e.2.2.1 u v (e_acc n I (e_jmp I.2.1 tl e.2.2.2.2) loc st fs w iv) (e_acc n I tl loc st fs w iv) (e_sp (e_acc n) (e :: tl) I loc stk fs w iv)) = true from h)
  obtain ⟨cv, _, rfl, hvr, cu, cst', rfl, hur, hS'⟩ := id hS
  have hpg : I.2.1 = e_pg I.1 := hF.2.2.2.2.2.2.2.2.2.1
  obtain ⟨x, y, rfl, rfl, hh⟩ := e_cmp_s hI hur hvr h
  show W p l e' R s m args below meth c H locs I.2.2.1 I.2.2.2.1 _ (F0 m e.1 ls (.int y :: .int x :: cst'))
  unfold v_icmp at hv
  split at hv
  · rename_i q2
    obtain ⟨z1, z2⟩ := e_and2 hv
    obtain ⟨z2, z3⟩ := e_and2 z2
    rcases hh with ⟨hc, h⟩ | ⟨hc, h⟩ | ⟨k, c', h⟩
    · exact e_icmp_row hF.1 hF.2.1 z1 q2 (of_decide_eq_true z2) (fun _ => e_k IH h (by omega) hF hW hS' hL hI (by rw [hpg]; exact e_sufj _ hK) hA rfl) (fun z => absurd hc z)
    · exact e_icmp_row hF.1 hF.2.1 z1 q2 (of_decide_eq_true z2) (fun z => absurd z hc) (fun _ => e_k IH h (by omega) hF hW hS' hL hI (e_suf hK) hA (e_beq z3))
    · exact e_again IH (fun _ _ => ⟨k, c', h⟩) N p e' R s m args below meth c H locs ws tys _ ls ads0 hN hF hW hS hL hI hK hA
  · cases hv
end
end
section
/-! MORE HANDLERS: what moves no heap. -/
section
variable {rho : Nat → Int32} {ta : Nat → Nat × Nat} {b L n0 : Nat} {D : va_G} {l : Launch} {n : Nat} {e : e_E} {tl : List e_E} {I : e_N} {loc stk : List e_V} {fs : List e_F} {w : e_W} {iv : e_I}
def v_plain (d : e_D) (i : Instr) (pc nx : Nat) : Bool := (match d with
  | .ok (j, 1) => decide (j = i)
  | _ => false) && Nat.beq nx (pc + 1)
theorem v_plain_s {d : e_D} {i : Instr} {pc nx : Nat} (h : v_plain d i pc nx = true) : d = .ok (i, 1) ∧ nx = pc + 1 := by
  obtain ⟨h1, h2⟩ := e_and2 h
  split at h1
  · rename_i j
    exact ⟨by rw [of_decide_eq_true h1], e_beq h2⟩
  · cases h1
def v_ifn (d : e_D) (a pc tg nx : Nat) : Bool := match a, d with
  | 0, .ok (.ifnull off, 3) => decide ((pc : Int) + off = (tg : Int)) && Nat.beq nx (pc + 3)
  | 1, .ok (.ifnonnull off, 3) => decide ((pc : Int) + off = (tg : Int)) && Nat.beq nx (pc + 3)
  | _, _ => false
theorem s_ifn (IH : e_P rho ta b L n0 D l n) (hv : v_ifn (decode (e_byt I.1) e.1) e.2.2.1 e.1 (e_hpc (e_jmp I.2.1 tl e.2.2.2.2)) (e_hpc tl) = true) (h : h_ifn (e_acc n) e tl I loc stk fs w iv = true) : e_GG rho ta b L n0 D l (n + 1) I (e :: tl) loc stk fs w iv := by
  intro N p e' R s m args below meth c H locs ws tys cst ls ads0 hN hF hW hS hL hI hK hA
  obtain ⟨v, st, rfl, h⟩ := e_q1_s (show e_q1 stk (fun v st => cond (Nat.beq v.1 3) (e_acc n I (cond (Nat.beq e.2.2.1 0) (e_jmp I.2.1 tl e.2.2.2.2) tl) loc st fs w iv) (cond (Nat.beq v.1 2) (e_acc n I (cond (Nat.beq e.2.2.1 0) tl (e_jmp I.2.1 tl e.2.2.2.2)) loc st fs w iv) false)) = true from h)
  obtain ⟨cv, cst, rfl, hvr, hS⟩ := hS
  have hpg : I.2.1 = e_pg I.1 := hF.2.2.2.2.2.2.2.2.2.1
  have hJ : ∃ k, e_jmp I.2.1 tl e.2.2.2.2 = (e_pg I.1).drop k := by rw [hpg]; exact e_sufj _ hK
  show W p l e' R s m args below meth c H locs I.2.2.1 I.2.2.2.1 _ (F0 m e.1 ls (cv :: cst))
  unfold v_ifn at hv
  rcases e_ite h with ⟨q, h⟩ | ⟨-, h⟩
  · have e1 := hvr.null (e_beq q)
    subst e1
    split at hv
    · rename_i q1 q2
      obtain ⟨z1, z2⟩ := e_and2 hv
      rw [q1] at h
      exact lv_ifnullN hF.1 hF.2.1 q2 (of_decide_eq_true z1) (e_k IH h (by omega) hF hW hS hL hI hJ hA rfl)
    · rename_i q1 q2
      obtain ⟨z1, z2⟩ := e_and2 hv
      rw [q1] at h
      exact lv_ifnonnullN hF.1 hF.2.1 q2 (e_k IH h (by omega) hF hW hS hL hI (e_suf hK) hA (e_beq z2))
    · cases hv
  · obtain ⟨q, h⟩ := e_and h
    obtain ⟨a, -, rfl⟩ := hvr.cell (e_beq q)
    split at hv
    · rename_i q1 q2
      obtain ⟨z1, z2⟩ := e_and2 hv
      rw [q1] at h
      exact lv_ifnull hF.1 hF.2.1 q2 (e_k IH h (by omega) hF hW hS hL hI (e_suf hK) hA (e_beq z2))
    · rename_i q1 q2
      obtain ⟨z1, z2⟩ := e_and2 hv
      rw [q1] at h
      exact lv_ifnonnull hF.1 hF.2.1 q2 (of_decide_eq_true z1) (e_k IH h (by omega) hF hW hS hL hI hJ hA rfl)
    · cases hv
theorem e_cat1 {ads : List Nat} {v : e_V} {cv : Value} (hv : e_VR rho ta b L ads v cv) (h : e_cat2 v.1 = false) : cv.category = 1 := by
  rcases lv_cat cv with q | q
  · exact q
  · rw [hv.cat.mp q] at h; cases h
theorem s_dup (IH : e_P rho ta b L n0 D l n) (hv : v_plain (decode (e_byt I.1) e.1) .dup e.1 (e_hpc tl) = true) (h : h_dup (e_acc n) e tl I loc stk fs w iv = true) : e_GG rho ta b L n0 D l (n + 1) I (e :: tl) loc stk fs w iv := by
  intro N p e' R s m args below meth c H locs ws tys cst ls ads0 hN hF hW hS hL hI hK hA
  obtain ⟨v, st, rfl, h⟩ := e_q1_s (show e_q1 stk (fun v _ => cond (e_cat2 v.1) false (e_acc n I tl loc (v :: stk) fs w iv)) = true from h)
  obtain ⟨q, h⟩ := e_nand h
  obtain ⟨cv, cst, rfl, hvr, hS⟩ := hS
  obtain ⟨z1, z2⟩ := v_plain_s hv
  exact lv_dup hF.1 hF.2.1 z1 (e_cat1 hvr q) (e_k IH h (by omega) hF hW ⟨_, _, rfl, hvr, _, _, rfl, hvr, hS⟩ hL hI (e_suf hK) hA z2)
theorem s_pop (IH : e_P rho ta b L n0 D l n) (hv : v_plain (decode (e_byt I.1) e.1) .pop e.1 (e_hpc tl) = true) (h : h_pop (e_acc n) e tl I loc stk fs w iv = true) : e_GG rho ta b L n0 D l (n + 1) I (e :: tl) loc stk fs w iv := by
  intro N p e' R s m args below meth c H locs ws tys cst ls ads0 hN hF hW hS hL hI hK hA
  obtain ⟨v, st, rfl, h⟩ := e_q1_s (show e_q1 stk (fun v st => cond (e_cat2 v.1) false (e_acc n I tl loc st fs w iv)) = true from h)
  obtain ⟨q, h⟩ := e_nand h
  obtain ⟨cv, cst, rfl, hvr, hS⟩ := hS
  obtain ⟨z1, z2⟩ := v_plain_s hv
  exact lv_pop hF.1 hF.2.1 z1 (e_cat1 hvr q) (e_k IH h (by omega) hF hW hS hL hI (e_suf hK) hA z2)
theorem s_dup2 (IH : e_P rho ta b L n0 D l n) (hv : v_plain (decode (e_byt I.1) e.1) .dup2 e.1 (e_hpc tl) = true) (h : h_dup2 (e_acc n) e tl I loc stk fs w iv = true) : e_GG rho ta b L n0 D l (n + 1) I (e :: tl) loc stk fs w iv := by
  intro N p e' R s m args below meth c H locs ws tys cst ls ads0 hN hF hW hS hL hI hK hA
  obtain ⟨v, u, st, rfl, h⟩ := e_q2_s (show e_q2 stk (fun v u _ => cond (cond (e_cat2 v.1) true (e_cat2 u.1)) false (e_acc n I tl loc (v :: u :: stk) fs w iv)) = true from h)
  obtain ⟨q, h⟩ := e_nand h
  have q1 : e_cat2 v.1 = false ∧ e_cat2 u.1 = false := by
    cases z : e_cat2 v.1 with
    | true => rw [z] at q; cases q
    | false => rw [z] at q; exact ⟨rfl, q⟩
  obtain ⟨cv, _, rfl, hvr, cu, cst, rfl, hur, hS⟩ := hS
  obtain ⟨z1, z2⟩ := v_plain_s hv
  exact lv_dup2_11 hF.1 hF.2.1 z1 (e_cat1 hvr q1.1) (e_cat1 hur q1.2) (e_k IH h (by omega) hF hW ⟨_, _, rfl, hvr, _, _, rfl, hur, _, _, rfl, hvr, _, _, rfl, hur, hS⟩ hL hI (e_suf hK) hA z2)
def v_ib (d : e_D) (k pc nx : Nat) : Bool := (match k, d with
  | 1, .ok (.iadd, 1) => true
  | 2, .ok (.isub, 1) => true
  | 3, .ok (.imul, 1) => true
  | 4, .ok (.iand, 1) => true
  | 5, .ok (.ior, 1) => true
  | 6, .ok (.ixor, 1) => true
  | 7, .ok (.ishl, 1) => true
  | 8, .ok (.ishr, 1) => true
  | 9, .ok (.iushr, 1) => true
  | 10, .ok (.idiv, 1) => true
  | 11, .ok (.irem, 1) => true
  | _, _ => false) && Nat.beq nx (pc + 1)
theorem e_i_mul (x y : Nat) : e_i (Nat.mod (Nat.mul x y) 4294967296) = e_i x * e_i y := by
  show e_i ((x * y) % 4294967296) = _
  rw [e_i_mod]
  exact (pk_mul x y).symm
section
variable {p : Program} {e' : Env} {R : Room} {s : State} {m : MethodId} {args : Array Value} {below : List Frame} {meth : Method} {c : Code} {H : Heap} {locs : List Loc} {cells slots : Nat} {Q : State → Prop} {cc : ByteArray} {pc : Nat} {ls : Array Slot} {rest : List Value}
theorem e_ib_row (hx : p.tables.exec = Jvm.exec) (hb : c.code = cc) {k nx x y : Nat} (hv : v_ib (decode cc pc) k pc nx = true) (h0 : 10 ≤ k → ¬ e_i y = 0) (kk : W p l e' R s m args below meth c H locs cells slots Q (F0 m nx ls (.int (e_i ((e_ib k).2 x y)) :: rest))) : W p l e' R s m args below meth c H locs cells slots Q (F0 m pc ls (.int (e_i y) :: .int (e_i x) :: rest)) := by
  obtain ⟨z1, z2⟩ := e_and2 hv
  have z2 := e_beq z2
  subst z2
  split at z1
  · rename_i q; exact lv_iadd hx hb q (by rw [← e_i_add]; exact kk)
  · rename_i q; exact lv_isub hx hb q (by rw [← e_i_u (e_i x - e_i y)]; exact kk)
  · rename_i q; exact lv_imul hx hb q (by rw [← e_i_mul]; exact kk)
  · rename_i q; exact lv_iand hx hb q (by rw [← e_i_u (e_i x &&& e_i y)]; exact kk)
  · rename_i q; exact lv_ior hx hb q (by rw [← e_i_u (e_i x ||| e_i y)]; exact kk)
  · rename_i q; exact lv_ixor hx hb q (by rw [← e_i_u (e_i x ^^^ e_i y)]; exact kk)
  · rename_i q; exact lv_ishl hx hb q (by rw [← e_i_u (e_i x <<< (e_i y &&& 31))]; exact kk)
  · rename_i q; exact lv_ishr hx hb q (by rw [← e_i_u (e_i x >>> (e_i y &&& 31))]; exact kk)
  · rename_i q; exact lv_iushr hx hb q rfl (by rw [← e_i_u ((e_i x).toUInt32 >>> ((e_i y).toUInt32 &&& Int32.toUInt32 31)).toInt32]; exact kk)
  · rename_i q; exact lv_idiv hx hb q (h0 (by omega)) (by rw [← e_i_u (e_i x / e_i y)]; exact kk)
  · rename_i q; exact lv_irem hx hb q (h0 (by omega)) (by rw [← e_i_u (e_i x - e_i x / e_i y * e_i y)]; exact kk)
  · cases z1
end
end

section
variable {rho : Nat → Int32} {ta : Nat → Nat × Nat} {b L n0 : Nat} {D : va_G} {l : Launch} {n : Nat} {e : e_E} {tl : List e_E} {I : e_N} {loc stk : List e_V} {fs : List e_F} {w : e_W} {iv : e_I}
theorem s_ibin (hr : rho 6 = rho 0 &&& 63) (IH : e_P rho ta b L n0 D l n) (hv : v_ib (decode (e_byt I.1) e.1) e.2.2.1 e.1 (e_hpc tl) = true) (h : h_ibin (e_acc n) e tl I loc stk fs w iv = true) : e_GG rho ta b L n0 D l (n + 1) I (e :: tl) loc stk fs w iv := by
  intro N p e' R s m args below meth c H locs ws tys cst ls ads0 hN hF hW hS hL hI hK hA
  obtain ⟨v, u, st, rfl, h⟩ := e_q2_s (show e_q2 stk (fun v u st => cond (cond (Nat.beq u.1 4) (cond (Nat.beq e.2.2.1 4) (cond (e_eqV u (4, 0)) (e_eqV v (0, 63)) false) false) false) (e_acc n I tl loc ((4, 6) :: st) fs w iv)
    (e_con iv v (fun n' => e_con iv u (fun m => cond (cond (Nat.ble 10 e.2.2.1) (Nat.beq (Nat.mod n' 4294967296) 0) false) false (e_acc n I tl loc ((0, (e_ib e.2.2.1).2 m n') :: st) fs w iv)) (e_sp (e_acc n) (e :: tl) I loc stk fs w iv)) (e_sp (e_acc n) (e :: tl) I loc stk fs w iv))) = true from h)
  obtain ⟨cv, _, rfl, hvr, cu, cst', rfl, hur, hS'⟩ := id hS
  show W p l e' R s m args below meth c H locs I.2.2.1 I.2.2.2.1 _ (F0 m e.1 ls (cv :: cu :: cst'))
  rcases e_ite h with ⟨q, g⟩ | ⟨-, h⟩
  · clear h
    obtain ⟨-, q⟩ := e_and q
    obtain ⟨q1, q⟩ := e_and q
    obtain ⟨q2, q3⟩ := e_and q
    have q2 := e_eqV_s q2
    have q3 := e_eqV_s q3
    subst q2; subst q3
    have hvr : cv = .int (e_i 63) := hvr
    have hur : cu = .int (rho 0) := hur
    subst hvr; subst hur
    have q1 := e_beq q1
    rw [q1] at hv
    obtain ⟨z1, z2⟩ := e_and2 hv
    split at z1 <;> first | (cases z1; done) | skip
    all_goals first | (rename_i g1 g2; cases g1; done) | skip
    rename_i g1 g2
    refine lv_iand hF.1 hF.2.1 g2 (e_k IH g (by omega) hF hW ⟨_, _, rfl, ?_, hS'⟩ hL hI (e_suf hK) hA (e_beq z2))
    show Value.int (rho 0 &&& e_i 63) = .int (rho 6)
    rw [hr]
    rfl
  · rcases e_con_s hI hvr h with ⟨k1, rfl, h⟩ | h
    · rcases e_con_s hI hur h with ⟨k2, rfl, h⟩ | h
      · obtain ⟨q, h⟩ := e_nand h
        refine e_ib_row hF.1 hF.2.1 hv (fun hk => ?_) (e_k IH h (by omega) hF hW ⟨_, _, rfl, rfl, hS'⟩ hL hI (e_suf hK) hA rfl)
        rw [Nat.ble_eq_true_of_le hk] at q
        have q := e_bne (show Nat.beq (Nat.mod k1 4294967296) 0 = false from q)
        intro z
        have z2 : (e_i k1).toBitVec.toNat = 0 := by rw [z]; rfl
        rw [e_i_nat] at z2
        exact q z2
      · exact e_again IH (fun _ _ => h) N p e' R s m args below meth c H locs ws tys _ ls ads0 hN hF hW hS hL hI hK hA
    · exact e_again IH (fun _ _ => h) N p e' R s m args below meth c H locs ws tys _ ls ads0 hN hF hW hS hL hI hK hA
theorem s_i2l (IH : e_P rho ta b L n0 D l n) (hv : v_plain (decode (e_byt I.1) e.1) .i2l e.1 (e_hpc tl) = true) (h : h_i2l (e_acc n) e tl I loc stk fs w iv = true) : e_GG rho ta b L n0 D l (n + 1) I (e :: tl) loc stk fs w iv := by
  intro N p e' R s m args below meth c H locs ws tys cst ls ads0 hN hF hW hS hL hI hK hA
  obtain ⟨v, st, rfl, h⟩ := e_q1_s (show e_q1 stk (fun v st => e_con iv v (fun n' => e_acc n I tl loc ((1, e_ul (e_i n').toInt64) :: st) fs w iv) (e_sp (e_acc n) (e :: tl) I loc stk fs w iv)) = true from h)
  obtain ⟨cv, cst', rfl, hvr, hS'⟩ := id hS
  obtain ⟨z1, z2⟩ := v_plain_s hv
  rcases e_con_s hI hvr h with ⟨k, rfl, h⟩ | h
  · exact lv_i2l hF.1 hF.2.1 z1 rfl (e_k IH h (by omega) hF hW ⟨_, _, rfl, by show Value.long _ = .long (e_l (e_ul _)); rw [e_l_u], hS'⟩ hL hI (e_suf hK) hA z2)
  · exact e_again IH (fun _ _ => h) N p e' R s m args below meth c H locs ws tys _ ls ads0 hN hF hW hS hL hI hK hA
theorem s_i2c (IH : e_P rho ta b L n0 D l n) (hv : v_plain (decode (e_byt I.1) e.1) .i2c e.1 (e_hpc tl) = true) (h : h_i2c (e_acc n) e tl I loc stk fs w iv = true) : e_GG rho ta b L n0 D l (n + 1) I (e :: tl) loc stk fs w iv := by
  intro N p e' R s m args below meth c H locs ws tys cst ls ads0 hN hF hW hS hL hI hK hA
  obtain ⟨v, st, rfl, h⟩ := e_q1_s (show e_q1 stk (fun v st => e_con iv v (fun n' => e_acc n I tl loc ((0, e_u ((e_i n').toUInt32 % 65536).toInt32) :: st) fs w iv) (e_sp (e_acc n) (e :: tl) I loc stk fs w iv)) = true from h)
  obtain ⟨cv, cst', rfl, hvr, hS'⟩ := id hS
  obtain ⟨z1, z2⟩ := v_plain_s hv
  rcases e_con_s hI hvr h with ⟨k, rfl, h⟩ | h
  · exact lv_i2c hF.1 hF.2.1 z1 rfl (e_k IH h (by omega) hF hW ⟨_, _, rfl, by show Value.int _ = .int (e_i (e_u _)); rw [e_i_u], hS'⟩ hL hI (e_suf hK) hA z2)
  · exact e_again IH (fun _ _ => h) N p e' R s m args below meth c H locs ws tys _ ls ads0 hN hF hW hS hL hI hK hA
theorem s_l2i (IH : e_P rho ta b L n0 D l n) (hv : v_plain (decode (e_byt I.1) e.1) .l2i e.1 (e_hpc tl) = true) (h : h_l2i (e_acc n) e tl I loc stk fs w iv = true) : e_GG rho ta b L n0 D l (n + 1) I (e :: tl) loc stk fs w iv := by
  intro N p e' R s m args below meth c H locs ws tys cst ls ads0 hN hF hW hS hL hI hK hA
  obtain ⟨v, st, rfl, h⟩ := e_q1_s (show e_q1 stk (fun v st => cond (Nat.beq v.1 1) (e_acc n I tl loc ((0, e_u (e_l v.2).toInt32) :: st) fs w iv) false) = true from h)
  obtain ⟨q, h⟩ := e_and h
  obtain ⟨cv, cst', rfl, hvr, hS'⟩ := id hS
  obtain ⟨z1, z2⟩ := v_plain_s hv
  have e1 := hvr.long (e_beq q)
  subst e1
  exact lv_l2i hF.1 hF.2.1 z1 rfl (e_k IH h (by omega) hF hW ⟨_, _, rfl, by show Value.int _ = .int (e_i (e_u _)); rw [e_i_u], hS'⟩ hL hI (e_suf hK) hA z2)
def v_lb (d : e_D) (k pc nx : Nat) : Bool := (match k, d with
  | 1, .ok (.ladd, 1) => true
  | 3, .ok (.lmul, 1) => true
  | 4, .ok (.land, 1) => true
  | 5, .ok (.lor, 1) => true
  | 6, .ok (.lxor, 1) => true
  | _, _ => false) && Nat.beq nx (pc + 1)
theorem s_lbin (IH : e_P rho ta b L n0 D l n) (hv : v_lb (decode (e_byt I.1) e.1) e.2.2.1 e.1 (e_hpc tl) = true) (h : h_lbin (e_acc n) e tl I loc stk fs w iv = true) : e_GG rho ta b L n0 D l (n + 1) I (e :: tl) loc stk fs w iv := by
  intro N p e' R s m args below meth c H locs ws tys cst ls ads0 hN hF hW hS hL hI hK hA
  obtain ⟨v, u, st, rfl, h⟩ := e_q2_s (show e_q2 stk (fun v u st => cond (cond (Nat.beq v.1 1) (Nat.beq u.1 1) false) (e_acc n I tl loc ((1, (e_lb e.2.2.1).2 u.2 v.2) :: st) fs w iv) false) = true from h)
  obtain ⟨q, h⟩ := e_and h
  obtain ⟨q1, q2⟩ := e_and q
  obtain ⟨cv, _, rfl, hvr, cu, cst', rfl, hur, hS'⟩ := id hS
  have e1 := hvr.long (e_beq q1)
  have e2 := hur.long (e_beq q2)
  subst e1; subst e2
  have kk : ∀ z, e_l ((e_lb e.2.2.1).2 u.2 v.2) = z → W p l e' R s m args below meth c H locs I.2.2.1 I.2.2.2.1 (vx_MQ below (e_Qc rho ta b L n0 D N fs ads0) (e_XC rho ta b L n0 D N fs ads0) args s (e_bud I.1).1 (e_bud I.1).2.1 (fun q => n0 ≤ q)) (F0 m (e_hpc tl) ls (.long z :: cst')) := fun z hz => by
    subst hz
    exact e_k IH h (by omega) hF hW ⟨_, _, rfl, rfl, hS'⟩ hL hI (e_suf hK) hA rfl
  show W p l e' R s m args below meth c H locs I.2.2.1 I.2.2.2.1 _ (F0 m e.1 ls (.long (e_l v.2) :: .long (e_l u.2) :: cst'))
  obtain ⟨z1, z2⟩ := e_and2 hv
  rw [e_beq z2] at kk
  generalize e.2.2.1 = k at z1 kk
  split at z1
  · rename_i g; exact lv_ladd hF.1 hF.2.1 g (kk _ (e_l_u _))
  · rename_i g; exact lv_lmul hF.1 hF.2.1 g (kk _ (e_l_u _))
  · rename_i g; exact lv_land hF.1 hF.2.1 g (kk _ (e_l_u _))
  · rename_i g; exact lv_lor hF.1 hF.2.1 g (kk _ (e_l_u _))
  · rename_i g; exact lv_lxor hF.1 hF.2.1 g (kk _ (e_l_u _))
  · cases z1
def v_ls (d : e_D) (k pc nx : Nat) : Bool := (match k, d with
  | 7, .ok (.lshl, 1) => true
  | 8, .ok (.lshr, 1) => true
  | 9, .ok (.lushr, 1) => true
  | _, _ => false) && Nat.beq nx (pc + 1)
theorem s_lsh (IH : e_P rho ta b L n0 D l n) (hv : v_ls (decode (e_byt I.1) e.1) e.2.2.1 e.1 (e_hpc tl) = true) (h : h_lsh (e_acc n) e tl I loc stk fs w iv = true) : e_GG rho ta b L n0 D l (n + 1) I (e :: tl) loc stk fs w iv := by
  intro N p e' R s m args below meth c H locs ws tys cst ls ads0 hN hF hW hS hL hI hK hA
  obtain ⟨v, u, st, rfl, h⟩ := e_q2_s (show e_q2 stk (fun v u st => e_con iv v (fun n' => cond (Nat.beq u.1 1) (e_acc n I tl loc ((1, (e_ls e.2.2.1).2 u.2 n') :: st) fs w iv) false) (e_sp (e_acc n) (e :: tl) I loc stk fs w iv)) = true from h)
  obtain ⟨cv, _, rfl, hvr, cu, cst', rfl, hur, hS'⟩ := id hS
  rcases e_con_s hI hvr h with ⟨k1, rfl, h⟩ | h
  · obtain ⟨q2, h⟩ := e_and h
    have e2 := hur.long (e_beq q2)
    subst e2
    have kk : ∀ z, e_l ((e_ls e.2.2.1).2 u.2 k1) = z → W p l e' R s m args below meth c H locs I.2.2.1 I.2.2.2.1 (vx_MQ below (e_Qc rho ta b L n0 D N fs ads0) (e_XC rho ta b L n0 D N fs ads0) args s (e_bud I.1).1 (e_bud I.1).2.1 (fun q => n0 ≤ q)) (F0 m (e_hpc tl) ls (.long z :: cst')) := fun z hz => by
      subst hz
      exact e_k IH h (by omega) hF hW ⟨_, _, rfl, rfl, hS'⟩ hL hI (e_suf hK) hA rfl
    show W p l e' R s m args below meth c H locs I.2.2.1 I.2.2.2.1 _ (F0 m e.1 ls (.int (e_i k1) :: .long (e_l u.2) :: cst'))
    obtain ⟨z1, z2⟩ := e_and2 hv
    rw [e_beq z2] at kk
    generalize e.2.2.1 = k at z1 kk
    split at z1
    · rename_i g; exact lv_lshl hF.1 hF.2.1 g rfl (kk _ (e_l_u _))
    · rename_i g; exact lv_lshr hF.1 hF.2.1 g rfl (kk _ (e_l_u _))
    · rename_i g; exact lv_lushr hF.1 hF.2.1 g rfl (kk _ (e_l_u _))
    · cases z1
  · exact e_again IH (fun _ _ => h) N p e' R s m args below meth c H locs ws tys _ ls ads0 hN hF hW hS hL hI hK hA
theorem s_lcmp (IH : e_P rho ta b L n0 D l n) (hv : v_plain (decode (e_byt I.1) e.1) .lcmp e.1 (e_hpc tl) = true) (h : h_lcmp (e_acc n) e tl I loc stk fs w iv = true) : e_GG rho ta b L n0 D l (n + 1) I (e :: tl) loc stk fs w iv := by
  intro N p e' R s m args below meth c H locs ws tys cst ls ads0 hN hF hW hS hL hI hK hA
  obtain ⟨v, u, st, rfl, h⟩ := e_q2_s (show e_q2 stk (fun v u st => cond (cond (Nat.beq v.1 1) (Nat.beq u.1 1) false) (e_acc n I tl loc ((0, e_u (lg_cmp (e_l u.2) (e_l v.2))) :: st) fs w iv) false) = true from h)
  obtain ⟨q, h⟩ := e_and h
  obtain ⟨q1, q2⟩ := e_and q
  obtain ⟨cv, _, rfl, hvr, cu, cst', rfl, hur, hS'⟩ := id hS
  have e1 := hvr.long (e_beq q1)
  have e2 := hur.long (e_beq q2)
  subst e1; subst e2
  obtain ⟨z1, z2⟩ := v_plain_s hv
  exact W.lcmp hF.1 hF.2.1 z1 (e_k IH h (by omega) hF hW ⟨_, _, rfl, by show Value.int _ = .int (e_i (e_u _)); rw [e_i_u], hS'⟩ hL hI (e_suf hK) hA z2)
def v_acmp (d : e_D) (pc tg nx : Nat) : Bool := match d with
  | .ok (.if_acmp .ne off, 3) => decide ((pc : Int) + off = (tg : Int)) && Nat.beq nx (pc + 3)
  | _ => false
theorem s_acmp (IH : e_P rho ta b L n0 D l n) (hv : v_acmp (decode (e_byt I.1) e.1) e.1 (e_hpc (e_jmp I.2.1 tl e.2.2.2.2)) (e_hpc tl) = true) (h : h_acmp (e_acc n) e tl I loc stk fs w iv = true) : e_GG rho ta b L n0 D l (n + 1) I (e :: tl) loc stk fs w iv := by
  intro N p e' R s m args below meth c H locs ws tys cst ls ads0 hN hF hW hS hL hI hK hA
  obtain ⟨v, u, st, rfl, h⟩ := e_q2_s (show e_q2 stk (fun v u st => cond (cond (Nat.beq v.1 2) (cond (Nat.beq u.1 2) true (Nat.beq u.1 3)) (cond (Nat.beq v.1 3) (cond (Nat.beq u.1 2) true (Nat.beq u.1 3)) false))
    (e_acc n I (cond (cond (Nat.beq u.1 v.1) (cond (Nat.beq v.1 3) true (Nat.beq u.2 v.2)) false) tl (e_jmp I.2.1 tl e.2.2.2.2)) loc st fs w iv) false) = true from h)
  obtain ⟨q, h⟩ := e_and h
  obtain ⟨cv, _, rfl, hvr, cu, cst', rfl, hur, hS'⟩ := id hS
  have hpg : I.2.1 = e_pg I.1 := hF.2.2.2.2.2.2.2.2.2.1
  have hJ : ∃ k, e_jmp I.2.1 tl e.2.2.2.2 = (e_pg I.1).drop k := by rw [hpg]; exact e_sufj _ hK
  have inj : ∀ (i j a : Nat), (e_ads ws)[i]? = some a → (e_ads ws)[j]? = some a → i = j := by
    intro i j a h1 h2
    unfold e_ads at h1 h2
    rw [List.getElem?_map] at h1 h2
    cases g1 : ws[i]? with
    | none => rw [g1] at h1; cases h1
    | some x =>
      cases g2 : ws[j]? with
      | none => rw [g2] at h2; cases h2
      | some y =>
        rw [g1] at h1; rw [g2] at h2
        have h1 : some x.1 = some a := h1
        have h2 : some y.1 = some a := h2
        exact hW.2.2.1.1 i j x y g1 g2 (by rw [Option.some.inj h1, Option.some.inj h2])
  show W p l e' R s m args below meth c H locs I.2.2.1 I.2.2.2.1 _ (F0 m e.1 ls (cv :: cu :: cst'))
  unfold v_acmp at hv
  split at hv
  · rename_i off g
    obtain ⟨z1, z2⟩ := e_and2 hv
    have hc : ∃ rx ry : Option Nat, cv = va_rf ry ∧ cu = va_rf rx ∧ (rx = ry ↔ cond (Nat.beq u.1 v.1) (cond (Nat.beq v.1 3) true (Nat.beq u.2 v.2)) false = true) := by
      rcases e_ite q with ⟨a1, a2⟩ | ⟨-, q⟩
      · obtain ⟨av, b1, rfl⟩ := hvr.cell (e_beq a1)
        rcases e_or a2 with a2 | a2
        · obtain ⟨au, b2, rfl⟩ := hur.cell (e_beq a2)
          refine ⟨some au, some av, rfl, rfl, ?_⟩
          rw [e_beq a1, e_beq a2]
          show some au = some av ↔ Nat.beq u.2 v.2 = true
          constructor
          · intro z
            cases z
            rw [inj _ _ _ b2 b1]
            exact Nat.beq_refl _
          · intro z
            have z := e_beq z
            rw [z] at b2
            rw [b1] at b2
            exact b2.symm
        · have := hur.null (e_beq a2)
          subst this
          refine ⟨none, some av, rfl, rfl, ?_⟩
          rw [e_beq a1, e_beq a2]
          exact ⟨fun z => (by cases z), fun z => (by cases z)⟩
      · obtain ⟨a1, a2⟩ := e_and q
        have := hvr.null (e_beq a1)
        subst this
        rcases e_or a2 with a2 | a2
        · obtain ⟨au, b2, rfl⟩ := hur.cell (e_beq a2)
          refine ⟨some au, none, rfl, rfl, ?_⟩
          rw [e_beq a1, e_beq a2]
          exact ⟨fun z => (by cases z), fun z => (by cases z)⟩
        · have := hur.null (e_beq a2)
          subst this
          refine ⟨none, none, rfl, rfl, ?_⟩
          rw [e_beq a1, e_beq a2]
          exact ⟨fun _ => rfl, fun _ => rfl⟩
    obtain ⟨rx, ry, rfl, rfl, hi⟩ := hc
    refine lv_acmp_ne hF.1 hF.2.1 g (of_decide_eq_true z1) (fun z => ?_) (fun z => ?_)
    · have z3 : cond (Nat.beq u.1 v.1) (cond (Nat.beq v.1 3) true (Nat.beq u.2 v.2)) false = false := by
        cases y : cond (Nat.beq u.1 v.1) (cond (Nat.beq v.1 3) true (Nat.beq u.2 v.2)) false with
        | true => exact absurd (hi.mpr y) z
        | false => rfl
      rw [z3] at h
      exact e_k IH h (by omega) hF hW hS' hL hI hJ hA rfl
    · rw [hi.mp z] at h
      exact e_k IH h (by omega) hF hW hS' hL hI (e_suf hK) hA (e_beq z2)
  · cases hv
/-- a switch: the default's place first -/
def v_tsw (d : e_D) (a k pc : Nat) (tg : Nat → Nat) : Bool := match d with
  | .ok (.tableswitch df lo hi offs, _) => decide (lo = (a : Int) ∧ hi = (a : Int) + (k : Int) ∧ a + k < 2147483648 ∧ (pc : Int) + df = (tg 0 : Int)) && (List.range (k + 1)).all (fun j => decide ((offs[j]?).map (fun o => (pc : Int) + o) = some (tg (j + 1) : Int)))
  | _ => false
theorem e_i_int {k : Nat} (h : k < 2147483648) : (e_i k).toInt = (k : Int) := nI_toInt (by omega)
theorem s_tsw (IH : e_P rho ta b L n0 D l n) (hv : v_tsw (decode (e_byt I.1) e.1) e.2.2.1 e.2.2.2.1 e.1 (fun j => e_hpc (e_jmp I.2.1 tl (e_ov (e_ovr e.2.2.2.2) j))) = true) (h : h_tsw (e_acc n) e tl I loc stk fs w iv = true) : e_GG rho ta b L n0 D l (n + 1) I (e :: tl) loc stk fs w iv := by
  intro N p e' R s m args below meth c H locs ws tys cst ls ads0 hN hF hW hS hL hI hK hA
  obtain ⟨v, st, rfl, h⟩ := e_q1_s (show e_q1 stk (fun v st => cond (e_is 0 v.1) (e_ltR (e_rng iv v) (e_rng iv (0, e.2.2.1)) v (0, e.2.2.1) (e_acc n I (e_jmp I.2.1 tl (e_ov (e_ovr e.2.2.2.2) 0)) loc st fs w iv)
    (e_ltR (e_rng iv (0, Nat.add e.2.2.1 e.2.2.2.1)) (e_rng iv v) (0, Nat.add e.2.2.1 e.2.2.2.1) v (e_acc n I (e_jmp I.2.1 tl (e_ov (e_ovr e.2.2.2.2) 0)) loc st fs w iv)
      (e_con iv v (fun n' => cond (cond (Nat.ble e.2.2.1 n') (Nat.ble n' (Nat.add e.2.2.1 e.2.2.2.1)) false) (e_acc n I (e_jmp I.2.1 tl (e_ov (e_ovr e.2.2.2.2) (Nat.succ (Nat.sub n' e.2.2.1)))) loc st fs w iv) false) (e_sp (e_acc n) (e :: tl) I loc stk fs w iv)) (e_sp (e_acc n) (e :: tl) I loc stk fs w iv)) (e_sp (e_acc n) (e :: tl) I loc stk fs w iv)) false) = true from h)
  obtain ⟨hi, h⟩ := e_and h
  obtain ⟨cv, cst', rfl, hvr, hS'⟩ := id hS
  obtain ⟨x, rfl⟩ := hvr.int hi
  have hpg : I.2.1 = e_pg I.1 := hF.2.2.2.2.2.2.2.2.2.1
  have hJ : ∀ x, ∃ k, e_jmp I.2.1 tl x = (e_pg I.1).drop k := fun x => by rw [hpg]; exact e_sufj _ hK
  have hag : (∃ k c, e_sp (e_acc n) (e :: tl) I loc (v :: st) fs w iv k c = true) → W p l e' R s m args below meth c H locs I.2.2.1 I.2.2.2.1 (vx_MQ below (e_Qc rho ta b L n0 D N fs ads0) (e_XC rho ta b L n0 D N fs ads0) args s (e_bud I.1).1 (e_bud I.1).2.1 (fun q => n0 ≤ q)) (F0 m e.1 ls (.int x :: cst')) :=
    fun h => e_again IH (fun _ _ => h) N p e' R s m args below meth c H locs ws tys _ ls ads0 hN hF hW hS hL hI hK hA
  have r1 := e_rng_s hI hi hvr
  show W p l e' R s m args below meth c H locs I.2.2.1 I.2.2.2.1 _ (F0 m e.1 ls (.int x :: cst'))
  unfold v_tsw at hv
  split at hv
  · rename_i df lo hiv offs len g
    obtain ⟨z1, z2⟩ := e_and2 hv
    obtain ⟨y1, y2, y3, y4⟩ := of_decide_eq_true z1
    have ra : ∀ k, (e_rng iv (0, k)).1 ≤ e_o (e_i k) ∧ e_o (e_i k) ≤ (e_rng iv (0, k)).2 := fun k => e_rng_s (v := (0, k)) (ta := ta) (b := b) (L := L) (ads := []) hI rfl rfl
    rcases e_lt_s r1 (ra e.2.2.1) h with ⟨c1, h⟩ | ⟨c1, h⟩ | h
    · have c1 := Int32.lt_iff_toInt_lt.mp c1
      rw [e_i_int (by omega)] at c1
      exact lv_tableOut hF.1 hF.2.1 g (Or.inl (by rw [y1]; exact c1)) y4 (e_k IH h (by omega) hF hW hS' hL hI (hJ _) hA rfl)
    · rcases e_lt_s (ra (Nat.add e.2.2.1 e.2.2.2.1)) r1 h with ⟨c2, h⟩ | ⟨c2, h⟩ | h
      · have c2 := Int32.lt_iff_toInt_lt.mp c2
        rw [e_i_int (show Nat.add e.2.2.1 e.2.2.2.1 < _ from y3)] at c2
        exact lv_tableOut hF.1 hF.2.1 g (Or.inr (by rw [y2]; exact c2)) y4 (e_k IH h (by omega) hF hW hS' hL hI (hJ _) hA rfl)
      · rcases e_con_s hI hvr h with ⟨k, ek, h⟩ | h
        · obtain ⟨q, h⟩ := e_and h
          obtain ⟨q1, q2⟩ := e_and q
          have q1 := e_ble q1
          have q2 : k ≤ e.2.2.1 + e.2.2.2.1 := e_ble q2
          cases ek
          have hk := e_i_int (k := k) (by omega)
          have z3 := List.all_eq_true.mp z2 (k - e.2.2.1) (List.mem_range.mpr (by omega))
          have z3 := of_decide_eq_true z3
          cases ho : offs[k - e.2.2.1]? with
          | none => rw [ho] at z3; cases z3
          | some o =>
            rw [ho] at z3
            have z3 : some ((e.1 : Int) + o) = _ := z3
            exact lv_tableIn hF.1 hF.2.1 g (by rw [hk, y1]; omega) (by rw [hk, y2]; omega) (off := o) (by rw [hk, y1, show ((k : Int) - (e.2.2.1 : Int)).toNat = k - e.2.2.1 by omega]; exact ho) (Option.some.inj z3) (e_k IH h (by omega) hF hW hS' hL hI (hJ _) hA rfl)
        · exact hag h
      · exact hag h
    · exact hag h
  · cases hv
end
end
section
/-! THE HANDLERS that look at the heap. -/
section
variable {rho : Nat → Int32} {ta : Nat → Nat × Nat} {b L n0 : Nat} {D : va_G} {l : Launch} {n : Nat} {e : e_E} {tl : List e_E} {I : e_N} {loc stk : List e_V} {fs : List e_F} {w : e_W} {iv : e_I} {tys : List (ClassId × FieldType)} {ws : va_W}
/-- a cell that a value names -/
theorem e_cell_s {kk : e_C → Bool} {v : e_V} {cv : Value} (hw : e_WR rho ta b L tys ws w) (hv : e_VR rho ta b L (e_ads ws) v cv) (h : e_cell w v kk = true) : ∃ (c : e_C) (a : Nat) (x : va_E), v.2 < w.1 ∧ e_tget 9 w.2 v.2 = some c ∧ kk c = true ∧ cv = .ref a ∧ ws[v.2]? = some (a, x) ∧ e_CR rho ta b L (e_ads ws) tys c x := by
  obtain ⟨q, h⟩ := e_and h
  obtain ⟨a, h1, rfl⟩ := hv.cell (e_beq q)
  unfold e_ads at h1
  rw [List.getElem?_map] at h1
  cases g1 : ws[v.2]? with
  | none => rw [g1] at h1; cases h1
  | some x =>
    rw [g1] at h1
    have h1 : some x.1 = some a := h1
    have hlt : v.2 < w.1 := by rw [← hw.1]; exact (List.getElem?_eq_some_iff.mp g1).1
    cases g2 : e_tget 9 w.2 v.2 with
    | none => rw [g2] at h; cases h
    | some c =>
      rw [g2] at h
      obtain ⟨y, y1, y2⟩ := hw.2.2 _ _ hlt g2
      rw [g1] at y1
      cases y1
      exact ⟨c, a, x.2, hlt, rfl, h, rfl, by rw [← Option.some.inj h1], y2⟩
theorem e_ads_set {i a : Nat} {x0 x1 : va_E} (h : ws[i]? = some (a, x0)) : e_ads (ws.set i (a, x1)) = e_ads ws := by
  unfold e_ads
  rw [List.map_set]
  have hl := (List.getElem?_eq_some_iff.mp h)
  obtain ⟨hl, he⟩ := hl
  apply List.ext_getElem?
  intro j
  by_cases q : i = j
  · subst q
    rw [List.getElem?_set_self (by simpa using hl), List.getElem?_map, h]
    rfl
  · rw [List.getElem?_set_ne q]
theorem e_WR.set {i a : Nat} {x0 x1 : va_E} {c : e_C} (hw : e_WR rho ta b L tys ws w) (h : ws[i]? = some (a, x0)) (hc : e_CR rho ta b L (e_ads ws) tys c x1) : e_WR rho ta b L tys (ws.set i (a, x1)) (w.1, e_tset 9 w.2 i (some c)) := by
  have hl : i < w.1 := by rw [← hw.1]; exact (List.getElem?_eq_some_iff.mp h).1
  refine ⟨by rw [List.length_set]; exact hw.1, hw.2.1, fun j c' hj hg => ?_⟩
  show ∃ q, (ws.set i (a, x1))[j]? = some q ∧ e_CR rho ta b L (e_ads (ws.set i (a, x1))) tys c' q.2
  rw [e_ads_set h]
  have h512 : w.1 ≤ 512 := hw.2.1
  have hj : j < w.1 := hj
  have hg : e_tget 9 (e_tset 9 w.2 i (some c)) j = some c' := hg
  rw [e_tget_set 9 _ _ _ _ (by show i < 512; omega) (by show j < 512; omega)] at hg
  by_cases q : j = i
  · rw [if_pos q] at hg
    cases hg
    subst q
    exact ⟨_, List.getElem?_set_self (by rw [hw.1]; exact hl), hc⟩
  · rw [if_neg q] at hg
    obtain ⟨y, y1, y2⟩ := hw.2.2 _ _ hj hg
    exact ⟨y, by rw [List.getElem?_set_ne (fun z => q z.symm)]; exact y1, y2⟩
theorem e_WR.push {a : Nat} {x : va_E} {c : e_C} {tys' : List (ClassId × FieldType)} (hw : e_WR rho ta b L tys ws w) (h5 : w.1 ≤ 511) (ht : tys <+: tys') (hc : e_CR rho ta b L (e_ads (ws ++ [(a, x)])) tys' c x) : e_WR rho ta b L tys' (ws ++ [(a, x)]) (Nat.succ w.1, e_tset 9 w.2 w.1 (some c)) := by
  refine ⟨by simp [hw.1], by show w.1 + 1 ≤ 512; omega, fun j c' hj hg => ?_⟩
  have hj : j < w.1 + 1 := hj
  have hg : e_tget 9 (e_tset 9 w.2 w.1 (some c)) j = some c' := hg
  rw [e_tget_set 9 _ _ _ _ (by show w.1 < 512; omega) (by show j < 512; omega)] at hg
  by_cases q : j = w.1
  · rw [if_pos q] at hg
    cases hg
    subst q
    refine ⟨(a, x), ?_, hc⟩
    rw [List.getElem?_append_right (by rw [hw.1]; exact Nat.le_refl _), hw.1, Nat.sub_self]
    rfl
  · rw [if_neg q] at hg
    obtain ⟨y, y1, y2⟩ := hw.2.2 _ _ (by omega) hg
    refine ⟨y, ?_, y2.mono ?_ ht⟩
    · rw [List.getElem?_append_left (List.getElem?_eq_some_iff.mp y1).1]
      exact y1
    · exact ⟨[a], by simp⟩
theorem e_ads_push {a : Nat} {x : va_E} : e_ads ws <+: e_ads (ws ++ [(a, x)]) := ⟨[a], by simp [e_ads]⟩
def v_get (d : e_D) (own host : String) (ci k h pc nx : Nat) : Bool := match d with
  | .ok (.getfield i, 3) => decide (ci < e_nc ∧ k < e_nf ci) && ((e_has h (.fieldLink own i (e_FT ci k).1 (e_FT ci k).2.1 (e_FT ci k).2.2.1) || e_hasH h (.fieldLinkNest own i (e_FT ci k).1 (e_FT ci k).2.1 (e_FT ci k).2.2.1 host)) && Nat.beq nx (pc + 3))
  | _ => false
theorem e_or2 {x y : Bool} (h : (x || y) = true) : x = true ∨ y = true := by
  cases x <;> cases y <;> simp_all
theorem s_get (hCO : e_CO) (IH : e_P rho ta b L n0 D l n) {hh : Nat} (hv : v_get (decode (e_byt I.1) e.1) (e_own I.1) (e_host I.1) e.2.2.1 e.2.2.2.1 hh e.1 (e_hpc tl) = true) (h : h_get (e_acc n) e tl I loc stk fs w iv = true) : e_GG rho ta b L n0 D l (n + 1) I (e :: tl) loc stk fs w iv := by
  intro N p e' R s m args below meth c H locs ws tys cst ls ads0 hN hF hW hS hL hI hK hA
  obtain ⟨v, st, rfl, h⟩ := e_q1_s (show e_q1 stk (fun v st => e_cell w v (fun c => cond (Nat.beq c.1 0) (cond (Nat.beq c.2.1 e.2.2.1) (Prod.rec (motive := fun _ => Bool) (fun t p => e_acc n I tl loc ((t, p) :: st) fs w iv) (e_get c.2.2.2 e.2.2.2.1 c.2.2.1)) false) false)) = true from h)
  obtain ⟨cv, cst, rfl, hvr, hS⟩ := hS
  obtain ⟨hK0, hP, hD, hSS, hWR⟩ := id hW
  obtain ⟨c1, a, x, hlt, g1, h, rfl, g2, g3⟩ := e_cell_s hWR hvr h
  obtain ⟨r1, h⟩ := e_and h
  obtain ⟨r2, h⟩ := e_and h
  have r1 := e_beq r1
  have r2 := e_beq r2
  have hts := hF.2.2.2.2.1
  have hown := hF.2.2.2.1
  have hGS := hF.2.2.2.2.2.2.2.2.2.2.2.2.2.2.2.2.2.2.2
  show W p l e' R s m args below meth c H locs I.2.2.1 I.2.2.2.1 _ (F0 m e.1 ls (.ref a :: cst))
  unfold v_get at hv
  split at hv
  · rename_i idx g
    obtain ⟨z1, z2⟩ := e_and2 hv
    obtain ⟨z2, z3⟩ := e_and2 z2
    obtain ⟨y1, y2⟩ := of_decide_eq_true z1
    rcases g3 with ⟨-, ⟨-, hci, fs', rfl, hlen, hfs⟩ | ⟨q, -⟩ | ⟨q, -⟩ | ⟨q, -⟩⟩
    · rw [r2] at hlen hfs g2
      obtain ⟨cv, f1, f2⟩ := hfs _ y2
      have hh : e_acc n I tl loc (e_get c1.2.2.2 e.2.2.2.1 c1.2.2.1 :: st) fs w iv = true := h
      have kk := e_k IH hh (N := N) (e' := e') (below := below) (by omega) hF hW (cst := cv :: cst) ⟨_, _, rfl, f2, hS⟩ hL hI (e_suf hK) hA (e_beq z3)
      obtain ⟨co, -⟩ := hCO _ y1
      rcases e_or2 z2 with z2 | z2
      · exact va_get hF.1 hF.2.1 hts co hown hK0 hP _ g2 (e_cl_at y1) _ y2 (hts _ (e_has_s z2)) (fun _ h9 => h9) f1 g kk
      · exact va_getN hF.1 hF.2.1 hts co hown hK0 hP _ g2 (e_cl_at y1) _ y2 (hGS.use (e_hasH_s z2) args) (fun _ h9 => h9) f1 g kk
    · omega
    · omega
    · omega
  · cases hv
def v_fk (k : Nat) (ty : FieldType) : Bool := match k, ty with
  | 0, .int => true
  | 1, .boolean => true
  | 2, .long => true
  | 3, .object _ => true
  | 3, .array _ => true
  | _, _ => false
theorem e_b01 {v : e_V} {cv : Value} {ads : List Nat} (hv : e_VR rho ta b L ads v cv) (h : cond (Nat.beq v.1 0) (Nat.ble v.2 1) false = true) : cv = .int 0 ∨ cv = .int 1 := by
  obtain ⟨h1, h2⟩ := e_and h
  have h1 := e_beq h1
  have h2 := e_ble h2
  unfold e_VR at hv
  rw [h1] at hv
  have hv : cv = .int (e_i v.2) := hv
  rcases (show v.2 = 0 ∨ v.2 = 1 by omega) with q | q
  · left; rw [hv, q]; rfl
  · right; rw [hv, q]; rfl
theorem e_fk_s {k : Nat} {ty : FieldType} {v : e_V} {cv : Value} {ads : List Nat} (hv : e_VR rho ta b L ads v cv) (h : e_fk k v = true) (ht : v_fk k ty = true) : narrow ty cv = cv ∧ fits ty cv = true := by
  unfold v_fk at ht
  split at ht
  · obtain ⟨x, rfl⟩ := hv.int (show e_is 0 v.1 = true from h)
    exact ⟨rfl, rfl⟩
  · rcases e_b01 hv (show cond (Nat.beq v.1 0) (Nat.ble v.2 1) false = true from h) with rfl | rfl <;> exact ⟨by decide, by decide⟩
  · have := hv.long (e_beq (show Nat.beq v.1 1 = true from h))
    subst this
    exact ⟨rfl, rfl⟩
  · rcases hv.refs (show e_is 2 v.1 = true from h) with ⟨a, rfl⟩ | rfl <;> exact ⟨rfl, rfl⟩
  · rcases hv.refs (show e_is 2 v.1 = true from h) with ⟨a, rfl⟩ | rfl <;> exact ⟨rfl, rfl⟩
  · cases ht
def v_put (d : e_D) (own host : String) (ini : Bool) (ci k x h pc nx : Nat) : Bool := match d with
  | .ok (.putfield i, 3) => decide (ci < e_nc ∧ k < e_nf ci) && (v_fk x (e_ty ci k) && ((if (e_FT ci k).2.2.2 = true then (e_has h (.fieldLink own i (e_FT ci k).1 (e_FT ci k).2.1 (e_FT ci k).2.2.1) && (ini && decide ((e_FT ci k).1 = own))) else (e_has h (.fieldLink own i (e_FT ci k).1 (e_FT ci k).2.1 (e_FT ci k).2.2.1) || e_hasH h (.fieldLinkNest own i (e_FT ci k).1 (e_FT ci k).2.1 (e_FT ci k).2.2.1 host))) && Nat.beq nx (pc + 3)))
  | _ => false
theorem s_put (hCO : e_CO) (IH : e_P rho ta b L n0 D l n) {hh : Nat} (hv : v_put (decode (e_byt I.1) e.1) (e_own I.1) (e_host I.1) (e_ini I.1) e.2.2.1 e.2.2.2.1 e.2.2.2.2 hh e.1 (e_hpc tl) = true) (h : h_putf (e_acc n) e tl I loc stk fs w iv = true) : e_GG rho ta b L n0 D l (n + 1) I (e :: tl) loc stk fs w iv := by
  intro N p e' R s m args below meth c H locs ws tys cst ls ads0 hN hF hW hS hL hI hK hA
  obtain ⟨v, u, st, rfl, h⟩ := e_q2_s (show e_q2 stk (fun v u st => e_cell w u (fun c => cond (Nat.beq c.1 0) (cond (Nat.beq c.2.1 e.2.2.1) (cond (e_fk e.2.2.2.2 v) (e_acc n I tl loc st fs (w.1, e_tset 9 w.2 u.2 (some (0, c.2.1, c.2.2.1, e_set c.2.2.2 e.2.2.2.1 v))) iv) false) false) false)) = true from h)
  obtain ⟨cv, _, rfl, hvr, cu, cst, rfl, hur, hS⟩ := hS
  obtain ⟨hK0, hP, hD, hSS, hWR⟩ := id hW
  obtain ⟨c1, a, x, hlt, g1, h, rfl, g2, g3⟩ := e_cell_s hWR hur h
  obtain ⟨r1, h⟩ := e_and h
  obtain ⟨r2, h⟩ := e_and h
  obtain ⟨r3, h⟩ := e_and h
  have r1 := e_beq r1
  have r2 := e_beq r2
  have hts := hF.2.2.2.2.1
  have hown := hF.2.2.2.1
  have hmn := hF.2.2.2.2.2.2.2.1
  have hGS := hF.2.2.2.2.2.2.2.2.2.2.2.2.2.2.2.2.2.2.2
  show W p l e' R s m args below meth c H locs I.2.2.1 I.2.2.2.1 _ (F0 m e.1 ls (cv :: .ref a :: cst))
  unfold v_put at hv
  split at hv
  · rename_i idx g
    obtain ⟨z1, z2⟩ := e_and2 hv
    obtain ⟨zf, z2⟩ := e_and2 z2
    obtain ⟨z2, z3⟩ := e_and2 z2
    obtain ⟨y1, y2⟩ := of_decide_eq_true z1
    obtain ⟨w1, w2⟩ := e_fk_s hvr r3 zf
    rcases g3 with ⟨gl, ⟨-, hci, fs', rfl, hlen, hfs⟩ | ⟨q, -⟩ | ⟨q, -⟩ | ⟨q, -⟩⟩
    · obtain ⟨co, co2, co3, -⟩ := hCO _ y1
      have hWR2 : e_WR rho ta b L tys (ws.set u.2 (a, .inr (c1.2.1, fs'.set e.2.2.2.1 cv))) (w.1, e_tset 9 w.2 u.2 (some (0, c1.2.1, c1.2.2.1, e_set c1.2.2.2 e.2.2.2.1 v))) := by
        refine hWR.set g2 ⟨gl, Or.inl ⟨rfl, hci, _, rfl, by rw [List.length_set]; exact hlen, fun k hk => ?_⟩⟩
        have hk : k < e_nf c1.2.1 := hk
        by_cases q : k = e.2.2.2.1
        · subst q
          refine ⟨cv, by rw [List.getElem?_set_self (by rw [hlen]; exact hk)], ?_⟩
          show e_VR rho ta b L (e_ads ws) (e_get (e_set c1.2.2.2 e.2.2.2.1 v) e.2.2.2.1 c1.2.2.1) cv
          rw [e_get_set, if_pos rfl]
          exact hvr
        · obtain ⟨cw, f1, f2⟩ := hfs k hk
          refine ⟨cw, by rw [List.getElem?_set_ne (fun z => q z.symm)]; exact f1, ?_⟩
          show e_VR rho ta b L (e_ads ws) (e_get (e_set c1.2.2.2 e.2.2.2.1 v) k c1.2.2.1) cw
          rw [e_get_set, if_neg q]
          exact f2
      have hads : e_ads (ws.set u.2 (a, .inr (c1.2.1, fs'.set e.2.2.2.1 cv))) = e_ads ws := e_ads_set g2
      have kk : ∀ (H1 : Heap) (locs1 : List Loc), va_P D e_cl (ws.set u.2 (a, .inr (e.2.2.1, fs'.set e.2.2.2.1 cv))) H1 → va_D (fun q => n0 ≤ q) (ws.set u.2 (a, .inr (e.2.2.1, fs'.set e.2.2.2.1 cv))) → va_S (fun q => n0 ≤ q) s.heap H1 locs1 → W p l e' R s m args below meth c H1 locs1 I.2.2.1 I.2.2.2.1 (vx_MQ below (e_Qc rho ta b L n0 D N fs ads0) (e_XC rho ta b L n0 D N fs ads0) args s (e_bud I.1).1 (e_bud I.1).2.1 (fun q => n0 ≤ q)) (F0 m (e.1 + 3) ls cst) := by
        intro H1 locs1 hP1 hD1 hS1
        rw [← r2] at hP1 hD1
        exact e_k IH h (by omega) hF ⟨hK0, hP1, hD1, hS1, hWR2⟩ (by rw [hads]; exact hS) (by rw [hads]; exact hL) hI (e_suf hK) (by rw [hads]; exact hA) (e_beq z3)
      rw [r2] at g2 hlen
      by_cases hfin : (e_FT e.2.2.1 e.2.2.2.1).2.2.2 = true
      · rw [if_pos hfin] at z2
        obtain ⟨z2, z4⟩ := e_and2 z2
        obtain ⟨z4, z5⟩ := e_and2 z4
        exact va_putF hF.1 hF.2.1 hts co (e_ty e.2.2.1) co2 co3 hown hK0 hP hD hSS _ g2 (e_cl_at y1) _ y2 (hts _ (e_has_s z2)) (fun _ h9 => h9) hfin (hmn z4) (of_decide_eq_true z5) (co2 _ y2) w1 w2 (by rw [hlen]; exact y2) g kk
      · rw [if_neg hfin] at z2
        have hfin2 : (e_FT e.2.2.1 e.2.2.2.1).2.2.2 = false := by
          cases y : (e_FT e.2.2.1 e.2.2.2.1).2.2.2 with
          | true => exact absurd y hfin
          | false => rfl
        rcases e_or2 z2 with z2 | z2
        · exact va_put hF.1 hF.2.1 hts co (e_ty e.2.2.1) co2 co3 hown hK0 hP hD hSS _ g2 (e_cl_at y1) _ y2 (hts _ (e_has_s z2)) (fun _ h9 => h9) hfin2 (co2 _ y2) w1 w2 (by rw [hlen]; exact y2) g kk
        · exact va_putN hF.1 hF.2.1 hts co (e_ty e.2.2.1) co2 co3 hown hK0 hP hD hSS _ g2 (e_cl_at y1) _ y2 (hGS.use (e_hasH_s z2) args) (fun _ h9 => h9) hfin2 (co2 _ y2) w1 w2 (by rw [hlen]; exact y2) g kk
    · omega
    · omega
    · omega
  · cases hv
end
end
section
/-! NEW CELLS, rows of numbers. -/
section
variable {rho : Nat → Int32} {ta : Nat → Nat × Nat} {b L n0 : Nat} {D : va_G} {l : Launch} {n : Nat} {e : e_E} {tl : List e_E} {I : e_N} {loc stk : List e_V} {fs : List e_F} {w : e_W} {iv : e_I} {tys : List (ClassId × FieldType)} {ws : va_W}
theorem e_rm_s {k : Nat} {kk : e_N → Bool} (h : e_rm I k kk = true) : I.2.2.1 + 1 ≤ (e_bud I.1).1 ∧ I.2.2.2.1 + k ≤ (e_bud I.1).2.1 ∧ kk (I.1, I.2.1, Nat.succ I.2.2.1, Nat.add I.2.2.2.1 k, I.2.2.2.2) = true := by
  obtain ⟨h1, h⟩ := e_and h
  obtain ⟨h2, h⟩ := e_and h
  exact ⟨e_ble h1, e_ble h2, h⟩
theorem e_FC.room {p : Program} {R : Room} {s : State} {m : MethodId} {args : Array Value} {meth : Method} {c : Code} {k j : Nat} (h : e_FC rho ta b L I n0 p l R s m args meth c) (h1 : k ≤ (e_bud I.1).1) (h2 : j ≤ (e_bud I.1).2.1) : e_FC rho ta b L (I.1, I.2.1, k, j, I.2.2.2.2) n0 p l R s m args meth c := by
  obtain ⟨a1, a2, a3, a4, a5, a6, a7, a8, a9, a10, a11, a12, a13, a14, a15, a16, a17, a18⟩ := h
  exact ⟨a1, a2, a3, a4, a5, a6, a7, a8, a9, a10, a11, a12, a13, a14, a15, h1, h2, a18⟩
theorem e_FC.rooms {p : Program} {R : Room} {s : State} {m : MethodId} {args : Array Value} {meth : Method} {c : Code} (h : e_FC rho ta b L I n0 p l R s m args meth c) : (e_bud I.1).1 ≤ R.cells ∧ (e_bud I.1).2.1 ≤ R.slots ∧ I.2.2.2.2 + 8 ≤ R.frames ∧ 60 * I.2.2.2.2 + 400 ≤ R.locals ∧ n0 ≤ s.heap.size ∧ l.stackTraces = false ∧ e_GS rho ta b L (fun q => n0 ≤ q) s s.heap := by
  obtain ⟨a1, a2, a3, a4, a5, a6, a7, a8, a9, a10, a11, a12, a13, a14, a15, a16, a17, a18, a19, a20⟩ := h
  exact ⟨a12, a13, a14, a15, a18, a19, a20⟩
def v_new (d : e_D) (own : String) (ci k h pc nx : Nat) : Bool := match d with
  | .ok (.new i, 3) => decide (ci < e_nc ∧ k = e_nf ci) && (e_has h (.classLink own i (e_cn ci)) && Nat.beq nx (pc + 3))
  | _ => false
theorem s_new (hCO : e_CO) (IH : e_P rho ta b L n0 D l n) {hh : Nat} (hv : v_new (decode (e_byt I.1) e.1) (e_own I.1) e.2.2.1 e.2.2.2.1 hh e.1 (e_hpc tl) = true) (h : h_new (e_acc n) e tl I loc stk fs w iv = true) : e_GG rho ta b L n0 D l (n + 1) I (e :: tl) loc stk fs w iv := by
  intro N p e' R s m args below meth c H locs ws tys cst ls ads0 hN hF hW hS hL hI hK hA
  obtain ⟨r1, r2, h⟩ := e_rm_s h
  obtain ⟨r3, h⟩ := e_and h
  have r3 := e_ble r3
  obtain ⟨hK0, hP, hD, hSS, hWR⟩ := id hW
  obtain ⟨k1, k2, k3, k4, k5, k6, k7⟩ := hF.rooms
  have hts := hF.2.2.2.2.1
  have hown := hF.2.2.2.1
  show W p l e' R s m args below meth c H locs I.2.2.1 I.2.2.2.1 _ (F0 m e.1 ls cst)
  unfold v_new at hv
  split at hv
  · rename_i idx g
    obtain ⟨z1, z2⟩ := e_and2 hv
    obtain ⟨z2, z3⟩ := e_and2 z2
    obtain ⟨y1, y2⟩ := of_decide_eq_true z1
    obtain ⟨co, co2, co3, co4, co5, co6⟩ := hCO _ y1
    refine va_new (ci := e.2.2.1) (fs := (List.range (e_nf e.2.2.1)).map (fun k => defaultValue (e_ty e.2.2.1 k))) hF.1 hF.2.1 hts co (e_ty e.2.2.1) co2 hown (hts _ (e_has_s z2)) (hts _ co4) (hts _ co5) hK0 hP hD hSS (fun q hq => Nat.le_trans k5 hq) (e_cl_at y1) (fun j hj => ?_) (by omega) (by omega) g (fun q H1 hP1 hD1 hS1 => ?_)
    · show _ = ((List.range (e_nf e.2.2.1)).map (fun k => defaultValue (e_ty e.2.2.1 k))).getD j .null
      simp [hj]
    · have hWR2 : e_WR rho ta b L tys (ws ++ [(q, .inr (e.2.2.1, (List.range (e_nf e.2.2.1)).map (fun k => defaultValue (e_ty e.2.2.1 k))))]) (Nat.succ w.1, e_tset 9 w.2 w.1 (some (0, e.2.2.1, (99, 0), e_fl e.2.2.1))) := by
        refine hWR.push r3 (List.prefix_refl _) ⟨?_, Or.inl ⟨rfl, y1, _, rfl, by simp, fun k hk => ?_⟩⟩
        · have : e_nc ≤ 16777216 := Nat.le_of_ble_eq_true rfl
          show e.2.2.1 ≤ _
          omega
        · have hk : k < e_nf e.2.2.1 := hk
          refine ⟨defaultValue (e_ty e.2.2.1 k), by simp [hk], ?_⟩
          obtain ⟨f1, f2⟩ := co6 k hk
          show e_VR rho ta b L _ (e_get (e_fl e.2.2.1) k (99, 0)) _
          rw [f1]
          cases hty : e_ty e.2.2.1 k <;> first | exact rfl | (rw [hty] at f2; cases f2)
      have hp := e_ads_push (ws := ws) (a := q) (x := .inr (e.2.2.1, (List.range (e_nf e.2.2.1)).map (fun k => defaultValue (e_ty e.2.2.1 k))))
      have hF2 := hF.room (k := Nat.succ I.2.2.1) (j := Nat.add I.2.2.2.1 e.2.2.2.1) r1 r2
      have kk := e_k IH h (N := N) (e' := e') (below := below) (by omega) hF2 (cst := .ref q :: cst) ⟨hK0, hP1, hD1, hS1, hWR2⟩ ⟨_, _, rfl, ⟨q, by
        unfold e_ads
        rw [List.getElem?_map, List.getElem?_append_right (by rw [hWR.1]; exact Nat.le_refl _), hWR.1]
        show Option.map _ ([_][w.1 - w.1]?) = _
        rw [Nat.sub_self]
        rfl, rfl⟩, hS.mono hp⟩ (hL.mono hp) hI (e_suf hK) (hA.trans hp) (e_beq z3)
      rw [y2] at kk
      exact kk
  · cases hv
def v_newa (d : e_D) (own : String) (k h g pc nx : Nat) : Bool := match k, d with
  | 1, .ok (.newarray .int, 2) => e_has h (.arrayClass .int) && Nat.beq nx (pc + 2)
  | 2, .ok (.newarray .boolean, 2) => e_has h (.arrayClass .boolean) && Nat.beq nx (pc + 2)
  | 3, .ok (.newarray .long, 2) => e_has h (.arrayClass .long) && Nat.beq nx (pc + 2)
  | k + 4, .ok (.anewarray i, 3) => (e_has h (.classLink own i (e_cn k)) && e_hasH g (.arrayOver (.object (e_cn k)))) && Nat.beq nx (pc + 3)
  | _, _ => false
theorem e_top {q : Nat} {x : va_E} (hWR : e_WR rho ta b L tys ws w) : e_VR rho ta b L (e_ads (ws ++ [(q, x)])) (2, w.1) (.ref q) := by
  refine ⟨q, ?_, rfl⟩
  unfold e_ads
  rw [List.getElem?_map, List.getElem?_append_right (by rw [hWR.1]; exact Nat.le_refl _), hWR.1]
  show Option.map _ ([_][w.1 - w.1]?) = _
  rw [Nat.sub_self]
  rfl
theorem s_newa (IH : e_P rho ta b L n0 D l n) {hh gg : Nat} (hv : v_newa (decode (e_byt I.1) e.1) (e_own I.1) e.2.2.1 hh gg e.1 (e_hpc tl) = true) (h : h_newa (e_acc n) e tl I loc stk fs w iv = true) : e_GG rho ta b L n0 D l (n + 1) I (e :: tl) loc stk fs w iv := by
  intro N p e' R s m args below meth c H locs ws tys cst ls ads0 hN hF hW hS hL hI hK hA
  obtain ⟨v, st, rfl, h⟩ := e_q1_s (show e_q1 stk (fun v st => e_con iv v (fun n' => cond (Nat.ble n' 16777216) (e_rm I n' (fun I' => cond (Nat.ble w.1 511) (e_acc n I' tl loc ((2, w.1) :: st) fs (Nat.succ w.1, e_tset 9 w.2 w.1 (some (e.2.2.1, n', e_zero e.2.2.1, []))) iv) false)) false) (e_sp (e_acc n) (e :: tl) I loc stk fs w iv)) = true from h)
  obtain ⟨cv, cst', rfl, hvr, hS'⟩ := id hS
  rcases (e_con_s hI hvr h).symm with h | ⟨k, rfl, h⟩
  · exact e_again IH (fun _ _ => h) N p e' R s m args below meth c H locs ws tys _ ls ads0 hN hF hW hS hL hI hK hA
  obtain ⟨hk, h⟩ := e_and h
  have hk := e_ble hk
  obtain ⟨r1, r2, h⟩ := e_rm_s h
  obtain ⟨r3, h⟩ := e_and h
  have r3 := e_ble r3
  obtain ⟨hK0, hP, hD, hSS, hWR⟩ := id hW
  obtain ⟨k1, k2, k3, k4, k5, k6, k7⟩ := hF.rooms
  have hts := hF.2.2.2.2.1
  have hown := hF.2.2.2.1
  have hkn : ¬ e_i k < 0 := nI_pos (by omega)
  have hkc : (e_i k).toNatClampNeg = k := nI_clamp (by omega)
  have kk : ∀ (q : Nat) (cA : ClassId) (H1 : Heap) (ty : FieldType) (x : vp_A) (nx : Nat), e_hpc tl = nx → (∀ ads : List Nat, e_CR rho ta b L ads (tys ++ [(cA, ty)]) (e.2.2.1, k, e_zero e.2.2.1, []) (.inl (cA, x))) → va_K D e_cl (tys ++ [(cA, ty)]) s → va_P D e_cl (ws ++ [(q, .inl (cA, x))]) H1 → va_D (fun q => n0 ≤ q) (ws ++ [(q, .inl (cA, x))]) → va_S (fun q => n0 ≤ q) s.heap H1 locs →
      W p l e' R s m args below meth c H1 locs (I.2.2.1 + 1) (I.2.2.2.1 + k) (vx_MQ below (e_Qc rho ta b L n0 D N fs ads0) (e_XC rho ta b L n0 D N fs ads0) args s (e_bud I.1).1 (e_bud I.1).2.1 (fun q => n0 ≤ q)) (F0 m nx ls (.ref q :: cst')) := by
    intro q cA H1 ty x nx hnx hcr a1 a2 a3 a4
    have hp := e_ads_push (ws := ws) (a := q) (x := .inl (cA, x))
    have hF2 := hF.room (k := Nat.succ I.2.2.1) (j := Nat.add I.2.2.2.1 k) r1 r2
    exact e_k IH h (N := N) (e' := e') (below := below) (by omega) hF2 (cst := .ref q :: cst') ⟨a1, a2, a3, a4, hWR.push r3 ⟨_, rfl⟩ (hcr _)⟩ ⟨_, _, rfl, e_top hWR, hS'.mono hp⟩ (hL.mono hp) hI (e_suf hK) (hA.trans hp) hnx
  have ht : ∀ (q : ClassId × FieldType), (tys ++ [q])[tys.length]? = some q := fun q => by rw [List.getElem?_append_right (Nat.le_refl _), Nat.sub_self]; rfl
  show W p l e' R s m args below meth c H locs I.2.2.1 I.2.2.2.1 _ (F0 m e.1 ls (.int (e_i k) :: cst'))
  unfold v_newa at hv
  split at hv
  · rename_i q1 q2
    obtain ⟨z1, z2⟩ := e_and2 hv
    refine va_newa (N' := k) (ty := .int) (a0 := (k, .inl (fun _ => 0))) hF.1 hF.2.1 (hts _ (e_has_s z1)) rfl hK0 hP hD hSS (fun q hq => Nat.le_trans k5 hq) (fun _ => rfl) hkn hkc (by show k * 4 ≤ _; omega) (by omega) (by omega) q2 (fun q cA H1 a1 a2 a3 a4 => kk q cA H1 _ _ _ (e_beq z2) (fun ads => ?_) a1 a2 a3 a4)
    rw [q1]
    exact ⟨hk, Or.inr (Or.inl ⟨Or.inl rfl, cA, _, tys.length, rfl, ht _, fun j hj => rfl⟩)⟩
  · rename_i q1 q2
    obtain ⟨z1, z2⟩ := e_and2 hv
    refine va_newa (N' := k) (ty := .boolean) (a0 := (k, .inl (fun _ => 0))) hF.1 hF.2.1 (hts _ (e_has_s z1)) rfl hK0 hP hD hSS (fun q hq => Nat.le_trans k5 hq) (fun _ => rfl) hkn hkc (by show k * 1 ≤ _; omega) (by omega) (by omega) q2 (fun q cA H1 a1 a2 a3 a4 => kk q cA H1 _ _ _ (e_beq z2) (fun ads => ?_) a1 a2 a3 a4)
    rw [q1]
    exact ⟨hk, Or.inr (Or.inl ⟨Or.inr rfl, cA, _, tys.length, rfl, ht _, fun j hj => rfl⟩)⟩
  · rename_i q1 q2
    obtain ⟨z1, z2⟩ := e_and2 hv
    refine va_newa (N' := k) (ty := .long) (a0 := (k, .inr (.inl (fun _ => 0)))) hF.1 hF.2.1 (hts _ (e_has_s z1)) rfl hK0 hP hD hSS (fun q hq => Nat.le_trans k5 hq) (fun _ => rfl) hkn hkc (by show k * 8 ≤ _; omega) (by omega) (by omega) q2 (fun q cA H1 a1 a2 a3 a4 => kk q cA H1 _ _ _ (e_beq z2) (fun ads => ?_) a1 a2 a3 a4)
    rw [q1]
    exact ⟨hk, Or.inr (Or.inr (Or.inl ⟨rfl, cA, _, tys.length, rfl, ht _, fun j hj => rfl⟩))⟩
  · rename_i ci idx q1 q2
    obtain ⟨z1, z2⟩ := e_and2 hv
    obtain ⟨z1, z3⟩ := e_and2 z1
    refine va_newq (N' := k) (C := e_cn ci) hF.1 hF.2.1 hown (hts _ (e_has_s z1)) (k7.1 _ (e_hasH_s z3)) hK0 hP hD hSS (fun q hq => Nat.le_trans k5 hq) hkn hkc (by omega) (by omega) (by omega) q2 (fun q cA H1 a1 a2 a3 a4 => kk q cA H1 _ _ _ (e_beq z2) (fun ads => ?_) a1 a2 a3 a4)
    rw [q1]
    exact ⟨hk, Or.inr (Or.inr (Or.inr ⟨Nat.le_add_left 4 ci, cA, _, tys.length, rfl, ht _, fun j hj => rfl⟩))⟩
  · cases hv
theorem s_alen (IH : e_P rho ta b L n0 D l n) (hv : v_plain (decode (e_byt I.1) e.1) .arraylength e.1 (e_hpc tl) = true) (h : h_alen (e_acc n) e tl I loc stk fs w iv = true) : e_GG rho ta b L n0 D l (n + 1) I (e :: tl) loc stk fs w iv := by
  intro N p e' R s m args below meth c H locs ws tys cst ls ads0 hN hF hW hS hL hI hK hA
  obtain ⟨v, st, rfl, h⟩ := e_q1_s (show e_q1 stk (fun v st => cond (Nat.beq v.1 10) (e_acc n I tl loc ((0, v.2) :: st) fs w iv) (e_cell w v (fun c => cond (Nat.beq c.1 0) false (e_acc n I tl loc ((0, c.2.1) :: st) fs w iv)))) = true from h)
  obtain ⟨cv, cst', rfl, hvr, hS'⟩ := id hS
  obtain ⟨z1, z2⟩ := v_plain_s hv
  obtain ⟨hK0, hP, hD, hSS, hWR⟩ := id hW
  obtain ⟨k1, k2, k3, k4, k5, k6, k7⟩ := hF.rooms
  show W p l e' R s m args below meth c H locs I.2.2.1 I.2.2.2.1 _ (F0 m e.1 ls (cv :: cst'))
  rcases e_ite h with ⟨q, h⟩ | ⟨-, h⟩
  · have q := e_beq q
    unfold e_VR at hvr
    rw [q] at hvr
    obtain ⟨rfl, hl⟩ := hvr
    obtain ⟨-, -, -, -, gX, gb, gA, -⟩ := k7
    exact va_slen hF.1 hF.2.1 gX gb gA hSS z1 (e_k IH h (by omega) hF hW ⟨_, _, rfl, by rw [hl]; exact rfl, hS'⟩ hL hI (e_suf hK) hA z2)
  · obtain ⟨c1, a, x, hlt, g1, h, rfl, g2, g3⟩ := e_cell_s hWR hvr h
    obtain ⟨q, h⟩ := e_nand h
    have q := e_bne q
    have kk := e_k IH h (N := N) (e' := e') (below := below) (by omega) hF hW (cst := .int (Int32.ofNat c1.2.1) :: cst') ⟨_, _, rfl, rfl, hS'⟩ hL hI (e_suf hK) hA z2
    rcases g3 with ⟨-, ⟨q1, -⟩ | ⟨-, cA, f, t0, rfl, ht, -⟩ | ⟨-, cA, f, t0, rfl, ht, -⟩ | ⟨-, cA, f, t0, rfl, ht, -⟩⟩
    · exact absurd q1 q
    · exact va_alen hF.1 hF.2.1 hK0 hP _ _ g2 ht rfl z1 kk
    · exact va_alen hF.1 hF.2.1 hK0 hP _ _ g2 ht rfl z1 kk
    · exact va_alen hF.1 hF.2.1 hK0 hP _ _ g2 ht rfl z1 kk
def v_ald (d : e_D) (k pc nx : Nat) : Bool := match k, d with
  | 1, .ok (.iaload, 1) => Nat.beq nx (pc + 1)
  | 2, .ok (.baload, 1) => Nat.beq nx (pc + 1)
  | 3, .ok (.laload, 1) => Nat.beq nx (pc + 1)
  | _ + 4, .ok (.aaload, 1) => Nat.beq nx (pc + 1)
  | _, _ => false
theorem s_ald (hL6 : L ≤ 6) (IH : e_P rho ta b L n0 D l n) (hv : v_ald (decode (e_byt I.1) e.1) e.2.2.1 e.1 (e_hpc tl) = true) (h : h_ald (e_acc n) e tl I loc stk fs w iv = true) : e_GG rho ta b L n0 D l (n + 1) I (e :: tl) loc stk fs w iv := by
  intro N p e' R s m args below meth c H locs ws tys cst ls ads0 hN hF hW hS hL hI hK hA
  obtain ⟨v, u, st, rfl, h⟩ := e_q2_s (show e_q2 stk (fun v u st => e_con iv v (fun n' => cond (Nat.beq u.1 10) (cond (cond (Nat.beq e.2.2.1 1) (Nat.ble (Nat.succ n') u.2) false) (e_acc n I tl loc ((4, n') :: st) fs w iv) false)
    (e_cell w u (fun c => cond (Nat.beq c.1 e.2.2.1) (cond (Nat.ble (Nat.succ n') c.2.1) (Prod.rec (motive := fun _ => Bool) (fun t p => e_acc n I tl loc ((t, p) :: st) fs w iv) (e_get c.2.2.2 n' c.2.2.1)) false) false))) (e_sp (e_acc n) (e :: tl) I loc stk fs w iv)) = true from h)
  obtain ⟨cv, _, rfl, hvr, cu, cst', rfl, hur, hS'⟩ := id hS
  rcases (e_con_s hI hvr h).symm with h | ⟨k, rfl, h⟩
  · exact e_again IH (fun _ _ => h) N p e' R s m args below meth c H locs ws tys _ ls ads0 hN hF hW hS hL hI hK hA
  obtain ⟨hK0, hP, hD, hSS, hWR⟩ := id hW
  obtain ⟨k1, k2, k3, k4, k5, k6, k7⟩ := hF.rooms
  show W p l e' R s m args below meth c H locs I.2.2.1 I.2.2.2.1 _ (F0 m e.1 ls (.int (e_i k) :: cu :: cst'))
  rcases e_ite h with ⟨q, h⟩ | ⟨-, h⟩
  · have q := e_beq q
    obtain ⟨y, h⟩ := e_and h
    obtain ⟨y1, y2⟩ := e_and y
    have y1 := e_beq y1
    have y2 := e_ble y2
    unfold e_VR at hur
    rw [q] at hur
    obtain ⟨rfl, hl⟩ := hur
    obtain ⟨-, -, -, -, gX, gb, gA, -⟩ := k7
    have hkc : (e_i k).toNatClampNeg = k := nI_clamp (by omega)
    unfold v_ald at hv
    rw [y1] at hv
    split at hv
    · rename_i q1 q2
      refine va_sld hF.1 hF.2.1 gX gb gA hSS (nI_in (by omega) (by omega)) q2 (e_k IH h (by omega) hF hW ⟨_, _, rfl, ?_, hS'⟩ hL hI (e_suf hK) hA (e_beq hv))
      rw [hkc]
      exact rfl
    all_goals first | (rename_i q1 _; cases q1; done) | (rename_i q1 _ _; cases q1; done) | (rename_i q1; cases q1; done) | cases hv
  · obtain ⟨c1, a, x, hlt, g1, h, rfl, g2, g3⟩ := e_cell_s hWR hur h
    obtain ⟨y1, h⟩ := e_and h
    obtain ⟨y2, h⟩ := e_and h
    have y1 := e_beq y1
    have y2 := e_ble y2
    have h : e_acc n I tl loc (e_get c1.2.2.2 k c1.2.2.1 :: st) fs w iv = true := h
    obtain ⟨hl, g3⟩ := g3
    have hkc : (e_i k).toNatClampNeg = k := nI_clamp (by omega)
    have hin : vp_in (e_i k) c1.2.1 := nI_in (by omega) (by omega)
    have kk : ∀ cx, e_VR rho ta b L (e_ads ws) (e_get c1.2.2.2 k c1.2.2.1) cx → ∀ q, e_hpc tl = q → W p l e' R s m args below meth c H locs I.2.2.1 I.2.2.2.1 (vx_MQ below (e_Qc rho ta b L n0 D N fs ads0) (e_XC rho ta b L n0 D N fs ads0) args s (e_bud I.1).1 (e_bud I.1).2.1 (fun q => n0 ≤ q)) (F0 m q ls (cx :: cst')) := fun cx hx q hq =>
      e_k IH h (N := N) (e' := e') (below := below) (by omega) hF hW ⟨_, _, rfl, hx, hS'⟩ hL hI (e_suf hK) hA hq
    unfold v_ald at hv
    split at hv
    · rename_i q1 q2
      rcases g3 with ⟨z, -⟩ | ⟨z, cA, f, t0, rfl, ht, hf⟩ | ⟨z, -⟩ | ⟨z, -⟩
      · omega
      · rw [show e_ety c1.1 = .int by rw [y1, q1]; rfl] at ht
        exact va_iald hF.1 hF.2.1 hK0 hP _ _ g2 ht hin q2 (kk _ (by rw [hkc]; exact hf _ y2) _ (e_beq hv))
      · omega
      · omega
    · rename_i q1 q2
      rcases g3 with ⟨z, -⟩ | ⟨z, cA, f, t0, rfl, ht, hf⟩ | ⟨z, -⟩ | ⟨z, -⟩
      · omega
      · rw [show e_ety c1.1 = .boolean by rw [y1, q1]; rfl] at ht
        exact va_zald hF.1 hF.2.1 hK0 hP _ _ g2 ht hin q2 (kk _ (by rw [hkc]; exact hf _ y2) _ (e_beq hv))
      · omega
      · omega
    · rename_i q1 q2
      rcases g3 with ⟨z, -⟩ | ⟨z, -⟩ | ⟨z, cA, f, t0, rfl, ht, hf⟩ | ⟨z, -⟩
      · omega
      · omega
      · exact va_lald hF.1 hF.2.1 hK0 hP _ _ g2 ht hin q2 (kk _ (by rw [hkc]; exact hf _ y2) _ (e_beq hv))
      · omega
    · rename_i q1 q2
      rcases g3 with ⟨z, -⟩ | ⟨z, -⟩ | ⟨z, -⟩ | ⟨z, cA, f, t0, rfl, ht, hf⟩
      · omega
      · omega
      · omega
      · exact va_aldq hF.1 hF.2.1 hK0 hP _ _ g2 ht hin q2 (kk _ (by rw [hkc]; exact hf _ y2) _ (e_beq hv))
    · cases hv
end
end
section
/-! STORES INTO ROWS, copies, the empty constructor. -/
section
variable {rho : Nat → Int32} {ta : Nat → Nat × Nat} {b L n0 : Nat} {D : va_G} {l : Launch} {n : Nat} {e : e_E} {tl : List e_E} {I : e_N} {loc stk : List e_V} {fs : List e_F} {w : e_W} {iv : e_I} {tys : List (ClassId × FieldType)} {ws : va_W}
theorem e_WR.put {i a kx : Nat} {x0 x1 : va_E} {c : e_C} {v : e_V} (hw : e_WR rho ta b L tys ws w) (h : ws[i]? = some (a, x0)) (hg : e_tget 9 w.2 i = some c)
    (hc : ∀ c' : e_C, c'.1 = c.1 → c'.2.1 = c.2.1 → (∀ k, e_get c'.2.2.2 k c'.2.2.1 = if k = kx then v else e_get c.2.2.2 k c.2.2.1) → e_CR rho ta b L (e_ads ws) tys c' x1) :
    e_WR rho ta b L tys (ws.set i (a, x1)) (cond (e_eqV (e_get c.2.2.2 kx c.2.2.1) v) w (w.1, e_tset 9 w.2 i (some (c.1, c.2.1, c.2.2.1, e_set c.2.2.2 kx v)))) := by
  cases q : e_eqV (e_get c.2.2.2 kx c.2.2.1) v with
  | false => exact hw.set h (hc _ rfl rfl (fun k => e_get_set _ _ _ _ _))
  | true =>
    have q := e_eqV_s q
    refine ⟨by rw [List.length_set]; exact hw.1, hw.2.1, fun j c' hj hg' => ?_⟩
    show ∃ q, (ws.set i (a, x1))[j]? = some q ∧ e_CR rho ta b L (e_ads (ws.set i (a, x1))) tys c' q.2
    rw [e_ads_set h]
    have hj2 : j < w.1 := hj
    have hg2 : e_tget 9 w.2 j = some c' := hg'
    have hl : i < ws.length := (List.getElem?_eq_some_iff.mp h).1
    by_cases z : j = i
    · subst z
      rw [hg] at hg2
      cases hg2
      refine ⟨_, List.getElem?_set_self hl, hc _ rfl rfl (fun k => ?_)⟩
      by_cases y : k = kx
      · rw [if_pos y, y]; exact q
      · rw [if_neg y]
    · obtain ⟨y, y1, y2⟩ := hw.2.2 j c' hj2 hg2
      exact ⟨y, by rw [List.getElem?_set_ne (fun q => z q.symm)]; exact y1, y2⟩
def v_ast (d : e_D) (k pc nx : Nat) : Bool := match k, d with
  | 1, .ok (.iastore, 1) => Nat.beq nx (pc + 1)
  | 2, .ok (.bastore, 1) => Nat.beq nx (pc + 1)
  | 3, .ok (.lastore, 1) => Nat.beq nx (pc + 1)
  | _, _ => false
theorem e_nar01 {x : Int32} (h : Value.int x = .int 0 ∨ Value.int x = .int 1) : vp_nar .boolean x = x := by
  rcases h with h | h <;> (cases h; decide)
theorem s_ast (IH : e_P rho ta b L n0 D l n) (hv : v_ast (decode (e_byt I.1) e.1) e.2.2.1 e.1 (e_hpc tl) = true) (h : h_ast (e_acc n) e tl I loc stk fs w iv = true) : e_GG rho ta b L n0 D l (n + 1) I (e :: tl) loc stk fs w iv := by
  intro N p e' R s m args below meth c H locs ws tys cst ls ads0 hN hF hW hS hL hI hK hA
  obtain ⟨v, u, s2, rfl, h⟩ := e_q2_s (show e_q2 stk (fun v u s2 => e_q1 s2 (fun z st => e_con iv u (fun n' => e_cell w z (fun c => cond (Nat.beq c.1 e.2.2.1) (cond (Nat.ble (Nat.succ n') c.2.1) (cond (cond (Nat.beq e.2.2.1 1) (e_is 0 v.1) (cond (Nat.beq e.2.2.1 2) (cond (Nat.beq v.1 0) (Nat.ble v.2 1) false) (cond (Nat.beq e.2.2.1 3) (Nat.beq v.1 1) false)))
    (e_acc n I tl loc st fs (cond (e_eqV (e_get c.2.2.2 n' c.2.2.1) v) w (w.1, e_tset 9 w.2 z.2 (some (c.1, c.2.1, c.2.2.1, e_set c.2.2.2 n' v)))) iv) false) false) false)) (e_sp (e_acc n) (e :: tl) I loc stk fs w iv))) = true from h)
  obtain ⟨z, st, rfl, h⟩ := e_q1_s h
  obtain ⟨cv, _, rfl, hvr, cu, _, rfl, hur, cz, cst', rfl, hzr, hS'⟩ := id hS
  rcases (e_con_s hI hur h).symm with h | ⟨k, rfl, h⟩
  · exact e_again IH (fun _ _ => h) N p e' R s m args below meth c H locs ws tys _ ls ads0 hN hF hW hS hL hI hK hA
  obtain ⟨hK0, hP, hD, hSS, hWR⟩ := id hW
  obtain ⟨c1, a, x, hlt, g1, h, rfl, g2, gl, g3⟩ := e_cell_s hWR hzr h
  obtain ⟨y1, h⟩ := e_and h
  obtain ⟨y2, h⟩ := e_and h
  obtain ⟨y3, h⟩ := e_and h
  have y1 := e_beq y1
  have y2 := e_ble y2
  have hkc : (e_i k).toNatClampNeg = k := nI_clamp (by omega)
  have hin : vp_in (e_i k) c1.2.1 := nI_in (by omega) (by omega)
  have hads : ∀ x1, e_ads (ws.set z.2 (a, x1)) = e_ads ws := fun x1 => e_ads_set g2
  have kk : ∀ x1 q, e_hpc tl = q → (∀ c' : e_C, c'.1 = c1.1 → c'.2.1 = c1.2.1 → (∀ j, e_get c'.2.2.2 j c'.2.2.1 = if j = k then v else e_get c1.2.2.2 j c1.2.2.1) → e_CR rho ta b L (e_ads ws) tys c' x1) → ∀ (H1 : Heap) (locs1 : List Loc), va_P D e_cl (ws.set z.2 (a, x1)) H1 → va_D (fun q => n0 ≤ q) (ws.set z.2 (a, x1)) → va_S (fun q => n0 ≤ q) s.heap H1 locs1 →
      W p l e' R s m args below meth c H1 locs1 I.2.2.1 I.2.2.2.1 (vx_MQ below (e_Qc rho ta b L n0 D N fs ads0) (e_XC rho ta b L n0 D N fs ads0) args s (e_bud I.1).1 (e_bud I.1).2.1 (fun q => n0 ≤ q)) (F0 m q ls cst') := by
    intro x1 q hq hc H1 locs1 a1 a2 a3
    exact e_k IH h (by omega) hF ⟨hK0, a1, a2, a3, hWR.put g2 g1 hc⟩ (by rw [hads]; exact hS') (by rw [hads]; exact hL) hI (e_suf hK) (by rw [hads]; exact hA) hq
  show W p l e' R s m args below meth c H locs I.2.2.1 I.2.2.2.1 _ (F0 m e.1 ls (cv :: .int (e_i k) :: .ref a :: cst'))
  unfold v_ast at hv
  split at hv
  · rename_i q1 q2
    rw [q1] at y3 y1
    rcases g3 with ⟨z0, -⟩ | ⟨z0, cA, f, t0, rfl, ht, hf⟩ | ⟨z0, -⟩ | ⟨z0, -⟩
    · omega
    · obtain ⟨xx, rfl⟩ := hvr.int (show e_is 0 v.1 = true from y3)
      rw [show e_ety c1.1 = .int by rw [y1]; rfl] at ht
      refine va_iast hF.1 hF.2.1 hK0 hP hD hSS _ _ g2 ht hin q2 (kk _ _ (e_beq hv) (fun c' f1 f2 f3 => ?_))
      refine ⟨by rw [f2]; exact gl, Or.inr (Or.inl ⟨by rw [f1]; exact z0, cA, _, t0, by rw [f2], by rw [f1, y1]; exact ht, fun j hj => ?_⟩)⟩
      rw [f2] at hj
      rw [f3, hkc]
      by_cases y : j = k
      · rw [if_pos y, y]; simpa [upd] using hvr
      · rw [if_neg y]; simpa [upd, y] using hf j hj
    · omega
    · omega
  · rename_i q1 q2
    rw [q1] at y3 y1
    rcases g3 with ⟨z0, -⟩ | ⟨z0, cA, f, t0, rfl, ht, hf⟩ | ⟨z0, -⟩ | ⟨z0, -⟩
    · omega
    · have h01 := e_b01 hvr (show cond (Nat.beq v.1 0) (Nat.ble v.2 1) false = true from y3)
      obtain ⟨xx, rfl⟩ : ∃ xx, cv = .int xx := by rcases h01 with q | q <;> exact ⟨_, q⟩
      have hnar := e_nar01 h01
      rw [show e_ety c1.1 = .boolean by rw [y1]; rfl] at ht
      refine va_zast hF.1 hF.2.1 hK0 hP hD hSS _ _ g2 ht hin q2 (kk _ _ (e_beq hv) (fun c' f1 f2 f3 => ?_))
      refine ⟨by rw [f2]; exact gl, Or.inr (Or.inl ⟨by rw [f1]; exact z0, cA, _, t0, by rw [f2], by rw [f1, y1]; exact ht, fun j hj => ?_⟩)⟩
      rw [f2] at hj
      rw [f3, hkc, hnar]
      by_cases y : j = k
      · rw [if_pos y, y]; simpa [upd] using hvr
      · rw [if_neg y]; simpa [upd, y] using hf j hj
    · omega
    · omega
  · rename_i q1 q2
    rw [q1] at y3 y1
    rcases g3 with ⟨z0, -⟩ | ⟨z0, -⟩ | ⟨z0, cA, f, t0, rfl, ht, hf⟩ | ⟨z0, -⟩
    · omega
    · omega
    · have := hvr.long (e_beq (show Nat.beq v.1 1 = true from y3))
      subst this
      refine va_last hF.1 hF.2.1 hK0 hP hD hSS _ _ g2 ht hin q2 (kk _ _ (e_beq hv) (fun c' f1 f2 f3 => ?_))
      refine ⟨by rw [f2]; exact gl, Or.inr (Or.inr (Or.inl ⟨by rw [f1]; exact z0, cA, _, t0, by rw [f2], ht, fun j hj => ?_⟩))⟩
      rw [f2] at hj
      rw [f3, hkc]
      by_cases y : j = k
      · rw [if_pos y, y]; simpa [vp_updL] using hvr
      · rw [if_neg y]; simpa [vp_updL, y] using hf j hj
    · omega
  · cases hv
def v_astq (d : e_D) (k pc nx : Nat) : Bool := match d with
  | .ok (.aastore, 1) => Nat.ble 4 k && Nat.beq nx (pc + 1)
  | _ => false
theorem s_astq (IH : e_P rho ta b L n0 D l n) (hv : v_astq (decode (e_byt I.1) e.1) e.2.2.1 e.1 (e_hpc tl) = true) (h : h_astq (e_acc n) e tl I loc stk fs w iv = true) : e_GG rho ta b L n0 D l (n + 1) I (e :: tl) loc stk fs w iv := by
  intro N p e' R s m args below meth c H locs ws tys cst ls ads0 hN hF hW hS hL hI hK hA
  obtain ⟨v, u, s2, rfl, h⟩ := e_q2_s (show e_q2 stk (fun v u s2 => e_q1 s2 (fun z st => e_con iv u (fun n' => e_cell w z (fun c => cond (Nat.beq c.1 e.2.2.1) (cond (Nat.ble (Nat.succ n') c.2.1)
    (cond (cond (Nat.beq v.1 3) true (cond (Nat.beq v.1 2) (Option.rec (motive := fun _ => Bool) false (fun cv => cond (Nat.beq cv.1 0) (Nat.beq (Nat.add 4 cv.2.1) e.2.2.1) false) (e_tget 9 w.2 v.2)) false))
    (e_acc n I tl loc st fs (cond (e_eqV (e_get c.2.2.2 n' c.2.2.1) v) w (w.1, e_tset 9 w.2 z.2 (some (c.1, c.2.1, c.2.2.1, e_set c.2.2.2 n' v)))) iv) false) false) false)) (e_sp (e_acc n) (e :: tl) I loc stk fs w iv))) = true from h)
  obtain ⟨z, st, rfl, h⟩ := e_q1_s h
  obtain ⟨cv, _, rfl, hvr, cu, _, rfl, hur, cz, cst', rfl, hzr, hS'⟩ := id hS
  rcases (e_con_s hI hur h).symm with h | ⟨k, rfl, h⟩
  · exact e_again IH (fun _ _ => h) N p e' R s m args below meth c H locs ws tys _ ls ads0 hN hF hW hS hL hI hK hA
  obtain ⟨hK0, hP, hD, hSS, hWR⟩ := id hW
  obtain ⟨c1, a, x, hlt, g1, h, rfl, g2, gl, g3⟩ := e_cell_s hWR hzr h
  obtain ⟨y1, h⟩ := e_and h
  obtain ⟨y2, h⟩ := e_and h
  obtain ⟨y3, h⟩ := e_and h
  have y1 := e_beq y1
  have y2 := e_ble y2
  have hkc : (e_i k).toNatClampNeg = k := nI_clamp (by omega)
  have hin : vp_in (e_i k) c1.2.1 := nI_in (by omega) (by omega)
  have hads : ∀ x1, e_ads (ws.set z.2 (a, x1)) = e_ads ws := fun x1 => e_ads_set g2
  have kk : ∀ x1 q, e_hpc tl = q → (∀ c' : e_C, c'.1 = c1.1 → c'.2.1 = c1.2.1 → (∀ j, e_get c'.2.2.2 j c'.2.2.1 = if j = k then v else e_get c1.2.2.2 j c1.2.2.1) → e_CR rho ta b L (e_ads ws) tys c' x1) → ∀ (H1 : Heap) (locs1 : List Loc), va_P D e_cl (ws.set z.2 (a, x1)) H1 → va_D (fun q => n0 ≤ q) (ws.set z.2 (a, x1)) → va_S (fun q => n0 ≤ q) s.heap H1 locs1 →
      W p l e' R s m args below meth c H1 locs1 I.2.2.1 I.2.2.2.1 (vx_MQ below (e_Qc rho ta b L n0 D N fs ads0) (e_XC rho ta b L n0 D N fs ads0) args s (e_bud I.1).1 (e_bud I.1).2.1 (fun q => n0 ≤ q)) (F0 m q ls cst') := by
    intro x1 q hq hc H1 locs1 a1 a2 a3
    exact e_k IH h (by omega) hF ⟨hK0, a1, a2, a3, hWR.put g2 g1 hc⟩ (by rw [hads]; exact hS') (by rw [hads]; exact hL) hI (e_suf hK) (by rw [hads]; exact hA) hq
  show W p l e' R s m args below meth c H locs I.2.2.1 I.2.2.2.1 _ (F0 m e.1 ls (cv :: .int (e_i k) :: .ref a :: cst'))
  unfold v_astq at hv
  split at hv
  · rename_i q2
    obtain ⟨v1, v2⟩ := e_and2 hv
    have v1 := e_ble v1
    rcases g3 with ⟨z0, -⟩ | ⟨z0, -⟩ | ⟨z0, -⟩ | ⟨z0, cA, f, t0, rfl, ht, hf⟩
    · omega
    · omega
    · omega
    · have fin : ∀ o : Option Nat, va_rf o = cv → ∀ c' : e_C, c'.1 = c1.1 → c'.2.1 = c1.2.1 → (∀ j, e_get c'.2.2.2 j c'.2.2.1 = if j = k then v else e_get c1.2.2.2 j c1.2.2.1) → e_CR rho ta b L (e_ads ws) tys c' (.inl (cA, c1.2.1, .inr (.inr (.inr (.inr (va_up f (e_i k).toNatClampNeg o)))))) := by
        intro o ho c' f1 f2 f3
        refine ⟨by rw [f2]; exact gl, Or.inr (Or.inr (Or.inr ⟨by rw [f1]; exact z0, cA, _, t0, by rw [f2], by rw [f1]; exact ht, fun j hj => ?_⟩))⟩
        rw [f2] at hj
        rw [f3, hkc]
        by_cases y : j = k
        · rw [if_pos y, y, va_up_self, ho]; exact hvr
        · rw [if_neg y, va_up_ne _ _ y]; exact hf j hj
      rcases e_or y3 with q | q
      · have e1 := hvr.null (e_beq q)
        subst e1
        exact va_astqN hF.1 hF.2.1 hK0 hP hD hSS _ _ g2 ht hin q2 (kk _ _ (e_beq v2) (fin none rfl))
      · obtain ⟨q, y4⟩ := e_and q
        have q := e_beq q
        cases g4 : e_tget 9 w.2 v.2 with
        | none => rw [g4] at y4; cases y4
        | some cc =>
          rw [g4] at y4
          obtain ⟨y4, y5⟩ := e_and (show cond (Nat.beq cc.1 0) (Nat.beq (Nat.add 4 cc.2.1) e.2.2.1) false = true from y4)
          have y4 := e_beq y4
          have y5 : 4 + cc.2.1 = e.2.2.1 := e_beq y5
          obtain ⟨aa, xx, yy, -, g7, g6, rfl, g8, -, g9⟩ := e_cell_s (kk := fun cc' => Nat.beq 0 0) (v := v) hWR hvr (by unfold e_cell; rw [q, g4]; rfl)
          rw [g4] at g7
          cases g7
          rcases g9 with ⟨-, hci, fs', rfl, -, -⟩ | ⟨z1, -⟩ | ⟨z1, -⟩ | ⟨z1, -⟩
          · refine va_astq hF.1 hF.2.1 hK0 hP hD hSS _ t0 _ _ g2 (r := (e_cn cc.2.1, e_FT cc.2.1, e_nf cc.2.1)) ?_ g8 (e_cl_at hci) hin q2 (kk _ _ (e_beq v2) (fin (some xx) rfl))
            rw [ht, y1, ← y5, Nat.add_sub_cancel_left]
          · omega
          · omega
          · omega
  · cases hv
theorem e_cs_s {st : List e_V} {cst : List Value} {ads : List Nat} (h : e_SR rho ta b L ads st cst) : (cst.map fun v => v.category).sum = e_cs st := by
  induction st generalizing cst with
  | nil => cases h; rfl
  | cons v st ih =>
    obtain ⟨cv, cst', rfl, hv, hS⟩ := h
    have e1 : e_cs (v :: st) = e_cs st + cond (e_cat2 v.1) 2 1 := rfl
    rw [e1, List.map_cons, List.sum_cons, ih hS]
    cases q : e_cat2 v.1 with
    | true => rw [hv.cat.mpr q]; show 2 + _ = _ + 2; omega
    | false => rw [e_cat1 hv q]; show 1 + _ = _ + 1; omega
def v_objinit (d : e_D) (own : String) (h1 h2 h3 pc nx : Nat) : Bool := match d with
  | .ok (.invokespecial i, 3) => (e_has h1 (.methodLink own i objectInit) && (e_has h2 (.instanceMethod objectInit) && e_has h3 (.code objectInit ⟨#[0xb1]⟩ 1 none))) && Nat.beq nx (pc + 3)
  | _ => false
theorem s_objinit (IH : e_P rho ta b L n0 D l n) {h1 h2 h3 : Nat} (hv : v_objinit (decode (e_byt I.1) e.1) (e_own I.1) h1 h2 h3 e.1 (e_hpc tl) = true) (h : h_objinit (e_acc n) e tl I loc stk fs w iv = true) : e_GG rho ta b L n0 D l (n + 1) I (e :: tl) loc stk fs w iv := by
  intro N p e' R s m args below meth c H locs ws tys cst ls ads0 hN hF hW hS hL hI hK hA
  obtain ⟨v, st, rfl, h⟩ := e_q1_s (show e_q1 stk (fun v st => cond (Nat.beq v.1 2) (cond (Nat.ble (e_cs st) 8) (e_acc n I tl loc st fs w iv) false) false) = true from h)
  obtain ⟨cv, cst', rfl, hvr, hS'⟩ := id hS
  obtain ⟨q, h⟩ := e_and h
  obtain ⟨q8, h⟩ := e_and h
  have q8 := e_ble q8
  obtain ⟨a, -, rfl⟩ := hvr.cell (e_beq q)
  obtain ⟨k1, k2, k3, k4, k5, k6, k7⟩ := hF.rooms
  have hts := hF.2.2.2.2.1
  have hown := hF.2.2.2.1
  have hml := hF.2.2.1
  obtain ⟨lv, hlv, -⟩ := id hL
  show W p l e' R s m args below meth c H locs I.2.2.1 I.2.2.2.1 _ (F0 m e.1 ls (.ref a :: cst'))
  unfold v_objinit at hv
  split at hv
  · rename_i idx q2
    obtain ⟨z1, z2⟩ := e_and2 hv
    obtain ⟨z1, z3⟩ := e_and2 z1
    obtain ⟨z3, z4⟩ := e_and2 z3
    have hsum := e_cs_s hS'
    refine W.objInit hF.1 hF.2.1 hown (hts _ (e_has_s z1)) (hts _ (e_has_s z3)) (hts _ (e_has_s z4)) rfl (by rw [hml]; exact hlv.1) rfl q2 (by omega) ?_ (e_k IH h (by omega) hF hW hS' hL hI (e_suf hK) hA (e_beq z2))
    show 2 * 0 + (cst'.map fun v => v.category).sum + 12 ≤ R.locals
    rw [hsum]
    omega
  · cases hv
theorem e_cpy_s (src mp : List (Nat × e_V)) (sd dd : e_V) (sp dp n k : Nat) : e_get (e_cpy src sd sp dp dd mp n) k dd = if dp ≤ k ∧ k < dp + n then e_get src (sp + (k - dp)) sd else e_get mp k dd := by
  induction n with
  | zero =>
    show e_get mp k dd = _
    rw [if_neg (by omega)]
  | succ j ih =>
    have e1 : e_cpy src sd sp dp dd mp (j + 1) = cond (e_eqV (e_get (e_cpy src sd sp dp dd mp j) (Nat.add dp j) dd) (e_get src (Nat.add sp j) sd)) (e_cpy src sd sp dp dd mp j) (e_set (e_cpy src sd sp dp dd mp j) (Nat.add dp j) (e_get src (Nat.add sp j) sd)) := rfl
    rw [e1]
    have e2 : ∀ X, e_get X k dd = (if k = dp + j then e_get src (sp + j) sd else e_get (e_cpy src sd sp dp dd mp j) k dd) → e_get X k dd = if dp ≤ k ∧ k < dp + (j + 1) then e_get src (sp + (k - dp)) sd else e_get mp k dd := by
      intro X hX
      rw [hX]
      by_cases y : k = dp + j
      · rw [if_pos y, if_pos (by omega), show k - dp = j by omega]
      · rw [if_neg y, ih]
        by_cases z : dp ≤ k ∧ k < dp + j
        · rw [if_pos z, if_pos (by omega)]
        · rw [if_neg z, if_neg (by omega)]
    cases q : e_eqV (e_get (e_cpy src sd sp dp dd mp j) (Nat.add dp j) dd) (e_get src (Nat.add sp j) sd) with
    | false => exact e2 _ (e_get_set _ _ _ _ _)
    | true =>
      have q := e_eqV_s q
      refine e2 _ ?_
      show e_get (e_cpy src sd sp dp dd mp j) k dd = _
      by_cases y : k = dp + j
      · rw [if_pos y, y]; exact q
      · rw [if_neg y]
def v_acopy (d : e_D) (own : String) (h1 h2 h3 h4 pc nx : Nat) : Bool := match d with
  | .ok (.invokestatic i, 3) => (e_has h1 (.methodLink own i arraycopyName) && (e_has h2 (.native arraycopyName) && (e_has h3 (.static arraycopyName) && e_has h4 (.initialized "java/lang/System")))) && Nat.beq nx (pc + 3)
  | _ => false
theorem s_acopy (IH : e_P rho ta b L n0 D l n) {h1 h2 h3 h4 : Nat} (hv : v_acopy (decode (e_byt I.1) e.1) (e_own I.1) h1 h2 h3 h4 e.1 (e_hpc tl) = true) (h : h_acopy (e_acc n) e tl I loc stk fs w iv = true) : e_GG rho ta b L n0 D l (n + 1) I (e :: tl) loc stk fs w iv := by
  intro N p e' R s m args below meth c H locs ws tys cst ls ads0 hN hF hW hS hL hI hK hA
  obtain ⟨vn, vdp, s2, rfl, h⟩ := e_q2_s (show e_q2 stk (fun vn vdp s2 => e_q2 s2 (fun vd vsp s3 => e_q1 s3 (fun vs st => cond (cond (Nat.ble (e_cs st) 8) (cond (Nat.beq vn.1 0) (cond (Nat.beq vdp.1 0) (Nat.beq vsp.1 0) false) false) false)
    (e_cell w vs (fun cs => e_cell w vd (fun cd => cond (cond (Nat.beq cs.1 1) (cond (Nat.beq cd.1 1) (cond (Nat.ble (Nat.add vsp.2 vn.2) cs.2.1) (cond (Nat.ble (Nat.add vdp.2 vn.2) cd.2.1) (cond (Nat.ble cs.2.1 16777216) (Nat.ble cd.2.1 16777216) false) false) false) false) false)
      (e_acc n I tl loc st fs (w.1, e_tset 9 w.2 vd.2 (some (1, cd.2.1, cd.2.2.1, e_cpy cs.2.2.2 cs.2.2.1 vsp.2 vdp.2 cd.2.2.1 cd.2.2.2 vn.2))) iv) false))) false))) = true from h)
  obtain ⟨vd, vsp, s3, rfl, h⟩ := e_q2_s (stk := s2) h
  obtain ⟨vs, st, rfl, h⟩ := e_q1_s (stk := s3) h
  obtain ⟨cn, _, rfl, hnr, cdp, _, rfl, hdpr, cd, _, rfl, hdr, csp, _, rfl, hspr, csv, cst', rfl, hsr, hS'⟩ := id hS
  obtain ⟨q, h⟩ := e_and h
  obtain ⟨q8, q⟩ := e_and q
  have q8 := e_ble q8
  obtain ⟨t1, q⟩ := e_and q
  obtain ⟨t2, t3⟩ := e_and q
  obtain ⟨hK0, hP, hD, hSS, hWR⟩ := id hW
  obtain ⟨c0, a0, x0, hlt0, g10, h, rfl, g20, gl0, g30⟩ := e_cell_s hWR hsr h
  obtain ⟨c1, a, x, hlt, g1, h, rfl, g2, gl, g3⟩ := e_cell_s hWR hdr h
  obtain ⟨q, h⟩ := e_and h
  obtain ⟨y1, q⟩ := e_and q
  obtain ⟨y2, q⟩ := e_and q
  obtain ⟨y3, q⟩ := e_and q
  obtain ⟨y4, q⟩ := e_and q
  have y1 := e_beq y1
  have y2 := e_beq y2
  have y3 : vsp.2 + vn.2 ≤ c0.2.1 := e_ble y3
  have y4 : vdp.2 + vn.2 ≤ c1.2.1 := e_ble y4
  unfold e_VR at hnr hdpr hspr
  rw [e_beq t1] at hnr
  rw [e_beq t2] at hdpr
  rw [e_beq t3] at hspr
  have hnr : cn = .int (e_i vn.2) := hnr
  have hdpr : cdp = .int (e_i vdp.2) := hdpr
  have hspr : csp = .int (e_i vsp.2) := hspr
  subst hnr; subst hdpr; subst hspr
  obtain ⟨k1, k2, k3, k4, k5, k6, k7⟩ := hF.rooms
  have hts := hF.2.2.2.2.1
  have hown := hF.2.2.2.1
  have hml := hF.2.2.1
  obtain ⟨lv, hlv, -⟩ := id hL
  have hsum := e_cs_s hS'
  have c1' : (e_i vn.2).toNatClampNeg = vn.2 := nI_clamp (by omega)
  have c2' : (e_i vdp.2).toNatClampNeg = vdp.2 := nI_clamp (by omega)
  have c3' : (e_i vsp.2).toNatClampNeg = vsp.2 := nI_clamp (by omega)
  show W p l e' R s m args below meth c H locs I.2.2.1 I.2.2.2.1 _ (F0 m e.1 ls (.int (e_i vn.2) :: .int (e_i vdp.2) :: .ref a :: .int (e_i vsp.2) :: .ref a0 :: cst'))
  unfold v_acopy at hv
  split at hv
  · rename_i idx q2
    obtain ⟨z1, z2⟩ := e_and2 hv
    obtain ⟨z1, z3⟩ := e_and2 z1
    obtain ⟨z3, z4⟩ := e_and2 z3
    obtain ⟨z4, z5⟩ := e_and2 z4
    rcases g30 with ⟨z0, -⟩ | ⟨-, cA0, f, t0, rfl, ht0, hf⟩ | ⟨z0, -⟩ | ⟨z0, -⟩
    · omega
    · rcases g3 with ⟨z0, -⟩ | ⟨-, cA1, g, t1', rfl, ht1, hg⟩ | ⟨z0, -⟩ | ⟨z0, -⟩
      · omega
      · rw [show e_ety c0.1 = .int by rw [y1]; rfl] at ht0
        rw [show e_ety c1.1 = .int by rw [y2]; rfl] at ht1
        have hads : ∀ x1, e_ads (ws.set vd.2 (a, x1)) = e_ads ws := fun x1 => e_ads_set g2
        refine va_copyi hF.1 hF.2.1 (by rw [hml]; exact hlv.1.symm) hown (hts _ (e_has_s z1)) (hts _ (e_has_s z3)) (hts _ (e_has_s z4)) (hts _ (e_has_s z5)) hK0 hP hD hSS _ _ _ _ g20 g2 ht0 ht1 rfl (nI_pos (by omega)) (nI_pos (by omega)) (nI_pos (by omega)) (by rw [c3', c1']; exact y3) (by rw [c2', c1']; exact y4) (fun _ _ => rfl) (by omega) ?_ q2 (fun H1 locs1 a1 a2 a3 => ?_)
        · have : nativeFrameWords "java/lang/System" "arraycopy" 5 = 7 := by decide
          rw [hsum, this]
          omega
        · refine e_k IH h (by omega) hF ⟨hK0, a1, a2, a3, hWR.set g2 ⟨gl, Or.inr (Or.inl ⟨Or.inl rfl, cA1, _, t1', rfl, ht1, fun j hj => ?_⟩)⟩⟩ (by rw [hads]; exact hS') (by rw [hads]; exact hL) hI (e_suf hK) (by rw [hads]; exact hA) (e_beq z2)
          have hj : j < c1.2.1 := hj
          show e_VR rho ta b L (e_ads ws) (e_get (e_cpy c0.2.2.2 c0.2.2.1 vsp.2 vdp.2 c1.2.2.1 c1.2.2.2 vn.2) j c1.2.2.1) _
          rw [e_cpy_s, c1', c2', c3']
          unfold va_cpy
          by_cases y : vdp.2 ≤ j ∧ j < vdp.2 + vn.2
          · rw [if_pos y, if_pos y]; exact hf _ (by omega)
          · rw [if_neg y, if_neg y]; exact hg _ hj
      · omega
      · omega
    · omega
    · omega
  · cases hv
end
end
section
/-! ENDS OF METHODS: returns and throws. -/
section
variable {rho : Nat → Int32} {ta : Nat → Nat × Nat} {b L n0 : Nat} {D : va_G} {l : Launch} {n : Nat} {e : e_E} {tl : List e_E} {I : e_N} {loc stk : List e_V} {fs : List e_F} {w : e_W} {iv : e_I} {tys : List (ClassId × FieldType)} {ws : va_W}
theorem e_ret_s {N : Nat} {rv : List e_V} {ov : Option Value} {s t : State} {H : Heap} {locs : List Loc} {ads0 : List Nat} {args : Array Value} (hn : n ≤ N) (h : e_res (e_acc n) rv fs w iv = true) (hI : e_IV rho iv) (hW : e_WH rho ta b L n0 D s H locs ws tys w) (ho : e_OR rho ta b L (e_ads ws) rv ov) (hA : ads0 <+: e_ads ws) (ht : t.heap = H) (hal : s.WarmedH t.vm) : e_Qc rho ta b L n0 D N fs ads0 args s (.returned ov) t := by
  obtain ⟨hK, hP, hD, hS, hR⟩ := hW
  exact ⟨n, rv, w, iv, ws, tys, ov, hn, h, hI, rfl, ho, hK.moved hal.alike, by rw [ht]; exact hP, hD, hR, hA, hS.F ht⟩
def v_retv (d : e_D) (ret : Option FieldType) : Bool := match d, ret with
  | .ok (.return_, 1), none => true
  | _, _ => false
theorem s_retv (hv : v_retv (decode (e_byt I.1) e.1) (e_ret I.1) = true) (h : h_retv (e_acc n) e tl I loc stk fs w iv = true) : e_GG rho ta b L n0 D l (n + 1) I (e :: tl) loc stk fs w iv := by
  intro N p e' R s m args below meth c H locs ws tys cst ls ads0 hN hF hW hS hL hI hK hA
  show W p l e' R s m args below meth c H locs I.2.2.1 I.2.2.2.1 _ (F0 m e.1 ls cst)
  cases stk with
  | cons v st => cases h
  | nil =>
    have h : e_res (e_acc n) [] fs w iv = true := h
    cases hS
    obtain ⟨a1, a2, a3, a4, a5, hlk, a7, a8, a9, a10, a11, a12, a13, a14, a15, a16, a17, a18⟩ := hF
    unfold v_retv at hv
    split at hv
    · rename_i q1 q2
      exact vx_ret (W.widen a16 a17 (W.vret a1 a2 (by rw [a7]; exact q2) (fun t ht hal => e_ret_s (by omega) h hI hW (Or.inl ⟨rfl, rfl⟩) hA ht hal) hW.2.2.2.1.2.2 q1 hlk))
    · cases hv
def v_ret (d : e_D) (k z : Nat) (ret : Option FieldType) : Bool := match k, d, ret with
  | 0, .ok (.ireturn, 1), some .int => true
  | 0, .ok (.ireturn, 1), some .boolean => Nat.beq z 1
  | 0, .ok (.ireturn, 1), some .byte => Nat.beq z 1
  | 0, .ok (.ireturn, 1), some .char => Nat.beq z 2
  | 1, .ok (.lreturn, 1), some .long => true
  | 2, .ok (.areturn, 1), some (.object _) => true
  | 2, .ok (.areturn, 1), some (.array _) => true
  | 3, .ok (.freturn, 1), some .float => true
  | 4, .ok (.dreturn, 1), some .double => true
  | _, _, _ => false
theorem e_nr_s {z : Nat} {v : e_V} {cv : Value} {ads : List Nat} (hz : z ≠ 0) (hv : e_VR rho ta b L ads v cv) (h : e_nr z v = true) : ∃ k, cv = .int (e_i k) ∧ k ≤ (if z = 1 then 1 else 65535) := by
  have h : cond (Nat.beq z 0) true (cond (Nat.beq v.1 0) (Nat.ble v.2 (cond (Nat.beq z 1) 1 65535)) false) = true := h
  rcases e_ite h with ⟨q, -⟩ | ⟨-, h⟩
  · exact absurd (e_beq q) hz
  obtain ⟨q, h⟩ := e_and h
  unfold e_VR at hv
  rw [e_beq q] at hv
  refine ⟨v.2, hv, ?_⟩
  have h := e_ble h
  cases q1 : Nat.beq z 1 with
  | true => rw [q1] at h; rw [if_pos (e_beq q1)]; exact h
  | false => rw [q1] at h; rw [if_neg (e_bne q1)]; exact h
theorem e_nchar {k : Nat} (h : k ≤ 65535) : narrow .char (.int (e_i k)) = .int (e_i k) := by
  show Value.int (vp_nar .char (e_i k)) = _
  rw [vp_nar_char]
  congr 1
  apply Int32.toBitVec_inj.mp
  apply BitVec.eq_of_toNat_eq
  show ((e_i k).toBitVec.toNat % 65536) = _
  rw [e_i_nat]
  omega
theorem s_ret (hv : v_ret (decode (e_byt I.1) e.1) e.2.2.1 e.2.2.2.1 (e_ret I.1) = true) (h : h_ret (e_acc n) e tl I loc stk fs w iv = true) : e_GG rho ta b L n0 D l (n + 1) I (e :: tl) loc stk fs w iv := by
  intro N p e' R s m args below meth c H locs ws tys cst ls ads0 hN hF hW hS hL hI hK hA
  obtain ⟨v, st, rfl, h⟩ := e_q1_s (show e_q1 stk (fun v st => cond (cond (e_is e.2.2.1 v.1) (e_nr e.2.2.2.1 v) false) (List.rec (motive := fun _ => Bool) (e_res (e_acc n) [v] fs w iv) (fun _ _ _ => false) st) false) = true from h)
  obtain ⟨cv, cst', rfl, hvr, hS⟩ := hS
  obtain ⟨q, h⟩ := e_and h
  obtain ⟨y1, y2⟩ := e_and q
  cases st with
  | cons _ _ => cases h
  | nil =>
    have h : e_res (e_acc n) [v] fs w iv = true := h
    cases hS
    show W p l e' R s m args below meth c H locs I.2.2.1 I.2.2.2.1 _ (F0 m e.1 ls [cv])
    obtain ⟨a1, a2, a3, a4, a5, hlk, a7, a8, a9, a10, a11, a12, a13, a14, a15, a16, a17, a18⟩ := hF
    have fin : ∀ t : State, t.heap = H → s.WarmedH t.vm → e_Qc rho ta b L n0 D N fs ads0 args s (.returned (some cv)) t := fun t ht hal => e_ret_s (by omega) h hI hW (Or.inr ⟨v, cv, rfl, rfl, hvr⟩) hA ht hal
    have hf : ∀ q ∈ locs, n0 ≤ q.base := hW.2.2.2.1.2.2
    refine vx_ret (W.widen a16 a17 ?_)
    unfold v_ret at hv
    split at hv
    · rename_i q1 q2 q3
      rw [q1] at y1
      obtain ⟨x, rfl⟩ := hvr.int y1
      exact W.iret a1 a2 (by rw [a7]; exact q3) fin hf q2 hlk
    · rename_i q1 q2 q3
      have hz := e_beq hv
      obtain ⟨k, rfl, hk⟩ := e_nr_s (by omega) hvr y2
      rw [if_pos hz] at hk
      have hk : k = 0 ∨ k = 1 := by omega
      exact W.zret (ty := .boolean) a1 a2 (by rw [a7]; exact q3) (by rcases hk with rfl | rfl <;> decide) fin hf q2 hlk
    · rename_i q1 q2 q3
      have hz := e_beq hv
      obtain ⟨k, rfl, hk⟩ := e_nr_s (by omega) hvr y2
      rw [if_pos hz] at hk
      have hk : k = 0 ∨ k = 1 := by omega
      exact W.zret (ty := .byte) a1 a2 (by rw [a7]; exact q3) (by rcases hk with rfl | rfl <;> decide) fin hf q2 hlk
    · rename_i q1 q2 q3
      have hz := e_beq hv
      obtain ⟨k, rfl, hk⟩ := e_nr_s (by omega) hvr y2
      rw [if_neg (by omega)] at hk
      exact W.zret (ty := .char) a1 a2 (by rw [a7]; exact q3) (e_nchar hk) fin hf q2 hlk
    · rename_i q1 q2 q3
      rw [q1] at y1
      have := hvr.long (e_is_1 y1)
      subst this
      exact W.lret a1 a2 (by rw [a7]; exact q3) fin hf q2 hlk
    · rename_i q1 q2 q3
      rw [q1] at y1
      exact W.aret a1 a2 (by rw [a7]; exact q3) (Or.inl ⟨_, rfl⟩) (hvr.refs y1).symm fin hf q2 hlk
    · rename_i q1 q2 q3
      rw [q1] at y1
      exact W.aret a1 a2 (by rw [a7]; exact q3) (Or.inr ⟨_, rfl⟩) (hvr.refs y1).symm fin hf q2 hlk
    · rename_i q1 q2 q3
      rw [q1] at y1
      have := hvr.float (e_is_3 y1)
      subst this
      exact W.fret a1 a2 (by rw [a7]; exact q3) fin hf q2 hlk
    · rename_i q1 q2 q3
      rw [q1] at y1
      have := hvr.double (e_is_4 y1)
      subst this
      exact W.dret a1 a2 (by rw [a7]; exact q3) fin hf q2 hlk
    · cases hv
def e_sup : List String := ["java/lang/RuntimeException", "java/lang/Exception"]
def e_hasL : List Nat → List Cond → Bool
  | _, [] => true
  | h :: hs, w :: ws => (e_has h w || e_hasH h w) && e_hasL hs ws
  | [], _ :: _ => false
theorem e_hasL_s : ∀ (ws : List Cond) (hs : List Nat), e_hasL hs ws = true → ∀ w ∈ ws, w ∈ e_gw ∨ w ∈ e_hot
  | [], _, _, w, hw => by cases hw
  | u :: us, [], h, _, _ => by cases h
  | u :: us, k :: ks, h, w, hw => by
    obtain ⟨h1, h2⟩ := e_and2 (show ((e_has k u || e_hasH k u) && e_hasL ks us) = true from h)
    rcases List.mem_cons.mp hw with rfl | hw
    · rcases e_or2 h1 with q | q
      · exact Or.inl (e_has_s q)
      · exact Or.inr (e_hasH_s q)
    · exact e_hasL_s us ks h2 w hw
def v_throwC (own : String) (hh : List (Nat × Nat × Nat × Nat)) (k ik is ic pa : Nat) (h1 h2 h3 : Nat) (hs : List Nat) : Bool :=
  decide (k < 4) && (e_has h1 (.classLink own ik (e_ex k)) && (e_has h2 (.initialized (e_ex k)) && (e_hasL hs (vx_atS own ic (e_ex k) e_sup) && ((tableOf hh).all (fun x => !covers x pa) &&
    ((match e_srs[h3]? with | some q => decide (q.1 = own ∧ q.2.1 = is) | none => false) && (Bundle.fit (e_ex k) && (Cond.classLink own ik (e_ex k) :: Cond.initialized (e_ex k) :: vx_atS own ic (e_ex k) e_sup).all vx_ot))))))
def v_throw (bs : ByteArray) (own : String) (hh : List (Nat × Nat × Nat × Nat)) (k pc : Nat) (h1 h2 h3 : Nat) (hs : List Nat) : Bool := match decode bs pc, decode bs (pc + 3), decode bs (pc + 4) with
  | .ok (.new ik, 3), .ok (.dup, 1), .ok (.ldc is, 2) => (match decode bs (pc + 6), decode bs (pc + 9) with
    | .ok (.invokespecial ic, 3), .ok (.athrow, 1) => v_throwC own hh k ik is ic (pc + 9) h1 h2 h3 hs
    | _, _ => false)
  | .ok (.new ik, 3), .ok (.dup, 1), .ok (.ldc_w is, 3) => (match decode bs (pc + 7), decode bs (pc + 10) with
    | .ok (.invokespecial ic, 3), .ok (.athrow, 1) => v_throwC own hh k ik is ic (pc + 10) h1 h2 h3 hs
    | _, _ => false)
  | _, _, _ => false
theorem s_throw {h1 h2 h3 : Nat} {hs : List Nat} (hv : v_throw (e_byt I.1) (e_own I.1) (e_hh I.1) e.2.2.1 e.1 h1 h2 h3 hs = true) (h : h_throw (e_acc n) e tl I loc stk fs w iv = true) : e_GG rho ta b L n0 D l (n + 1) I (e :: tl) loc stk fs w iv := by
  intro N p e' R s m args below meth c H locs ws tys cst ls ads0 hN hF hW hS hL hI hK hA
  obtain ⟨q8, h⟩ := e_and (show cond (Nat.ble (e_cs stk) 8) (e_rm I 6 (fun _ => e_unw (e_acc n) e.2.2.1 fs w iv)) false = true from h)
  have q8 := e_ble q8
  obtain ⟨r1, r2, h⟩ := e_rm_s h
  have hsum := e_cs_s hS
  obtain ⟨lv, hlv, -⟩ := id hL
  obtain ⟨hK0, hP, hD, hSS, hWR⟩ := id hW
  obtain ⟨k1, k2, k3, k4, k5, k6, k7⟩ := hF.rooms
  obtain ⟨a1, a2, a3, a4, a5, hlk, a7, a8, a9, a10, a11, a12, a13, a14, a15, a16, a17, a18⟩ := id hF
  show W p l e' R s m args below meth c H locs I.2.2.1 I.2.2.2.1 _ (F0 m e.1 ls cst)
  have hx : e.2.2.1 < 4 → ∀ t : State, s.vm.Alike t.vm → H.size ≤ t.heap.size → (∀ q : Nat, q < H.size → t.heap[q]? = H[q]?) → e_XC rho ta b L n0 D N fs ads0 (e_ex e.2.2.1) s t := by
    intro hk t hal hsz hq
    refine ⟨n, e.2.2.1, w, iv, ws, tys, by omega, rfl, hk, h, hI, hK0.moved hal, hP.kept (fun k q hk => hq _ (vx_lt hP hk)), hD, hWR, hA, ⟨Nat.le_trans hSS.1 hsz, fun q h1 h2 => ?_⟩⟩
    rw [hq q (Nat.lt_of_lt_of_le h1 hSS.1)]
    exact hSS.2.1 q h1 h2
  have hC : ∀ ik is ic pa, v_throwC (e_own I.1) (e_hh I.1) e.2.2.1 ik is ic pa h1 h2 h3 hs = true → e.2.2.1 < 4 ∧ (Cond.classLink (e_own I.1) ik (e_ex e.2.2.1)).before args s = true ∧ (Cond.initialized (e_ex e.2.2.1)).before args s = true ∧ (∀ w ∈ vx_atS (e_own I.1) ic (e_ex e.2.2.1) e_sup, w.before args s = true) ∧ (∀ x ∈ c.exceptionTable.toList, covers x pa = false) ∧
      (∃ q sa, vk_R (e_own I.1) is q sa s) ∧ Bundle.fit (e_ex e.2.2.1) = true ∧ (∀ w ∈ Cond.classLink (e_own I.1) ik (e_ex e.2.2.1) :: Cond.initialized (e_ex e.2.2.1) :: vx_atS (e_own I.1) ic (e_ex e.2.2.1) e_sup, vx_ot w = true) := by
    intro ik is ic pa hv
    obtain ⟨z1, hv⟩ := e_and2 hv
    obtain ⟨z2, hv⟩ := e_and2 hv
    obtain ⟨z3, hv⟩ := e_and2 hv
    obtain ⟨z4, hv⟩ := e_and2 hv
    obtain ⟨z5, hv⟩ := e_and2 hv
    obtain ⟨z6, hv⟩ := e_and2 hv
    obtain ⟨z7, z8⟩ := e_and2 hv
    refine ⟨of_decide_eq_true z1, a5 _ (e_has_s z2), a5 _ (e_has_s z3), fun w hw => ?_, fun x hx => ?_, ?_, z7, fun w hw => List.all_eq_true.mp z8 w hw⟩
    · rcases e_hasL_s _ _ z4 w hw with q | q
      · exact a5 _ q
      · exact k7.use q args
    · rw [a9] at hx
      have := List.all_eq_true.mp z5 x hx
      cases q : covers x pa with
      | true => rw [q] at this; cases this
      | false => rfl
    · split at z6
      · rename_i q hq
        obtain ⟨e1, e2⟩ := of_decide_eq_true z6
        have hsa := (k7.2.2.2.1 _ q hq).1
        rw [e1, e2] at hsa
        exact ⟨_, _, hsa⟩
      · cases z6
  have hnm : ∀ n ∈ e_sup, Bundle.fit n = true := by decide +kernel
  unfold v_throw at hv
  split at hv
  · rename_i d0 d3 d4
    split at hv
    · rename_i d6 d9
      obtain ⟨c1, c2, c3, c4, c5, ⟨q, sa, c6⟩, c7, c8⟩ := hC _ _ _ _ hv
      exact vx_throwS a1 a2 k6 a4 c7 hnm c2 c3 c6 c4 c8 k7.2.1 k7.2.2.1 hSS (by rw [a3]; exact hlv.1) d0 d3 d4 d6 d9 c5 (by show 2 + 3 < R.frames; omega) (by rw [hsum]; show _ + (13 * (2 + 1) + 43) ≤ _; omega) (by omega) (by omega) hlk (hx c1) hSS.2.2 r1 r2
    · cases hv
  · rename_i d0 d3 d4
    split at hv
    · rename_i d6 d9
      obtain ⟨c1, c2, c3, c4, c5, ⟨q, sa, c6⟩, c7, c8⟩ := hC _ _ _ _ hv
      exact vx_throwSW a1 a2 k6 a4 c7 hnm c2 c3 c6 c4 c8 k7.2.1 k7.2.2.1 hSS (by rw [a3]; exact hlv.1) d0 d3 d4 d6 d9 c5 (by show 2 + 3 < R.frames; omega) (by rw [hsum]; show _ + (13 * (2 + 1) + 43) ≤ _; omega) (by omega) (by omega) hlk (hx c1) hSS.2.2 r1 r2
    · cases hv
  · cases hv
end
end
section
/-! CALLS. -/
section
variable {rho : Nat → Int32} {ta : Nat → Nat × Nat} {b L n0 : Nat} {D : va_G} {l : Launch} {n : Nat} {e : e_E} {tl : List e_E} {I : e_N} {loc stk : List e_V} {fs : List e_F} {w : e_W} {iv : e_I} {tys : List (ClassId × FieldType)} {ws : va_W}
theorem e_take_s {ads : List Nat} : ∀ (k : Nat) (stk acc : List e_V) (cst Aacc : List Value), e_SR rho ta b L ads stk cst → e_SR rho ta b L ads acc Aacc → k ≤ stk.length → ∃ As rest : List Value, As.length = k ∧ cst = As.reverse ++ rest ∧ e_SR rho ta b L ads (e_take k acc stk) (As ++ Aacc) ∧ e_SR rho ta b L ads (e_pops k stk) rest
  | 0, stk, acc, cst, Aacc, h, ha, _ => ⟨[], cst, rfl, rfl, ha, h⟩
  | k + 1, [], acc, cst, Aacc, h, ha, hk => by simp at hk
  | k + 1, v :: st, acc, cst, Aacc, h, ha, hk => by
    obtain ⟨cv, cst', rfl, hv, hS⟩ := h
    obtain ⟨As, rest, h1, rfl, h3, h4⟩ := e_take_s k st (v :: acc) cst' (cv :: Aacc) hS ⟨cv, Aacc, rfl, hv, ha⟩ (by simp at hk; omega)
    refine ⟨As ++ [cv], rest, by simp [h1], by simp, ?_, h4⟩
    rw [List.append_assoc]
    exact h3
theorem e_entry_n : ∀ (n i : Nat), e_nth (e_entry n []) i = (99, 0)
  | 0, i => rfl
  | n + 1, 0 => rfl
  | n + 1, i + 1 => e_entry_n n i
theorem e_entry_s {ads : List Nat} : ∀ (n : Nat) (vs : List e_V) (As : List Value) (j i : Nat), e_SR rho ta b L ads vs As → (e_nth (e_entry n vs) i).1 ≠ 99 → ∃ cv, (j + i, cv) ∈ lv_args j As ∧ e_VR rho ta b L ads (e_nth (e_entry n vs) i) cv
  | 0, vs, As, j, i, h, hi => by exact absurd rfl hi
  | n + 1, [], As, j, i, h, hi => by rw [e_entry_n] at hi; exact absurd rfl hi
  | n + 1, v :: t, As, j, i, h, hi => by
    obtain ⟨cv, As', rfl, hv, hS⟩ := h
    have e1 : e_entry (n + 1) (v :: t) = v :: e_entry n (cond (e_cat2 v.1) ((99, 0) :: t) t) := rfl
    have e2 : lv_args j (cv :: As') = (j, cv) :: lv_args (if cv.category = 2 then j + 2 else j + 1) As' := rfl
    rw [e1] at hi ⊢
    rw [e2]
    cases i with
    | zero => exact ⟨cv, List.mem_cons_self, hv⟩
    | succ i =>
      rw [e_nth_s] at hi ⊢
      cases q : e_cat2 v.1 with
      | false =>
        rw [q] at hi
        have hc : ¬ cv.category = 2 := fun z => by rw [hv.cat.mp z] at q; cases q
        obtain ⟨cw, w1, w2⟩ := e_entry_s n t As' (j + 1) i hS hi
        rw [if_neg hc]
        exact ⟨cw, List.mem_cons_of_mem _ (by rw [show j + (i + 1) = j + 1 + i by omega]; exact w1), w2⟩
      | true =>
        rw [q] at hi
        have hi : (e_nth (e_entry n ((99, 0) :: t)) i).1 ≠ 99 := hi
        show ∃ cw, _ ∧ e_VR rho ta b L ads (e_nth (e_entry n ((99, 0) :: t)) i) cw
        have hc : cv.category = 2 := hv.cat.mpr q
        cases n with
        | zero => exact absurd rfl hi
        | succ n =>
          have e3 : e_entry (n + 1) ((99, 0) :: t) = (99, 0) :: e_entry n t := rfl
          rw [e3] at hi ⊢
          cases i with
          | zero => exact absurd rfl hi
          | succ i =>
            rw [e_nth_s] at hi ⊢
            obtain ⟨cw, w1, w2⟩ := e_entry_s n t As' (j + 2) i hS hi
            rw [if_pos hc]
            exact ⟨cw, List.mem_cons_of_mem _ (by rw [show j + (i + 1 + 1) = j + 2 + i by omega]; exact w1), w2⟩
theorem e_sl_len {ads : List Nat} {vs : List e_V} {As : List Value} (h : e_SR rho ta b L ads vs As) : (lg_sl As).length = e_cs vs := by
  induction vs generalizing As with
  | nil => cases h; rfl
  | cons v st ih =>
    obtain ⟨cv, As', rfl, hv, hS⟩ := h
    have e1 : e_cs (v :: st) = e_cs st + cond (e_cat2 v.1) 2 1 := rfl
    have e2 : lg_sl (cv :: As') = (if cv.category = 2 then [.val cv, .second] else [.val cv]) ++ lg_sl As' := by simp [lg_sl]
    rw [e1, e2, List.length_append, ih hS]
    cases q : e_cat2 v.1 with
    | true => rw [if_pos (hv.cat.mpr q)]; show 2 + _ = _ + 2; omega
    | false => rw [if_neg (fun z => by rw [hv.cat.mp z] at q; cases q)]; show 1 + _ = _ + 1; omega
/-- the words of a method -/
def e_cw (j : Nat) : Cond := match e_hh j with
  | [] => .code (e_mth j) (e_byt j) (e_bud j).2.2 (e_ret j)
  | q :: hs => .codeWith (e_mth j) (e_byt j) (e_bud j).2.2 (e_ret j) (q :: hs)
def e_wd (j : Nat) : List Cond := e_cw j :: e_gw
def e_rmm (j d : Nat) : Room := { frames := d + 8, cells := (e_bud j).1, slots := (e_bud j).2.1, locals := 60 * d + 400 }
def e_Pc (rho : Nat → Int32) (ta : Nat → Nat × Nat) (b L n0 : Nat) (D : va_G) (tys : List (ClassId × FieldType)) (ws : va_W) (av : Array Value) : Array Value → State → Prop := fun v U => v = av ∧ va_K D e_cl tys U ∧ va_P D e_cl ws U.heap ∧ n0 ≤ U.heap.size ∧ e_GS rho ta b L (fun q => n0 ≤ q) U U.heap
theorem e_Pc_blind {av : Array Value} : FrameBlind (e_Pc rho ta b L n0 D tys ws av) := by
  intro a U g mk h
  obtain ⟨h1, h2, h3, h4, h5⟩ := h
  exact ⟨h1, va_K.moved (u := U) (U := U.calling g mk a) (Vm.Alike.refl U.vm) h2, h3, h4, h5.moved (U := U.calling g mk a) (State.WarmedH.refl U) (fun _ _ _ => rfl)⟩
/-- what is decided of each method -/
noncomputable def v_meth (j : Nat) : Bool := decide (j < e_nm) && (plainName (e_mth j).cls && (decide (e_own j = (e_mth j).cls) && ((!(e_ini j) || decide ((e_mth j).name = "<init>")) && (Nat.beq (e_hpc (e_pg j)) 0 && (Nat.ble (e_bud j).2.2 41 &&
  (decide ((e_mth j).cls ≠ "java/lang/invoke/MethodHandle" ∧ (e_mth j).cls ≠ "java/lang/invoke/VarHandle")))))))
theorem v_meth_s {j : Nat} (h : v_meth j = true) : j < e_nm ∧ plainName (e_mth j).cls = true ∧ e_own j = (e_mth j).cls ∧ (e_ini j = true → (e_mth j).name = "<init>") ∧ e_hpc (e_pg j) = 0 ∧ (e_bud j).2.2 ≤ 41 ∧ (e_mth j).cls ≠ "java/lang/invoke/MethodHandle" ∧ (e_mth j).cls ≠ "java/lang/invoke/VarHandle" := by
  obtain ⟨h1, h⟩ := e_and2 h
  obtain ⟨h2, h⟩ := e_and2 h
  obtain ⟨h3, h⟩ := e_and2 h
  obtain ⟨h4, h⟩ := e_and2 h
  obtain ⟨h5, h⟩ := e_and2 h
  obtain ⟨h6, h⟩ := e_and2 h
  obtain ⟨h7, h8⟩ := of_decide_eq_true h
  refine ⟨of_decide_eq_true h1, h2, of_decide_eq_true h3, fun q => ?_, e_beq h5, e_ble h6, h7, h8⟩
  rcases e_or2 h4 with z | z
  · rw [q] at z; cases z
  · exact of_decide_eq_true z
theorem e_met (hl : l.stackTraces = false) (IH : e_P rho ta b L n0 D l n) {j d : Nat} {vs : List e_V} {As : List Value} (hv : v_meth j = true) (h : e_acc n (j, e_pg j, 0, 0, d) (e_pg j) (e_entry (e_bud j).2.2 vs) [] fs w iv = true)
    (hI : e_IV rho iv) (hS : e_SR rho ta b L (e_ads ws) vs As) (hlen : e_cs vs ≤ (e_bud j).2.2) (hD : va_D (fun q => n0 ≤ q) ws) (hWR : e_WR rho ta b L tys ws w) :
    vx_Met l (e_mth j) (e_wd j) (e_rmm j d) (e_Pc rho ta b L n0 D tys ws As.toArray) (e_Qc rho ta b L n0 D n fs (e_ads ws)) (e_XC rho ta b L n0 D n fs (e_ads ws)) (e_bud j).1 (e_bud j).2.1 (fun q => n0 ≤ q) := by
  obtain ⟨v1, v2, v3, v4, v5, v6, v7, v8⟩ := v_meth_s hv
  have body : ∀ p e s m args below meth c s₁, BodyLoose p l (e_mth j) (headSpec (e_wd j) (e_rmm j d)) (e_byt j) (e_bud j).2.2 (e_ret j) e s m args below meth c s₁ → c.maxLocals = (e_bud j).2.2 → c.exceptionTable.toList = tableOf (e_hh j) → e_Pc rho ta b L n0 D tys ws As.toArray args s →
      W p l e (headSpec (e_wd j) (e_rmm j d)).room s m args below meth c s.heap [] 0 0 (vx_MQ below (e_Qc rho ta b L n0 D n fs (e_ads ws)) (e_XC rho ta b L n0 D n fs (e_ads ws)) args s (e_bud j).1 (e_bud j).2.1 (fun q => n0 ≤ q)) (entryFrame m args (e_bud j).2.2) := by
    intro p e s m args below meth c s₁ B hml htab hP
    obtain ⟨rfl, hK, hP, hn0, hG⟩ := hP
    have hts := atoms_spec (ws := e_wd j) B.pre
    rw [lg_entry_eq]
    have hle := lv_entry As (n := (e_bud j).2.2) (by rw [e_sl_len hS]; exact hlen)
    refine IH (j, e_pg j, 0, 0, d) (e_pg j) _ [] fs w iv h n p e (headSpec (e_wd j) (e_rmm j d)).room s m As.toArray below meth c s.heap [] ws tys [] _ (e_ads ws) (Nat.le_refl _) ?_ ⟨hK, hP, hD, va_S.rf, hWR⟩ rfl ⟨_, hle, fun i hi => ?_⟩ hI ⟨0, rfl⟩ (List.prefix_refl _) |> fun k => (by rw [v5] at k; exact k)
    · exact ⟨B.exec, B.bytes, hml, by rw [v3]; exact findClass_of_methodNamed B.named, fun w hw => hts w (List.mem_cons_of_mem _ hw), B.notSynchronized, B.returns, fun q => by rw [(name_of_methodNamed B.named B.method).1]; exact v4 q, htab, rfl, v1, Nat.le_refl _, Nat.le_refl _, Nat.le_refl _, Nat.le_refl _, Nat.zero_le _, Nat.zero_le _, hn0, hl, hG⟩
    · obtain ⟨cv, w1, w2⟩ := e_entry_s _ vs As 0 i hS hi
      rw [Nat.zero_add] at w1
      exact ⟨cv, w1, w2⟩
  cases hh : e_hh j with
  | nil =>
    refine vx_ofW (cc := e_byt j) (maxL := (e_bud j).2.2) (ret := e_ret j) (ws' := e_gw) v2 (by unfold e_wd e_cw; rw [hh]) (fun p e s m args below meth c s₁ B hml ht hP => body p e s m args below meth c s₁ B hml ?_ hP)
    rw [hh]
    cases q : c.exceptionTable.toList with
    | nil => rfl
    | cons x _ => exact (ht x (by rw [q]; exact List.mem_cons_self)).elim
  | cons q hs =>
    refine vx_ofWH (cc := e_byt j) (maxL := (e_bud j).2.2) (ret := e_ret j) (hh := q :: hs) (ws' := e_gw) v2 (by unfold e_wd e_cw; rw [hh]) (fun p e s m args below meth c s₁ B hml hP => body p e s m args below meth c s₁ B hml ?_ hP)
    rw [hh]
    exact vx_table (x := e_mth j) B (atoms_spec (ws := e_wd j) B.pre _ (by unfold e_wd e_cw; rw [hh]; exact List.mem_cons_self))
end
end
section
/-! BEHIND A CALL: on in the caller, or up with an exception. -/
section
variable {rho : Nat → Int32} {ta : Nat → Nat × Nat} {b L n0 : Nat} {D : va_G} {l : Launch} {n : Nat} {e : e_E} {tl : List e_E} {I : e_N} {loc stk : List e_V} {fs : List e_F} {w : e_W} {iv : e_I} {tys : List (ClassId × FieldType)} {ws : va_W}
noncomputable def v_hnd (own : String) (pg : List e_E) : List (Nat × Nat × Nat × Nat) → List (Nat × Nat × Nat × Nat) → List Nat → Bool
  | [], [], _ => true
  | q :: hn, z :: hh, g :: gs => (decide (q.1 = z.1 ∧ q.2.1 = z.2.1 ∧ q.2.2.1 < 4 ∧ z.2.2.2 ≠ 0 ∧ z.2.2.1 = e_hpc (e_drop q.2.2.2 pg)) && e_has g (.classLink own z.2.2.2 (e_ex q.2.2.1))) && v_hnd own pg hn hh gs
  | _, _, _ => false
def e_past (own : String) (E : Nat) (args : Array Value) (s : State) (pc : Nat) (z : ExceptionTableEntry) : Prop := covers z pc = false ∨ (z.catchType ≠ 0 ∧ ∃ nm : String, (Cond.classLink own z.catchType nm).before args s = true ∧ va_Nc (e_ex E) nm s)
theorem e_hnd_s {own : String} {pg : List e_E} {args : Array Value} {s : State} {pc E : Nat} (hts : ∀ w ∈ e_gw, w.before args s = true) (hE : E < 4) (hnc : ∀ j k : Nat, j < 4 → k < 4 → j ≠ k → va_Nc (e_ex j) (e_ex k) s) : ∀ (hn hh : List (Nat × Nat × Nat × Nat)) (gs : List Nat), v_hnd own pg hn hh gs = true →
    (e_hnd hn pc E = 0 ∧ ∀ z ∈ tableOf hh, e_past own E args s pc z) ∨ ∃ (x : Nat) (pre : List ExceptionTableEntry) (z : ExceptionTableEntry) (suf : List ExceptionTableEntry), e_hnd hn pc E = x + 1 ∧ tableOf hh = pre ++ z :: suf ∧ (∀ y ∈ pre, e_past own E args s pc y) ∧ covers z pc = true ∧ z.catchType ≠ 0 ∧ (Cond.classLink own z.catchType (e_ex E)).before args s = true ∧ z.handlerPc = e_hpc (e_drop x pg)
  | [], [], _, _ => Or.inl ⟨rfl, fun z hz => by cases hz⟩
  | [], _ :: _, _, h => by cases h
  | _ :: _, [], _, h => by cases h
  | _ :: _, _ :: _, [], h => by cases h
  | q :: hn, z :: hh, g :: gs, h => by
    obtain ⟨h1, h2⟩ := e_and2 (show ((decide (q.1 = z.1 ∧ q.2.1 = z.2.1 ∧ q.2.2.1 < 4 ∧ z.2.2.2 ≠ 0 ∧ z.2.2.1 = e_hpc (e_drop q.2.2.2 pg)) && e_has g (.classLink own z.2.2.2 (e_ex q.2.2.1))) && v_hnd own pg hn hh gs) = true from h)
    obtain ⟨h1, h3⟩ := e_and2 h1
    obtain ⟨y1, y2, y3, y4, y5⟩ := of_decide_eq_true h1
    have hw := hts _ (e_has_s h3)
    have e1 : e_hnd (q :: hn) pc E = cond (cond (Nat.ble q.1 pc) (cond (Nat.ble (Nat.succ pc) q.2.1) (Nat.beq q.2.2.1 E) false) false) (Nat.succ q.2.2.2) (e_hnd hn pc E) := rfl
    have e2 : tableOf (z :: hh) = ⟨z.1, z.2.1, z.2.2.1, z.2.2.2⟩ :: tableOf hh := rfl
    rw [e1, e2]
    have hcv : covers ⟨z.1, z.2.1, z.2.2.1, z.2.2.2⟩ pc = (decide (z.1 ≤ pc) && decide (pc < z.2.1)) := rfl
    cases c1 : cond (Nat.ble q.1 pc) (cond (Nat.ble (Nat.succ pc) q.2.1) (Nat.beq q.2.2.1 E) false) false with
    | true =>
      obtain ⟨k1, k2⟩ := e_and c1
      obtain ⟨k2, k3⟩ := e_and k2
      have k1 := e_ble k1
      have k2 := e_ble k2
      have k3 := e_beq k3
      rw [k3] at hw
      refine Or.inr ⟨q.2.2.2, [], _, _, rfl, rfl, fun y hy => (by cases hy), ?_, y4, hw, y5⟩
      rw [hcv, ← y1, ← y2, decide_eq_true k1, decide_eq_true (show pc < q.2.1 from k2)]
      rfl
    | false =>
      have hp : e_past own E args s pc ⟨z.1, z.2.1, z.2.2.1, z.2.2.2⟩ := by
        cases c2 : covers ⟨z.1, z.2.1, z.2.2.1, z.2.2.2⟩ pc with
        | false => exact Or.inl c2
        | true =>
          rw [hcv] at c2
          obtain ⟨k1, k2⟩ := e_and2 c2
          have k1 := of_decide_eq_true k1
          have k2 := of_decide_eq_true k2
          refine Or.inr ⟨y4, _, hw, hnc _ _ hE y3 (fun hq => ?_)⟩
          rw [Nat.ble_eq_true_of_le (show q.1 ≤ pc by omega), Nat.ble_eq_true_of_le (show Nat.succ pc ≤ q.2.1 by omega)] at c1
          have c1 : Nat.beq q.2.2.1 E = false := c1
          exact e_bne c1 hq.symm
      rcases e_hnd_s hts hE hnc hn hh gs h2 with ⟨a1, a2⟩ | ⟨x, pre, z', suf, a1, a2, a3, a4⟩
      · exact Or.inl ⟨a1, fun y hy => by
          rcases List.mem_cons.mp hy with rfl | hy
          · exact hp
          · exact a2 y hy⟩
      · exact Or.inr ⟨x, _ :: pre, z', suf, a1, by rw [a2]; rfl, fun y hy => by
          rcases List.mem_cons.mp hy with rfl | hy
          · exact hp
          · exact a3 y hy, a4⟩
theorem e_SR_app {ads : List Nat} {rv rst : List e_V} {ov : Option Value} {crst : List Value} (h : e_OR rho ta b L ads rv ov) (hS : e_SR rho ta b L ads rst crst) : e_SR rho ta b L ads (rv ++ rst) (ov.toList ++ crst) := by
  rcases h with ⟨rfl, rfl⟩ | ⟨v, cv, rfl, rfl, hv⟩
  · exact hS
  · exact ⟨cv, crst, rfl, hv, hS⟩
theorem e_after (IH : ∀ n', n' ≤ n → e_P rho ta b L n0 D l n') (hcast : ∀ k, k < 4 → Cond.castable (e_ex k) (e_ex k) ∈ e_hot) {gs : List Nat} (hvh : v_hnd (e_own I.1) (e_pg I.1) (e_hn I.1) (e_hh I.1) gs = true)
    {N : Nat} {p : Program} {e' : Env} {R : Room} {s : State} {m : MethodId} {args : Array Value} {below : List Frame} {meth : Method} {c : Code} {H : Heap} {locs : List Loc} {ls : Array Slot} {ads0 : List Nat} {mc ms : Nat} {rst : List e_V} {crst st0 : List Value} {a : Array Value}
    (hn : n ≤ N) (hF : e_FC rho ta b L I n0 p l R s m args meth c) (hW : e_WH rho ta b L n0 D s H locs ws tys w) (hS : e_SR rho ta b L (e_ads ws) rst crst) (hL : e_LR rho ta b L (e_ads ws) (e_bud I.1).2.2 ls loc) (hK : ∃ k, e :: tl = (e_pg I.1).drop k) (hA : ads0 <+: e_ads ws) (h1 : I.2.2.1 + mc ≤ (e_bud I.1).1) (h2 : I.2.2.2.1 + ms ≤ (e_bud I.1).2.1) (hnx : e_hpc tl = e.1 + 3)
    (hr : vx_Run p l e' R s m args below meth c H locs I.2.2.1 I.2.2.2.1 mc ms (F0 m e.1 ls st0) crst (e_Qc rho ta b L n0 D n (((I.1, I.2.1, Nat.add I.2.2.1 mc, Nat.add I.2.2.2.1 ms, I.2.2.2.2), e :: tl, loc, rst) :: fs) (e_ads ws) a) (e_XC rho ta b L n0 D n (((I.1, I.2.1, Nat.add I.2.2.1 mc, Nat.add I.2.2.2.1 ms, I.2.2.2.2), e :: tl, loc, rst) :: fs) (e_ads ws)) (fun q => n0 ≤ q)) :
    W p l e' R s m args below meth c H locs I.2.2.1 I.2.2.2.1 (vx_MQ below (e_Qc rho ta b L n0 D N fs ads0) (e_XC rho ta b L n0 D N fs ads0) args s (e_bud I.1).1 (e_bud I.1).2.1 (fun q => n0 ≤ q)) (F0 m e.1 ls st0) := by
  intro T hT X
  have hF2 := hF.room (k := Nat.add I.2.2.1 mc) (j := Nat.add I.2.2.2.1 ms) h1 h2
  have hpg : I.2.1 = e_pg I.1 := hF.2.2.2.2.2.2.2.2.2.1
  rcases hr T hT X with ⟨v, st₀, t, T', L', h0, X', hL', e1, e2, hq, st⟩ | ⟨q, st₀, t, T', L', E, ce, h0, X', hL', e1, e2, hx, hce, hcv, hcl, st⟩
  · obtain ⟨n', rv, w', iv', ws', tys', ov, hn', hres, hI', ho, hor, hK', hP', hD', hR', hA', hF'⟩ := hq
    cases ho
    have hres : e_acc n' (I.1, I.2.1, Nat.add I.2.2.1 mc, Nat.add I.2.2.2.1 ms, I.2.2.2.2) tl loc (rv ++ rst) fs w' iv' = true := hres
    obtain ⟨k1, k2, k3⟩ := vx_keep h0 e1 hW.2.2.2.1 (A1 := fun q => n0 ≤ q) (fun q _ h => h) (fun q h => h) hL' hF'
    have hal : s.vm.Alike t.vm := by rw [← e2]; exact X'.warmed.alike
    have kk := e_k (IH n' hn') hres (N := N) (p := p) (e' := e') (R := R) (s := s) (m := m) (args := args) (below := below) (meth := meth) (c := c) (H := T'.heap) (locs := locs ++ L') (ws := ws') (tys := tys') (cst := v.toList ++ crst) (ls := ls) (ads0 := ads0) (by omega) hF2
      ⟨hK'.moved hal.symm, by rw [e1]; exact hP', hD', k3, hR'⟩ (e_SR_app hor (hS.mono hA')) (hL.mono hA') hI' (e_suf hK) (hA.trans hA') hnx
    obtain ⟨t2, a1, b1⟩ := kk T' rfl X'
    exact ⟨t2, st t2 a1, b1⟩
  · obtain ⟨n', k, w', iv', ws', tys', hn', rfl, hk4, hunw, hI', hK', hP', hD', hR', hA', hF'⟩ := hx
    obtain ⟨k1, k2, k3⟩ := vx_keep h0 e1 hW.2.2.2.1 (A1 := fun q => n0 ≤ q) (fun q _ h => h) (fun q h => h) hL' hF'
    have hal : s.vm.Alike t.vm := by rw [← e2]; exact X'.warmed.alike
    obtain ⟨r1, r2, r3, r4, r5, r6, r7⟩ := hF.rooms
    obtain ⟨a1, a2, a3, a4, a5, hlk, a7, a8, a9, a10⟩ := id hF
    have hWH : e_WH rho ta b L n0 D s T'.heap (locs ++ L') ws' tys' w' := ⟨hK'.moved hal.symm, by rw [e1]; exact hP', hD', k3, hR'⟩
    have hunw : Nat.rec (motive := fun _ => Bool) (e_unw (e_acc n') k fs w' iv') (fun x _ => e_acc n' (I.1, I.2.1, Nat.add I.2.2.1 mc, Nat.add I.2.2.2.1 ms, I.2.2.2.2) (e_drop x I.2.1) loc [(5, 0)] fs w' iv') (e_hnd (e_hn I.1) e.1 k) = true := hunw
    rcases e_hnd_s (pc := e.1) a5 hk4 r7.2.2.2.2.2.2.2.1 _ _ _ hvh with ⟨c1, c2⟩ | ⟨x, pre, z, suf, c1, c2, c3, c4, c5, c6, c7⟩
    · rw [c1] at hunw
      have hunw : e_unw (e_acc n') k fs w' iv' = true := hunw
      have kx : vx_W p l e' R s m args below meth c T'.heap (locs ++ L') (I.2.2.1 + mc) (I.2.2.2.1 + ms) (vx_MQ below (e_Qc rho ta b L n0 D N fs ads0) (e_XC rho ta b L n0 D N fs ads0) args s (e_bud I.1).1 (e_bud I.1).2.1 (fun q => n0 ≤ q)) (F0 m e.1 ls crst) q := by
        refine vx_outP a4 hlk (by rw [a9]; exact c2) (by rw [e1]; exact hce) hcv hcl (fun t2 ht2 hal2 => ?_) k3.2.2 h1 h2
        exact ⟨n', k, w', iv', ws', tys', by omega, rfl, hk4, hunw, hI', hWH.1.moved hal2, by rw [ht2]; exact hWH.2.1, hD', hR', hA.trans hA', k3.F ht2⟩
      obtain ⟨t2, a1, b1⟩ := kx T' rfl X'
      exact ⟨t2, st.trans a1, b1⟩
    · rw [c1] at hunw
      have hunw : e_acc n' (I.1, I.2.1, Nat.add I.2.2.1 mc, Nat.add I.2.2.2.1 ms, I.2.2.2.2) (e_drop x I.2.1) loc [(5, 0)] fs w' iv' = true := hunw
      have kx : vx_W p l e' R s m args below meth c T'.heap (locs ++ L') (I.2.2.1 + mc) (I.2.2.2.1 + ms) (vx_MQ below (e_Qc rho ta b L n0 D N fs ads0) (e_XC rho ta b L n0 D N fs ads0) args s (e_bud I.1).1 (e_bud I.1).2.1 (fun q => n0 ≤ q)) (F0 m e.1 ls crst) q := by
        refine vx_catch a4 pre z suf (by rw [a9]; exact c2) c3 c4 c5 c6 (r7.use (hcast k hk4) args) (by rw [e1]; exact hce) hcv hcl ?_
        exact e_k (IH n' hn') hunw (by omega) hF2 hWH ⟨_, _, rfl, Or.inr ⟨q, rfl⟩, rfl⟩ (hL.mono hA') hI' ⟨x, by rw [hpg, e_drop_eq]⟩ (hA.trans hA') (by rw [c7, hpg])
      obtain ⟨t2, a1, b1⟩ := kx T' rfl X'
      exact ⟨t2, st.trans a1, b1⟩
end
end
section
/-! THE CALL. -/
section
variable {rho : Nat → Int32} {ta : Nat → Nat × Nat} {b L n0 : Nat} {D : va_G} {l : Launch} {n : Nat} {e : e_E} {tl : List e_E} {I : e_N} {loc stk : List e_V} {fs : List e_F} {w : e_W} {iv : e_I} {tys : List (ClassId × FieldType)} {ws : va_W}
theorem e_natrec {k : Nat} {f : Nat → Bool} (h : Nat.rec (motive := fun _ => Bool) false (fun d _ => f d) k = true) : ∃ d, k = d + 1 ∧ f d = true := by
  cases k with
  | zero => cases h
  | succ d => exact ⟨d, rfl, h⟩
def v_link (own host : String) (i h : Nat) (y : MethodName) : Bool := e_has h (.methodLink own i y) || e_hasH h (.methodLinkNest own i y host)
def v_par (j k : Nat) : Bool := decide ((parseMethodDescriptor (e_mth j).desc).map (fun d => d.parameters.length) = some k)
def v_call (d : e_D) (own host : String) (j k x pc nx h1 h2 h3 h5 : Nat) : Bool := (e_has h3 (.initialized (e_mth j).cls) && Nat.beq nx (pc + 3)) && (match d with
  | .ok (.invokestatic i, 3) => v_par j k && (e_has h2 (.static (e_mth j)) && (e_has h1 (.methodLink own i (e_mth j)) || (e_hasH h1 (.methodLinkNest own i (e_mth j) host) && (e_hh j).isEmpty)))
  | .ok (.invokespecial i, 3) => decide ((e_mth j).name = "<init>" ∧ e_ret j = none ∧ x ≠ 0 ∧ x ≠ 1000 ∧ k ≠ 0) && (v_par j (k - 1) && ((e_hh j).isEmpty && (e_has h2 (.instanceMethod (e_mth j)) && v_link own host i h1 (e_mth j))))
  | .ok (.invokevirtual i, 3) => (decide (x ≠ 0 ∧ x - 1 < e_nc ∧ e_cn (x - 1) = (e_mth j).cls ∧ k ≠ 0) || decide (x = 1000 ∧ (e_mth j).cls = "java/lang/String" ∧ k ≠ 0)) && (v_par j (k - 1) && ((e_hh j).isEmpty && (e_has h2 (.instanceMethod (e_mth j)) && (e_has h5 (.selects (e_mth j).cls (e_mth j) (e_mth j)) && v_link own host i h1 (e_mth j)))))
  | _ => false)
theorem e_cw_n {j : Nat} (h : (e_hh j).isEmpty = true) : e_cw j = .code (e_mth j) (e_byt j) (e_bud j).2.2 (e_ret j) := by
  unfold e_cw
  cases q : e_hh j with
  | nil => rfl
  | cons _ _ => rw [q] at h; cases h
theorem s_call (hl : l.stackTraces = false) (IH : ∀ n', n' ≤ n → e_P rho ta b L n0 D l n') (hcast : ∀ k, k < 4 → Cond.castable (e_ex k) (e_ex k) ∈ e_hot) {gs : List Nat} (hvh : v_hnd (e_own I.1) (e_pg I.1) (e_hn I.1) (e_hh I.1) gs = true) (hvm : v_meth e.2.2.1 = true) (hcwm : e_cw e.2.2.1 ∈ e_gw)
    {h1 h2 h3 h5 : Nat} (hv : v_call (decode (e_byt I.1) e.1) (e_own I.1) (e_host I.1) e.2.2.1 e.2.2.2.1 e.2.2.2.2 e.1 (e_hpc tl) h1 h2 h3 h5 = true) (h : h_call (e_acc n) e tl I loc stk fs w iv = true) : e_GG rho ta b L n0 D l (n + 1) I (e :: tl) loc stk fs w iv := by
  intro N p e' R s m args below meth c H locs ws tys cst ls ads0 hN hF hW hS hL hI hK hA
  obtain ⟨ha, h⟩ := e_and h
  obtain ⟨r1, h⟩ := e_and h
  obtain ⟨r2, h⟩ := e_and h
  have r1 : I.2.2.1 + (e_bud e.2.2.1).1 ≤ (e_bud I.1).1 := e_ble r1
  have r2 : I.2.2.2.1 + (e_bud e.2.2.1).2.1 ≤ (e_bud I.1).2.1 := e_ble r2
  obtain ⟨d, hd, h⟩ := e_natrec (f := fun d => e_acc n (e.2.2.1, e_pg e.2.2.1, 0, 0, d) (e_pg e.2.2.1) (e_entry (e_bud e.2.2.1).2.2 (e_take e.2.2.2.1 [] stk)) [] (((I.1, I.2.1, Nat.add I.2.2.1 (e_bud e.2.2.1).1, Nat.add I.2.2.2.1 (e_bud e.2.2.1).2.1, I.2.2.2.2), e :: tl, loc, e_pops e.2.2.2.1 stk) :: fs) w iv) h
  obtain ⟨g8, ha⟩ := e_and ha
  obtain ⟨gl, ha⟩ := e_and ha
  obtain ⟨gc, gr⟩ := e_and ha
  have g8 := e_ble g8
  have gl := e_ble gl
  have gc := e_ble gc
  obtain ⟨As, rest, hAl, rfl, hSA, hSr⟩ := e_take_s (ads := e_ads ws) e.2.2.2.1 stk [] cst [] hS rfl gl
  rw [List.append_nil] at hSA
  obtain ⟨hK0, hP, hD, hSS, hWR⟩ := id hW
  obtain ⟨k1, k2, k3, k4, k5, k6, k7⟩ := hF.rooms
  obtain ⟨a1, a2, a3, a4, a5, hlk, a7, a8, a9, a10⟩ := id hF
  obtain ⟨lv, hlv, -⟩ := id hL
  have hsum := e_cs_s hSr
  have hM := e_met hl (IH n (Nat.le_refl n)) (tys := tys) hvm h hI hSA gc hD hWR
  obtain ⟨v1, v2, v3, v4, v5, v6, v7, v8⟩ := v_meth_s hvm
  have hPre : ∀ U : State, U.heap = H → s.WarmedH U.vm → e_Pc rho ta b L n0 D tys ws As.toArray As.toArray U := by
    intro U hU hal
    refine ⟨rfl, hK0.moved hal.alike, by rw [hU]; exact hP, by rw [hU]; exact Nat.le_trans k5 hSS.1, ?_⟩
    rw [hU]
    exact k7.moved hal (fun q h1 h2 => hSS.2.1 q h1 h2)
  obtain ⟨hv, hvv⟩ := e_and2 hv
  obtain ⟨z3, hnx⟩ := e_and2 hv
  have hnx := e_beq hnx
  have hin : ∀ w ∈ e_wd e.2.2.1, w ∈ e_gw := fun w hw => by
    rcases List.mem_cons.mp hw with rfl | hw
    · exact hcwm
    · exact hw
  have hpay : ∀ w ∈ e_wd e.2.2.1, ∀ (a' : Array Value) (U : State), s.WarmedH U.vm → w.before a' U = true := fun w hw a' U hU => word_at hU (good_of_word (List.mem_filter.mp (hin w hw)).2) (a5 w (hin w hw))
  have hrm : (e_rmm e.2.2.1 d).frames + 1 ≤ R.frames ∧ 8 + ((e_bud e.2.2.1).2.2 + 11) + (e_rmm e.2.2.1 d).locals ≤ R.locals := ⟨by have z : (e_rmm e.2.2.1 d).frames = d + 8 := rfl; omega, by have z : (e_rmm e.2.2.1 d).locals = 60 * d + 400 := rfl; omega⟩
  have hcells : I.2.2.1 + (e_bud e.2.2.1).1 ≤ R.cells ∧ I.2.2.2.1 + (e_bud e.2.2.1).2.1 ≤ R.slots := ⟨by omega, by omega⟩
  have hWsum : 2 * (F0 m e.1 ls (As.reverse ++ rest)).monitorRoom + (rest.map fun v => v.category).sum ≤ 8 := by
    show 2 * 0 + _ ≤ 8
    rw [hsum]
    omega
  have hmem : e_cw e.2.2.1 ∈ e_wd e.2.2.1 := List.mem_cons_self
  have hpar : ∀ k, v_par e.2.2.1 k = true → ∀ sig, parseMethodDescriptor (e_mth e.2.2.1).desc = some sig → k = sig.parameters.length := by
    intro k hk sig hs
    have := of_decide_eq_true hk
    rw [hs] at this
    exact (Option.some.inj this).symm
  have hCB : (e_hh e.2.2.1).isEmpty = true → (e_rmm e.2.2.1 d).cells = (e_bud e.2.2.1).1 ∧ (e_rmm e.2.2.1 d).slots = (e_bud e.2.2.1).2.1 ∧ (e_rmm e.2.2.1 d).frames + 1 ≤ R.frames ∧ 8 + ((e_bud e.2.2.1).2.2 + 11) + (e_rmm e.2.2.1 d).locals ≤ R.locals ∧ (∀ w ∈ e_wd e.2.2.1, ∀ (a' : Array Value) (U : State), s.WarmedH U.vm → w.before a' U = true) ∧ Cond.code (e_mth e.2.2.1) (e_byt e.2.2.1) (e_bud e.2.2.1).2.2 (e_ret e.2.2.1) ∈ e_wd e.2.2.1 := by
    intro hh
    rw [e_cw_n hh] at hmem
    exact ⟨rfl, rfl, hrm.1, hrm.2, hpay, hmem⟩
  have hCC : (e_hh e.2.2.1).isEmpty = true → (Cond.code (e_mth e.2.2.1) (e_byt e.2.2.1) (e_bud e.2.2.1).2.2 (e_ret e.2.2.1)).before args s = true := by
    intro hh
    rw [e_cw_n hh] at hcwm
    exact a5 _ hcwm
  have fin := fun (hr : vx_Run p l e' R s m args below meth c H locs I.2.2.1 I.2.2.2.1 (e_bud e.2.2.1).1 (e_bud e.2.2.1).2.1 (F0 m e.1 ls (As.reverse ++ rest)) rest (e_Qc rho ta b L n0 D n (((I.1, I.2.1, Nat.add I.2.2.1 (e_bud e.2.2.1).1, Nat.add I.2.2.2.1 (e_bud e.2.2.1).2.1, I.2.2.2.2), e :: tl, loc, e_pops e.2.2.2.1 stk) :: fs) (e_ads ws) As.toArray) (e_XC rho ta b L n0 D n (((I.1, I.2.1, Nat.add I.2.2.1 (e_bud e.2.2.1).1, Nat.add I.2.2.2.1 (e_bud e.2.2.1).2.1, I.2.2.2.2), e :: tl, loc, e_pops e.2.2.2.1 stk) :: fs) (e_ads ws)) (fun q => n0 ≤ q)) =>
    e_after (N := N) IH hcast hvh (by omega) hF hW hSr hL hK hA r1 r2 hnx hr
  have hrecv : e.2.2.2.2 ≠ 0 → e.2.2.2.2 ≠ 1000 → ∃ (a : Nat) (As' : List Value) (vs : List Value) (q0 : Nat), As = .ref a :: As' ∧ ws[q0]? = some (a, .inr (e.2.2.2.2 - 1, vs)) := by
    intro hx hx2
    obtain ⟨ci, hci⟩ : ∃ ci, e.2.2.2.2 = ci + 1 := ⟨e.2.2.2.2 - 1, by omega⟩
    rw [hci] at gr hx2 ⊢
    obtain ⟨v, st', hvs, gr⟩ := e_q1_s (show e_q1 (e_take e.2.2.2.1 [] stk) (fun v _ => cond (Nat.beq ci 999) (Nat.beq v.1 8) (e_cell w v (fun c => cond (Nat.beq c.1 0) (Nat.beq c.2.1 ci) false))) = true from gr)
    rcases e_ite gr with ⟨y, -⟩ | ⟨-, gr⟩
    · have := e_beq y
      omega
    rw [hvs] at hSA
    obtain ⟨cv, As', rfl, hvr, -⟩ := hSA
    obtain ⟨cc, a, x, -, -, gk, rfl, gw, -, gcr⟩ := e_cell_s hWR hvr gr
    obtain ⟨y1, y2⟩ := e_and gk
    have y1 := e_beq y1
    have y2 := e_beq y2
    rcases gcr with ⟨-, -, vs, rfl, -⟩ | ⟨y, -⟩ | ⟨y, -⟩ | ⟨y, -⟩
    · exact ⟨a, As', vs, v.2, rfl, by rw [gw, y2]; rfl⟩
    · omega
    · omega
    · omega
  have hrecT : e.2.2.2.2 = 1000 → ∃ (a : Nat) (As' : List Value), As = .ref a :: As' ∧ ∃ cell : Cell, H[a]? = some cell ∧ cell.vm.isStatics = false ∧ s.vm.findClass "java/lang/String" = some cell.cls := by
    intro hx
    rw [hx] at gr
    obtain ⟨v, st', hvs, gr⟩ := e_q1_s (show e_q1 (e_take e.2.2.2.1 [] stk) (fun v _ => cond (Nat.beq 999 999) (Nat.beq v.1 8) (e_cell w v (fun c => cond (Nat.beq c.1 0) (Nat.beq c.2.1 999) false))) = true from gr)
    have gr : Nat.beq v.1 8 = true := gr
    rw [hvs] at hSA
    obtain ⟨cv, As', rfl, hvr, -⟩ := hSA
    unfold e_VR at hvr
    rw [e_beq gr] at hvr
    obtain ⟨rfl, hlt⟩ := hvr
    exact ⟨_, As', rfl, vk_recv (k7.2.2.2.1 v.2 _ (List.getElem?_eq_getElem hlt)).2 (Nat.zero_lt_one) hSS⟩
  show W p l e' R s m args below meth c H locs I.2.2.1 I.2.2.2.1 _ (F0 m e.1 ls (As.reverse ++ rest))
  split at hvv
  · rename_i idx q2
    obtain ⟨z1, hvv⟩ := e_and2 hvv
    obtain ⟨z2, hvv⟩ := e_and2 hvv
    refine fin ?_
    by_cases hh : (e_hh e.2.2.1).isEmpty = true
    · obtain ⟨c1, c2, c3, c4, c5, c6⟩ := hCB hh
      rcases e_or2 hvv with y | y
      · exact vx_runS (Ts := e_gw) ⟨a1, a2, a3, a4, a5⟩ hM ⟨⟨c1, c2, c3, c4, c5, c6, hCC hh, a5 _ (e_has_s z3), ⟨v7, v8⟩, hpar _ z1, a5 _ (e_has_s y)⟩, a5 _ (e_has_s z2)⟩ ⟨e_Pc_blind, hPre⟩ rfl hAl hlv.1 rfl hWsum q2 hcells
      · obtain ⟨y, -⟩ := e_and2 y
        exact vx_runSN (Ts := e_gw) ⟨a1, a2, a3, a4, a5⟩ hM ⟨⟨⟨c1, c2, c3, c4, c5, c6⟩, hCC hh, a5 _ (e_has_s z3), ⟨v7, v8⟩, hpar _ z1, k7.use (e_hasH_s y) args⟩, a5 _ (e_has_s z2), trivial⟩ ⟨e_Pc_blind, hPre⟩ rfl hAl hlv.1 rfl hWsum q2 hcells
    · rcases e_or2 hvv with y | y
      · cases hq : e_hh e.2.2.1 with
        | nil => rw [hq] at hh; exact absurd rfl hh
        | cons q hs =>
          have ecw : e_cw e.2.2.1 = .codeWith (e_mth e.2.2.1) (e_byt e.2.2.1) (e_bud e.2.2.1).2.2 (e_ret e.2.2.1) (q :: hs) := by unfold e_cw; rw [hq]
          rw [ecw] at hcwm hmem
          exact vx_runSX (Ts := e_gw) (hh := q :: hs) ⟨a1, a2, a3, a4, a5⟩ hM ⟨⟨rfl, rfl, hrm.1, hrm.2, hpay, hmem⟩, a5 _ hcwm, a5 _ (e_has_s z3), ⟨v7, v8⟩, hpar _ z1, a5 _ (e_has_s y), a5 _ (e_has_s z2)⟩ ⟨e_Pc_blind, hPre⟩ rfl hAl hlv.1 rfl hWsum q2 hcells
      · obtain ⟨-, y⟩ := e_and2 y
        exact absurd y hh
  · rename_i idx q2
    obtain ⟨z1, hvv⟩ := e_and2 hvv
    obtain ⟨z2, hvv⟩ := e_and2 hvv
    obtain ⟨hh, hvv⟩ := e_and2 hvv
    obtain ⟨z5, z6⟩ := e_and2 hvv
    obtain ⟨y1, y2, y3, y3', y4⟩ := of_decide_eq_true z1
    obtain ⟨a, As', vs, q0, rfl, hw0⟩ := hrecv y3 y3'
    obtain ⟨c1, c2, c3, c4, c5, c6⟩ := hCB hh
    have hcc := hCC hh
    rw [y2] at c6 hcc
    have hAl' : As'.length = e.2.2.2.1 - 1 := by rw [← hAl]; rfl
    have hst : (F0 m e.1 ls ((Value.ref a :: As').reverse ++ rest)).stack = As'.reverse ++ .ref a :: rest := by show (Value.ref a :: As').reverse ++ rest = _; simp
    refine fin ?_
    rcases e_or2 z6 with y | y
    · exact vx_runI (Ts := e_gw) ⟨a1, a2, a3, a4, a5⟩ hM ⟨⟨c1, c2, c3, c4, c5, c6, hcc, a5 _ (e_has_s z3), ⟨v7, v8⟩, hpar _ z2, a5 _ (e_has_s y)⟩, y1, a5 _ (e_has_s z5)⟩ ⟨e_Pc_blind, hPre⟩ rfl hAl' hlv.1 hst hWsum q2 hcells
    · exact vx_runIN (Ts := e_gw) ⟨a1, a2, a3, a4, a5⟩ hM ⟨⟨⟨c1, c2, c3, c4, c5, c6⟩, hcc, a5 _ (e_has_s z3), ⟨v7, v8⟩, hpar _ z2, k7.use (e_hasH_s y) args⟩, y1, a5 _ (e_has_s z5)⟩ ⟨e_Pc_blind, hPre⟩ rfl hAl' hlv.1 hst hWsum q2 hcells
  · rename_i idx q2
    obtain ⟨z1, hvv⟩ := e_and2 hvv
    obtain ⟨z2, hvv⟩ := e_and2 hvv
    obtain ⟨hh, hvv⟩ := e_and2 hvv
    obtain ⟨z5, hvv⟩ := e_and2 hvv
    obtain ⟨z7, z6⟩ := e_and2 hvv
    obtain ⟨a, As', rfl, hrc, y4⟩ : ∃ (a : Nat) (As' : List Value), As = .ref a :: As' ∧ (∃ cell : Cell, H[a]? = some cell ∧ cell.vm.isStatics = false ∧ s.vm.findClass (e_mth e.2.2.1).cls = some cell.cls) ∧ e.2.2.2.1 ≠ 0 := by
      rcases e_or2 z1 with y | y
      · obtain ⟨y1, y2, y3, y4⟩ := of_decide_eq_true y
        have hnc : e_nc ≤ 500 := Nat.le_of_ble_eq_true rfl
        obtain ⟨a, As', vs, q0, rfl, hw0⟩ := hrecv y1 (by omega)
        have hrc := va_recv hK0 hP (e_cl_at y2) hw0
        rw [y3] at hrc
        exact ⟨a, As', rfl, hrc, y4⟩
      · obtain ⟨y1, y3, y4⟩ := of_decide_eq_true y
        obtain ⟨a, As', rfl, hrc⟩ := hrecT y1
        rw [← y3] at hrc
        exact ⟨a, As', rfl, hrc, y4⟩
    obtain ⟨c1, c2, c3, c4, c5, c6⟩ := hCB hh
    have hcc := hCC hh
    have hAl' : As'.length = e.2.2.2.1 - 1 := by rw [← hAl]; rfl
    have hst : (F0 m e.1 ls ((Value.ref a :: As').reverse ++ rest)).stack = As'.reverse ++ .ref a :: rest := by show (Value.ref a :: As').reverse ++ rest = _; simp
    refine fin ?_
    rcases e_or2 z6 with y | y
    · exact vx_runV (Ts := e_gw) ⟨a1, a2, a3, a4, a5⟩ hM ⟨⟨c1, c2, c3, c4, c5, c6, hcc, a5 _ (e_has_s z3), ⟨v7, v8⟩, hpar _ z2, a5 _ (e_has_s y)⟩, a5 _ (e_has_s z5), a5 _ (e_has_s z7)⟩ ⟨e_Pc_blind, hrc, hPre⟩ rfl hAl' hlv.1 hst hWsum q2 hcells
    · exact vx_runVN (Ts := e_gw) ⟨a1, a2, a3, a4, a5⟩ hM ⟨⟨⟨c1, c2, c3, c4, c5, c6⟩, hcc, a5 _ (e_has_s z3), ⟨v7, v8⟩, hpar _ z2, k7.use (e_hasH_s y) args⟩, a5 _ (e_has_s z5), a5 _ (e_has_s z7)⟩ ⟨e_Pc_blind, hrc, hPre⟩ rfl hAl' hlv.1 hst hWsum q2 hcells
  · cases hvv
end
end
section
/-! FLOATS. -/
section
variable {rho : Nat → Int32} {ta : Nat → Nat × Nat} {b L n0 : Nat} {D : va_G} {l : Launch} {n : Nat} {e : e_E} {tl : List e_E} {I : e_N} {loc stk : List e_V} {fs : List e_F} {w : e_W} {iv : e_I}
theorem s_i2f (IH : e_P rho ta b L n0 D l n) (hv : v_plain (decode (e_byt I.1) e.1) .i2f e.1 (e_hpc tl) = true) (h : h_i2f (e_acc n) e tl I loc stk fs w iv = true) : e_GG rho ta b L n0 D l (n + 1) I (e :: tl) loc stk fs w iv := by
  intro N p e' R s m args below meth c H locs ws tys cst ls ads0 hN hF hW hS hL hI hK hA
  obtain ⟨v, st, rfl, h⟩ := e_q1_s (show e_q1 stk (fun v st => cond (Nat.beq v.1 0) (e_acc n I tl loc ((6, (FP.i2f (e_i v.2)).toNat) :: st) fs w iv) false) = true from h)
  obtain ⟨q, h⟩ := e_and h
  obtain ⟨cv, cst', rfl, hvr, hS'⟩ := id hS
  obtain ⟨z1, z2⟩ := v_plain_s hv
  unfold e_VR at hvr
  rw [e_beq q] at hvr
  have hvr : cv = .int (e_i v.2) := hvr
  subst hvr
  exact lv_i2f hF.1 hF.2.1 z1 (e_k IH h (by omega) hF hW ⟨_, _, rfl, by show Value.float _ = .float (UInt32.ofNat _); rw [UInt32.ofNat_toNat], hS'⟩ hL hI (e_suf hK) hA z2)
theorem s_fdiv (IH : e_P rho ta b L n0 D l n) (hv : v_plain (decode (e_byt I.1) e.1) .fdiv e.1 (e_hpc tl) = true) (h : h_fdiv (e_acc n) e tl I loc stk fs w iv = true) : e_GG rho ta b L n0 D l (n + 1) I (e :: tl) loc stk fs w iv := by
  intro N p e' R s m args below meth c H locs ws tys cst ls ads0 hN hF hW hS hL hI hK hA
  obtain ⟨v, u, st, rfl, h⟩ := e_q2_s (show e_q2 stk (fun v u st => cond (cond (Nat.beq v.1 6) (cond (Nat.beq u.1 6) (decide ((FP.fdiv (UInt32.ofNat u.2) (UInt32.ofNat v.2)) &&& 0x7fffffff ≤ 0x7f800000)) false) false) (e_acc n I tl loc ((6, (FP.fdiv (UInt32.ofNat u.2) (UInt32.ofNat v.2)).toNat) :: st) fs w iv) false) = true from h)
  obtain ⟨q, h⟩ := e_and h
  obtain ⟨q1, q⟩ := e_and q
  obtain ⟨q2, q3⟩ := e_and q
  obtain ⟨cv, _, rfl, hvr, cu, cst', rfl, hur, hS'⟩ := id hS
  obtain ⟨z1, z2⟩ := v_plain_s hv
  have := hvr.float (e_beq q1)
  subst this
  have := hur.float (e_beq q2)
  subst this
  have q4 := of_decide_eq_true q3
  exact lv_fdiv hF.1 hF.2.1 z1 q4 (e_k IH h (by omega) hF hW ⟨_, _, rfl, by show Value.float _ = .float (UInt32.ofNat _); rw [UInt32.ofNat_toNat], hS'⟩ hL hI (e_suf hK) hA z2)
theorem s_f2d (IH : e_P rho ta b L n0 D l n) (hv : v_plain (decode (e_byt I.1) e.1) .f2d e.1 (e_hpc tl) = true) (h : h_f2d (e_acc n) e tl I loc stk fs w iv = true) : e_GG rho ta b L n0 D l (n + 1) I (e :: tl) loc stk fs w iv := by
  intro N p e' R s m args below meth c H locs ws tys cst ls ads0 hN hF hW hS hL hI hK hA
  obtain ⟨v, st, rfl, h⟩ := e_q1_s (show e_q1 stk (fun v st => cond (cond (Nat.beq v.1 6) (decide ((FP.f2d (UInt32.ofNat v.2)) &&& 0x7fffffffffffffff ≤ 0x7ff0000000000000)) false) (e_acc n I tl loc ((7, (FP.f2d (UInt32.ofNat v.2)).toNat) :: st) fs w iv) false) = true from h)
  obtain ⟨q, h⟩ := e_and h
  obtain ⟨q1, q3⟩ := e_and q
  obtain ⟨cv, cst', rfl, hvr, hS'⟩ := id hS
  obtain ⟨z1, z2⟩ := v_plain_s hv
  have := hvr.float (e_beq q1)
  subst this
  have q4 := of_decide_eq_true q3
  exact lv_f2d hF.1 hF.2.1 z1 q4 (e_k IH h (by omega) hF hW ⟨_, _, rfl, by show Value.double _ = .double (UInt64.ofNat _); rw [UInt64.ofNat_toNat], hS'⟩ hL hI (e_suf hK) hA z2)
theorem s_dcmp (IH : e_P rho ta b L n0 D l n) (hv : v_plain (decode (e_byt I.1) e.1) (.dcmp .l) e.1 (e_hpc tl) = true) (h : h_dcmp (e_acc n) e tl I loc stk fs w iv = true) : e_GG rho ta b L n0 D l (n + 1) I (e :: tl) loc stk fs w iv := by
  intro N p e' R s m args below meth c H locs ws tys cst ls ads0 hN hF hW hS hL hI hK hA
  obtain ⟨v, u, st, rfl, h⟩ := e_q2_s (show e_q2 stk (fun v u st => cond (cond (Nat.beq v.1 7) (Nat.beq u.1 7) false) (e_acc n I tl loc ((0, e_u (Op.cmpValue (FP.dcmp (UInt64.ofNat u.2) (UInt64.ofNat v.2)) .l)) :: st) fs w iv) false) = true from h)
  obtain ⟨q, h⟩ := e_and h
  obtain ⟨q1, q2⟩ := e_and q
  obtain ⟨cv, _, rfl, hvr, cu, cst', rfl, hur, hS'⟩ := id hS
  obtain ⟨z1, z2⟩ := v_plain_s hv
  have := hvr.double (e_beq q1)
  subst this
  have := hur.double (e_beq q2)
  subst this
  exact lv_dcmp hF.1 hF.2.1 z1 (e_k IH h (by omega) hF hW ⟨_, _, rfl, by show Value.int _ = .int (e_i (e_u _)); rw [e_i_u], hS'⟩ hL hI (e_suf hK) hA z2)
end
end
section
/-! TEXTS and statics. -/
section
variable {rho : Nat → Int32} {ta : Nat → Nat × Nat} {b L n0 : Nat} {D : va_G} {l : Launch} {n : Nat} {e : e_E} {tl : List e_E} {I : e_N} {loc stk : List e_V} {fs : List e_F} {w : e_W} {iv : e_I}
def v_str (d : e_D) (own : String) (t j pc nx : Nat) : Bool := (match e_srs[j]? with
  | some q => (match d with
    | .ok (.ldc k, 2) => decide (q.1 = own ∧ q.2.1 = k) && Nat.beq nx (pc + 2)
    | .ok (.ldc_w k, 3) => decide (q.1 = own ∧ q.2.1 = k) && Nat.beq nx (pc + 3)
    | _ => false)
  | none => false) && Nat.beq t 8
theorem e_ldcwS {p : Program} {e : Env} {R : Room} {s : State} {m : MethodId} {args : Array Value} {below : List Frame} {meth : Method} {c : Code} {H : Heap} {locs : List Loc} {cells slots : Nat} {Q : State → Prop} {cc : ByteArray} {pc : Nat} {ls : Array Slot} {rest : List Value} (hexec : p.tables.exec = Jvm.exec) (hb : c.code = cc) {own tx : String} {index q : Nat} (hown : s.vm.findClass own = some m.cls) (hZ : vk_R own index tx q s) (hdg : decode cc pc = .ok (.ldc_w index, 3))
    (k : W p l e R s m args below meth c H locs cells slots Q (F0 m (pc + 3) ls (.ref q :: rest))) : W p l e R s m args below meth c H locs cells slots Q (F0 m pc ls rest) := by
  intro T hT X
  obtain ⟨t, a1, b1⟩ := k T hT X
  exact ⟨t, X.ldcStringW hexec hown (text := tx) (a := q) hZ.1 hZ.2 (g := F0 m pc ls rest) rfl (by rw [hb]; exact hdg) t a1, b1⟩
theorem s_str (IH : e_P rho ta b L n0 D l n) (hv : v_str (decode (e_byt I.1) e.1) (e_own I.1) e.2.2.1 e.2.2.2.1 e.1 (e_hpc tl) = true) (h : h_const (e_acc n) e tl I loc stk fs w iv = true) : e_GG rho ta b L n0 D l (n + 1) I (e :: tl) loc stk fs w iv := by
  intro N p e' R s m args below meth c H locs ws tys cst ls ads0 hN hF hW hS hL hI hK hA
  have h : e_acc n I tl loc ((e.2.2.1, e.2.2.2.1) :: stk) fs w iv = true := h
  obtain ⟨k1, k2, k3, k4, k5, k6, k7⟩ := hF.rooms
  have hown := hF.2.2.2.1
  obtain ⟨hv, h8⟩ := e_and2 hv
  have h8 := e_beq h8
  show W p l e' R s m args below meth c H locs I.2.2.1 I.2.2.2.1 _ (F0 m e.1 ls cst)
  unfold v_str at *
  split at hv
  · rename_i q hq
    have hR := (k7.2.2.2.1 _ q hq).1
    have hlt : e.2.2.2.1 < e_srs.length := (List.getElem?_eq_some_iff.mp hq).1
    split at hv
    · rename_i idx q2
      obtain ⟨z1, z2⟩ := e_and2 hv
      obtain ⟨y1, y2⟩ := of_decide_eq_true z1
      rw [y1, y2] at hR
      exact va_ldcS hF.1 hF.2.1 hown hR q2 (e_k IH h (by omega) hF hW ⟨_, _, rfl, by rw [h8]; exact ⟨rfl, hlt⟩, hS⟩ hL hI (e_suf hK) hA (e_beq z2))
    · rename_i idx q2
      obtain ⟨z1, z2⟩ := e_and2 hv
      obtain ⟨y1, y2⟩ := of_decide_eq_true z1
      rw [y1, y2] at hR
      exact e_ldcwS hF.1 hF.2.1 hown hR q2 (e_k IH h (by omega) hF hW ⟨_, _, rfl, by rw [h8]; exact ⟨rfl, hlt⟩, hS⟩ hL hI (e_suf hK) hA (e_beq z2))
    · cases hv
  · cases hv
def v_gets (d : e_D) (own : String) (t v h pc nx : Nat) : Bool := match t, d with
  | 0, .ok (.getstatic i, 3) => (Nat.beq v 1 && e_has h (.fieldLink own i "java/lang/String" "COMPACT_STRINGS" "Z")) && Nat.beq nx (pc + 3)
  | 5, .ok (.getstatic i, 3) => e_has h (.fieldLink own i "jdk/internal/util/Preconditions" "SIOOBE_FORMATTER" "Ljava/util/function/BiFunction;") && Nat.beq nx (pc + 3)
  | _, _ => false
theorem s_gets (IH : e_P rho ta b L n0 D l n) {hh : Nat} (hv : v_gets (decode (e_byt I.1) e.1) (e_own I.1) e.2.2.1 e.2.2.2.1 hh e.1 (e_hpc tl) = true) (h : h_const (e_acc n) e tl I loc stk fs w iv = true) : e_GG rho ta b L n0 D l (n + 1) I (e :: tl) loc stk fs w iv := by
  intro N p e' R s m args below meth c H locs ws tys cst ls ads0 hN hF hW hS hL hI hK hA
  have h : e_acc n I tl loc ((e.2.2.1, e.2.2.2.1) :: stk) fs w iv = true := h
  obtain ⟨k1, k2, k3, k4, k5, k6, k7⟩ := hF.rooms
  have hown := hF.2.2.2.1
  have hts := hF.2.2.2.2.1
  obtain ⟨hZ, hZq⟩ := k7.2.2.2.2.2.2.2.2
  have hSS := hW.2.2.2.1
  show W p l e' R s m args below meth c H locs I.2.2.1 I.2.2.2.1 _ (F0 m e.1 ls cst)
  unfold v_gets at hv
  split at hv
  · rename_i idx q1 q2
    obtain ⟨z1, z2⟩ := e_and2 hv
    obtain ⟨z1, z3⟩ := e_and2 z1
    have z1 := e_beq z1
    exact va_gets hF.1 hF.2.1 hZ hSS hown (hts _ (e_has_s z3)) (fun _ h9 => h9) q2 (e_k IH h (by omega) hF hW ⟨_, _, rfl, by rw [q1, z1]; exact rfl, hS⟩ hL hI (e_suf hK) hA (e_beq z2))
  · rename_i idx q1 q2
    obtain ⟨z1, z2⟩ := e_and2 hv
    rcases hZq with hZq | ⟨t, hZq⟩
    · exact va_gets hF.1 hF.2.1 hZq hSS hown (hts _ (e_has_s z1)) (fun _ h9 => h9) q2 (e_k IH h (by omega) hF hW ⟨_, _, rfl, by rw [q1]; exact Or.inl rfl, hS⟩ hL hI (e_suf hK) hA (e_beq z2))
    · exact va_gets hF.1 hF.2.1 hZq hSS hown (hts _ (e_has_s z1)) (fun _ h9 => h9) q2 (e_k IH h (by omega) hF hW ⟨_, _, rfl, by rw [q1]; exact Or.inr ⟨t, rfl⟩, hS⟩ hL hI (e_suf hK) hA (e_beq z2))
  · cases hv
def v_tget (d : e_D) (own : String) (a h pc nx : Nat) : Bool := match a, d with
  | 0, .ok (.getfield i, 3) => e_has h (.fieldLink own i "java/lang/String" "value" "[B") && Nat.beq nx (pc + 3)
  | 1, .ok (.getfield i, 3) => e_has h (.fieldLink own i "java/lang/String" "coder" "B") && Nat.beq nx (pc + 3)
  | _, _ => false
theorem s_tget (IH : e_P rho ta b L n0 D l n) {hh : Nat} (hv : v_tget (decode (e_byt I.1) e.1) (e_own I.1) e.2.2.1 hh e.1 (e_hpc tl) = true) (h : h_tget (e_acc n) e tl I loc stk fs w iv = true) : e_GG rho ta b L n0 D l (n + 1) I (e :: tl) loc stk fs w iv := by
  intro N p e' R s m args below meth c H locs ws tys cst ls ads0 hN hF hW hS hL hI hK hA
  obtain ⟨v, st, rfl, h⟩ := e_q1_s (show e_q1 stk (fun v st => cond (Nat.beq v.1 8) (e_acc n I tl loc (cond (Nat.beq e.2.2.1 0) (9, v.2) (0, 0) :: st) fs w iv) false) = true from h)
  obtain ⟨q, h⟩ := e_and h
  obtain ⟨cv, cst', rfl, hvr, hS'⟩ := id hS
  unfold e_VR at hvr
  rw [e_beq q] at hvr
  obtain ⟨rfl, hlt⟩ := hvr
  obtain ⟨k1, k2, k3, k4, k5, k6, k7⟩ := hF.rooms
  have hown := hF.2.2.2.1
  have hts := hF.2.2.2.2.1
  obtain ⟨t1, t2, t3, t4⟩ := (k7.2.2.2.1 v.2 _ (List.getElem?_eq_getElem hlt)).2.1 0 Nat.zero_lt_one
  have hSS := hW.2.2.2.1
  show W p l e' R s m args below meth c H locs I.2.2.1 I.2.2.2.1 _ (F0 m e.1 ls (.ref (ta v.2).1 :: cst'))
  unfold v_tget at hv
  split at hv
  · rename_i idx q1 q2
    obtain ⟨z1, z2⟩ := e_and2 hv
    rw [q1] at h
    exact vk_getf hF.1 hF.2.1 t3 hSS hown (hts _ (e_has_s z1)) (fun _ h9 => h9) q2 (e_k IH h (by omega) hF hW ⟨_, _, rfl, ⟨rfl, hlt⟩, hS'⟩ hL hI (e_suf hK) hA (e_beq z2))
  · rename_i idx q1 q2
    obtain ⟨z1, z2⟩ := e_and2 hv
    rw [q1] at h
    exact vk_getf hF.1 hF.2.1 t2 hSS hown (hts _ (e_has_s z1)) (fun _ h9 => h9) q2 (e_k IH h (by omega) hF hW ⟨_, _, rfl, rfl, hS'⟩ hL hI (e_suf hK) hA (e_beq z2))
  · cases hv
theorem s_tlen (IH : e_P rho ta b L n0 D l n) (hv : v_plain (decode (e_byt I.1) e.1) .arraylength e.1 (e_hpc tl) = true) (h : h_tlen (e_acc n) e tl I loc stk fs w iv = true) : e_GG rho ta b L n0 D l (n + 1) I (e :: tl) loc stk fs w iv := by
  intro N p e' R s m args below meth c H locs ws tys cst ls ads0 hN hF hW hS hL hI hK hA
  obtain ⟨v, st, rfl, h⟩ := e_q1_s (show e_q1 stk (fun v st => cond (Nat.beq v.1 9) (e_acc n I tl loc ((0, (e_tx v.2).length) :: st) fs w iv) false) = true from h)
  obtain ⟨q, h⟩ := e_and h
  obtain ⟨cv, cst', rfl, hvr, hS'⟩ := id hS
  obtain ⟨z1, z2⟩ := v_plain_s hv
  unfold e_VR at hvr
  rw [e_beq q] at hvr
  obtain ⟨rfl, hlt⟩ := hvr
  obtain ⟨k1, k2, k3, k4, k5, k6, k7⟩ := hF.rooms
  obtain ⟨t1, t2, t3, t4⟩ := (k7.2.2.2.1 v.2 _ (List.getElem?_eq_getElem hlt)).2.1 0 Nat.zero_lt_one
  exact va_tlen hF.1 hF.2.1 t4 hW.2.2.2.1 rfl z1 (e_k IH h (by omega) hF hW ⟨_, _, rfl, rfl, hS'⟩ hL hI (e_suf hK) hA z2)
theorem e_ov_s (l : List Nat) (k : Nat) (h : k < l.length) : (l.map e_i).getD k 0 = e_i (e_ov l k) := by
  induction l generalizing k with
  | nil => simp at h
  | cons a t ih =>
    cases k with
    | zero => rfl
    | succ k => exact ih k (by simpa using h)
theorem s_tald (hTx : ∀ j, (e_tx j).length ≤ 1000) (IH : e_P rho ta b L n0 D l n) (hv : v_plain (decode (e_byt I.1) e.1) .baload e.1 (e_hpc tl) = true) (h : h_tald (e_acc n) e tl I loc stk fs w iv = true) : e_GG rho ta b L n0 D l (n + 1) I (e :: tl) loc stk fs w iv := by
  intro N p e' R s m args below meth c H locs ws tys cst ls ads0 hN hF hW hS hL hI hK hA
  obtain ⟨v, u, st, rfl, h⟩ := e_q2_s (show e_q2 stk (fun v u st => e_con iv v (fun n' => cond (Nat.beq u.1 9) (cond (Nat.ble (Nat.succ n') (e_tx u.2).length) (e_acc n I tl loc ((0, e_ov (e_tx u.2) n') :: st) fs w iv) false) false) (e_sp (e_acc n) (e :: tl) I loc stk fs w iv)) = true from h)
  obtain ⟨cv, _, rfl, hvr, cu, cst', rfl, hur, hS'⟩ := id hS
  obtain ⟨z1, z2⟩ := v_plain_s hv
  rcases (e_con_s hI hvr h).symm with h | ⟨k, rfl, h⟩
  · exact e_again IH (fun _ _ => h) N p e' R s m args below meth c H locs ws tys _ ls ads0 hN hF hW hS hL hI hK hA
  obtain ⟨q, h⟩ := e_and h
  obtain ⟨y, h⟩ := e_and h
  have y := e_ble y
  unfold e_VR at hur
  rw [e_beq q] at hur
  obtain ⟨rfl, hlt⟩ := hur
  obtain ⟨k1, k2, k3, k4, k5, k6, k7⟩ := hF.rooms
  obtain ⟨t1, t2, t3, t4⟩ := (k7.2.2.2.1 u.2 _ (List.getElem?_eq_getElem hlt)).2.1 0 Nat.zero_lt_one
  have hle := hTx u.2
  have hkc : (e_i k).toNatClampNeg = k := nI_clamp (by omega)
  exact va_tb (v := .int (e_i (e_ov (e_tx u.2) k))) hF.1 hF.2.1 t4 hW.2.2.2.1 (nI_in (show k < (e_tx u.2).length by omega) (show (e_tx u.2).length < 2 ^ 31 by omega)) (by rw [hkc]; show Value.int (((e_tx u.2).map e_i).getD k 0) = _; rw [e_ov_s _ _ (by omega)]) z1 (e_k IH h (by omega) hF hW ⟨_, _, rfl, rfl, hS'⟩ hL hI (e_suf hK) hA z2)
end
end
section
/-! EVERY STEP IS SOUND: what is checked of each entry of the tables, and the machine's soundness from it. -/
/-- what is checked of an entry, with the places of its words -/
noncomputable def v_ent (j : Nat) (e : e_E) (tl : List e_E) (gs : List Nat) : Bool := match e.2.1 with
  | 0 => true
  | 1 => v_load (decode (e_byt j) e.1) e.2.2.2.1 e.2.2.1 e.1 (e_hpc tl)
  | 2 => v_const (decode (e_byt j) e.1) (e_own j) e.2.2.1 e.2.2.2.1 (gs.getD 0 0) e.1 (e_hpc tl)
  | 3 => v_goto (decode (e_byt j) e.1) e.1 (e_hpc (e_jmp (e_pg j) tl e.2.2.2.2))
  | 4 => v_iinc (decode (e_byt j) e.1) (e_bud j).2.2 e.2.2.1 e.2.2.2.1 e.1 (e_hpc tl)
  | 5 => v_retv (decode (e_byt j) e.1) (e_ret j)
  | 6 => v_throw (e_byt j) (e_own j) (e_hh j) e.2.2.1 e.1 (gs.getD 0 0) (gs.getD 1 0) (gs.getD 2 0) (gs.drop 3)
  | 7 => v_new (decode (e_byt j) e.1) (e_own j) e.2.2.1 e.2.2.2.1 (gs.getD 0 0) e.1 (e_hpc tl)
  | 8 => Nat.ble 1 e.2.2.1 && (Nat.ble (Nat.succ e.2.2.1) e_nm && v_call (decode (e_byt j) e.1) (e_own j) (e_host j) e.2.2.1 e.2.2.2.1 e.2.2.2.2 e.1 (e_hpc tl) (gs.getD 0 0) (gs.getD 1 0) (gs.getD 2 0) (gs.getD 3 0))
  | 9 => v_store (decode (e_byt j) e.1) e.2.2.2.1 e.2.2.1 (e_bud j).2.2 e.1 (e_hpc tl)
  | 10 => v_if (decode (e_byt j) e.1) e.2.2.1 e.1 (e_hpc (e_jmp (e_pg j) tl e.2.2.2.2)) (e_hpc tl)
  | 11 => v_get (decode (e_byt j) e.1) (e_own j) (e_host j) e.2.2.1 e.2.2.2.1 (gs.getD 0 0) e.1 (e_hpc tl)
  | 12 => v_plain (decode (e_byt j) e.1) .arraylength e.1 (e_hpc tl)
  | 13 => v_ret (decode (e_byt j) e.1) e.2.2.1 e.2.2.2.1 (e_ret j)
  | 14 => v_newa (decode (e_byt j) e.1) (e_own j) e.2.2.1 (gs.getD 0 0) (gs.getD 1 0) e.1 (e_hpc tl)
  | 15 => v_ifn (decode (e_byt j) e.1) e.2.2.1 e.1 (e_hpc (e_jmp (e_pg j) tl e.2.2.2.2)) (e_hpc tl)
  | 16 => v_icmp (decode (e_byt j) e.1) e.2.2.1 e.1 (e_hpc (e_jmp (e_pg j) tl e.2.2.2.2)) (e_hpc tl)
  | 17 => v_ib (decode (e_byt j) e.1) e.2.2.1 e.1 (e_hpc tl)
  | 18 => v_ald (decode (e_byt j) e.1) e.2.2.1 e.1 (e_hpc tl)
  | 19 => v_put (decode (e_byt j) e.1) (e_own j) (e_host j) (e_ini j) e.2.2.1 e.2.2.2.1 e.2.2.2.2 (gs.getD 0 0) e.1 (e_hpc tl)
  | 20 => v_plain (decode (e_byt j) e.1) .dup e.1 (e_hpc tl)
  | 21 => v_plain (decode (e_byt j) e.1) .pop e.1 (e_hpc tl)
  | 22 => v_plain (decode (e_byt j) e.1) .i2l e.1 (e_hpc tl)
  | 23 => v_plain (decode (e_byt j) e.1) .l2i e.1 (e_hpc tl)
  | 24 => v_tsw (decode (e_byt j) e.1) e.2.2.1 e.2.2.2.1 e.1 (fun k => e_hpc (e_jmp (e_pg j) tl (e_ov (e_ovr e.2.2.2.2) k)))
  | 25 => v_objinit (decode (e_byt j) e.1) (e_own j) (gs.getD 0 0) (gs.getD 1 0) (gs.getD 2 0) e.1 (e_hpc tl)
  | 26 => v_lb (decode (e_byt j) e.1) e.2.2.1 e.1 (e_hpc tl)
  | 27 => v_ls (decode (e_byt j) e.1) e.2.2.1 e.1 (e_hpc tl)
  | 28 => v_plain (decode (e_byt j) e.1) .lcmp e.1 (e_hpc tl)
  | 29 => v_acmp (decode (e_byt j) e.1) e.1 (e_hpc (e_jmp (e_pg j) tl e.2.2.2.2)) (e_hpc tl)
  | 30 => v_ast (decode (e_byt j) e.1) e.2.2.1 e.1 (e_hpc tl)
  | 31 => v_plain (decode (e_byt j) e.1) .dup2 e.1 (e_hpc tl)
  | 32 => v_gets (decode (e_byt j) e.1) (e_own j) e.2.2.1 e.2.2.2.1 (gs.getD 0 0) e.1 (e_hpc tl)
  | 33 => v_acopy (decode (e_byt j) e.1) (e_own j) (gs.getD 0 0) (gs.getD 1 0) (gs.getD 2 0) (gs.getD 3 0) e.1 (e_hpc tl)
  | 34 => v_str (decode (e_byt j) e.1) (e_own j) e.2.2.1 e.2.2.2.1 e.1 (e_hpc tl)
  | 35 => v_plain (decode (e_byt j) e.1) .i2c e.1 (e_hpc tl)
  | 36 => v_plain (decode (e_byt j) e.1) .i2f e.1 (e_hpc tl)
  | 37 => v_plain (decode (e_byt j) e.1) .fdiv e.1 (e_hpc tl)
  | 38 => v_plain (decode (e_byt j) e.1) .f2d e.1 (e_hpc tl)
  | 39 => v_plain (decode (e_byt j) e.1) (.dcmp .l) e.1 (e_hpc tl)
  | 40 => v_tget (decode (e_byt j) e.1) (e_own j) e.2.2.1 (gs.getD 0 0) e.1 (e_hpc tl)
  | 41 => v_plain (decode (e_byt j) e.1) .arraylength e.1 (e_hpc tl)
  | 42 => v_plain (decode (e_byt j) e.1) .baload e.1 (e_hpc tl)
  | 43 => v_astq (decode (e_byt j) e.1) e.2.2.1 e.1 (e_hpc tl)
  | _ => false
section
variable {rho : Nat → Int32} {ta : Nat → Nat × Nat} {b L n0 : Nat} {D : va_G} {l : Launch}
theorem e_main (hl : l.stackTraces = false) (hL6 : L ≤ 6) (hr : rho 6 = rho 0 &&& 63) (hCO : e_CO) (hTx : ∀ j, (e_tx j).length ≤ 1000) (hcast : ∀ k, k < 4 → Cond.castable (e_ex k) (e_ex k) ∈ e_hot) (hVM : ∀ j, j < e_nm → v_meth j = true) (hCW : ∀ j, 0 < j → j < e_nm → e_cw j ∈ e_gw) (hVH : ∀ j, j < e_nm → ∃ gs, v_hnd (e_own j) (e_pg j) (e_hn j) (e_hh j) gs = true)
    (hV : ∀ j, j < e_nm → ∀ k e tl, (e_pg j).drop k = e :: tl → ∃ gs, v_ent j e tl gs = true) : ∀ n, e_P rho ta b L n0 D l n := by
  intro n
  induction n using Nat.strongRecOn with
  | _ n ih =>
    cases n with
    | zero => intro I cod loc stk fs w iv h; cases h
    | succ n =>
      intro I cod loc stk fs w iv h
      cases cod with
      | nil => cases h
      | cons e tl =>
        intro N p e' R s m args below meth c H locs ws tys cst ls ads0 hN hF hW hS hL hI hK hA
        have hj : I.1 < e_nm := hF.2.2.2.2.2.2.2.2.2.2.1
        have hpg : I.2.1 = e_pg I.1 := hF.2.2.2.2.2.2.2.2.2.1
        have IHs : ∀ n', n' ≤ n → e_P rho ta b L n0 D l n' := fun n' hn' => ih n' (by omega)
        have IH := IHs n (Nat.le_refl n)
        have hK2 := hK
        obtain ⟨k, hk⟩ := hK2
        obtain ⟨gs, hv⟩ := hV I.1 hj k e tl hk.symm
        have h : (e_sel e.2.1).2 (e_acc n) e tl I loc stk fs w iv = true := h
        refine (show e_GG rho ta b L n0 D l (n + 1) I (e :: tl) loc stk fs w iv from ?_) N p e' R s m args below meth c H locs ws tys cst ls ads0 hN hF hW hS hL hI hK hA
        unfold v_ent at hv
        split at hv
        · rename_i q; rw [q] at h; cases h
        · rename_i q; rw [q] at h; exact s_load IH hv h
        · rename_i q; rw [q] at h; exact s_const IH hv h
        · rename_i q; rw [q] at h; rw [← hpg] at hv; exact s_goto IH hv h
        · rename_i q; rw [q] at h; exact s_iinc IH hv h
        · rename_i q; rw [q] at h; exact s_retv hv h
        · rename_i q; rw [q] at h; exact s_throw hv h
        · rename_i q; rw [q] at h; exact s_new hCO IH hv h
        · rename_i q
          rw [q] at h
          obtain ⟨hv0, hv⟩ := e_and2 hv
          obtain ⟨hv1, hv2⟩ := e_and2 hv
          obtain ⟨gs2, hvh⟩ := hVH I.1 hj
          exact s_call hl IHs hcast hvh (hVM _ (e_ble hv1)) (hCW _ (e_ble hv0) (e_ble hv1)) hv2 h
        · rename_i q; rw [q] at h; exact s_store IH hv h
        · rename_i q; rw [q] at h; rw [← hpg] at hv; exact s_if IH hv h
        · rename_i q; rw [q] at h; exact s_get hCO IH hv h
        · rename_i q; rw [q] at h; exact s_alen IH hv h
        · rename_i q; rw [q] at h; exact s_ret hv h
        · rename_i q; rw [q] at h; exact s_newa IH hv h
        · rename_i q; rw [q] at h; rw [← hpg] at hv; exact s_ifn IH hv h
        · rename_i q; rw [q] at h; rw [← hpg] at hv; exact s_icmp IH hv h
        · rename_i q; rw [q] at h; exact s_ibin hr IH hv h
        · rename_i q; rw [q] at h; exact s_ald hL6 IH hv h
        · rename_i q; rw [q] at h; exact s_put hCO IH hv h
        · rename_i q; rw [q] at h; exact s_dup IH hv h
        · rename_i q; rw [q] at h; exact s_pop IH hv h
        · rename_i q; rw [q] at h; exact s_i2l IH hv h
        · rename_i q; rw [q] at h; exact s_l2i IH hv h
        · rename_i q; rw [q] at h; rw [← hpg] at hv; exact s_tsw IH hv h
        · rename_i q; rw [q] at h; exact s_objinit IH hv h
        · rename_i q; rw [q] at h; exact s_lbin IH hv h
        · rename_i q; rw [q] at h; exact s_lsh IH hv h
        · rename_i q; rw [q] at h; exact s_lcmp IH hv h
        · rename_i q; rw [q] at h; rw [← hpg] at hv; exact s_acmp IH hv h
        · rename_i q; rw [q] at h; exact s_ast IH hv h
        · rename_i q; rw [q] at h; exact s_dup2 IH hv h
        · rename_i q; rw [q] at h; exact s_gets IH hv h
        · rename_i q; rw [q] at h; exact s_acopy IH hv h
        · rename_i q; rw [q] at h; exact s_str IH hv h
        · rename_i q; rw [q] at h; exact s_i2c IH hv h
        · rename_i q; rw [q] at h; exact s_i2f IH hv h
        · rename_i q; rw [q] at h; exact s_fdiv IH hv h
        · rename_i q; rw [q] at h; exact s_f2d IH hv h
        · rename_i q; rw [q] at h; exact s_dcmp IH hv h
        · rename_i q; rw [q] at h; exact s_tget IH hv h
        · rename_i q; rw [q] at h; exact s_tlen IH hv h
        · rename_i q; rw [q] at h; exact s_tald hTx IH hv h
        · rename_i q; rw [q] at h; exact s_astq IH hv h
        · cases hv
end
end
section
theorem i_vc : Claimed_1_1 ∧ Claimed_1_2 := sorry
end
