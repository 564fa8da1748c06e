section
/-! ===== BEGIN words of one list among another's, by their places ===== -/
theorem goodIn_r {big : List Cond} (ws : List Cond) (ps : List Nat) (hp : ws = ps.filterMap (fun i => big[i]?)) (h : ws.all goodWord = true) : GoodIn big ws := by
  intro w hw
  have h1 := List.all_eq_true.mp h w hw
  rw [hp] at hw
  obtain ⟨i, -, hi⟩ := List.mem_filterMap.mp hw
  have hm : w ∈ big := by first | exact List.mem_of_getElem? hi | exact List.getElem?_mem hi
  exact ⟨hm, good_of_word h1⟩
theorem goodIn_app {big a b : List Cond} (ha : GoodIn big a) (hb : GoodIn big b) : GoodIn big (a ++ b) := fun w h => (List.mem_append.mp h).elim (ha w) (hb w)
theorem goodIn_ca {big a b : List Cond} {c : Cond} (ha : GoodIn big (c :: a)) (hb : GoodIn big b) : GoodIn big (c :: (a ++ b)) := fun w h => (List.mem_cons.mp h).elim (fun e => ha w (List.mem_cons.mpr (Or.inl e))) (fun h => (List.mem_append.mp h).elim (fun h => ha w (List.mem_cons.mpr (Or.inr h))) (hb w))
theorem goodIn_sub {big ws : List Cond} (hm : ∀ w ∈ ws, w ∈ big) (h : ws.all goodWord = true) : GoodIn big ws := fun w hw => ⟨hm w hw, good_of_word (List.all_eq_true.mp h w hw)⟩
/-! ===== END ===== -/
/-! ===== BEGIN exceptions that leave a method, and their catching by the caller (launches without stack traces) ===== -/
section VXA
/-! The laws vx_back, vx_callV, vx_callS, vx_callSW, vx_throw0, vx_throwS follow proofs of the library, with one case more: JvmDerived/Free/Laws.lean (Back.of_free), Shelf42/LK1.lean (callV, callS), Shelf/KitTraced.lean (throwNew0V, throwNewS). -/
/-- where a method has thrown q: the class by its name, the cell, what was written, the world -/
def vx_T (XC : String → State → State → Prop) (st : State) (q : Addr) (t : State) (mc ms : Nat) (free : Addr → Prop) : Prop :=
  ∃ (E : String) (ce : Cell) (L : List Loc), XC E st t ∧ t.heap[q]? = some ce ∧ ce.vm = .none ∧ st.vm.findClass E = some ce.cls ∧ st.WarmedH t.vm ∧ st.sameButNew ({ t with vm := st.vm } : State) L mc ms ∧ ∀ z ∈ L, free z.base
def vx_Q (Qc : Array Value → State → Outcome → State → Prop) (XC : String → State → State → Prop) (mc ms : Nat) (free : Addr → Prop) : Array Value → State → Outcome → State → Prop := fun a st o t =>
  (Qc a st o t ∧ ∃ L, FrameEnd st o t L mc ms ∧ ∀ q ∈ L, free q.base) ∨ ∃ q, o = .threw q ∧ vx_T XC st q t mc ms free
/-- a callee that returns or throws -/
def vx_Met (l : Launch) (y : MethodName) (ws : List Cond) (rm : Room) (Pc : Array Value → State → Prop) (Qc : Array Value → State → Outcome → State → Prop) (XC : String → State → State → Prop) (mc ms : Nat) (free : Addr → Prop) : Prop :=
  MetFree l y (headSpec ws rm) Pc (fun _ _ _ _ _ => True) (vx_Q Qc XC mc ms free)
def vx_Post (XC : String → State → State → Prop) (mc ms : Nat) (free : Addr → Prop) : Pt → Array Value → Addr → Pt → Prop := fun A a q B =>
  ∃ (g : JFrame) (mk : MethodId) (t : State) (L : List Loc) (E : String) (ce : Cell), B.U.heap = t.heap ∧ B.U.vm = t.vm ∧ XC E (A.U.calling g mk a) t ∧ t.heap[q]? = some ce ∧ ce.vm = .none ∧ A.U.vm.findClass E = some ce.cls ∧ B.locs = A.locs ++ L ∧ (∀ z ∈ L, free z.base) ∧ B.cells = A.cells + mc ∧ B.slots = A.slots + ms
def vx_Back (l : Launch) (R : Room) (p : Program) (e : Env) (below : List Frame) (s : State) (sargs : Array Value) (y : MethodName) (len W9 : Nat)
    (Pre : Pt → Array Value → Prop) (Post : Pt → Array Value → Option Value → Pt → Prop) (PostX : Pt → Array Value → Addr → Pt → Prop) : Prop :=
  ∀ (m : MethodId) (meth : Method) (c : Code) (A : Pt) (g : JFrame) (ig : Instr) (mk : MethodId) (a : Array Value),
    Stand p l e R s m sargs below meth c A.U A.locs A.cells A.slots → g.method = m → g.locals.size = c.maxLocals → decode c.code g.pc = .ok (ig, len) →
    2 * g.monitorRoom + (g.stack.map fun v => v.category).sum ≤ W9 → A.U.methodNamed? y = some mk → Pre A a →
    (∃ (v : Option Value) (B : Pt), Stand p l e R s m sargs below meth c B.U B.locs B.cells B.slots ∧ Post A a v B ∧
      Steps p.tables e below (doInvoke e (A.U.setTop g) [] mk a).1 (B.U.setTop { g with pc := g.pc + len, stack := v.toList ++ g.stack })) ∨
    (∃ (q : Addr) (B : Pt), Stand p l e R s m sargs below meth c B.U B.locs B.cells B.slots ∧ PostX A a q B ∧
      Steps p.tables e below (doInvoke e (A.U.setTop g) [] mk a).1 ((B.U.setTop g).pushFrame (.throwing q)))
section Payer
variable {l : Launch} {R : Room} {p : Program} {e : Env} {below : List Frame} {s : State} {sargs : Array Value} {y : MethodName} {len W9 : Nat}
theorem vx_back {ws : List Cond} {rm : Room} {Pc : Array Value → State → Prop} {Qc : Array Value → State → Outcome → State → Prop} {XC : String → State → State → Prop} {mc ms : Nat} {free : Addr → Prop} {bytes : ByteArray} {maxL : Nat} {ret : Option FieldType}
    (hM : vx_Met l y ws rm Pc Qc XC mc ms free) (hblind : FrameBlind Pc) (hrc : rm.cells = mc) (hrs : rm.slots = ms)
    (hframes : rm.frames + 1 ≤ R.frames) (hlocals : W9 + (maxL + 11) + rm.locals ≤ R.locals)
    (hws : ∀ w ∈ ws, ∀ a' U, s.WarmedH U.vm → w.before a' U = true) (hcode : Cond.code y bytes maxL ret ∈ ws) (hinit : ∀ a' U, s.WarmedH U.vm → (Cond.initialized y.cls).before a' U = true) :
    vx_Back l R p e below s sargs y len W9 (PreOf R mc ms Pc) (PostOf Qc mc ms free) (vx_Post XC mc ms free) := by
  intro m meth c A g ig mk a X hg hsize hdg hW hn hp
  have h1 : (headSpec ws rm).pre.before a A.U = true := atoms_intro fun w hw => hws w hw _ _ X.warmed
  have h2 : (Cond.code y bytes maxL ret).before a A.U = true := hws _ hcode _ _ X.warmed
  have h3 : (Cond.initialized y.cls).before a A.U = true := hinit _ _ X.warmed
  have h4 : A.cells + (headSpec ws rm).room.cells ≤ R.cells := by rw [show (headSpec ws rm).room.cells = mc from hrc]; exact hp.1
  have h5 : A.slots + (headSpec ws rm).room.slots ≤ R.slots := by rw [show (headSpec ws rm).room.slots = ms from hrs]; exact hp.2.1
  have hPc : Pc a (A.U.calling g mk a) := hblind _ _ _ _ hp.2.2
  obtain ⟨U, Ls, c0, s0⟩ := A
  dsimp only [Pt.U, Pt.locs, Pt.cells, Pt.slots] at h1 h2 h3 h4 h5 X hn hPc ⊢
  obtain ⟨methY, cY, hmY, hcY, -, hlY, -, -, -, -⟩ := Cond.code_spec hn h2
  obtain ⟨kY, hkY, -⟩ := className_of_methodNamed hn
  have hinitY : kY.init = .initialized := Cond.initialized_spec (findClass_of_methodNamed hn) hkY h3
  have h : At U g.method c below := by rw [hg]; exact X.here
  have hlocals9 : W9 + (maxL + 11) + (headSpec ws rm).room.locals ≤ R.locals := hlocals
  have happ : (headSpec ws rm).appliesLoose y e.platform (U.calling g mk a) = true :=
    Spec.appliesLoose_calling (g := g) h hdg hn hkY hinitY
      (X.room_calling (g := g) (R' := (headSpec ws rm).room) hsize hmY hcY hframes (by rw [hlY]; omega) h4 h5) h1
  obtain ⟨mid, hmid⟩ := h.above
  have hfr : (U.setTop g).frames = (.java g :: mid) ++ below := by rw [State.frames_setTop' g h.top, hmid]; rfl
  obtain ⟨o, s₂, hsteps, -, hend, hq⟩ := Steps.callFree hM p X.admits X.cas X.clock (acts := []) hfr happ hPc trivial
  have hq' : vx_Q Qc XC mc ms free a (U.calling g mk a) o s₂ := hq
  rw [State.frames_setTop' g h.top] at hend
  obtain ⟨g₀, hg0⟩ := Option.isSome_iff_exists.mp h.top
  obtain ⟨r, hr⟩ := State.topJava?_eq_some.mp hg0
  have hr' : (({ U with heap := s₂.heap, slotsUsed := s₂.slotsUsed } : State).setVm s₂.vm).frames = .java g₀ :: r := hr
  rcases hq' with ⟨hqc, L, hfe, hL⟩ | ⟨q, rfl, E, ce, L, hx, hce, hcv, hcl, hW₂, hsm, hL⟩
  · obtain ⟨⟨v, rfl⟩, hW₂, e2, q2, q3, q4, q5, q6⟩ := id hfe
    have e3 : s₂ = ({ (U.calling g mk a).setFrames s₂.frames with heap := s₂.heap, slotsUsed := s₂.slotsUsed } : State).setVm s₂.vm := by
      have : s₂ = ({ s₂ with vm := (U.calling g mk a).vm } : State).setVm s₂.vm := rfl
      rw [e2] at this
      exact this
    obtain ⟨c₂, i₂, len₂, hc₂, hd₂, hf₂⟩ := hend
    have hW' : U.WarmedH s₂.vm := hW₂
    have hcc : c₂ = c := by
      have h1 : s₂.code? g.method = U.code? g.method := by
        rw [State.code?_eq, State.code?_eq, hW'.alike.method?]
      exact Option.some.inj (hc₂.symm.trans (h1.trans h.code))
    subst hcc
    have hlen : len₂ = len := by rw [hdg] at hd₂; cases hd₂; rfl
    subst hlen
    have hs₂ : s₂ = (({ U with heap := s₂.heap, slotsUsed := s₂.slotsUsed } : State).setVm s₂.vm).setTop { g with pc := g.pc + len₂, stack := v.toList ++ g.stack } := by
      refine e3.trans ?_
      rw [hf₂, State.calling_eq h.top, State.setFrames_setFrames, State.setTop_of_frames _ hr', hr]
      rfl
    have hsame : U.sameButNew ({ U with heap := s₂.heap, slotsUsed := s₂.slotsUsed } : State) L mc ms := by
      refine ⟨?_, q2, q3, q4, q5, q6⟩
      obtain ⟨t, ht, -⟩ := State.frames_cons hr
      show ({ U with heap := s₂.heap, slotsUsed := s₂.slotsUsed } : State) = { U.setFrames U.frames with heap := s₂.heap, slotsUsed := s₂.slotsUsed }
      rw [State.setFrames_self ht]
    subst hg
    refine Or.inl ⟨v, ⟨(({ U with heap := s₂.heap, slotsUsed := s₂.slotsUsed } : State).setVm s₂.vm), Ls ++ L, c0 + mc, s0 + ms⟩,
      ⟨X.admits, X.cas, X.clock, X.frames, X.room, X.hears, X.method, X.code, (X.here.setHeapUsed s₂.heap s₂.slotsUsed).setVm hW'.alike, X.tail, State.WarmedH.trans X.warmed hW', X.limits, X.bytes, X.same.trans (hsame.setVm s.vm)⟩,
      ⟨g, mk, s₂, L, rfl, rfl, hqc, rfl, hL, rfl, rfl⟩, ?_⟩
    show Steps p.tables e below _ ((({ U with heap := s₂.heap, slotsUsed := s₂.slotsUsed } : State).setVm s₂.vm).setTop { g with pc := g.pc + len₂, stack := v.toList ++ g.stack })
    rw [← hs₂]
    exact hsteps
  · obtain ⟨e2, q2, q3, q4, q5, q6⟩ := id hsm
    have e3 : s₂ = ({ (U.calling g mk a).setFrames s₂.frames with heap := s₂.heap, slotsUsed := s₂.slotsUsed } : State).setVm s₂.vm := by
      have : s₂ = ({ s₂ with vm := (U.calling g mk a).vm } : State).setVm s₂.vm := rfl
      rw [e2] at this
      exact this
    have hf₂ : s₂.frames = .throwing q :: .java g :: U.frames.tail := hend
    have hW' : U.WarmedH s₂.vm := hW₂
    have hs₂ : s₂ = ((({ U with heap := s₂.heap, slotsUsed := s₂.slotsUsed } : State).setVm s₂.vm).setTop g).pushFrame (.throwing q) := by
      refine e3.trans ?_
      rw [hf₂, State.calling_eq h.top, State.setFrames_setFrames, State.pushFrame, State.frames_setTop _ hr', State.setTop_of_frames _ hr', State.setFrames_setFrames, hr]
      rfl
    have hsame : U.sameButNew ({ U with heap := s₂.heap, slotsUsed := s₂.slotsUsed } : State) L mc ms := by
      refine ⟨?_, q2, q3, q4, q5, q6⟩
      obtain ⟨t, ht, -⟩ := State.frames_cons hr
      show ({ U with heap := s₂.heap, slotsUsed := s₂.slotsUsed } : State) = { U.setFrames U.frames with heap := s₂.heap, slotsUsed := s₂.slotsUsed }
      rw [State.setFrames_self ht]
    subst hg
    refine Or.inr ⟨q, ⟨(({ U with heap := s₂.heap, slotsUsed := s₂.slotsUsed } : State).setVm s₂.vm), Ls ++ L, c0 + mc, s0 + ms⟩,
      ⟨X.admits, X.cas, X.clock, X.frames, X.room, X.hears, X.method, X.code, (X.here.setHeapUsed s₂.heap s₂.slotsUsed).setVm hW'.alike, X.tail, State.WarmedH.trans X.warmed hW', X.limits, X.bytes, X.same.trans (hsame.setVm s.vm)⟩,
      ⟨g, mk, s₂, L, E, ce, rfl, rfl, hx, hce, hcv, hcl, rfl, hL, rfl, rfl⟩, ?_⟩
    show Steps p.tables e below _ (((({ U with heap := s₂.heap, slotsUsed := s₂.slotsUsed } : State).setVm s₂.vm).setTop g).pushFrame (.throwing q))
    rw [← hs₂]
    exact hsteps
end Payer
section Calls
variable {p : Program} {l : Launch} {e : Env} {R : Room} {s : State} {m : MethodId} {args : Array Value} {below : List Frame} {meth : Method} {c : Code} {T : State} {locs : List Loc} {cells slots : Nat}
theorem vx_callV (X : Stand p l e R s m args below meth c T locs cells slots) (hexec : p.tables.exec = Jvm.exec) {own C : String} {index : Nat} {y : MethodName} {bytes : ByteArray} {maxL : Nat} {ret : Option FieldType}
    (hown : s.vm.findClass own = some m.cls) (hlink : (Cond.methodLink own index y).before args s = true) (hinst : (Cond.instanceMethod y).before args s = true) (hsel : (Cond.selects C y y).before args s = true)
    (hcode : (Cond.code y bytes maxL ret).before args s = true) (hy : y.cls ≠ "java/lang/invoke/MethodHandle" ∧ y.cls ≠ "java/lang/invoke/VarHandle")
    {W9 : Nat} {Pre : Pt → Array Value → Prop} {Post : Pt → Array Value → Option Value → Pt → Prop} {PostX : Pt → Array Value → Addr → Pt → Prop} (hK : vx_Back l R p e below s args y 3 W9 Pre Post PostX)
    {b : Addr} {cellB : Cell} (hcell : T.heap[b]? = some cellB) (hobj : cellB.vm.isStatics = false) (hcls : s.vm.findClass C = some cellB.cls)
    {g : JFrame} (hg : g.method = m) (hsize : g.locals.size = c.maxLocals) {argsL rest : List Value} (hlen : ∀ sig, parseMethodDescriptor y.desc = some sig → argsL.length = sig.parameters.length)
    (hstack : g.stack = argsL.reverse ++ .ref b :: rest) (hW : 2 * g.monitorRoom + (rest.map fun v => v.category).sum ≤ W9) (hdg : decode c.code g.pc = .ok (.invokevirtual index, 3))
    (hpre : ∀ vm₁, s.WarmedH vm₁ → Pre ⟨T.setVm vm₁, locs, cells, slots⟩ (Value.ref b :: argsL).toArray) :
    (∃ (v : Option Value) (vm₁ : Vm) (B : Pt), s.WarmedH vm₁ ∧ Stand p l e R s m args below meth c B.U B.locs B.cells B.slots ∧ Post ⟨T.setVm vm₁, locs, cells, slots⟩ (Value.ref b :: argsL).toArray v B ∧
      ∀ target, Steps p.tables e below (B.U.setTop { g with pc := g.pc + 3, stack := v.toList ++ rest }) target → Steps p.tables e below (T.setTop g) target) ∨
    (∃ (q : Addr) (vm₁ : Vm) (B : Pt), s.WarmedH vm₁ ∧ Stand p l e R s m args below meth c B.U B.locs B.cells B.slots ∧ PostX ⟨T.setVm vm₁, locs, cells, slots⟩ (Value.ref b :: argsL).toArray q B ∧
      Steps p.tables e below (T.setTop g) ((B.U.setTop { g with stack := rest }).pushFrame (.throwing q))) := by
  obtain ⟨mk, methM, hnamed, hmethM, hstM, habM⟩ := Cond.instanceMethod_spec hinst
  obtain ⟨methM', cM, hmethM', -, -, -, -, -, -, hsigM⟩ := Cond.code_spec hnamed hcode
  cases hmethM.symm.trans hmethM'
  obtain ⟨c2, r2, m2, q1, q2, q3, q4, kP, hkP, hkPi⟩ := Cond.selects_spec hsel
  cases hcls.symm.trans q1
  cases (State.methodFound?_of_named hnamed hy).symm.trans q2
  cases hnamed.symm.trans q3
  have hselP : selectMethod e.platform s.vm cellB.cls mk = .method mk := by rw [Launch.admits_selectMethod X.admits]; exact q4
  obtain ⟨vm₁, X₁, hstep₁⟩ := X.invokevirtual hexec hown hlink hnamed hmethM hstM hkP hkPi hy (a := b) (cell := cellB) hcell
    (fun z h => by rw [h] at hobj; cases hobj) hselP hmethM habM hkP hkPi (g := g) hg (argsL := argsL) (rest := rest) (hlen _ hsigM) hstack hdg
  rcases hK m meth c ⟨T.setVm vm₁, locs, cells, slots⟩ { g with stack := rest } (.invokevirtual index) mk (Value.ref b :: argsL).toArray X₁ hg hsize hdg hW (X₁.named hnamed) (hpre vm₁ X₁.warmed) with ⟨v, B, X', hpost, hsteps⟩ | ⟨q, B, X', hpost, hsteps⟩
  · exact Or.inl ⟨v, vm₁, B, X₁.warmed, X', hpost, fun target h => hstep₁ _ fun acts => by rw [doInvoke_state]; exact hsteps.trans h⟩
  · exact Or.inr ⟨q, vm₁, B, X₁.warmed, X', hpost, hstep₁ _ fun acts => by rw [doInvoke_state]; exact hsteps⟩
theorem vx_callS (X : Stand p l e R s m args below meth c T locs cells slots) (hexec : p.tables.exec = Jvm.exec) {own : String} {index : Nat} {y : MethodName} {bytes : ByteArray} {maxL : Nat} {ret : Option FieldType}
    (hown : s.vm.findClass own = some m.cls) (hlink : (Cond.methodLink own index y).before args s = true) (hstat : (Cond.static y).before args s = true) (hinit : (Cond.initialized y.cls).before args s = true)
    (hcode : (Cond.code y bytes maxL ret).before args s = true) (hy : y.cls ≠ "java/lang/invoke/MethodHandle" ∧ y.cls ≠ "java/lang/invoke/VarHandle")
    {W9 : Nat} {Pre : Pt → Array Value → Prop} {Post : Pt → Array Value → Option Value → Pt → Prop} {PostX : Pt → Array Value → Addr → Pt → Prop} (hK : vx_Back l R p e below s args y 3 W9 Pre Post PostX)
    {g : JFrame} (hg : g.method = m) (hsize : g.locals.size = c.maxLocals) {argsL rest : List Value} (hlen : ∀ sig, parseMethodDescriptor y.desc = some sig → argsL.length = sig.parameters.length)
    (hstack : g.stack = argsL.reverse ++ rest) (hW : 2 * g.monitorRoom + (rest.map fun v => v.category).sum ≤ W9) (hdg : decode c.code g.pc = .ok (.invokestatic index, 3))
    (hpre : ∀ vm₁, s.WarmedH vm₁ → Pre ⟨T.setVm vm₁, locs, cells, slots⟩ argsL.toArray) :
    (∃ (v : Option Value) (vm₁ : Vm) (B : Pt), s.WarmedH vm₁ ∧ Stand p l e R s m args below meth c B.U B.locs B.cells B.slots ∧ Post ⟨T.setVm vm₁, locs, cells, slots⟩ argsL.toArray v B ∧
      ∀ target, Steps p.tables e below (B.U.setTop { g with pc := g.pc + 3, stack := v.toList ++ rest }) target → Steps p.tables e below (T.setTop g) target) ∨
    (∃ (q : Addr) (vm₁ : Vm) (B : Pt), s.WarmedH vm₁ ∧ Stand p l e R s m args below meth c B.U B.locs B.cells B.slots ∧ PostX ⟨T.setVm vm₁, locs, cells, slots⟩ argsL.toArray q B ∧
      Steps p.tables e below (T.setTop g) ((B.U.setTop { g with stack := rest }).pushFrame (.throwing q))) := by
  obtain ⟨mk, hnamed⟩ := Cond.code_named hcode
  obtain ⟨methM, cM, hmethM, -, -, -, -, -, -, hsigM⟩ := Cond.code_spec hnamed hcode
  have hstatic : methM.isStatic = true := Cond.static_spec hnamed hmethM hstat
  obtain ⟨kP, hkP, -⟩ := className_of_methodNamed hnamed
  have hinitP : kP.init = .initialized := Cond.initialized_spec (findClass_of_methodNamed hnamed) hkP hinit
  obtain ⟨vm₁, X₁, hstep₁⟩ := X.invokestatic hexec hown hlink hnamed hmethM hstatic hkP hinitP hy (g := g) hg (argsL := argsL) (rest := rest) (hlen _ hsigM) hstack hdg
  rcases hK m meth c ⟨T.setVm vm₁, locs, cells, slots⟩ { g with stack := rest } (.invokestatic index) mk argsL.toArray X₁ hg hsize hdg hW (X₁.named hnamed) (hpre vm₁ X₁.warmed) with ⟨v, B, X', hpost, hsteps⟩ | ⟨q, B, X', hpost, hsteps⟩
  · exact Or.inl ⟨v, vm₁, B, X₁.warmed, X', hpost, fun target h => hstep₁ _ fun acts => by rw [doInvoke_state]; exact hsteps.trans h⟩
  · exact Or.inr ⟨q, vm₁, B, X₁.warmed, X', hpost, hstep₁ _ fun acts => by rw [doInvoke_state]; exact hsteps⟩
end Calls
theorem vx_cls {s : State} {T : State} {vm₁ : Vm} {E : String} {k : ClassId} (hW : s.WarmedH vm₁) (h : (T.setVm vm₁).vm.findClass E = some k) : s.vm.findClass E = some k := by
  have h1 : vm₁.findClass E = some k := h
  rw [hW.alike.findClass] at h1
  exact h1
/-- the method's frame g, with q thrown over it -/
def vx_W (p : Program) (l : Launch) (e : Env) (R : Room) (s : State) (m : MethodId) (args : Array Value) (below : List Frame) (meth : Method) (c : Code) (H : Heap) (locs : List Loc) (cells slots : Nat) (Q : State → Prop) (g : JFrame) (q : Addr) : Prop :=
  ∀ T : State, T.heap = H → Stand p l e R s m args below meth c T locs cells slots → ∃ t, Steps p.tables e below ((T.setTop g).pushFrame (.throwing q)) t ∧ Q t
def vx_Run (p : Program) (l : Launch) (e : Env) (R : Room) (s : State) (m : MethodId) (args : Array Value) (below : List Frame) (meth : Method) (c : Code) (H : Heap) (locs : List Loc) (cells slots mc ms : Nat) (g : JFrame) (rest : List Value) (Qa : State → Outcome → State → Prop) (XC : String → State → State → Prop) (free : Addr → Prop) : Prop :=
  ∀ T : State, T.heap = H → Stand p l e R s m args below meth c T locs cells slots →
    (∃ (v : Option Value) (st₀ t T' : State) (L : List Loc), st₀.heap = H ∧ Stand p l e R s m args below meth c T' (locs ++ L) (cells + mc) (slots + ms) ∧ (∀ q ∈ L, free q.base) ∧ T'.heap = t.heap ∧ T'.vm = t.vm ∧ Qa st₀ (.returned v) t ∧
      Goes p e below T g T' { g with pc := g.pc + 3, stack := v.toList ++ rest }) ∨
    (∃ (q : Addr) (st₀ t T' : State) (L : List Loc) (E : String) (ce : Cell), st₀.heap = H ∧ Stand p l e R s m args below meth c T' (locs ++ L) (cells + mc) (slots + ms) ∧ (∀ z ∈ L, free z.base) ∧ T'.heap = t.heap ∧ T'.vm = t.vm ∧ XC E st₀ t ∧ t.heap[q]? = some ce ∧ ce.vm = .none ∧ s.vm.findClass E = some ce.cls ∧
      Steps p.tables e below (T.setTop g) ((T'.setTop { g with stack := rest }).pushFrame (.throwing q)))
def vx_X {S : Type} (px : S → Prop) (B : String → S → State → Prop) (A : Nat → Prop) : String → State → State → Prop := fun E st t => ∃ u : S, px u ∧ B E u t ∧ va_F A st t
section Runs
variable {p : Program} {l : Launch} {e : Env} {R : Room} {s : State} {m : MethodId} {args : Array Value} {below : List Frame} {meth : Method} {c : Code} {H : Heap} {locs : List Loc} {cells slots : Nat}
variable {y : MethodName} {bytes cc : ByteArray} {maxL nL mc ms n index : Nat} {ret : Option FieldType} {ws : List Cond} {rm : Room} {Pc : Array Value → State → Prop} {Qc : Array Value → State → Outcome → State → Prop} {XC : String → State → State → Prop} {free : Addr → Prop} {Ts : List Cond} {own C : String} {b : Addr} {As rest : List Value} {g : JFrame}
theorem vx_callBack (cb : CallB R s args own index y bytes maxL ret ws rm mc ms n) (hM : vx_Met l y ws rm Pc Qc XC mc ms free) (hbl : FrameBlind Pc) : vx_Back l R p e below s args y 3 8 (PreOf R mc ms Pc) (PostOf Qc mc ms free) (vx_Post XC mc ms free) := by
  obtain ⟨hrc, hrs, hfr, hlo, hws, hcw, -, hini, -⟩ := cb
  exact vx_back (bytes := bytes) (maxL := maxL) (ret := ret) hM hbl hrc hrs hfr hlo hws hcw (fun a' U hW => word_at hW (Or.inl (by first | rfl | simp [Cond.onTables, Cond.keeps, Cond.steady])) hini)
theorem vx_runV (S : CallFix p m c cc nL s args Ts own) (hM : vx_Met l y ws rm Pc Qc XC mc ms free) (cw : CallW R s args own C index y bytes maxL ret ws rm mc ms n) (hp : PreV s H C b Pc As)
    (hg : g.method = m) (hn : As.length = n) (hsize : g.locals.size = nL) (hstack : g.stack = As.reverse ++ .ref b :: rest) (hW : 2 * g.monitorRoom + (rest.map fun v => v.category).sum ≤ 8) (hdg : decode cc g.pc = .ok (.invokevirtual index, 3)) (hf : cells + mc ≤ R.cells ∧ slots + ms ≤ R.slots) :
    vx_Run p l e R s m args below meth c H locs cells slots mc ms g rest (Qc (Value.ref b :: As).toArray) XC free := by
  have hK : vx_Back l R p e below s args y 3 8 (PreOf R mc ms Pc) (PostOf Qc mc ms free) (vx_Post XC mc ms free) := vx_callBack cw.1 hM hp.1
  obtain ⟨⟨-, -, -, -, -, -, hcode, -, hy, hlen, hl⟩, hin, hse⟩ := cw
  obtain ⟨hx, hb, hml, ho, -⟩ := S
  obtain ⟨-, ⟨cellB, hcB, hoB, hclB⟩, hPc⟩ := hp
  intro T hT X
  rcases vx_callV X hx (C := C) (bytes := bytes) (maxL := maxL) (ret := ret) ho hl hin hse hcode hy hK (by rw [hT]; exact hcB) hoB hclB hg (hsize.trans hml.symm) (argsL := As) (rest := rest) (fun sig h => hn.trans (hlen sig h)) hstack hW (by rw [hb]; exact hdg)
    (fun vm₁ hW₁ => ⟨hf.1, hf.2, hPc (T.setVm vm₁) hT hW₁⟩) with ⟨v, vm₁, ⟨U', l2, c2, s2⟩, hW₁, X', ⟨g', mk, t, L, e1, e2, hq, h1, hL, h2, h3⟩, st⟩ | ⟨q, vm₁, ⟨U', l2, c2, s2⟩, hW₁, X', ⟨g', mk, t, L, E, ce, e1, e2, hq, hce, hcv, hcl, h1, hL, h2, h3⟩, st⟩
  · dsimp only [Pt.U, Pt.locs, Pt.cells, Pt.slots] at X' e1 e2 h1 h2 h3 st
    subst h1; subst h2; subst h3
    exact Or.inl ⟨v, (T.setVm vm₁).calling g' mk (Value.ref b :: As).toArray, t, U', L, hT, X', hL, e1, e2, hq, st⟩
  · dsimp only [Pt.U, Pt.locs, Pt.cells, Pt.slots] at X' e1 e2 h1 h2 h3 st hcl
    subst h1; subst h2; subst h3
    exact Or.inr ⟨q, (T.setVm vm₁).calling g' mk (Value.ref b :: As).toArray, t, U', L, E, ce, hT, X', hL, e1, e2, hq, hce, hcv, vx_cls hW₁ hcl, st⟩
theorem vx_runS (S : CallFix p m c cc nL s args Ts own) (hM : vx_Met l y ws rm Pc Qc XC mc ms free) (cw : CallB R s args own index y bytes maxL ret ws rm mc ms n ∧ (Cond.static y).before args s = true) (hp : PreS s H Pc As)
    (hg : g.method = m) (hn : As.length = n) (hsize : g.locals.size = nL) (hstack : g.stack = As.reverse ++ rest) (hW : 2 * g.monitorRoom + (rest.map fun v => v.category).sum ≤ 8) (hdg : decode cc g.pc = .ok (.invokestatic index, 3)) (hf : cells + mc ≤ R.cells ∧ slots + ms ≤ R.slots) :
    vx_Run p l e R s m args below meth c H locs cells slots mc ms g rest (Qc As.toArray) XC free := by
  have hK : vx_Back l R p e below s args y 3 8 (PreOf R mc ms Pc) (PostOf Qc mc ms free) (vx_Post XC mc ms free) := vx_callBack cw.1 hM hp.1
  obtain ⟨⟨-, -, -, -, -, -, hcode, hini, hy, hlen, hl⟩, hstt⟩ := cw
  obtain ⟨hx, hb, hml, ho, -⟩ := S
  intro T hT X
  rcases vx_callS X hx (bytes := bytes) (maxL := maxL) (ret := ret) ho hl hstt hini hcode hy hK hg (hsize.trans hml.symm) (argsL := As) (rest := rest) (fun sig h => hn.trans (hlen sig h)) hstack hW (by rw [hb]; exact hdg)
    (fun vm₁ hW₁ => ⟨hf.1, hf.2, hp.2 (T.setVm vm₁) hT hW₁⟩) with ⟨v, vm₁, ⟨U', l2, c2, s2⟩, hW₁, X', ⟨g', mk, t, L, e1, e2, hq, h1, hL, h2, h3⟩, st⟩ | ⟨q, vm₁, ⟨U', l2, c2, s2⟩, hW₁, X', ⟨g', mk, t, L, E, ce, e1, e2, hq, hce, hcv, hcl, h1, hL, h2, h3⟩, st⟩
  · dsimp only [Pt.U, Pt.locs, Pt.cells, Pt.slots] at X' e1 e2 h1 h2 h3 st
    subst h1; subst h2; subst h3
    exact Or.inl ⟨v, (T.setVm vm₁).calling g' mk As.toArray, t, U', L, hT, X', hL, e1, e2, hq, st⟩
  · dsimp only [Pt.U, Pt.locs, Pt.cells, Pt.slots] at X' e1 e2 h1 h2 h3 st hcl
    subst h1; subst h2; subst h3
    exact Or.inr ⟨q, (T.setVm vm₁).calling g' mk As.toArray, t, U', L, E, ce, hT, X', hL, e1, e2, hq, hce, hcv, vx_cls hW₁ hcl, st⟩
end Runs
section Rows
variable {p : Program} {l : Launch} {e : Env} {R : Room} {s : State} {m : MethodId} {args : Array Value} {below : List Frame} {meth : Method} {c : Code} {H : Heap} {locs : List Loc} {cells slots : Nat} {Q : State → Prop}
variable {mc ms : Nat} {free : Addr → Prop} {A0 A1 : Nat → Prop} {H0 : Heap} {a : Array Value} {pc : Nat} {ls : Array Slot} {st0 rest : List Value}
theorem vx_keep {st₀ t T' : State} {L : List Loc} (h0 : st₀.heap = H) (e1 : T'.heap = t.heap) (hS : va_S A0 H0 H locs) (hA : ∀ q, q < H.size → A1 q → A0 q) (hf : ∀ q, free q → A0 q) (hL : ∀ q ∈ L, free q.base) (hF : va_F A1 st₀ t) :
    H.size ≤ T'.heap.size ∧ (∀ q : Nat, q < H.size → ¬ A1 q → T'.heap[q]? = H[q]?) ∧ va_S A0 H0 T'.heap (locs ++ L) := by
  obtain ⟨hz, hk⟩ := hF
  rw [h0] at hz hk
  exact ⟨by rw [e1]; exact hz, fun q h1 h2 => by rw [e1]; exact hk q h1 h2,
    ⟨Nat.le_trans hS.1 (by rw [e1]; exact hz), fun q h1 h2 => by rw [e1, hk q (Nat.lt_of_lt_of_le h1 hS.1) (fun z => h2 (hA q (Nat.lt_of_lt_of_le h1 hS.1) z))]; exact hS.2.1 q h1 h2, fun q hq => by
      rcases List.mem_append.mp hq with h | h
      · exact hS.2.2 q h
      · exact hf _ (hL q h)⟩⟩
theorem vx_calli {S SX : Type} {post : Int32 → S → Prop} {px : SX → Prop} {B : S → State → Prop} {BX : String → SX → State → Prop} {AX : Nat → Prop} (hr : vx_Run p l e R s m args below meth c H locs cells slots mc ms (F0 m pc ls st0) rest (va_Qi post B A1 a) (vx_X px BX AX) free) (hS : va_S A0 H0 H locs) (hA : ∀ q, q < H.size → A1 q → A0 q) (hf : ∀ q, free q → A0 q) (hAX : ∀ q, q < H.size → AX q → A0 q)
    (kx : ∀ (E : String) (ce : Cell) (q9 : Addr) (u : SX) (t : State) (H1 : Heap) (locs1 : List Loc), t.heap = H1 → s.vm.Alike t.vm → px u → BX E u t → H.size ≤ H1.size → (∀ q : Nat, q < H.size → ¬ AX q → H1[q]? = H[q]?) → va_S A0 H0 H1 locs1 → H1[q9]? = some ce → ce.vm = .none → s.vm.findClass E = some ce.cls → vx_W p l e R s m args below meth c H1 locs1 (cells + mc) (slots + ms) Q (F0 m pc ls rest) q9)
    (kk : ∀ (r : Int32) (u : S) (t : State) (H1 : Heap) (locs1 : List Loc), t.heap = H1 → s.vm.Alike t.vm → post r u → B u t → H.size ≤ H1.size → (∀ q : Nat, q < H.size → ¬ A1 q → H1[q]? = H[q]?) → va_S A0 H0 H1 locs1 → W p l e R s m args below meth c H1 locs1 (cells + mc) (slots + ms) Q (F0 m (pc + 3) ls (.int r :: rest))) : W p l e R s m args below meth c H locs cells slots Q (F0 m pc ls st0) := by
  intro T hT X
  rcases hr T hT X with ⟨v, st₀, t, T', L, h0, X', hL, e1, e2, ⟨⟨r, u, hv, hp, hb⟩, hF⟩, st⟩ | ⟨q, st₀, t, T', L, E, ce, h0, X', hL, e1, e2, ⟨u, hp, hb, hF⟩, hce, hcv, hcl, st⟩
  · cases hv
    obtain ⟨k1, k2, k3⟩ := vx_keep h0 e1 hS hA hf hL hF
    obtain ⟨t2, a1, b1⟩ := kk r u t T'.heap (locs ++ L) e1.symm (by rw [← e2]; exact X'.warmed.alike) hp hb k1 k2 k3 T' rfl X'
    exact ⟨t2, st t2 a1, b1⟩
  · obtain ⟨k1, k2, k3⟩ := vx_keep h0 e1 hS hAX hf hL hF
    obtain ⟨t2, a1, b1⟩ := kx E ce q u t T'.heap (locs ++ L) e1.symm (by rw [← e2]; exact X'.warmed.alike) hp hb k1 k2 k3 (by rw [e1]; exact hce) hcv hcl T' rfl X'
    exact ⟨t2, st.trans a1, b1⟩
theorem vx_calll {S SX : Type} {post : Int64 → S → Prop} {px : SX → Prop} {B : S → State → Prop} {BX : String → SX → State → Prop} {AX : Nat → Prop} (hr : vx_Run p l e R s m args below meth c H locs cells slots mc ms (F0 m pc ls st0) rest (va_Ql post B A1 a) (vx_X px BX AX) free) (hS : va_S A0 H0 H locs) (hA : ∀ q, q < H.size → A1 q → A0 q) (hf : ∀ q, free q → A0 q) (hAX : ∀ q, q < H.size → AX q → A0 q)
    (kx : ∀ (E : String) (ce : Cell) (q9 : Addr) (u : SX) (t : State) (H1 : Heap) (locs1 : List Loc), t.heap = H1 → s.vm.Alike t.vm → px u → BX E u t → H.size ≤ H1.size → (∀ q : Nat, q < H.size → ¬ AX q → H1[q]? = H[q]?) → va_S A0 H0 H1 locs1 → H1[q9]? = some ce → ce.vm = .none → s.vm.findClass E = some ce.cls → vx_W p l e R s m args below meth c H1 locs1 (cells + mc) (slots + ms) Q (F0 m pc ls rest) q9)
    (kk : ∀ (r : Int64) (u : S) (t : State) (H1 : Heap) (locs1 : List Loc), t.heap = H1 → s.vm.Alike t.vm → post r u → B u t → H.size ≤ H1.size → (∀ q : Nat, q < H.size → ¬ A1 q → H1[q]? = H[q]?) → va_S A0 H0 H1 locs1 → W p l e R s m args below meth c H1 locs1 (cells + mc) (slots + ms) Q (F0 m (pc + 3) ls (.long r :: rest))) : W p l e R s m args below meth c H locs cells slots Q (F0 m pc ls st0) := by
  intro T hT X
  rcases hr T hT X with ⟨v, st₀, t, T', L, h0, X', hL, e1, e2, ⟨⟨r, u, hv, hp, hb⟩, hF⟩, st⟩ | ⟨q, st₀, t, T', L, E, ce, h0, X', hL, e1, e2, ⟨u, hp, hb, hF⟩, hce, hcv, hcl, st⟩
  · cases hv
    obtain ⟨k1, k2, k3⟩ := vx_keep h0 e1 hS hA hf hL hF
    obtain ⟨t2, a1, b1⟩ := kk r u t T'.heap (locs ++ L) e1.symm (by rw [← e2]; exact X'.warmed.alike) hp hb k1 k2 k3 T' rfl X'
    exact ⟨t2, st t2 a1, b1⟩
  · obtain ⟨k1, k2, k3⟩ := vx_keep h0 e1 hS hAX hf hL hF
    obtain ⟨t2, a1, b1⟩ := kx E ce q u t T'.heap (locs ++ L) e1.symm (by rw [← e2]; exact X'.warmed.alike) hp hb k1 k2 k3 (by rw [e1]; exact hce) hcv hcl T' rfl X'
    exact ⟨t2, st.trans a1, b1⟩
theorem vx_callf {S SX : Type} {post : UInt32 → S → Prop} {px : SX → Prop} {B : S → State → Prop} {BX : String → SX → State → Prop} {AX : Nat → Prop} (hr : vx_Run p l e R s m args below meth c H locs cells slots mc ms (F0 m pc ls st0) rest (va_Qf post B A1 a) (vx_X px BX AX) free) (hS : va_S A0 H0 H locs) (hA : ∀ q, q < H.size → A1 q → A0 q) (hf : ∀ q, free q → A0 q) (hAX : ∀ q, q < H.size → AX q → A0 q)
    (kx : ∀ (E : String) (ce : Cell) (q9 : Addr) (u : SX) (t : State) (H1 : Heap) (locs1 : List Loc), t.heap = H1 → s.vm.Alike t.vm → px u → BX E u t → H.size ≤ H1.size → (∀ q : Nat, q < H.size → ¬ AX q → H1[q]? = H[q]?) → va_S A0 H0 H1 locs1 → H1[q9]? = some ce → ce.vm = .none → s.vm.findClass E = some ce.cls → vx_W p l e R s m args below meth c H1 locs1 (cells + mc) (slots + ms) Q (F0 m pc ls rest) q9)
    (kk : ∀ (r : UInt32) (u : S) (t : State) (H1 : Heap) (locs1 : List Loc), t.heap = H1 → s.vm.Alike t.vm → post r u → B u t → H.size ≤ H1.size → (∀ q : Nat, q < H.size → ¬ A1 q → H1[q]? = H[q]?) → va_S A0 H0 H1 locs1 → W p l e R s m args below meth c H1 locs1 (cells + mc) (slots + ms) Q (F0 m (pc + 3) ls (.float r :: rest))) : W p l e R s m args below meth c H locs cells slots Q (F0 m pc ls st0) := by
  intro T hT X
  rcases hr T hT X with ⟨v, st₀, t, T', L, h0, X', hL, e1, e2, ⟨⟨r, u, hv, hp, hb⟩, hF⟩, st⟩ | ⟨q, st₀, t, T', L, E, ce, h0, X', hL, e1, e2, ⟨u, hp, hb, hF⟩, hce, hcv, hcl, st⟩
  · cases hv
    obtain ⟨k1, k2, k3⟩ := vx_keep h0 e1 hS hA hf hL hF
    obtain ⟨t2, a1, b1⟩ := kk r u t T'.heap (locs ++ L) e1.symm (by rw [← e2]; exact X'.warmed.alike) hp hb k1 k2 k3 T' rfl X'
    exact ⟨t2, st t2 a1, b1⟩
  · obtain ⟨k1, k2, k3⟩ := vx_keep h0 e1 hS hAX hf hL hF
    obtain ⟨t2, a1, b1⟩ := kx E ce q u t T'.heap (locs ++ L) e1.symm (by rw [← e2]; exact X'.warmed.alike) hp hb k1 k2 k3 (by rw [e1]; exact hce) hcv hcl T' rfl X'
    exact ⟨t2, st.trans a1, b1⟩
theorem vx_calld {S SX : Type} {post : UInt64 → S → Prop} {px : SX → Prop} {B : S → State → Prop} {BX : String → SX → State → Prop} {AX : Nat → Prop} (hr : vx_Run p l e R s m args below meth c H locs cells slots mc ms (F0 m pc ls st0) rest (va_Qd post B A1 a) (vx_X px BX AX) free) (hS : va_S A0 H0 H locs) (hA : ∀ q, q < H.size → A1 q → A0 q) (hf : ∀ q, free q → A0 q) (hAX : ∀ q, q < H.size → AX q → A0 q)
    (kx : ∀ (E : String) (ce : Cell) (q9 : Addr) (u : SX) (t : State) (H1 : Heap) (locs1 : List Loc), t.heap = H1 → s.vm.Alike t.vm → px u → BX E u t → H.size ≤ H1.size → (∀ q : Nat, q < H.size → ¬ AX q → H1[q]? = H[q]?) → va_S A0 H0 H1 locs1 → H1[q9]? = some ce → ce.vm = .none → s.vm.findClass E = some ce.cls → vx_W p l e R s m args below meth c H1 locs1 (cells + mc) (slots + ms) Q (F0 m pc ls rest) q9)
    (kk : ∀ (r : UInt64) (u : S) (t : State) (H1 : Heap) (locs1 : List Loc), t.heap = H1 → s.vm.Alike t.vm → post r u → B u t → H.size ≤ H1.size → (∀ q : Nat, q < H.size → ¬ A1 q → H1[q]? = H[q]?) → va_S A0 H0 H1 locs1 → W p l e R s m args below meth c H1 locs1 (cells + mc) (slots + ms) Q (F0 m (pc + 3) ls (.double r :: rest))) : W p l e R s m args below meth c H locs cells slots Q (F0 m pc ls st0) := by
  intro T hT X
  rcases hr T hT X with ⟨v, st₀, t, T', L, h0, X', hL, e1, e2, ⟨⟨r, u, hv, hp, hb⟩, hF⟩, st⟩ | ⟨q, st₀, t, T', L, E, ce, h0, X', hL, e1, e2, ⟨u, hp, hb, hF⟩, hce, hcv, hcl, st⟩
  · cases hv
    obtain ⟨k1, k2, k3⟩ := vx_keep h0 e1 hS hA hf hL hF
    obtain ⟨t2, a1, b1⟩ := kk r u t T'.heap (locs ++ L) e1.symm (by rw [← e2]; exact X'.warmed.alike) hp hb k1 k2 k3 T' rfl X'
    exact ⟨t2, st t2 a1, b1⟩
  · obtain ⟨k1, k2, k3⟩ := vx_keep h0 e1 hS hAX hf hL hF
    obtain ⟨t2, a1, b1⟩ := kx E ce q u t T'.heap (locs ++ L) e1.symm (by rw [← e2]; exact X'.warmed.alike) hp hb k1 k2 k3 (by rw [e1]; exact hce) hcv hcl T' rfl X'
    exact ⟨t2, st.trans a1, b1⟩
theorem vx_callv {S SX : Type} {post : S → Prop} {px : SX → Prop} {B : S → State → Prop} {BX : String → SX → State → Prop} {AX : Nat → Prop} (hr : vx_Run p l e R s m args below meth c H locs cells slots mc ms (F0 m pc ls st0) rest (va_Qv post B A1 a) (vx_X px BX AX) free) (hS : va_S A0 H0 H locs) (hA : ∀ q, q < H.size → A1 q → A0 q) (hf : ∀ q, free q → A0 q) (hAX : ∀ q, q < H.size → AX q → A0 q)
    (kx : ∀ (E : String) (ce : Cell) (q9 : Addr) (u : SX) (t : State) (H1 : Heap) (locs1 : List Loc), t.heap = H1 → s.vm.Alike t.vm → px u → BX E u t → H.size ≤ H1.size → (∀ q : Nat, q < H.size → ¬ AX q → H1[q]? = H[q]?) → va_S A0 H0 H1 locs1 → H1[q9]? = some ce → ce.vm = .none → s.vm.findClass E = some ce.cls → vx_W p l e R s m args below meth c H1 locs1 (cells + mc) (slots + ms) Q (F0 m pc ls rest) q9)
    (kk : ∀ (u : S) (t : State) (H1 : Heap) (locs1 : List Loc), t.heap = H1 → s.vm.Alike t.vm → post u → B u t → H.size ≤ H1.size → (∀ q : Nat, q < H.size → ¬ A1 q → H1[q]? = H[q]?) → va_S A0 H0 H1 locs1 → W p l e R s m args below meth c H1 locs1 (cells + mc) (slots + ms) Q (F0 m (pc + 3) ls (rest))) : W p l e R s m args below meth c H locs cells slots Q (F0 m pc ls st0) := by
  intro T hT X
  rcases hr T hT X with ⟨v, st₀, t, T', L, h0, X', hL, e1, e2, ⟨⟨u, hv, hp, hb⟩, hF⟩, st⟩ | ⟨q, st₀, t, T', L, E, ce, h0, X', hL, e1, e2, ⟨u, hp, hb, hF⟩, hce, hcv, hcl, st⟩
  · cases hv
    obtain ⟨k1, k2, k3⟩ := vx_keep h0 e1 hS hA hf hL hF
    obtain ⟨t2, a1, b1⟩ := kk u t T'.heap (locs ++ L) e1.symm (by rw [← e2]; exact X'.warmed.alike) hp hb k1 k2 k3 T' rfl X'
    exact ⟨t2, st t2 a1, b1⟩
  · obtain ⟨k1, k2, k3⟩ := vx_keep h0 e1 hS hAX hf hL hF
    obtain ⟨t2, a1, b1⟩ := kx E ce q u t T'.heap (locs ++ L) e1.symm (by rw [← e2]; exact X'.warmed.alike) hp hb k1 k2 k3 (by rw [e1]; exact hce) hcv hcl T' rfl X'
    exact ⟨t2, st.trans a1, b1⟩
/-- caught by the row x of this method's table; the rows ahead don't take it -/
theorem vx_catch {own name : String} {E : String} {ce : Cell} {q : Addr} (hown : s.vm.findClass own = some m.cls) (pre : List ExceptionTableEntry) (x : ExceptionTableEntry) (suf : List ExceptionTableEntry) (hsplit : c.exceptionTable.toList = pre ++ x :: suf)
    (hpass : ∀ z ∈ pre, covers z pc = false ∨ (z.catchType ≠ 0 ∧ ∃ nm : String, (Cond.classLink own z.catchType nm).before args s = true ∧ va_Nc E nm s)) (hx : covers x pc = true) (h0 : x.catchType ≠ 0)
    (hlink : (Cond.classLink own x.catchType name).before args s = true) (hcast : (Cond.castable E name).before args s = true) (hcell : H[q]? = some ce) (hv : ce.vm = .none) (hcl : s.vm.findClass E = some ce.cls)
    (kk : W p l e R s m args below meth c H locs cells slots Q (F0 m x.handlerPc ls [.ref q])) : vx_W p l e R s m args below meth c H locs cells slots Q (F0 m pc ls rest) q := by
  intro T hT X
  have hpl : e.platform.magicAccessors = ({} : Platform).magicAccessors := by rw [X.admits.platform]
  obtain ⟨c3, c4, hc3, hc4, hasg⟩ := Cond.castable_spec hcast
  cases Option.some.inj (hc3.symm.trans hcl)
  obtain ⟨c5, hc5, hcl5⟩ := Cond.classLink_spec hown hlink e.platform hpl
  cases Option.some.inj (hc4.symm.trans hc5)
  obtain ⟨vm', X', st⟩ := X.thenCaughtThrough q (g := F0 m pc ls rest) rfl (Steps.refl _) (by rw [hT]; exact hcell) (by rw [hv]; rfl) (by obtain ⟨k9, h9, -⟩ := Vm.findClass_spec hcl; exact ⟨k9, h9⟩) pre x suf hsplit
    (fun z hz => by
      rcases hpass z hz with h | ⟨hz0, nm, hl1, hn1⟩
      · exact Or.inl h
      · obtain ⟨c6, hc6, hcl6⟩ := Cond.classLink_spec hown hl1 e.platform hpl
        obtain ⟨a8, b8, h1, h2, h3⟩ := hn1
        cases Option.some.inj (h1.symm.trans hcl)
        cases Option.some.inj (h2.symm.trans hc6)
        exact Or.inr ⟨hz0, _, hcl6, h3⟩) hx (Or.inr ⟨h0, c4, hcl5, hasg⟩)
  obtain ⟨t, a1, b1⟩ := kk (T.setVm vm') hT X'
  exact ⟨t, st.trans a1, b1⟩
end Rows
section Ends
variable {p : Program} {l : Launch} {e : Env} {R : Room} {s : State} {m : MethodId} {args : Array Value} {below : List Frame} {meth : Method} {c : Code} {H : Heap} {locs : List Loc} {cells slots : Nat} {Q : State → Prop}
variable {mc ms : Nat} {free : Addr → Prop} {A0 A1 : Nat → Prop} {H0 : Heap} {a : Array Value} {ls : Array Slot} {st0 rest : List Value}
variable {Qc : Array Value → State → Outcome → State → Prop} {XC : String → State → State → Prop}
/-- what a body that may throw owes at its end -/
def vx_MQ (below : List Frame) (Qc : Array Value → State → Outcome → State → Prop) (XC : String → State → State → Prop) (a : Array Value) (s : State) (mc ms : Nat) (free : Addr → Prop) : State → Prop := fun t =>
  ∃ o, t.status = .running ∧ Ended t below o ∧ vx_Q Qc XC mc ms free a s o t
theorem vx_ret {g : JFrame} {mc ms : Nat} (k : W p l e R s m args below meth c H locs cells slots (MQ below Qc args s mc ms free) g) : W p l e R s m args below meth c H locs cells slots (vx_MQ below Qc XC args s mc ms free) g := by
  intro T hT X
  obtain ⟨t, a1, o, b1, b2, b3, b4⟩ := k T hT X
  exact ⟨t, a1, o, b1, b2, Or.inl ⟨b3, b4⟩⟩
/-- not caught here: it goes on to the caller -/
theorem vx_widen {g : JFrame} {q : Addr} {k n : Nat} (h1 : cells ≤ k) (h2 : slots ≤ n) (kk : vx_W p l e R s m args below meth c H locs k n Q g q) : vx_W p l e R s m args below meth c H locs cells slots Q g q := fun T hT X => kk T hT (stand_widen X h1 h2)
theorem vx_out {pc : Nat} {E : String} {ce : Cell} {q : Addr} {mc ms : Nat} (hout : ∀ x ∈ c.exceptionTable.toList, covers x pc = false) (hlocks : meth.locks = false) (hcell : H[q]? = some ce) (hv : ce.vm = .none) (hcl : s.vm.findClass E = some ce.cls)
    (hx : ∀ t : State, t.heap = H → s.vm.Alike t.vm → XC E s t) (hf : ∀ z ∈ locs, free z.base) (hc : cells ≤ mc) (hs : slots ≤ ms) :
    vx_W p l e R s m args below meth c H locs cells slots (vx_MQ below Qc XC args s mc ms free) (F0 m pc ls rest) q := by
  intro T hT X
  obtain ⟨st1, hrun, hend, hW, hsm⟩ := X.leaveThrown q (g := F0 m pc ls rest) rfl rfl rfl hout hlocks
  have hcell9 : (T.setFrames (.throwing q :: below)).heap[q]? = some ce := by
    show T.heap[q]? = some ce
    rw [hT]; exact hcell
  exact ⟨_, st1, .threw q, hrun, hend, Or.inr ⟨q, rfl, E, ce, locs, hx _ hT hW.alike, hcell9, hv, hcl, hW, hsm.mono hc hs, hf⟩⟩
theorem vx_frame {U : State} {k n : Nat} (h : s.sameButNew ({ U with vm := s.vm } : State) locs k n) : s.heap.size ≤ U.heap.size ∧ ∀ q : Nat, q < s.heap.size → (∀ z ∈ locs, z.base ≠ q) → U.heap[q]? = s.heap[q]? := by
  obtain ⟨-, h2, -, -, -, h6⟩ := h
  refine ⟨h2, fun q hq hz => ?_⟩
  obtain ⟨c9, e1, e2, e3, e4⟩ := h6 q _ (Array.getElem?_eq_getElem hq)
  have hs : c9.slots = (s.heap[q]).slots := Array.ext_getElem? fun i => e4 i fun hm => hz _ hm rfl
  have h9 : c9 = s.heap[q] := by
    rw [hs] at e2
    exact e2
  have e5 : U.heap[q]? = some c9 := e1
  rw [e5, h9, Array.getElem?_eq_getElem hq]
/-- the words of a throw but the four that speak of the heap -/
def vx_no (w : Cond) : Bool := decide (w ≠ .isRef (.static Bundle.tN "UNASSIGNED_STACK" Bundle.steD)) && decide (w ≠ .isRef (.static Bundle.tN "SUPPRESSED_SENTINEL" Bundle.listD)) && decide (w ≠ .laysStatic Bundle.tN "UNASSIGNED_STACK" Bundle.steD) && decide (w ≠ .laysStatic Bundle.tN "SUPPRESSED_SENTINEL" Bundle.listD)
def vx_at0 (own : String) (ic : Nat) (X : String) (names : List String) : List Cond := (Bundle.ownAtoms0 own ic X names).filter vx_no
def vx_atS (own : String) (ic : Nat) (X : String) (names : List String) : List Cond := (Bundle.ownAtoms own ic X names).filter vx_no
/-- a word that the tables alone decide, or a good one -/
def vx_ot (w : Cond) : Bool := w.onTables || goodWord w
theorem vx_ot_at {args a' : Array Value} {s U : State} {w : Cond} (hW : s.WarmedH U.vm) (hvm : s.vm = U.vm) (hg : vx_ot w = true) (h : w.before args s = true) : w.before a' U = true := by
  simp only [vx_ot, Bool.or_eq_true] at hg
  rcases hg with hg | hg
  · exact va_tabs hg hvm h
  · exact word_at hW (good_of_word hg) h
/-- a list's words: the good ones out of the method's own list, the others by premises of their own -/
theorem vx_hat {args : Array Value} {s : State} {L B : List Cond} (h1 : ∀ w ∈ L.filter goodWord, w.before args s = true) (h2 : ∀ w ∈ L.filter (fun w => !goodWord w), w ∈ B) (h3 : ∀ w ∈ B, w.before args s = true) : ∀ w ∈ L, w.before args s = true := by
  intro w hw
  by_cases g : goodWord w = true
  · exact h1 w (List.mem_filter.mpr ⟨hw, g⟩)
  · refine h3 w (h2 w (List.mem_filter.mpr ⟨hw, ?_⟩))
    show (!goodWord w) = true
    cases hgw : goodWord w
    · rfl
    · exact absurd hgw g
theorem vx_c {args : Array Value} {s : State} {w : Cond} {B : List Cond} (h : w.before args s = true) (t : ∀ w ∈ B, w.before args s = true) : ∀ w' ∈ w :: B, w'.before args s = true := fun w' h' => (List.mem_cons.mp h').elim (fun e => by rw [e]; exact h) (t w')
theorem vx_n {args : Array Value} {s : State} : ∀ w ∈ ([] : List Cond), w.before args s = true := fun _ h => nomatch h
theorem vx_own {args : Array Value} {s : State} {L : List Cond} (h1 : ∀ w ∈ L.filter vx_no, w.before args s = true)
    (hU : (Cond.isRef (.static Bundle.tN "UNASSIGNED_STACK" Bundle.steD)).before args s = true) (hN : (Cond.isRef (.static Bundle.tN "SUPPRESSED_SENTINEL" Bundle.listD)).before args s = true)
    (lU : (Cond.laysStatic Bundle.tN "UNASSIGNED_STACK" Bundle.steD).before args s = true) (lN : (Cond.laysStatic Bundle.tN "SUPPRESSED_SENTINEL" Bundle.listD).before args s = true) : ∀ w ∈ L, w.before args s = true := by
  intro w hw
  by_cases e1 : w = .isRef (.static Bundle.tN "UNASSIGNED_STACK" Bundle.steD)
  · rw [e1]; exact hU
  · by_cases e2 : w = .isRef (.static Bundle.tN "SUPPRESSED_SENTINEL" Bundle.listD)
    · rw [e2]; exact hN
    · by_cases e3 : w = .laysStatic Bundle.tN "UNASSIGNED_STACK" Bundle.steD
      · rw [e3]; exact lU
      · by_cases e4 : w = .laysStatic Bundle.tN "SUPPRESSED_SENTINEL" Bundle.listD
        · rw [e4]; exact lN
        · exact h1 w (List.mem_filter.mpr ⟨hw, by unfold vx_no; rw [decide_eq_true e1, decide_eq_true e2, decide_eq_true e3, decide_eq_true e4]; rfl⟩)
/-- where a static field lies, its class's statics cell in H -/
def vx_L (C n d : String) (A : Nat → Prop) (U : State) (H : Heap) : Prop := ∃ (c : ClassId) (k : Class) (i : Nat) (f : Field) (a : Nat) (cell : Cell), U.vm.findClass C = some c ∧ U.fieldFound? C n d = some (c, k, i, f) ∧ f.isStatic = true ∧ k.statics = some a ∧ H[a]? = some cell ∧ cell.vm.isStatics = true ∧ cell.cls = c ∧ f.slot < cell.slots.size ∧ k.staticTypes[f.slot]? = some f.type ∧ ¬ A a
theorem vx_L.moved {C n d : String} {A : Nat → Prop} {u U : State} {H : Heap} (hvm : u.vm.Alike U.vm) (h : vx_L C n d A u H) : vx_L C n d A U H := by
  obtain ⟨c, k, i, f, a, cell, h1, h2, h3, h4, h5, h6, h7, h8, h9, h10⟩ := h
  obtain ⟨k', hi', he⟩ := State.fieldFound?_setVm hvm h2
  exact ⟨c, k', i, f, a, cell, by rw [hvm.findClass]; exact h1, hi', h3, by rw [he]; exact h4, h5, h6, h7, h8, by rw [he]; exact h9, h10⟩
theorem vx_L.kept {C n d : String} {A : Nat → Prop} {U : State} {H H1 : Heap} (h : vx_L C n d A U H) (hq : ∀ a : Nat, a < H.size → ¬ A a → H1[a]? = H[a]?) : vx_L C n d A U H1 := by
  obtain ⟨c, k, i, f, a, cell, h1, h2, h3, h4, h5, h6, h7, h8, h9, h10⟩ := h
  exact ⟨c, k, i, f, a, cell, h1, h2, h3, h4, by rw [hq a (Array.getElem?_eq_some_iff.mp h5).1 h10]; exact h5, h6, h7, h8, h9, h10⟩
theorem vx_L.narrow {C n d : String} {A B : Nat → Prop} {U : State} {H : Heap} (h : vx_L C n d A U H) (hAB : ∀ q, B q → A q) : vx_L C n d B U H := by
  obtain ⟨c, k, i, f, a, cell, h1, h2, h3, h4, h5, h6, h7, h8, h9, h10⟩ := h
  exact ⟨c, k, i, f, a, cell, h1, h2, h3, h4, h5, h6, h7, h8, h9, fun z => h10 (hAB _ z)⟩
theorem vx_L.word {C n d : String} {A : Nat → Prop} {s : State} {args : Array Value} (h : vx_L C n d A s s.heap) : (Cond.laysStatic C n d).before args s = true := by
  obtain ⟨c, k, i, f, a, cell, h1, h2, h3, h4, h5, h6, h7, h8, h9, -⟩ := h
  show (Cond.laysStatic C n d).holds args s none s [] = true
  exact Cond.laysStatic_of h1 h2 h3 h4 h5 h6 h7 h8 h9
/-- .. and what it holds: null or some reference -/
def vx_Zq (C n d : String) (A : Nat → Prop) (U : State) (H : Heap) : Prop := va_Zq C n d A U H ∧ vx_L C n d A U H
theorem vx_Zq.moved {C n d : String} {A : Nat → Prop} {u U : State} {H : Heap} (hvm : u.vm.Alike U.vm) (h : vx_Zq C n d A u H) : vx_Zq C n d A U H := ⟨va_Zq.moved hvm h.1, vx_L.moved hvm h.2⟩
theorem vx_Zq.kept {C n d : String} {A : Nat → Prop} {U : State} {H H1 : Heap} (h : vx_Zq C n d A U H) (hq : ∀ a : Nat, a < H.size → ¬ A a → H1[a]? = H[a]?) : vx_Zq C n d A U H1 := ⟨va_Zq.kept h.1 hq, vx_L.kept h.2 hq⟩
theorem vx_Zq.narrow {C n d : String} {A B : Nat → Prop} {U : State} {H : Heap} (h : vx_Zq C n d A U H) (hAB : ∀ q, B q → A q) : vx_Zq C n d B U H := ⟨va_Zq.narrow h.1 hAB, vx_L.narrow h.2 hAB⟩
theorem vx_Zqof {args : Array Value} {s : State} {C n d : String} {A : Nat → Prop} (hl : (Cond.laysStatic C n d).before args s = true) (hini : (Cond.initialized C).before args s = true) (h : (Cond.isRef (.static C n d)).before args s = true) (hA : ∀ a : Nat, a < s.heap.size → ¬ A a) : vx_Zq C n d A s s.heap := by
  refine ⟨va_Zqof hl hini h hA, ?_⟩
  obtain ⟨c, k, i, f, a, cell, h1, h2, h3, h4, h5, h6, h7, h8, h9⟩ := Cond.laysStatic_spec hl
  exact ⟨c, k, i, f, a, cell, h1, h2, h3, h4, h5, h6, h7, h8, h9, hA a (Array.getElem?_eq_some_iff.mp h5).1⟩
theorem vx_isRef {C n d : String} {v : Value} {A : Nat → Prop} {s : State} {args : Array Value} (h : va_Z C n d v A s s.heap) (hv : v.isRef = true) : (Cond.isRef (.static C n d)).before args s = true := by
  obtain ⟨cf, kf, fi, f, a, cell, h1, h2, h3, h4, h5, h6, h7, -⟩ := h
  have he : (Term.static C n d).eval args s none [] s = some v := by
    simp [Term.eval, State.fieldNamed?, h1, h2, h4, h5, h6, h7]
  simp only [Cond.before, Cond.holds, Cond.value, he]
  cases v <;> simp_all [Value.isRef]
theorem vx_isRefq {C n d : String} {A : Nat → Prop} {s : State} {args : Array Value} (h : va_Zq C n d A s s.heap) : (Cond.isRef (.static C n d)).before args s = true := by
  rcases h with h | ⟨t, h⟩
  · exact vx_isRef h rfl
  · exact vx_isRef h rfl
/-- the same frame, seen from here: as if the method were called anew in this heap -/
theorem vx_rebase {T : State} (X : Stand p l e R s m args below meth c T locs cells slots) {R' : Room} (hf : R'.frames ≤ R.frames) (hl : R'.locals ≤ R.locals) (hc : cells + R'.cells ≤ R.cells) (hs : slots + R'.slots ≤ R.slots) :
    Stand p l e R' ((T.setVm s.vm).setFrames (.invoking m args :: below)) m args below meth c T [] 0 0 := by
  have htop : (T.setVm s.vm).topJava?.isSome := X.here.top
  have hF : ((T.setVm s.vm).setFrames (.invoking m args :: below)).frames = .invoking m args :: below := State.frames_setFrames _ (State.cur_lt_of_top htop)
  obtain ⟨g₀, hg0⟩ := Option.isSome_iff_exists.mp htop
  obtain ⟨r, hr⟩ := State.topJava?_eq_some.mp hg0
  have hl9 : e.platform.stackLimits (T.setVm s.vm).me = e.platform.stackLimits s.me := X.limits
  have hb9 : (T.setVm s.vm).me.stackBytes = s.me.stackBytes := X.bytes
  refine ⟨X.admits, X.cas, X.clock, hF, ?_, X.hears, X.method, X.code, X.here, X.tail, X.warmed, ?_, ?_, ?_⟩
  · have h := X.room
    have hU : ((T.setVm s.vm).setFrames (.invoking m args :: below)).localsInUse = s.localsInUse := by
      rw [State.localsInUse_invoking hF (meth := meth) (c := c) X.method X.code, State.localsInUse_invoking X.frames X.method X.code]
    simp only [State.hasRoom, Bool.and_eq_true, decide_eq_true_eq] at h ⊢
    obtain ⟨⟨⟨⟨h1, h2, h3, h4, h5, h6⟩, h7⟩, h8⟩, h9⟩ := h
    rw [X.frames, List.length_cons] at h2 h3
    have q1 := X.heapSize
    have q2 := X.used
    simp only [hF, hU, List.length_cons, State.stackLimits_setFrames, State.stackBytes_setFrames, hl9, hb9]
    refine ⟨⟨⟨⟨by omega, by omega, by omega, by omega, by omega, h6⟩, ?_⟩, ?_⟩, X.book⟩
    · show T.heap.size + R'.cells ≤ e.platform.maxCells
      omega
    · show T.slotsUsed + R'.slots ≤ e.platform.maxSlots
      omega
  · rw [State.stackLimits_setFrames]; rfl
  · rw [State.stackBytes_setFrames]; rfl
  · refine ⟨?_, Nat.le_refl _, Nat.le_refl _, ?_, ?_, fun a c9 h9 => ⟨c9, h9, rfl, rfl, fun _ _ => rfl⟩⟩
    · obtain ⟨t, ht, -⟩ := State.frames_cons hr
      show T.setVm s.vm = { ((T.setVm s.vm).setFrames (.invoking m args :: below)).setFrames (T.setVm s.vm).frames with heap := T.heap, slotsUsed := T.slotsUsed }
      rw [State.setFrames_setFrames, State.setFrames_self ht]
      rfl
    · show T.slotsUsed = T.slotsUsed + ((T.heap.toList.drop T.heap.size).map (·.slots.size)).sum
      rw [List.drop_eq_nil_of_le (Nat.le_of_eq Array.length_toList)]
      rfl
    · show ((T.heap.toList.drop T.heap.size).map (·.slots.size)).sum ≤ 0
      rw [List.drop_eq_nil_of_le (Nat.le_of_eq Array.length_toList)]
      exact Nat.le_refl _
/-- 'throw new E()': new; dup; invokespecial; athrow -/
theorem vx_throw0 {cc : ByteArray} {pc : Nat} (hexec : p.tables.exec = Jvm.exec) (hb : c.code = cc) (hl : l.stackTraces = false) {own cls : String} {names : List String} {ik ic mc ms : Nat} {A : Nat → Prop}
    (hown : s.vm.findClass own = some m.cls) (hcls : Bundle.fit cls = true) (hnames : ∀ n ∈ names, Bundle.fit n = true)
    (hk : (Cond.classLink own ik cls).before args s = true) (hini : (Cond.initialized cls).before args s = true) (hat : ∀ w ∈ vx_at0 own ic cls names, w.before args s = true)
    (hgood : ∀ w ∈ Cond.classLink own ik cls :: Cond.initialized cls :: vx_at0 own ic cls names, vx_ot w = true)
    (hU : vx_Zq Bundle.tN "UNASSIGNED_STACK" Bundle.steD A s s.heap) (hN : vx_Zq Bundle.tN "SUPPRESSED_SENTINEL" Bundle.listD A s s.heap) (hS : va_S A s.heap H locs) (hsize : ls.size = c.maxLocals)
    (d0 : decode cc pc = .ok (.new ik, 3)) (d3 : decode cc (pc + 3) = .ok (.dup, 1)) (d4 : decode cc (pc + 4) = .ok (.invokespecial ic, 3)) (d7 : decode cc (pc + 7) = .ok (.athrow, 1))
    (hout : ∀ x ∈ c.exceptionTable.toList, covers x (pc + 7) = false)
    (hRframes : names.length + 3 < R.frames) (hRlocals : (rest.map fun v => v.category).sum + (13 * (names.length + 1) + 42) ≤ R.locals) (hRcells : cells + 1 ≤ R.cells) (hRslots : slots + 6 ≤ R.slots) (hlocks : meth.locks = false)
    (hx : ∀ t : State, s.vm.Alike t.vm → H.size ≤ t.heap.size → (∀ q : Nat, q < H.size → t.heap[q]? = H[q]?) → XC cls s t)
    (hf : ∀ z ∈ locs, free z.base) (hc : cells + 1 ≤ mc) (hs : slots + 6 ≤ ms) :
    W p l e R s m args below meth c H locs cells slots (vx_MQ below Qc XC args s mc ms free) (F0 m pc ls rest) := by
  intro T hT X
  have htr : e.platform.stackTraces = false := (show e.platform.stackTraces = l.stackTraces by rw [X.admits.platform]).trans hl
  have Y := vx_rebase X (R' := { frames := R.frames, locals := R.locals, cells := 1, slots := 6 }) (Nat.le_refl _) (Nat.le_refl _) hRcells hRslots
  obtain ⟨s', hA⟩ : ∃ z, z = (T.setVm s.vm).setFrames (.invoking m args :: below) := ⟨_, rfl⟩
  rw [← hA] at Y
  have hvm : s'.vm = s.vm := by rw [hA]; rfl
  have hhp : s'.heap = H := by rw [hA]; exact hT
  have hW0 : s.WarmedH s'.vm := by rw [hvm]; exact State.WarmedH.refl s
  have hat' : ∀ w ∈ vx_at0 own ic cls names, w.before args s' = true := fun w hw => vx_ot_at hW0 hvm.symm (hgood w (List.mem_cons_of_mem _ (List.mem_cons_of_mem _ hw))) (hat w hw)
  have hk' : (Cond.classLink own ik cls).before args s' = true := vx_ot_at hW0 hvm.symm (hgood _ List.mem_cons_self) hk
  have hini' : (Cond.initialized cls).before args s' = true := vx_ot_at hW0 hvm.symm (hgood _ (List.mem_cons_of_mem _ List.mem_cons_self)) hini
  have hU' : vx_Zq Bundle.tN "UNASSIGNED_STACK" Bundle.steD A s' s'.heap := by rw [hhp]; exact vx_Zq.moved hW0.alike (hU.kept hS.2.1)
  have hN' : vx_Zq Bundle.tN "SUPPRESSED_SENTINEL" Bundle.listD A s' s'.heap := by rw [hhp]; exact vx_Zq.moved hW0.alike (hN.kept hS.2.1)
  have h : ∀ w ∈ Bundle.ownAtoms0 own ic cls names, w.before args s' = true := vx_own hat' (vx_isRefq hU'.1) (vx_isRefq hN'.1) hU'.2.word hN'.2.word
  have hown' : s'.vm.findClass own = some m.cls := by rw [hvm]; exact hown
  have hins : (Cond.instantiable cls 6).before args s' = true := h _ (by simp [Bundle.ownAtoms0])
  obtain ⟨vm₁, cX, kX, hfX, hkX, -, -, X₁, st1⟩ := Y.newCold hexec (own := own) (C := cls) (index := ik) (n := 6) hown' hk' hins hini'
    (g := F0 m pc ls rest) rfl (by rw [hb]; exact d0) (Nat.le_refl _) (Nat.le_refl _)
  generalize hT1 : (T.setVm vm₁).pushCell { cls := cX, slots := kX.instanceTypes.map defaultValue, vm := .none } = T1 at X₁ st1
  have hcat : (Value.ref T.heap.size).category = 1 := rfl
  have hcellA : T1.heap[T.heap.size]? = some (freshCell cX kX) := by rw [← hT1]; exact State.heap_pushCell_size _ _
  have d3' : decode c.code (pc + 3) = .ok (.dup, 1) := by rw [hb]; exact d3
  obtain ⟨U, hsteps, hrun, hend, hW, hsame, ce, hce, hO⟩ := X₁.ctorThrow0 hexec htr (own := own) (cls := cls) (names := names) (ic := ic) hown' hcls hnames h (fun x hx => nomatch hx) hfX hkX hcellA (by rw [hhp, hT]; exact Nat.le_refl _)
    (g := { method := m, pc := pc + 4, locals := ls, stack := .ref T.heap.size :: .ref T.heap.size :: rest, locked := none }) rfl hsize rfl rfl (rest := rest) rfl
    (by rw [hb]; exact d4) (by rw [hb]; exact d7) hout hRframes (by simp only [List.map_cons, List.sum_cons, hcat]; omega) hlocks
  obtain ⟨f1, f2⟩ := vx_frame hsame
  rw [hhp] at f1 f2
  have hWs : s.WarmedH U.vm := State.WarmedH.trans hW0 hW
  have hcl : s.vm.findClass cls = some ce.cls := by
    have h9 := hO.cls
    rw [hvm] at h9
    exact h9
  have hall : s.sameButNew ({ U with vm := s.vm } : State) locs mc ms := by
    subst hA
    obtain ⟨e1, e2⟩ := hsame
    rw [State.setFrames_setFrames] at e1
    have h2 : (T.setVm s.vm).sameButNew ({ U with vm := s.vm } : State) [] (0 + 1) (0 + 6) := ⟨e1, e2⟩
    have h3 := X.same.trans h2
    rw [List.append_nil] at h3
    exact h3.mono hc hs
  refine ⟨U, ?_, .threw T.heap.size, hrun, hend, Or.inr ⟨T.heap.size, rfl, cls, ce, locs, hx U hWs.alike f1 (fun q hq => f2 q hq (fun z hz => nomatch hz)), hce, hO.vm, hcl, hWs, hall, hf⟩⟩
  refine st1 _ ?_
  show Steps p.tables e below (T1.setTop { method := m, pc := pc + 3, locals := ls, stack := .ref T.heap.size :: rest, locked := none }) _
  jvm_step X₁.here [X₁.here.top, hexec, d3', Value.category]
  exact hsteps
/-- 'throw new E("text")': new; dup; ldc; invokespecial; athrow -/
theorem vx_throwS {cc : ByteArray} {pc : Nat} (hexec : p.tables.exec = Jvm.exec) (hb : c.code = cc) (hl : l.stackTraces = false) {own cls text : String} {names : List String} {ik is ic mc ms sa : Nat} {A : Nat → Prop}
    (hown : s.vm.findClass own = some m.cls) (hcls : Bundle.fit cls = true) (hnames : ∀ n ∈ names, Bundle.fit n = true)
    (hk : (Cond.classLink own ik cls).before args s = true) (hini : (Cond.initialized cls).before args s = true) (hstr : vk_R own is text sa s) (hat : ∀ w ∈ vx_atS own ic cls names, w.before args s = true)
    (hgood : ∀ w ∈ Cond.classLink own ik cls :: Cond.initialized cls :: vx_atS own ic cls names, vx_ot w = true)
    (hU : vx_Zq Bundle.tN "UNASSIGNED_STACK" Bundle.steD A s s.heap) (hN : vx_Zq Bundle.tN "SUPPRESSED_SENTINEL" Bundle.listD A s s.heap) (hS : va_S A s.heap H locs) (hsize : ls.size = c.maxLocals)
    (d0 : decode cc pc = .ok (.new ik, 3)) (d3 : decode cc (pc + 3) = .ok (.dup, 1)) (d4 : decode cc (pc + 4) = .ok (.ldc is, 2)) (d6 : decode cc (pc + 6) = .ok (.invokespecial ic, 3)) (d9 : decode cc (pc + 9) = .ok (.athrow, 1))
    (hout : ∀ x ∈ c.exceptionTable.toList, covers x (pc + 9) = false)
    (hRframes : names.length + 3 < R.frames) (hRlocals : (rest.map fun v => v.category).sum + (13 * (names.length + 1) + 43) ≤ R.locals) (hRcells : cells + 1 ≤ R.cells) (hRslots : slots + 6 ≤ R.slots) (hlocks : meth.locks = false)
    (hx : ∀ t : State, s.vm.Alike t.vm → H.size ≤ t.heap.size → (∀ q : Nat, q < H.size → t.heap[q]? = H[q]?) → XC cls s t)
    (hf : ∀ z ∈ locs, free z.base) (hc : cells + 1 ≤ mc) (hs : slots + 6 ≤ ms) :
    W p l e R s m args below meth c H locs cells slots (vx_MQ below Qc XC args s mc ms free) (F0 m pc ls rest) := by
  intro T hT X
  have htr : e.platform.stackTraces = false := (show e.platform.stackTraces = l.stackTraces by rw [X.admits.platform]).trans hl
  have Y := vx_rebase X (R' := { frames := R.frames, locals := R.locals, cells := 1, slots := 6 }) (Nat.le_refl _) (Nat.le_refl _) hRcells hRslots
  obtain ⟨s', hA⟩ : ∃ z, z = (T.setVm s.vm).setFrames (.invoking m args :: below) := ⟨_, rfl⟩
  rw [← hA] at Y
  have hvm : s'.vm = s.vm := by rw [hA]; rfl
  have hhp : s'.heap = H := by rw [hA]; exact hT
  have hW0 : s.WarmedH s'.vm := by rw [hvm]; exact State.WarmedH.refl s
  have hat' : ∀ w ∈ vx_atS own ic cls names, w.before args s' = true := fun w hw => vx_ot_at hW0 hvm.symm (hgood w (List.mem_cons_of_mem _ (List.mem_cons_of_mem _ hw))) (hat w hw)
  have hk' : (Cond.classLink own ik cls).before args s' = true := vx_ot_at hW0 hvm.symm (hgood _ List.mem_cons_self) hk
  have hini' : (Cond.initialized cls).before args s' = true := vx_ot_at hW0 hvm.symm (hgood _ (List.mem_cons_of_mem _ List.mem_cons_self)) hini
  have hU' : vx_Zq Bundle.tN "UNASSIGNED_STACK" Bundle.steD A s' s'.heap := by rw [hhp]; exact vx_Zq.moved hW0.alike (hU.kept hS.2.1)
  have hN' : vx_Zq Bundle.tN "SUPPRESSED_SENTINEL" Bundle.listD A s' s'.heap := by rw [hhp]; exact vx_Zq.moved hW0.alike (hN.kept hS.2.1)
  have h : ∀ w ∈ Bundle.ownAtoms own ic cls names, w.before args s' = true := vx_own hat' (vx_isRefq hU'.1) (vx_isRefq hN'.1) hU'.2.word hN'.2.word
  have hown' : s'.vm.findClass own = some m.cls := by rw [hvm]; exact hown
  have hins : (Cond.instantiable cls 6).before args s' = true := h _ (by simp [Bundle.ownAtoms])
  obtain ⟨vm₁, cX, kX, hfX, hkX, -, -, X₁, st1⟩ := Y.newCold hexec (own := own) (C := cls) (index := ik) (n := 6) hown' hk' hins hini'
    (g := F0 m pc ls rest) rfl (by rw [hb]; exact d0) (Nat.le_refl _) (Nat.le_refl _)
  generalize hT1 : (T.setVm vm₁).pushCell { cls := cX, slots := kX.instanceTypes.map defaultValue, vm := .none } = T1 at X₁ st1
  have hcat : (Value.ref T.heap.size).category = 1 := rfl
  have hcellA : T1.heap[T.heap.size]? = some (freshCell cX kX) := by rw [← hT1]; exact State.heap_pushCell_size _ _
  have d3' : decode c.code (pc + 3) = .ok (.dup, 1) := by rw [hb]; exact d3
  have d4' : decode c.code (pc + 4) = .ok (.ldc is, 2) := by rw [hb]; exact d4
  have hstr' : vk_R own is text sa s' := vk_R.warm hW0 hstr
  obtain ⟨U, hsteps, hrun, hend, hW, hsame, ce, hce, hO⟩ := X₁.ctorThrowS hexec htr (own := own) (cls := cls) (names := names) (ic := ic) hown' hcls hnames h (fun x hx => nomatch hx) hfX hkX hcellA (by rw [hhp, hT]; exact Nat.le_refl _) (msg := .ref sa) rfl
    (g := { method := m, pc := pc + 6, locals := ls, stack := .ref sa :: .ref T.heap.size :: .ref T.heap.size :: rest, locked := none }) rfl hsize rfl rfl (rest := rest) rfl
    (by rw [hb]; exact d6) (by rw [hb]; exact d9) hout hRframes (by simp only [List.map_cons, List.sum_cons, hcat]; omega) hlocks
  obtain ⟨f1, f2⟩ := vx_frame hsame
  rw [hhp] at f1 f2
  have hWs : s.WarmedH U.vm := State.WarmedH.trans hW0 hW
  have hcl : s.vm.findClass cls = some ce.cls := by
    have h9 := hO.cls
    rw [hvm] at h9
    exact h9
  have hall : s.sameButNew ({ U with vm := s.vm } : State) locs mc ms := by
    subst hA
    obtain ⟨e1, e2⟩ := hsame
    rw [State.setFrames_setFrames] at e1
    have h2 : (T.setVm s.vm).sameButNew ({ U with vm := s.vm } : State) [] (0 + 1) (0 + 6) := ⟨e1, e2⟩
    have h3 := X.same.trans h2
    rw [List.append_nil] at h3
    exact h3.mono hc hs
  refine ⟨U, ?_, .threw T.heap.size, hrun, hend, Or.inr ⟨T.heap.size, rfl, cls, ce, locs, hx U hWs.alike f1 (fun q hq => f2 q hq (fun z hz => nomatch hz)), hce, hO.vm, hcl, hWs, hall, hf⟩⟩
  refine st1 _ ?_
  show Steps p.tables e below (T1.setTop { method := m, pc := pc + 3, locals := ls, stack := .ref T.heap.size :: rest, locked := none }) _
  jvm_step X₁.here [X₁.here.top, hexec, d3', Value.category]
  exact X₁.ldcString hexec (own := own) (text := text) (index := is) (a := sa) hown' hstr'.1 hstr'.2
    (g := { method := m, pc := pc + 4, locals := ls, stack := .ref T.heap.size :: .ref T.heap.size :: rest, locked := none }) rfl d4' _ hsteps
/-- 'throw new E("text")', the text by a wide index -/
theorem vx_throwSW {cc : ByteArray} {pc : Nat} (hexec : p.tables.exec = Jvm.exec) (hb : c.code = cc) (hl : l.stackTraces = false) {own cls text : String} {names : List String} {ik is ic mc ms sa : Nat} {A : Nat → Prop}
    (hown : s.vm.findClass own = some m.cls) (hcls : Bundle.fit cls = true) (hnames : ∀ n ∈ names, Bundle.fit n = true)
    (hk : (Cond.classLink own ik cls).before args s = true) (hini : (Cond.initialized cls).before args s = true) (hstr : vk_R own is text sa s) (hat : ∀ w ∈ vx_atS own ic cls names, w.before args s = true)
    (hgood : ∀ w ∈ Cond.classLink own ik cls :: Cond.initialized cls :: vx_atS own ic cls names, vx_ot w = true)
    (hU : vx_Zq Bundle.tN "UNASSIGNED_STACK" Bundle.steD A s s.heap) (hN : vx_Zq Bundle.tN "SUPPRESSED_SENTINEL" Bundle.listD A s s.heap) (hS : va_S A s.heap H locs) (hsize : ls.size = c.maxLocals)
    (d0 : decode cc pc = .ok (.new ik, 3)) (d3 : decode cc (pc + 3) = .ok (.dup, 1)) (d4 : decode cc (pc + 4) = .ok (.ldc_w is, 3)) (d7 : decode cc (pc + 7) = .ok (.invokespecial ic, 3)) (d10 : decode cc (pc + 10) = .ok (.athrow, 1))
    (hout : ∀ x ∈ c.exceptionTable.toList, covers x (pc + 10) = false)
    (hRframes : names.length + 3 < R.frames) (hRlocals : (rest.map fun v => v.category).sum + (13 * (names.length + 1) + 43) ≤ R.locals) (hRcells : cells + 1 ≤ R.cells) (hRslots : slots + 6 ≤ R.slots) (hlocks : meth.locks = false)
    (hx : ∀ t : State, s.vm.Alike t.vm → H.size ≤ t.heap.size → (∀ q : Nat, q < H.size → t.heap[q]? = H[q]?) → XC cls s t)
    (hf : ∀ z ∈ locs, free z.base) (hc : cells + 1 ≤ mc) (hs : slots + 6 ≤ ms) :
    W p l e R s m args below meth c H locs cells slots (vx_MQ below Qc XC args s mc ms free) (F0 m pc ls rest) := by
  intro T hT X
  have htr : e.platform.stackTraces = false := (show e.platform.stackTraces = l.stackTraces by rw [X.admits.platform]).trans hl
  have Y := vx_rebase X (R' := { frames := R.frames, locals := R.locals, cells := 1, slots := 6 }) (Nat.le_refl _) (Nat.le_refl _) hRcells hRslots
  obtain ⟨s', hA⟩ : ∃ z, z = (T.setVm s.vm).setFrames (.invoking m args :: below) := ⟨_, rfl⟩
  rw [← hA] at Y
  have hvm : s'.vm = s.vm := by rw [hA]; rfl
  have hhp : s'.heap = H := by rw [hA]; exact hT
  have hW0 : s.WarmedH s'.vm := by rw [hvm]; exact State.WarmedH.refl s
  have hat' : ∀ w ∈ vx_atS own ic cls names, w.before args s' = true := fun w hw => vx_ot_at hW0 hvm.symm (hgood w (List.mem_cons_of_mem _ (List.mem_cons_of_mem _ hw))) (hat w hw)
  have hk' : (Cond.classLink own ik cls).before args s' = true := vx_ot_at hW0 hvm.symm (hgood _ List.mem_cons_self) hk
  have hini' : (Cond.initialized cls).before args s' = true := vx_ot_at hW0 hvm.symm (hgood _ (List.mem_cons_of_mem _ List.mem_cons_self)) hini
  have hU' : vx_Zq Bundle.tN "UNASSIGNED_STACK" Bundle.steD A s' s'.heap := by rw [hhp]; exact vx_Zq.moved hW0.alike (hU.kept hS.2.1)
  have hN' : vx_Zq Bundle.tN "SUPPRESSED_SENTINEL" Bundle.listD A s' s'.heap := by rw [hhp]; exact vx_Zq.moved hW0.alike (hN.kept hS.2.1)
  have h : ∀ w ∈ Bundle.ownAtoms own ic cls names, w.before args s' = true := vx_own hat' (vx_isRefq hU'.1) (vx_isRefq hN'.1) hU'.2.word hN'.2.word
  have hown' : s'.vm.findClass own = some m.cls := by rw [hvm]; exact hown
  have hins : (Cond.instantiable cls 6).before args s' = true := h _ (by simp [Bundle.ownAtoms])
  obtain ⟨vm₁, cX, kX, hfX, hkX, -, -, X₁, st1⟩ := Y.newCold hexec (own := own) (C := cls) (index := ik) (n := 6) hown' hk' hins hini'
    (g := F0 m pc ls rest) rfl (by rw [hb]; exact d0) (Nat.le_refl _) (Nat.le_refl _)
  generalize hT1 : (T.setVm vm₁).pushCell { cls := cX, slots := kX.instanceTypes.map defaultValue, vm := .none } = T1 at X₁ st1
  have hcat : (Value.ref T.heap.size).category = 1 := rfl
  have hcellA : T1.heap[T.heap.size]? = some (freshCell cX kX) := by rw [← hT1]; exact State.heap_pushCell_size _ _
  have d3' : decode c.code (pc + 3) = .ok (.dup, 1) := by rw [hb]; exact d3
  have d4' : decode c.code (pc + 4) = .ok (.ldc_w is, 3) := by rw [hb]; exact d4
  have hstr' : vk_R own is text sa s' := vk_R.warm hW0 hstr
  obtain ⟨U, hsteps, hrun, hend, hW, hsame, ce, hce, hO⟩ := X₁.ctorThrowS hexec htr (own := own) (cls := cls) (names := names) (ic := ic) hown' hcls hnames h (fun x hx => nomatch hx) hfX hkX hcellA (by rw [hhp, hT]; exact Nat.le_refl _) (msg := .ref sa) rfl
    (g := { method := m, pc := pc + 7, locals := ls, stack := .ref sa :: .ref T.heap.size :: .ref T.heap.size :: rest, locked := none }) rfl hsize rfl rfl (rest := rest) rfl
    (by rw [hb]; exact d7) (by rw [hb]; exact d10) hout hRframes (by simp only [List.map_cons, List.sum_cons, hcat]; omega) hlocks
  obtain ⟨f1, f2⟩ := vx_frame hsame
  rw [hhp] at f1 f2
  have hWs : s.WarmedH U.vm := State.WarmedH.trans hW0 hW
  have hcl : s.vm.findClass cls = some ce.cls := by
    have h9 := hO.cls
    rw [hvm] at h9
    exact h9
  have hall : s.sameButNew ({ U with vm := s.vm } : State) locs mc ms := by
    subst hA
    obtain ⟨e1, e2⟩ := hsame
    rw [State.setFrames_setFrames] at e1
    have h2 : (T.setVm s.vm).sameButNew ({ U with vm := s.vm } : State) [] (0 + 1) (0 + 6) := ⟨e1, e2⟩
    have h3 := X.same.trans h2
    rw [List.append_nil] at h3
    exact h3.mono hc hs
  refine ⟨U, ?_, .threw T.heap.size, hrun, hend, Or.inr ⟨T.heap.size, rfl, cls, ce, locs, hx U hWs.alike f1 (fun q hq => f2 q hq (fun z hz => nomatch hz)), hce, hO.vm, hcl, hWs, hall, hf⟩⟩
  refine st1 _ ?_
  show Steps p.tables e below (T1.setTop { method := m, pc := pc + 3, locals := ls, stack := .ref T.heap.size :: rest, locked := none }) _
  jvm_step X₁.here [X₁.here.top, hexec, d3', Value.category]
  exact X₁.ldcStringW hexec (own := own) (text := text) (index := is) (a := sa) hown' hstr'.1 hstr'.2
    (g := { method := m, pc := pc + 4, locals := ls, stack := .ref T.heap.size :: .ref T.heap.size :: rest, locked := none }) rfl d4' _ hsteps
end Ends
section Bodies
variable {l : Launch}
theorem vx_ofW {y : MethodName} {ws ws' : List Cond} {rm : Room} {Pc : Array Value → State → Prop} {Qc : Array Value → State → Outcome → State → Prop} {XC : String → State → State → Prop} {mc ms : Nat} {free : Addr → Prop} {cc : ByteArray} {maxL : Nat} {ret : Option FieldType}
    (hy : plainName y.cls = true) (hw : ws = Cond.code y cc maxL ret :: ws')
    (body : ∀ p e s m args below meth c s₁, BodyLoose p l y (headSpec ws rm) cc maxL ret e s m args below meth c s₁ → c.maxLocals = maxL → (∀ x ∈ c.exceptionTable.toList, False) → Pc args s →
      W p l e (headSpec ws rm).room s m args below meth c s.heap [] 0 0 (vx_MQ below Qc XC args s mc ms free) (entryFrame m args maxL)) : vx_Met l y ws rm Pc Qc XC mc ms free := by
  refine MetFree.of_bodyS (code := cc) (maxLocals := maxL) (ret := ret) hy ?_ ?_
  · intro args s m h hn
    obtain ⟨meth, c, h1, h2, h3, h4, h5, h6, -, -⟩ := Cond.code_spec hn (atoms_spec (ws := ws) h _ (by rw [hw]; exact List.mem_cons_self))
    exact ⟨meth, c, h1, h2, h3, h4, h5, h6⟩
  · intro p e s m args below meth c s₁ B hml hP _
    have hh0 : s₁.heap = s.heap := by rw [B.state]; rfl
    have ht : ∀ x ∈ c.exceptionTable.toList, False := by
      obtain ⟨meth9, c9, h1, h2, -, -, -, -, h7, -⟩ := Cond.code_spec B.named (atoms_spec (ws := ws) B.pre _ (by rw [hw]; exact List.mem_cons_self))
      cases Option.some.inj (h1.symm.trans B.method)
      cases Option.some.inj (h2.symm.trans (Stand.of_body B).code)
      intro x hx
      rw [Array.isEmpty_iff.mp h7] at hx
      cases hx
    obtain ⟨t, a1, o, b1, b2, b3⟩ := body p e s m args below meth c s₁ B hml ht hP s₁ hh0 (Stand.of_body B)
    exact ⟨t, o, a1, b1, b2, b3⟩
/-- the table of a body with handlers -/
theorem vx_table {p : Program} {x y : MethodName} {S : Spec} {cc bytes : ByteArray} {maxL maxL' : Nat} {ret ret' : Option FieldType} {e : Env} {s s₁ : State} {m : MethodId} {args : Array Value} {below : List Frame} {meth : Method} {c : Code} {hh : List (Nat × Nat × Nat × Nat)}
    (B : BodyLoose p l y S cc maxL ret e s m args below meth c s₁) (h : (Cond.codeWith y bytes maxL' ret' hh).before args s = true) : c.exceptionTable.toList = tableOf hh := by
  obtain ⟨m9, meth9, c9, hn9, h1, h2, -, -, h6, -⟩ := Cond.codeWith_spec h
  cases Option.some.inj (hn9.symm.trans B.named)
  cases Option.some.inj (h1.symm.trans B.method)
  cases Option.some.inj (h2.symm.trans (Stand.of_body B).code)
  rw [← h6, table_eq]
end Bodies
end VXA
/-! ===== END ===== -/
/-! ===== BEGIN a static call of a method with an exception table ===== -/
section VXS
variable {p : Program} {l : Launch} {e : Env} {R : Room} {s : State} {m : MethodId} {args : Array Value} {below : List Frame} {meth : Method} {c : Code} {T : State} {H : Heap} {locs : List Loc} {cells slots : Nat}
abbrev vx_CSW (R : Room) (s : State) (args : Array Value) (own : String) (index : Nat) (y : MethodName) (bytes : ByteArray) (maxL : Nat) (ret : Option FieldType) (hh : List (Nat × Nat × Nat × Nat)) (ws : List Cond) (rm : Room) (mc ms n : Nat) : Prop :=
  (rm.cells = mc ∧ rm.slots = ms ∧ rm.frames + 1 ≤ R.frames ∧ 8 + (maxL + 11) + rm.locals ≤ R.locals ∧ (∀ w ∈ ws, ∀ (a' : Array Value) (U : State), s.WarmedH U.vm → w.before a' U = true) ∧ Cond.codeWith y bytes maxL ret hh ∈ ws) ∧
  (Cond.codeWith y bytes maxL ret hh).before args s = true ∧ (Cond.initialized y.cls).before args s = true ∧ (y.cls ≠ "java/lang/invoke/MethodHandle" ∧ y.cls ≠ "java/lang/invoke/VarHandle") ∧
  (∀ sig, parseMethodDescriptor y.desc = some sig → n = sig.parameters.length) ∧ (Cond.methodLink own index y).before args s = true ∧ (Cond.static y).before args s = true
theorem vx_cwSW {own : String} {index maxL mc ms : Nat} {y : MethodName} {bytes : ByteArray} {ret : Option FieldType} {hh : List (Nat × Nat × Nat × Nat)} {Ts ws ws' : List Cond} {rm : Room} (n : Nat) (ht : ∀ w ∈ Ts, w.before args s = true) (hT : GoodIn Ts (va_wsS own index y ws)) (hw : ws = Cond.codeWith y bytes maxL ret hh :: ws') (hrc : rm.cells = mc) (hrs : rm.slots = ms)
    (hd : y.cls ≠ "java/lang/invoke/MethodHandle" ∧ y.cls ≠ "java/lang/invoke/VarHandle" ∧ (parseMethodDescriptor y.desc).map (fun d => d.parameters.length) = some n) (hR : rm.frames + 1 ≤ R.frames ∧ 8 + (maxL + 11) + rm.locals ≤ R.locals) :
    vx_CSW R s args own index y bytes maxL ret hh ws rm mc ms n := by
  have ok : ∀ w ∈ va_wsS own index y ws, w.before args s = true := fun w h => ht w (hT w h).1
  have hG : GoodIn Ts ws := fun w h => hT w (by unfold va_wsS; exact List.mem_append_right _ h)
  have hc : Cond.codeWith y bytes maxL ret hh ∈ ws := by rw [hw]; exact List.mem_cons_self
  refine ⟨⟨hrc, hrs, hR.1, hR.2, pay_in ht hG, hc⟩, ht _ (hG _ hc).1, ok _ (by simp [va_wsS]), ⟨hd.1, hd.2.1⟩, fun sig h => ?_, ok _ (by simp [va_wsS]), ok _ (by simp [va_wsS])⟩
  have h2 := hd.2.2
  rw [h] at h2
  exact (Option.some.inj h2).symm
theorem vx_callSW (X : Stand p l e R s m args below meth c T locs cells slots) (hexec : p.tables.exec = Jvm.exec) {own : String} {index : Nat} {y : MethodName} {bytes : ByteArray} {maxL : Nat} {ret : Option FieldType} {hh : List (Nat × Nat × Nat × Nat)}
    (hown : s.vm.findClass own = some m.cls) (hlink : (Cond.methodLink own index y).before args s = true) (hstat : (Cond.static y).before args s = true) (hinit : (Cond.initialized y.cls).before args s = true)
    (hcode : (Cond.codeWith y bytes maxL ret hh).before args s = true) (hy : y.cls ≠ "java/lang/invoke/MethodHandle" ∧ y.cls ≠ "java/lang/invoke/VarHandle")
    {W9 : Nat} {Pre : Pt → Array Value → Prop} {Post : Pt → Array Value → Option Value → Pt → Prop} (hK : Back l R p e below s args y 3 W9 Pre Post)
    {g : JFrame} (hg : g.method = m) (hsize : g.locals.size = c.maxLocals) {argsL rest : List Value} (hlen : ∀ sig, parseMethodDescriptor y.desc = some sig → argsL.length = sig.parameters.length)
    (hstack : g.stack = argsL.reverse ++ rest) (hW : 2 * g.monitorRoom + (rest.map fun v => v.category).sum ≤ W9) (hdg : decode c.code g.pc = .ok (.invokestatic index, 3))
    (hpre : ∀ vm₁, s.WarmedH vm₁ → Pre ⟨T.setVm vm₁, locs, cells, slots⟩ argsL.toArray) :
    ∃ (v : Option Value) (vm₁ : Vm) (B : Pt), s.WarmedH vm₁ ∧ Stand p l e R s m args below meth c B.U B.locs B.cells B.slots ∧ Post ⟨T.setVm vm₁, locs, cells, slots⟩ argsL.toArray v B ∧
      ∀ target, Steps p.tables e below (B.U.setTop { g with pc := g.pc + 3, stack := v.toList ++ rest }) target → Steps p.tables e below (T.setTop g) target := by
  obtain ⟨mk, methM, cM, hnamed, hmethM, -, -, -, -, -, -, hsigM⟩ := Cond.codeWith_spec hcode
  have hstatic : methM.isStatic = true := Cond.static_spec hnamed hmethM hstat
  obtain ⟨kP, hkP, -⟩ := className_of_methodNamed hnamed
  have hinitP : kP.init = .initialized := Cond.initialized_spec (findClass_of_methodNamed hnamed) hkP hinit
  obtain ⟨vm₁, X₁, hstep₁⟩ := X.invokestatic hexec hown hlink hnamed hmethM hstatic hkP hinitP hy (g := g) hg (argsL := argsL) (rest := rest) (hlen _ hsigM) hstack hdg
  obtain ⟨v, B, X', hpost, hsteps⟩ := hK m meth c ⟨T.setVm vm₁, locs, cells, slots⟩ { g with stack := rest } (.invokestatic index) mk argsL.toArray X₁ hg hsize hdg hW (X₁.named hnamed) (hpre vm₁ X₁.warmed)
  exact ⟨v, vm₁, B, X₁.warmed, X', hpost, fun target h => hstep₁ _ fun acts => by rw [doInvoke_state]; exact hsteps.trans h⟩
theorem vx_runSW {y : MethodName} {bytes cc : ByteArray} {maxL nL mc ms n index : Nat} {ret : Option FieldType} {hh : List (Nat × Nat × Nat × Nat)} {ws : List Cond} {rm : Room} {Pc : Array Value → State → Prop} {Qc : Array Value → State → Outcome → State → Prop} {free : Addr → Prop} {Ts : List Cond} {own : String} {As rest : List Value} {g : JFrame}
    (S : CallFix p m c cc nL s args Ts own) (hM : Met l y ws rm Pc Qc mc ms free) (cw : vx_CSW R s args own index y bytes maxL ret hh ws rm mc ms n) (hp : PreS s H Pc As)
    (hg : g.method = m) (hn : As.length = n) (hsize : g.locals.size = nL) (hstack : g.stack = As.reverse ++ rest) (hW : 2 * g.monitorRoom + (rest.map fun v => v.category).sum ≤ 8) (hdg : decode cc g.pc = .ok (.invokestatic index, 3)) (hf : cells + mc ≤ R.cells ∧ slots + ms ≤ R.slots) :
    va_Run p l e R s m args below meth c H locs cells slots mc ms g rest (Qc As.toArray) (free) := by
  obtain ⟨⟨hrc, hrs, hfr, hlo, hws, hcw⟩, hcode, hini, hy, hlen, hl, hstt⟩ := cw
  have hK : Back l R p e below s args y 3 8 (PreOf R mc ms Pc) (PostOf Qc mc ms free) := va_backW (hh := hh) (bytes := bytes) (maxL := maxL) (ret := ret) hM hp.1 hrc hrs hfr hlo hws hcw (fun a' U hW => word_at hW (Or.inl (by first | rfl | simp [Cond.onTables, Cond.keeps, Cond.steady])) hini)
  obtain ⟨hx, hb, hml, ho, -⟩ := S
  intro T hT X
  obtain ⟨v, vm₁, ⟨U', l2, c2, s2⟩, hW₁, X', ⟨g', mk, t, L, e1, e2, hq, h1, hL, h2, h3⟩, st⟩ := vx_callSW X hx (hh := hh) (bytes := bytes) (maxL := maxL) (ret := ret) ho hl hstt hini hcode hy hK hg (hsize.trans hml.symm) (argsL := As) (rest := rest) (fun sig h => hn.trans (hlen sig h)) hstack hW (by rw [hb]; exact hdg)
    (fun vm₁ hW₁ => ⟨hf.1, hf.2, hp.2 (T.setVm vm₁) hT hW₁⟩)
  dsimp only [Pt.U, Pt.locs, Pt.cells, Pt.slots] at X' e1 e2 h1 h2 h3 st
  subst h1; subst h2; subst h3
  exact ⟨v, (T.setVm vm₁).calling g' mk As.toArray, t, U', L, hT, X', hL, e1, e2, hq, st⟩
/-- not caught here, past rows that name other classes: it goes on to the caller -/
theorem vx_outP {p : Program} {l : Launch} {e : Env} {R : Room} {s : State} {m : MethodId} {args : Array Value} {below : List Frame} {meth : Method} {c : Code} {H : Heap} {locs : List Loc} {cells slots : Nat} {free : Addr → Prop} {ls : Array Slot} {rest : List Value} {Qc : Array Value → State → Outcome → State → Prop} {XC : String → State → State → Prop}
    {pc : Nat} {own E : String} {ce : Cell} {q : Addr} {mc ms : Nat} (hown : s.vm.findClass own = some m.cls) (hlocks : meth.locks = false)
    (hpass : ∀ z ∈ c.exceptionTable.toList, covers z pc = false ∨ (z.catchType ≠ 0 ∧ ∃ nm : String, (Cond.classLink own z.catchType nm).before args s = true ∧ va_Nc E nm s)) (hcell : H[q]? = some ce) (hv : ce.vm = .none) (hcl : s.vm.findClass E = some ce.cls)
    (hx : ∀ t : State, t.heap = H → s.vm.Alike t.vm → XC E s t) (hf : ∀ z ∈ locs, free z.base) (hc : cells ≤ mc) (hs : slots ≤ ms) :
    vx_W p l e R s m args below meth c H locs cells slots (vx_MQ below Qc XC args s mc ms free) (F0 m pc ls rest) q := by
  intro T hT X
  have hpl : e.platform.magicAccessors = ({} : Platform).magicAccessors := by rw [X.admits.platform]
  obtain ⟨vm', hW', X', st⟩ := X.outThrough hlocks q (g := F0 m pc ls rest) rfl rfl rfl (cell := ce) (by rw [hT]; exact hcell) (by rw [hv]; rfl)
    (by obtain ⟨k9, h9, -⟩ := Vm.findClass_spec hcl; exact ⟨k9, h9⟩) (fun z hz => by
      rcases hpass z hz with h | ⟨hz0, nm, hl1, hn1⟩
      · exact Or.inl h
      · obtain ⟨c6, hc6, hcl6⟩ := Cond.classLink_spec hown hl1 e.platform hpl
        obtain ⟨a8, b8, h1, h2, h3⟩ := hn1
        cases Option.some.inj (h1.symm.trans hcl)
        cases Option.some.inj (h2.symm.trans hc6)
        exact Or.inr ⟨hz0, _, hcl6, h3⟩)
  obtain ⟨g₀, hfr⟩ := X'.frames_eq
  have hcell9 : ((T.setVm vm').setFrames (.throwing q :: below)).heap[q]? = some ce := by
    show T.heap[q]? = some ce
    rw [hT]; exact hcell
  have hend : Ended ((T.setVm vm').setFrames (.throwing q :: below)) below (.threw q) := State.frames_setFrames _ (State.cur_lt_of_frames hfr)
  refine ⟨(T.setVm vm').setFrames (.throwing q :: below), ?_, .threw q, X'.here.running, hend, Or.inr ⟨q, rfl, E, ce, locs, hx _ hT (X'.ends _).1.alike, hcell9, hv, hcl, (X'.ends _).1, (X'.ends _).2.mono hc hs, hf⟩⟩
  rw [X.pushThrowing_eq]
  exact st
/-- a thing of a world lies in the heap -/
theorem vx_lt {D : va_G} {cl : List vw_C} {ws : va_W} {H1 : Heap} (h : va_P D cl ws H1) {k : Nat} {q : Nat × va_E} (hk : ws[k]? = some q) : q.1 < H1.size := (h k q hk).lt
end VXS
/-! ===== END ===== -/
/-! ===== BEGIN methods with a table of their own: called by a name, returning or throwing ===== -/
section VXH
/-! vx_backW, vx_callVX, vx_callSX, vx_callVW, vx_runVW, vx_runVX, vx_runSX, vx_ofWH follow the same proofs as their sisters above (Free/Laws.lean, Shelf42/LK1.lean); vx_outP calls Shelf42/NT130.lean (outThrough). -/
section
variable {l : Launch} {R : Room} {p : Program} {e : Env} {below : List Frame} {s : State} {sargs : Array Value} {y : MethodName} {len W9 : Nat}
theorem vx_backW {ws : List Cond} {rm : Room} {Pc : Array Value → State → Prop} {Qc : Array Value → State → Outcome → State → Prop} {XC : String → State → State → Prop} {mc ms : Nat} {free : Addr → Prop} {bytes : ByteArray} {maxL : Nat} {ret : Option FieldType} {hh : List (Nat × Nat × Nat × Nat)}
    (hM : vx_Met l y ws rm Pc Qc XC mc ms free) (hblind : FrameBlind Pc) (hrc : rm.cells = mc) (hrs : rm.slots = ms)
    (hframes : rm.frames + 1 ≤ R.frames) (hlocals : W9 + (maxL + 11) + rm.locals ≤ R.locals)
    (hws : ∀ w ∈ ws, ∀ a' U, s.WarmedH U.vm → w.before a' U = true) (hcode : Cond.codeWith y bytes maxL ret hh ∈ ws) (hinit : ∀ a' U, s.WarmedH U.vm → (Cond.initialized y.cls).before a' U = true) :
    vx_Back l R p e below s sargs y len W9 (PreOf R mc ms Pc) (PostOf Qc mc ms free) (vx_Post XC mc ms free) := by
  intro m meth c A g ig mk a X hg hsize hdg hW hn hp
  have h1 : (headSpec ws rm).pre.before a A.U = true := atoms_intro fun w hw => hws w hw _ _ X.warmed
  have h2 : (Cond.codeWith y bytes maxL ret hh).before a A.U = true := hws _ hcode _ _ X.warmed
  have h3 : (Cond.initialized y.cls).before a A.U = true := hinit _ _ X.warmed
  have h4 : A.cells + (headSpec ws rm).room.cells ≤ R.cells := by rw [show (headSpec ws rm).room.cells = mc from hrc]; exact hp.1
  have h5 : A.slots + (headSpec ws rm).room.slots ≤ R.slots := by rw [show (headSpec ws rm).room.slots = ms from hrs]; exact hp.2.1
  have hPc : Pc a (A.U.calling g mk a) := hblind _ _ _ _ hp.2.2
  obtain ⟨U, Ls, c0, s0⟩ := A
  dsimp only [Pt.U, Pt.locs, Pt.cells, Pt.slots] at h1 h2 h3 h4 h5 X hn hPc ⊢
  obtain ⟨m9, methY, cY, hn9, hmY, hcY, -, hlY, -⟩ := Cond.codeWith_spec h2
  cases Option.some.inj (hn9.symm.trans hn)
  obtain ⟨kY, hkY, -⟩ := className_of_methodNamed hn
  have hinitY : kY.init = .initialized := Cond.initialized_spec (findClass_of_methodNamed hn) hkY h3
  have h : At U g.method c below := by rw [hg]; exact X.here
  have hlocals9 : W9 + (maxL + 11) + (headSpec ws rm).room.locals ≤ R.locals := hlocals
  have happ : (headSpec ws rm).appliesLoose y e.platform (U.calling g mk a) = true :=
    Spec.appliesLoose_calling (g := g) h hdg hn hkY hinitY
      (X.room_calling (g := g) (R' := (headSpec ws rm).room) hsize hmY hcY hframes (by rw [hlY]; omega) h4 h5) h1
  obtain ⟨mid, hmid⟩ := h.above
  have hfr : (U.setTop g).frames = (.java g :: mid) ++ below := by rw [State.frames_setTop' g h.top, hmid]; rfl
  obtain ⟨o, s₂, hsteps, -, hend, hq⟩ := Steps.callFree hM p X.admits X.cas X.clock (acts := []) hfr happ hPc trivial
  have hq' : vx_Q Qc XC mc ms free a (U.calling g mk a) o s₂ := hq
  rw [State.frames_setTop' g h.top] at hend
  obtain ⟨g₀, hg0⟩ := Option.isSome_iff_exists.mp h.top
  obtain ⟨r, hr⟩ := State.topJava?_eq_some.mp hg0
  have hr' : (({ U with heap := s₂.heap, slotsUsed := s₂.slotsUsed } : State).setVm s₂.vm).frames = .java g₀ :: r := hr
  rcases hq' with ⟨hqc, L, hfe, hL⟩ | ⟨q, rfl, E, ce, L, hx, hce, hcv, hcl, hW₂, hsm, hL⟩
  · obtain ⟨⟨v, rfl⟩, hW₂, e2, q2, q3, q4, q5, q6⟩ := id hfe
    have e3 : s₂ = ({ (U.calling g mk a).setFrames s₂.frames with heap := s₂.heap, slotsUsed := s₂.slotsUsed } : State).setVm s₂.vm := by
      have : s₂ = ({ s₂ with vm := (U.calling g mk a).vm } : State).setVm s₂.vm := rfl
      rw [e2] at this
      exact this
    obtain ⟨c₂, i₂, len₂, hc₂, hd₂, hf₂⟩ := hend
    have hW' : U.WarmedH s₂.vm := hW₂
    have hcc : c₂ = c := by
      have h1 : s₂.code? g.method = U.code? g.method := by
        rw [State.code?_eq, State.code?_eq, hW'.alike.method?]
      exact Option.some.inj (hc₂.symm.trans (h1.trans h.code))
    subst hcc
    have hlen : len₂ = len := by rw [hdg] at hd₂; cases hd₂; rfl
    subst hlen
    have hs₂ : s₂ = (({ U with heap := s₂.heap, slotsUsed := s₂.slotsUsed } : State).setVm s₂.vm).setTop { g with pc := g.pc + len₂, stack := v.toList ++ g.stack } := by
      refine e3.trans ?_
      rw [hf₂, State.calling_eq h.top, State.setFrames_setFrames, State.setTop_of_frames _ hr', hr]
      rfl
    have hsame : U.sameButNew ({ U with heap := s₂.heap, slotsUsed := s₂.slotsUsed } : State) L mc ms := by
      refine ⟨?_, q2, q3, q4, q5, q6⟩
      obtain ⟨t, ht, -⟩ := State.frames_cons hr
      show ({ U with heap := s₂.heap, slotsUsed := s₂.slotsUsed } : State) = { U.setFrames U.frames with heap := s₂.heap, slotsUsed := s₂.slotsUsed }
      rw [State.setFrames_self ht]
    subst hg
    refine Or.inl ⟨v, ⟨(({ U with heap := s₂.heap, slotsUsed := s₂.slotsUsed } : State).setVm s₂.vm), Ls ++ L, c0 + mc, s0 + ms⟩,
      ⟨X.admits, X.cas, X.clock, X.frames, X.room, X.hears, X.method, X.code, (X.here.setHeapUsed s₂.heap s₂.slotsUsed).setVm hW'.alike, X.tail, State.WarmedH.trans X.warmed hW', X.limits, X.bytes, X.same.trans (hsame.setVm s.vm)⟩,
      ⟨g, mk, s₂, L, rfl, rfl, hqc, rfl, hL, rfl, rfl⟩, ?_⟩
    show Steps p.tables e below _ ((({ U with heap := s₂.heap, slotsUsed := s₂.slotsUsed } : State).setVm s₂.vm).setTop { g with pc := g.pc + len₂, stack := v.toList ++ g.stack })
    rw [← hs₂]
    exact hsteps
  · obtain ⟨e2, q2, q3, q4, q5, q6⟩ := id hsm
    have e3 : s₂ = ({ (U.calling g mk a).setFrames s₂.frames with heap := s₂.heap, slotsUsed := s₂.slotsUsed } : State).setVm s₂.vm := by
      have : s₂ = ({ s₂ with vm := (U.calling g mk a).vm } : State).setVm s₂.vm := rfl
      rw [e2] at this
      exact this
    have hf₂ : s₂.frames = .throwing q :: .java g :: U.frames.tail := hend
    have hW' : U.WarmedH s₂.vm := hW₂
    have hs₂ : s₂ = ((({ U with heap := s₂.heap, slotsUsed := s₂.slotsUsed } : State).setVm s₂.vm).setTop g).pushFrame (.throwing q) := by
      refine e3.trans ?_
      rw [hf₂, State.calling_eq h.top, State.setFrames_setFrames, State.pushFrame, State.frames_setTop _ hr', State.setTop_of_frames _ hr', State.setFrames_setFrames, hr]
      rfl
    have hsame : U.sameButNew ({ U with heap := s₂.heap, slotsUsed := s₂.slotsUsed } : State) L mc ms := by
      refine ⟨?_, q2, q3, q4, q5, q6⟩
      obtain ⟨t, ht, -⟩ := State.frames_cons hr
      show ({ U with heap := s₂.heap, slotsUsed := s₂.slotsUsed } : State) = { U.setFrames U.frames with heap := s₂.heap, slotsUsed := s₂.slotsUsed }
      rw [State.setFrames_self ht]
    subst hg
    refine Or.inr ⟨q, ⟨(({ U with heap := s₂.heap, slotsUsed := s₂.slotsUsed } : State).setVm s₂.vm), Ls ++ L, c0 + mc, s0 + ms⟩,
      ⟨X.admits, X.cas, X.clock, X.frames, X.room, X.hears, X.method, X.code, (X.here.setHeapUsed s₂.heap s₂.slotsUsed).setVm hW'.alike, X.tail, State.WarmedH.trans X.warmed hW', X.limits, X.bytes, X.same.trans (hsame.setVm s.vm)⟩,
      ⟨g, mk, s₂, L, E, ce, rfl, rfl, hx, hce, hcv, hcl, rfl, hL, rfl, rfl⟩, ?_⟩
    show Steps p.tables e below _ (((({ U with heap := s₂.heap, slotsUsed := s₂.slotsUsed } : State).setVm s₂.vm).setTop g).pushFrame (.throwing q))
    rw [← hs₂]
    exact hsteps
end
variable {p : Program} {l : Launch} {e : Env} {R : Room} {s : State} {m : MethodId} {args : Array Value} {below : List Frame} {meth : Method} {c : Code} {T : State} {H : Heap} {locs : List Loc} {cells slots : Nat}
theorem vx_callVX (X : Stand p l e R s m args below meth c T locs cells slots) (hexec : p.tables.exec = Jvm.exec) {own C : String} {index : Nat} {y : MethodName} {bytes : ByteArray} {maxL : Nat} {ret : Option FieldType} {hh : List (Nat × Nat × Nat × Nat)}
    (hown : s.vm.findClass own = some m.cls) (hlink : (Cond.methodLink own index y).before args s = true) (hinst : (Cond.instanceMethod y).before args s = true) (hsel : (Cond.selects C y y).before args s = true)
    (hcode : (Cond.codeWith y bytes maxL ret hh).before args s = true) (hy : y.cls ≠ "java/lang/invoke/MethodHandle" ∧ y.cls ≠ "java/lang/invoke/VarHandle")
    {W9 : Nat} {Pre : Pt → Array Value → Prop} {Post : Pt → Array Value → Option Value → Pt → Prop} {PostX : Pt → Array Value → Addr → Pt → Prop} (hK : vx_Back l R p e below s args y 3 W9 Pre Post PostX)
    {b : Addr} {cellB : Cell} (hcell : T.heap[b]? = some cellB) (hobj : cellB.vm.isStatics = false) (hcls : s.vm.findClass C = some cellB.cls)
    {g : JFrame} (hg : g.method = m) (hsize : g.locals.size = c.maxLocals) {argsL rest : List Value} (hlen : ∀ sig, parseMethodDescriptor y.desc = some sig → argsL.length = sig.parameters.length)
    (hstack : g.stack = argsL.reverse ++ .ref b :: rest) (hW : 2 * g.monitorRoom + (rest.map fun v => v.category).sum ≤ W9) (hdg : decode c.code g.pc = .ok (.invokevirtual index, 3))
    (hpre : ∀ vm₁, s.WarmedH vm₁ → Pre ⟨T.setVm vm₁, locs, cells, slots⟩ (Value.ref b :: argsL).toArray) :
    (∃ (v : Option Value) (vm₁ : Vm) (B : Pt), s.WarmedH vm₁ ∧ Stand p l e R s m args below meth c B.U B.locs B.cells B.slots ∧ Post ⟨T.setVm vm₁, locs, cells, slots⟩ (Value.ref b :: argsL).toArray v B ∧
      ∀ target, Steps p.tables e below (B.U.setTop { g with pc := g.pc + 3, stack := v.toList ++ rest }) target → Steps p.tables e below (T.setTop g) target) ∨
    (∃ (q : Addr) (vm₁ : Vm) (B : Pt), s.WarmedH vm₁ ∧ Stand p l e R s m args below meth c B.U B.locs B.cells B.slots ∧ PostX ⟨T.setVm vm₁, locs, cells, slots⟩ (Value.ref b :: argsL).toArray q B ∧
      Steps p.tables e below (T.setTop g) ((B.U.setTop { g with stack := rest }).pushFrame (.throwing q))) := by
  obtain ⟨mk, methM, hnamed, hmethM, hstM, habM⟩ := Cond.instanceMethod_spec hinst
  obtain ⟨m8, methM', cM, hn8, hmethM', -, -, -, -, -, -, hsigM⟩ := Cond.codeWith_spec hcode
  cases Option.some.inj (hn8.symm.trans hnamed)
  cases hmethM.symm.trans hmethM'
  obtain ⟨c2, r2, m2, q1, q2, q3, q4, kP, hkP, hkPi⟩ := Cond.selects_spec hsel
  cases hcls.symm.trans q1
  cases (State.methodFound?_of_named hnamed hy).symm.trans q2
  cases hnamed.symm.trans q3
  have hselP : selectMethod e.platform s.vm cellB.cls mk = .method mk := by rw [Launch.admits_selectMethod X.admits]; exact q4
  obtain ⟨vm₁, X₁, hstep₁⟩ := X.invokevirtual hexec hown hlink hnamed hmethM hstM hkP hkPi hy (a := b) (cell := cellB) hcell
    (fun z h => by rw [h] at hobj; cases hobj) hselP hmethM habM hkP hkPi (g := g) hg (argsL := argsL) (rest := rest) (hlen _ hsigM) hstack hdg
  rcases hK m meth c ⟨T.setVm vm₁, locs, cells, slots⟩ { g with stack := rest } (.invokevirtual index) mk (Value.ref b :: argsL).toArray X₁ hg hsize hdg hW (X₁.named hnamed) (hpre vm₁ X₁.warmed) with ⟨v, B, X', hpost, hsteps⟩ | ⟨q, B, X', hpost, hsteps⟩
  · exact Or.inl ⟨v, vm₁, B, X₁.warmed, X', hpost, fun target h => hstep₁ _ fun acts => by rw [doInvoke_state]; exact hsteps.trans h⟩
  · exact Or.inr ⟨q, vm₁, B, X₁.warmed, X', hpost, hstep₁ _ fun acts => by rw [doInvoke_state]; exact hsteps⟩
theorem vx_callSX (X : Stand p l e R s m args below meth c T locs cells slots) (hexec : p.tables.exec = Jvm.exec) {own : String} {index : Nat} {y : MethodName} {bytes : ByteArray} {maxL : Nat} {ret : Option FieldType} {hh : List (Nat × Nat × Nat × Nat)}
    (hown : s.vm.findClass own = some m.cls) (hlink : (Cond.methodLink own index y).before args s = true) (hstat : (Cond.static y).before args s = true) (hinit : (Cond.initialized y.cls).before args s = true)
    (hcode : (Cond.codeWith y bytes maxL ret hh).before args s = true) (hy : y.cls ≠ "java/lang/invoke/MethodHandle" ∧ y.cls ≠ "java/lang/invoke/VarHandle")
    {W9 : Nat} {Pre : Pt → Array Value → Prop} {Post : Pt → Array Value → Option Value → Pt → Prop} {PostX : Pt → Array Value → Addr → Pt → Prop} (hK : vx_Back l R p e below s args y 3 W9 Pre Post PostX)
    {g : JFrame} (hg : g.method = m) (hsize : g.locals.size = c.maxLocals) {argsL rest : List Value} (hlen : ∀ sig, parseMethodDescriptor y.desc = some sig → argsL.length = sig.parameters.length)
    (hstack : g.stack = argsL.reverse ++ rest) (hW : 2 * g.monitorRoom + (rest.map fun v => v.category).sum ≤ W9) (hdg : decode c.code g.pc = .ok (.invokestatic index, 3))
    (hpre : ∀ vm₁, s.WarmedH vm₁ → Pre ⟨T.setVm vm₁, locs, cells, slots⟩ argsL.toArray) :
    (∃ (v : Option Value) (vm₁ : Vm) (B : Pt), s.WarmedH vm₁ ∧ Stand p l e R s m args below meth c B.U B.locs B.cells B.slots ∧ Post ⟨T.setVm vm₁, locs, cells, slots⟩ argsL.toArray v B ∧
      ∀ target, Steps p.tables e below (B.U.setTop { g with pc := g.pc + 3, stack := v.toList ++ rest }) target → Steps p.tables e below (T.setTop g) target) ∨
    (∃ (q : Addr) (vm₁ : Vm) (B : Pt), s.WarmedH vm₁ ∧ Stand p l e R s m args below meth c B.U B.locs B.cells B.slots ∧ PostX ⟨T.setVm vm₁, locs, cells, slots⟩ argsL.toArray q B ∧
      Steps p.tables e below (T.setTop g) ((B.U.setTop { g with stack := rest }).pushFrame (.throwing q))) := by
  obtain ⟨mk, methM, cM, hnamed, hmethM, -, -, -, -, -, -, hsigM⟩ := Cond.codeWith_spec hcode
  have hstatic : methM.isStatic = true := Cond.static_spec hnamed hmethM hstat
  obtain ⟨kP, hkP, -⟩ := className_of_methodNamed hnamed
  have hinitP : kP.init = .initialized := Cond.initialized_spec (findClass_of_methodNamed hnamed) hkP hinit
  obtain ⟨vm₁, X₁, hstep₁⟩ := X.invokestatic hexec hown hlink hnamed hmethM hstatic hkP hinitP hy (g := g) hg (argsL := argsL) (rest := rest) (hlen _ hsigM) hstack hdg
  rcases hK m meth c ⟨T.setVm vm₁, locs, cells, slots⟩ { g with stack := rest } (.invokestatic index) mk argsL.toArray X₁ hg hsize hdg hW (X₁.named hnamed) (hpre vm₁ X₁.warmed) with ⟨v, B, X', hpost, hsteps⟩ | ⟨q, B, X', hpost, hsteps⟩
  · exact Or.inl ⟨v, vm₁, B, X₁.warmed, X', hpost, fun target h => hstep₁ _ fun acts => by rw [doInvoke_state]; exact hsteps.trans h⟩
  · exact Or.inr ⟨q, vm₁, B, X₁.warmed, X', hpost, hstep₁ _ fun acts => by rw [doInvoke_state]; exact hsteps⟩
theorem vx_callVW (X : Stand p l e R s m args below meth c T locs cells slots) (hexec : p.tables.exec = Jvm.exec) {own C : String} {index : Nat} {y : MethodName} {bytes : ByteArray} {maxL : Nat} {ret : Option FieldType} {hh : List (Nat × Nat × Nat × Nat)}
    (hown : s.vm.findClass own = some m.cls) (hlink : (Cond.methodLink own index y).before args s = true) (hinst : (Cond.instanceMethod y).before args s = true) (hsel : (Cond.selects C y y).before args s = true)
    (hcode : (Cond.codeWith y bytes maxL ret hh).before args s = true) (hy : y.cls ≠ "java/lang/invoke/MethodHandle" ∧ y.cls ≠ "java/lang/invoke/VarHandle")
    {W9 : Nat} {Pre : Pt → Array Value → Prop} {Post : Pt → Array Value → Option Value → Pt → Prop} (hK : Back l R p e below s args y 3 W9 Pre Post)
    {b : Addr} {cellB : Cell} (hcell : T.heap[b]? = some cellB) (hobj : cellB.vm.isStatics = false) (hcls : s.vm.findClass C = some cellB.cls)
    {g : JFrame} (hg : g.method = m) (hsize : g.locals.size = c.maxLocals) {argsL rest : List Value} (hlen : ∀ sig, parseMethodDescriptor y.desc = some sig → argsL.length = sig.parameters.length)
    (hstack : g.stack = argsL.reverse ++ .ref b :: rest) (hW : 2 * g.monitorRoom + (rest.map fun v => v.category).sum ≤ W9) (hdg : decode c.code g.pc = .ok (.invokevirtual index, 3))
    (hpre : ∀ vm₁, s.WarmedH vm₁ → Pre ⟨T.setVm vm₁, locs, cells, slots⟩ (Value.ref b :: argsL).toArray) :
    ∃ (v : Option Value) (vm₁ : Vm) (B : Pt), s.WarmedH vm₁ ∧ Stand p l e R s m args below meth c B.U B.locs B.cells B.slots ∧ Post ⟨T.setVm vm₁, locs, cells, slots⟩ (Value.ref b :: argsL).toArray v B ∧
      ∀ target, Steps p.tables e below (B.U.setTop { g with pc := g.pc + 3, stack := v.toList ++ rest }) target → Steps p.tables e below (T.setTop g) target := by
  obtain ⟨mk, methM, hnamed, hmethM, hstM, habM⟩ := Cond.instanceMethod_spec hinst
  obtain ⟨m8, methM', cM, hn8, hmethM', -, -, -, -, -, -, hsigM⟩ := Cond.codeWith_spec hcode
  cases Option.some.inj (hn8.symm.trans hnamed)
  cases hmethM.symm.trans hmethM'
  obtain ⟨c2, r2, m2, q1, q2, q3, q4, kP, hkP, hkPi⟩ := Cond.selects_spec hsel
  cases hcls.symm.trans q1
  cases (State.methodFound?_of_named hnamed hy).symm.trans q2
  cases hnamed.symm.trans q3
  have hselP : selectMethod e.platform s.vm cellB.cls mk = .method mk := by rw [Launch.admits_selectMethod X.admits]; exact q4
  obtain ⟨vm₁, X₁, hstep₁⟩ := X.invokevirtual hexec hown hlink hnamed hmethM hstM hkP hkPi hy (a := b) (cell := cellB) hcell
    (fun z h => by rw [h] at hobj; cases hobj) hselP hmethM habM hkP hkPi (g := g) hg (argsL := argsL) (rest := rest) (hlen _ hsigM) hstack hdg
  obtain ⟨v, B, X', hpost, hsteps⟩ := hK m meth c ⟨T.setVm vm₁, locs, cells, slots⟩ { g with stack := rest } (.invokevirtual index) mk (Value.ref b :: argsL).toArray X₁ hg hsize hdg hW (X₁.named hnamed) (hpre vm₁ X₁.warmed)
  exact ⟨v, vm₁, B, X₁.warmed, X', hpost, fun target h => hstep₁ _ fun acts => by rw [doInvoke_state]; exact hsteps.trans h⟩
abbrev vx_CVW (R : Room) (s : State) (args : Array Value) (own C : String) (index : Nat) (y : MethodName) (bytes : ByteArray) (maxL : Nat) (ret : Option FieldType) (hh : List (Nat × Nat × Nat × Nat)) (ws : List Cond) (rm : Room) (mc ms n : Nat) : Prop :=
  (rm.cells = mc ∧ rm.slots = ms ∧ rm.frames + 1 ≤ R.frames ∧ 8 + (maxL + 11) + rm.locals ≤ R.locals ∧ (∀ w ∈ ws, ∀ (a' : Array Value) (U : State), s.WarmedH U.vm → w.before a' U = true) ∧ Cond.codeWith y bytes maxL ret hh ∈ ws) ∧
  (Cond.codeWith y bytes maxL ret hh).before args s = true ∧ (Cond.initialized y.cls).before args s = true ∧ (y.cls ≠ "java/lang/invoke/MethodHandle" ∧ y.cls ≠ "java/lang/invoke/VarHandle") ∧
  (∀ sig, parseMethodDescriptor y.desc = some sig → n = sig.parameters.length) ∧ (Cond.methodLink own index y).before args s = true ∧ (Cond.instanceMethod y).before args s = true ∧ (Cond.selects C y y).before args s = true
theorem vx_cwVW {own C : String} {index maxL mc ms : Nat} {y : MethodName} {bytes : ByteArray} {ret : Option FieldType} {hh : List (Nat × Nat × Nat × Nat)} {Ts ws ws' : List Cond} {rm : Room} (n : Nat) (ht : ∀ w ∈ Ts, w.before args s = true) (hT : GoodIn Ts (wsV own index C y ws)) (hw : ws = Cond.codeWith y bytes maxL ret hh :: ws') (hrc : rm.cells = mc) (hrs : rm.slots = ms)
    (hd : y.cls = C ∧ y.cls ≠ "java/lang/invoke/MethodHandle" ∧ y.cls ≠ "java/lang/invoke/VarHandle" ∧ (parseMethodDescriptor y.desc).map (fun d => d.parameters.length) = some n) (hR : rm.frames + 1 ≤ R.frames ∧ 8 + (maxL + 11) + rm.locals ≤ R.locals) :
    vx_CVW R s args own C index y bytes maxL ret hh ws rm mc ms n := by
  obtain ⟨hC, hd⟩ := hd
  subst hC
  have ok : ∀ w ∈ wsV own index y.cls y ws, w.before args s = true := fun w h => ht w (hT w h).1
  have hG : GoodIn Ts ws := fun w h => hT w (by unfold wsV; exact List.mem_append_right _ h)
  have hc : Cond.codeWith y bytes maxL ret hh ∈ ws := by rw [hw]; exact List.mem_cons_self
  refine ⟨⟨hrc, hrs, hR.1, hR.2, pay_in ht hG, hc⟩, ht _ (hG _ hc).1, ok _ (by simp [wsV]), ⟨hd.1, hd.2.1⟩, fun sig h => ?_, ok _ (by simp [wsV]), ok _ (by simp [wsV]), ok _ (by simp [wsV])⟩
  have h2 := hd.2.2
  rw [h] at h2
  exact (Option.some.inj h2).symm
theorem vx_runVW {y : MethodName} {bytes cc : ByteArray} {maxL nL mc ms n index : Nat} {ret : Option FieldType} {hh : List (Nat × Nat × Nat × Nat)} {ws : List Cond} {rm : Room} {Pc : Array Value → State → Prop} {Qc : Array Value → State → Outcome → State → Prop} {free : Addr → Prop} {Ts : List Cond} {own C : String} {b : Addr} {As rest : List Value} {g : JFrame}
    (S : CallFix p m c cc nL s args Ts own) (hM : Met l y ws rm Pc Qc mc ms free) (cw : vx_CVW R s args own C index y bytes maxL ret hh ws rm mc ms n) (hp : PreV s H C b Pc As)
    (hg : g.method = m) (hn : As.length = n) (hsize : g.locals.size = nL) (hstack : g.stack = As.reverse ++ .ref b :: rest) (hW : 2 * g.monitorRoom + (rest.map fun v => v.category).sum ≤ 8) (hdg : decode cc g.pc = .ok (.invokevirtual index, 3)) (hf : cells + mc ≤ R.cells ∧ slots + ms ≤ R.slots) :
    va_Run p l e R s m args below meth c H locs cells slots mc ms g rest (Qc (Value.ref b :: As).toArray) free := by
  obtain ⟨⟨hrc, hrs, hfr, hlo, hws, hcw⟩, hcode, hini, hy, hlen, hl, hin, hse⟩ := cw
  have hK : Back l R p e below s args y 3 8 (PreOf R mc ms Pc) (PostOf Qc mc ms free) := va_backW (hh := hh) (bytes := bytes) (maxL := maxL) (ret := ret) hM hp.1 hrc hrs hfr hlo hws hcw (fun a' U hW => word_at hW (Or.inl (by first | rfl | simp [Cond.onTables, Cond.keeps, Cond.steady])) hini)
  obtain ⟨hx, hb, hml, ho, -⟩ := S
  obtain ⟨-, ⟨cellB, hcB, hoB, hclB⟩, hPc⟩ := hp
  intro T hT X
  obtain ⟨v, vm₁, ⟨U', l2, c2, s2⟩, hW₁, X', ⟨g', mk, t, L, e1, e2, hq, h1, hL, h2, h3⟩, st⟩ := vx_callVW X hx (C := C) (hh := hh) (bytes := bytes) (maxL := maxL) (ret := ret) ho hl hin hse hcode hy hK (by rw [hT]; exact hcB) hoB hclB hg (hsize.trans hml.symm) (argsL := As) (rest := rest) (fun sig h => hn.trans (hlen sig h)) hstack hW (by rw [hb]; exact hdg)
    (fun vm₁ hW₁ => ⟨hf.1, hf.2, hPc (T.setVm vm₁) hT hW₁⟩)
  dsimp only [Pt.U, Pt.locs, Pt.cells, Pt.slots] at X' e1 e2 h1 h2 h3 st
  subst h1; subst h2; subst h3
  exact ⟨v, (T.setVm vm₁).calling g' mk (Value.ref b :: As).toArray, t, U', L, hT, X', hL, e1, e2, hq, st⟩
section
variable {y : MethodName} {bytes cc : ByteArray} {maxL nL mc ms n index : Nat} {ret : Option FieldType} {ws : List Cond} {rm : Room} {Pc : Array Value → State → Prop} {Qc : Array Value → State → Outcome → State → Prop} {XC : String → State → State → Prop} {free : Addr → Prop} {Ts : List Cond} {own C : String} {b : Addr} {As rest : List Value} {g : JFrame}
theorem vx_runVX {hh : List (Nat × Nat × Nat × Nat)} (S : CallFix p m c cc nL s args Ts own) (hM : vx_Met l y ws rm Pc Qc XC mc ms free) (cw : vx_CVW R s args own C index y bytes maxL ret hh ws rm mc ms n) (hp : PreV s H C b Pc As)
    (hg : g.method = m) (hn : As.length = n) (hsize : g.locals.size = nL) (hstack : g.stack = As.reverse ++ .ref b :: rest) (hW : 2 * g.monitorRoom + (rest.map fun v => v.category).sum ≤ 8) (hdg : decode cc g.pc = .ok (.invokevirtual index, 3)) (hf : cells + mc ≤ R.cells ∧ slots + ms ≤ R.slots) :
    vx_Run p l e R s m args below meth c H locs cells slots mc ms g rest (Qc (Value.ref b :: As).toArray) XC free := by
  obtain ⟨⟨hrc, hrs, hfr, hlo, hws, hcw⟩, hcode, hini, hy, hlen, hl, hin, hse⟩ := cw
  have hK : vx_Back l R p e below s args y 3 8 (PreOf R mc ms Pc) (PostOf Qc mc ms free) (vx_Post XC mc ms free) := vx_backW (hh := hh) (bytes := bytes) (maxL := maxL) (ret := ret) hM hp.1 hrc hrs hfr hlo hws hcw (fun a' U hW => word_at hW (Or.inl (by first | rfl | simp [Cond.onTables, Cond.keeps, Cond.steady])) hini)
  obtain ⟨hx, hb, hml, ho, -⟩ := S
  obtain ⟨-, ⟨cellB, hcB, hoB, hclB⟩, hPc⟩ := hp
  intro T hT X
  rcases vx_callVX X hx (C := C) (hh := hh) (bytes := bytes) (maxL := maxL) (ret := ret) ho hl hin hse hcode hy hK (by rw [hT]; exact hcB) hoB hclB hg (hsize.trans hml.symm) (argsL := As) (rest := rest) (fun sig h => hn.trans (hlen sig h)) hstack hW (by rw [hb]; exact hdg)
    (fun vm₁ hW₁ => ⟨hf.1, hf.2, hPc (T.setVm vm₁) hT hW₁⟩) with ⟨v, vm₁, ⟨U', l2, c2, s2⟩, hW₁, X', ⟨g', mk, t, L, e1, e2, hq, h1, hL, h2, h3⟩, st⟩ | ⟨q, vm₁, ⟨U', l2, c2, s2⟩, hW₁, X', ⟨g', mk, t, L, E, ce, e1, e2, hq, hce, hcv, hcl, h1, hL, h2, h3⟩, st⟩
  · dsimp only [Pt.U, Pt.locs, Pt.cells, Pt.slots] at X' e1 e2 h1 h2 h3 st
    subst h1; subst h2; subst h3
    exact Or.inl ⟨v, (T.setVm vm₁).calling g' mk (Value.ref b :: As).toArray, t, U', L, hT, X', hL, e1, e2, hq, st⟩
  · dsimp only [Pt.U, Pt.locs, Pt.cells, Pt.slots] at X' e1 e2 h1 h2 h3 st hcl
    subst h1; subst h2; subst h3
    exact Or.inr ⟨q, (T.setVm vm₁).calling g' mk (Value.ref b :: As).toArray, t, U', L, E, ce, hT, X', hL, e1, e2, hq, hce, hcv, vx_cls hW₁ hcl, st⟩
theorem vx_runSX {hh : List (Nat × Nat × Nat × Nat)} (S : CallFix p m c cc nL s args Ts own) (hM : vx_Met l y ws rm Pc Qc XC mc ms free) (cw : vx_CSW R s args own index y bytes maxL ret hh ws rm mc ms n) (hp : PreS s H Pc As)
    (hg : g.method = m) (hn : As.length = n) (hsize : g.locals.size = nL) (hstack : g.stack = As.reverse ++ rest) (hW : 2 * g.monitorRoom + (rest.map fun v => v.category).sum ≤ 8) (hdg : decode cc g.pc = .ok (.invokestatic index, 3)) (hf : cells + mc ≤ R.cells ∧ slots + ms ≤ R.slots) :
    vx_Run p l e R s m args below meth c H locs cells slots mc ms g rest (Qc As.toArray) XC free := by
  obtain ⟨⟨hrc, hrs, hfr, hlo, hws, hcw⟩, hcode, hini, hy, hlen, hl, hstt⟩ := cw
  have hK : vx_Back l R p e below s args y 3 8 (PreOf R mc ms Pc) (PostOf Qc mc ms free) (vx_Post XC mc ms free) := vx_backW (hh := hh) (bytes := bytes) (maxL := maxL) (ret := ret) hM hp.1 hrc hrs hfr hlo hws hcw (fun a' U hW => word_at hW (Or.inl (by first | rfl | simp [Cond.onTables, Cond.keeps, Cond.steady])) hini)
  obtain ⟨hx, hb, hml, ho, -⟩ := S
  intro T hT X
  rcases vx_callSX X hx (hh := hh) (bytes := bytes) (maxL := maxL) (ret := ret) ho hl hstt hini hcode hy hK hg (hsize.trans hml.symm) (argsL := As) (rest := rest) (fun sig h => hn.trans (hlen sig h)) hstack hW (by rw [hb]; exact hdg)
    (fun vm₁ hW₁ => ⟨hf.1, hf.2, hp.2 (T.setVm vm₁) hT hW₁⟩) with ⟨v, vm₁, ⟨U', l2, c2, s2⟩, hW₁, X', ⟨g', mk, t, L, e1, e2, hq, h1, hL, h2, h3⟩, st⟩ | ⟨q, vm₁, ⟨U', l2, c2, s2⟩, hW₁, X', ⟨g', mk, t, L, E, ce, e1, e2, hq, hce, hcv, hcl, h1, hL, h2, h3⟩, st⟩
  · dsimp only [Pt.U, Pt.locs, Pt.cells, Pt.slots] at X' e1 e2 h1 h2 h3 st
    subst h1; subst h2; subst h3
    exact Or.inl ⟨v, (T.setVm vm₁).calling g' mk As.toArray, t, U', L, hT, X', hL, e1, e2, hq, st⟩
  · dsimp only [Pt.U, Pt.locs, Pt.cells, Pt.slots] at X' e1 e2 h1 h2 h3 st hcl
    subst h1; subst h2; subst h3
    exact Or.inr ⟨q, (T.setVm vm₁).calling g' mk As.toArray, t, U', L, E, ce, hT, X', hL, e1, e2, hq, hce, hcv, vx_cls hW₁ hcl, st⟩
end
end VXH
theorem vx_ofWH {l : Launch} {y : MethodName} {ws ws' : List Cond} {rm : Room} {Pc : Array Value → State → Prop} {Qc : Array Value → State → Outcome → State → Prop} {XC : String → State → State → Prop} {mc ms : Nat} {free : Addr → Prop} {cc : ByteArray} {maxL : Nat} {ret : Option FieldType} {hh : List (Nat × Nat × Nat × Nat)}
    (hy : plainName y.cls = true) (hw : ws = Cond.codeWith y cc maxL ret hh :: ws')
    (body : ∀ p e s m args below meth c s₁, BodyLoose p l y (headSpec ws rm) cc maxL ret e s m args below meth c s₁ → c.maxLocals = maxL → Pc args s →
      W p l e (headSpec ws rm).room s m args below meth c s.heap [] 0 0 (vx_MQ below Qc XC args s mc ms free) (entryFrame m args maxL)) : vx_Met l y ws rm Pc Qc XC mc ms free := by
  refine MetFree.of_bodyS (code := cc) (maxLocals := maxL) (ret := ret) hy ?_ ?_
  · intro args s m h hn
    obtain ⟨m9, meth, c, hn9, h1, h2, h3, h4, -, h5, h6, -⟩ := Cond.codeWith_spec (atoms_spec (ws := ws) h _ (by rw [hw]; exact List.mem_cons_self))
    cases hn.symm.trans hn9
    exact ⟨meth, c, h1, h2, h3, h4, h5, h6⟩
  · intro p e s m args below meth c s₁ B hml hP _
    have hh0 : s₁.heap = s.heap := by rw [B.state]; rfl
    obtain ⟨t, a1, o, b1, b2, b3⟩ := body p e s m args below meth c s₁ B hml hP s₁ hh0 (Stand.of_body B)
    exact ⟨t, o, a1, b1, b2, b3⟩
/-! ===== END ===== -/
section
variable {p : Program} {l : Launch} {e : Env} {R : Room} {s : State} {m : MethodId} {args : Array Value} {below : List Frame} {meth : Method} {c : Code} {H : Heap} {locs : List Loc} {cells slots : Nat}
/-- a frame seen from a rebased start, seen from the first start again -/
theorem vx_back9 {T S : State} {R' : Room} {k n : Nat} (X : Stand p l e R s m args below meth c T locs cells slots) (Y : Stand p l e R' ((T.setVm s.vm).setFrames (.invoking m args :: below)) m args below meth c T [] 0 0) (Z : Stand p l e R' ((T.setVm s.vm).setFrames (.invoking m args :: below)) m args below meth c S [] k n) :
    Stand p l e R s m args below meth c S locs (cells + k) (slots + n) := by
  have hW0 : s.WarmedH ((T.setVm s.vm).setFrames (.invoking m args :: below)).vm := State.WarmedH.refl s
  refine { admits := X.admits, cas := X.cas, clock := X.clock, frames := X.frames, room := X.room, hears := X.hears, method := X.method, code := X.code, here := Z.here, tail := Z.tail, warmed := State.WarmedH.trans hW0 Z.warmed, limits := Z.limits.trans (Y.limits.symm.trans X.limits), bytes := Z.bytes.trans (Y.bytes.symm.trans X.bytes), same := ?_ }
  obtain ⟨e1, e2⟩ := Z.same
  rw [State.setFrames_setFrames] at e1
  have h2 : (T.setVm s.vm).sameButNew (S.setVm s.vm) [] k n := ⟨e1, e2⟩
  have h3 := X.same.trans h2
  rw [List.append_nil] at h3
  exact h3
end
/-! ===== BEGIN an exception as an object: made, kept, thrown later (no traces kept) ===== -/
section VXK
variable {p : Program} {l : Launch} {e : Env} {R : Room} {s : State} {m₀ : MethodId} {args : Array Value} {below : List Frame} {meth : Method} {c : Code} {W : State} {locs : List Loc} {cells slots : Nat}
set_option maxHeartbeats 1000000 in
theorem vx_ctorMadeS (X : Stand p l e R s m₀ args below meth c W locs cells slots) (hexec : p.tables.exec = Jvm.exec) (htr : e.platform.stackTraces = false) {own cls : String} {names : List String} {ic : Nat}
    (hown : s.vm.findClass own = some m₀.cls) (hcls : Bundle.fit cls = true) (hnames : ∀ n ∈ names, Bundle.fit n = true)
    (h : ∀ a ∈ Bundle.ownAtoms own ic cls names, a.before args s = true)
    (hlocs : ∀ x ∈ locs, ∀ cell, s.heap[x.base]? = some cell → cell.vm.isStatics = false)
    {a : Addr} {cX : ClassId} {kX : Class} (hfoundX : s.vm.findClass cls = some cX) (hkX : s.vm.classes[cX]? = some kX) (hcell : W.heap[a]? = some (freshCell cX kX)) (hnew : s.heap.size ≤ a)
    {msg : Value} (hmsg : msg.isRef = true)
    {g : JFrame} (hg : g.method = m₀) (hsize : g.locals.size = c.maxLocals) {rest : List Value} (hstack : g.stack = msg :: .ref a :: .ref a :: rest)
    (hd6 : decode c.code g.pc = .ok (.invokespecial ic, 3))
    (hRframes : names.length + 3 < R.frames) (hRlocals : 2 * g.monitorRoom + ((Value.ref a :: rest).map fun v => v.category).sum + (13 * (names.length + 1) + 42) ≤ R.locals) :
    ∃ (V : State) (ce : Cell) (L : List Loc), Stand p l e R s m₀ args below meth c (V.setCell a ce) (locs ++ L) cells slots ∧ (∀ y ∈ L, y.base = a) ∧ a < V.heap.size ∧ ce.cls = cX ∧ ce.vm = .none ∧
      ∀ target, Steps p.tables e below ((V.setCell a ce).setTop { g with stack := .ref a :: rest, pc := g.pc + 3 }) target → Steps p.tables e below (W.setTop g) target := by
  have howns : e.platform.frameOwnsMonitors = true := by rw [X.admits.platform]
  have hfin : e.platform.finalization = false := by rw [X.admits.platform]
  have hpl : e.platform.magicAccessors = ({} : Platform).magicAccessors := by rw [X.admits.platform]
  have a' : ∀ x, x ∈ Bundle.ownAtoms own ic cls names → x.holds args s none s [] = true := fun x hx => h x hx
  obtain ⟨T, Z0, L, -, Y⟩ := ThrowableC.of_atoms (args := args) howns hfin hpl (fun x hx => h x (by simp [Bundle.ownAtoms, hx]))
  obtain ⟨Z, M, LZ, LM, hnZ⟩ := Init0T.ofS_atoms (args := args) hpl L Y (fun x hx => h x (by simp [Bundle.ownAtoms, hx]))
  obtain ⟨P1, Ps, hlen, L1, hL, hP1m, hlink1, hlink⟩ := Bundle.chainS (args := args) hpl hnZ names cls hcls hnames (fun x hx => h x (by simp [Bundle.ownAtoms, hx]))
  have hfound : s.vm.findClass cls = some P1.m.cls := findClass_of_methodNamed hP1m
  cases Option.some.inj (hfoundX.symm.trans hfound)
  obtain ⟨c1, kX', hc1, hk, hord, -, -, hn6⟩ := Cond.instantiable_spec (a' (.instantiable cls 6) (by simp [Bundle.ownAtoms]))
  cases Option.some.inj (hc1.symm.trans hfound)
  cases Option.some.inj (hkX.symm.trans hk)
  have hsel0 : selectMethod e.platform s.vm P1.m.cls T.fill0 = .method T.fill0 := by
    obtain ⟨c2, r2, m2, q1, q2, q3, q4, -⟩ := Cond.selects_spec (a' (.selects cls Bundle.tFill0 Bundle.tFill0) (by simp [Bundle.ownAtoms]))
    cases Option.some.inj (q1.symm.trans hfound)
    cases Option.some.inj (q2.symm.trans (State.methodFound?_of_named Y.fill0 (by decide)))
    cases Option.some.inj (q3.symm.trans Y.fill0)
    rw [Launch.admits_selectMethod X.admits]; exact q4
  have hselF : selectMethod e.platform s.vm P1.m.cls T.fill = .method T.fill := by
    obtain ⟨c2, r2, m2, q1, q2, q3, q4, -⟩ := Cond.selects_spec (a' (.selects cls Bundle.tFill Bundle.tFill) (by simp [Bundle.ownAtoms]))
    cases Option.some.inj (q1.symm.trans hfound)
    cases Option.some.inj (q2.symm.trans (State.methodFound?_of_named Y.fill (by decide)))
    cases Option.some.inj (q3.symm.trans Y.fill)
    rw [Launch.admits_selectMethod X.admits]; exact q4
  obtain ⟨cellS0, hcS0, hiss⟩ := Y.statics
  obtain ⟨u0, hu0⟩ := Cond.staticRefV Y.unassigned L.unassignedStatic L.statics hcS0 hiss (a' (.isRef (.static Bundle.tN "UNASSIGNED_STACK" Bundle.steD)) (by simp [Bundle.ownAtoms]))
  obtain ⟨sen, hsen⟩ := Cond.staticRefV Y.sentinel L.sentinelStatic L.statics hcS0 hiss (a' (.isRef (.static Bundle.tN "SUPPRESSED_SENTINEL" Bundle.listD)) (by simp [Bundle.ownAtoms]))
  obtain ⟨ci198, i198, fB, hk198, hg198, ha198, hsB, -, hnB, htB, hffB⟩ := Cond.ownField (t := .object "java/lang/Object") Y.found L.cls (by decide +kernel) (a' (.fieldLink Bundle.tN 198 Bundle.tN "backtrace" "Ljava/lang/Object;") (by simp [Bundle.ownAtoms])) (a' (.lays Bundle.tN Bundle.tN "backtrace" "Ljava/lang/Object;") (by simp [Bundle.ownAtoms])) e.platform hpl
  obtain ⟨cellS, hcS', heS, -, hkeep⟩ := X.same.2.2.2.2.2 T.aS cellS0 hcS0
  have hcellS : W.heap[T.aS]? = some cellS := hcS'
  have hout' : ∀ i, (⟨T.aS, i⟩ : Loc) ∉ locs := fun i hmem => by
    have := hlocs _ hmem cellS0 hcS0
    rw [hiss] at this; cases this
  have hknownS : cellS.vm ≠ .unknown := by
    rw [heS]; intro hu
    rw [show cellS0.vm = .unknown from hu] at hiss
    cases hiss
  have hneS : T.aS ≠ a := Nat.ne_of_lt (Nat.lt_of_lt_of_le (Array.getElem?_eq_some_iff.mp hcS0).1 hnew)
  obtain ⟨iM, hffM⟩ := Y.msg
  obtain ⟨tyC, dC, hdC, hdnC⟩ := Cond.laysAt hfound hk Y.cause (a' (.lays cls Bundle.tN "cause" "Ljava/lang/Throwable;") (by simp [Bundle.ownAtoms]))
  obtain ⟨tyS, dS, hdS, hdnS⟩ := Cond.laysAt hfound hk Y.stack (a' (.lays cls Bundle.tN "stackTrace" Bundle.steD) (by simp [Bundle.ownAtoms]))
  obtain ⟨tyP, dP, hdP, hdnP⟩ := Cond.laysAt hfound hk Y.supp (a' (.lays cls Bundle.tN "suppressedExceptions" Bundle.listD) (by simp [Bundle.ownAtoms]))
  obtain ⟨tyM, dM, hdM, hdnM⟩ := Cond.laysAt hfound hk hffM (a' (.lays cls Bundle.tN "detailMessage" "Ljava/lang/String;") (by simp [Bundle.ownAtoms]))
  obtain ⟨tyB, dB, hdB, hdnB⟩ := Cond.laysAt hfound hk hffB (a' (.lays cls Bundle.tN "backtrace" "Ljava/lang/Object;") (by simp [Bundle.ownAtoms]))
  have bC := Cond.laysApart hdB hdC hdnB hdnC (by rw [hnB, Y.causeName]; decide)
  have bS := Cond.laysApart hdB hdS hdnB hdnS (by rw [hnB, Y.stackName]; decide)
  have bP := Cond.laysApart hdB hdP hdnB hdnP (by rw [hnB, Y.suppName]; decide)
  have hskip : SkipFacts T e.platform s (fun u => u) u0 ((preparedCellV T.toThrowableT (freshCell P1.m.cls kX) a u0 sen).withEntry W.cur) :=
    ⟨{ ci198 := ci198, i198 := i198, fBack := fB }, ⟨hk198, hg198, ha198, hsB⟩, by
      have := fresh_default (c := P1.m.cls) tyB
      rw [htB] at this
      simpa [preparedCellV, Cell.setSlot, Cell.withEntry, Array.getElem?_setIfInBounds, bC, bS, bP, bC.symm, bS.symm, bP.symm, defaultValue] using this, fun _ _ => rfl⟩
  obtain ⟨tm, methC, cdC, kC, vm₁, hnC, -, -, -, -, -, -, -, hW₁, st1⟩ := Steps.initColdS (tb := p.tables) (e := e) (below := below) (s := s) (U := W) X.here hexec X.warmed hpl hown (t := Bundle.initS cls) rfl rfl (Bundle.fit_spec hcls).2
    (a' (.methodLink own ic (Bundle.initS cls)) (by simp [Bundle.ownAtoms])) (h (.instanceMethod (Bundle.initS cls)) (by cases names <;> simp [Bundle.ownAtoms, Bundle.chainSAtoms, Bundle.passSAtoms])) (bytes := Bundle.six) (maxL := 2) (h (.code (Bundle.initS cls) Bundle.six 2 none) (by cases names <;> simp [Bundle.ownAtoms, Bundle.chainSAtoms, Bundle.passSAtoms]))
    (f := g) hg (a := a) (msg := msg) (rest := .ref a :: rest) hstack hd6
  cases Option.some.inj (hnC.symm.trans hP1m)
  have X₁ := X.noted hW₁
  obtain ⟨vm₂, X₂, st2⟩ := X₁.ctorMessageOffV hexec (g := { g with stack := .ref a :: rest }) hg hsize T L Z LZ M LM (P1 :: Ps)
    (fun P hP => by rcases List.mem_cons.mp hP with rfl | hP; exact L1; exact hL P hP) ⟨hlink1, hlink⟩ (u0 := u0) (sen := sen) (self := a) hmsg (cell := freshCell P1.m.cls kX) (cellS := cellS)
    hcell (fun _ => by simp) (by simp) rfl rfl hsel0 hselF hcellS hneS hknownS (by rw [hkeep _ (hout' _)]; exact hu0) (by rw [hkeep _ (hout' _)]; exact hsen)
    (Takes.of_laid hk hord tyC (by rw [Y.causeType]; rfl)) (Takes.of_laid hk hord tyS (by rw [Y.stackType]; exact fits_refV_array _ u0)) (Takes.of_laid hk hord tyP (by rw [Y.suppType]; exact fits_refV_object _ sen))
    (Takes.of_laid hk hord tyM (by rw [Y.msgType]; exact fits_refV_object _ ⟨msg, hmsg⟩)) Y.objLocals hskip htr [] hd6
    (by simp only [List.length_cons, hlen]; omega) (by simp only [List.length_cons, hlen]; exact hRlocals)
  have hlt : a < ((W.setVm vm₁).setVm vm₂).heap.size := (Array.getElem?_eq_some_iff.mp hcell).1
  refine ⟨(W.setVm vm₁).setVm vm₂, _, _, X₂, fun y hy => ?_, hlt, rfl, rfl, fun target hwalk => st1 _ (fun acts => ?_)⟩
  · simp only [List.mem_cons, List.not_mem_nil, or_false] at hy
    rcases hy with rfl | rfl | rfl | rfl | rfl <;> rfl
  · rw [doInvoke_state]
    exact st2 _ hwalk
set_option maxHeartbeats 1000000 in
theorem vx_ctorMade0 (X : Stand p l e R s m₀ args below meth c W locs cells slots) (hexec : p.tables.exec = Jvm.exec) (htr : e.platform.stackTraces = false) {own cls : String} {names : List String} {ic : Nat}
    (hown : s.vm.findClass own = some m₀.cls) (hcls : Bundle.fit cls = true) (hnames : ∀ n ∈ names, Bundle.fit n = true)
    (h : ∀ a ∈ Bundle.ownAtoms0 own ic cls names, a.before args s = true)
    (hlocs : ∀ x ∈ locs, ∀ cell, s.heap[x.base]? = some cell → cell.vm.isStatics = false)
    {a : Addr} {cX : ClassId} {kX : Class} (hfoundX : s.vm.findClass cls = some cX) (hkX : s.vm.classes[cX]? = some kX) (hcell : W.heap[a]? = some (freshCell cX kX)) (hnew : s.heap.size ≤ a)
    {g : JFrame} (hg : g.method = m₀) (hsize : g.locals.size = c.maxLocals) {rest : List Value} (hstack : g.stack = .ref a :: .ref a :: rest)
    (hd6 : decode c.code g.pc = .ok (.invokespecial ic, 3))
    (hRframes : names.length + 3 < R.frames) (hRlocals : 2 * g.monitorRoom + ((Value.ref a :: rest).map fun v => v.category).sum + (13 * (names.length + 1) + 41) ≤ R.locals) :
    ∃ (V : State) (ce : Cell) (L : List Loc), Stand p l e R s m₀ args below meth c (V.setCell a ce) (locs ++ L) cells slots ∧ (∀ y ∈ L, y.base = a) ∧ a < V.heap.size ∧ ce.cls = cX ∧ ce.vm = .none ∧
      ∀ target, Steps p.tables e below ((V.setCell a ce).setTop { g with stack := .ref a :: rest, pc := g.pc + 3 }) target → Steps p.tables e below (W.setTop g) target := by
  have howns : e.platform.frameOwnsMonitors = true := by rw [X.admits.platform]
  have hfin : e.platform.finalization = false := by rw [X.admits.platform]
  have hpl : e.platform.magicAccessors = ({} : Platform).magicAccessors := by rw [X.admits.platform]
  have a' : ∀ x, x ∈ Bundle.ownAtoms0 own ic cls names → x.holds args s none s [] = true := fun x hx => h x hx
  obtain ⟨T, Z, L, LZ, Y⟩ := ThrowableC.of_atoms (args := args) howns hfin hpl (fun x hx => h x (by simp [Bundle.ownAtoms0, hx]))
  obtain ⟨P1, Ps, hlen, L1, hL, hP1m, hlink1, hlink⟩ := Bundle.chain0 (args := args) hpl Y.init0 names cls hcls hnames (fun x hx => h x (by simp [Bundle.ownAtoms0, hx]))
  have hfound : s.vm.findClass cls = some P1.m.cls := findClass_of_methodNamed hP1m
  cases Option.some.inj (hfoundX.symm.trans hfound)
  obtain ⟨c1, kX', hc1, hk, hord, -, -, hn6⟩ := Cond.instantiable_spec (a' (.instantiable cls 6) (by simp [Bundle.ownAtoms0]))
  cases Option.some.inj (hc1.symm.trans hfound)
  cases Option.some.inj (hkX.symm.trans hk)
  have hsel0 : selectMethod e.platform s.vm P1.m.cls T.fill0 = .method T.fill0 := by
    obtain ⟨c2, r2, m2, q1, q2, q3, q4, -⟩ := Cond.selects_spec (a' (.selects cls Bundle.tFill0 Bundle.tFill0) (by simp [Bundle.ownAtoms0]))
    cases Option.some.inj (q1.symm.trans hfound)
    cases Option.some.inj (q2.symm.trans (State.methodFound?_of_named Y.fill0 (by decide)))
    cases Option.some.inj (q3.symm.trans Y.fill0)
    rw [Launch.admits_selectMethod X.admits]; exact q4
  have hselF : selectMethod e.platform s.vm P1.m.cls T.fill = .method T.fill := by
    obtain ⟨c2, r2, m2, q1, q2, q3, q4, -⟩ := Cond.selects_spec (a' (.selects cls Bundle.tFill Bundle.tFill) (by simp [Bundle.ownAtoms0]))
    cases Option.some.inj (q1.symm.trans hfound)
    cases Option.some.inj (q2.symm.trans (State.methodFound?_of_named Y.fill (by decide)))
    cases Option.some.inj (q3.symm.trans Y.fill)
    rw [Launch.admits_selectMethod X.admits]; exact q4
  obtain ⟨cellS0, hcS0, hiss⟩ := Y.statics
  obtain ⟨u0, hu0⟩ := Cond.staticRefV Y.unassigned L.unassignedStatic L.statics hcS0 hiss (a' (.isRef (.static Bundle.tN "UNASSIGNED_STACK" Bundle.steD)) (by simp [Bundle.ownAtoms0]))
  obtain ⟨sen, hsen⟩ := Cond.staticRefV Y.sentinel L.sentinelStatic L.statics hcS0 hiss (a' (.isRef (.static Bundle.tN "SUPPRESSED_SENTINEL" Bundle.listD)) (by simp [Bundle.ownAtoms0]))
  obtain ⟨ci198, i198, fB, hk198, hg198, ha198, hsB, -, hnB, htB, hffB⟩ := Cond.ownField (t := .object "java/lang/Object") Y.found L.cls (by decide +kernel) (a' (.fieldLink Bundle.tN 198 Bundle.tN "backtrace" "Ljava/lang/Object;") (by simp [Bundle.ownAtoms0])) (a' (.lays Bundle.tN Bundle.tN "backtrace" "Ljava/lang/Object;") (by simp [Bundle.ownAtoms0])) e.platform hpl
  obtain ⟨cellS, hcS', heS, -, hkeep⟩ := X.same.2.2.2.2.2 T.aS cellS0 hcS0
  have hcellS : W.heap[T.aS]? = some cellS := hcS'
  have hout' : ∀ i, (⟨T.aS, i⟩ : Loc) ∉ locs := fun i hmem => by
    have := hlocs _ hmem cellS0 hcS0
    rw [hiss] at this; cases this
  have hknownS : cellS.vm ≠ .unknown := by
    rw [heS]; intro hu
    rw [show cellS0.vm = .unknown from hu] at hiss
    cases hiss
  have hneS : T.aS ≠ a := Nat.ne_of_lt (Nat.lt_of_lt_of_le (Array.getElem?_eq_some_iff.mp hcS0).1 hnew)
  obtain ⟨iM, hffM⟩ := Y.msg
  obtain ⟨tyC, dC, hdC, hdnC⟩ := Cond.laysAt hfound hk Y.cause (a' (.lays cls Bundle.tN "cause" "Ljava/lang/Throwable;") (by simp [Bundle.ownAtoms0]))
  obtain ⟨tyS, dS, hdS, hdnS⟩ := Cond.laysAt hfound hk Y.stack (a' (.lays cls Bundle.tN "stackTrace" Bundle.steD) (by simp [Bundle.ownAtoms0]))
  obtain ⟨tyP, dP, hdP, hdnP⟩ := Cond.laysAt hfound hk Y.supp (a' (.lays cls Bundle.tN "suppressedExceptions" Bundle.listD) (by simp [Bundle.ownAtoms0]))
  obtain ⟨tyM, dM, hdM, hdnM⟩ := Cond.laysAt hfound hk hffM (a' (.lays cls Bundle.tN "detailMessage" "Ljava/lang/String;") (by simp [Bundle.ownAtoms0]))
  obtain ⟨tyB, dB, hdB, hdnB⟩ := Cond.laysAt hfound hk hffB (a' (.lays cls Bundle.tN "backtrace" "Ljava/lang/Object;") (by simp [Bundle.ownAtoms0]))
  have bC := Cond.laysApart hdB hdC hdnB hdnC (by rw [hnB, Y.causeName]; decide)
  have bS := Cond.laysApart hdB hdS hdnB hdnS (by rw [hnB, Y.stackName]; decide)
  have bP := Cond.laysApart hdB hdP hdnB hdnP (by rw [hnB, Y.suppName]; decide)
  have hskip : SkipFacts T e.platform s (fun u => u) u0 ((preparedCellV T.toThrowableT (freshCell P1.m.cls kX) a u0 sen).withEntry W.cur) :=
    ⟨{ ci198 := ci198, i198 := i198, fBack := fB }, ⟨hk198, hg198, ha198, hsB⟩, by
      have := fresh_default (c := P1.m.cls) tyB
      rw [htB] at this
      simpa [preparedCellV, Cell.setSlot, Cell.withEntry, Array.getElem?_setIfInBounds, bC, bS, bP, bC.symm, bS.symm, bP.symm, defaultValue] using this, fun _ _ => rfl⟩
  obtain ⟨tm, methC, cdC, kC, vm₁, hnC, -, -, -, -, -, -, -, hW₁, st1⟩ := Steps.initCold (tb := p.tables) (e := e) (below := below) (s := s) (U := W) X.here hexec X.warmed hpl hown (t := Bundle.init0 cls) rfl rfl (Bundle.fit_spec hcls).2
    (a' (.methodLink own ic (Bundle.init0 cls)) (by simp [Bundle.ownAtoms0])) (h (.instanceMethod (Bundle.init0 cls)) (by cases names <;> simp [Bundle.ownAtoms0, Bundle.chain0Atoms, Bundle.passAtoms])) (bytes := Bundle.five) (maxL := 1) (h (.code (Bundle.init0 cls) Bundle.five 1 none) (by cases names <;> simp [Bundle.ownAtoms0, Bundle.chain0Atoms, Bundle.passAtoms]))
    (f := g) hg (a := a) (rest := .ref a :: rest) hstack hd6
  cases Option.some.inj (hnC.symm.trans hP1m)
  have X₁ := X.noted hW₁
  obtain ⟨vm₂, X₂, st2⟩ := X₁.ctorPlainOffV hexec (g := { g with stack := .ref a :: rest }) hg hsize T L Z LZ (P1 :: Ps)
    (fun P hP => by rcases List.mem_cons.mp hP with rfl | hP; exact L1; exact hL P hP) ⟨hlink1, hlink⟩ (u0 := u0) (sen := sen) (self := a) (cell := freshCell P1.m.cls kX) (cellS := cellS)
    hcell (fun _ => by simp) (by simp) rfl rfl hsel0 hselF hcellS hneS hknownS (by rw [hkeep _ (hout' _)]; exact hu0) (by rw [hkeep _ (hout' _)]; exact hsen)
    (Takes.of_laid hk hord tyC (by rw [Y.causeType]; rfl)) (Takes.of_laid hk hord tyS (by rw [Y.stackType]; exact fits_refV_array _ u0)) (Takes.of_laid hk hord tyP (by rw [Y.suppType]; exact fits_refV_object _ sen)) Y.objLocals hskip htr [] hd6
    (by simp only [List.length_cons, hlen]; omega) (by simp only [List.length_cons, hlen]; exact hRlocals)
  have hlt : a < ((W.setVm vm₁).setVm vm₂).heap.size := (Array.getElem?_eq_some_iff.mp hcell).1
  refine ⟨(W.setVm vm₁).setVm vm₂, _, _, X₂, fun y hy => ?_, hlt, rfl, rfl, fun target hwalk => st1 _ (fun acts => ?_)⟩
  · simp only [List.mem_cons, List.not_mem_nil, or_false] at hy
    rcases hy with rfl | rfl | rfl | rfl <;> rfl
  · rw [doInvoke_state]
    exact st2 _ hwalk
end VXK
section VXK2
variable {p : Program} {l : Launch} {e : Env} {R : Room} {s : State} {m : MethodId} {args : Array Value} {below : List Frame} {meth : Method} {c : Code} {H : Heap} {locs : List Loc} {cells slots : Nat} {Q : State → Prop}
variable {ls : Array Slot} {rest : List Value} {D : va_G} {cl : List vw_C} {tys : List (ClassId × FieldType)} {ws : va_W}
/-- 'new E("text")' that isn't thrown at once: the object goes on the stack -/
theorem vx_makeS {cc : ByteArray} {pc : Nat} (hexec : p.tables.exec = Jvm.exec) (hb : c.code = cc) (hl : l.stackTraces = false) {own cls text : String} {names : List String} {ik is ic sa ci : Nat} {A : Nat → Prop} {T0 : u_T}
    (hown : s.vm.findClass own = some m.cls) (hcls : Bundle.fit cls = true) (hnames : ∀ n ∈ names, Bundle.fit n = true)
    (hk : (Cond.classLink own ik cls).before args s = true) (hini : (Cond.initialized cls).before args s = true) (hstr : vk_R own is text sa s) (hat : ∀ w ∈ vx_atS own ic cls names, w.before args s = true)
    (hgood : ∀ w ∈ Cond.classLink own ik cls :: Cond.initialized cls :: vx_atS own ic cls names, vx_ot w = true)
    (hU : vx_Zq Bundle.tN "UNASSIGNED_STACK" Bundle.steD A s s.heap) (hN : vx_Zq Bundle.tN "SUPPRESSED_SENTINEL" Bundle.listD A s s.heap) (hS : va_S A s.heap H locs) (hsize : ls.size = c.maxLocals)
    (d0 : decode cc pc = .ok (.new ik, 3)) (d3 : decode cc (pc + 3) = .ok (.dup, 1)) (d4 : decode cc (pc + 4) = .ok (.ldc is, 2)) (d6 : decode cc (pc + 6) = .ok (.invokespecial ic, 3))
    (hK : va_K D cl tys s) (hP : va_P D cl ws H) (hD : va_D A ws) (hA : ∀ q, s.heap.size ≤ q → A q) (hc : cl[ci]? = some (cls, T0, 0))
    (hRframes : names.length + 3 < R.frames) (hRlocals : (rest.map fun v => v.category).sum + (13 * (names.length + 1) + 43) ≤ R.locals) (hRcells : cells + 1 ≤ R.cells) (hRslots : slots + 6 ≤ R.slots)
    (kk : ∀ (q : Nat) (H1 : Heap), va_P D cl (ws ++ [(q, .inr (ci, []))]) H1 → va_D A (ws ++ [(q, .inr (ci, []))]) → va_S A s.heap H1 locs → W p l e R s m args below meth c H1 locs (cells + 1) (slots + 6) Q (F0 m (pc + 9) ls (.ref q :: rest))) :
    W p l e R s m args below meth c H locs cells slots Q (F0 m pc ls rest) := by
  intro T hT X
  subst hT
  have htr : e.platform.stackTraces = false := (show e.platform.stackTraces = l.stackTraces by rw [X.admits.platform]).trans hl
  have Y := vx_rebase X (R' := { frames := R.frames, locals := R.locals, cells := 1, slots := 6 }) (Nat.le_refl _) (Nat.le_refl _) hRcells hRslots
  obtain ⟨s', hA'⟩ : ∃ z, z = (T.setVm s.vm).setFrames (.invoking m args :: below) := ⟨_, rfl⟩
  rw [← hA'] at Y
  have hvm : s'.vm = s.vm := by rw [hA']; rfl
  have hhp : s'.heap = T.heap := by rw [hA']; rfl
  have hW0 : s.WarmedH s'.vm := by rw [hvm]; exact State.WarmedH.refl s
  have hat' : ∀ w ∈ vx_atS own ic cls names, w.before args s' = true := fun w hw => vx_ot_at hW0 hvm.symm (hgood w (List.mem_cons_of_mem _ (List.mem_cons_of_mem _ hw))) (hat w hw)
  have hk' : (Cond.classLink own ik cls).before args s' = true := vx_ot_at hW0 hvm.symm (hgood _ List.mem_cons_self) hk
  have hini' : (Cond.initialized cls).before args s' = true := vx_ot_at hW0 hvm.symm (hgood _ (List.mem_cons_of_mem _ List.mem_cons_self)) hini
  have hU' : vx_Zq Bundle.tN "UNASSIGNED_STACK" Bundle.steD A s' s'.heap := by rw [hhp]; exact vx_Zq.moved hW0.alike (hU.kept hS.2.1)
  have hN' : vx_Zq Bundle.tN "SUPPRESSED_SENTINEL" Bundle.listD A s' s'.heap := by rw [hhp]; exact vx_Zq.moved hW0.alike (hN.kept hS.2.1)
  have h : ∀ w ∈ Bundle.ownAtoms own ic cls names, w.before args s' = true := vx_own hat' (vx_isRefq hU'.1) (vx_isRefq hN'.1) hU'.2.word hN'.2.word
  have hown' : s'.vm.findClass own = some m.cls := by rw [hvm]; exact hown
  have hins : (Cond.instantiable cls 6).before args s' = true := h _ (by simp [Bundle.ownAtoms])
  obtain ⟨vm₁, cX, kX, hfX, hkX, -, -, X₁, st1⟩ := Y.newCold hexec (own := own) (C := cls) (index := ik) (n := 6) hown' hk' hins hini'
    (g := F0 m pc ls rest) rfl (by rw [hb]; exact d0) (Nat.le_refl _) (Nat.le_refl _)
  generalize hT1 : (T.setVm vm₁).pushCell { cls := cX, slots := kX.instanceTypes.map defaultValue, vm := .none } = T1 at X₁ st1
  have hcat : (Value.ref T.heap.size).category = 1 := rfl
  have hcellA : T1.heap[T.heap.size]? = some (freshCell cX kX) := by rw [← hT1]; exact State.heap_pushCell_size _ _
  have d3' : decode c.code (pc + 3) = .ok (.dup, 1) := by rw [hb]; exact d3
  have d4' : decode c.code (pc + 4) = .ok (.ldc is, 2) := by rw [hb]; exact d4
  have hstr' : vk_R own is text sa s' := vk_R.warm hW0 hstr
  obtain ⟨V, ce, L, Z, hL, hlt, hcl9, hvm9, st⟩ := vx_ctorMadeS X₁ hexec htr (own := own) (cls := cls) (names := names) (ic := ic) hown' hcls hnames h (fun x hx => nomatch hx) hfX hkX hcellA (by rw [hhp]; exact Nat.le_refl _) (msg := .ref sa) rfl
    (g := { method := m, pc := pc + 6, locals := ls, stack := .ref sa :: .ref T.heap.size :: .ref T.heap.size :: rest, locked := none }) rfl hsize (rest := rest) rfl
    (by rw [hb]; exact d6) hRframes (by simp only [List.map_cons, List.sum_cons, hcat]; omega)
  have Z0 := Stand.forget (locs := []) Z (fun y hy => by rw [hL y hy, hhp]; exact Nat.le_refl _)
  obtain ⟨f1, f2⟩ := vx_frame Z0.same
  rw [hhp] at f1 f2
  have hcid : ce.cls = D.1 ci := by
    rw [hcl9]
    have h1 := (hK.1 ci _ hc).2.1
    rw [hvm] at hfX
    exact Option.some.inj (hfX.symm.trans h1)
  have hh : (V.setCell T.heap.size ce).heap[T.heap.size]? = some ce := heapAt_setCell_self (s := V) ce hlt
  subst hA'
  have X5 := vx_back9 X Y Z0
  have X6 : Stand p l e R s m args below meth c (V.setCell T.heap.size ce) locs (cells + 1) (slots + 6) := { X5 with same := X5.same.mono (by omega) (by omega) }
  have hk9 : ∀ (k : Nat) (x : Nat × va_E), ws[k]? = some x → (V.setCell T.heap.size ce).heap[x.1]? = T.heap[x.1]? := fun k x hx => f2 x.1 ((hP k x hx).lt) (fun z hz => nomatch hz)
  obtain ⟨t, a1, b1⟩ := kk T.heap.size (V.setCell T.heap.size ce).heap ((hP.kept hk9).app (fun k x hx => by
      have hz : k < 1 := (List.getElem?_eq_some_iff.mp hx).1
      rw [show k = 0 by omega] at hx
      cases hx
      exact ⟨_, hc, ce, hh, hcid, hvm9, fun k hk => absurd hk (Nat.not_lt_zero k)⟩)) (hD.push hP rfl (hA _ hS.1)) ⟨Nat.le_trans hS.1 f1, fun q h1 h2 => (f2 q (Nat.lt_of_lt_of_le h1 hS.1) (fun z hz => nomatch hz)).trans (hS.2.1 q h1 h2), hS.2.2⟩ _ rfl X6
  refine ⟨t, st1 _ ?_, b1⟩
  show Steps p.tables e below (T1.setTop { method := m, pc := pc + 3, locals := ls, stack := .ref T.heap.size :: rest, locked := none }) _
  jvm_step X₁.here [X₁.here.top, hexec, d3', Value.category]
  exact X₁.ldcString hexec (own := own) (text := text) (index := is) (a := sa) hown' hstr'.1 hstr'.2
    (g := { method := m, pc := pc + 4, locals := ls, stack := .ref T.heap.size :: .ref T.heap.size :: rest, locked := none }) rfl d4' _ (st _ a1)
/-- 'new E()' that isn't thrown at once: the object goes on the stack -/
theorem vx_make0 {cc : ByteArray} {pc : Nat} (hexec : p.tables.exec = Jvm.exec) (hb : c.code = cc) (hl : l.stackTraces = false) {own cls : String} {names : List String} {ik ic ci : Nat} {A : Nat → Prop} {T0 : u_T}
    (hown : s.vm.findClass own = some m.cls) (hcls : Bundle.fit cls = true) (hnames : ∀ n ∈ names, Bundle.fit n = true)
    (hk : (Cond.classLink own ik cls).before args s = true) (hini : (Cond.initialized cls).before args s = true) (hat : ∀ w ∈ vx_at0 own ic cls names, w.before args s = true)
    (hgood : ∀ w ∈ Cond.classLink own ik cls :: Cond.initialized cls :: vx_at0 own ic cls names, vx_ot w = true)
    (hU : vx_Zq Bundle.tN "UNASSIGNED_STACK" Bundle.steD A s s.heap) (hN : vx_Zq Bundle.tN "SUPPRESSED_SENTINEL" Bundle.listD A s s.heap) (hS : va_S A s.heap H locs) (hsize : ls.size = c.maxLocals)
    (d0 : decode cc pc = .ok (.new ik, 3)) (d3 : decode cc (pc + 3) = .ok (.dup, 1)) (d4 : decode cc (pc + 4) = .ok (.invokespecial ic, 3))
    (hK : va_K D cl tys s) (hP : va_P D cl ws H) (hD : va_D A ws) (hA : ∀ q, s.heap.size ≤ q → A q) (hc : cl[ci]? = some (cls, T0, 0))
    (hRframes : names.length + 3 < R.frames) (hRlocals : (rest.map fun v => v.category).sum + (13 * (names.length + 1) + 42) ≤ R.locals) (hRcells : cells + 1 ≤ R.cells) (hRslots : slots + 6 ≤ R.slots)
    (kk : ∀ (q : Nat) (H1 : Heap), va_P D cl (ws ++ [(q, .inr (ci, []))]) H1 → va_D A (ws ++ [(q, .inr (ci, []))]) → va_S A s.heap H1 locs → W p l e R s m args below meth c H1 locs (cells + 1) (slots + 6) Q (F0 m (pc + 7) ls (.ref q :: rest))) :
    W p l e R s m args below meth c H locs cells slots Q (F0 m pc ls rest) := by
  intro T hT X
  subst hT
  have htr : e.platform.stackTraces = false := (show e.platform.stackTraces = l.stackTraces by rw [X.admits.platform]).trans hl
  have Y := vx_rebase X (R' := { frames := R.frames, locals := R.locals, cells := 1, slots := 6 }) (Nat.le_refl _) (Nat.le_refl _) hRcells hRslots
  obtain ⟨s', hA'⟩ : ∃ z, z = (T.setVm s.vm).setFrames (.invoking m args :: below) := ⟨_, rfl⟩
  rw [← hA'] at Y
  have hvm : s'.vm = s.vm := by rw [hA']; rfl
  have hhp : s'.heap = T.heap := by rw [hA']; rfl
  have hW0 : s.WarmedH s'.vm := by rw [hvm]; exact State.WarmedH.refl s
  have hat' : ∀ w ∈ vx_at0 own ic cls names, w.before args s' = true := fun w hw => vx_ot_at hW0 hvm.symm (hgood w (List.mem_cons_of_mem _ (List.mem_cons_of_mem _ hw))) (hat w hw)
  have hk' : (Cond.classLink own ik cls).before args s' = true := vx_ot_at hW0 hvm.symm (hgood _ List.mem_cons_self) hk
  have hini' : (Cond.initialized cls).before args s' = true := vx_ot_at hW0 hvm.symm (hgood _ (List.mem_cons_of_mem _ List.mem_cons_self)) hini
  have hU' : vx_Zq Bundle.tN "UNASSIGNED_STACK" Bundle.steD A s' s'.heap := by rw [hhp]; exact vx_Zq.moved hW0.alike (hU.kept hS.2.1)
  have hN' : vx_Zq Bundle.tN "SUPPRESSED_SENTINEL" Bundle.listD A s' s'.heap := by rw [hhp]; exact vx_Zq.moved hW0.alike (hN.kept hS.2.1)
  have h : ∀ w ∈ Bundle.ownAtoms0 own ic cls names, w.before args s' = true := vx_own hat' (vx_isRefq hU'.1) (vx_isRefq hN'.1) hU'.2.word hN'.2.word
  have hown' : s'.vm.findClass own = some m.cls := by rw [hvm]; exact hown
  have hins : (Cond.instantiable cls 6).before args s' = true := h _ (by simp [Bundle.ownAtoms0])
  obtain ⟨vm₁, cX, kX, hfX, hkX, -, -, X₁, st1⟩ := Y.newCold hexec (own := own) (C := cls) (index := ik) (n := 6) hown' hk' hins hini'
    (g := F0 m pc ls rest) rfl (by rw [hb]; exact d0) (Nat.le_refl _) (Nat.le_refl _)
  generalize hT1 : (T.setVm vm₁).pushCell { cls := cX, slots := kX.instanceTypes.map defaultValue, vm := .none } = T1 at X₁ st1
  have hcat : (Value.ref T.heap.size).category = 1 := rfl
  have hcellA : T1.heap[T.heap.size]? = some (freshCell cX kX) := by rw [← hT1]; exact State.heap_pushCell_size _ _
  have d3' : decode c.code (pc + 3) = .ok (.dup, 1) := by rw [hb]; exact d3
  obtain ⟨V, ce, L, Z, hL, hlt, hcl9, hvm9, st⟩ := vx_ctorMade0 X₁ hexec htr (own := own) (cls := cls) (names := names) (ic := ic) hown' hcls hnames h (fun x hx => nomatch hx) hfX hkX hcellA (by rw [hhp]; exact Nat.le_refl _)
    (g := { method := m, pc := pc + 4, locals := ls, stack := .ref T.heap.size :: .ref T.heap.size :: rest, locked := none }) rfl hsize (rest := rest) rfl
    (by rw [hb]; exact d4) hRframes (by simp only [List.map_cons, List.sum_cons, hcat]; omega)
  have Z0 := Stand.forget (locs := []) Z (fun y hy => by rw [hL y hy, hhp]; exact Nat.le_refl _)
  obtain ⟨f1, f2⟩ := vx_frame Z0.same
  rw [hhp] at f1 f2
  have hcid : ce.cls = D.1 ci := by
    rw [hcl9]
    have h1 := (hK.1 ci _ hc).2.1
    rw [hvm] at hfX
    exact Option.some.inj (hfX.symm.trans h1)
  have hh : (V.setCell T.heap.size ce).heap[T.heap.size]? = some ce := heapAt_setCell_self (s := V) ce hlt
  subst hA'
  have X5 := vx_back9 X Y Z0
  have X6 : Stand p l e R s m args below meth c (V.setCell T.heap.size ce) locs (cells + 1) (slots + 6) := { X5 with same := X5.same.mono (by omega) (by omega) }
  have hk9 : ∀ (k : Nat) (x : Nat × va_E), ws[k]? = some x → (V.setCell T.heap.size ce).heap[x.1]? = T.heap[x.1]? := fun k x hx => f2 x.1 ((hP k x hx).lt) (fun z hz => nomatch hz)
  obtain ⟨t, a1, b1⟩ := kk T.heap.size (V.setCell T.heap.size ce).heap ((hP.kept hk9).app (fun k x hx => by
      have hz : k < 1 := (List.getElem?_eq_some_iff.mp hx).1
      rw [show k = 0 by omega] at hx
      cases hx
      exact ⟨_, hc, ce, hh, hcid, hvm9, fun k hk => absurd hk (Nat.not_lt_zero k)⟩)) (hD.push hP rfl (hA _ hS.1)) ⟨Nat.le_trans hS.1 f1, fun q h1 h2 => (f2 q (Nat.lt_of_lt_of_le h1 hS.1) (fun z hz => nomatch hz)).trans (hS.2.1 q h1 h2), hS.2.2⟩ _ rfl X6
  refine ⟨t, st1 _ ?_, b1⟩
  show Steps p.tables e below (T1.setTop { method := m, pc := pc + 3, locals := ls, stack := .ref T.heap.size :: rest, locked := none }) _
  jvm_step X₁.here [X₁.here.top, hexec, d3', Value.category]
  exact st _ a1
/-- 'throw x' of an object that was made before -/
theorem vx_athrow {cc : ByteArray} {pc : Nat} (hexec : p.tables.exec = Jvm.exec) (hb : c.code = cc) {q : Addr} (hdg : decode cc pc = .ok (.athrow, 1)) (k : vx_W p l e R s m args below meth c H locs cells slots Q (F0 m pc ls rest) q) : W p l e R s m args below meth c H locs cells slots Q (F0 m pc ls (.ref q :: rest)) := by
  intro T hT X
  obtain ⟨t, st, hq⟩ := k T hT X
  refine ⟨t, ?_, hq⟩
  have hdg' : decode c.code pc = .ok (.athrow, 1) := by rw [hb]; exact hdg
  jvm_step X.here [X.here.top, hexec, hdg', athrow.wp_sem]
  exact st
end VXK2
/-! ===== END ===== -/
/-! ===== BEGIN a constructor that throws (launches without stack traces) ===== -/
section VXIA
variable {p : Program} {l : Launch} {e : Env} {R : Room} {s : State} {m : MethodId} {args : Array Value} {below : List Frame} {meth : Method} {c : Code} {T : State} {locs : List Loc} {cells slots : Nat}
theorem vx_callI (X : Stand p l e R s m args below meth c T locs cells slots) (hexec : p.tables.exec = Jvm.exec) {own : String} {index : Nat} {y : MethodName} {bytes : ByteArray} {maxL : Nat}
    (hown : s.vm.findClass own = some m.cls) (hy1 : y.name = "<init>") (hlink : (Cond.methodLink own index y).before args s = true) (hinst : (Cond.instanceMethod y).before args s = true)
    (hcode : (Cond.code y bytes maxL none).before args s = true) (hy : y.cls ≠ "java/lang/invoke/MethodHandle" ∧ y.cls ≠ "java/lang/invoke/VarHandle")
    {W9 : Nat} {Pre : Pt → Array Value → Prop} {Post : Pt → Array Value → Option Value → Pt → Prop} {PostX : Pt → Array Value → Addr → Pt → Prop} (hK : vx_Back l R p e below s args y 3 W9 Pre Post PostX)
    {g : JFrame} (hg : g.method = m) (hsize : g.locals.size = c.maxLocals) {a : Addr} {argsL rest : List Value} (hlen : ∀ sig, parseMethodDescriptor y.desc = some sig → argsL.length = sig.parameters.length)
    (hstack : g.stack = argsL.reverse ++ .ref a :: rest) (hW : 2 * g.monitorRoom + (rest.map fun v => v.category).sum ≤ W9) (hdg : decode c.code g.pc = .ok (.invokespecial index, 3))
    (hpre : ∀ vm₁, s.WarmedH vm₁ → Pre ⟨T.setVm vm₁, locs, cells, slots⟩ (Value.ref a :: argsL).toArray) :
    (∃ (v : Option Value) (vm₁ : Vm) (B : Pt), s.WarmedH vm₁ ∧ Stand p l e R s m args below meth c B.U B.locs B.cells B.slots ∧ Post ⟨T.setVm vm₁, locs, cells, slots⟩ (Value.ref a :: argsL).toArray v B ∧
      ∀ target, Steps p.tables e below (B.U.setTop { g with pc := g.pc + 3, stack := v.toList ++ rest }) target → Steps p.tables e below (T.setTop g) target) ∨
    (∃ (q : Addr) (vm₁ : Vm) (B : Pt), s.WarmedH vm₁ ∧ Stand p l e R s m args below meth c B.U B.locs B.cells B.slots ∧ PostX ⟨T.setVm vm₁, locs, cells, slots⟩ (Value.ref a :: argsL).toArray q B ∧
      Steps p.tables e below (T.setTop g) ((B.U.setTop { g with stack := rest }).pushFrame (.throwing q))) := by
  subst hg
  have hpl : e.platform.magicAccessors = ({} : Platform).magicAccessors := by rw [X.admits.platform]
  obtain ⟨mk, methM, cM, kP, vm₁, hnamed, hmethM, hcodeM, -, hlocalsM, -, hkP, -, hW₁, hstep₁⟩ := Steps.initColdArgs (e := e) X.here hexec X.warmed hpl hown hy1 hy hlink hinst hcode (f := g) rfl hlen hstack hdg
  have X₁ := X.noted hW₁
  rcases hK g.method meth c ⟨T.setVm vm₁, locs, cells, slots⟩ { g with stack := rest } (.invokespecial index) mk (Value.ref a :: argsL).toArray X₁ rfl hsize hdg hW (X₁.named hnamed) (hpre vm₁ X₁.warmed) with ⟨v, B, X', hpost, hsteps⟩ | ⟨q, B, X', hpost, hsteps⟩
  · exact Or.inl ⟨v, vm₁, B, X₁.warmed, X', hpost, fun target h => hstep₁ _ fun acts => by rw [doInvoke_state]; exact hsteps.trans h⟩
  · exact Or.inr ⟨q, vm₁, B, X₁.warmed, X', hpost, hstep₁ _ fun acts => by rw [doInvoke_state]; exact hsteps⟩
end VXIA
section VXIB
variable {p : Program} {l : Launch} {e : Env} {R : Room} {s : State} {m : MethodId} {args : Array Value} {below : List Frame} {meth : Method} {c : Code} {H : Heap} {locs : List Loc} {cells slots : Nat}
variable {y : MethodName} {bytes cc : ByteArray} {maxL nL mc ms n index : Nat} {ret : Option FieldType} {ws : List Cond} {rm : Room} {Pc : Array Value → State → Prop} {Qc : Array Value → State → Outcome → State → Prop} {XC : String → State → State → Prop} {free : Addr → Prop} {Ts : List Cond} {own C : String} {b : Addr} {As rest : List Value} {g : JFrame}
theorem vx_runI (S : CallFix p m c cc nL s args Ts own) (hM : vx_Met l y ws rm Pc Qc XC mc ms free) (cw : CallB R s args own index y bytes maxL none ws rm mc ms n ∧ y.name = "<init>" ∧ (Cond.instanceMethod y).before args s = true) (hp : PreS s H Pc (.ref b :: As))
    (hg : g.method = m) (hn : As.length = n) (hsize : g.locals.size = nL) (hstack : g.stack = As.reverse ++ .ref b :: rest) (hW : 2 * g.monitorRoom + (rest.map fun v => v.category).sum ≤ 8) (hdg : decode cc g.pc = .ok (.invokespecial index, 3)) (hf : cells + mc ≤ R.cells ∧ slots + ms ≤ R.slots) :
    vx_Run p l e R s m args below meth c H locs cells slots mc ms g rest (Qc (Value.ref b :: As).toArray) XC free := by
  have hK : vx_Back l R p e below s args y 3 8 (PreOf R mc ms Pc) (PostOf Qc mc ms free) (vx_Post XC mc ms free) := vx_callBack cw.1 hM hp.1
  obtain ⟨⟨-, -, -, -, -, -, hcode, -, hy, hlen, hl⟩, hy1, hin⟩ := cw
  obtain ⟨hx, hb, hml, ho, -⟩ := S
  have hPc := hp.2
  intro T hT X
  rcases vx_callI X hx (bytes := bytes) (maxL := maxL) ho hy1 hl hin hcode hy hK hg (hsize.trans hml.symm) (a := b) (argsL := As) (rest := rest) (fun sig h => hn.trans (hlen sig h)) hstack hW (by rw [hb]; exact hdg)
    (fun vm₁ hW₁ => ⟨hf.1, hf.2, hPc (T.setVm vm₁) hT hW₁⟩) with ⟨v, vm₁, ⟨U', l2, c2, s2⟩, hW₁, X', ⟨g', mk, t, L, e1, e2, hq, h1, hL, h2, h3⟩, st⟩ | ⟨q, vm₁, ⟨U', l2, c2, s2⟩, hW₁, X', ⟨g', mk, t, L, E, ce, e1, e2, hq, hce, hcv, hcl, h1, hL, h2, h3⟩, st⟩
  · dsimp only [Pt.U, Pt.locs, Pt.cells, Pt.slots] at X' e1 e2 h1 h2 h3 st
    subst h1; subst h2; subst h3
    exact Or.inl ⟨v, (T.setVm vm₁).calling g' mk (Value.ref b :: As).toArray, t, U', L, hT, X', hL, e1, e2, hq, st⟩
  · dsimp only [Pt.U, Pt.locs, Pt.cells, Pt.slots] at X' e1 e2 h1 h2 h3 st hcl
    subst h1; subst h2; subst h3
    exact Or.inr ⟨q, (T.setVm vm₁).calling g' mk (Value.ref b :: As).toArray, t, U', L, E, ce, hT, X', hL, e1, e2, hq, hce, hcv, vx_cls hW₁ hcl, st⟩
end VXIB
/-! ===== END ===== -/
/-! ===== BEGIN a private constructor of a nest mate that throws ===== -/
section VXIC
variable {p : Program} {l : Launch} {e : Env} {R : Room} {s : State} {m : MethodId} {args : Array Value} {below : List Frame} {meth : Method} {c : Code} {T : State} {locs : List Loc} {cells slots : Nat}
theorem vx_callIN (X : Stand p l e R s m args below meth c T locs cells slots) (hexec : p.tables.exec = Jvm.exec) {own : String} {index : Nat} {host : String} {y : MethodName} {bytes : ByteArray} {maxL : Nat}
    (hown : s.vm.findClass own = some m.cls) (hy1 : y.name = "<init>") (hlink : (Cond.methodLinkNest own index y host).before args s = true) (hinst : (Cond.instanceMethod y).before args s = true)
    (hcode : (Cond.code y bytes maxL none).before args s = true) (hy : y.cls ≠ "java/lang/invoke/MethodHandle" ∧ y.cls ≠ "java/lang/invoke/VarHandle")
    {W9 : Nat} {Pre : Pt → Array Value → Prop} {Post : Pt → Array Value → Option Value → Pt → Prop} {PostX : Pt → Array Value → Addr → Pt → Prop} (hK : vx_Back l R p e below s args y 3 W9 Pre Post PostX)
    {g : JFrame} (hg : g.method = m) (hsize : g.locals.size = c.maxLocals) {a : Addr} {argsL rest : List Value} (hlen : ∀ sig, parseMethodDescriptor y.desc = some sig → argsL.length = sig.parameters.length)
    (hstack : g.stack = argsL.reverse ++ .ref a :: rest) (hW : 2 * g.monitorRoom + (rest.map fun v => v.category).sum ≤ W9) (hdg : decode c.code g.pc = .ok (.invokespecial index, 3))
    (hpre : ∀ vm₁, s.WarmedH vm₁ → Pre ⟨T.setVm vm₁, locs, cells, slots⟩ (Value.ref a :: argsL).toArray) :
    (∃ (v : Option Value) (vm₁ : Vm) (B : Pt), s.WarmedH vm₁ ∧ Stand p l e R s m args below meth c B.U B.locs B.cells B.slots ∧ Post ⟨T.setVm vm₁, locs, cells, slots⟩ (Value.ref a :: argsL).toArray v B ∧
      ∀ target, Steps p.tables e below (B.U.setTop { g with pc := g.pc + 3, stack := v.toList ++ rest }) target → Steps p.tables e below (T.setTop g) target) ∨
    (∃ (q : Addr) (vm₁ : Vm) (B : Pt), s.WarmedH vm₁ ∧ Stand p l e R s m args below meth c B.U B.locs B.cells B.slots ∧ PostX ⟨T.setVm vm₁, locs, cells, slots⟩ (Value.ref a :: argsL).toArray q B ∧
      Steps p.tables e below (T.setTop g) ((B.U.setTop { g with stack := rest }).pushFrame (.throwing q))) := by
  subst hg
  have hpl : e.platform.magicAccessors = ({} : Platform).magicAccessors := by rw [X.admits.platform]
  obtain ⟨mk, methM, cM, kP, vm₁, hnamed, hmethM, hcodeM, -, hlocalsM, -, hkP, -, hW₁, hstep₁⟩ := Steps.initColdArgsNest (e := e) X.here hexec X.warmed hpl hown hy1 hy hlink hinst hcode (f := g) rfl hlen hstack hdg
  have X₁ := X.noted hW₁
  rcases hK g.method meth c ⟨T.setVm vm₁, locs, cells, slots⟩ { g with stack := rest } (.invokespecial index) mk (Value.ref a :: argsL).toArray X₁ rfl hsize hdg hW (X₁.named hnamed) (hpre vm₁ X₁.warmed) with ⟨v, B, X', hpost, hsteps⟩ | ⟨q, B, X', hpost, hsteps⟩
  · exact Or.inl ⟨v, vm₁, B, X₁.warmed, X', hpost, fun target h => hstep₁ _ fun acts => by rw [doInvoke_state]; exact hsteps.trans h⟩
  · exact Or.inr ⟨q, vm₁, B, X₁.warmed, X', hpost, hstep₁ _ fun acts => by rw [doInvoke_state]; exact hsteps⟩
end VXIC
section VXID
variable {p : Program} {l : Launch} {e : Env} {R : Room} {s : State} {m : MethodId} {args : Array Value} {below : List Frame} {meth : Method} {c : Code} {H : Heap} {locs : List Loc} {cells slots : Nat}
theorem vx_runIN {y : MethodName} {bytes cc : ByteArray} {maxL nL mc ms n index : Nat} {ws : List Cond} {rm : Room} {Pc : Array Value → State → Prop} {Qc : Array Value → State → Outcome → State → Prop} {XC : String → State → State → Prop} {free : Addr → Prop} {Ts : List Cond} {own host : String} {b : Addr} {As rest : List Value} {g : JFrame}
    (S : CallFix p m c cc nL s args Ts own) (hM : vx_Met l y ws rm Pc Qc XC mc ms free) (cw : va_CN R s args own index y host bytes maxL none ws rm mc ms n ∧ y.name = "<init>" ∧ (Cond.instanceMethod y).before args s = true) (hp : PreS s H Pc (.ref b :: As))
    (hg : g.method = m) (hn : As.length = n) (hsize : g.locals.size = nL) (hstack : g.stack = As.reverse ++ .ref b :: rest) (hW : 2 * g.monitorRoom + (rest.map fun v => v.category).sum ≤ 8) (hdg : decode cc g.pc = .ok (.invokespecial index, 3)) (hf : cells + mc ≤ R.cells ∧ slots + ms ≤ R.slots) :
    vx_Run p l e R s m args below meth c H locs cells slots mc ms g rest (Qc (Value.ref b :: As).toArray) XC free := by
  obtain ⟨⟨⟨hrc, hrs, hfr, hlo, hws, hcw⟩, hcode, hini, hy, hlen, hl⟩, hx1, hx2⟩ := cw
  have hK : vx_Back l R p e below s args y 3 8 (PreOf R mc ms Pc) (PostOf Qc mc ms free) (vx_Post XC mc ms free) := vx_back (bytes := bytes) (maxL := maxL) (ret := none) hM hp.1 hrc hrs hfr hlo hws hcw (fun a' U hW => word_at hW (Or.inl (by first | rfl | simp [Cond.onTables, Cond.keeps, Cond.steady])) hini)
  obtain ⟨hx, hb, hml, ho, -⟩ := S
  have hPc := hp.2
  intro T hT X
  rcases vx_callIN X hx (bytes := bytes) (maxL := maxL) ho hx1 hl hx2 hcode hy hK hg (hsize.trans hml.symm) (a := b) (argsL := As) (rest := rest) (fun sig h => hn.trans (hlen sig h)) hstack hW (by rw [hb]; exact hdg)
    (fun vm₁ hW₁ => ⟨hf.1, hf.2, hPc (T.setVm vm₁) hT hW₁⟩) with ⟨v, vm₁, ⟨U', l2, c2, s2⟩, hW₁, X', ⟨g', mk, t, L, e1, e2, hq, h1, hL, h2, h3⟩, st⟩ | ⟨q, vm₁, ⟨U', l2, c2, s2⟩, hW₁, X', ⟨g', mk, t, L, E, ce, e1, e2, hq, hce, hcv, hcl, h1, hL, h2, h3⟩, st⟩
  · dsimp only [Pt.U, Pt.locs, Pt.cells, Pt.slots] at X' e1 e2 h1 h2 h3 st
    subst h1; subst h2; subst h3
    exact Or.inl ⟨v, (T.setVm vm₁).calling g' mk (Value.ref b :: As).toArray, t, U', L, hT, X', hL, e1, e2, hq, st⟩
  · dsimp only [Pt.U, Pt.locs, Pt.cells, Pt.slots] at X' e1 e2 h1 h2 h3 st hcl
    subst h1; subst h2; subst h3
    exact Or.inr ⟨q, (T.setVm vm₁).calling g' mk (Value.ref b :: As).toArray, t, U', L, E, ce, hT, X', hL, e1, e2, hq, hce, hcv, vx_cls hW₁ hcl, st⟩
end VXID
/-! ===== END ===== -/
/-! ===== BEGIN a method of a class above, found by the receiver, that may throw (follows va_callVU, va_runU of this kit) ===== -/
section
variable {p : Program} {l : Launch} {e : Env} {R : Room} {s : State} {m : MethodId} {args : Array Value} {below : List Frame} {meth : Method} {c : Code} {H : Heap} {locs : List Loc} {cells slots : Nat}
theorem vx_callVU {T : State} {locs : List Loc} {cells slots : Nat} (X : Stand p l e R s m args below meth c T locs cells slots) (hexec : p.tables.exec = Jvm.exec) {own C owner : String} {index : Nat} {x y : MethodName} {bytes : ByteArray} {maxL : Nat} {ret : Option FieldType}
    (hown : s.vm.findClass own = some m.cls) (hlink : (Cond.methodLink own index x).before args s = true) (hsame : (Cond.sameMethod x.cls owner x.name x.desc).before args s = true)
    (hd0 : va_Decl s ⟨owner, x.name, x.desc⟩) (howner : owner ≠ "java/lang/invoke/MethodHandle" ∧ owner ≠ "java/lang/invoke/VarHandle")
    (hsel : (Cond.selects C x y).before args s = true) (hinst : (Cond.instanceMethod y).before args s = true) (hcode : (Cond.code y bytes maxL ret).before args s = true)
    {W : Nat} {Pre : Pt → Array Value → Prop} {Post : Pt → Array Value → Option Value → Pt → Prop} {PostX : Pt → Array Value → Addr → Pt → Prop} (hK : vx_Back l R p e below s args y 3 W Pre Post PostX)
    {b : Addr} {cellB : Cell} (hcell : T.heap[b]? = some cellB) (hobj : cellB.vm.isStatics = false) (hcls : s.vm.findClass C = some cellB.cls)
    {g : JFrame} (hg : g.method = m) (hsize : g.locals.size = c.maxLocals) {argsL rest : List Value} (hlen : ∀ sig, parseMethodDescriptor x.desc = some sig → argsL.length = sig.parameters.length)
    (hstack : g.stack = argsL.reverse ++ .ref b :: rest) (hW : 2 * g.monitorRoom + (rest.map fun v => v.category).sum ≤ W) (hdg : decode c.code g.pc = .ok (.invokevirtual index, 3))
    (hpre : ∀ vm₁, s.WarmedH vm₁ → Pre ⟨T.setVm vm₁, locs, cells, slots⟩ (Value.ref b :: argsL).toArray) :
    (∃ (v : Option Value) (vm₁ : Vm) (B : Pt), s.WarmedH vm₁ ∧ Stand p l e R s m args below meth c B.U B.locs B.cells B.slots ∧ Post ⟨T.setVm vm₁, locs, cells, slots⟩ (Value.ref b :: argsL).toArray v B ∧
      ∀ target, Steps p.tables e below (B.U.setTop { g with pc := g.pc + 3, stack := v.toList ++ rest }) target → Steps p.tables e below (T.setTop g) target) ∨
    (∃ (q : Addr) (vm₁ : Vm) (B : Pt), s.WarmedH vm₁ ∧ Stand p l e R s m args below meth c B.U B.locs B.cells B.slots ∧ PostX ⟨T.setVm vm₁, locs, cells, slots⟩ (Value.ref b :: argsL).toArray q B ∧
      Steps p.tables e below (T.setTop g) ((B.U.setTop { g with stack := rest }).pushFrame (.throwing q))) := by
  obtain ⟨r0, r, hn, hrm, hstR, hsigR⟩ := hd0
  obtain ⟨cn, ck, r1, hcn, hck, hni, hf, hn1⟩ := Cond.sameMethod_found hsame
  cases hn.symm.trans hn1
  obtain ⟨mk, methM, hnamed, hmethM, -, habM⟩ := Cond.instanceMethod_spec hinst
  obtain ⟨c2, r2, m2, q1, q2, q3, q4, kP, hkP, hkPi⟩ := Cond.selects_spec hsel
  cases hcls.symm.trans q1
  cases hf.symm.trans q2
  cases hnamed.symm.trans q3
  have hselP : selectMethod e.platform s.vm cellB.cls r0 = .method mk := by rw [Launch.admits_selectMethod X.admits]; exact q4
  obtain ⟨vm₁, X₁, hstep₁⟩ := X.invokevirtualUp hexec hown hlink hsame howner hn hrm hstR (a := b) (cell := cellB) hcell
    (fun z h => by rw [h] at hobj; cases hobj) hselP hmethM habM hkP hkPi (g := g) hg (argsL := argsL) (rest := rest) (hlen _ hsigR) hstack hdg
  rcases hK m meth c ⟨T.setVm vm₁, locs, cells, slots⟩ { g with stack := rest } (.invokevirtual index) mk (Value.ref b :: argsL).toArray X₁ hg hsize hdg hW (X₁.named hnamed) (hpre vm₁ X₁.warmed) with ⟨v, B, X', hpost, hsteps⟩ | ⟨q, B, X', hpost, hsteps⟩
  · exact Or.inl ⟨v, vm₁, B, X₁.warmed, X', hpost, fun target h => hstep₁ _ fun acts => by rw [doInvoke_state]; exact hsteps.trans h⟩
  · exact Or.inr ⟨q, vm₁, B, X₁.warmed, X', hpost, hstep₁ _ fun acts => by rw [doInvoke_state]; exact hsteps⟩
theorem vx_runU {x y : MethodName} {bytes cc : ByteArray} {maxL nL mc ms n index : Nat} {ret : Option FieldType} {ws : List Cond} {rm : Room} {Pc : Array Value → State → Prop} {Qc : Array Value → State → Outcome → State → Prop} {XC : String → State → State → Prop} {free : Addr → Prop} {Ts : List Cond} {own C owner : String} {b : Addr} {As rest : List Value} {g : JFrame}
    (S : CallFix p m c cc nL s args Ts own) (hM : vx_Met l y ws rm Pc Qc XC mc ms free) (cw : va_CU R s args own C owner index x y bytes maxL ret ws rm mc ms n) (hp : PreV s H C b Pc As)
    (hg : g.method = m) (hn : As.length = n) (hsize : g.locals.size = nL) (hstack : g.stack = As.reverse ++ .ref b :: rest) (hW : 2 * g.monitorRoom + (rest.map fun v => v.category).sum ≤ 8) (hdg : decode cc g.pc = .ok (.invokevirtual index, 3)) (hf : cells + mc ≤ R.cells ∧ slots + ms ≤ R.slots) :
    vx_Run p l e R s m args below meth c H locs cells slots mc ms g rest (Qc (Value.ref b :: As).toArray) XC free := by
  obtain ⟨hrc, hrs, hfr, hlo, hws, hcw⟩ := cw.back
  have hini := cw.init
  have hK : vx_Back l R p e below s args y 3 8 (PreOf R mc ms Pc) (PostOf Qc mc ms free) (vx_Post XC mc ms free) := vx_back (bytes := bytes) (maxL := maxL) (ret := ret) hM hp.1 hrc hrs hfr hlo hws hcw (fun a' U hW => word_at hW (Or.inl (by first | rfl | simp [Cond.onTables, Cond.keeps, Cond.steady])) hini)
  obtain ⟨hx, hb, hml, ho, -⟩ := S
  obtain ⟨-, ⟨cellB, hcB, hoB, hclB⟩, hPc⟩ := hp
  intro T hT X
  rcases vx_callVU X hx (C := C) (owner := owner) (bytes := bytes) (maxL := maxL) (ret := ret) ho cw.link cw.same cw.decl cw.notMH cw.sel cw.inst cw.code hK (by rw [hT]; exact hcB) hoB hclB hg (hsize.trans hml.symm) (argsL := As) (rest := rest) (fun sig h => hn.trans (cw.len sig h)) hstack hW (by rw [hb]; exact hdg)
    (fun vm₁ hW₁ => ⟨hf.1, hf.2, hPc (T.setVm vm₁) hT hW₁⟩) with ⟨v, vm₁, ⟨U', l2, c2, s2⟩, hW₁, X', ⟨g', mk, t, L, e1, e2, hq, h1, hL, h2, h3⟩, st⟩ | ⟨q, vm₁, ⟨U', l2, c2, s2⟩, hW₁, X', ⟨g', mk, t, L, E, ce, e1, e2, hq, hce, hcv, hcl, h1, hL, h2, h3⟩, st⟩
  · dsimp only [Pt.U, Pt.locs, Pt.cells, Pt.slots] at X' e1 e2 h1 h2 h3 st
    subst h1; subst h2; subst h3
    exact Or.inl ⟨v, (T.setVm vm₁).calling g' mk (Value.ref b :: As).toArray, t, U', L, hT, X', hL, e1, e2, hq, st⟩
  · dsimp only [Pt.U, Pt.locs, Pt.cells, Pt.slots] at X' e1 e2 h1 h2 h3 st hcl
    subst h1; subst h2; subst h3
    exact Or.inr ⟨q, (T.setVm vm₁).calling g' mk (Value.ref b :: As).toArray, t, U', L, E, ce, hT, X', hL, e1, e2, hq, hce, hcv, vx_cls hW₁ hcl, st⟩
end
/-! ===== END ===== -/
/-! ===== BEGIN super.m(..) that may throw (follows va_callSU, va_runSU) ===== -/
section
variable {p : Program} {l : Launch} {e : Env} {R : Room} {s : State} {m : MethodId} {args : Array Value} {below : List Frame} {meth : Method} {c : Code} {H : Heap} {locs : List Loc} {cells slots : Nat}
theorem vx_callSU {T : State} {locs : List Loc} {cells slots : Nat} (X : Stand p l e R s m args below meth c T locs cells slots) (hexec : p.tables.exec = Jvm.exec) {own : String} {index : Nat} {y : MethodName} {bytes : ByteArray} {maxL : Nat} {ret : Option FieldType}
    (hown : s.vm.findClass own = some m.cls) (hlink : (Cond.methodLink own index y).before args s = true) (hsame : (Cond.sameMethod y.cls y.cls y.name y.desc).before args s = true) (hsup : (Cond.superclass own y.cls).before args s = true)
    (hinst : (Cond.instanceMethod y).before args s = true) (hcode : (Cond.code y bytes maxL ret).before args s = true) (hno : y.name ≠ "<init>")
    {W : Nat} {Pre : Pt → Array Value → Prop} {Post : Pt → Array Value → Option Value → Pt → Prop} {PostX : Pt → Array Value → Addr → Pt → Prop} (hK : vx_Back l R p e below s args y 3 W Pre Post PostX)
    {b : Addr} {cellB : Cell} {kB : Class} (hcell : T.heap[b]? = some cellB) (hobj : cellB.vm.isStatics = false) (hkB : s.vm.classes[cellB.cls]? = some kB)
    {g : JFrame} (hg : g.method = m) (hsize : g.locals.size = c.maxLocals) {argsL rest : List Value} (hlen : ∀ sig, parseMethodDescriptor y.desc = some sig → argsL.length = sig.parameters.length)
    (hstack : g.stack = argsL.reverse ++ .ref b :: rest) (hW : 2 * g.monitorRoom + (rest.map fun v => v.category).sum ≤ W) (hdg : decode c.code g.pc = .ok (.invokespecial index, 3))
    (hpre : ∀ vm₁, s.WarmedH vm₁ → Pre ⟨T.setVm vm₁, locs, cells, slots⟩ (Value.ref b :: argsL).toArray) :
    (∃ (v : Option Value) (vm₁ : Vm) (B : Pt), s.WarmedH vm₁ ∧ Stand p l e R s m args below meth c B.U B.locs B.cells B.slots ∧ Post ⟨T.setVm vm₁, locs, cells, slots⟩ (Value.ref b :: argsL).toArray v B ∧
      ∀ target, Steps p.tables e below (B.U.setTop { g with pc := g.pc + 3, stack := v.toList ++ rest }) target → Steps p.tables e below (T.setTop g) target) ∨
    (∃ (q : Addr) (vm₁ : Vm) (B : Pt), s.WarmedH vm₁ ∧ Stand p l e R s m args below meth c B.U B.locs B.cells B.slots ∧ PostX ⟨T.setVm vm₁, locs, cells, slots⟩ (Value.ref b :: argsL).toArray q B ∧
      Steps p.tables e below (T.setTop g) ((B.U.setTop { g with stack := rest }).pushFrame (.throwing q))) := by
  obtain ⟨mk, methM, hnamed, hmethM, hstM, habM⟩ := Cond.instanceMethod_spec hinst
  obtain ⟨methM', cM, hmethM', -, -, -, -, -, -, hsigM⟩ := Cond.code_spec hnamed hcode
  cases hmethM.symm.trans hmethM'
  obtain ⟨ps, dk, kp, hps, hdk, hkp, hsuper, -, -, hnid⟩ := Cond.superclass_spec hown hsup
  have hn : s.methodNamed? ⟨y.cls, y.name, y.desc⟩ = some mk := hnamed
  have hpm : ps = mk.cls := Option.some.inj (hps.symm.trans (findClass_of_methodNamed hnamed))
  have hsub : s.vm.isSubclass ps mk.cls = true := by rw [hpm]; simp [Vm.isSubclass, Vm.isSubclassAux]
  obtain ⟨vm₁, X₁, hstep₁⟩ := X.invokespecialUp hexec hown hlink hsame hn hmethM hstM habM hno hdk hnid hps hsuper hsub (a := b) (cell := cellB) hcell
    (fun z h => by rw [h] at hobj; cases hobj) hkB (g := g) hg (argsL := argsL) (rest := rest) (hlen _ hsigM) hstack hdg
  rcases hK m meth c ⟨T.setVm vm₁, locs, cells, slots⟩ { g with stack := rest } (.invokespecial index) mk (Value.ref b :: argsL).toArray X₁ hg hsize hdg hW (X₁.named hnamed) (hpre vm₁ X₁.warmed) with ⟨v, B, X', hpost, hsteps⟩ | ⟨q, B, X', hpost, hsteps⟩
  · exact Or.inl ⟨v, vm₁, B, X₁.warmed, X', hpost, fun target h => hstep₁ _ (by rw [doInvoke_state]; exact hsteps.trans h)⟩
  · exact Or.inr ⟨q, vm₁, B, X₁.warmed, X', hpost, hstep₁ _ (by rw [doInvoke_state]; exact hsteps)⟩
theorem vx_runSU {y : MethodName} {bytes cc : ByteArray} {maxL nL mc ms n index : Nat} {ret : Option FieldType} {ws : List Cond} {rm : Room} {Pc : Array Value → State → Prop} {Qc : Array Value → State → Outcome → State → Prop} {XC : String → State → State → Prop} {free : Addr → Prop} {Ts : List Cond} {own C : String} {cC : ClassId} {b : Addr} {As rest : List Value} {g : JFrame}
    (hat : ClassAt s C cC) (S : CallFix p m c cc nL s args Ts own) (hM : vx_Met l y ws rm Pc Qc XC mc ms free) (cw : va_CS R s args own index y bytes maxL ret ws rm mc ms n) (hp : PreV s H C b Pc As)
    (hg : g.method = m) (hn : As.length = n) (hsize : g.locals.size = nL) (hstack : g.stack = As.reverse ++ .ref b :: rest) (hW : 2 * g.monitorRoom + (rest.map fun v => v.category).sum ≤ 8) (hdg : decode cc g.pc = .ok (.invokespecial index, 3)) (hf : cells + mc ≤ R.cells ∧ slots + ms ≤ R.slots) :
    vx_Run p l e R s m args below meth c H locs cells slots mc ms g rest (Qc (Value.ref b :: As).toArray) XC free := by
  obtain ⟨⟨hrc, hrs, hfr, hlo, hws, hcw⟩, hl1, hl2, hl3, hl4, hini, hcode, hno, hlen⟩ := cw
  have hK : vx_Back l R p e below s args y 3 8 (PreOf R mc ms Pc) (PostOf Qc mc ms free) (vx_Post XC mc ms free) := vx_back (bytes := bytes) (maxL := maxL) (ret := ret) hM hp.1 hrc hrs hfr hlo hws hcw (fun a' U hW => word_at hW (Or.inl (by first | rfl | simp [Cond.onTables, Cond.keeps, Cond.steady])) hini)
  obtain ⟨hx, hb, hml, ho, -⟩ := S
  obtain ⟨-, ⟨cellB, hcB, hoB, hclB⟩, hPc⟩ := hp
  obtain ⟨hfc, kB, hkB, -⟩ := hat
  cases hfc.symm.trans hclB
  intro T hT X
  rcases vx_callSU X hx (bytes := bytes) (maxL := maxL) (ret := ret) ho hl1 hl2 hl3 hl4 hcode hno hK (by rw [hT]; exact hcB) hoB hkB hg (hsize.trans hml.symm) (argsL := As) (rest := rest) (fun sig h => hn.trans (hlen sig h)) hstack hW (by rw [hb]; exact hdg)
    (fun vm₁ hW₁ => ⟨hf.1, hf.2, hPc (T.setVm vm₁) hT hW₁⟩) with ⟨v, vm₁, ⟨U', l2, c2, s2⟩, hW₁, X', ⟨g', mk, t, L, e1, e2, hq, h1, hL, h2, h3⟩, st⟩ | ⟨q, vm₁, ⟨U', l2, c2, s2⟩, hW₁, X', ⟨g', mk, t, L, E, ce, e1, e2, hq, hce, hcv, hcl, h1, hL, h2, h3⟩, st⟩
  · dsimp only [Pt.U, Pt.locs, Pt.cells, Pt.slots] at X' e1 e2 h1 h2 h3 st
    subst h1; subst h2; subst h3
    exact Or.inl ⟨v, (T.setVm vm₁).calling g' mk (Value.ref b :: As).toArray, t, U', L, hT, X', hL, e1, e2, hq, st⟩
  · dsimp only [Pt.U, Pt.locs, Pt.cells, Pt.slots] at X' e1 e2 h1 h2 h3 st hcl
    subst h1; subst h2; subst h3
    exact Or.inr ⟨q, (T.setVm vm₁).calling g' mk (Value.ref b :: As).toArray, t, U', L, E, ce, hT, X', hL, e1, e2, hq, hce, hcv, vx_cls hW₁ hcl, st⟩
end
/-! ===== END ===== -/
end
section
-- ===== PART A: goes FIRST, ahead of the names: the tables' words, and 'selects' of the private methods out of them =====
/-- a private method of a class that the tables say can be made, by its rows of tables_1 -/
def lw_okq (q : MethodName × Nat) : Prop := (q.1.cls ≠ "java/lang/invoke/MethodHandle" ∧ q.1.cls ≠ "java/lang/invoke/VarHandle") ∧ Cond.instantiable q.1.cls q.2 ∈ tables_1 ∧ Cond.privateMethod q.1 ∈ tables_1 ∧ Cond.instanceMethod q.1 ∈ tables_1
theorem lw_p0 : lw_okq (⟨"RodYard", "needYard", "()V"⟩, 16) := ⟨⟨by decide +kernel, by decide +kernel⟩, List.mem_of_getElem? (i := 34) (by decide +kernel), List.mem_of_getElem? (i := 346) (by decide +kernel), List.mem_of_getElem? (i := 347) (by decide +kernel)⟩
theorem lw_p1 : lw_okq (⟨"java/lang/Throwable", "fillInStackTrace", "(I)Ljava/lang/Throwable;"⟩, 6) := ⟨⟨by decide +kernel, by decide +kernel⟩, List.mem_of_getElem? (i := 390) (by decide +kernel), List.mem_of_getElem? (i := 388) (by decide +kernel), List.mem_of_getElem? (i := 389) (by decide +kernel)⟩
theorem lw_p2 : lw_okq (⟨"RodYard", "needKind", "(I)V"⟩, 16) := ⟨⟨by decide +kernel, by decide +kernel⟩, List.mem_of_getElem? (i := 34) (by decide +kernel), List.mem_of_getElem? (i := 419) (by decide +kernel), List.mem_of_getElem? (i := 420) (by decide +kernel)⟩
theorem lw_p3 : lw_okq (⟨"RodYardLaw$Yard", "give", "(LRodYardLaw$Order;)V"⟩, 16) := ⟨⟨by decide +kernel, by decide +kernel⟩, List.mem_of_getElem? (i := 465) (by decide +kernel), List.mem_of_getElem? (i := 775) (by decide +kernel), List.mem_of_getElem? (i := 776) (by decide +kernel)⟩
theorem lw_p4 : lw_okq (⟨"RodYard", "putBytes", "(II)V"⟩, 16) := ⟨⟨by decide +kernel, by decide +kernel⟩, List.mem_of_getElem? (i := 34) (by decide +kernel), List.mem_of_getElem? (i := 874) (by decide +kernel), List.mem_of_getElem? (i := 875) (by decide +kernel)⟩
theorem lw_p5 : lw_okq (⟨"RodYard$Parser", "beginText", "(I)V"⟩, 9) := ⟨⟨by decide +kernel, by decide +kernel⟩, List.mem_of_getElem? (i := 42) (by decide +kernel), List.mem_of_getElem? (i := 887) (by decide +kernel), List.mem_of_getElem? (i := 888) (by decide +kernel)⟩
theorem lw_p6 : lw_okq (⟨"RodYard$Parser", "readHead", "()Z"⟩, 9) := ⟨⟨by decide +kernel, by decide +kernel⟩, List.mem_of_getElem? (i := 42) (by decide +kernel), List.mem_of_getElem? (i := 892) (by decide +kernel), List.mem_of_getElem? (i := 893) (by decide +kernel)⟩
theorem lw_p7 : lw_okq (⟨"RodYard$Parser", "readWord", "(Ljava/lang/String;)Z"⟩, 9) := ⟨⟨by decide +kernel, by decide +kernel⟩, List.mem_of_getElem? (i := 42) (by decide +kernel), List.mem_of_getElem? (i := 897) (by decide +kernel), List.mem_of_getElem? (i := 898) (by decide +kernel)⟩
theorem lw_p8 : lw_okq (⟨"RodYard$Parser", "nextToken", "()V"⟩, 9) := ⟨⟨by decide +kernel, by decide +kernel⟩, List.mem_of_getElem? (i := 42) (by decide +kernel), List.mem_of_getElem? (i := 901) (by decide +kernel), List.mem_of_getElem? (i := 902) (by decide +kernel)⟩
theorem lw_p9 : lw_okq (⟨"RodYard$Parser", "skipBlanks", "()V"⟩, 9) := ⟨⟨by decide +kernel, by decide +kernel⟩, List.mem_of_getElem? (i := 42) (by decide +kernel), List.mem_of_getElem? (i := 905) (by decide +kernel), List.mem_of_getElem? (i := 906) (by decide +kernel)⟩
theorem lw_p10 : lw_okq (⟨"RodYard$Parser", "takeWord", "()V"⟩, 9) := ⟨⟨by decide +kernel, by decide +kernel⟩, List.mem_of_getElem? (i := 42) (by decide +kernel), List.mem_of_getElem? (i := 912) (by decide +kernel), List.mem_of_getElem? (i := 913) (by decide +kernel)⟩
theorem lw_p11 : lw_okq (⟨"RodYard$Parser", "takeNumber", "()V"⟩, 9) := ⟨⟨by decide +kernel, by decide +kernel⟩, List.mem_of_getElem? (i := 42) (by decide +kernel), List.mem_of_getElem? (i := 919) (by decide +kernel), List.mem_of_getElem? (i := 920) (by decide +kernel)⟩
theorem lw_p12 : lw_okq (⟨"RodYard$Parser", "isWord", "(Ljava/lang/String;)Z"⟩, 9) := ⟨⟨by decide +kernel, by decide +kernel⟩, List.mem_of_getElem? (i := 42) (by decide +kernel), List.mem_of_getElem? (i := 923) (by decide +kernel), List.mem_of_getElem? (i := 924) (by decide +kernel)⟩
theorem lw_p13 : lw_okq (⟨"RodYard$Parser", "fail", "(I)Z"⟩, 9) := ⟨⟨by decide +kernel, by decide +kernel⟩, List.mem_of_getElem? (i := 42) (by decide +kernel), List.mem_of_getElem? (i := 929) (by decide +kernel), List.mem_of_getElem? (i := 930) (by decide +kernel)⟩
theorem lw_p14 : lw_okq (⟨"RodYard$Parser", "readNumber", "(II)Z"⟩, 9) := ⟨⟨by decide +kernel, by decide +kernel⟩, List.mem_of_getElem? (i := 42) (by decide +kernel), List.mem_of_getElem? (i := 934) (by decide +kernel), List.mem_of_getElem? (i := 935) (by decide +kernel)⟩
theorem lw_p15 : lw_okq (⟨"RodYard$Parser", "readLine", "()Z"⟩, 9) := ⟨⟨by decide +kernel, by decide +kernel⟩, List.mem_of_getElem? (i := 42) (by decide +kernel), List.mem_of_getElem? (i := 939) (by decide +kernel), List.mem_of_getElem? (i := 940) (by decide +kernel)⟩
def lw_privs_1 : List (MethodName × Nat) := [(⟨"RodYard", "needYard", "()V"⟩, 16), (⟨"java/lang/Throwable", "fillInStackTrace", "(I)Ljava/lang/Throwable;"⟩, 6), (⟨"RodYard", "needKind", "(I)V"⟩, 16), (⟨"RodYardLaw$Yard", "give", "(LRodYardLaw$Order;)V"⟩, 16), (⟨"RodYard", "putBytes", "(II)V"⟩, 16), (⟨"RodYard$Parser", "beginText", "(I)V"⟩, 9), (⟨"RodYard$Parser", "readHead", "()Z"⟩, 9), (⟨"RodYard$Parser", "readWord", "(Ljava/lang/String;)Z"⟩, 9), (⟨"RodYard$Parser", "nextToken", "()V"⟩, 9), (⟨"RodYard$Parser", "skipBlanks", "()V"⟩, 9), (⟨"RodYard$Parser", "takeWord", "()V"⟩, 9), (⟨"RodYard$Parser", "takeNumber", "()V"⟩, 9), (⟨"RodYard$Parser", "isWord", "(Ljava/lang/String;)Z"⟩, 9), (⟨"RodYard$Parser", "fail", "(I)Z"⟩, 9), (⟨"RodYard$Parser", "readNumber", "(II)Z"⟩, 9), (⟨"RodYard$Parser", "readLine", "()Z"⟩, 9)]
theorem lw_r1 : ∀ q ∈ lw_privs_1, lw_okq q := List.forall_mem_cons.mpr ⟨lw_p0, List.forall_mem_cons.mpr ⟨lw_p1, List.forall_mem_cons.mpr ⟨lw_p2, List.forall_mem_cons.mpr ⟨lw_p3, List.forall_mem_cons.mpr ⟨lw_p4, List.forall_mem_cons.mpr ⟨lw_p5, List.forall_mem_cons.mpr ⟨lw_p6, List.forall_mem_cons.mpr ⟨lw_p7, List.forall_mem_cons.mpr ⟨lw_p8, List.forall_mem_cons.mpr ⟨lw_p9, List.forall_mem_cons.mpr ⟨lw_p10, List.forall_mem_cons.mpr ⟨lw_p11, List.forall_mem_cons.mpr ⟨lw_p12, List.forall_mem_cons.mpr ⟨lw_p13, List.forall_mem_cons.mpr ⟨lw_p14, List.forall_mem_cons.mpr ⟨lw_p15, fun _ h => absurd h List.not_mem_nil⟩⟩⟩⟩⟩⟩⟩⟩⟩⟩⟩⟩⟩⟩⟩⟩
theorem lw_p16 : lw_okq (⟨"RodYard$Parser", "readKind", "()Z"⟩, 9) := ⟨⟨by decide +kernel, by decide +kernel⟩, List.mem_of_getElem? (i := 42) (by decide +kernel), List.mem_of_getElem? (i := 944) (by decide +kernel), List.mem_of_getElem? (i := 945) (by decide +kernel)⟩
theorem lw_p17 : lw_okq (⟨"RodYard$Parser", "readRods", "()Z"⟩, 9) := ⟨⟨by decide +kernel, by decide +kernel⟩, List.mem_of_getElem? (i := 42) (by decide +kernel), List.mem_of_getElem? (i := 957) (by decide +kernel), List.mem_of_getElem? (i := 958) (by decide +kernel)⟩
theorem lw_p18 : lw_okq (⟨"RodYard$Parser", "readOrder", "()Z"⟩, 9) := ⟨⟨by decide +kernel, by decide +kernel⟩, List.mem_of_getElem? (i := 42) (by decide +kernel), List.mem_of_getElem? (i := 966) (by decide +kernel), List.mem_of_getElem? (i := 967) (by decide +kernel)⟩
theorem lw_p19 : lw_okq (⟨"RodYard$Parser", "readPattern", "()Z"⟩, 9) := ⟨⟨by decide +kernel, by decide +kernel⟩, List.mem_of_getElem? (i := 42) (by decide +kernel), List.mem_of_getElem? (i := 975) (by decide +kernel), List.mem_of_getElem? (i := 976) (by decide +kernel)⟩
theorem lw_p20 : lw_okq (⟨"RodYard$Parser", "digitFollows", "()Z"⟩, 9) := ⟨⟨by decide +kernel, by decide +kernel⟩, List.mem_of_getElem? (i := 42) (by decide +kernel), List.mem_of_getElem? (i := 987) (by decide +kernel), List.mem_of_getElem? (i := 988) (by decide +kernel)⟩
theorem lw_p21 : lw_okq (⟨"RodYard", "takeParsedYard", "()V"⟩, 16) := ⟨⟨by decide +kernel, by decide +kernel⟩, List.mem_of_getElem? (i := 34) (by decide +kernel), List.mem_of_getElem? (i := 1011) (by decide +kernel), List.mem_of_getElem? (i := 1012) (by decide +kernel)⟩
theorem lw_p22 : lw_okq (⟨"RodYard", "needRod", "(I)V"⟩, 16) := ⟨⟨by decide +kernel, by decide +kernel⟩, List.mem_of_getElem? (i := 34) (by decide +kernel), List.mem_of_getElem? (i := 1059) (by decide +kernel), List.mem_of_getElem? (i := 1060) (by decide +kernel)⟩
theorem lw_p23 : lw_okq (⟨"RodYard", "needOrder", "(I)V"⟩, 16) := ⟨⟨by decide +kernel, by decide +kernel⟩, List.mem_of_getElem? (i := 34) (by decide +kernel), List.mem_of_getElem? (i := 1072) (by decide +kernel), List.mem_of_getElem? (i := 1073) (by decide +kernel)⟩
theorem lw_p24 : lw_okq (⟨"RodYard", "needPattern", "(I)V"⟩, 16) := ⟨⟨by decide +kernel, by decide +kernel⟩, List.mem_of_getElem? (i := 34) (by decide +kernel), List.mem_of_getElem? (i := 1081) (by decide +kernel), List.mem_of_getElem? (i := 1082) (by decide +kernel)⟩
theorem lw_p25 : lw_okq (⟨"RodYard$Works", "prefers", "(III)Z"⟩, 2) := ⟨⟨by decide +kernel, by decide +kernel⟩, List.mem_of_getElem? (i := 189) (by decide +kernel), List.mem_of_getElem? (i := 1115) (by decide +kernel), List.mem_of_getElem? (i := 1116) (by decide +kernel)⟩
theorem lw_p26 : lw_okq (⟨"RodYard$Works", "fillByPatterns", "()I"⟩, 2) := ⟨⟨by decide +kernel, by decide +kernel⟩, List.mem_of_getElem? (i := 189) (by decide +kernel), List.mem_of_getElem? (i := 1141) (by decide +kernel), List.mem_of_getElem? (i := 1142) (by decide +kernel)⟩
theorem lw_p27 : lw_okq (⟨"RodYard$Works", "timesIn", "(II)I"⟩, 2) := ⟨⟨by decide +kernel, by decide +kernel⟩, List.mem_of_getElem? (i := 189) (by decide +kernel), List.mem_of_getElem? (i := 1149) (by decide +kernel), List.mem_of_getElem? (i := 1150) (by decide +kernel)⟩
theorem lw_p28 : lw_okq (⟨"RodYard$Works", "deliver", "(I)V"⟩, 2) := ⟨⟨by decide +kernel, by decide +kernel⟩, List.mem_of_getElem? (i := 189) (by decide +kernel), List.mem_of_getElem? (i := 1176) (by decide +kernel), List.mem_of_getElem? (i := 1177) (by decide +kernel)⟩
theorem lw_p29 : lw_okq (⟨"RodYard$Works", "nextLength", "(I)I"⟩, 2) := ⟨⟨by decide +kernel, by decide +kernel⟩, List.mem_of_getElem? (i := 189) (by decide +kernel), List.mem_of_getElem? (i := 1188) (by decide +kernel), List.mem_of_getElem? (i := 1189) (by decide +kernel)⟩
theorem lw_p30 : lw_okq (⟨"RodYard$Packing", "offerPiece", "(II)V"⟩, 4) := ⟨⟨by decide +kernel, by decide +kernel⟩, List.mem_of_getElem? (i := 225) (by decide +kernel), List.mem_of_getElem? (i := 1360) (by decide +kernel), List.mem_of_getElem? (i := 1361) (by decide +kernel)⟩
theorem lw_p31 : lw_okq (⟨"RodYard$Packing", "pickBest", "(II)V"⟩, 4) := ⟨⟨by decide +kernel, by decide +kernel⟩, List.mem_of_getElem? (i := 225) (by decide +kernel), List.mem_of_getElem? (i := 1364) (by decide +kernel), List.mem_of_getElem? (i := 1365) (by decide +kernel)⟩
def lw_privs_2 : List (MethodName × Nat) := [(⟨"RodYard$Parser", "readKind", "()Z"⟩, 9), (⟨"RodYard$Parser", "readRods", "()Z"⟩, 9), (⟨"RodYard$Parser", "readOrder", "()Z"⟩, 9), (⟨"RodYard$Parser", "readPattern", "()Z"⟩, 9), (⟨"RodYard$Parser", "digitFollows", "()Z"⟩, 9), (⟨"RodYard", "takeParsedYard", "()V"⟩, 16), (⟨"RodYard", "needRod", "(I)V"⟩, 16), (⟨"RodYard", "needOrder", "(I)V"⟩, 16), (⟨"RodYard", "needPattern", "(I)V"⟩, 16), (⟨"RodYard$Works", "prefers", "(III)Z"⟩, 2), (⟨"RodYard$Works", "fillByPatterns", "()I"⟩, 2), (⟨"RodYard$Works", "timesIn", "(II)I"⟩, 2), (⟨"RodYard$Works", "deliver", "(I)V"⟩, 2), (⟨"RodYard$Works", "nextLength", "(I)I"⟩, 2), (⟨"RodYard$Packing", "offerPiece", "(II)V"⟩, 4), (⟨"RodYard$Packing", "pickBest", "(II)V"⟩, 4)]
theorem lw_r2 : ∀ q ∈ lw_privs_2, lw_okq q := List.forall_mem_cons.mpr ⟨lw_p16, List.forall_mem_cons.mpr ⟨lw_p17, List.forall_mem_cons.mpr ⟨lw_p18, List.forall_mem_cons.mpr ⟨lw_p19, List.forall_mem_cons.mpr ⟨lw_p20, List.forall_mem_cons.mpr ⟨lw_p21, List.forall_mem_cons.mpr ⟨lw_p22, List.forall_mem_cons.mpr ⟨lw_p23, List.forall_mem_cons.mpr ⟨lw_p24, List.forall_mem_cons.mpr ⟨lw_p25, List.forall_mem_cons.mpr ⟨lw_p26, List.forall_mem_cons.mpr ⟨lw_p27, List.forall_mem_cons.mpr ⟨lw_p28, List.forall_mem_cons.mpr ⟨lw_p29, List.forall_mem_cons.mpr ⟨lw_p30, List.forall_mem_cons.mpr ⟨lw_p31, fun _ h => absurd h List.not_mem_nil⟩⟩⟩⟩⟩⟩⟩⟩⟩⟩⟩⟩⟩⟩⟩⟩
theorem lw_p32 : lw_okq (⟨"RodYard", "writeRod", "(I)V"⟩, 16) := ⟨⟨by decide +kernel, by decide +kernel⟩, List.mem_of_getElem? (i := 34) (by decide +kernel), List.mem_of_getElem? (i := 1524) (by decide +kernel), List.mem_of_getElem? (i := 1525) (by decide +kernel)⟩
def lw_privs_3 : List (MethodName × Nat) := [(⟨"RodYard", "writeRod", "(I)V"⟩, 16)]
theorem lw_r3 : ∀ q ∈ lw_privs_3, lw_okq q := List.forall_mem_cons.mpr ⟨lw_p32, fun _ h => absurd h List.not_mem_nil⟩
def lw_privs : List (MethodName × Nat) := lw_privs_1 ++ (lw_privs_2 ++ (lw_privs_3))
def lw_tbl : List Cond := k2_sels lw_privs ++ tables_1
theorem lw_privs_ok : ∀ q ∈ lw_privs, lw_okq q := by
  show ∀ q ∈ lw_privs_1 ++ (lw_privs_2 ++ (lw_privs_3)), lw_okq q
  exact List.forall_mem_append.mpr ⟨lw_r1, List.forall_mem_append.mpr ⟨lw_r2, lw_r3⟩⟩
/-- the streams that the claim lets the run draw from -/
abbrev lw_cs : List Choice := [Jvm.Choice.named "NaN.bits"]
theorem lw_bits : nanBits ∈ lw_cs := by first | decide | exact List.mem_cons_self | simp [lw_cs, nanBits]
end
section
/-! THE SMALL MACHINE: tables (by program, wip/p60/gen/gen03.py) -/
def am_cn : Nat → String := fun k => ((["RodYard", "RodYard$History", "RodYard$Packing", "RodYard$Parser", "RodYard$Plan", "RodYard$State", "RodYard$Text", "RodYard$Trial", "RodYard$Works", "RodYardLaw$Draws", "java/lang/IndexOutOfBoundsException", "java/lang/IllegalArgumentException", "java/lang/IllegalStateException", "RodYardLaw", "java/lang/String", "RodYardLaw$Order", "RodYardLaw$Rod", "RodYardLaw$Yard", "java/lang/StringBuilder", "java/lang/String", "java/lang/StringLatin1", "jdk/internal/util/Preconditions", "java/lang/Math", "java/lang/Object", "java/lang/AbstractStringBuilder", "java/util/Arrays", "jdk/internal/util/ArraysSupport", "java/lang/Integer", "java/lang/System"] : List String)).getD k "?"
def am_F0 : u_T := fun k => match k with
  | 0 => ("RodYard", "input", "[B", true)
  | 1 => ("RodYard", "buffered", "I", false)
  | 2 => ("RodYard", "parser", "LRodYard$Parser;", true)
  | 3 => ("RodYard", "parseError", "I", false)
  | 4 => ("RodYard", "errorPosition", "I", false)
  | 5 => ("RodYard", "errorLine", "I", false)
  | 6 => ("RodYard", "loaded", "Z", false)
  | 7 => ("RodYard", "plan", "LRodYard$Plan;", true)
  | 8 => ("RodYard", "state", "LRodYard$State;", true)
  | 9 => ("RodYard", "works", "LRodYard$Works;", true)
  | 10 => ("RodYard", "trial", "LRodYard$Trial;", true)
  | 11 => ("RodYard", "packing", "LRodYard$Packing;", true)
  | 12 => ("RodYard", "history", "LRodYard$History;", true)
  | 13 => ("RodYard", "slots", "[LRodYard$State;", true)
  | 14 => ("RodYard", "slotUsed", "[Z", true)
  | _ => ("RodYard", "text", "LRodYard$Text;", true)
def am_F1 : u_T := fun k => match k with
  | 0 => ("RodYard$History", "states", "[LRodYard$State;", true)
  | 1 => ("RodYard$History", "next", "I", false)
  | _ => ("RodYard$History", "size", "I", false)
def am_F2 : u_T := fun k => match k with
  | 0 => ("RodYard$Packing", "state", "LRodYard$State;", true)
  | 1 => ("RodYard$Packing", "fewest", "[I", true)
  | 2 => ("RodYard$Packing", "leastLeft", "I", false)
  | _ => ("RodYard$Packing", "fewestPieces", "I", false)
def am_F3 : u_T := fun k => match k with
  | 0 => ("RodYard$Parser", "bytes", "[B", true)
  | 1 => ("RodYard$Parser", "plan", "LRodYard$Plan;", true)
  | 2 => ("RodYard$Parser", "state", "LRodYard$State;", true)
  | 3 => ("RodYard$Parser", "end", "I", false)
  | 4 => ("RodYard$Parser", "at", "I", false)
  | 5 => ("RodYard$Parser", "start", "I", false)
  | 6 => ("RodYard$Parser", "type", "I", false)
  | 7 => ("RodYard$Parser", "value", "I", false)
  | _ => ("RodYard$Parser", "error", "I", false)
def am_F4 : u_T := fun k => match k with
  | 0 => ("RodYard$Plan", "kinds", "I", false)
  | 1 => ("RodYard$Plan", "kindLength", "[I", true)
  | 2 => ("RodYard$Plan", "kindPrice", "[I", true)
  | 3 => ("RodYard$Plan", "patterns", "I", false)
  | 4 => ("RodYard$Plan", "patternSize", "[I", true)
  | _ => ("RodYard$Plan", "pattern", "[[I", true)
def am_F5 : u_T := fun k => match k with
  | 0 => ("RodYard$State", "round", "I", false)
  | 1 => ("RodYard$State", "setting", "[I", true)
  | 2 => ("RodYard$State", "rods", "I", false)
  | 3 => ("RodYard$State", "rod", "[[I", true)
  | 4 => ("RodYard$State", "orders", "I", false)
  | 5 => ("RodYard$State", "order", "[[I", true)
  | 6 => ("RodYard$State", "store", "[I", true)
  | 7 => ("RodYard$State", "cuts", "I", false)
  | 8 => ("RodYard$State", "log", "[[I", true)
  | _ => ("RodYard$State", "account", "[I", true)
def am_F6 : u_T := fun k => match k with
  | 0 => ("RodYard$Text", "bytes", "[B", true)
  | _ => ("RodYard$Text", "size", "I", false)
def am_F7 : u_T := fun k => match k with
  | 0 => ("RodYard$Trial", "plan", "LRodYard$Plan;", true)
  | 1 => ("RodYard$Trial", "real", "LRodYard$State;", true)
  | 2 => ("RodYard$Trial", "state", "LRodYard$State;", true)
  | _ => ("RodYard$Trial", "works", "LRodYard$Works;", true)
def am_F8 : u_T := fun k => match k with
  | 0 => ("RodYard$Works", "plan", "LRodYard$Plan;", true)
  | _ => ("RodYard$Works", "state", "LRodYard$State;", true)
def am_F9 : u_T := fun k => match k with
  | 0 => ("RodYardLaw$Draws", "cells", "[I", true)
  | _ => ("RodYardLaw$Draws", "at", "I", false)
def am_F15 : u_T := fun k => match k with
  | 0 => ("RodYardLaw$Order", "number", "I", true)
  | 1 => ("RodYardLaw$Order", "length", "I", true)
  | 2 => ("RodYardLaw$Order", "many", "I", true)
  | 3 => ("RodYardLaw$Order", "value", "I", true)
  | 4 => ("RodYardLaw$Order", "due", "I", true)
  | 5 => ("RodYardLaw$Order", "lacks", "I", false)
  | 6 => ("RodYardLaw$Order", "inTime", "I", false)
  | 7 => ("RodYardLaw$Order", "late", "I", false)
  | _ => ("RodYardLaw$Order", "gone", "Z", false)
def am_F16 : u_T := fun k => match k with
  | 0 => ("RodYardLaw$Rod", "number", "I", true)
  | 1 => ("RodYardLaw$Rod", "kind", "I", true)
  | 2 => ("RodYardLaw$Rod", "length", "I", false)
  | 3 => ("RodYardLaw$Rod", "state", "I", false)
  | 4 => ("RodYardLaw$Rod", "pieces", "I", false)
  | _ => ("RodYardLaw$Rod", "isCut", "Z", false)
def am_F17 : u_T := fun k => match k with
  | 0 => ("RodYardLaw$Yard", "text", "Ljava/lang/StringBuilder;", true)
  | 1 => ("RodYardLaw$Yard", "kinds", "[[I", true)
  | 2 => ("RodYardLaw$Yard", "patterns", "[[I", true)
  | 3 => ("RodYardLaw$Yard", "cuts", "[[I", true)
  | 4 => ("RodYardLaw$Yard", "rods", "[LRodYardLaw$Rod;", true)
  | 5 => ("RodYardLaw$Yard", "orders", "[LRodYardLaw$Order;", true)
  | 6 => ("RodYardLaw$Yard", "store", "[I", true)
  | 7 => ("RodYardLaw$Yard", "accounts", "[I", true)
  | 8 => ("RodYardLaw$Yard", "kindMany", "I", false)
  | 9 => ("RodYardLaw$Yard", "patternMany", "I", false)
  | 10 => ("RodYardLaw$Yard", "rodMany", "I", false)
  | 11 => ("RodYardLaw$Yard", "orderMany", "I", false)
  | 12 => ("RodYardLaw$Yard", "cutMany", "I", false)
  | 13 => ("RodYardLaw$Yard", "round", "I", false)
  | 14 => ("RodYardLaw$Yard", "kerf", "I", false)
  | _ => ("RodYardLaw$Yard", "keep", "I", false)
def am_F18 : u_T := fun k => match k with
  | 0 => ("java/lang/AbstractStringBuilder", "value", "[B", false)
  | 1 => ("java/lang/AbstractStringBuilder", "coder", "B", false)
  | 2 => ("java/lang/AbstractStringBuilder", "maybeLatin1", "Z", false)
  | _ => ("java/lang/AbstractStringBuilder", "count", "I", false)
def am_F19 : u_T := fun k => match k with
  | 0 => ("java/lang/String", "value", "[B", true)
  | 1 => ("java/lang/String", "coder", "B", true)
  | 2 => ("java/lang/String", "hash", "I", false)
  | _ => ("java/lang/String", "hashIsZero", "Z", false)
abbrev am_cl : List vw_C := [("RodYard", am_F0, 16), ("RodYard$History", am_F1, 3), ("RodYard$Packing", am_F2, 4), ("RodYard$Parser", am_F3, 9), ("RodYard$Plan", am_F4, 6), ("RodYard$State", am_F5, 10), ("RodYard$Text", am_F6, 2), ("RodYard$Trial", am_F7, 4), ("RodYard$Works", am_F8, 2), ("RodYardLaw$Draws", am_F9, 2), ("RodYard", am_F0, 16), ("RodYard", am_F0, 16), ("RodYard", am_F0, 16), ("RodYard", am_F0, 16), ("RodYard", am_F0, 16), ("RodYardLaw$Order", am_F15, 9), ("RodYardLaw$Rod", am_F16, 6), ("RodYardLaw$Yard", am_F17, 16), ("java/lang/StringBuilder", am_F18, 4), ("java/lang/String", am_F19, 4)]
/-- the fields of a class: 0 an int, 1 a reference, 2 a boolean, 3 a byte; and 4 more where it is final -/
def am_fk : List (List Nat) := [[5, 0, 5, 0, 0, 0, 2, 5, 5, 5, 5, 5, 5, 5, 5, 5], [5, 0, 0], [5, 5, 0, 0], [5, 5, 5, 0, 0, 0, 0, 0, 0], [0, 5, 5, 0, 5, 5], [0, 5, 0, 5, 0, 5, 5, 0, 5, 5], [5, 0], [5, 5, 5, 5], [5, 5], [5, 0], [5, 0, 5, 0, 0, 0, 2, 5, 5, 5, 5, 5, 5, 5, 5, 5], [5, 0, 5, 0, 0, 0, 2, 5, 5, 5, 5, 5, 5, 5, 5, 5], [5, 0, 5, 0, 0, 0, 2, 5, 5, 5, 5, 5, 5, 5, 5, 5], [5, 0, 5, 0, 0, 0, 2, 5, 5, 5, 5, 5, 5, 5, 5, 5], [5, 0, 5, 0, 0, 0, 2, 5, 5, 5, 5, 5, 5, 5, 5, 5], [4, 4, 4, 4, 4, 0, 0, 0, 2], [4, 4, 0, 0, 0, 2], [5, 5, 5, 5, 5, 5, 5, 5, 0, 0, 0, 0, 0, 0, 0, 0], [1, 3, 2, 0], [5, 7, 0, 2]]
def am_nf (ci : Nat) : Nat := (am_fk.getD ci []).length
def am_fkd (ci k : Nat) : Nat := (am_fk.getD ci []).getD k 9
/-- the kinds of the objects that are made -/
abbrev am_ob (k : Nat) : Prop := k < 10 ∨ 15 ≤ k ∧ k < 20
abbrev am_MT : Type := MethodName × ByteArray × Nat × Option FieldType × Nat × Nat × Bool × List (Nat × Nat × Nat × Nat)
def am_mt0 : List am_MT := [(⟨"RodYardLaw", "law", "([I)Z"⟩, code, 5, (some (.boolean)), 13, 1, true, []),
  (⟨"java/lang/String", "length", "()I"⟩, prog_26_method_54_code, 1, (some (.int)), 14, 0, false, []),
  (⟨"java/lang/String", "charAt", "(I)C"⟩, prog_26_method_56_code, 2, (some (.char)), 14, 1, false, []),
  (⟨"java/lang/String", "isLatin1", "()Z"⟩, prog_26_method_154_code, 1, (some (.boolean)), 14, 0, false, []),
  (⟨"java/lang/String", "coder", "()B"⟩, prog_26_method_152_code, 1, (some (.byte)), 14, 0, false, []),
  (⟨"java/lang/String", "checkIndex", "(II)V"⟩, prog_26_method_155_code, 2, none, 14, 2, true, []),
  (⟨"java/lang/StringLatin1", "charAt", "([BI)C"⟩, prog_29_method_2_code, 2, (some (.char)), 20, 2, true, []),
  (⟨"jdk/internal/util/Preconditions", "checkIndex", "(IILjava/util/function/BiFunction;)I"⟩, prog_35_method_11_code, 3, (some (.int)), 21, 3, true, []),
  (⟨"RodYard$Plan", "<init>", "()V"⟩, prog_5_method_1_code, 1, none, 4, 0, false, []),
  (⟨"RodYard$Plan", "hasKind", "(II)Z"⟩, prog_5_method_4_code, 4, (some (.boolean)), 4, 2, false, []),
  (⟨"RodYard$Plan", "enterKind", "(II)V"⟩, prog_5_method_3_code, 3, none, 4, 2, false, []),
  (⟨"RodYard$Plan", "enterPattern", "()V"⟩, prog_5_method_5_code, 1, none, 4, 0, false, []),
  (⟨"RodYard$Plan", "extendLastPattern", "(I)V"⟩, prog_5_method_6_code, 3, none, 4, 1, false, []),
  (⟨"RodYard$Plan", "copyFrom", "(LRodYard$Plan;)V"⟩, prog_5_method_2_code, 3, none, 4, 1, false, []),
  (⟨"RodYard$State", "<init>", "()V"⟩, prog_6_method_1_code, 1, none, 5, 0, false, []),
  (⟨"RodYard$State", "enterRod", "(II)I"⟩, prog_6_method_3_code, 4, (some (.int)), 5, 2, false, []),
  (⟨"RodYard$State", "enterOrder", "(IIII)I"⟩, prog_6_method_4_code, 6, (some (.int)), 5, 4, false, []),
  (⟨"RodYard$State", "copyFrom", "(LRodYard$State;)V"⟩, prog_6_method_2_code, 3, none, 5, 1, false, []),
  (⟨"RodYard$State", "rodsInStock", "()I"⟩, prog_6_method_6_code, 3, (some (.int)), 5, 0, false, []),
  (⟨"RodYard$State", "openOrders", "()I"⟩, prog_6_method_8_code, 3, (some (.int)), 5, 0, false, []),
  (⟨"RodYard$State", "lackingPieces", "()I"⟩, prog_6_method_9_code, 3, (some (.int)), 5, 0, false, []),
  (⟨"RodYard$State", "storedPieces", "()I"⟩, prog_6_method_11_code, 3, (some (.int)), 5, 0, false, []),
  (⟨"RodYard$State", "lackingOf", "(I)I"⟩, prog_6_method_10_code, 4, (some (.int)), 5, 1, false, []),
  (⟨"RodYard$State", "longestRod", "()I"⟩, prog_6_method_7_code, 4, (some (.int)), 5, 0, false, []),
  (⟨"RodYard$State", "firstDueUpTo", "(I)I"⟩, prog_6_method_12_code, 4, (some (.int)), 5, 1, false, []),
  (⟨"RodYard$State", "takerOf", "(I)I"⟩, prog_6_method_14_code, 4, (some (.int)), 5, 1, false, []),
  (⟨"RodYard$State", "logCut", "(III)V"⟩, prog_6_method_5_code, 4, none, 5, 3, false, []),
  (⟨"RodYard$State", "greatestLackingUpTo", "(I)I"⟩, prog_6_method_13_code, 5, (some (.int)), 5, 1, false, []),
  (⟨"RodYard$Text", "<init>", "()V"⟩, prog_7_method_1_code, 1, none, 6, 0, false, []),
  (⟨"RodYard$Text", "putSign", "(C)V"⟩, prog_7_method_2_code, 2, none, 6, 1, false, []),
  (⟨"RodYard$Text", "putNumber", "(I)V"⟩, prog_7_method_4_code, 3, none, 6, 1, false, []),
  (⟨"RodYard$Text", "putWord", "(Ljava/lang/String;)V"⟩, prog_7_method_3_code, 3, none, 6, 1, false, []),
  (⟨"RodYard$Works", "<init>", "(LRodYard$Plan;LRodYard$State;)V"⟩, prog_9_method_1_code, 3, none, 8, 2, false, []),
  (⟨"RodYard$Works", "leftBehind", "(II)I"⟩, prog_9_method_3_code, 3, (some (.int)), 8, 2, false, []),
  (⟨"RodYard$Works", "chooseRod", "(II)I"⟩, prog_9_method_5_code, 5, (some (.int)), 8, 2, false, []),
  (⟨"RodYard$Works", "prefers", "(III)Z"⟩, prog_9_method_6_code, 6, (some (.boolean)), 8, 3, false, []),
  (⟨"RodYard$Works", "priceOf", "(I)I"⟩, prog_9_method_2_code, 2, (some (.int)), 8, 1, false, []),
  (⟨"RodYard$Works", "leftByPattern", "(II)I"⟩, prog_9_method_4_code, 6, (some (.int)), 8, 2, false, []),
  (⟨"RodYard$Works", "choosePatternRod", "(I)I"⟩, prog_9_method_7_code, 4, (some (.int)), 8, 1, false, []),
  (⟨"RodYard$Works", "isWanted", "(I)Z"⟩, prog_9_method_8_code, 5, (some (.boolean)), 8, 1, false, [])]
def am_mt1 : List am_MT := [(⟨"RodYard$Works", "timesIn", "(II)I"⟩, prog_9_method_9_code, 6, (some (.int)), 8, 2, false, []),
  (⟨"RodYard$Works", "fillBy", "(I)I"⟩, prog_9_method_14_code, 2, (some (.int)), 8, 1, false, []),
  (⟨"RodYard$Works", "fillByPatterns", "()I"⟩, prog_9_method_17_code, 5, (some (.int)), 8, 0, false, []),
  (⟨"RodYard$Works", "cutWhole", "(II)I"⟩, prog_9_method_13_code, 6, (some (.int)), 8, 2, false, []),
  (⟨"RodYard$Works", "cutOne", "(II)I"⟩, prog_9_method_10_code, 6, (some (.int)), 8, 2, false, []),
  (⟨"RodYard$Works", "deliver", "(I)V"⟩, prog_9_method_11_code, 3, none, 8, 1, false, []),
  (⟨"RodYard$Works", "fillByPieces", "(I)I"⟩, prog_9_method_15_code, 5, (some (.int)), 8, 1, false, []),
  (⟨"RodYard$Works", "nextLength", "(I)I"⟩, prog_9_method_16_code, 5, (some (.int)), 8, 1, false, []),
  (⟨"RodYard$Works", "closeRound", "()I"⟩, prog_9_method_18_code, 3, (some (.int)), 8, 0, false, []),
  (⟨"RodYard$Works", "scrapRod", "(I)I"⟩, prog_9_method_19_code, 3, (some (.int)), 8, 1, false, []),
  (⟨"RodYard$Works", "buyRod", "(I)I"⟩, prog_9_method_20_code, 3, (some (.int)), 8, 1, false, []),
  (⟨"RodYard$Works", "supplyFromStore", "(I)V"⟩, prog_9_method_12_code, 5, none, 8, 1, false, []),
  (⟨"RodYard$Trial", "<init>", "(LRodYard$Plan;LRodYard$State;)V"⟩, prog_8_method_1_code, 3, none, 7, 2, false, []),
  (⟨"RodYard$Trial", "piecesBy", "(I)I"⟩, prog_8_method_2_code, 2, (some (.int)), 7, 1, false, []),
  (⟨"?", "?", "?"⟩, ⟨#[]⟩, 0, none, 99, 0, false, []),
  (⟨"RodYard$Trial", "lackingBy", "(II)I"⟩, prog_8_method_4_code, 3, (some (.int)), 7, 2, false, []),
  (⟨"RodYard$Trial", "rodsToBuy", "(I)I"⟩, prog_8_method_5_code, 4, (some (.int)), 7, 1, false, []),
  (⟨"?", "?", "?"⟩, ⟨#[]⟩, 0, none, 99, 0, false, []),
  (⟨"?", "?", "?"⟩, ⟨#[]⟩, 0, none, 99, 0, false, []),
  (⟨"RodYard$Packing", "<init>", "(LRodYard$State;)V"⟩, prog_3_method_1_code, 2, none, 2, 1, false, []),
  (⟨"RodYard$Packing", "pack", "(I)V"⟩, prog_3_method_2_code, 6, none, 2, 1, false, []),
  (⟨"RodYard$Packing", "offerPiece", "(II)V"⟩, prog_3_method_3_code, 4, none, 2, 2, false, []),
  (⟨"RodYard$Packing", "pickBest", "(II)V"⟩, prog_3_method_4_code, 5, none, 2, 2, false, []),
  (⟨"RodYard$History", "<init>", "()V"⟩, prog_2_method_1_code, 2, none, 1, 0, false, []),
  (⟨"RodYard$History", "keepCopy", "(LRodYard$State;)V"⟩, prog_2_method_2_code, 2, none, 1, 1, false, []),
  (⟨"RodYard$History", "giveBack", "(LRodYard$State;)V"⟩, prog_2_method_3_code, 2, none, 1, 1, false, []),
  (⟨"RodYard$Parser", "<init>", "([B)V"⟩, prog_4_method_1_code, 2, none, 3, 1, false, []),
  (⟨"RodYard$Parser", "readText", "(I)Z"⟩, prog_4_method_2_code, 3, (some (.boolean)), 3, 1, false, []),
  (⟨"RodYard$Parser", "beginText", "(I)V"⟩, prog_4_method_3_code, 2, none, 3, 1, false, []),
  (⟨"RodYard$Parser", "readHead", "()Z"⟩, prog_4_method_5_code, 1, (some (.boolean)), 3, 0, false, []),
  (⟨"RodYard$Parser", "readWord", "(Ljava/lang/String;)Z"⟩, prog_4_method_11_code, 2, (some (.boolean)), 3, 1, false, []),
  (⟨"RodYard$Parser", "nextToken", "()V"⟩, prog_4_method_15_code, 1, none, 3, 0, false, []),
  (⟨"RodYard$Parser", "skipBlanks", "()V"⟩, prog_4_method_17_code, 1, none, 3, 0, false, []),
  (⟨"RodYard$Parser", "isLetter", "(B)Z"⟩, prog_4_method_20_code, 1, (some (.boolean)), 3, 1, true, []),
  (⟨"RodYard$Parser", "takeWord", "()V"⟩, prog_4_method_18_code, 1, none, 3, 0, false, []),
  (⟨"RodYard$Parser", "isDigit", "(B)Z"⟩, prog_4_method_21_code, 1, (some (.boolean)), 3, 1, true, []),
  (⟨"RodYard$Parser", "takeNumber", "()V"⟩, prog_4_method_19_code, 1, none, 3, 0, false, []),
  (⟨"RodYard$Parser", "isWord", "(Ljava/lang/String;)Z"⟩, prog_4_method_14_code, 3, (some (.boolean)), 3, 1, false, []),
  (⟨"RodYard$Parser", "fail", "(I)Z"⟩, prog_4_method_13_code, 2, (some (.boolean)), 3, 1, false, []),
  (⟨"RodYard$Parser", "readNumber", "(II)Z"⟩, prog_4_method_12_code, 3, (some (.boolean)), 3, 2, false, [])]
def am_mt2 : List am_MT := [(⟨"RodYard$Parser", "readLine", "()Z"⟩, prog_4_method_6_code, 1, (some (.boolean)), 3, 0, false, []),
  (⟨"RodYard$Parser", "readKind", "()Z"⟩, prog_4_method_7_code, 2, (some (.boolean)), 3, 0, false, []),
  (⟨"RodYard$Parser", "readRods", "()Z"⟩, prog_4_method_8_code, 3, (some (.boolean)), 3, 0, false, []),
  (⟨"RodYard$Parser", "readOrder", "()Z"⟩, prog_4_method_9_code, 4, (some (.boolean)), 3, 0, false, []),
  (⟨"RodYard$Parser", "readPattern", "()Z"⟩, prog_4_method_10_code, 2, (some (.boolean)), 3, 0, false, []),
  (⟨"RodYard$Parser", "digitFollows", "()Z"⟩, prog_4_method_16_code, 1, (some (.boolean)), 3, 0, false, []),
  (⟨"RodYard$Parser", "semicolonsAhead", "()I"⟩, prog_4_method_4_code, 3, (some (.int)), 3, 0, false, []),
  (⟨"RodYard", "<init>", "()V"⟩, prog_1_method_1_code, 2, none, 0, 0, false, []),
  (⟨"RodYard", "append", "(IIIII)I"⟩, prog_1_method_2_code, 6, (some (.int)), 0, 5, false, []),
  (⟨"RodYard", "putBytes", "(II)V"⟩, prog_1_method_59_code, 3, none, 0, 2, false, []),
  (⟨"RodYard", "parseError", "()I"⟩, prog_1_method_4_code, 1, (some (.int)), 0, 0, false, []),
  (⟨"RodYard", "errorPosition", "()I"⟩, prog_1_method_5_code, 1, (some (.int)), 0, 0, false, []),
  (⟨"RodYard", "errorLine", "()I"⟩, prog_1_method_6_code, 1, (some (.int)), 0, 0, false, []),
  (⟨"?", "?", "?"⟩, ⟨#[]⟩, 0, none, 99, 0, false, []),
  (⟨"RodYard", "cuts", "()I"⟩, prog_1_method_41_code, 1, (some (.int)), 0, 0, false, []),
  (⟨"RodYard", "undoable", "()I"⟩, prog_1_method_56_code, 1, (some (.int)), 0, 0, false, []),
  (⟨"RodYard", "load", "(I)I"⟩, prog_1_method_3_code, 2, (some (.int)), 0, 1, false, []),
  (⟨"RodYard", "takeParsedYard", "()V"⟩, prog_1_method_60_code, 2, none, 0, 0, false, []),
  (⟨"RodYard", "count", "(I)I"⟩, prog_1_method_8_code, 2, (some (.int)), 0, 1, false, []),
  (⟨"RodYard", "needYard", "()V"⟩, prog_1_method_62_code, 1, none, 0, 0, false, []),
  (⟨"RodYard", "kind", "(IZ)I"⟩, prog_1_method_9_code, 3, (some (.int)), 0, 2, false, []),
  (⟨"RodYard", "needKind", "(I)V"⟩, prog_1_method_63_code, 2, none, 0, 1, false, []),
  (⟨"RodYard", "rod", "(II)I"⟩, prog_1_method_10_code, 3, (some (.int)), 0, 2, false, []),
  (⟨"RodYard", "needRod", "(I)V"⟩, prog_1_method_64_code, 2, none, 0, 1, false, []),
  (⟨"RodYard", "needRange", "(III)V"⟩, prog_1_method_69_code, 3, none, 0, 3, true, []),
  (⟨"RodYard", "order", "(II)I"⟩, prog_1_method_11_code, 3, (some (.int)), 0, 2, false, []),
  (⟨"RodYard", "needOrder", "(I)V"⟩, prog_1_method_65_code, 2, none, 0, 1, false, []),
  (⟨"RodYard", "patternSize", "(I)I"⟩, prog_1_method_12_code, 2, (some (.int)), 0, 1, false, []),
  (⟨"RodYard", "needPattern", "(I)V"⟩, prog_1_method_66_code, 2, none, 0, 1, false, []),
  (⟨"RodYard", "patternLength", "(II)I"⟩, prog_1_method_13_code, 3, (some (.int)), 0, 2, false, []),
  (⟨"RodYard", "setting", "(I)I"⟩, prog_1_method_14_code, 2, (some (.int)), 0, 1, false, []),
  (⟨"RodYard", "round", "()I"⟩, prog_1_method_15_code, 1, (some (.int)), 0, 0, false, []),
  (⟨"RodYard", "wanted", "(I)I"⟩, prog_1_method_16_code, 2, (some (.int)), 0, 1, false, []),
  (⟨"RodYard", "needLength", "(I)V"⟩, prog_1_method_68_code, 1, none, 0, 1, true, []),
  (⟨"RodYard", "stored", "(I)I"⟩, prog_1_method_17_code, 2, (some (.int)), 0, 1, false, []),
  (⟨"RodYard", "left", "(II)I"⟩, prog_1_method_18_code, 3, (some (.int)), 0, 2, false, []),
  (⟨"RodYard", "rodFor", "(II)I"⟩, prog_1_method_19_code, 3, (some (.int)), 0, 2, false, []),
  (⟨"RodYard", "longest", "()I"⟩, prog_1_method_20_code, 1, (some (.int)), 0, 0, false, []),
  (⟨"RodYard", "total", "()I"⟩, prog_1_method_21_code, 3, (some (.int)), 0, 0, false, []),
  (⟨"RodYard", "worth", "()I"⟩, prog_1_method_22_code, 3, (some (.int)), 0, 0, false, [])]
def am_mt3 : List am_MT := [(⟨"RodYard", "firstDue", "()I"⟩, prog_1_method_23_code, 1, (some (.int)), 0, 0, false, []),
  (⟨"RodYard", "overdue", "()I"⟩, prog_1_method_24_code, 3, (some (.int)), 0, 0, false, []),
  (⟨"RodYard", "fits", "(II)Z"⟩, prog_1_method_25_code, 3, (some (.boolean)), 0, 2, false, []),
  (⟨"RodYard", "patternLeft", "(II)I"⟩, prog_1_method_26_code, 3, (some (.int)), 0, 2, false, []),
  (⟨"RodYard", "patternRod", "(I)I"⟩, prog_1_method_27_code, 2, (some (.int)), 0, 1, false, []),
  (⟨"RodYard", "wantedPatterns", "()I"⟩, prog_1_method_28_code, 3, (some (.int)), 0, 0, false, []),
  (⟨"RodYard", "bestLeft", "(I)I"⟩, prog_1_method_29_code, 2, (some (.int)), 0, 1, false, []),
  (⟨"?", "?", "?"⟩, ⟨#[]⟩, 0, none, 99, 0, false, []),
  (⟨"RodYard", "piecesIf", "(I)I"⟩, prog_1_method_31_code, 2, (some (.int)), 0, 1, false, []),
  (⟨"?", "?", "?"⟩, ⟨#[]⟩, 0, none, 99, 0, false, []),
  (⟨"RodYard", "lackingIf", "(II)I"⟩, prog_1_method_33_code, 3, (some (.int)), 0, 2, false, []),
  (⟨"?", "?", "?"⟩, ⟨#[]⟩, 0, none, 99, 0, false, []),
  (⟨"RodYard", "rodsNeeded", "(I)I"⟩, prog_1_method_35_code, 2, (some (.int)), 0, 1, false, []),
  (⟨"?", "?", "?"⟩, ⟨#[]⟩, 0, none, 99, 0, false, []),
  (⟨"?", "?", "?"⟩, ⟨#[]⟩, 0, none, 99, 0, false, []),
  (⟨"RodYard", "account", "(I)I"⟩, prog_1_method_38_code, 2, (some (.int)), 0, 1, false, []),
  (⟨"RodYard", "meanLoss", "()D"⟩, prog_1_method_39_code, 2, (some (.double)), 0, 0, false, []),
  (⟨"RodYard", "shareUsed", "()F"⟩, prog_1_method_40_code, 3, (some (.float)), 0, 0, false, []),
  (⟨"RodYard", "cut", "(II)I"⟩, prog_1_method_42_code, 3, (some (.int)), 0, 2, false, []),
  (⟨"RodYard", "writeRods", "()I"⟩, prog_1_method_43_code, 2, (some (.int)), 0, 0, false, []),
  (⟨"RodYard", "writeRod", "(I)V"⟩, prog_1_method_61_code, 2, none, 0, 1, false, []),
  (⟨"RodYard", "writeOrder", "(I)I"⟩, prog_1_method_44_code, 2, (some (.int)), 0, 1, false, []),
  (⟨"RodYard", "textByte", "(I)I"⟩, prog_1_method_45_code, 2, (some (.int)), 0, 1, false, []),
  (⟨"RodYard", "cutPiece", "(II)I"⟩, prog_1_method_46_code, 3, (some (.int)), 0, 2, false, []),
  (⟨"RodYard", "cutPattern", "(II)I"⟩, prog_1_method_47_code, 3, (some (.int)), 0, 2, false, []),
  (⟨"RodYard", "fill", "(I)I"⟩, prog_1_method_48_code, 2, (some (.int)), 0, 1, false, []),
  (⟨"RodYard", "endRound", "()I"⟩, prog_1_method_49_code, 1, (some (.int)), 0, 0, false, []),
  (⟨"RodYard", "buy", "(I)I"⟩, prog_1_method_50_code, 2, (some (.int)), 0, 1, false, []),
  (⟨"RodYard", "addOrder", "(IIII)I"⟩, prog_1_method_51_code, 6, (some (.int)), 0, 4, false, []),
  (⟨"RodYard", "cancel", "(I)I"⟩, prog_1_method_52_code, 3, (some (.int)), 0, 1, false, []),
  (⟨"RodYard", "scrap", "(I)I"⟩, prog_1_method_53_code, 2, (some (.int)), 0, 1, false, []),
  (⟨"RodYard", "setSetting", "(II)I"⟩, prog_1_method_54_code, 4, (some (.int)), 0, 2, false, []),
  (⟨"RodYard", "undo", "()I"⟩, prog_1_method_55_code, 1, (some (.int)), 0, 0, false, []),
  (⟨"RodYard", "save", "(I)I"⟩, prog_1_method_57_code, 2, (some (.int)), 0, 1, false, []),
  (⟨"RodYard", "needSlot", "(I)V"⟩, prog_1_method_67_code, 1, none, 0, 1, true, []),
  (⟨"RodYard", "restore", "(I)I"⟩, prog_1_method_58_code, 2, (some (.int)), 0, 1, false, []),
  (⟨"java/lang/String", "getBytes", "([BIB)V"⟩, prog_26_method_147_code, 4, none, 14, 3, false, []),
  (⟨"java/lang/String", "<init>", "(Ljava/lang/StringBuilder;)V"⟩, prog_26_method_53_code, 2, none, 14, 1, false, []),
  (⟨"java/lang/String", "<init>", "(Ljava/lang/AbstractStringBuilder;Ljava/lang/Void;)V"⟩, prog_26_method_150_code, 5, none, 14, 2, false, []),
  (⟨"java/lang/StringLatin1", "canEncode", "(C)Z"⟩, prog_29_method_3_code, 1, (some (.boolean)), 20, 1, true, [])]
def am_mt4 : List am_MT := [(⟨"java/util/Arrays", "copyOf", "([BI)[B"⟩, prog_33_method_121_code, 3, (some (.array (.byte))), 25, 2, true, []),
  (⟨"java/util/Arrays", "copyOfRange", "([BII)[B"⟩, prog_33_method_132_code, 3, (some (.array (.byte))), 25, 3, true, []),
  (⟨"java/util/Arrays", "copyOfRangeByte", "([BII)[B"⟩, prog_33_method_133_code, 5, (some (.array (.byte))), 25, 3, true, []),
  (⟨"java/util/Arrays", "checkLength", "(II)V"⟩, prog_33_method_131_code, 2, none, 25, 2, true, []),
  (⟨"jdk/internal/util/ArraysSupport", "newLength", "(III)I"⟩, prog_34_method_27_code, 4, (some (.int)), 26, 3, true, []),
  (⟨"java/lang/Integer", "stringSize", "(I)I"⟩, prog_23_method_13_code, 4, (some (.int)), 27, 1, true, []),
  (⟨"java/lang/Integer", "getChars", "(II[B)I"⟩, prog_23_method_12_code, 7, (some (.int)), 27, 3, true, []),
  (⟨"java/lang/AbstractStringBuilder", "<init>", "(Ljava/lang/String;)V"⟩, prog_16_method_3_code, 5, none, 24, 1, false, []),
  (⟨"java/lang/AbstractStringBuilder", "append", "(Ljava/lang/String;)Ljava/lang/AbstractStringBuilder;"⟩, prog_16_method_22_code, 3, (some (.object "java/lang/AbstractStringBuilder")), 24, 1, false, []),
  (⟨"java/lang/AbstractStringBuilder", "ensureCapacityInternal", "(I)V"⟩, prog_16_method_9_code, 3, none, 24, 1, false, []),
  (⟨"java/lang/AbstractStringBuilder", "newCapacity", "(I)I"⟩, prog_16_method_10_code, 6, (some (.int)), 24, 1, false, []),
  (⟨"java/lang/AbstractStringBuilder", "isLatin1", "()Z"⟩, prog_16_method_68_code, 1, (some (.boolean)), 24, 0, false, []),
  (⟨"java/lang/AbstractStringBuilder", "putStringAt", "(ILjava/lang/String;)V"⟩, prog_16_method_73_code, 3, none, 24, 2, false, []),
  (⟨"java/lang/AbstractStringBuilder", "inflateIfNeededFor", "(Ljava/lang/String;)V"⟩, prog_16_method_71_code, 2, none, 24, 1, false, []),
  (⟨"java/lang/AbstractStringBuilder", "append", "(I)Ljava/lang/AbstractStringBuilder;"⟩, prog_16_method_32_code, 4, (some (.object "java/lang/AbstractStringBuilder")), 24, 1, false, []),
  (⟨"java/lang/AbstractStringBuilder", "append", "(C)Ljava/lang/AbstractStringBuilder;"⟩, prog_16_method_31_code, 2, (some (.object "java/lang/AbstractStringBuilder")), 24, 1, false, []),
  (⟨"java/lang/AbstractStringBuilder", "<init>", "(I)V"⟩, prog_16_method_2_code, 2, none, 24, 1, false, []),
  (⟨"java/lang/AbstractStringBuilder", "length", "()I"⟩, prog_16_method_6_code, 1, (some (.int)), 24, 0, false, []),
  (⟨"java/lang/AbstractStringBuilder", "charAt", "(I)C"⟩, prog_16_method_14_code, 5, (some (.char)), 24, 1, false, []),
  (⟨"java/lang/AbstractStringBuilder", "setLength", "(I)V"⟩, prog_16_method_13_code, 2, none, 24, 1, false, []),
  (⟨"java/lang/AbstractStringBuilder", "getValue", "()[B"⟩, prog_16_method_64_code, 1, (some (.array (.byte))), 24, 0, false, []),
  (⟨"java/lang/StringBuilder", "<init>", "(Ljava/lang/String;)V"⟩, prog_27_method_3_code, 2, none, 18, 1, false, []),
  (⟨"java/lang/StringBuilder", "append", "(Ljava/lang/String;)Ljava/lang/AbstractStringBuilder;"⟩, prog_27_method_80_code, 2, (some (.object "java/lang/AbstractStringBuilder")), 18, 1, false, []),
  (⟨"java/lang/StringBuilder", "append", "(Ljava/lang/String;)Ljava/lang/StringBuilder;"⟩, prog_27_method_7_code, 2, (some (.object "java/lang/StringBuilder")), 18, 1, false, []),
  (⟨"java/lang/StringBuilder", "append", "(I)Ljava/lang/StringBuilder;"⟩, prog_27_method_15_code, 2, (some (.object "java/lang/StringBuilder")), 18, 1, false, []),
  (⟨"java/lang/StringBuilder", "append", "(C)Ljava/lang/StringBuilder;"⟩, prog_27_method_14_code, 2, (some (.object "java/lang/StringBuilder")), 18, 1, false, []),
  (⟨"java/lang/StringBuilder", "<init>", "()V"⟩, prog_27_method_1_code, 1, none, 18, 0, false, []),
  (⟨"java/lang/StringBuilder", "length", "()I"⟩, prog_27_method_93_code, 1, (some (.int)), 18, 0, false, []),
  (⟨"java/lang/StringBuilder", "charAt", "(I)C"⟩, prog_27_method_88_code, 2, (some (.char)), 18, 1, false, []),
  (⟨"java/lang/StringBuilder", "setLength", "(I)V"⟩, prog_27_method_89_code, 2, none, 18, 1, false, []),
  (⟨"java/lang/StringBuilder", "toString", "()Ljava/lang/String;"⟩, prog_27_method_42_code, 1, (some (.object "java/lang/String")), 18, 0, false, []),
  (⟨"RodYardLaw$Draws", "<init>", "([I)V"⟩, prog_11_method_1_code, 2, none, 9, 1, false, []),
  (⟨"RodYardLaw$Draws", "next", "(II)I"⟩, prog_11_method_2_code, 4, (some (.int)), 9, 2, false, []),
  (⟨"RodYardLaw$Rod", "<init>", "(III)V"⟩, prog_13_method_1_code, 4, none, 16, 3, false, []),
  (⟨"RodYardLaw$Order", "<init>", "(IIIII)V"⟩, prog_12_method_1_code, 6, none, 15, 5, false, []),
  (⟨"RodYardLaw$Yard", "<init>", "(LRodYardLaw$Draws;)V"⟩, prog_14_method_1_code, 7, none, 17, 1, false, []),
  (⟨"RodYardLaw$Yard", "buy", "(I)V"⟩, prog_14_method_3_code, 2, none, 17, 1, false, []),
  (⟨"RodYardLaw$Yard", "order", "(IIII)I"⟩, prog_14_method_4_code, 6, (some (.int)), 17, 4, false, []),
  (⟨"RodYardLaw$Yard", "give", "(LRodYardLaw$Order;)V"⟩, prog_14_method_5_code, 3, none, 17, 1, false, []),
  (⟨"RodYardLaw$Yard", "rodFor", "([II)LRodYardLaw$Rod;"⟩, prog_14_method_13_code, 5, (some (.object "RodYardLaw$Rod")), 17, 2, false, [])]
def am_mt5 : List am_MT := [(⟨"RodYardLaw$Yard", "left", "(LRodYardLaw$Rod;[I)I"⟩, prog_14_method_9_code, 8, (some (.int)), 17, 2, false, []),
  (⟨"RodYardLaw$Yard", "isWanted", "([I)Z"⟩, prog_14_method_12_code, 8, (some (.boolean)), 17, 1, false, []),
  (⟨"RodYardLaw$Yard", "wanted", "(I)I"⟩, prog_14_method_10_code, 4, (some (.int)), 17, 1, false, []),
  (⟨"RodYardLaw$Yard", "cut", "(LRodYardLaw$Rod;I)I"⟩, prog_14_method_8_code, 6, (some (.int)), 17, 2, false, []),
  (⟨"RodYardLaw$Yard", "lose", "(LRodYardLaw$Rod;II)V"⟩, prog_14_method_7_code, 4, none, 17, 3, false, []),
  (⟨"RodYardLaw$Yard", "firstOf", "(I)LRodYardLaw$Order;"⟩, prog_14_method_6_code, 5, (some (.object "RodYardLaw$Order")), 17, 1, false, []),
  (⟨"RodYardLaw$Yard", "end", "()I"⟩, prog_14_method_16_code, 4, (some (.int)), 17, 0, false, []),
  (⟨"RodYardLaw$Yard", "scrap", "(LRodYardLaw$Rod;)I"⟩, prog_14_method_15_code, 3, (some (.int)), 17, 1, false, []),
  (⟨"RodYardLaw$Yard", "lacking", "()I"⟩, prog_14_method_11_code, 3, (some (.int)), 17, 0, false, []),
  (⟨"RodYardLaw", "tell", "(LRodYard;Ljava/lang/String;)I"⟩, method_3_code, 2, (some (.int)), 13, 2, true, []),
  (⟨"RodYardLaw", "feeds", "(LRodYard;Ljava/lang/String;)Z"⟩, method_2_code, 5, (some (.boolean)), 13, 2, true, []),
  (⟨"RodYardLaw", "thrown", "(LRodYard;IIIII)I"⟩, method_5_code, 7, (some (.int)), 13, 6, true, [(0, 23, 24, 135), (0, 23, 28, 137), (0, 23, 32, 139)]),
  (⟨"RodYardLaw", "calls", "(LRodYard;IIIII)J"⟩, method_4_code, 6, (some (.long)), 13, 6, true, []),
  (⟨"RodYardLaw", "isLike", "(LRodYard;LRodYardLaw$Yard;)Z"⟩, method_6_code, 6, (some (.boolean)), 13, 2, true, []),
  (⟨"RodYardLaw", "act", "(LRodYard;LRodYardLaw$Yard;LRodYardLaw$Draws;)Z"⟩, method_7_code, 8, (some (.boolean)), 13, 3, true, []),
  (⟨"RodYardLaw", "cuts", "(LRodYard;LRodYardLaw$Yard;LRodYardLaw$Rod;II)Z"⟩, method_8_code, 11, (some (.boolean)), 13, 5, true, []),
  (⟨"RodYardLaw", "counts", "(LRodYard;LRodYardLaw$Yard;)Z"⟩, method_9_code, 14, (some (.boolean)), 13, 2, true, []),
  (⟨"RodYardLaw", "lengths", "(LRodYard;LRodYardLaw$Yard;)Z"⟩, method_10_code, 7, (some (.boolean)), 13, 2, true, []),
  (⟨"RodYardLaw", "texts", "(LRodYard;LRodYardLaw$Yard;)Z"⟩, method_12_code, 5, (some (.boolean)), 13, 2, true, []),
  (⟨"RodYardLaw", "isText", "(LRodYard;Ljava/lang/StringBuilder;)Z"⟩, method_11_code, 3, (some (.boolean)), 13, 2, true, [])]
def am_mt : List am_MT := am_mt0 ++ (am_mt1 ++ (am_mt2 ++ (am_mt3 ++ (am_mt4 ++ (am_mt5)))))
def am_md : am_MT := (⟨"?", "?", "?"⟩, ⟨#[]⟩, 0, none, 99, 0, false, [])
def am_mr (mi : Nat) : am_MT := am_mt.getD mi am_md
def am_name (mi : Nat) : MethodName := (am_mr mi).1
def am_code (mi : Nat) : ByteArray := (am_mr mi).2.1
def am_nL (mi : Nat) : Nat := (am_mr mi).2.2.1
def am_rt (mi : Nat) : Option FieldType := (am_mr mi).2.2.2.1
def am_oc (mi : Nat) : Nat := (am_mr mi).2.2.2.2.1
def am_na (mi : Nat) : Nat := (am_mr mi).2.2.2.2.2.1
def am_hh (mi : Nat) : List (Nat × Nat × Nat × Nat) := (am_mr mi).2.2.2.2.2.2.2
def am_own (mi : Nat) : String := am_cn (am_oc mi)
def am_flT : List (List (Nat × Nat × Nat × Nat × Nat)) := [[(135, 4, 0, 90, 0), (166, 4, 1, 93, 0), (162, 4, 2, 97, 0), (141, 4, 3, 100, 0), (189, 4, 4, 104, 0), (194, 4, 5, 107, 0), (200, 5, 0, 132, 0), (197, 5, 1, 137, 0), (129, 5, 2, 140, 0), (176, 5, 3, 144, 0), (138, 5, 4, 148, 0), (183, 5, 5, 153, 0), (210, 5, 6, 156, 0), (272, 5, 7, 158, 0), (277, 5, 8, 160, 0), (265, 5, 9, 163, 0), (360, 3, 1, 187, 0), (364, 3, 2, 189, 0), (114, 3, 5, 192, 0), (108, 3, 8, 196, 0), (241, 2, 2, 266, 0), (343, 1, 2, 289, 0), (300, 6, 0, 304, 0), (280, 6, 1, 306, 0), (9, 0, 0, 313, 0), (90, 0, 1, 314, 0), (18, 0, 2, 315, 0), (111, 0, 3, 316, 0), (22, 0, 4, 317, 0), (26, 0, 5, 318, 0), (268, 0, 6, 319, 0), (32, 0, 7, 320, 0), (39, 0, 8, 321, 0), (48, 0, 9, 322, 0), (55, 0, 10, 323, 0), (64, 0, 11, 324, 0), (71, 0, 12, 325, 0), (75, 0, 13, 326, 0), (79, 0, 14, 327, 0), (86, 0, 15, 328, 0)],
  [(11, 1, 0, 286, 0), (18, 1, 1, 287, 0), (26, 1, 2, 288, 0)],
  [(19, 5, 1, 134, 0), (30, 5, 4, 146, 0), (34, 5, 5, 150, 0), (15, 2, 0, 263, 0), (9, 2, 1, 264, 0), (45, 2, 2, 265, 0), (48, 2, 3, 267, 0)],
  [(63, 4, 0, 89, 0), (128, 4, 1, 92, 0), (66, 4, 3, 99, 0), (90, 5, 1, 136, 0), (69, 5, 2, 139, 0), (72, 5, 4, 147, 0), (25, 3, 0, 185, 0), (12, 3, 1, 186, 0), (21, 3, 2, 188, 0), (57, 3, 3, 190, 0), (60, 3, 4, 191, 0), (75, 3, 5, 193, 0), (40, 3, 6, 194, 0), (94, 3, 7, 195, 0), (147, 3, 8, 197, 0)],
  [(26, 4, 0, 88, 0), (9, 4, 1, 91, 0), (15, 4, 2, 95, 0), (30, 4, 3, 98, 0), (18, 4, 4, 102, 0), (23, 4, 5, 105, 0)],
  [(32, 5, 0, 130, 0), (9, 5, 1, 133, 0), (36, 5, 2, 138, 0), (17, 5, 3, 142, 0), (39, 5, 4, 145, 0), (20, 5, 5, 149, 0), (23, 5, 6, 154, 0), (42, 5, 7, 157, 0), (26, 5, 8, 159, 0), (29, 5, 9, 161, 0)],
  [(11, 6, 0, 303, 0), (15, 6, 1, 305, 0)],
  [(50, 5, 5, 151, 0), (9, 7, 0, 244, 0), (15, 7, 1, 245, 0), (22, 7, 2, 246, 0), (30, 7, 3, 247, 0)],
  [(137, 4, 1, 94, 0), (19, 4, 2, 96, 0), (121, 4, 3, 101, 0), (40, 4, 4, 103, 0), (43, 4, 5, 106, 0), (93, 5, 0, 131, 0), (31, 5, 1, 135, 0), (49, 5, 2, 141, 0), (25, 5, 3, 143, 0), (90, 5, 5, 152, 0), (79, 5, 6, 155, 0), (70, 5, 9, 162, 0), (9, 8, 0, 227, 0), (15, 8, 1, 228, 0)],
  [(7, 9, 0, 485, 0), (13, 9, 1, 486, 0)],
  [],
  [],
  [],
  [(253, 16, 0, 729, 1), (172, 16, 1, 732, 1), (176, 16, 2, 735, 1), (178, 16, 3, 737, 1), (181, 16, 4, 739, 1), (184, 16, 5, 741, 1), (247, 15, 0, 768, 1), (192, 15, 1, 771, 1), (195, 15, 2, 773, 1), (198, 15, 3, 776, 1), (201, 15, 4, 779, 1), (204, 15, 5, 782, 1), (207, 15, 6, 784, 1), (210, 15, 7, 786, 1), (213, 15, 8, 787, 1), (360, 17, 0, 813, 1), (241, 17, 1, 815, 1), (266, 17, 2, 817, 1), (348, 17, 3, 819, 1), (168, 17, 4, 821, 1), (188, 17, 5, 823, 1), (219, 17, 6, 825, 1), (164, 17, 7, 827, 1), (231, 17, 8, 829, 1), (257, 17, 9, 831, 1), (152, 17, 10, 833, 1), (155, 17, 11, 835, 1), (161, 17, 12, 836, 1), (141, 17, 13, 839, 1), (146, 17, 14, 841, 1), (149, 17, 15, 843, 1)],
  [(1048, 18, 2, 652, 0), (9, 19, 0, 1637, 0), (15, 19, 1, 1638, 0)],
  [(7, 15, 0, 766, 0), (13, 15, 1, 769, 0), (16, 15, 2, 772, 0), (19, 15, 3, 774, 0), (22, 15, 4, 777, 0), (25, 15, 5, 780, 0)],
  [(7, 16, 0, 728, 0), (13, 16, 1, 731, 0), (16, 16, 2, 734, 0)],
  [(14, 17, 0, 812, 0), (22, 17, 1, 814, 0), (26, 17, 2, 816, 0), (29, 17, 3, 818, 0), (34, 17, 4, 820, 0), (40, 17, 5, 822, 0), (44, 17, 6, 824, 0), (47, 17, 7, 826, 0), (72, 17, 8, 828, 0), (94, 17, 9, 830, 0), (97, 17, 10, 832, 0), (100, 17, 11, 834, 0), (106, 17, 12, 837, 0), (103, 17, 13, 838, 0), (56, 17, 14, 840, 0), (60, 17, 15, 842, 0), (178, 16, 0, 730, 1), (151, 16, 1, 733, 1), (154, 16, 2, 736, 1), (160, 16, 3, 738, 1), (163, 16, 4, 740, 1), (166, 16, 5, 742, 1), (133, 15, 0, 767, 1), (148, 15, 1, 770, 1), (145, 15, 3, 775, 1), (136, 15, 4, 778, 1), (127, 15, 5, 781, 1), (142, 15, 6, 783, 1), (139, 15, 7, 785, 1)],
  [],
  [],
  [],
  [],
  [],
  [],
  [(15, 18, 0, 649, 0), (22, 18, 1, 650, 0), (73, 18, 2, 651, 0), (79, 18, 3, 653, 0)],
  [],
  [],
  [],
  []]
def am_flN (oc idx : Nat) : Option (Nat × Nat × Nat × Nat × Nat) := (am_flT.getD oc []).find? (fun q => q.1 == idx)
def am_fl (oc idx : Nat) : Option (Nat × Nat × Nat × Nat) := (am_flN oc idx).map (fun q => (q.1, q.2.1, q.2.2.1, q.2.2.2.1))
def am_mlT : List (List (Nat × Nat × Nat × Nat × Nat × Nat × Nat)) := [[(3, 5, 0, 71, 0, 0, 0), (15, 2, 66, 76, 77, 50, 0), (31, 3, 8, 218, 83, 51, 0), (38, 3, 14, 220, 126, 52, 0), (45, 2, 32, 223, 224, 53, 0), (54, 2, 52, 236, 237, 54, 0), (61, 2, 59, 259, 260, 55, 0), (70, 2, 63, 279, 280, 56, 0), (85, 3, 28, 299, 300, 57, 0), (132, 0, 99, 378, 380, 49, 0), (158, 0, 101, 451, 453, 49, 2), (93, 0, 89, 906, 908, 49, 4), (104, 0, 67, 915, 916, 50, 917), (117, 0, 86, 1023, 1024, 50, 1025), (126, 0, 97, 1043, 1045, 49, 21), (361, 0, 13, 1047, 1048, 51, 1049), (355, 0, 17, 1052, 1053, 52, 1054), (144, 0, 18, 1070, 1071, 52, 1072), (147, 0, 19, 1074, 1075, 52, 1076), (150, 0, 20, 1078, 1079, 52, 1080), (153, 0, 21, 1082, 1083, 52, 1084), (169, 0, 103, 1091, 1093, 49, 22), (172, 1, 104, 1096, 1097, 49, 0), (180, 0, 106, 1104, 1106, 49, 23), (186, 0, 108, 1113, 1115, 49, 24), (203, 1, 113, 1123, 1124, 49, 0), (206, 0, 22, 1126, 1127, 52, 1128), (213, 0, 33, 1134, 1135, 53, 1136), (217, 0, 34, 1143, 1144, 53, 1145), (229, 0, 37, 1155, 1156, 53, 1157), (247, 0, 53, 1164, 1165, 54, 1166), (253, 0, 55, 1241, 1242, 54, 1243), (256, 0, 56, 1249, 1250, 54, 1251), (290, 0, 30, 1273, 1274, 57, 1275), (286, 0, 29, 1282, 1279, 57, 1280), (295, 0, 31, 1284, 1285, 57, 1286), (305, 0, 64, 1300, 1301, 56, 1302), (308, 0, 44, 1306, 1196, 53, 1197), (313, 0, 43, 1312, 1192, 53, 1193), (316, 0, 41, 1317, 1170, 53, 1171), (319, 0, 48, 1322, 1323, 53, 1324), (324, 0, 50, 1335, 1254, 53, 1255), (329, 0, 16, 1341, 1003, 52, 1004), (333, 0, 51, 1342, 1343, 53, 1344), (340, 0, 49, 1356, 1327, 53, 1328), (349, 0, 65, 1366, 1367, 56, 1368), (352, 1, 154, 1374, 1375, 49, 0), (238, 0, 60, 1387, 1388, 55, 1389), (223, 0, 36, 1487, 1201, 53, 1202), (226, 0, 24, 1496, 1233, 52, 1234), (220, 0, 23, 1501, 1225, 52, 1226), (232, 0, 38, 1523, 1187, 53, 1188), (235, 0, 39, 1532, 1178, 53, 1179), (283, 0, 140, 1556, 1558, 49, 32)],
  [(3, 5, 0, 282, 0, 0, 0), (17, 3, 14, 285, 126, 52, 0), (22, 0, 17, 1304, 1053, 52, 1054), (29, 7, 0, 1305, 0, 0, 0)],
  [(3, 5, 0, 262, 0, 0, 0), (24, 7, 0, 1391, 0, 0, 0), (38, 0, 61, 1392, 1394, 55, 30), (42, 0, 62, 1396, 1398, 55, 31), (51, 6, 0, 1400, 0, 0, 0)],
  [(3, 5, 0, 79, 0, 0, 0), (11, 3, 8, 82, 83, 51, 0), (20, 3, 14, 125, 126, 52, 0), (29, 0, 68, 919, 921, 50, 5), (51, 7, 0, 923, 0, 0, 0), (33, 0, 69, 924, 926, 50, 6), (80, 0, 70, 929, 931, 50, 7), (37, 0, 71, 933, 935, 50, 8), (160, 0, 72, 937, 939, 50, 9), (163, 1, 73, 941, 942, 50, 0), (167, 0, 74, 944, 946, 50, 10), (170, 1, 75, 948, 949, 50, 0), (173, 0, 76, 951, 953, 50, 11), (101, 0, 77, 955, 957, 50, 12), (150, 0, 1, 959, 514, 38, 515), (156, 0, 2, 960, 885, 38, 886), (44, 0, 78, 961, 963, 50, 13), (86, 0, 79, 966, 968, 50, 14), (48, 0, 80, 971, 973, 50, 15), (104, 0, 81, 976, 978, 50, 16), (121, 0, 9, 980, 981, 51, 982), (124, 0, 10, 984, 985, 51, 986), (108, 0, 82, 989, 991, 50, 17), (131, 0, 15, 993, 994, 52, 995), (113, 0, 83, 998, 1000, 50, 18), (134, 0, 16, 1002, 1003, 52, 1004), (118, 0, 84, 1007, 1009, 50, 19), (138, 0, 11, 1011, 1012, 51, 1013), (141, 0, 12, 1015, 1016, 51, 1017), (144, 0, 85, 1019, 1021, 50, 20)],
  [(3, 5, 0, 85, 0, 0, 0), (33, 4, 0, 1051, 0, 0, 0)],
  [(3, 5, 0, 128, 0, 0, 0), (45, 4, 0, 1056, 0, 0, 0)],
  [(3, 5, 0, 302, 0, 0, 0), (29, 0, 29, 1278, 1279, 57, 1280), (19, 0, 1, 1288, 514, 38, 515), (25, 0, 2, 1289, 885, 38, 886)],
  [(3, 5, 0, 239, 0, 0, 0), (21, 3, 14, 241, 126, 52, 0), (27, 2, 32, 243, 224, 53, 0), (34, 0, 17, 1168, 1053, 52, 1054), (38, 0, 41, 1169, 1170, 53, 1171), (54, 0, 50, 1253, 1254, 53, 1255), (57, 0, 46, 1258, 1217, 53, 1218), (60, 0, 20, 1259, 1079, 52, 1080)],
  [(3, 5, 0, 226, 0, 0, 0), (34, 6, 0, 1138, 0, 0, 0), (53, 0, 35, 1147, 1149, 53, 25), (46, 0, 33, 1159, 1135, 53, 1136), (99, 0, 42, 1173, 1175, 53, 26), (124, 0, 39, 1177, 1178, 53, 1179), (60, 0, 40, 1181, 1183, 53, 27), (63, 0, 22, 1185, 1127, 52, 1128), (128, 0, 38, 1186, 1187, 53, 1188), (57, 0, 37, 1190, 1156, 53, 1157), (131, 0, 43, 1191, 1192, 53, 1193), (96, 0, 44, 1195, 1196, 53, 1197), (67, 7, 0, 1199, 0, 0, 0), (73, 0, 36, 1200, 1201, 53, 1202), (76, 0, 25, 1204, 1205, 52, 1206), (82, 0, 45, 1208, 1210, 53, 28), (86, 0, 26, 1212, 1213, 52, 1214), (103, 0, 46, 1216, 1217, 53, 1218), (106, 0, 47, 1220, 1222, 53, 29), (112, 0, 23, 1224, 1225, 52, 1226), (115, 0, 27, 1228, 1229, 52, 1230), (118, 0, 24, 1232, 1233, 52, 1234), (109, 0, 34, 1236, 1144, 53, 1145), (140, 0, 15, 1257, 994, 52, 995), (134, 0, 49, 1326, 1327, 53, 1328)],
  [(1, 5, 0, 484, 0, 0, 0)],
  [],
  [],
  [],
  [(356, 2, 87, 68, 69, 49, 0), (372, 0, 90, 362, 363, 49, 364), (375, 0, 91, 366, 367, 49, 368), (378, 0, 92, 370, 371, 49, 372), (36, 0, 100, 374, 375, 49, 376), (158, 0, 94, 471, 472, 49, 473), (357, 0, 95, 475, 476, 49, 477), (350, 2, 191, 481, 482, 34, 0), (222, 0, 192, 492, 493, 34, 494), (353, 2, 195, 499, 500, 35, 0), (368, 1, 209, 877, 878, 33, 0), (23, 1, 210, 880, 881, 33, 0), (7, 0, 1, 883, 514, 38, 515), (13, 0, 2, 884, 885, 38, 886), (17, 0, 88, 902, 903, 49, 904), (29, 0, 96, 910, 911, 49, 912), (234, 1, 211, 1057, 1058, 33, 0), (129, 1, 212, 1063, 1064, 33, 0), (33, 0, 98, 1066, 1067, 49, 1068), (40, 0, 102, 1087, 1088, 49, 1089), (44, 0, 105, 1100, 1101, 49, 1102), (47, 0, 109, 1109, 1110, 49, 1111), (50, 0, 112, 1119, 1120, 49, 1121), (53, 0, 115, 1130, 1131, 49, 1132), (56, 0, 116, 1139, 1140, 49, 1141), (59, 0, 123, 1151, 1152, 49, 1153), (62, 0, 128, 1160, 1161, 49, 1162), (65, 0, 130, 1237, 1238, 49, 1239), (68, 0, 132, 1245, 1246, 49, 1247), (71, 0, 135, 1260, 1261, 49, 1262), (74, 0, 138, 1264, 1265, 49, 1266), (77, 0, 141, 1269, 1270, 49, 1271), (80, 0, 142, 1290, 1291, 49, 1292), (83, 0, 143, 1295, 1296, 49, 1297), (86, 0, 144, 1307, 1308, 49, 1309), (89, 0, 145, 1313, 1314, 49, 1315), (92, 0, 146, 1318, 1319, 49, 1320), (95, 0, 147, 1330, 1331, 49, 1332), (98, 0, 148, 1336, 1337, 49, 1338), (102, 0, 149, 1346, 1347, 49, 1348), (105, 0, 150, 1351, 1352, 49, 1353), (108, 0, 151, 1357, 1358, 49, 1359), (111, 0, 152, 1361, 1362, 49, 1363), (114, 0, 153, 1370, 1371, 49, 1372), (117, 0, 155, 1378, 1379, 49, 1380), (120, 0, 126, 1383, 1384, 49, 1385), (123, 0, 110, 1401, 1402, 49, 1403), (126, 0, 111, 1405, 1406, 49, 1407), (381, 1, 213, 1410, 1411, 33, 0), (216, 0, 114, 1413, 1414, 49, 1415), (394, 1, 214, 1417, 1418, 33, 0), (228, 0, 206, 1454, 1455, 35, 1456), (238, 0, 196, 1462, 720, 35, 721), (245, 0, 197, 1463, 758, 35, 759), (250, 1, 215, 1464, 1465, 33, 0), (254, 0, 207, 1467, 1459, 35, 1460), (260, 0, 200, 1468, 1429, 35, 1430), (263, 0, 203, 1469, 1442, 35, 1443), (385, 1, 216, 1470, 1471, 33, 0), (269, 0, 205, 1473, 1451, 35, 1452), (273, 0, 199, 1474, 1425, 35, 1426), (276, 0, 208, 1475, 1476, 35, 1477), (279, 0, 118, 1479, 1480, 49, 1481), (282, 0, 119, 1483, 1484, 49, 1485), (285, 0, 121, 1488, 1489, 49, 1490), (288, 0, 120, 1492, 1493, 49, 1494), (291, 0, 117, 1497, 1498, 49, 1499), (294, 0, 136, 1502, 1503, 49, 1504), (298, 0, 137, 1506, 1507, 49, 1508), (388, 1, 217, 1510, 1511, 33, 0), (302, 0, 202, 1513, 1438, 35, 1439), (303, 0, 201, 1514, 1434, 35, 1435), (307, 0, 107, 1515, 1516, 49, 1517), (310, 0, 124, 1519, 1520, 49, 1521), (313, 0, 122, 1524, 1525, 49, 1526), (317, 0, 125, 1528, 1529, 49, 1530), (391, 1, 218, 1533, 1534, 33, 0), (324, 2, 186, 1537, 1538, 37, 0), (320, 0, 187, 1543, 1544, 37, 1545), (325, 0, 185, 1550, 697, 37, 698), (328, 0, 184, 1551, 669, 37, 670), (331, 0, 139, 1552, 1553, 49, 1554), (334, 1, 219, 1560, 1561, 33, 0), (323, 0, 188, 1563, 1564, 37, 1565), (338, 0, 189, 1573, 1574, 37, 1575), (343, 0, 183, 1696, 540, 37, 541), (364, 0, 190, 1698, 1591, 37, 1592)],
  [(335, 0, 4, 517, 518, 38, 519), (212, 4, 0, 647, 0, 0, 0), (1059, 1, 7, 715, 716, 44, 0), (492, 0, 3, 888, 889, 38, 890), (495, 1, 6, 892, 893, 45, 0), (489, 2, 158, 1599, 1600, 38, 0), (1, 5, 0, 1602, 0, 0, 0), (552, 8, 180, 1603, 1604, 180, 1606), (549, 8, 187, 1608, 1544, 177, 1711), (1047, 8, 171, 1609, 585, 171, 587), (54, 1, 161, 1610, 1611, 42, 0)],
  [(1, 5, 0, 765, 0, 0, 0)],
  [(1, 5, 0, 727, 0, 0, 0)],
  [(1, 5, 0, 502, 0, 0, 0), (11, 2, 181, 506, 507, 37, 0), (50, 0, 192, 667, 493, 34, 494), (63, 0, 184, 668, 669, 37, 670), (69, 0, 183, 694, 540, 37, 541), (77, 0, 185, 696, 697, 37, 698), (82, 0, 196, 719, 720, 35, 721), (121, 2, 193, 724, 725, 47, 0), (88, 0, 197, 757, 758, 35, 759), (124, 2, 194, 762, 763, 48, 0), (130, 0, 198, 807, 809, 35, 3), (186, 0, 200, 1428, 1429, 35, 1430), (179, 6, 0, 1432, 0, 0, 0), (182, 0, 202, 1437, 1438, 35, 1439), (155, 7, 0, 1445, 0, 0, 0), (170, 0, 204, 1446, 1447, 35, 1448), (174, 0, 205, 1450, 1451, 35, 1452), (202, 0, 207, 1458, 1459, 35, 1460)],
  [(7, 2, 167, 509, 510, 36, 0), (23, 0, 183, 539, 540, 37, 541), (29, 10, 168, 543, 534, 36, 535), (53, 10, 174, 672, 673, 36, 1706), (50, 10, 175, 700, 701, 36, 1707), (1, 2, 176, 1540, 1541, 36, 0), (343, 10, 177, 1547, 1548, 36, 1708), (329, 10, 178, 1567, 1568, 36, 1709), (333, 10, 179, 1577, 1578, 36, 1710), (137, 2, 157, 1596, 1597, 38, 0)],
  [],
  [(9, 1, 5, 895, 713, 38, 0)],
  [],
  [],
  [],
  [(3, 5, 0, 512, 0, 0, 0), (32, 0, 1, 513, 514, 38, 515), (40, 0, 4, 525, 518, 38, 519), (43, 8, 182, 533, 537, 168, 536), (100, 8, 169, 550, 552, 169, 1714), (104, 8, 170, 554, 556, 170, 1715), (114, 1, 164, 558, 559, 40, 0), (108, 1, 160, 568, 569, 42, 0), (83, 8, 171, 584, 585, 171, 587), (208, 8, 172, 616, 618, 172, 1716), (397, 8, 173, 620, 622, 173, 1717), (399, 0, 156, 643, 644, 38, 645), (245, 1, 165, 675, 676, 46, 0), (248, 1, 166, 678, 679, 46, 0), (191, 1, 159, 703, 704, 45, 0), (138, 7, 0, 1570, 0, 0, 0), (144, 1, 5, 1571, 713, 38, 0)],
  [(310, 11, 0, 571, 0, 0, 0), (304, 7, 0, 578, 0, 0, 0), (150, 4, 0, 581, 0, 0, 0), (339, 1, 162, 1613, 1614, 42, 0), (343, 1, 163, 1616, 1617, 42, 0), (47, 2, 186, 1621, 1538, 37, 0), (54, 0, 184, 1622, 669, 37, 670), (50, 0, 183, 1624, 540, 37, 541), (61, 0, 190, 1625, 1591, 37, 1592)],
  [(194, 6, 0, 561, 0, 0, 0)],
  [],
  []]
def am_ml (oc idx : Nat) : Option (Nat × Nat × Nat × Nat × Nat × Nat × Nat) := (am_mlT.getD oc []).find? (fun q => q.1 == idx)
def am_clT : List (List (Nat × Nat × Nat)) := [[(13, 3, 74), (29, 4, 217), (36, 5, 219), (43, 8, 221), (52, 7, 234), (59, 2, 257), (68, 1, 277), (83, 6, 297), (344, 12, 382), (97, 10, 455), (121, 11, 1027)],
  [(9, 5, 283)],
  [],
  [(9, 4, 80), (18, 5, 123)],
  [(21, 25, 86)],
  [(15, 25, 129)],
  [],
  [(19, 5, 240), (25, 8, 242)],
  [],
  [],
  [],
  [],
  [],
  [(18, 0, 66), (223, 9, 479), (142, 17, 497), (135, 12, 1060), (137, 10, 1061), (139, 11, 1062), (321, 18, 1536)],
  [],
  [],
  [],
  [(7, 18, 503), (20, 20, 662), (32, 16, 663), (38, 15, 665)],
  [(18, 19, 1594)],
  [],
  [],
  [],
  [],
  [],
  [],
  [(311, 21, 577), (43, 11, 1619), (45, 18, 1620)],
  [],
  [],
  []]
def am_cs (oc idx : Nat) : Option (Nat × Nat × Nat) := (am_clT.getD oc []).find? (fun q => q.1 == idx)
def am_srT : List (List (Nat × Nat × Nat)) := [[(293, 24, 1283)],
  [],
  [],
  [(78, 10, 928), (84, 12, 965), (97, 14, 970), (99, 16, 975), (107, 18, 988), (111, 20, 997), (116, 22, 1006)],
  [],
  [],
  [],
  [],
  [],
  [],
  [],
  [],
  [],
  [(341, 38, 1695), (346, 40, 1697)],
  [],
  [],
  [],
  [(9, 26, 505), (67, 28, 693), (75, 30, 695), (80, 32, 718), (86, 34, 756), (92, 36, 811)],
  [],
  [],
  [],
  [],
  [],
  [],
  [],
  [],
  [],
  [],
  []]
def am_sr (oc idx : Nat) : Option (Nat × Nat × Nat) := (am_srT.getD oc []).find? (fun q => q.1 == idx)
def am_ctT : List (List (Nat × Int × Nat)) := [[],
  [],
  [],
  [],
  [],
  [],
  [(33, 1000000000, 1277)],
  [],
  [],
  [(17, 2147483647, 496)],
  [],
  [],
  [],
  [],
  [],
  [],
  [],
  [],
  [],
  [],
  [],
  [],
  [],
  [],
  [(38, 2147483631, 523), (39, 2147483647, 524)],
  [],
  [(200, 2147483639, 564)],
  [],
  []]
def am_ct (oc idx : Nat) : Option (Nat × Int × Nat) := (am_ctT.getD oc []).find? (fun q => q.1 == idx)
def am_inst : List Nat := [16, 3, 4, 9, 6, 10, 2, 4, 2, 2, 16, 16, 16, 16, 16, 9, 6, 16, 4, 4]
/-- string constants: their class and place, their text -/
def am_strs : List (String × Nat × String) := [("RodYard$Parser", 78, "yard"), ("RodYard$Parser", 84, "kerf"), ("RodYard$Parser", 97, "keep"), ("RodYard$Parser", 99, "kind"), ("RodYard$Parser", 107, "rods"), ("RodYard$Parser", 111, "order"), ("RodYard$Parser", 116, "pattern"), ("RodYard", 293, " gone"), ("RodYardLaw$Yard", 9, "yard kerf "), ("RodYardLaw$Yard", 67, " keep "), ("RodYardLaw$Yard", 75, ";kind "), ("RodYardLaw$Yard", 80, ";rods "), ("RodYardLaw$Yard", 86, ";order "), ("RodYardLaw$Yard", 92, ";pattern"), ("RodYardLaw", 341, " d"), ("RodYardLaw", 346, " gone")]
def am_txt : List (List Int) := [[121, 97, 114, 100], [107, 101, 114, 102], [107, 101, 101, 112], [107, 105, 110, 100], [114, 111, 100, 115], [111, 114, 100, 101, 114], [112, 97, 116, 116, 101, 114, 110], [32, 103, 111, 110, 101], [121, 97, 114, 100, 32, 107, 101, 114, 102, 32], [32, 107, 101, 101, 112, 32], [59, 107, 105, 110, 100, 32], [59, 114, 111, 100, 115, 32], [59, 111, 114, 100, 101, 114, 32], [59, 112, 97, 116, 116, 101, 114, 110], [32, 100], [32, 103, 111, 110, 101]]
/-- the messages of exceptions: their places, texts, words -/
def am_msgT : List (Nat × String × Nat) := [(99, "more bytes than the buffer has", 914), (123, "the text has an error", 1036), (156, "no such count", 1086), (192, "no such length of the pattern", 1118), (275, "no such cut", 1268), (298, "no such byte of the text", 1294), (303, "the piece cannot be cut from the rod", 1299), (311, "the pattern does not fit the rod", 1311), (322, "no room for another rod", 1334), (327, "no room for another order", 1340), (336, "the order is not open", 1350), (338, "the rod is not in stock", 1355), (346, "no change to undo", 1365), (358, "nothing is saved in the slot", 1382), (365, "there is no yard", 425), (367, "no such kind", 464), (369, "no such rod", 1095), (371, "no such order", 1108), (373, "no such pattern", 1117), (375, "no such slot", 1377), (377, "an argument is out of its range", 1099)]
end
section
/-! THE SMALL MACHINE: values, heap, steps -/
abbrev AV : Type := Int ⊕ (Nat ⊕ (Int ⊕ (Int ⊕ (Int ⊕ Unit))))
abbrev aI (x : Int) : AV := .inl x
abbrev aR (a : Nat) : AV := .inr (.inl a)
abbrev aL (x : Int) : AV := .inr (.inr (.inl x))
abbrev aF (x : Int) : AV := .inr (.inr (.inr (.inl x)))
abbrev aD (x : Int) : AV := .inr (.inr (.inr (.inr (.inl x))))
abbrev aU : AV := .inr (.inr (.inr (.inr (.inr ()))))
/-- objects made, their slots, kinds, lengths, references -/
abbrev AG : Type := Nat × Nat × (Nat → Nat) × (Nat → Nat) × (Nat → Int → Nat)
abbrev AM : Type := Nat → Int → Int
def gN (g : AG) : Nat := g.1
def gS (g : AG) : Nat := g.2.1
def gK (g : AG) : Nat → Nat := g.2.2.1
def gL (g : AG) : Nat → Nat := g.2.2.2.1
def gR (g : AG) : Nat → Int → Nat := g.2.2.2.2
abbrev AO : Type := Option AV ⊕ Nat
def wr (x : Int) : Int := x.bmod 4294967296
def wl (x : Int) : Int := x.bmod 18446744073709551616
def upN (f : Nat → Nat) (k v : Nat) : Nat → Nat := fun j => if j = k then v else f j
def upI (f : Int → Int) (k v : Int) : Int → Int := fun j => if j = k then v else f j
def upM (m : AM) (a : Nat) (f : Int → Int) : AM := fun b => if b = a then f else m b
def up2 (m : AM) (a : Nat) (k v : Int) : AM := upM m a (upI (m a) k v)
def upR (r : Nat → Int → Nat) (a : Nat) (f : Int → Nat) : Nat → Int → Nat := fun b => if b = a then f else r b
def up2R (r : Nat → Int → Nat) (a : Nat) (k : Int) (v : Nat) : Nat → Int → Nat := upR r a (fun j => if j = k then v else r a j)
def am_cat (v : AV) : Nat := match v with
  | .inr (.inr (.inl _)) => 2
  | .inr (.inr (.inr (.inr (.inl _)))) => 2
  | _ => 1
/-- a new object or array of a kind -/
def am_alloc (g : AG) (kind len slots : Nat) : AG := (gN g + 1, gS g + slots, upN (gK g) (100 + gN g) kind, upN (gL g) (100 + gN g) len, upR (gR g) (100 + gN g) (fun _ => 0))
def am_zero (g : AG) (m : AM) : AM := upM m (100 + gN g) (fun _ => 0)
def am_len (i : Instr) : Nat := match i with
  | .iload _ | .aload _ | .istore _ | .astore _ | .fload _ | .fstore _ | .dload _ | .dstore _ | .bipush _ | .ldc _ | .newarray _ => 2
  | .sipush _ | .ldc_w _ | .getfield _ | .putfield _ | .getstatic _ | .invokevirtual _ | .invokestatic _ | .invokespecial _ | .new _ | .anewarray _ | .iinc _ _ | .ifCond _ _ | .if_icmp _ _ | .goto _ | .ifnull _ | .ifnonnull _ | .ldc2_w _ | .checkcast _ => 3
  | .multianewarray _ _ => 4
  | _ => 1
def am_isw (i : Instr) : Bool := match i with
  | .tableswitch _ _ _ _ => true
  | _ => false
def am_ins (mi pc : Nat) : Option Instr := match decode (am_code mi) pc with
  | .ok (i, n) => if (am_isw i || n == am_len i) = true then some i else none
  | .error _ => none
def am_cmp (o : ClassFile.Cond) (x y : Int) : Bool := match o with
  | .eq => decide (wr x = wr y)
  | .ne => decide (wr x ≠ wr y)
  | .lt => decide (wr x < wr y)
  | .ge => decide (wr y ≤ wr x)
  | .gt => decide (wr y < wr x)
  | .le => decide (wr x ≤ wr y)
def am_and (x y : Int) : Int := (Int32.ofInt x &&& Int32.ofInt y).toInt
def am_or (x y : Int) : Int := (Int32.ofInt x ||| Int32.ofInt y).toInt
def am_shl (x y : Int) : Int := (Int32.ofInt x <<< (Int32.ofInt y &&& 31)).toInt
def am_shr (x y : Int) : Int := (Int32.ofInt x >>> (Int32.ofInt y &&& 31)).toInt
def am_ushr (x y : Int) : Int := ((Int32.ofInt x).toUInt32 >>> ((Int32.ofInt y).toUInt32 &&& Int32.toUInt32 31)).toInt32.toInt
def am_d (x : Int) : UInt64 := UInt64.ofNat x.toNat
def am_f (x : Int) : UInt32 := UInt32.ofNat x.toNat
def am_c2 (v : Option AV) : Bool := match v with
  | some v => am_cat v == 2
  | none => false
/-- a store of one word: what it overlaps is gone -/
def am_st0 (ls : List AV) (k : Nat) : List AV := match k with
  | 0 => ls
  | j + 1 => if am_c2 ls[j]? = true then ls.set j aU else ls
def am_st1 (ls : List AV) (k : Nat) (v : AV) : List AV := (am_st0 ls k).set k v
def am_st2 (ls : List AV) (k : Nat) (v : AV) : List AV := (am_st1 ls k v).set (k + 1) aU
abbrev AR : Type := Option (Nat × List AV × List AV × AG × AM)
def am_ldI (ls : List AV) (k n pc : Nat) (st : List AV) (g : AG) (m : AM) : AR := match ls[k]? with
  | some (.inl x) => some (pc + n, ls, aI x :: st, g, m)
  | _ => none
def am_ldA (ls : List AV) (k n pc : Nat) (st : List AV) (g : AG) (m : AM) : AR := match ls[k]? with
  | some (.inr (.inl x)) => some (pc + n, ls, aR x :: st, g, m)
  | _ => none
def am_ldF (ls : List AV) (k n pc : Nat) (st : List AV) (g : AG) (m : AM) : AR := match ls[k]? with
  | some (.inr (.inr (.inr (.inl x)))) => some (pc + n, ls, aF x :: st, g, m)
  | _ => none
def am_ldD (ls : List AV) (k n pc : Nat) (st : List AV) (g : AG) (m : AM) : AR := match ls[k]? with
  | some (.inr (.inr (.inr (.inr (.inl x))))) => some (pc + n, ls, aD x :: st, g, m)
  | _ => none
def am_stI (ls : List AV) (k n pc : Nat) (st : List AV) (g : AG) (m : AM) : AR := match st with
  | .inl x :: st' => if k < ls.length then some (pc + n, am_st1 ls k (aI x), st', g, m) else none
  | _ => none
def am_stA (ls : List AV) (k n pc : Nat) (st : List AV) (g : AG) (m : AM) : AR := match st with
  | .inr (.inl x) :: st' => if k < ls.length then some (pc + n, am_st1 ls k (aR x), st', g, m) else none
  | _ => none
def am_stF (ls : List AV) (k n pc : Nat) (st : List AV) (g : AG) (m : AM) : AR := match st with
  | .inr (.inr (.inr (.inl x))) :: st' => if k < ls.length then some (pc + n, am_st1 ls k (aF x), st', g, m) else none
  | _ => none
def am_stD (ls : List AV) (k n pc : Nat) (st : List AV) (g : AG) (m : AM) : AR := match st with
  | .inr (.inr (.inr (.inr (.inl x)))) :: st' => if k + 1 < ls.length then some (pc + n, am_st2 ls k (aD x), st', g, m) else none
  | _ => none
def am_bin (f : Int → Int → Int) (pc : Nat) (ls st : List AV) (g : AG) (m : AM) : AR := match st with
  | .inl y :: .inl x :: st' => some (pc + 1, ls, aI (f x y) :: st', g, m)
  | _ => none
def am_un (f : Int → AV) (pc : Nat) (ls st : List AV) (g : AG) (m : AM) : AR := match st with
  | .inl x :: st' => some (pc + 1, ls, f x :: st', g, m)
  | _ => none
def am_jmp (pc : Nat) (off : Int) (ls st : List AV) (g : AG) (m : AM) : AR := if 0 ≤ (pc : Int) + off then some (((pc : Int) + off).toNat, ls, st, g, m) else none
def am_if (b : Bool) (pc : Nat) (off : Int) (ls st : List AV) (g : AG) (m : AM) : AR := if 0 ≤ (pc : Int) + off then (if b = true then some (((pc : Int) + off).toNat, ls, st, g, m) else some (pc + 3, ls, st, g, m)) else none
/-- is this reference null: only where the small machine knows -/
def am_nul (a : Nat) : Option Bool := if a = 0 then some true else if 100 ≤ a ∨ 10 ≤ a ∧ a < 42 then some false else none
/-- the kind of an array of references of a class -/
def am_aar (ci : Nat) : Nat := if ci = 5 then 26 else if ci = 20 then 25 else if ci = 16 then 23 else if ci = 15 then 24 else 0
def am_clone (pc : Nat) (ls st : List AV) (g : AG) (m : AM) : AR := match st with
  | .inr (.inl a) :: st' => if gK g a = 21 ∧ (st'.map am_cat).sum ≤ 8 then some (pc + 3, ls, aR (100 + gN g) :: st', am_alloc g 21 (gL g a) (gL g a), upM m (100 + gN g) (m a)) else none
  | _ => none
/-- an array is read -/
def am_ald (ks : List Nat) (f : Int → AV) (pc : Nat) (ls st : List AV) (g : AG) (m : AM) : AR := match st with
  | .inl i :: .inr (.inl a) :: st' => if gK g a ∈ ks ∧ 0 ≤ i ∧ i < gL g a then some (pc + 1, ls, f (m a i) :: st', g, m) else none
  | _ => none
def am_getf (mi pc idx : Nat) (ls st : List AV) (g : AG) (m : AM) : AR := match st with
  | .inr (.inl a) :: st' =>
    if gK g a = 14 then (if am_oc mi = 14 ∧ idx = 9 then some (pc + 3, ls, aR (gR g a 0) :: st', g, m) else if am_oc mi = 14 ∧ idx = 15 then some (pc + 3, ls, aI 0 :: st', g, m) else none)
    else match am_fl (am_oc mi) idx with
      | some (_, ci, k, _) => if gK g a = ci ∧ k < am_nf ci then (if am_fkd ci k % 4 = 1 then some (pc + 3, ls, aR (gR g a k) :: st', g, m) else some (pc + 3, ls, aI (m a k) :: st', g, m)) else none
      | none => none
  | _ => none
def am_finok (mi ci k : Nat) : Bool := decide (am_fkd ci k < 4) || (decide ((am_name mi).name = "<init>") && decide (am_own mi = am_cn ci))
def am_putf (mi pc idx : Nat) (ls st : List AV) (g : AG) (m : AM) : AR := match st with
  | .inl x :: .inr (.inl a) :: st' => match am_fl (am_oc mi) idx with
      | some (_, ci, k, _) => if gK g a = ci ∧ k < am_nf ci ∧ am_finok mi ci k = true ∧ (am_fkd ci k % 4 = 0 ∨ (am_fkd ci k % 4 = 2 ∧ (x = 0 ∨ x = 1)) ∨ (am_fkd ci k % 4 = 3 ∧ -128 ≤ x ∧ x < 128)) then some (pc + 3, ls, st', g, up2 m a k x) else none
      | none => none
  | .inr (.inl r) :: .inr (.inl a) :: st' => match am_fl (am_oc mi) idx with
      | some (_, ci, k, _) => if gK g a = ci ∧ k < am_nf ci ∧ am_finok mi ci k = true ∧ am_fkd ci k % 4 = 1 then some (pc + 3, ls, st', (gN g, gS g, gK g, gL g, up2R (gR g) a k r), m) else none
      | none => none
  | _ => none
def am_aat (t : ArrayType) : Nat := match t with
  | .int => 20
  | .byte => 21
  | .boolean => 22
  | _ => 0
def am_multi (g : AG) (n k : Nat) : AG := (gN g + (1 + n), gS g + (n + n * k),
  fun c => if c = 100 + gN g then 25 else if 100 + gN g < c ∧ c ≤ 100 + gN g + n then 20 else gK g c,
  fun c => if c = 100 + gN g then n else if 100 + gN g < c ∧ c ≤ 100 + gN g + n then k else gL g c,
  fun c => if c = 100 + gN g then (fun j => if 0 ≤ j ∧ j < n then 100 + gN g + 1 + j.toNat else 0) else if 100 + gN g < c ∧ c ≤ 100 + gN g + n then (fun _ => 0) else gR g c)
def am_zeros (g : AG) (m : AM) (n : Nat) : AM := fun c => if 100 + gN g ≤ c ∧ c ≤ 100 + gN g + n then (fun _ => 0) else m c
def am_cpy (f h : Int → Int) (sp dp n : Int) : Int → Int := fun j => if dp ≤ j ∧ j < dp + n then f (sp + (j - dp)) else h j
def am_cp (pc : Nat) (ls st : List AV) (g : AG) (m : AM) : AR := match st with
  | .inl n :: .inl dp :: .inr (.inl a) :: .inl sp :: .inr (.inl a0) :: st' => if (gK g a = 20 ∧ gK g a0 = 20 ∨ gK g a = 21 ∧ (gK g a0 = 21 ∨ gK g a0 = 27)) ∧ 0 ≤ sp ∧ 0 ≤ dp ∧ 0 ≤ n ∧ sp + n ≤ gL g a0 ∧ dp + n ≤ gL g a ∧ (st'.map am_cat).sum ≤ 8 then some (pc + 3, ls, st', g, upM m a (am_cpy (m a0) (m a) sp dp n)) else none
  | _ => none
def am_mx (pc : Nat) (ls st : List AV) (g : AG) (m : AM) : AR := match st with
  | .inl y :: .inl x :: st' => if (st'.map am_cat).sum ≤ 8 then some (pc + 3, ls, aI (if wr x < wr y then y else x) :: st', g, m) else none
  | _ => none
def am_mn (pc : Nat) (ls st : List AV) (g : AG) (m : AM) : AR := match st with
  | .inl y :: .inl x :: st' => if (st'.map am_cat).sum ≤ 8 then some (pc + 3, ls, aI (if wr y < wr x then y else x) :: st', g, m) else none
  | _ => none
def am_step (mi pc : Nat) (i : Instr) (ls st : List AV) (g : AG) (m : AM) : AR := match i with
  | .iconst n => some (pc + 1, ls, aI n :: st, g, m)
  | .bipush n => some (pc + 2, ls, aI (Int8.ofInt n).toInt :: st, g, m)
  | .sipush n => some (pc + 3, ls, aI (Int16.ofInt n).toInt :: st, g, m)
  | .lconst n => some (pc + 1, ls, aL (n : Nat) :: st, g, m)
  | .fconst n => if n = 0 then some (pc + 1, ls, aF FP.fconst0.toNat :: st, g, m) else none
  | .dconst n => if n = 0 then some (pc + 1, ls, aD FP.dconst0.toNat :: st, g, m) else none
  | .iload k => am_ldI ls k 2 pc st g m
  | .iload_n k => am_ldI ls k 1 pc st g m
  | .aload k => am_ldA ls k 2 pc st g m
  | .aload_n k => am_ldA ls k 1 pc st g m
  | .fload k => am_ldF ls k 2 pc st g m
  | .dload k => am_ldD ls k 2 pc st g m
  | .istore k => am_stI ls k 2 pc st g m
  | .istore_n k => am_stI ls k 1 pc st g m
  | .astore k => am_stA ls k 2 pc st g m
  | .astore_n k => am_stA ls k 1 pc st g m
  | .fstore k => am_stF ls k 2 pc st g m
  | .dstore k => am_stD ls k 2 pc st g m
  | .iinc k n => match ls[k]? with
    | some (.inl x) => some (pc + 3, am_st1 ls k (aI (x + n)), st, g, m)
    | _ => none
  | .iadd => am_bin (fun x y => x + y) pc ls st g m
  | .isub => am_bin (fun x y => x - y) pc ls st g m
  | .imul => am_bin (fun x y => x * y) pc ls st g m
  | .iand => am_bin am_and pc ls st g m
  | .ior => am_bin am_or pc ls st g m
  | .ishl => am_bin am_shl pc ls st g m
  | .ishr => am_bin am_shr pc ls st g m
  | .iushr => am_bin am_ushr pc ls st g m
  | .ineg => am_un (fun x => aI (-x)) pc ls st g m
  | .aconst_null => some (pc + 1, ls, aR 0 :: st, g, m)
  | .ifnull off => match st with
    | .inr (.inl a) :: st' => match am_nul a with
      | some b => am_if b pc off ls st' g m
      | none => none
    | _ => none
  | .ifnonnull off => match st with
    | .inr (.inl a) :: st' => match am_nul a with
      | some b => am_if (!b) pc off ls st' g m
      | none => none
    | _ => none
  | .dup_x1 => match st with
    | v :: w :: st' => if am_cat v = 1 ∧ am_cat w = 1 then some (pc + 1, ls, v :: w :: v :: st', g, m) else none
    | _ => none
  | .checkcast idx => match st with
    | .inr (.inl a) :: st' => match am_cs (am_oc mi) idx with
      | some (_, ci, _) => if ci = 21 ∧ gK g a = 21 then some (pc + 3, ls, aR a :: st', g, m) else none
      | none => none
    | _ => none
  | .invokevirtual idx => match am_ml (am_oc mi) idx with
    | some (_, 11, _) => am_clone pc ls st g m
    | _ => none
  | .idiv => match st with
    | .inl y :: .inl x :: st' => if wr y ≠ 0 then some (pc + 1, ls, aI ((wr x).tdiv (wr y)) :: st', g, m) else none
    | _ => none
  | .irem => match st with
    | .inl y :: .inl x :: st' => if wr y ≠ 0 then some (pc + 1, ls, aI ((wr x).tmod (wr y)) :: st', g, m) else none
    | _ => none
  | .i2l => am_un (fun x => aL (wr x)) pc ls st g m
  | .i2b => am_un (fun x => aI (x.bmod 256)) pc ls st g m
  | .i2c => am_un (fun x => aI (x % 65536)) pc ls st g m
  | .i2d => am_un (fun x => aD (FP.i2d (Int32.ofInt x)).toNat) pc ls st g m
  | .i2f => am_un (fun x => aF (FP.i2f (Int32.ofInt x)).toNat) pc ls st g m
  | .lcmp => match st with
    | .inr (.inr (.inl y)) :: .inr (.inr (.inl x)) :: st' => some (pc + 1, ls, aI (if wl x < wl y then -1 else if wl x = wl y then 0 else 1) :: st', g, m)
    | _ => none
  | .ddiv => match st with
    | .inr (.inr (.inr (.inr (.inl y)))) :: .inr (.inr (.inr (.inr (.inl x)))) :: st' => if FP.ddiv (am_d x) (am_d y) &&& 0x7fffffffffffffff ≤ 0x7ff0000000000000 then some (pc + 1, ls, aD (FP.ddiv (am_d x) (am_d y)).toNat :: st', g, m) else none
    | _ => none
  | .fdiv => match st with
    | .inr (.inr (.inr (.inl y))) :: .inr (.inr (.inr (.inl x))) :: st' => if FP.fdiv (am_f x) (am_f y) &&& 0x7fffffff ≤ 0x7f800000 then some (pc + 1, ls, aF (FP.fdiv (am_f x) (am_f y)).toNat :: st', g, m) else none
    | _ => none
  | .f2d => match st with
    | .inr (.inr (.inr (.inl x))) :: st' => if FP.f2d (am_f x) &&& 0x7fffffffffffffff ≤ 0x7ff0000000000000 then some (pc + 1, ls, aD (FP.f2d (am_f x)).toNat :: st', g, m) else none
    | _ => none
  | .dcmp o => match st with
    | .inr (.inr (.inr (.inr (.inl y)))) :: .inr (.inr (.inr (.inr (.inl x)))) :: st' => some (pc + 1, ls, aI (Op.cmpValue (FP.dcmp (am_d x) (am_d y)) o).toInt :: st', g, m)
    | _ => none
  | .fcmp o => match st with
    | .inr (.inr (.inr (.inl y))) :: .inr (.inr (.inr (.inl x))) :: st' => some (pc + 1, ls, aI (Op.cmpValue (FP.fcmp (am_f x) (am_f y)) o).toInt :: st', g, m)
    | _ => none
  | .dup => match st with
    | v :: st' => if am_cat v = 1 then some (pc + 1, ls, v :: v :: st', g, m) else none
    | _ => none
  | .pop => match st with
    | v :: st' => if am_cat v = 1 then some (pc + 1, ls, st', g, m) else none
    | _ => none
  | .dup2 => match st with
    | v :: w :: st' => if am_cat v = 1 ∧ am_cat w = 1 then some (pc + 1, ls, v :: w :: v :: w :: st', g, m) else none
    | _ => none
  | .ifCond o off => match st with
    | .inl x :: st' => am_if (am_cmp o x 0) pc off ls st' g m
    | _ => none
  | .if_icmp o off => match st with
    | .inl y :: .inl x :: st' => am_if (am_cmp o x y) pc off ls st' g m
    | _ => none
  | .goto off => am_jmp pc off ls st g m
  | .tableswitch dflt lo hi offs => match st with
    | .inl x :: st' => if wr x < lo ∨ hi < wr x then am_jmp pc dflt ls st' g m else match offs[(wr x - lo).toNat]? with
      | some off => am_jmp pc off ls st' g m
      | none => none
    | _ => none
  | .iaload => am_ald [20, 28] aI pc ls st g m
  | .baload => am_ald [21, 22, 27] aI pc ls st g m
  | .aaload => match st with
    | .inl i :: .inr (.inl a) :: st' => if gK g a ∈ [23, 24, 25, 26] ∧ 0 ≤ i ∧ i < gL g a then some (pc + 1, ls, aR (gR g a i) :: st', g, m) else none
    | _ => none
  | .arraylength => match st with
    | .inr (.inl a) :: st' => if gK g a ∈ [20, 21, 22, 23, 24, 25, 26, 27, 28] then some (pc + 1, ls, aI (gL g a) :: st', g, m) else none
    | _ => none
  | .iastore => match st with
    | .inl x :: .inl i :: .inr (.inl a) :: st' => if gK g a = 20 ∧ 0 ≤ i ∧ i < gL g a then some (pc + 1, ls, st', g, up2 m a i x) else none
    | _ => none
  | .bastore => match st with
    | .inl x :: .inl i :: .inr (.inl a) :: st' => if (gK g a = 21 ∨ gK g a = 22 ∧ (x = 0 ∨ x = 1)) ∧ 0 ≤ i ∧ i < gL g a then some (pc + 1, ls, st', g, up2 m a i (x.bmod 256)) else none
    | _ => none
  | .aastore => match st with
    | .inr (.inl r) :: .inl i :: .inr (.inl a) :: st' => if (gK g a = 26 ∧ gK g r = 5 ∨ gK g a = 25 ∧ gK g r = 20 ∨ gK g a = 23 ∧ gK g r = 16 ∨ gK g a = 24 ∧ gK g r = 15) ∧ 0 ≤ i ∧ i < gL g a then some (pc + 1, ls, st', (gN g, gS g, gK g, gL g, up2R (gR g) a i r), m) else none
    | _ => none
  | .getfield idx => am_getf mi pc idx ls st g m
  | .putfield idx => am_putf mi pc idx ls st g m
  | .getstatic idx => if am_oc mi = 14 ∧ idx = 38 ∨ am_oc mi = 24 ∧ idx = 18 then some (pc + 3, ls, aI 1 :: st, g, m) else if am_oc mi = 14 ∧ idx = 1053 then some (pc + 3, ls, aR 2 :: st, g, m) else if am_oc mi = 27 ∧ idx = 83 then some (pc + 3, ls, aR 50 :: st, g, m) else if am_oc mi = 27 ∧ idx = 87 then some (pc + 3, ls, aR 51 :: st, g, m) else none
  | .ldc idx => match am_ct (am_oc mi) idx with
    | some (_, x, _) => some (pc + 2, ls, aI x :: st, g, m)
    | none => match am_sr (am_oc mi) idx with
      | some (_, c, _) => some (pc + 2, ls, aR c :: st, g, m)
      | none => none
  | .ldc2_w idx => if am_oc mi = 13 ∧ idx = 133 then some (pc + 3, ls, aL (-99) :: st, g, m) else none
  | .ldc_w idx => match am_sr (am_oc mi) idx with
    | some (_, c, _) => some (pc + 3, ls, aR c :: st, g, m)
    | none => none
  | .newarray t => match st with
    | .inl n :: st' => if am_aat t ≠ 0 ∧ 0 ≤ n ∧ n ≤ 100000 then some (pc + 2, ls, aR (100 + gN g) :: st', am_alloc g (am_aat t) n.toNat n.toNat, am_zero g m) else none
    | _ => none
  | .anewarray idx => match st with
    | .inl n :: st' => match am_cs (am_oc mi) idx with
      | some (_, ci, _) => if am_aar ci ≠ 0 ∧ 0 ≤ n ∧ n ≤ 100000 then some (pc + 3, ls, aR (100 + gN g) :: st', am_alloc g (am_aar ci) n.toNat n.toNat, am_zero g m) else none
      | none => none
    | _ => none
  | .multianewarray idx dm => match st with
    | .inl k :: .inl n :: st' => match am_cs (am_oc mi) idx with
      | some (_, ci, _) => if ci = 25 ∧ dm = 2 ∧ 0 ≤ n ∧ n ≤ 100000 ∧ 0 ≤ k ∧ k ≤ 100000 then some (pc + 4, ls, aR (100 + gN g) :: st', am_multi g n.toNat k.toNat, am_zeros g m n.toNat) else none
      | none => none
    | _ => none
  | .new idx => match am_cs (am_oc mi) idx with
    | some (_, ci, _) => if am_ob ci then some (pc + 3, ls, aR (100 + gN g) :: st, am_alloc g ci 0 (am_inst.getD ci 0), am_zero g m) else none
    | none => none
  | .invokestatic idx => match am_ml (am_oc mi) idx with
    | some (_, 4, _) => am_cp pc ls st g m
    | some (_, 6, _) => am_mx pc ls st g m
    | some (_, 7, _) => am_mn pc ls st g m
    | _ => none
  | .invokespecial idx => match am_ml (am_oc mi) idx with
    | some (_, 5, _) => match st with
      | .inr (.inl a) :: st' => if am_ob (gK g a) ∧ (st'.map am_cat).sum ≤ 8 then some (pc + 3, ls, st', g, m) else none
      | _ => none
    | _ => none
  | _ => none
/-- what a method answers: its type keeps it as it is -/
def am_rok (mi : Nat) (x : Int) : Bool := match am_rt mi with
  | some .int => true
  | some .boolean => decide (x = 0) || decide (x = 1)
  | some .char => decide (0 ≤ x) && decide (x < 65536)
  | some .byte => decide (-128 ≤ x) && decide (x < 128)
  | _ => false
/-- new E; dup; ldc; E.<init>(text); athrow: the number of the exception's class -/
def am_exc (mi pc idx : Nat) : Option Nat := match am_cs (am_oc mi) idx with
  | some (_, ci, _) => if 10 ≤ ci then some ci else none
  | none => none
def am_exok (mi E is ic : Nat) : Bool := decide (am_oc mi = 0) && (decide (E = 10 ∧ ic = 101) || decide (E = 11 ∧ ic = 125) || decide (E = 12 ∧ ic = 348)) && (am_msgT.find? (fun q => q.1 == is)).isSome
def am_ret (mi pc : Nat) (i : Instr) (st : List AV) (g : AG) : Option (AO × AG) := match i with
  | .ireturn => match st with
    | [.inl x] => if am_rok mi x = true then some (.inl (some (aI x)), g) else none
    | _ => none
  | .areturn => match st with
    | [.inr (.inl r)] => match am_rt mi with
      | some (.object _) => some (.inl (some (aR r)), g)
      | some (.array _) => some (.inl (some (aR r)), g)
      | _ => none
    | _ => none
  | .lreturn => match st with
    | [.inr (.inr (.inl x))] => if am_rt mi = some .long then some (.inl (some (aL x)), g) else none
    | _ => none
  | .dreturn => match st with
    | [.inr (.inr (.inr (.inr (.inl x))))] => if am_rt mi = some .double then some (.inl (some (aD x)), g) else none
    | _ => none
  | .freturn => match st with
    | [.inr (.inr (.inr (.inl x)))] => if am_rt mi = some .float then some (.inl (some (aF x)), g) else none
    | _ => none
  | .return_ => match st with
    | [] => if am_rt mi = none then some (.inl none, g) else none
    | _ => none
  | _ => none
/-- an exception's making, whole: its class's link, its text's place, its constructor's place; wide: ldc_w -/
def am_thr (mi pc : Nat) : Option (Nat × Nat × Nat × Nat × Bool) := match am_ins mi pc with
  | some (.new ik) => match am_ins mi (pc + 4) with
    | some (.ldc is) => match am_ins mi (pc + 6) with
      | some (.invokespecial ic) => if am_ins mi (pc + 3) = some .dup ∧ am_ins mi (pc + 9) = some .athrow then some (ik, is, ic, 6, false) else none
      | _ => none
    | some (.ldc_w is) => match am_ins mi (pc + 7) with
      | some (.invokespecial ic) => if am_ins mi (pc + 3) = some .dup ∧ am_ins mi (pc + 10) = some .athrow then some (ik, is, ic, 7, true) else none
      | _ => none
    | _ => none
  | _ => none
def am_call (mi : Nat) (i : Instr) (st : List AV) (g : AG) : Option (Nat × List AV × List AV) := match i with
  | .invokevirtual idx => match am_ml (am_oc mi) idx with
    | some (_, 0, y, _) => match st.drop (am_na y) with
      | .inr (.inl a) :: rest => if (gK g a = am_oc y ∨ am_oc y = 14 ∧ gK g a = 19) ∧ (rest.map am_cat).sum ≤ 8 ∧ am_na y ≤ st.length ∧ ((st.take (am_na y)).map am_cat).sum = am_na y then some (y, aR a :: (st.take (am_na y)).reverse, rest) else none
      | _ => none
    | some (_, 8, y, _) => match st.drop (am_na y) with
      | .inr (.inl a) :: rest => if gK g a = 18 ∧ (rest.map am_cat).sum ≤ 8 ∧ am_na y ≤ st.length ∧ ((st.take (am_na y)).map am_cat).sum = am_na y then some (y, aR a :: (st.take (am_na y)).reverse, rest) else none
      | _ => none
    | _ => none
  | .invokestatic idx => match am_ml (am_oc mi) idx with
    | some (_, 1, y, _) => if ((st.drop (am_na y)).map am_cat).sum ≤ 8 ∧ am_na y ≤ st.length ∧ ((st.take (am_na y)).map am_cat).sum = am_na y then some (y, (st.take (am_na y)).reverse, st.drop (am_na y)) else none
    | _ => none
  | .invokespecial idx => match am_ml (am_oc mi) idx with
    | some (_, 2, y, _) => match st.drop (am_na y) with
      | .inr (.inl a) :: rest => if am_ob (gK g a) ∧ (rest.map am_cat).sum ≤ 8 ∧ am_na y ≤ st.length ∧ ((st.take (am_na y)).map am_cat).sum = am_na y then some (y, aR a :: (st.take (am_na y)).reverse, rest) else none
      | _ => none
    | some (_, 3, y, _) => match st.drop (am_na y) with
      | .inr (.inl a) :: rest => if am_ob (gK g a) ∧ (rest.map am_cat).sum ≤ 8 ∧ am_na y ≤ st.length ∧ ((st.take (am_na y)).map am_cat).sum = am_na y then some (y, aR a :: (st.take (am_na y)).reverse, rest) else none
      | _ => none
    | some (_, 10, y, _) => match st.drop (am_na y) with
      | .inr (.inl a) :: rest => if gK g a = 18 ∧ (rest.map am_cat).sum ≤ 8 ∧ am_na y ≤ st.length ∧ ((st.take (am_na y)).map am_cat).sum = am_na y then some (y, aR a :: (st.take (am_na y)).reverse, rest) else none
      | _ => none
    | _ => none
  | _ => none
/-- the handler that takes an exception of the class E here: it answers a number -/
def am_find (mi pc E : Nat) : List (Nat × Nat × Nat × Nat) → Option (Nat × Nat)
  | [] => none
  | (a, b, h, t) :: r => match am_cs (am_oc mi) t with
    | some (_, ci, _) => if a ≤ pc ∧ pc < b ∧ ci = E ∧ t ≠ 0 then some (h, t) else if (10 ≤ ci ∧ ci < 13) ∧ t ≠ 0 then am_find mi pc E r else none
    | none => none
def am_hret (mi h : Nat) : Option Int := match am_ins mi h with
  | some (.astore_n k) => match am_ins mi (h + 1) with
    | some (.iconst n) => if am_ins mi (h + 2) = some .ireturn ∧ (k : Nat) < am_nL mi ∧ am_rt mi = some .int then some n else none
    | _ => none
  | some (.astore k) => match am_ins mi (h + 2) with
    | some (.iconst n) => if am_ins mi (h + 3) = some .ireturn ∧ k < am_nL mi ∧ am_rt mi = some .int then some n else none
    | _ => none
  | _ => none
def am_pad (y : Nat) (as : List AV) : List AV := as ++ List.replicate (am_nL y - as.length) aU
def am_push (v : Option AV) (rest : List AV) : List AV := match v with
  | some v => v :: rest
  | none => rest
def am_exec : Nat → Nat → Nat → Nat → List AV → List AV → AG → AM → Option (AO × AG × AM)
  | 0, _, _, _, _, _, _, _ => none
  | f + 1, d, mi, pc, ls, st, g, m => match am_ins mi pc with
    | none => none
    | some i => match am_ret mi pc i st g with
      | some (o, g') => some (o, g', m)
      | none => match am_call mi i st g with
        | some (y, as, rest) => match d with
          | 0 => none
          | d' + 1 => if as.length ≤ am_nL y then (match am_exec f d' y 0 (am_pad y as) [] g m with
            | none => none
            | some (.inl v, g', m') => am_exec f (d' + 1) mi (pc + 3) ls (am_push v rest) g' m'
            | some (.inr E, g', m') => if am_hh mi = [] then some (.inr E, g', m') else match am_find mi pc E (am_hh mi) with
              | some (h, _) => (am_hret mi h).map (fun n => (.inl (some (aI n)), g', m'))
              | none => none) else none
        | none => match am_step mi pc i ls st g m with
          | some (pc', ls', st', g', m') => am_exec f d mi pc' ls' st' g' m'
          | none => match am_thr mi pc with
            | some (ik, is, ic, _) => match am_exc mi pc ik with
              | some E => if am_hh mi = [] ∧ (st.map am_cat).sum ≤ 8 ∧ am_exok mi E is ic = true then some (.inr E, am_alloc g 30 0 6, m) else none
              | none => none
            | none => none
end
section
/-! THE SMALL MACHINE AND THE MACHINE: numbers -/
theorem am_addI (x y : Int) : Int32.ofInt x + Int32.ofInt y = Int32.ofInt (x + y) := (Int32.ofInt_add x y).symm
theorem am_subI (x y : Int) : Int32.ofInt x - Int32.ofInt y = Int32.ofInt (x - y) := (Int32.ofInt_sub x y).symm
theorem am_mulI (x y : Int) : Int32.ofInt x * Int32.ofInt y = Int32.ofInt (x * y) := (Int32.ofInt_mul x y).symm
theorem am_toI (x : Int) : (Int32.ofInt x).toInt = wr x := by rw [Int32.toInt_ofInt]; rfl
theorem am_ofI (x : Int32) : Int32.ofInt x.toInt = x := Int32.ofInt_toInt x
theorem am_toL (x : Int) : (Int64.ofInt x).toInt = wl x := by rw [Int64.toInt_ofInt]; rfl
theorem am_ltI (x y : Int) : Int32.ofInt x < Int32.ofInt y ↔ wr x < wr y := by rw [Int32.lt_iff_toInt_lt, am_toI, am_toI]
theorem am_leI (x y : Int) : Int32.ofInt x ≤ Int32.ofInt y ↔ wr x ≤ wr y := by rw [Int32.le_iff_toInt_le, am_toI, am_toI]
theorem am_eqI (x y : Int) : Int32.ofInt x = Int32.ofInt y ↔ wr x = wr y := by rw [← Int32.toInt_inj, am_toI, am_toI]
theorem wr_id {x : Int} (h1 : -2147483648 ≤ x) (h2 : x < 2147483648) : wr x = x := by
  unfold wr
  exact Int.bmod_eq_of_le (by omega) (by omega)
theorem wr_rng (x : Int) : -2147483648 ≤ wr x ∧ wr x < 2147483648 := by
  unfold wr
  have h1 := Int.le_bmod (x := x) (m := 4294967296) (by decide)
  have h2 := Int.bmod_lt (x := x) (m := 4294967296) (by decide)
  omega
theorem am_0I : (0 : Int32) = Int32.ofInt 0 := by decide
theorem wr_0 : wr 0 = 0 := by decide
theorem am_litI (x : Int) (n : Int) : Int32.ofInt x = Int32.ofInt n ↔ wr x = wr n := am_eqI x n
theorem am_i8 (n : Int) : (Int8.ofInt n).toInt32 = Int32.ofInt (Int8.ofInt n).toInt := by
  rw [← Int32.toInt_inj, am_toI, Int8.toInt_toInt32, wr_id]
  · have := Int8.le_toInt (Int8.ofInt n); omega
  · have := Int8.toInt_lt (Int8.ofInt n); omega
theorem am_i16 (n : Int) : (Int16.ofInt n).toInt32 = Int32.ofInt (Int16.ofInt n).toInt := by
  rw [← Int32.toInt_inj, am_toI, Int16.toInt_toInt32, wr_id]
  · have := Int16.le_toInt (Int16.ofInt n); omega
  · have := Int16.toInt_lt (Int16.ofInt n); omega
theorem am_i2b (x : Int) : (Int32.ofInt x).toInt8.toInt32 = Int32.ofInt (x.bmod 256) := by
  rw [← Int32.toInt_inj, Int8.toInt_toInt32, Int32.toInt_toInt8, am_toI, am_toI]
  have e1 : (wr x).bmod (2 ^ 8) = x.bmod 256 := by
    unfold wr
    exact Int.bmod_bmod_of_dvd (by decide)
  have h1 := Int.le_bmod (x := x) (m := 256) (by decide)
  have h2 := Int.bmod_lt (x := x) (m := 256) (by decide)
  rw [e1, wr_id (x := x.bmod 256) (by omega) (by omega)]
theorem am_i2l (x : Int) : (Int32.ofInt x).toInt64 = Int64.ofInt (wr x) := by
  rw [← Int64.toInt_inj, Int32.toInt_toInt64, am_toL, am_toI]
  have := wr_rng x
  unfold wl
  exact (Int.bmod_eq_of_le (by omega) (by omega)).symm
theorem am_tmodb (a b : Int) (h : b ≠ 0) (ha : -2147483648 ≤ a ∧ a < 2147483648) (hb : -2147483648 ≤ b ∧ b < 2147483648) : -2147483648 ≤ a.tmod b ∧ a.tmod b < 2147483648 := by
  rcases Int.lt_or_gt_of_ne h with h0 | h0
  · have := tmod_bounds (a := a) (M := -b) (by omega)
    rw [Int.tmod_neg] at this
    omega
  · have := tmod_bounds (a := a) (M := b) (by omega)
    omega
theorem am_tmod (x y : Int) (h : wr y ≠ 0) : Int32.ofInt x - Int32.ofInt x / Int32.ofInt y * Int32.ofInt y = Int32.ofInt ((wr x).tmod (wr y)) := by
  have hb := am_tmodb (wr x) (wr y) h (wr_rng x) (wr_rng y)
  rw [← Int32.toInt_inj, rem_toInt, am_toI, am_toI, am_toI, wr_id (x := (wr x).tmod (wr y)) hb.1 hb.2]
theorem am_tdiv (x y : Int) : Int32.ofInt x / Int32.ofInt y = Int32.ofInt ((wr x).tdiv (wr y)) := by
  rw [← Int32.toInt_inj, Int32.toInt_div, am_toI, am_toI, am_toI]
  rfl
theorem am_i2c (x : Int) : ((Int32.ofInt x).toUInt32 % 65536).toInt32 = Int32.ofInt (x % 65536) := by
  rw [pk_char]
  unfold nI
  have e : (Int32.ofInt x).toBitVec.toNat = (x % 4294967296).toNat := by
    show (BitVec.ofInt 32 x).toNat = _
    rw [BitVec.toNat_ofInt]; rfl
  rw [e]
  have h1 : ((x % 4294967296).toNat % 65536 : Nat) = (x % 65536).toNat := by omega
  rw [h1]
  have h2 : (x % 65536) = (((x % 65536).toNat : Nat) : Int) := by omega
  rw [← Int32.toInt_inj, am_toI, h2]
  have h3 : (x % 65536).toNat < 65536 := by omega
  have := nI_toInt (n := (x % 65536).toNat) (by omega)
  unfold nI at this
  simp only [Int.toNat_natCast]
  rw [this, wr_id (by omega) (by omega)]
theorem am_lcmp (x y : Int) : lg_cmp (Int64.ofInt x) (Int64.ofInt y) = Int32.ofInt (if wl x < wl y then -1 else if wl x = wl y then 0 else 1) := by
  unfold lg_cmp
  have h1 : Int64.ofInt x > Int64.ofInt y ↔ wl y < wl x := by rw [gt_iff_lt, Int64.lt_iff_toInt_lt, am_toL, am_toL]
  have h2 : Int64.ofInt x = Int64.ofInt y ↔ wl x = wl y := by rw [← Int64.toInt_inj, am_toL, am_toL]
  by_cases a : wl y < wl x
  · rw [if_pos (h1.mpr a), if_neg (by omega), if_neg (by omega)]; decide
  · rw [if_neg (fun h => a (h1.mp h))]
    by_cases b : wl x = wl y
    · rw [if_pos (h2.mpr b), if_neg (by omega), if_pos b]; decide
    · rw [if_neg (fun h => b (h2.mp h)), if_pos (by omega)]; decide
theorem am_d64 (u : UInt64) : am_d (u.toNat : Int) = u := by unfold am_d; simp
theorem am_f32 (u : UInt32) : am_f (u.toNat : Int) = u := by unfold am_f; simp
end
section
/-! THE SMALL MACHINE AND THE MACHINE: what stands for what -/
/-- the law's start, the classes' numbers and slots, the arrays' classes, what the references below 100 are, the script -/
abbrev am_X : Type := State × va_G × (Nat → ClassId) × (Nat → Value) × Nat × (Nat → Int32)
def xS (X : am_X) : State := X.1
def xB (X : am_X) : Nat := X.1.heap.size
def xD (X : am_X) : va_G := X.2.1
def xA (X : am_X) : Nat → ClassId := X.2.2.1
def xP (X : am_X) : Nat → Value := X.2.2.2.1
def xL (X : am_X) : Nat := X.2.2.2.2.1
def xX (X : am_X) : Nat → Int32 := X.2.2.2.2.2
def xU (X : am_X) : Nat → Prop := fun q => xB X ≤ q
def am_aty (k : Nat) : FieldType := match k with
  | 20 => .int
  | 21 => .byte
  | 22 => .boolean
  | 23 => .object "RodYardLaw$Rod"
  | 24 => .object "RodYardLaw$Order"
  | 25 => .array .int
  | _ => .object "RodYard$State"
def am_tys (X : am_X) : List (ClassId × FieldType) := [(xA X 20, .int), (xA X 21, .byte), (xA X 22, .boolean), (xA X 23, .object "RodYardLaw$Rod"), (xA X 24, .object "RodYardLaw$Order"), (xA X 25, .array .int), (xA X 26, .object "RodYard$State")]
/-- what follows of the tables' words on private methods of the superclass -/
def am_sel2 : List Jvm.Cond := [.selects "java/lang/StringBuilder" ⟨"java/lang/AbstractStringBuilder", "ensureCapacityInternal", "(I)V"⟩ ⟨"java/lang/AbstractStringBuilder", "ensureCapacityInternal", "(I)V"⟩, .selects "java/lang/StringBuilder" ⟨"java/lang/AbstractStringBuilder", "newCapacity", "(I)I"⟩ ⟨"java/lang/AbstractStringBuilder", "newCapacity", "(I)I"⟩, .selects "java/lang/StringBuilder" ⟨"java/lang/AbstractStringBuilder", "putStringAt", "(ILjava/lang/String;)V"⟩ ⟨"java/lang/AbstractStringBuilder", "putStringAt", "(ILjava/lang/String;)V"⟩, .selects "java/lang/StringBuilder" ⟨"java/lang/AbstractStringBuilder", "inflateIfNeededFor", "(Ljava/lang/String;)V"⟩ ⟨"java/lang/AbstractStringBuilder", "inflateIfNeededFor", "(Ljava/lang/String;)V"⟩]
def am_tb2 : List Jvm.Cond := lw_tbl ++ am_sel2
def am_ws : List Jvm.Cond := am_tb2.filter goodWord
def am_msgs : List (String × Nat × String) := am_strs
def am_Str (X : am_X) (j a v : Nat) : Prop := xP X (10 + 2 * j) = .ref a ∧ xP X (11 + 2 * j) = .ref v ∧ va_O "java/lang/String" a (xU X) (xS X) (xS X).heap ∧ va_OF "java/lang/String" "coder" "B" (.int 0) a (xU X) (xS X) (xS X).heap ∧
  va_OF "java/lang/String" "value" "[B" (.ref v) a (xU X) (xS X) (xS X).heap ∧ va_T .byte v (am_txt.getD j []).length (fun i => .int (Int32.ofInt ((am_txt.getD j []).getD i 0))) (xU X) (xS X) (xS X).heap
def am_Gl (X : am_X) : Prop :=
  va_K (xD X) am_cl (am_tys X) (xS X) ∧
  (vx_Zq Bundle.tN "UNASSIGNED_STACK" Bundle.steD (xU X) (xS X) (xS X).heap ∧ vx_Zq Bundle.tN "SUPPRESSED_SENTINEL" Bundle.listD (xU X) (xS X) (xS X).heap) ∧
  (va_Z "java/lang/String" "COMPACT_STRINGS" "Z" (.int 1) (xU X) (xS X) (xS X).heap ∧ va_Z "jdk/internal/util/Preconditions" "SIOOBE_FORMATTER" "Ljava/util/function/BiFunction;" (xP X 2) (xU X) (xS X) (xS X).heap) ∧
  (∀ j, j < 16 → ∃ a v, am_Str X j a v) ∧
  (∃ b, xP X 1 = .ref b ∧ va_X b (xL X) (xX X) (xS X) (xS X).heap ∧ b < xB X ∧ xL X < 2147483648) ∧
  (∀ own is tx, Cond.stringRef own is tx ∈ tables_1 → ∃ sa, vk_R own is tx sa (xS X)) ∧
  (∀ j, j < 16 → vk_R (am_strs.getD j ("", 0, "")).1 (am_strs.getD j ("", 0, "")).2.1 (am_strs.getD j ("", 0, "")).2.2 (match xP X (10 + 2 * j) with | .ref a => a | _ => 0) (xS X)) ∧
  (∀ E T, 10 ≤ E → E < 13 → 10 ≤ T → T < 13 → E ≠ T → va_Nc (am_cn E) (am_cn T) (xS X)) ∧
  (∀ r, r < 100 → xP X r = .null ∨ ∃ a, xP X r = .ref a) ∧
  (∀ w ∈ lw_tbl, vx_ot w = true → w.before #[] (xS X) = true) ∧ (va_AO "RodYard$State" (xS X) ∧ va_AO "RodYardLaw$Rod" (xS X) ∧ va_AO "RodYardLaw$Order" (xS X)) ∧ (Cond.arrayOver (.array .int)).before #[] (xS X) = true ∧
  (∃ v, xP X 50 = .ref v ∧ va_Z "java/lang/Integer" "DigitOnes" "[B" (.ref v) (xU X) (xS X) (xS X).heap ∧ va_T .byte v 100 (fun i => .int (Int32.ofInt (48 + (i : Int) % 10))) (xU X) (xS X) (xS X).heap) ∧
  (∃ v, xP X 51 = .ref v ∧ va_Z "java/lang/Integer" "DigitTens" "[B" (.ref v) (xU X) (xS X) (xS X).heap ∧ va_T .byte v 100 (fun i => .int (Int32.ofInt (48 + (i : Int) / 10))) (xU X) (xS X) (xS X).heap)
def am_ad (X : am_X) (r : Nat) : Value := if r = 0 then .null else if r < 100 then xP X r else .ref (xB X + (r - 100))
def am_V (X : am_X) (v : AV) : Value := match v with
  | .inl x => .int (Int32.ofInt x)
  | .inr (.inl r) => am_ad X r
  | .inr (.inr (.inl x)) => .long (Int64.ofInt x)
  | .inr (.inr (.inr (.inl x))) => .float (am_f x)
  | .inr (.inr (.inr (.inr (.inl x)))) => .double (am_d x)
  | .inr (.inr (.inr (.inr (.inr _)))) => .null
def am_isU (v : AV) : Bool := match v with
  | .inr (.inr (.inr (.inr (.inr _)))) => true
  | _ => false
/-- the locals that hold something -/
def am_lv (X : am_X) (ls : List AV) : List (Nat × Value) := (ls.zipIdx.filter (fun q => !am_isU q.1)).map (fun q => (q.2, am_V X q.1))
def am_k0 (r : Nat) : Nat := if r = 1 then 28 else if 10 ≤ r ∧ r < 42 then (if r % 2 = 0 then 14 else 27) else if r = 50 ∨ r = 51 then 27 else 99
def am_fv (X : am_X) (g : AG) (M : AM) (r : Nat) : Nat → Value := fun k => if am_fkd (gK g r) k % 4 = 1 then am_ad X (gR g r k) else .int (Int32.ofInt (M r k))
def am_av (X : am_X) (g : AG) (M : AM) (r : Nat) : Nat → Value := fun j =>
  if gK g r < 23 then .int (Int32.ofInt (M r j)) else am_ad X (gR g r j)
def am_OK (X : am_X) (g : AG) (M : AM) (H : Heap) (r : Nat) : Prop :=
  (am_ob (gK g r) ∧ t_OB (xB X + (r - 100)) ((xD X).1 (gK g r)) (am_nf (gK g r)) ((xD X).2 (gK g r)) H (am_fv X g M r)) ∨
  (20 ≤ gK g r ∧ gK g r < 27 ∧ gL g r < 1000000 ∧ H[xB X + (r - 100)]? = some (arrV (xA X (gK g r)) (gL g r) (am_av X g M r)) ∧ (gK g r = 21 → ∀ j : Nat, j < gL g r → -128 ≤ M r j ∧ M r j < 128)) ∨ gK g r = 30
def am_Old (X : am_X) (g : AG) (M : AM) : Prop :=
  (∀ r, r < 100 → gK g r = am_k0 r) ∧ gL g 1 = xL X ∧ (∀ j : Nat, j < xL X → M 1 j = (xX X j).toInt) ∧
  (∀ j, j < 16 → gR g (10 + 2 * j) 0 = 11 + 2 * j ∧ gL g (11 + 2 * j) = (am_txt.getD j []).length ∧ ∀ i : Nat, i < (am_txt.getD j []).length → M (11 + 2 * j) i = (am_txt.getD j []).getD i 0) ∧
  (gL g 50 = 100 ∧ ∀ i : Nat, i < 100 → M 50 i = 48 + (i : Int) % 10) ∧ (gL g 51 = 100 ∧ ∀ i : Nat, i < 100 → M 51 i = 48 + (i : Int) / 10)
def am_Rel (X : am_X) (g : AG) (M : AM) (H : Heap) : Prop :=
  H.size = xB X + gN g ∧ (∀ q, q < xB X → H[q]? = (xS X).heap[q]?) ∧ am_Old X g M ∧ (∀ r, 100 + gN g ≤ r → gK g r = 99) ∧ (∀ r, 100 ≤ r → r < 100 + gN g → am_OK X g M H r)
def am_Fx (X : am_X) (p : Program) (l : Launch) (s : State) (m : MethodId) (args : Array Value) (meth : Method) (c : Code) (mi : Nat) : Prop :=
  p.tables.exec = Jvm.exec ∧ c.code = am_code mi ∧ c.maxLocals = am_nL mi ∧ s.vm.findClass (am_own mi) = some m.cls ∧ (∀ w ∈ am_ws, w.before args s = true) ∧ meth.sig.returnType = am_rt mi ∧ meth.locks = false ∧
  c.exceptionTable.toList = tableOf (am_hh mi) ∧ meth.name = (am_name mi).name ∧ l.stackTraces = false ∧ (xS X).WarmedH s.vm ∧ xB X ≤ s.heap.size ∧ (∀ q, q < xB X → s.heap[q]? = (xS X).heap[q]?)
theorem am_dec {mi pc : Nat} {i : Instr} (h : am_ins mi pc = some i) (hn : am_isw i = false) : decode (am_code mi) pc = .ok (i, am_len i) := by
  unfold am_ins at h
  split at h
  · next i' n e =>
    split at h
    · next hc =>
      cases h
      rw [hn] at hc
      have : n = am_len i := by simpa using hc
      rw [e, this]
    · cases h
  · cases h
theorem am_decS {mi pc : Nat} {dflt lo hi : Int} {offs : Array Int} (h : am_ins mi pc = some (.tableswitch dflt lo hi offs)) : ∃ n, decode (am_code mi) pc = .ok (.tableswitch dflt lo hi offs, n) := by
  unfold am_ins at h
  split at h
  · next i' n e =>
    split at h
    · cases h; exact ⟨n, e⟩
    · cases h
  · cases h
theorem am_catV (X : am_X) (hG : am_Gl X) (v : AV) : (am_V X v).category = am_cat v := by
  have hr := hG.2.2.2.2.2.2.2.2.1
  rcases v with x | r | x | x | x | x
  · rfl
  · show (am_ad X r).category = 1
    unfold am_ad
    split
    · rfl
    · split
      · next h1 h2 =>
        rcases hr r h2 with h | ⟨a, h⟩ <;> rw [h] <;> rfl
      · rfl
  all_goals rfl
theorem am_adcase (X : am_X) (hG : am_Gl X) (r : Nat) : am_ad X r = .null ∨ ∃ a, am_ad X r = .ref a := by
  have hr := hG.2.2.2.2.2.2.2.2.1
  unfold am_ad
  split
  · exact Or.inl rfl
  · split
    · next h1 h2 => exact hr r h2
    · exact Or.inr ⟨_, rfl⟩
theorem am_lv_in {X : am_X} {ls : List AV} {i : Nat} {v : AV} (h : ls[i]? = some v) (hu : am_isU v = false) : (i, am_V X v) ∈ am_lv X ls := by
  unfold am_lv
  refine List.mem_map.mpr ⟨(v, i), List.mem_filter.mpr ⟨?_, by rw [hu]; rfl⟩, rfl⟩
  exact List.mem_zipIdx_iff_getElem?.mpr h
theorem am_lv_out {X : am_X} {ls : List AV} {q : Nat × Value} (h : q ∈ am_lv X ls) : ∃ v, ls[q.1]? = some v ∧ am_isU v = false ∧ q.2 = am_V X v := by
  unfold am_lv at h
  obtain ⟨⟨v, i⟩, h1, rfl⟩ := List.mem_map.mp h
  obtain ⟨h2, h3⟩ := List.mem_filter.mp h1
  exact ⟨v, List.mem_zipIdx_iff_getElem?.mp h2, by simpa using h3, rfl⟩
theorem am_lat {X : am_X} {ls : List AV} {lsM : Array Slot} {nL i : Nat} {v : AV} (h : lv_has lsM nL (am_lv X ls)) (hv : ls[i]? = some v) (hu : am_isU v = false) : lsM[i]? = some (.val (am_V X v)) := h.2.2 _ (am_lv_in hv hu)
theorem am_lv_sub {X : am_X} {ls' : List AV} {lsM : Array Slot} {nL : Nat} {l : List (Nat × Value)} (h : lv_has lsM nL l) (hs : ∀ i v, ls'[i]? = some v → am_isU v = false → (i, am_V X v) ∈ l) : lv_has lsM nL (am_lv X ls') := by
  refine ⟨h.1, h.2.1, fun q hq => h.2.2 q ?_⟩
  obtain ⟨v, h1, h2, h3⟩ := am_lv_out hq
  have := hs q.1 v h1 h2
  rw [← h3] at this
  exact this
theorem am_st1_len (ls : List AV) (k : Nat) (v : AV) : (am_st1 ls k v).length = ls.length := by
  unfold am_st1 am_st0
  cases k with
  | zero => simp
  | succ j => dsimp only; split <;> simp
theorem am_st1_get {ls : List AV} {k i : Nat} {v w : AV} (h : (am_st1 ls k v)[i]? = some w) (hu : am_isU w = false) : (i = k ∧ w = v) ∨ (i ≠ k ∧ ls[i]? = some w ∧ ¬ (i + 1 = k ∧ am_cat w = 2)) := by
  unfold am_st1 at h
  by_cases hk : k = i
  · generalize am_st0 ls k = l1 at h
    rw [List.getElem?_set, if_pos hk] at h
    by_cases hl : k < l1.length
    · rw [if_pos hl] at h
      cases h; exact Or.inl ⟨hk.symm, rfl⟩
    · rw [if_neg hl] at h; cases h
  · rw [List.getElem?_set, if_neg hk] at h
    refine Or.inr ⟨fun e => hk e.symm, ?_⟩
    cases k with
    | zero => exact ⟨h, fun e => by omega⟩
    | succ j =>
      unfold am_st0 at h
      dsimp only at h
      split at h
      · next hc =>
        rw [List.getElem?_set] at h
        by_cases hj : j = i
        · rw [if_pos hj] at h
          split at h
          · cases h; cases hu
          · cases h
        · rw [if_neg hj] at h
          exact ⟨h, fun e => hj (by omega)⟩
      · next hc =>
        refine ⟨h, fun e => hc ?_⟩
        have hj : j = i := by omega
        subst hj
        rw [h]
        show (am_cat w == 2) = true
        rw [e.2]; rfl
theorem am_lv_st1 {X : am_X} (hG : am_Gl X) {ls : List AV} {lsM : Array Slot} {nL k : Nat} {v : AV} (h : lv_has lsM nL ((k, am_V X v) :: (am_lv X ls).filter (fun q => !(q.1 == k) && !(q.1 + 1 == k && q.2.category == 2)))) : lv_has lsM nL (am_lv X (am_st1 ls k v)) := by
  refine am_lv_sub h fun i w hw hu => ?_
  rcases am_st1_get hw hu with ⟨rfl, rfl⟩ | ⟨h1, h2, h3⟩
  · exact List.mem_cons_self
  · refine List.mem_cons_of_mem _ (List.mem_filter.mpr ⟨am_lv_in h2 hu, ?_⟩)
    simp only [am_catV X hG]
    simp [h1, h3]
    omega
theorem am_lv_st2 {X : am_X} (hG : am_Gl X) {ls : List AV} {lsM : Array Slot} {nL k : Nat} {v : AV} (h : lv_has lsM nL ((k, am_V X v) :: (am_lv X ls).filter (fun q => !(q.1 == k) && (!(q.1 == k + 1) && !(q.1 + 1 == k && q.2.category == 2))))) : lv_has lsM nL (am_lv X (am_st2 ls k v)) := by
  refine am_lv_sub h fun i w hw hu => ?_
  unfold am_st2 at hw
  rw [List.getElem?_set] at hw
  by_cases hk : k + 1 = i
  · rw [if_pos hk] at hw
    split at hw
    · cases hw; cases hu
    · cases hw
  rw [if_neg hk] at hw
  rcases am_st1_get hw hu with ⟨rfl, rfl⟩ | ⟨h1, h2, h3⟩
  · exact List.mem_cons_self
  · refine List.mem_cons_of_mem _ (List.mem_filter.mpr ⟨am_lv_in h2 hu, ?_⟩)
    simp only [am_catV X hG]
    simp [h1, Ne.symm hk]
    omega
end
section
section SIM
variable {p : Program} {l : Launch} {e : Env} {R : Room} {s : State} {m : MethodId} {args : Array Value} {below : List Frame} {meth : Method} {c : Code} {H : Heap} {locs : List Loc} {cells slots : Nat} {Q : State → Prop}
variable {X : am_X} {mi pc pc' : Nat} {ls ls' st st' : List AV} {g g' : AG} {M M' : AM} {lsM : Array Slot}
/-- how it goes on behind a step -/
def am_KK (X : am_X) (p : Program) (l : Launch) (e : Env) (R : Room) (s : State) (m : MethodId) (args : Array Value) (below : List Frame) (meth : Method) (c : Code) (cells slots : Nat) (Q : State → Prop) (mi : Nat) (g : AG) (pc' : Nat) (ls' st' : List AV) (g' : AG) (M' : AM) : Prop :=
  ∀ (H' : Heap) (lsM' : Array Slot) (locs' : List Loc) (cells' slots' : Nat), cells' + gN g = cells + gN g' → slots' + gS g = slots + gS g' → am_Rel X g' M' H' → lv_has lsM' (am_nL mi) (am_lv X ls') → ls'.length = am_nL mi → (∀ q ∈ locs', xB X ≤ q.base) →
    W p l e R s m args below meth c H' locs' cells' slots' Q (F0 m pc' lsM' (st'.map (am_V X)))
theorem am_s_iconst (hG : am_Gl X) (hF : am_Fx X p l s m args meth c mi) (hR : am_Rel X g M H) (hl : lv_has lsM (am_nL mi) (am_lv X ls)) (hn : ls.length = am_nL mi) (hq : ∀ q ∈ locs, xB X ≤ q.base) {n : Int}
    (hi : am_ins mi pc = some (.iconst n)) (h : am_step mi pc (.iconst n) ls st g M = some (pc', ls', st', g', M')) (kk : am_KK X p l e R s m args below meth c cells slots Q mi g pc' ls' st' g' M') :
    W p l e R s m args below meth c H locs cells slots Q (F0 m pc lsM (st.map (am_V X))) := by
  obtain ⟨hx, hb, hml, hown, hts, -⟩ := hF
  dsimp only [am_step] at h
  simp only [Option.some.injEq, Prod.mk.injEq] at h
  obtain ⟨rfl, rfl, rfl, rfl, rfl⟩ := h
  exact lv_iconst hx hb (am_dec hi rfl) rfl (kk H lsM locs cells slots rfl rfl hR hl hn hq)
theorem am_s_bipush (hG : am_Gl X) (hF : am_Fx X p l s m args meth c mi) (hR : am_Rel X g M H) (hl : lv_has lsM (am_nL mi) (am_lv X ls)) (hn : ls.length = am_nL mi) (hq : ∀ q ∈ locs, xB X ≤ q.base) {n : Int}
    (hi : am_ins mi pc = some (.bipush n)) (h : am_step mi pc (.bipush n) ls st g M = some (pc', ls', st', g', M')) (kk : am_KK X p l e R s m args below meth c cells slots Q mi g pc' ls' st' g' M') :
    W p l e R s m args below meth c H locs cells slots Q (F0 m pc lsM (st.map (am_V X))) := by
  obtain ⟨hx, hb, hml, hown, hts, -⟩ := hF
  dsimp only [am_step] at h
  simp only [Option.some.injEq, Prod.mk.injEq] at h
  obtain ⟨rfl, rfl, rfl, rfl, rfl⟩ := h
  exact lv_bipush hx hb (am_dec hi rfl) (am_i8 n) (kk H lsM locs cells slots rfl rfl hR hl hn hq)
theorem am_s_sipush (hG : am_Gl X) (hF : am_Fx X p l s m args meth c mi) (hR : am_Rel X g M H) (hl : lv_has lsM (am_nL mi) (am_lv X ls)) (hn : ls.length = am_nL mi) (hq : ∀ q ∈ locs, xB X ≤ q.base) {n : Int}
    (hi : am_ins mi pc = some (.sipush n)) (h : am_step mi pc (.sipush n) ls st g M = some (pc', ls', st', g', M')) (kk : am_KK X p l e R s m args below meth c cells slots Q mi g pc' ls' st' g' M') :
    W p l e R s m args below meth c H locs cells slots Q (F0 m pc lsM (st.map (am_V X))) := by
  obtain ⟨hx, hb, hml, hown, hts, -⟩ := hF
  dsimp only [am_step] at h
  simp only [Option.some.injEq, Prod.mk.injEq] at h
  obtain ⟨rfl, rfl, rfl, rfl, rfl⟩ := h
  exact lv_sipush hx hb (am_dec hi rfl) (am_i16 n) (kk H lsM locs cells slots rfl rfl hR hl hn hq)
theorem am_s_lconst (hG : am_Gl X) (hF : am_Fx X p l s m args meth c mi) (hR : am_Rel X g M H) (hl : lv_has lsM (am_nL mi) (am_lv X ls)) (hn : ls.length = am_nL mi) (hq : ∀ q ∈ locs, xB X ≤ q.base) {n : Fin 2}
    (hi : am_ins mi pc = some (.lconst n)) (h : am_step mi pc (.lconst n) ls st g M = some (pc', ls', st', g', M')) (kk : am_KK X p l e R s m args below meth c cells slots Q mi g pc' ls' st' g' M') :
    W p l e R s m args below meth c H locs cells slots Q (F0 m pc lsM (st.map (am_V X))) := by
  obtain ⟨hx, hb, hml, hown, hts, -⟩ := hF
  dsimp only [am_step] at h
  simp only [Option.some.injEq, Prod.mk.injEq] at h
  obtain ⟨rfl, rfl, rfl, rfl, rfl⟩ := h
  exact lv_lconst hx hb (am_dec hi rfl) (by match n with | 0 => rfl | 1 => rfl) (kk H lsM locs cells slots rfl rfl hR hl hn hq)
theorem am_s_fconst (hG : am_Gl X) (hF : am_Fx X p l s m args meth c mi) (hR : am_Rel X g M H) (hl : lv_has lsM (am_nL mi) (am_lv X ls)) (hn : ls.length = am_nL mi) (hq : ∀ q ∈ locs, xB X ≤ q.base) {n : Fin 3}
    (hi : am_ins mi pc = some (.fconst n)) (h : am_step mi pc (.fconst n) ls st g M = some (pc', ls', st', g', M')) (kk : am_KK X p l e R s m args below meth c cells slots Q mi g pc' ls' st' g' M') :
    W p l e R s m args below meth c H locs cells slots Q (F0 m pc lsM (st.map (am_V X))) := by
  obtain ⟨hx, hb, hml, hown, hts, -⟩ := hF
  dsimp only [am_step] at h
  split at h
  · next h0 =>
    subst h0
    simp only [Option.some.injEq, Prod.mk.injEq] at h
    obtain ⟨rfl, rfl, rfl, rfl, rfl⟩ := h
    refine lv_fconst0 hx hb (am_dec hi rfl) ?_
    have k := kk H lsM locs cells slots rfl rfl hR hl hn hq
    have e1 : am_V X (aF (FP.fconst0.toNat : Int)) = .float FP.fconst0 := by show Value.float (am_f _) = _; rw [am_f32]
    rw [List.map_cons, e1] at k
    exact k
  · cases h
theorem am_s_dconst (hG : am_Gl X) (hF : am_Fx X p l s m args meth c mi) (hR : am_Rel X g M H) (hl : lv_has lsM (am_nL mi) (am_lv X ls)) (hn : ls.length = am_nL mi) (hq : ∀ q ∈ locs, xB X ≤ q.base) {n : Fin 2}
    (hi : am_ins mi pc = some (.dconst n)) (h : am_step mi pc (.dconst n) ls st g M = some (pc', ls', st', g', M')) (kk : am_KK X p l e R s m args below meth c cells slots Q mi g pc' ls' st' g' M') :
    W p l e R s m args below meth c H locs cells slots Q (F0 m pc lsM (st.map (am_V X))) := by
  obtain ⟨hx, hb, hml, hown, hts, -⟩ := hF
  dsimp only [am_step] at h
  split at h
  · next h0 =>
    subst h0
    simp only [Option.some.injEq, Prod.mk.injEq] at h
    obtain ⟨rfl, rfl, rfl, rfl, rfl⟩ := h
    refine lv_dconst0 hx hb (am_dec hi rfl) ?_
    have k := kk H lsM locs cells slots rfl rfl hR hl hn hq
    have e1 : am_V X (aD (FP.dconst0.toNat : Int)) = .double FP.dconst0 := by show Value.double (am_d _) = _; rw [am_d64]
    rw [List.map_cons, e1] at k
    exact k
  · cases h
theorem am_s_iload (hG : am_Gl X) (hF : am_Fx X p l s m args meth c mi) (hR : am_Rel X g M H) (hl : lv_has lsM (am_nL mi) (am_lv X ls)) (hn : ls.length = am_nL mi) (hq : ∀ q ∈ locs, xB X ≤ q.base) {k : Nat}
    (hi : am_ins mi pc = some (.iload k)) (h : am_step mi pc (.iload k) ls st g M = some (pc', ls', st', g', M')) (kk : am_KK X p l e R s m args below meth c cells slots Q mi g pc' ls' st' g' M') :
    W p l e R s m args below meth c H locs cells slots Q (F0 m pc lsM (st.map (am_V X))) := by
  obtain ⟨hx, hb, hml, hown, hts, -⟩ := hF
  dsimp only [am_step, am_ldI] at h
  split at h
  · next x e1 =>
    simp only [Option.some.injEq, Prod.mk.injEq] at h
    obtain ⟨rfl, rfl, rfl, rfl, rfl⟩ := h
    exact lv_iload hx hb (am_dec hi rfl) (am_lat hl e1 rfl) (kk H lsM locs cells slots rfl rfl hR hl hn hq)
  · cases h
theorem am_s_iload_n (hG : am_Gl X) (hF : am_Fx X p l s m args meth c mi) (hR : am_Rel X g M H) (hl : lv_has lsM (am_nL mi) (am_lv X ls)) (hn : ls.length = am_nL mi) (hq : ∀ q ∈ locs, xB X ≤ q.base) {k : Fin 4}
    (hi : am_ins mi pc = some (.iload_n k)) (h : am_step mi pc (.iload_n k) ls st g M = some (pc', ls', st', g', M')) (kk : am_KK X p l e R s m args below meth c cells slots Q mi g pc' ls' st' g' M') :
    W p l e R s m args below meth c H locs cells slots Q (F0 m pc lsM (st.map (am_V X))) := by
  obtain ⟨hx, hb, hml, hown, hts, -⟩ := hF
  dsimp only [am_step, am_ldI] at h
  split at h
  · next x e1 =>
    simp only [Option.some.injEq, Prod.mk.injEq] at h
    obtain ⟨rfl, rfl, rfl, rfl, rfl⟩ := h
    exact lv_iload_n hx hb (am_dec hi rfl) rfl (am_lat hl e1 rfl) (kk H lsM locs cells slots rfl rfl hR hl hn hq)
  · cases h
theorem am_s_fload (hG : am_Gl X) (hF : am_Fx X p l s m args meth c mi) (hR : am_Rel X g M H) (hl : lv_has lsM (am_nL mi) (am_lv X ls)) (hn : ls.length = am_nL mi) (hq : ∀ q ∈ locs, xB X ≤ q.base) {k : Nat}
    (hi : am_ins mi pc = some (.fload k)) (h : am_step mi pc (.fload k) ls st g M = some (pc', ls', st', g', M')) (kk : am_KK X p l e R s m args below meth c cells slots Q mi g pc' ls' st' g' M') :
    W p l e R s m args below meth c H locs cells slots Q (F0 m pc lsM (st.map (am_V X))) := by
  obtain ⟨hx, hb, hml, hown, hts, -⟩ := hF
  dsimp only [am_step, am_ldF] at h
  split at h
  · next x e1 =>
    simp only [Option.some.injEq, Prod.mk.injEq] at h
    obtain ⟨rfl, rfl, rfl, rfl, rfl⟩ := h
    exact lv_fload hx hb (am_dec hi rfl) (am_lat hl e1 rfl) (kk H lsM locs cells slots rfl rfl hR hl hn hq)
  · cases h
theorem am_s_dload (hG : am_Gl X) (hF : am_Fx X p l s m args meth c mi) (hR : am_Rel X g M H) (hl : lv_has lsM (am_nL mi) (am_lv X ls)) (hn : ls.length = am_nL mi) (hq : ∀ q ∈ locs, xB X ≤ q.base) {k : Nat}
    (hi : am_ins mi pc = some (.dload k)) (h : am_step mi pc (.dload k) ls st g M = some (pc', ls', st', g', M')) (kk : am_KK X p l e R s m args below meth c cells slots Q mi g pc' ls' st' g' M') :
    W p l e R s m args below meth c H locs cells slots Q (F0 m pc lsM (st.map (am_V X))) := by
  obtain ⟨hx, hb, hml, hown, hts, -⟩ := hF
  dsimp only [am_step, am_ldD] at h
  split at h
  · next x e1 =>
    simp only [Option.some.injEq, Prod.mk.injEq] at h
    obtain ⟨rfl, rfl, rfl, rfl, rfl⟩ := h
    exact lv_dload hx hb (am_dec hi rfl) (am_lat hl e1 rfl) (kk H lsM locs cells slots rfl rfl hR hl hn hq)
  · cases h
theorem am_s_aload (hG : am_Gl X) (hF : am_Fx X p l s m args meth c mi) (hR : am_Rel X g M H) (hl : lv_has lsM (am_nL mi) (am_lv X ls)) (hn : ls.length = am_nL mi) (hq : ∀ q ∈ locs, xB X ≤ q.base) {k : Nat}
    (hi : am_ins mi pc = some (.aload k)) (h : am_step mi pc (.aload k) ls st g M = some (pc', ls', st', g', M')) (kk : am_KK X p l e R s m args below meth c cells slots Q mi g pc' ls' st' g' M') :
    W p l e R s m args below meth c H locs cells slots Q (F0 m pc lsM (st.map (am_V X))) := by
  obtain ⟨hx, hb, hml, hown, hts, -⟩ := hF
  dsimp only [am_step, am_ldA] at h
  split at h
  · next x e1 =>
    simp only [Option.some.injEq, Prod.mk.injEq] at h
    obtain ⟨rfl, rfl, rfl, rfl, rfl⟩ := h
    have h1 : lsM[k]? = some (.val (am_ad X x)) := am_lat hl e1 rfl
    have k9 := kk H lsM locs cells slots rfl rfl hR hl hn hq
    rw [List.map_cons, show am_V X (aR x) = am_ad X x from rfl] at k9
    rcases am_adcase X hG x with h2 | ⟨a, h2⟩
    · rw [h2] at h1 k9
      exact lv_aloadN hx hb (am_dec hi rfl) h1 k9
    · rw [h2] at h1 k9
      exact lv_aload hx hb (am_dec hi rfl) h1 k9
  · cases h
theorem am_s_aload_n (hG : am_Gl X) (hF : am_Fx X p l s m args meth c mi) (hR : am_Rel X g M H) (hl : lv_has lsM (am_nL mi) (am_lv X ls)) (hn : ls.length = am_nL mi) (hq : ∀ q ∈ locs, xB X ≤ q.base) {k : Fin 4}
    (hi : am_ins mi pc = some (.aload_n k)) (h : am_step mi pc (.aload_n k) ls st g M = some (pc', ls', st', g', M')) (kk : am_KK X p l e R s m args below meth c cells slots Q mi g pc' ls' st' g' M') :
    W p l e R s m args below meth c H locs cells slots Q (F0 m pc lsM (st.map (am_V X))) := by
  obtain ⟨hx, hb, hml, hown, hts, -⟩ := hF
  dsimp only [am_step, am_ldA] at h
  split at h
  · next x e1 =>
    simp only [Option.some.injEq, Prod.mk.injEq] at h
    obtain ⟨rfl, rfl, rfl, rfl, rfl⟩ := h
    have h1 : lsM[(k : Nat)]? = some (.val (am_ad X x)) := am_lat hl e1 rfl
    have k9 := kk H lsM locs cells slots rfl rfl hR hl hn hq
    rw [List.map_cons, show am_V X (aR x) = am_ad X x from rfl] at k9
    rcases am_adcase X hG x with h2 | ⟨a, h2⟩
    · rw [h2] at h1 k9
      exact lv_aload_nN hx hb (am_dec hi rfl) rfl h1 k9
    · rw [h2] at h1 k9
      exact lv_aload_n hx hb (am_dec hi rfl) rfl h1 k9
  · cases h
theorem am_s_istore (hG : am_Gl X) (hF : am_Fx X p l s m args meth c mi) (hR : am_Rel X g M H) (hl : lv_has lsM (am_nL mi) (am_lv X ls)) (hn : ls.length = am_nL mi) (hq : ∀ q ∈ locs, xB X ≤ q.base) {k : Nat}
    (hi : am_ins mi pc = some (.istore k)) (h : am_step mi pc (.istore k) ls st g M = some (pc', ls', st', g', M')) (kk : am_KK X p l e R s m args below meth c cells slots Q mi g pc' ls' st' g' M') :
    W p l e R s m args below meth c H locs cells slots Q (F0 m pc lsM (st.map (am_V X))) := by
  obtain ⟨hx, hb, hml, hown, hts, -⟩ := hF
  dsimp only [am_step, am_stI] at h
  split at h
  · next x st2 =>
    split at h
    · next hlt =>
      simp only [Option.some.injEq, Prod.mk.injEq] at h
      obtain ⟨rfl, rfl, rfl, rfl, rfl⟩ := h
      refine lv_istore hx hb (am_dec hi rfl) hl (by omega) rfl (fun ls2 h2 => ?_)
      exact kk H ls2 locs cells slots rfl rfl hR (am_lv_st1 hG h2) (by rw [am_st1_len]; exact hn) hq
    · cases h
  · cases h
theorem am_s_istore_n (hG : am_Gl X) (hF : am_Fx X p l s m args meth c mi) (hR : am_Rel X g M H) (hl : lv_has lsM (am_nL mi) (am_lv X ls)) (hn : ls.length = am_nL mi) (hq : ∀ q ∈ locs, xB X ≤ q.base) {k : Fin 4}
    (hi : am_ins mi pc = some (.istore_n k)) (h : am_step mi pc (.istore_n k) ls st g M = some (pc', ls', st', g', M')) (kk : am_KK X p l e R s m args below meth c cells slots Q mi g pc' ls' st' g' M') :
    W p l e R s m args below meth c H locs cells slots Q (F0 m pc lsM (st.map (am_V X))) := by
  obtain ⟨hx, hb, hml, hown, hts, -⟩ := hF
  dsimp only [am_step, am_stI] at h
  split at h
  · next x st2 =>
    split at h
    · next hlt =>
      simp only [Option.some.injEq, Prod.mk.injEq] at h
      obtain ⟨rfl, rfl, rfl, rfl, rfl⟩ := h
      refine lv_istore_n hx hb (am_dec hi rfl) rfl hl (by omega) rfl (fun ls2 h2 => ?_)
      exact kk H ls2 locs cells slots rfl rfl hR (am_lv_st1 hG h2) (by rw [am_st1_len]; exact hn) hq
    · cases h
  · cases h
theorem am_s_fstore (hG : am_Gl X) (hF : am_Fx X p l s m args meth c mi) (hR : am_Rel X g M H) (hl : lv_has lsM (am_nL mi) (am_lv X ls)) (hn : ls.length = am_nL mi) (hq : ∀ q ∈ locs, xB X ≤ q.base) {k : Nat}
    (hi : am_ins mi pc = some (.fstore k)) (h : am_step mi pc (.fstore k) ls st g M = some (pc', ls', st', g', M')) (kk : am_KK X p l e R s m args below meth c cells slots Q mi g pc' ls' st' g' M') :
    W p l e R s m args below meth c H locs cells slots Q (F0 m pc lsM (st.map (am_V X))) := by
  obtain ⟨hx, hb, hml, hown, hts, -⟩ := hF
  dsimp only [am_step, am_stF] at h
  split at h
  · next x st2 =>
    split at h
    · next hlt =>
      simp only [Option.some.injEq, Prod.mk.injEq] at h
      obtain ⟨rfl, rfl, rfl, rfl, rfl⟩ := h
      refine lv_fstore hx hb (am_dec hi rfl) hl (by omega) rfl (fun ls2 h2 => ?_)
      exact kk H ls2 locs cells slots rfl rfl hR (am_lv_st1 hG h2) (by rw [am_st1_len]; exact hn) hq
    · cases h
  · cases h
theorem am_s_dstore (hG : am_Gl X) (hF : am_Fx X p l s m args meth c mi) (hR : am_Rel X g M H) (hl : lv_has lsM (am_nL mi) (am_lv X ls)) (hn : ls.length = am_nL mi) (hq : ∀ q ∈ locs, xB X ≤ q.base) {k : Nat}
    (hi : am_ins mi pc = some (.dstore k)) (h : am_step mi pc (.dstore k) ls st g M = some (pc', ls', st', g', M')) (kk : am_KK X p l e R s m args below meth c cells slots Q mi g pc' ls' st' g' M') :
    W p l e R s m args below meth c H locs cells slots Q (F0 m pc lsM (st.map (am_V X))) := by
  obtain ⟨hx, hb, hml, hown, hts, -⟩ := hF
  dsimp only [am_step, am_stD] at h
  split at h
  · next x st2 =>
    split at h
    · next hlt =>
      simp only [Option.some.injEq, Prod.mk.injEq] at h
      obtain ⟨rfl, rfl, rfl, rfl, rfl⟩ := h
      refine lv_dstore hx hb (am_dec hi rfl) hl (by omega) rfl (fun ls2 h2 => ?_)
      exact kk H ls2 locs cells slots rfl rfl hR (am_lv_st2 hG h2) (by unfold am_st2; rw [List.length_set, am_st1_len]; exact hn) hq
    · cases h
  · cases h
theorem am_s_astore (hG : am_Gl X) (hF : am_Fx X p l s m args meth c mi) (hR : am_Rel X g M H) (hl : lv_has lsM (am_nL mi) (am_lv X ls)) (hn : ls.length = am_nL mi) (hq : ∀ q ∈ locs, xB X ≤ q.base) {k : Nat}
    (hi : am_ins mi pc = some (.astore k)) (h : am_step mi pc (.astore k) ls st g M = some (pc', ls', st', g', M')) (kk : am_KK X p l e R s m args below meth c cells slots Q mi g pc' ls' st' g' M') :
    W p l e R s m args below meth c H locs cells slots Q (F0 m pc lsM (st.map (am_V X))) := by
  obtain ⟨hx, hb, hml, hown, hts, -⟩ := hF
  dsimp only [am_step, am_stA] at h
  split at h
  · next x st2 =>
    split at h
    · next hlt =>
      simp only [Option.some.injEq, Prod.mk.injEq] at h
      obtain ⟨rfl, rfl, rfl, rfl, rfl⟩ := h
      have kk2 : ∀ ls2 : Array Slot, lv_has ls2 (am_nL mi) (((k : Nat), am_ad X x) :: (am_lv X ls).filter (fun q => !(q.1 == (k : Nat)) && !(q.1 + 1 == (k : Nat) && q.2.category == 2))) → W p l e R s m args below meth c H locs cells slots Q (F0 m _ ls2 (st2.map (am_V X))) := fun ls2 h2 => kk H ls2 locs cells slots rfl rfl hR (am_lv_st1 hG h2) (by rw [am_st1_len]; exact hn) hq
      rw [List.map_cons, show am_V X (aR x) = am_ad X x from rfl]
      rcases am_adcase X hG x with h3 | ⟨a, h3⟩
      · rw [h3] at kk2 ⊢
        exact lv_astoreN hx hb (am_dec hi rfl) hl (by omega) rfl kk2
      · rw [h3] at kk2 ⊢
        exact lv_astore hx hb (am_dec hi rfl) hl (by omega) rfl kk2
    · cases h
  · cases h
theorem am_s_astore_n (hG : am_Gl X) (hF : am_Fx X p l s m args meth c mi) (hR : am_Rel X g M H) (hl : lv_has lsM (am_nL mi) (am_lv X ls)) (hn : ls.length = am_nL mi) (hq : ∀ q ∈ locs, xB X ≤ q.base) {k : Fin 4}
    (hi : am_ins mi pc = some (.astore_n k)) (h : am_step mi pc (.astore_n k) ls st g M = some (pc', ls', st', g', M')) (kk : am_KK X p l e R s m args below meth c cells slots Q mi g pc' ls' st' g' M') :
    W p l e R s m args below meth c H locs cells slots Q (F0 m pc lsM (st.map (am_V X))) := by
  obtain ⟨hx, hb, hml, hown, hts, -⟩ := hF
  dsimp only [am_step, am_stA] at h
  split at h
  · next x st2 =>
    split at h
    · next hlt =>
      simp only [Option.some.injEq, Prod.mk.injEq] at h
      obtain ⟨rfl, rfl, rfl, rfl, rfl⟩ := h
      have kk2 : ∀ ls2 : Array Slot, lv_has ls2 (am_nL mi) (((k : Nat), am_ad X x) :: (am_lv X ls).filter (fun q => !(q.1 == (k : Nat)) && !(q.1 + 1 == (k : Nat) && q.2.category == 2))) → W p l e R s m args below meth c H locs cells slots Q (F0 m _ ls2 (st2.map (am_V X))) := fun ls2 h2 => kk H ls2 locs cells slots rfl rfl hR (am_lv_st1 hG h2) (by rw [am_st1_len]; exact hn) hq
      rw [List.map_cons, show am_V X (aR x) = am_ad X x from rfl]
      rcases am_adcase X hG x with h3 | ⟨a, h3⟩
      · rw [h3] at kk2 ⊢
        exact lv_astore_nN hx hb (am_dec hi rfl) rfl hl (by omega) rfl kk2
      · rw [h3] at kk2 ⊢
        exact lv_astore_n hx hb (am_dec hi rfl) rfl hl (by omega) rfl kk2
    · cases h
  · cases h
theorem am_s_iinc (hG : am_Gl X) (hF : am_Fx X p l s m args meth c mi) (hR : am_Rel X g M H) (hl : lv_has lsM (am_nL mi) (am_lv X ls)) (hn : ls.length = am_nL mi) (hq : ∀ q ∈ locs, xB X ≤ q.base) {k : Nat} {n : Int}
    (hi : am_ins mi pc = some (.iinc k n)) (h : am_step mi pc (.iinc k n) ls st g M = some (pc', ls', st', g', M')) (kk : am_KK X p l e R s m args below meth c cells slots Q mi g pc' ls' st' g' M') :
    W p l e R s m args below meth c H locs cells slots Q (F0 m pc lsM (st.map (am_V X))) := by
  obtain ⟨hx, hb, hml, hown, hts, -⟩ := hF
  dsimp only [am_step] at h
  split at h
  · next x e1 =>
    simp only [Option.some.injEq, Prod.mk.injEq] at h
    obtain ⟨rfl, rfl, rfl, rfl, rfl⟩ := h
    obtain ⟨j, hj⟩ := List.getElem?_of_mem (am_lv_in (X := X) e1 rfl)
    have hk : k < ls.length := (List.getElem?_eq_some_iff.mp e1).1
    refine lv_iinc hx hb (am_dec hi rfl) hl (k := j) hj (am_addI x n) (by omega) rfl (fun ls2 h2 => ?_)
    exact kk H ls2 locs cells slots rfl rfl hR (am_lv_st1 hG h2) (by rw [am_st1_len]; exact hn) hq
  · cases h
theorem am_s_iadd (hG : am_Gl X) (hF : am_Fx X p l s m args meth c mi) (hR : am_Rel X g M H) (hl : lv_has lsM (am_nL mi) (am_lv X ls)) (hn : ls.length = am_nL mi) (hq : ∀ q ∈ locs, xB X ≤ q.base)
    (hi : am_ins mi pc = some (.iadd)) (h : am_step mi pc (.iadd) ls st g M = some (pc', ls', st', g', M')) (kk : am_KK X p l e R s m args below meth c cells slots Q mi g pc' ls' st' g' M') :
    W p l e R s m args below meth c H locs cells slots Q (F0 m pc lsM (st.map (am_V X))) := by
  obtain ⟨hx, hb, hml, hown, hts, -⟩ := hF
  dsimp only [am_step, am_bin] at h
  split at h
  · next y x st2 =>
    simp only [Option.some.injEq, Prod.mk.injEq] at h
    obtain ⟨rfl, rfl, rfl, rfl, rfl⟩ := h
    refine lv_iadd hx hb (am_dec hi rfl) ?_
    have k9 := kk H lsM locs cells slots rfl rfl hR hl hn hq
    rw [List.map_cons, show am_V X (aI (x + y)) = .int (Int32.ofInt (x + y)) from rfl] at k9
    rw [am_addI]
    exact k9
  · cases h
theorem am_s_isub (hG : am_Gl X) (hF : am_Fx X p l s m args meth c mi) (hR : am_Rel X g M H) (hl : lv_has lsM (am_nL mi) (am_lv X ls)) (hn : ls.length = am_nL mi) (hq : ∀ q ∈ locs, xB X ≤ q.base)
    (hi : am_ins mi pc = some (.isub)) (h : am_step mi pc (.isub) ls st g M = some (pc', ls', st', g', M')) (kk : am_KK X p l e R s m args below meth c cells slots Q mi g pc' ls' st' g' M') :
    W p l e R s m args below meth c H locs cells slots Q (F0 m pc lsM (st.map (am_V X))) := by
  obtain ⟨hx, hb, hml, hown, hts, -⟩ := hF
  dsimp only [am_step, am_bin] at h
  split at h
  · next y x st2 =>
    simp only [Option.some.injEq, Prod.mk.injEq] at h
    obtain ⟨rfl, rfl, rfl, rfl, rfl⟩ := h
    refine lv_isub hx hb (am_dec hi rfl) ?_
    have k9 := kk H lsM locs cells slots rfl rfl hR hl hn hq
    rw [List.map_cons, show am_V X (aI (x - y)) = .int (Int32.ofInt (x - y)) from rfl] at k9
    rw [am_subI]
    exact k9
  · cases h
theorem am_s_imul (hG : am_Gl X) (hF : am_Fx X p l s m args meth c mi) (hR : am_Rel X g M H) (hl : lv_has lsM (am_nL mi) (am_lv X ls)) (hn : ls.length = am_nL mi) (hq : ∀ q ∈ locs, xB X ≤ q.base)
    (hi : am_ins mi pc = some (.imul)) (h : am_step mi pc (.imul) ls st g M = some (pc', ls', st', g', M')) (kk : am_KK X p l e R s m args below meth c cells slots Q mi g pc' ls' st' g' M') :
    W p l e R s m args below meth c H locs cells slots Q (F0 m pc lsM (st.map (am_V X))) := by
  obtain ⟨hx, hb, hml, hown, hts, -⟩ := hF
  dsimp only [am_step, am_bin] at h
  split at h
  · next y x st2 =>
    simp only [Option.some.injEq, Prod.mk.injEq] at h
    obtain ⟨rfl, rfl, rfl, rfl, rfl⟩ := h
    refine lv_imul hx hb (am_dec hi rfl) ?_
    have k9 := kk H lsM locs cells slots rfl rfl hR hl hn hq
    rw [List.map_cons, show am_V X (aI (x * y)) = .int (Int32.ofInt (x * y)) from rfl] at k9
    rw [am_mulI]
    exact k9
  · cases h
theorem am_s_iand (hG : am_Gl X) (hF : am_Fx X p l s m args meth c mi) (hR : am_Rel X g M H) (hl : lv_has lsM (am_nL mi) (am_lv X ls)) (hn : ls.length = am_nL mi) (hq : ∀ q ∈ locs, xB X ≤ q.base)
    (hi : am_ins mi pc = some (.iand)) (h : am_step mi pc (.iand) ls st g M = some (pc', ls', st', g', M')) (kk : am_KK X p l e R s m args below meth c cells slots Q mi g pc' ls' st' g' M') :
    W p l e R s m args below meth c H locs cells slots Q (F0 m pc lsM (st.map (am_V X))) := by
  obtain ⟨hx, hb, hml, hown, hts, -⟩ := hF
  dsimp only [am_step, am_bin] at h
  split at h
  · next y x st2 =>
    simp only [Option.some.injEq, Prod.mk.injEq] at h
    obtain ⟨rfl, rfl, rfl, rfl, rfl⟩ := h
    refine lv_iand hx hb (am_dec hi rfl) ?_
    have k9 := kk H lsM locs cells slots rfl rfl hR hl hn hq
    rw [List.map_cons, show am_V X (aI (am_and x y)) = .int (Int32.ofInt (am_and x y)) from rfl] at k9
    unfold am_and at k9; rw [am_ofI] at k9
    exact k9
  · cases h
theorem am_s_ior (hG : am_Gl X) (hF : am_Fx X p l s m args meth c mi) (hR : am_Rel X g M H) (hl : lv_has lsM (am_nL mi) (am_lv X ls)) (hn : ls.length = am_nL mi) (hq : ∀ q ∈ locs, xB X ≤ q.base)
    (hi : am_ins mi pc = some (.ior)) (h : am_step mi pc (.ior) ls st g M = some (pc', ls', st', g', M')) (kk : am_KK X p l e R s m args below meth c cells slots Q mi g pc' ls' st' g' M') :
    W p l e R s m args below meth c H locs cells slots Q (F0 m pc lsM (st.map (am_V X))) := by
  obtain ⟨hx, hb, hml, hown, hts, -⟩ := hF
  dsimp only [am_step, am_bin] at h
  split at h
  · next y x st2 =>
    simp only [Option.some.injEq, Prod.mk.injEq] at h
    obtain ⟨rfl, rfl, rfl, rfl, rfl⟩ := h
    refine lv_ior hx hb (am_dec hi rfl) ?_
    have k9 := kk H lsM locs cells slots rfl rfl hR hl hn hq
    rw [List.map_cons, show am_V X (aI (am_or x y)) = .int (Int32.ofInt (am_or x y)) from rfl] at k9
    unfold am_or at k9; rw [am_ofI] at k9
    exact k9
  · cases h
theorem am_s_ishl (hG : am_Gl X) (hF : am_Fx X p l s m args meth c mi) (hR : am_Rel X g M H) (hl : lv_has lsM (am_nL mi) (am_lv X ls)) (hn : ls.length = am_nL mi) (hq : ∀ q ∈ locs, xB X ≤ q.base)
    (hi : am_ins mi pc = some (.ishl)) (h : am_step mi pc (.ishl) ls st g M = some (pc', ls', st', g', M')) (kk : am_KK X p l e R s m args below meth c cells slots Q mi g pc' ls' st' g' M') :
    W p l e R s m args below meth c H locs cells slots Q (F0 m pc lsM (st.map (am_V X))) := by
  obtain ⟨hx, hb, hml, hown, hts, -⟩ := hF
  dsimp only [am_step, am_bin] at h
  split at h
  · next y x st2 =>
    simp only [Option.some.injEq, Prod.mk.injEq] at h
    obtain ⟨rfl, rfl, rfl, rfl, rfl⟩ := h
    refine lv_ishl hx hb (am_dec hi rfl) ?_
    have k9 := kk H lsM locs cells slots rfl rfl hR hl hn hq
    rw [List.map_cons, show am_V X (aI (am_shl x y)) = .int (Int32.ofInt (am_shl x y)) from rfl] at k9
    unfold am_shl at k9; rw [am_ofI] at k9
    exact k9
  · cases h
theorem am_s_ishr (hG : am_Gl X) (hF : am_Fx X p l s m args meth c mi) (hR : am_Rel X g M H) (hl : lv_has lsM (am_nL mi) (am_lv X ls)) (hn : ls.length = am_nL mi) (hq : ∀ q ∈ locs, xB X ≤ q.base)
    (hi : am_ins mi pc = some (.ishr)) (h : am_step mi pc (.ishr) ls st g M = some (pc', ls', st', g', M')) (kk : am_KK X p l e R s m args below meth c cells slots Q mi g pc' ls' st' g' M') :
    W p l e R s m args below meth c H locs cells slots Q (F0 m pc lsM (st.map (am_V X))) := by
  obtain ⟨hx, hb, hml, hown, hts, -⟩ := hF
  dsimp only [am_step, am_bin] at h
  split at h
  · next y x st2 =>
    simp only [Option.some.injEq, Prod.mk.injEq] at h
    obtain ⟨rfl, rfl, rfl, rfl, rfl⟩ := h
    refine lv_ishr hx hb (am_dec hi rfl) ?_
    have k9 := kk H lsM locs cells slots rfl rfl hR hl hn hq
    rw [List.map_cons, show am_V X (aI (am_shr x y)) = .int (Int32.ofInt (am_shr x y)) from rfl] at k9
    unfold am_shr at k9; rw [am_ofI] at k9
    exact k9
  · cases h
theorem am_s_iushr (hG : am_Gl X) (hF : am_Fx X p l s m args meth c mi) (hR : am_Rel X g M H) (hl : lv_has lsM (am_nL mi) (am_lv X ls)) (hn : ls.length = am_nL mi) (hq : ∀ q ∈ locs, xB X ≤ q.base)
    (hi : am_ins mi pc = some (.iushr)) (h : am_step mi pc (.iushr) ls st g M = some (pc', ls', st', g', M')) (kk : am_KK X p l e R s m args below meth c cells slots Q mi g pc' ls' st' g' M') :
    W p l e R s m args below meth c H locs cells slots Q (F0 m pc lsM (st.map (am_V X))) := by
  obtain ⟨hx, hb, hml, hown, hts, -⟩ := hF
  dsimp only [am_step, am_bin] at h
  split at h
  · next y x st2 =>
    simp only [Option.some.injEq, Prod.mk.injEq] at h
    obtain ⟨rfl, rfl, rfl, rfl, rfl⟩ := h
    refine lv_iushr hx hb (am_dec hi rfl) (v := Int32.ofInt (am_ushr x y)) (by unfold am_ushr; rw [am_ofI]) ?_
    have k9 := kk H lsM locs cells slots rfl rfl hR hl hn hq
    rw [List.map_cons, show am_V X (aI (am_ushr x y)) = .int (Int32.ofInt (am_ushr x y)) from rfl] at k9
    skip
    exact k9
  · cases h
theorem am_s_idiv (hG : am_Gl X) (hF : am_Fx X p l s m args meth c mi) (hR : am_Rel X g M H) (hl : lv_has lsM (am_nL mi) (am_lv X ls)) (hn : ls.length = am_nL mi) (hq : ∀ q ∈ locs, xB X ≤ q.base)
    (hi : am_ins mi pc = some (.idiv)) (h : am_step mi pc (.idiv) ls st g M = some (pc', ls', st', g', M')) (kk : am_KK X p l e R s m args below meth c cells slots Q mi g pc' ls' st' g' M') :
    W p l e R s m args below meth c H locs cells slots Q (F0 m pc lsM (st.map (am_V X))) := by
  obtain ⟨hx, hb, hml, hown, hts, -⟩ := hF
  dsimp only [am_step] at h
  split at h
  · next y x st2 =>
    split at h
    · next h0 =>
      simp only [Option.some.injEq, Prod.mk.injEq] at h
      obtain ⟨rfl, rfl, rfl, rfl, rfl⟩ := h
      refine lv_idiv hx hb (am_dec hi rfl) (fun e1 => h0 (by rw [am_0I, am_eqI, wr_0] at e1; exact e1)) ?_
      have k9 := kk H lsM locs cells slots rfl rfl hR hl hn hq
      rw [List.map_cons, show am_V X (aI ((wr x).tdiv (wr y))) = .int (Int32.ofInt ((wr x).tdiv (wr y))) from rfl] at k9
      rw [am_tdiv]
      exact k9
    · cases h
  · cases h
theorem am_s_irem (hG : am_Gl X) (hF : am_Fx X p l s m args meth c mi) (hR : am_Rel X g M H) (hl : lv_has lsM (am_nL mi) (am_lv X ls)) (hn : ls.length = am_nL mi) (hq : ∀ q ∈ locs, xB X ≤ q.base)
    (hi : am_ins mi pc = some (.irem)) (h : am_step mi pc (.irem) ls st g M = some (pc', ls', st', g', M')) (kk : am_KK X p l e R s m args below meth c cells slots Q mi g pc' ls' st' g' M') :
    W p l e R s m args below meth c H locs cells slots Q (F0 m pc lsM (st.map (am_V X))) := by
  obtain ⟨hx, hb, hml, hown, hts, -⟩ := hF
  dsimp only [am_step] at h
  split at h
  · next y x st2 =>
    split at h
    · next h0 =>
      simp only [Option.some.injEq, Prod.mk.injEq] at h
      obtain ⟨rfl, rfl, rfl, rfl, rfl⟩ := h
      refine lv_irem hx hb (am_dec hi rfl) (fun e1 => h0 (by rw [am_0I, am_eqI, wr_0] at e1; exact e1)) ?_
      have k9 := kk H lsM locs cells slots rfl rfl hR hl hn hq
      rw [List.map_cons, show am_V X (aI ((wr x).tmod (wr y))) = .int (Int32.ofInt ((wr x).tmod (wr y))) from rfl] at k9
      rw [am_tmod _ _ h0]
      exact k9
    · cases h
  · cases h
theorem am_s_i2l (hG : am_Gl X) (hF : am_Fx X p l s m args meth c mi) (hR : am_Rel X g M H) (hl : lv_has lsM (am_nL mi) (am_lv X ls)) (hn : ls.length = am_nL mi) (hq : ∀ q ∈ locs, xB X ≤ q.base)
    (hi : am_ins mi pc = some (.i2l)) (h : am_step mi pc (.i2l) ls st g M = some (pc', ls', st', g', M')) (kk : am_KK X p l e R s m args below meth c cells slots Q mi g pc' ls' st' g' M') :
    W p l e R s m args below meth c H locs cells slots Q (F0 m pc lsM (st.map (am_V X))) := by
  obtain ⟨hx, hb, hml, hown, hts, -⟩ := hF
  dsimp only [am_step, am_un] at h
  split at h
  · next x st2 =>
    simp only [Option.some.injEq, Prod.mk.injEq] at h
    obtain ⟨rfl, rfl, rfl, rfl, rfl⟩ := h
    refine lv_i2l hx hb (am_dec hi rfl) (am_i2l x) ?_
    have k9 := kk H lsM locs cells slots rfl rfl hR hl hn hq
    rw [List.map_cons, show am_V X (aL (wr x)) = .long (Int64.ofInt (wr x)) from rfl] at k9
    exact k9
  · cases h
theorem am_s_i2b (hG : am_Gl X) (hF : am_Fx X p l s m args meth c mi) (hR : am_Rel X g M H) (hl : lv_has lsM (am_nL mi) (am_lv X ls)) (hn : ls.length = am_nL mi) (hq : ∀ q ∈ locs, xB X ≤ q.base)
    (hi : am_ins mi pc = some (.i2b)) (h : am_step mi pc (.i2b) ls st g M = some (pc', ls', st', g', M')) (kk : am_KK X p l e R s m args below meth c cells slots Q mi g pc' ls' st' g' M') :
    W p l e R s m args below meth c H locs cells slots Q (F0 m pc lsM (st.map (am_V X))) := by
  obtain ⟨hx, hb, hml, hown, hts, -⟩ := hF
  dsimp only [am_step, am_un] at h
  split at h
  · next x st2 =>
    simp only [Option.some.injEq, Prod.mk.injEq] at h
    obtain ⟨rfl, rfl, rfl, rfl, rfl⟩ := h
    refine lv_i2b hx hb (am_dec hi rfl) (am_i2b x) ?_
    have k9 := kk H lsM locs cells slots rfl rfl hR hl hn hq
    rw [List.map_cons, show am_V X (aI (x.bmod 256)) = .int (Int32.ofInt (x.bmod 256)) from rfl] at k9
    exact k9
  · cases h
theorem am_s_i2c (hG : am_Gl X) (hF : am_Fx X p l s m args meth c mi) (hR : am_Rel X g M H) (hl : lv_has lsM (am_nL mi) (am_lv X ls)) (hn : ls.length = am_nL mi) (hq : ∀ q ∈ locs, xB X ≤ q.base)
    (hi : am_ins mi pc = some (.i2c)) (h : am_step mi pc (.i2c) ls st g M = some (pc', ls', st', g', M')) (kk : am_KK X p l e R s m args below meth c cells slots Q mi g pc' ls' st' g' M') :
    W p l e R s m args below meth c H locs cells slots Q (F0 m pc lsM (st.map (am_V X))) := by
  obtain ⟨hx, hb, hml, hown, hts, -⟩ := hF
  dsimp only [am_step, am_un] at h
  split at h
  · next x st2 =>
    simp only [Option.some.injEq, Prod.mk.injEq] at h
    obtain ⟨rfl, rfl, rfl, rfl, rfl⟩ := h
    refine lv_i2c hx hb (am_dec hi rfl) (am_i2c x) ?_
    have k9 := kk H lsM locs cells slots rfl rfl hR hl hn hq
    rw [List.map_cons, show am_V X (aI (x % 65536)) = .int (Int32.ofInt (x % 65536)) from rfl] at k9
    exact k9
  · cases h
theorem am_s_i2d (hG : am_Gl X) (hF : am_Fx X p l s m args meth c mi) (hR : am_Rel X g M H) (hl : lv_has lsM (am_nL mi) (am_lv X ls)) (hn : ls.length = am_nL mi) (hq : ∀ q ∈ locs, xB X ≤ q.base)
    (hi : am_ins mi pc = some (.i2d)) (h : am_step mi pc (.i2d) ls st g M = some (pc', ls', st', g', M')) (kk : am_KK X p l e R s m args below meth c cells slots Q mi g pc' ls' st' g' M') :
    W p l e R s m args below meth c H locs cells slots Q (F0 m pc lsM (st.map (am_V X))) := by
  obtain ⟨hx, hb, hml, hown, hts, -⟩ := hF
  dsimp only [am_step, am_un] at h
  split at h
  · next x st2 =>
    simp only [Option.some.injEq, Prod.mk.injEq] at h
    obtain ⟨rfl, rfl, rfl, rfl, rfl⟩ := h
    refine lv_i2d hx hb (am_dec hi rfl) ?_
    have k9 := kk H lsM locs cells slots rfl rfl hR hl hn hq
    rw [List.map_cons, show am_V X (aD (FP.i2d (Int32.ofInt x)).toNat) = .double (FP.i2d (Int32.ofInt x)) from congrArg Value.double (am_d64 _)] at k9
    exact k9
  · cases h
theorem am_s_i2f (hG : am_Gl X) (hF : am_Fx X p l s m args meth c mi) (hR : am_Rel X g M H) (hl : lv_has lsM (am_nL mi) (am_lv X ls)) (hn : ls.length = am_nL mi) (hq : ∀ q ∈ locs, xB X ≤ q.base)
    (hi : am_ins mi pc = some (.i2f)) (h : am_step mi pc (.i2f) ls st g M = some (pc', ls', st', g', M')) (kk : am_KK X p l e R s m args below meth c cells slots Q mi g pc' ls' st' g' M') :
    W p l e R s m args below meth c H locs cells slots Q (F0 m pc lsM (st.map (am_V X))) := by
  obtain ⟨hx, hb, hml, hown, hts, -⟩ := hF
  dsimp only [am_step, am_un] at h
  split at h
  · next x st2 =>
    simp only [Option.some.injEq, Prod.mk.injEq] at h
    obtain ⟨rfl, rfl, rfl, rfl, rfl⟩ := h
    refine lv_i2f hx hb (am_dec hi rfl) ?_
    have k9 := kk H lsM locs cells slots rfl rfl hR hl hn hq
    rw [List.map_cons, show am_V X (aF (FP.i2f (Int32.ofInt x)).toNat) = .float (FP.i2f (Int32.ofInt x)) from congrArg Value.float (am_f32 _)] at k9
    exact k9
  · cases h
theorem am_s_lcmp (hG : am_Gl X) (hF : am_Fx X p l s m args meth c mi) (hR : am_Rel X g M H) (hl : lv_has lsM (am_nL mi) (am_lv X ls)) (hn : ls.length = am_nL mi) (hq : ∀ q ∈ locs, xB X ≤ q.base)
    (hi : am_ins mi pc = some (.lcmp)) (h : am_step mi pc (.lcmp) ls st g M = some (pc', ls', st', g', M')) (kk : am_KK X p l e R s m args below meth c cells slots Q mi g pc' ls' st' g' M') :
    W p l e R s m args below meth c H locs cells slots Q (F0 m pc lsM (st.map (am_V X))) := by
  obtain ⟨hx, hb, hml, hown, hts, -⟩ := hF
  dsimp only [am_step] at h
  split at h
  · next y x st2 =>
    simp only [Option.some.injEq, Prod.mk.injEq] at h
    obtain ⟨rfl, rfl, rfl, rfl, rfl⟩ := h
    refine W.lcmp hx hb (am_dec hi rfl) ?_
    rw [am_lcmp]
    exact kk H lsM locs cells slots rfl rfl hR hl hn hq
  · cases h
theorem am_s_ddiv (hG : am_Gl X) (hF : am_Fx X p l s m args meth c mi) (hR : am_Rel X g M H) (hl : lv_has lsM (am_nL mi) (am_lv X ls)) (hn : ls.length = am_nL mi) (hq : ∀ q ∈ locs, xB X ≤ q.base)
    (hi : am_ins mi pc = some (.ddiv)) (h : am_step mi pc (.ddiv) ls st g M = some (pc', ls', st', g', M')) (kk : am_KK X p l e R s m args below meth c cells slots Q mi g pc' ls' st' g' M') :
    W p l e R s m args below meth c H locs cells slots Q (F0 m pc lsM (st.map (am_V X))) := by
  obtain ⟨hx, hb, hml, hown, hts, -⟩ := hF
  dsimp only [am_step] at h
  split at h
  · next y x st2 =>
    split at h
    · next h0 =>
      simp only [Option.some.injEq, Prod.mk.injEq] at h
      obtain ⟨rfl, rfl, rfl, rfl, rfl⟩ := h
      refine lv_ddiv hx hb (am_dec hi rfl) h0 ?_
      have k9 := kk H lsM locs cells slots rfl rfl hR hl hn hq
      rw [List.map_cons, show am_V X (aD (FP.ddiv (am_d x) (am_d y)).toNat) = .double (FP.ddiv (am_d x) (am_d y)) from congrArg Value.double (am_d64 _)] at k9
      exact k9
    · cases h
  · cases h
theorem am_s_fdiv (hG : am_Gl X) (hF : am_Fx X p l s m args meth c mi) (hR : am_Rel X g M H) (hl : lv_has lsM (am_nL mi) (am_lv X ls)) (hn : ls.length = am_nL mi) (hq : ∀ q ∈ locs, xB X ≤ q.base)
    (hi : am_ins mi pc = some (.fdiv)) (h : am_step mi pc (.fdiv) ls st g M = some (pc', ls', st', g', M')) (kk : am_KK X p l e R s m args below meth c cells slots Q mi g pc' ls' st' g' M') :
    W p l e R s m args below meth c H locs cells slots Q (F0 m pc lsM (st.map (am_V X))) := by
  obtain ⟨hx, hb, hml, hown, hts, -⟩ := hF
  dsimp only [am_step] at h
  split at h
  · next y x st2 =>
    split at h
    · next h0 =>
      simp only [Option.some.injEq, Prod.mk.injEq] at h
      obtain ⟨rfl, rfl, rfl, rfl, rfl⟩ := h
      refine lv_fdiv hx hb (am_dec hi rfl) h0 ?_
      have k9 := kk H lsM locs cells slots rfl rfl hR hl hn hq
      rw [List.map_cons, show am_V X (aF (FP.fdiv (am_f x) (am_f y)).toNat) = .float (FP.fdiv (am_f x) (am_f y)) from congrArg Value.float (am_f32 _)] at k9
      exact k9
    · cases h
  · cases h
theorem am_s_f2d (hG : am_Gl X) (hF : am_Fx X p l s m args meth c mi) (hR : am_Rel X g M H) (hl : lv_has lsM (am_nL mi) (am_lv X ls)) (hn : ls.length = am_nL mi) (hq : ∀ q ∈ locs, xB X ≤ q.base)
    (hi : am_ins mi pc = some (.f2d)) (h : am_step mi pc (.f2d) ls st g M = some (pc', ls', st', g', M')) (kk : am_KK X p l e R s m args below meth c cells slots Q mi g pc' ls' st' g' M') :
    W p l e R s m args below meth c H locs cells slots Q (F0 m pc lsM (st.map (am_V X))) := by
  obtain ⟨hx, hb, hml, hown, hts, -⟩ := hF
  dsimp only [am_step] at h
  split at h
  · next x st2 =>
    split at h
    · next h0 =>
      simp only [Option.some.injEq, Prod.mk.injEq] at h
      obtain ⟨rfl, rfl, rfl, rfl, rfl⟩ := h
      refine lv_f2d hx hb (am_dec hi rfl) h0 ?_
      have k9 := kk H lsM locs cells slots rfl rfl hR hl hn hq
      rw [List.map_cons, show am_V X (aD (FP.f2d (am_f x)).toNat) = .double (FP.f2d (am_f x)) from congrArg Value.double (am_d64 _)] at k9
      exact k9
    · cases h
  · cases h
theorem am_s_dcmp (hG : am_Gl X) (hF : am_Fx X p l s m args meth c mi) (hR : am_Rel X g M H) (hl : lv_has lsM (am_nL mi) (am_lv X ls)) (hn : ls.length = am_nL mi) (hq : ∀ q ∈ locs, xB X ≤ q.base) {o : CmpOp}
    (hi : am_ins mi pc = some (.dcmp o)) (h : am_step mi pc (.dcmp o) ls st g M = some (pc', ls', st', g', M')) (kk : am_KK X p l e R s m args below meth c cells slots Q mi g pc' ls' st' g' M') :
    W p l e R s m args below meth c H locs cells slots Q (F0 m pc lsM (st.map (am_V X))) := by
  obtain ⟨hx, hb, hml, hown, hts, -⟩ := hF
  dsimp only [am_step] at h
  split at h
  · next y x st2 =>
    simp only [Option.some.injEq, Prod.mk.injEq] at h
    obtain ⟨rfl, rfl, rfl, rfl, rfl⟩ := h
    refine lv_dcmp hx hb (am_dec hi rfl) ?_
    have k9 := kk H lsM locs cells slots rfl rfl hR hl hn hq
    rw [List.map_cons, show am_V X (aI (Op.cmpValue (FP.dcmp (am_d x) (am_d y)) o).toInt) = .int (Op.cmpValue (FP.dcmp (am_d x) (am_d y)) o) from congrArg Value.int (am_ofI _)] at k9
    exact k9
  · cases h
theorem am_s_fcmp (hG : am_Gl X) (hF : am_Fx X p l s m args meth c mi) (hR : am_Rel X g M H) (hl : lv_has lsM (am_nL mi) (am_lv X ls)) (hn : ls.length = am_nL mi) (hq : ∀ q ∈ locs, xB X ≤ q.base) {o : CmpOp}
    (hi : am_ins mi pc = some (.fcmp o)) (h : am_step mi pc (.fcmp o) ls st g M = some (pc', ls', st', g', M')) (kk : am_KK X p l e R s m args below meth c cells slots Q mi g pc' ls' st' g' M') :
    W p l e R s m args below meth c H locs cells slots Q (F0 m pc lsM (st.map (am_V X))) := by
  obtain ⟨hx, hb, hml, hown, hts, -⟩ := hF
  dsimp only [am_step] at h
  split at h
  · next y x st2 =>
    simp only [Option.some.injEq, Prod.mk.injEq] at h
    obtain ⟨rfl, rfl, rfl, rfl, rfl⟩ := h
    refine lv_fcmp hx hb (am_dec hi rfl) ?_
    have k9 := kk H lsM locs cells slots rfl rfl hR hl hn hq
    rw [List.map_cons, show am_V X (aI (Op.cmpValue (FP.fcmp (am_f x) (am_f y)) o).toInt) = .int (Op.cmpValue (FP.fcmp (am_f x) (am_f y)) o) from congrArg Value.int (am_ofI _)] at k9
    exact k9
  · cases h
theorem am_s_dup (hG : am_Gl X) (hF : am_Fx X p l s m args meth c mi) (hR : am_Rel X g M H) (hl : lv_has lsM (am_nL mi) (am_lv X ls)) (hn : ls.length = am_nL mi) (hq : ∀ q ∈ locs, xB X ≤ q.base)
    (hi : am_ins mi pc = some (.dup)) (h : am_step mi pc (.dup) ls st g M = some (pc', ls', st', g', M')) (kk : am_KK X p l e R s m args below meth c cells slots Q mi g pc' ls' st' g' M') :
    W p l e R s m args below meth c H locs cells slots Q (F0 m pc lsM (st.map (am_V X))) := by
  obtain ⟨hx, hb, hml, hown, hts, -⟩ := hF
  dsimp only [am_step] at h
  split at h
  · next v st2 =>
    split at h
    · next h0 =>
      simp only [Option.some.injEq, Prod.mk.injEq] at h
      obtain ⟨rfl, rfl, rfl, rfl, rfl⟩ := h
      exact lv_dup hx hb (am_dec hi rfl) ((am_catV X hG v).trans h0) (kk H lsM locs cells slots rfl rfl hR hl hn hq)
    · cases h
  · cases h
theorem am_s_pop (hG : am_Gl X) (hF : am_Fx X p l s m args meth c mi) (hR : am_Rel X g M H) (hl : lv_has lsM (am_nL mi) (am_lv X ls)) (hn : ls.length = am_nL mi) (hq : ∀ q ∈ locs, xB X ≤ q.base)
    (hi : am_ins mi pc = some (.pop)) (h : am_step mi pc (.pop) ls st g M = some (pc', ls', st', g', M')) (kk : am_KK X p l e R s m args below meth c cells slots Q mi g pc' ls' st' g' M') :
    W p l e R s m args below meth c H locs cells slots Q (F0 m pc lsM (st.map (am_V X))) := by
  obtain ⟨hx, hb, hml, hown, hts, -⟩ := hF
  dsimp only [am_step] at h
  split at h
  · next v st2 =>
    split at h
    · next h0 =>
      simp only [Option.some.injEq, Prod.mk.injEq] at h
      obtain ⟨rfl, rfl, rfl, rfl, rfl⟩ := h
      exact lv_pop hx hb (am_dec hi rfl) ((am_catV X hG v).trans h0) (kk H lsM locs cells slots rfl rfl hR hl hn hq)
    · cases h
  · cases h
theorem am_s_dup2 (hG : am_Gl X) (hF : am_Fx X p l s m args meth c mi) (hR : am_Rel X g M H) (hl : lv_has lsM (am_nL mi) (am_lv X ls)) (hn : ls.length = am_nL mi) (hq : ∀ q ∈ locs, xB X ≤ q.base)
    (hi : am_ins mi pc = some (.dup2)) (h : am_step mi pc (.dup2) ls st g M = some (pc', ls', st', g', M')) (kk : am_KK X p l e R s m args below meth c cells slots Q mi g pc' ls' st' g' M') :
    W p l e R s m args below meth c H locs cells slots Q (F0 m pc lsM (st.map (am_V X))) := by
  obtain ⟨hx, hb, hml, hown, hts, -⟩ := hF
  dsimp only [am_step] at h
  split at h
  · next v w st2 =>
    split at h
    · next h0 =>
      simp only [Option.some.injEq, Prod.mk.injEq] at h
      obtain ⟨rfl, rfl, rfl, rfl, rfl⟩ := h
      exact lv_dup2_11 hx hb (am_dec hi rfl) ((am_catV X hG v).trans h0.1) ((am_catV X hG w).trans h0.2) (kk H lsM locs cells slots rfl rfl hR hl hn hq)
    · cases h
  · cases h
theorem am_tn {pc : Nat} {off : Int} (h : 0 ≤ (pc : Int) + off) : (pc : Int) + off = ((((pc : Int) + off).toNat : Nat) : Int) := by omega
theorem am_s_goto (hG : am_Gl X) (hF : am_Fx X p l s m args meth c mi) (hR : am_Rel X g M H) (hl : lv_has lsM (am_nL mi) (am_lv X ls)) (hn : ls.length = am_nL mi) (hq : ∀ q ∈ locs, xB X ≤ q.base) {off : Int}
    (hi : am_ins mi pc = some (.goto off)) (h : am_step mi pc (.goto off) ls st g M = some (pc', ls', st', g', M')) (kk : am_KK X p l e R s m args below meth c cells slots Q mi g pc' ls' st' g' M') :
    W p l e R s m args below meth c H locs cells slots Q (F0 m pc lsM (st.map (am_V X))) := by
  obtain ⟨hx, hb, hml, hown, hts, -⟩ := hF
  dsimp only [am_step, am_jmp] at h
  split at h
  · next h0 =>
    simp only [Option.some.injEq, Prod.mk.injEq] at h
    obtain ⟨rfl, rfl, rfl, rfl, rfl⟩ := h
    exact lv_goto hx hb (am_dec hi rfl) (am_tn h0) (kk H lsM locs cells slots rfl rfl hR hl hn hq)
  · cases h
theorem am_s_ifCond (hG : am_Gl X) (hF : am_Fx X p l s m args meth c mi) (hR : am_Rel X g M H) (hl : lv_has lsM (am_nL mi) (am_lv X ls)) (hn : ls.length = am_nL mi) (hq : ∀ q ∈ locs, xB X ≤ q.base) {o : ClassFile.Cond} {off : Int}
    (hi : am_ins mi pc = some (.ifCond o off)) (h : am_step mi pc (.ifCond o off) ls st g M = some (pc', ls', st', g', M')) (kk : am_KK X p l e R s m args below meth c cells slots Q mi g pc' ls' st' g' M') :
    W p l e R s m args below meth c H locs cells slots Q (F0 m pc lsM (st.map (am_V X))) := by
  obtain ⟨hx, hb, hml, hown, hts, -⟩ := hF
  dsimp only [am_step, am_if] at h
  split at h
  · next x st2 =>
    split at h
    · next h0 =>
      have kt : am_cmp o x 0 = true → W p l e R s m args below meth c H locs cells slots Q (F0 m ((pc : Int) + off).toNat lsM (st2.map (am_V X))) := by
        intro hc
        rw [if_pos hc] at h
        simp only [Option.some.injEq, Prod.mk.injEq] at h
        obtain ⟨rfl, rfl, rfl, rfl, rfl⟩ := h
        exact kk H lsM locs cells slots rfl rfl hR hl hn hq
      have kf : ¬ am_cmp o x 0 = true → W p l e R s m args below meth c H locs cells slots Q (F0 m (pc + 3) lsM (st2.map (am_V X))) := by
        intro hc
        rw [if_neg hc] at h
        simp only [Option.some.injEq, Prod.mk.injEq] at h
        obtain ⟨rfl, rfl, rfl, rfl, rfl⟩ := h
        exact kk H lsM locs cells slots rfl rfl hR hl hn hq
      have ht := am_tn h0
      clear h kk
      cases o
      · exact lv_if_eq hx hb (am_dec hi rfl) ht (fun q => kt (by rw [am_0I] at q; exact decide_eq_true ((am_eqI x 0).mp q))) (fun q => kf (by rw [am_0I] at q; exact fun q2 => q ((am_eqI x 0).mpr (of_decide_eq_true q2))))
      · exact lv_if_ne hx hb (am_dec hi rfl) ht (fun q => kt (by rw [am_0I] at q; exact decide_eq_true (fun q2 => q ((am_eqI x 0).mpr q2)))) (fun q => kf (by rw [am_0I] at q; exact fun q2 => of_decide_eq_true q2 ((am_eqI x 0).mp q)))
      · exact lv_if_lt hx hb (am_dec hi rfl) ht (fun q => kt (by rw [am_0I] at q; exact decide_eq_true ((am_ltI x 0).mp q))) (fun q => kf (by rw [am_0I] at q; exact fun q2 => q ((am_ltI x 0).mpr (of_decide_eq_true q2))))
      · exact lv_if_ge hx hb (am_dec hi rfl) ht (fun q => kt (by rw [am_0I] at q; exact decide_eq_true ((am_leI 0 x).mp q))) (fun q => kf (by rw [am_0I] at q; exact fun q2 => q ((am_leI 0 x).mpr (of_decide_eq_true q2))))
      · exact lv_if_gt hx hb (am_dec hi rfl) ht (fun q => kt (by rw [am_0I] at q; exact decide_eq_true ((am_ltI 0 x).mp q))) (fun q => kf (by rw [am_0I] at q; exact fun q2 => q ((am_ltI 0 x).mpr (of_decide_eq_true q2))))
      · exact lv_if_le hx hb (am_dec hi rfl) ht (fun q => kt (by rw [am_0I] at q; exact decide_eq_true ((am_leI x 0).mp q))) (fun q => kf (by rw [am_0I] at q; exact fun q2 => q ((am_leI x 0).mpr (of_decide_eq_true q2))))
    · cases h
  · cases h
theorem am_s_if_icmp (hG : am_Gl X) (hF : am_Fx X p l s m args meth c mi) (hR : am_Rel X g M H) (hl : lv_has lsM (am_nL mi) (am_lv X ls)) (hn : ls.length = am_nL mi) (hq : ∀ q ∈ locs, xB X ≤ q.base) {o : ClassFile.Cond} {off : Int}
    (hi : am_ins mi pc = some (.if_icmp o off)) (h : am_step mi pc (.if_icmp o off) ls st g M = some (pc', ls', st', g', M')) (kk : am_KK X p l e R s m args below meth c cells slots Q mi g pc' ls' st' g' M') :
    W p l e R s m args below meth c H locs cells slots Q (F0 m pc lsM (st.map (am_V X))) := by
  obtain ⟨hx, hb, hml, hown, hts, -⟩ := hF
  dsimp only [am_step, am_if] at h
  split at h
  · next y x st2 =>
    split at h
    · next h0 =>
      have kt : am_cmp o x y = true → W p l e R s m args below meth c H locs cells slots Q (F0 m ((pc : Int) + off).toNat lsM (st2.map (am_V X))) := by
        intro hc
        rw [if_pos hc] at h
        simp only [Option.some.injEq, Prod.mk.injEq] at h
        obtain ⟨rfl, rfl, rfl, rfl, rfl⟩ := h
        exact kk H lsM locs cells slots rfl rfl hR hl hn hq
      have kf : ¬ am_cmp o x y = true → W p l e R s m args below meth c H locs cells slots Q (F0 m (pc + 3) lsM (st2.map (am_V X))) := by
        intro hc
        rw [if_neg hc] at h
        simp only [Option.some.injEq, Prod.mk.injEq] at h
        obtain ⟨rfl, rfl, rfl, rfl, rfl⟩ := h
        exact kk H lsM locs cells slots rfl rfl hR hl hn hq
      have ht := am_tn h0
      clear h kk
      cases o
      · exact lv_icmp_eq hx hb (am_dec hi rfl) ht (fun q => kt (by exact decide_eq_true ((am_eqI x y).mp q))) (fun q => kf (by exact fun q2 => q ((am_eqI x y).mpr (of_decide_eq_true q2))))
      · exact lv_icmp_ne hx hb (am_dec hi rfl) ht (fun q => kt (by exact decide_eq_true (fun q2 => q ((am_eqI x y).mpr q2)))) (fun q => kf (by exact fun q2 => of_decide_eq_true q2 ((am_eqI x y).mp q)))
      · exact lv_icmp_lt hx hb (am_dec hi rfl) ht (fun q => kt (by exact decide_eq_true ((am_ltI x y).mp q))) (fun q => kf (by exact fun q2 => q ((am_ltI x y).mpr (of_decide_eq_true q2))))
      · exact lv_icmp_ge hx hb (am_dec hi rfl) ht (fun q => kt (by exact decide_eq_true ((am_leI y x).mp q))) (fun q => kf (by exact fun q2 => q ((am_leI y x).mpr (of_decide_eq_true q2))))
      · exact lv_icmp_gt hx hb (am_dec hi rfl) ht (fun q => kt (by exact decide_eq_true ((am_ltI y x).mp q))) (fun q => kf (by exact fun q2 => q ((am_ltI y x).mpr (of_decide_eq_true q2))))
      · exact lv_icmp_le hx hb (am_dec hi rfl) ht (fun q => kt (by exact decide_eq_true ((am_leI x y).mp q))) (fun q => kf (by exact fun q2 => q ((am_leI x y).mpr (of_decide_eq_true q2))))
    · cases h
  · cases h
theorem am_s_switch (hG : am_Gl X) (hF : am_Fx X p l s m args meth c mi) (hR : am_Rel X g M H) (hl : lv_has lsM (am_nL mi) (am_lv X ls)) (hn : ls.length = am_nL mi) (hq : ∀ q ∈ locs, xB X ≤ q.base) {dflt lo hi' : Int} {offs : Array Int}
    (hi : am_ins mi pc = some (.tableswitch dflt lo hi' offs)) (h : am_step mi pc (.tableswitch dflt lo hi' offs) ls st g M = some (pc', ls', st', g', M')) (kk : am_KK X p l e R s m args below meth c cells slots Q mi g pc' ls' st' g' M') :
    W p l e R s m args below meth c H locs cells slots Q (F0 m pc lsM (st.map (am_V X))) := by
  obtain ⟨hx, hb, hml, hown, hts, -⟩ := hF
  obtain ⟨n, hd⟩ := am_decS hi
  dsimp only [am_step, am_jmp] at h
  split at h
  · next x st2 =>
    split at h
    · next h1 =>
      split at h
      · next h0 =>
        simp only [Option.some.injEq, Prod.mk.injEq] at h
        obtain ⟨rfl, rfl, rfl, rfl, rfl⟩ := h
        exact lv_tableOut hx hb hd (by rw [am_toI]; exact h1) (am_tn h0) (kk H lsM locs cells slots rfl rfl hR hl hn hq)
      · cases h
    · next h1 =>
      split at h
      · next off e1 =>
        split at h
        · next h0 =>
          simp only [Option.some.injEq, Prod.mk.injEq] at h
          obtain ⟨rfl, rfl, rfl, rfl, rfl⟩ := h
          exact lv_tableIn hx hb hd (by rw [am_toI]; omega) (by rw [am_toI]; omega) (by rw [am_toI]; exact e1) (am_tn h0) (kk H lsM locs cells slots rfl rfl hR hl hn hq)
        · cases h
      · cases h
  · cases h
end SIM
end
section
/-! THE SMALL MACHINE: its tables are the claim's own words -/
def am_uT : List (List Nat) := [[329, 331, 333, 335, 337, 339, 341, 343, 345, 347, 349, 351, 353, 355, 357, 359], [290, 292, 294], [268, 270, 272, 274], [198, 200, 202, 204, 206, 208, 210, 212, 214], [108, 110, 112, 114, 116, 118], [164, 166, 168, 170, 172, 174, 176, 178, 180, 182], [307, 309], [248, 250, 252, 254], [229, 231], [487, 489], [329, 331, 333, 335, 337, 339, 341, 343, 345, 347, 349, 351, 353, 355, 357, 359], [329, 331, 333, 335, 337, 339, 341, 343, 345, 347, 349, 351, 353, 355, 357, 359], [329, 331, 333, 335, 337, 339, 341, 343, 345, 347, 349, 351, 353, 355, 357, 359], [329, 331, 333, 335, 337, 339, 341, 343, 345, 347, 349, 351, 353, 355, 357, 359], [329, 331, 333, 335, 337, 339, 341, 343, 345, 347, 349, 351, 353, 355, 357, 359], [788, 790, 792, 794, 796, 798, 800, 802, 804], [743, 745, 747, 749, 751, 753], [844, 846, 848, 850, 852, 854, 856, 858, 860, 862, 864, 866, 868, 870, 872, 874], [654, 656, 658, 660], [1639, 1641, 1643, 1645]]
abbrev am_cr (ci : Nat) : vw_C := am_cl.getD ci ("?", am_F0, 0)
def am_has (k : Nat) (w : Jvm.Cond) : Bool := (match am_tb2[k]? with
  | some v => decide (v = w)
  | none => false) && goodWord w
theorem am_has_in {k : Nat} {w : Jvm.Cond} (h : am_has k w = true) : w ∈ am_ws := by
  unfold am_has at h
  rw [Bool.and_eq_true] at h
  obtain ⟨h1, h2⟩ := h
  split at h1
  · next v e =>
    have := of_decide_eq_true h1
    subst this
    exact List.mem_filter.mpr ⟨List.mem_of_getElem? e, h2⟩
  · cases h1
def am_hasN (k : Nat) (w : Jvm.Cond) : Bool := match lw_tbl[k]? with
  | some v => decide (v = w)
  | none => false
theorem am_hasN_in {k : Nat} {w : Jvm.Cond} (h : am_hasN k w = true) : w ∈ lw_tbl := by
  unfold am_hasN at h
  split at h
  · next v e =>
    have := of_decide_eq_true h
    subst this
    exact List.mem_of_getElem? e
  · cases h
theorem am_all {n : Nat} {f : Nat → Bool} (h : (List.range n).all f = true) {i : Nat} (hi : i < n) : f i = true := List.all_eq_true.mp h i (List.mem_range.mpr hi)
theorem am_nf_ok : ∀ ci, ci < 20 → (am_cl[ci]? = some (am_cr ci) ∧ (am_cr ci).2.2 = am_nf ci) := by
  intro ci h
  rcases (show ci = 0 ∨ ci = 1 ∨ ci = 2 ∨ ci = 3 ∨ ci = 4 ∨ ci = 5 ∨ ci = 6 ∨ ci = 7 ∨ ci = 8 ∨ ci = 9 ∨ ci = 10 ∨ ci = 11 ∨ ci = 12 ∨ ci = 13 ∨ ci = 14 ∨ ci = 15 ∨ ci = 16 ∨ ci = 17 ∨ ci = 18 ∨ ci = 19 by omega) with rfl | rfl | rfl | rfl | rfl | rfl | rfl | rfl | rfl | rfl | rfl | rfl | rfl | rfl | rfl | rfl | rfl | rfl | rfl | rfl <;> exact ⟨rfl, by decide +kernel⟩
theorem am_cn_ok : ∀ ci, am_ob ci → (am_cr ci).1 = am_cn ci := by
  intro ci h
  rcases (show ci = 0 ∨ ci = 1 ∨ ci = 2 ∨ ci = 3 ∨ ci = 4 ∨ ci = 5 ∨ ci = 6 ∨ ci = 7 ∨ ci = 8 ∨ ci = 9 ∨ ci = 15 ∨ ci = 16 ∨ ci = 17 ∨ ci = 18 ∨ ci = 19 by omega) with rfl | rfl | rfl | rfl | rfl | rfl | rfl | rfl | rfl | rfl | rfl | rfl | rfl | rfl | rfl <;> decide +kernel
theorem am_u_chk : (List.range 20).all (fun ci => (List.range (am_nf ci)).all (fun k => am_has ((am_uT.getD ci []).getD k 0) (u_lay (am_cr ci).1 (am_cr ci).2.1 k))) = true := by decide +kernel
theorem am_uok {ci : Nat} (h : ci < 20) : ∀ w ∈ u_ws (am_cr ci).1 (am_cr ci).2.1 (am_cr ci).2.2, w ∈ am_ws := by
  intro w hw
  obtain ⟨k, hk, rfl⟩ := List.mem_map.mp hw
  have hk2 := List.mem_range.mp hk
  rw [(am_nf_ok ci h).2] at hk2
  exact am_has_in (am_all (am_all am_u_chk h) hk2)
/-- fields' types: 0 int, 1 a reference, 2 boolean, 3 byte -/
def am_fty (ci k : Nat) : FieldType := ((parseFieldDescriptor ((am_cr ci).2.1 k).2.2.1).getD .int)
def am_ftok (ci k : Nat) : Bool := decide (parseFieldDescriptor ((am_cr ci).2.1 k).2.2.1 = some (am_fty ci k)) && ((am_fkd ci k % 4 == 1) == (am_fty ci k).isReference) && ((am_fkd ci k % 4 == 0) == decide (am_fty ci k = .int)) && ((am_fkd ci k % 4 == 2) == decide (am_fty ci k = .boolean)) && ((am_fkd ci k % 4 == 3) == decide (am_fty ci k = .byte)) && (decide (4 ≤ am_fkd ci k) == ((am_cr ci).2.1 k).2.2.2) && (decide (am_fkd ci k < 4) || decide (((am_cr ci).2.1 k).1 = (am_cr ci).1))
theorem am_ft_chk : (List.range 20).all (fun ci => (List.range (am_nf ci)).all (fun k => am_ftok ci k)) = true := by decide +kernel
theorem am_nm_chk : (List.range 20).all (fun ci => (List.range (am_nf ci)).all (fun a => (List.range (am_nf ci)).all (fun b => decide (a = b) || !decide (((am_cr ci).2.1 a).2.1 = ((am_cr ci).2.1 b).2.1)))) = true := by decide +kernel
theorem am_fl_chk : (List.range 29).all (fun oc => (am_flT.getD oc []).all (fun q => decide (am_ob q.2.1) && decide (q.2.2.1 < am_nf q.2.1) && (am_has q.2.2.2.1 (.fieldLink (am_cn oc) q.1 ((am_cr q.2.1).2.1 q.2.2.1).1 ((am_cr q.2.1).2.1 q.2.2.1).2.1 ((am_cr q.2.1).2.1 q.2.2.1).2.2.1) || am_hasN q.2.2.2.1 (.fieldLinkNest (am_cn oc) q.1 ((am_cr q.2.1).2.1 q.2.2.1).1 ((am_cr q.2.1).2.1 q.2.2.1).2.1 ((am_cr q.2.1).2.1 q.2.2.1).2.2.1 "RodYardLaw")))) = true := by decide +kernel
theorem am_out {α : Type} {T : List (List α)} {oc : Nat} {q : α} (hl : T.length = 29) (h : q ∈ T.getD oc []) : oc < 29 := by
  rcases Nat.lt_or_ge oc 29 with g | g
  · exact g
  · rw [List.getD_eq_getElem?_getD, List.getElem?_eq_none (by omega)] at h
    cases h
theorem am_fl_ok {oc idx : Nat} {q : Nat × Nat × Nat × Nat} (h : am_fl oc idx = some q) : q.1 = idx ∧ am_ob q.2.1 ∧ q.2.2.1 < am_nf q.2.1 ∧ (Cond.fieldLink (am_cn oc) idx ((am_cr q.2.1).2.1 q.2.2.1).1 ((am_cr q.2.1).2.1 q.2.2.1).2.1 ((am_cr q.2.1).2.1 q.2.2.1).2.2.1 ∈ am_ws ∨ Cond.fieldLinkNest (am_cn oc) idx ((am_cr q.2.1).2.1 q.2.2.1).1 ((am_cr q.2.1).2.1 q.2.2.1).2.1 ((am_cr q.2.1).2.1 q.2.2.1).2.2.1 "RodYardLaw" ∈ lw_tbl) := by
  unfold am_fl at h
  obtain ⟨r, hr, rfl⟩ := Option.map_eq_some_iff.mp h
  unfold am_flN at hr
  have h1 := List.mem_of_find?_eq_some hr
  have h2 : r.1 = idx := by simpa using List.find?_some hr
  have h3 := List.all_eq_true.mp (am_all am_fl_chk (am_out (by decide) h1)) r h1
  simp only [Bool.and_eq_true, Bool.or_eq_true, decide_eq_true_eq] at h3
  refine ⟨h2, h3.1.1, h3.1.2, ?_⟩
  rcases h3.2 with h4 | h4
  · exact Or.inl (by rw [← h2]; exact am_has_in h4)
  · exact Or.inr (by rw [← h2]; exact am_hasN_in h4)
/-- class links: of the classes that are made, of their arrays, of the exceptions -/
def am_cname (ci : Nat) : String := if ci = 25 then "[[I" else if ci = 20 then "[I" else if ci = 21 then "[B" else am_cn ci
theorem am_cl_chk : (List.range 29).all (fun oc => (am_clT.getD oc []).all (fun q => am_has q.2.2 (.classLink (am_cn oc) q.1 (am_cname q.2.1)) && (decide (q.2.1 < 13 ∨ 15 ≤ q.2.1 ∧ q.2.1 < 22 ∨ q.2.1 = 25)))) = true := by decide +kernel
theorem am_cl_ok {oc idx : Nat} {q : Nat × Nat × Nat} (h : am_cs oc idx = some q) : q.1 = idx ∧ Cond.classLink (am_cn oc) idx (am_cname q.2.1) ∈ am_ws ∧ (q.2.1 < 13 ∨ 15 ≤ q.2.1 ∧ q.2.1 < 22 ∨ q.2.1 = 25) := by
  unfold am_cs at h
  have h1 := List.mem_of_find?_eq_some h
  have h2 : q.1 = idx := by simpa using List.find?_some h
  have h3 := List.all_eq_true.mp (am_all am_cl_chk (am_out (by decide) h1)) q h1
  simp only [Bool.and_eq_true, decide_eq_true_eq] at h3
  exact ⟨h2, by rw [← h2]; exact am_has_in h3.1, h3.2⟩
def am_iT : List (Nat × Nat) := [(67, 49), (278, 56), (258, 55), (75, 50), (81, 51), (124, 52), (298, 57), (235, 54), (222, 53), (480, 34), (67, 49), (67, 49), (67, 49), (67, 49), (67, 49), (761, 48), (723, 47), (498, 35), (504, 37), (1595, 38)]
theorem am_in_chk : (List.range 20).all (fun ci => am_has (am_iT.getD ci (0, 0)).1 (.instantiable (am_cr ci).1 (am_inst.getD ci 0)) && am_has (am_iT.getD ci (0, 0)).2 (.initialized (am_cr ci).1) && decide (am_inst.getD ci 0 = am_nf ci)) = true := by decide +kernel
theorem am_in_okr {ci : Nat} (h : ci < 20) : Cond.instantiable (am_cr ci).1 (am_nf ci) ∈ am_ws ∧ Cond.initialized (am_cr ci).1 ∈ am_ws ∧ am_inst.getD ci 0 = am_nf ci := by
  have h1 := am_all am_in_chk h
  simp only [Bool.and_eq_true, decide_eq_true_eq] at h1
  exact ⟨by rw [← h1.2]; exact am_has_in h1.1.1, am_has_in h1.1.2, h1.2⟩
theorem am_in_ok {ci : Nat} (h : am_ob ci) : Cond.instantiable (am_cn ci) (am_nf ci) ∈ am_ws ∧ Cond.initialized (am_cn ci) ∈ am_ws ∧ am_inst.getD ci 0 = am_nf ci := by
  rw [← am_cn_ok ci h]
  exact am_in_okr (by omega)
theorem am_sr_chk : (List.range 29).all (fun oc => (am_srT.getD oc []).all (fun q => decide (10 ≤ q.2.1 ∧ q.2.1 < 42 ∧ q.2.1 % 2 = 0) && decide (am_strs.getD ((q.2.1 - 10) / 2) ("", 0, "") = (am_cn oc, q.1, (am_strs.getD ((q.2.1 - 10) / 2) ("", 0, "")).2.2)))) = true := by decide +kernel
theorem am_sr_ok {oc idx : Nat} {q : Nat × Nat × Nat} (h : am_sr oc idx = some q) : ∃ j, j < 16 ∧ q.2.1 = 10 + 2 * j ∧ (am_strs.getD j ("", 0, "")).1 = am_cn oc ∧ (am_strs.getD j ("", 0, "")).2.1 = idx := by
  unfold am_sr at h
  have h1 := List.mem_of_find?_eq_some h
  have h2 : q.1 = idx := by simpa using List.find?_some h
  have h3 := List.all_eq_true.mp (am_all am_sr_chk (am_out (by decide) h1)) q h1
  simp only [Bool.and_eq_true, decide_eq_true_eq] at h3
  obtain ⟨⟨a1, a2, a3⟩, b⟩ := h3
  refine ⟨(q.2.1 - 10) / 2, by omega, by omega, ?_, ?_⟩
  · rw [b]
  · rw [b, h2]
theorem am_ct_chk : (List.range 29).all (fun oc => (am_ctT.getD oc []).all (fun q => am_has q.2.2 (.constant (am_cn oc) q.1 (Int32.ofInt q.2.1)))) = true := by decide +kernel
theorem am_ct_ok {oc idx : Nat} {q : Nat × Int × Nat} (h : am_ct oc idx = some q) : q.1 = idx ∧ Cond.constant (am_cn oc) idx (Int32.ofInt q.2.1) ∈ am_ws := by
  unfold am_ct at h
  have h1 := List.mem_of_find?_eq_some h
  have h2 : q.1 = idx := by simpa using List.find?_some h
  have h3 := List.all_eq_true.mp (am_all am_ct_chk (am_out (by decide) h1)) q h1
  exact ⟨h2, by rw [← h2]; exact am_has_in h3⟩
theorem am_w_strv : (Jvm.Cond.fieldLink "java/lang/String" (9 : Nat) "java/lang/String" "value" "[B") ∈ am_ws := am_has_in (k := 1637) (by decide +kernel)
theorem am_w_strc : (Jvm.Cond.fieldLink "java/lang/String" (15 : Nat) "java/lang/String" "coder" "B") ∈ am_ws := am_has_in (k := 1638) (by decide +kernel)
theorem am_w_gs1 : (Jvm.Cond.fieldLink "java/lang/String" (38 : Nat) "java/lang/String" "COMPACT_STRINGS" "Z") ∈ am_ws := am_has_in (k := 521) (by decide +kernel)
theorem am_w_gs2 : (Jvm.Cond.fieldLink "java/lang/String" (1053 : Nat) "jdk/internal/util/Preconditions" "SIOOBE_FORMATTER" "Ljava/util/function/BiFunction;") ∈ am_ws := am_has_in (k := 602) (by decide +kernel)
theorem am_w_gs3 : (Jvm.Cond.fieldLink "java/lang/AbstractStringBuilder" (18 : Nat) "java/lang/String" "COMPACT_STRINGS" "Z") ∈ am_ws := am_has_in (k := 589) (by decide +kernel)
theorem am_w_gs4 : (Jvm.Cond.fieldLink "java/lang/Integer" (83 : Nat) "java/lang/Integer" "DigitOnes" "[B") ∈ am_ws := am_has_in (k := 681) (by decide +kernel)
theorem am_w_gs5 : (Jvm.Cond.fieldLink "java/lang/Integer" (87 : Nat) "java/lang/Integer" "DigitTens" "[B") ∈ am_ws := am_has_in (k := 683) (by decide +kernel)
theorem am_w_cl99 : (Jvm.Cond.constantLong "RodYardLaw" (133 : Nat) (-99 : Int64)) ∈ am_ws := am_has_in (k := 1409) (by decide +kernel)
theorem am_w_aint : (Jvm.Cond.arrayClass Jvm.ClassFile.FieldType.int) ∈ am_ws := am_has_in (k := 122) (by decide +kernel)
theorem am_w_abyte : (Jvm.Cond.arrayClass Jvm.ClassFile.FieldType.byte) ∈ am_ws := am_has_in (k := 121) (by decide +kernel)
theorem am_w_aboolean : (Jvm.Cond.arrayClass Jvm.ClassFile.FieldType.boolean) ∈ am_ws := am_has_in (k := 312) (by decide +kernel)
theorem am_w_cn : (Jvm.Cond.native ({ cls := "java/lang/System", name := "arraycopy", desc := "(Ljava/lang/Object;ILjava/lang/Object;II)V" } : Jvm.MethodName)) ∈ am_ws := am_has_in (k := 583) (by decide +kernel)
theorem am_w_cs : (Jvm.Cond.static ({ cls := "java/lang/System", name := "arraycopy", desc := "(Ljava/lang/Object;ILjava/lang/Object;II)V" } : Jvm.MethodName)) ∈ am_ws := am_has_in (k := 582) (by decide +kernel)
theorem am_w_ci : (Jvm.Cond.initialized "java/lang/System") ∈ am_ws := am_has_in (k := 43) (by decide +kernel)
theorem am_w_oln : (Jvm.Cond.native ({ cls := "java/lang/Object", name := "clone", desc := "()Ljava/lang/Object;" } : Jvm.MethodName)) ∈ am_ws := am_has_in (k := 573) (by decide +kernel)
theorem am_w_oli : (Jvm.Cond.instanceMethod ({ cls := "java/lang/Object", name := "clone", desc := "()Ljava/lang/Object;" } : Jvm.MethodName)) ∈ am_ws := am_has_in (k := 574) (by decide +kernel)
theorem am_w_ols : (Jvm.Cond.sameMethod "[B" "java/lang/Object" "clone" "()Ljava/lang/Object;") ∈ am_ws := am_has_in (k := 572) (by decide +kernel)
theorem am_nst_chk : (List.range 29).all (fun oc => (am_flT.getD oc []).all (fun q => am_has q.2.2.2.1 (.fieldLink (am_cn oc) q.1 ((am_cr q.2.1).2.1 q.2.2.1).1 ((am_cr q.2.1).2.1 q.2.2.1).2.1 ((am_cr q.2.1).2.1 q.2.2.1).2.2.1) || decide (am_cn oc ≠ am_cn q.2.1))) = true := by decide +kernel
theorem am_fl_nst {oc idx : Nat} {q : Nat × Nat × Nat × Nat} (h : am_fl oc idx = some q) (h9 : Cond.fieldLink (am_cn oc) idx ((am_cr q.2.1).2.1 q.2.2.1).1 ((am_cr q.2.1).2.1 q.2.2.1).2.1 ((am_cr q.2.1).2.1 q.2.2.1).2.2.1 ∈ am_ws ∨ Cond.fieldLinkNest (am_cn oc) idx ((am_cr q.2.1).2.1 q.2.2.1).1 ((am_cr q.2.1).2.1 q.2.2.1).2.1 ((am_cr q.2.1).2.1 q.2.2.1).2.2.1 "RodYardLaw" ∈ lw_tbl) : Cond.fieldLink (am_cn oc) idx ((am_cr q.2.1).2.1 q.2.2.1).1 ((am_cr q.2.1).2.1 q.2.2.1).2.1 ((am_cr q.2.1).2.1 q.2.2.1).2.2.1 ∈ am_ws ∨ (Cond.fieldLinkNest (am_cn oc) idx ((am_cr q.2.1).2.1 q.2.2.1).1 ((am_cr q.2.1).2.1 q.2.2.1).2.1 ((am_cr q.2.1).2.1 q.2.2.1).2.2.1 "RodYardLaw" ∈ lw_tbl ∧ am_cn oc ≠ am_cn q.2.1) := by
  rcases h9 with h9 | h9
  · exact Or.inl h9
  unfold am_fl at h
  obtain ⟨r, hr, rfl⟩ := Option.map_eq_some_iff.mp h
  unfold am_flN at hr
  have h1 := List.mem_of_find?_eq_some hr
  have h2 : r.1 = idx := by simpa using List.find?_some hr
  have h3 := List.all_eq_true.mp (am_all am_nst_chk (am_out (by decide) h1)) r h1
  simp only [Bool.or_eq_true, decide_eq_true_eq] at h3
  rcases h3 with h4 | h4
  · exact Or.inl (by rw [← h2]; exact am_has_in h4)
  · exact Or.inr ⟨h9, h4⟩
end
section
/-! THE SMALL MACHINE AND THE MACHINE: null, signs -/
section SIM
variable {p : Program} {l : Launch} {e : Env} {R : Room} {s : State} {m : MethodId} {args : Array Value} {below : List Frame} {meth : Method} {c : Code} {H : Heap} {locs : List Loc} {cells slots : Nat} {Q : State → Prop}
variable {X : am_X} {mi pc pc' : Nat} {ls ls' st st' : List AV} {g g' : AG} {M M' : AM} {lsM : Array Slot}
theorem am_nul_ok (hG : am_Gl X) {a : Nat} {b : Bool} (h : am_nul a = some b) : (b = true ∧ am_V X (aR a) = .null) ∨ (b = false ∧ ∃ q, am_V X (aR a) = .ref q) := by
  unfold am_nul at h
  split at h
  · next h0 =>
    cases h
    refine Or.inl ⟨rfl, ?_⟩
    show am_ad X a = _
    unfold am_ad
    rw [if_pos h0]
  · next h0 =>
    split at h
    · next h1 =>
      cases h
      refine Or.inr ⟨rfl, ?_⟩
      show ∃ q, am_ad X a = _
      unfold am_ad
      rw [if_neg h0]
      by_cases h2 : a < 100
      · rw [if_pos h2]
        by_cases h3 : a % 2 = 0
        · obtain ⟨aa, vv, p1, p2, -⟩ := hG.2.2.2.1 ((a - 10) / 2) (by omega)
          exact ⟨aa, by rw [← p1]; congr 1; omega⟩
        · obtain ⟨aa, vv, p1, p2, -⟩ := hG.2.2.2.1 ((a - 11) / 2) (by omega)
          exact ⟨vv, by rw [← p2]; congr 1; omega⟩
      · rw [if_neg h2]
        exact ⟨_, rfl⟩
    · cases h
theorem am_s_ineg (hG : am_Gl X) (hF : am_Fx X p l s m args meth c mi) (hR : am_Rel X g M H) (hl : lv_has lsM (am_nL mi) (am_lv X ls)) (hn : ls.length = am_nL mi) (hq : ∀ q ∈ locs, xB X ≤ q.base)
    (hi : am_ins mi pc = some (.ineg)) (h : am_step mi pc (.ineg) ls st g M = some (pc', ls', st', g', M')) (kk : am_KK X p l e R s m args below meth c cells slots Q mi g pc' ls' st' g' M') :
    W p l e R s m args below meth c H locs cells slots Q (F0 m pc lsM (st.map (am_V X))) := by
  obtain ⟨hx, hb, hml, hown, hts, -⟩ := hF
  dsimp only [am_step, am_un] at h
  split at h
  · next x st2 =>
    simp only [Option.some.injEq, Prod.mk.injEq] at h
    obtain ⟨rfl, rfl, rfl, rfl, rfl⟩ := h
    refine lv_ineg hx hb (am_dec hi rfl) ?_
    have k9 := kk H lsM locs cells slots rfl rfl hR hl hn hq
    rw [List.map_cons, show am_V X (aI (-x)) = .int (Int32.ofInt (-x)) from rfl] at k9
    rw [show -Int32.ofInt x = Int32.ofInt (-x) from (Int32.ofInt_neg x).symm]
    exact k9
  · cases h
theorem am_s_aconst_null (hG : am_Gl X) (hF : am_Fx X p l s m args meth c mi) (hR : am_Rel X g M H) (hl : lv_has lsM (am_nL mi) (am_lv X ls)) (hn : ls.length = am_nL mi) (hq : ∀ q ∈ locs, xB X ≤ q.base)
    (hi : am_ins mi pc = some (.aconst_null)) (h : am_step mi pc (.aconst_null) ls st g M = some (pc', ls', st', g', M')) (kk : am_KK X p l e R s m args below meth c cells slots Q mi g pc' ls' st' g' M') :
    W p l e R s m args below meth c H locs cells slots Q (F0 m pc lsM (st.map (am_V X))) := by
  obtain ⟨hx, hb, hml, hown, hts, -⟩ := hF
  dsimp only [am_step] at h
  simp only [Option.some.injEq, Prod.mk.injEq] at h
  obtain ⟨rfl, rfl, rfl, rfl, rfl⟩ := h
  exact lv_null hx hb (am_dec hi rfl) (kk H lsM locs cells slots rfl rfl hR hl hn hq)
theorem am_s_ifnull (hG : am_Gl X) (hF : am_Fx X p l s m args meth c mi) (hR : am_Rel X g M H) (hl : lv_has lsM (am_nL mi) (am_lv X ls)) (hn : ls.length = am_nL mi) (hq : ∀ q ∈ locs, xB X ≤ q.base) {off : Int}
    (hi : am_ins mi pc = some (.ifnull off)) (h : am_step mi pc (.ifnull off) ls st g M = some (pc', ls', st', g', M')) (kk : am_KK X p l e R s m args below meth c cells slots Q mi g pc' ls' st' g' M') :
    W p l e R s m args below meth c H locs cells slots Q (F0 m pc lsM (st.map (am_V X))) := by
  obtain ⟨hx, hb, hml, hown, hts, -⟩ := hF
  dsimp only [am_step, am_if] at h
  split at h
  · next a st2 =>
    split at h
    · next b e1 =>
      split at h
      · next h0 =>
        rw [List.map_cons]
        rcases am_nul_ok hG e1 with ⟨rfl, h2⟩ | ⟨rfl, q, h2⟩
        · rw [h2]
          simp only [if_true, Option.some.injEq, Prod.mk.injEq] at h
          obtain ⟨rfl, rfl, rfl, rfl, rfl⟩ := h
          exact lv_ifnullN hx hb (am_dec hi rfl) (am_tn h0) (kk H lsM locs cells slots rfl rfl hR hl hn hq)
        · rw [h2]
          simp only [Bool.false_eq_true, if_false, Option.some.injEq, Prod.mk.injEq] at h
          obtain ⟨rfl, rfl, rfl, rfl, rfl⟩ := h
          exact lv_ifnull hx hb (am_dec hi rfl) (kk H lsM locs cells slots rfl rfl hR hl hn hq)
      · cases h
    · cases h
  · cases h
theorem am_s_ifnonnull (hG : am_Gl X) (hF : am_Fx X p l s m args meth c mi) (hR : am_Rel X g M H) (hl : lv_has lsM (am_nL mi) (am_lv X ls)) (hn : ls.length = am_nL mi) (hq : ∀ q ∈ locs, xB X ≤ q.base) {off : Int}
    (hi : am_ins mi pc = some (.ifnonnull off)) (h : am_step mi pc (.ifnonnull off) ls st g M = some (pc', ls', st', g', M')) (kk : am_KK X p l e R s m args below meth c cells slots Q mi g pc' ls' st' g' M') :
    W p l e R s m args below meth c H locs cells slots Q (F0 m pc lsM (st.map (am_V X))) := by
  obtain ⟨hx, hb, hml, hown, hts, -⟩ := hF
  dsimp only [am_step, am_if] at h
  split at h
  · next a st2 =>
    split at h
    · next b e1 =>
      split at h
      · next h0 =>
        rw [List.map_cons]
        rcases am_nul_ok hG e1 with ⟨rfl, h2⟩ | ⟨rfl, q, h2⟩
        · rw [h2]
          simp only [Bool.not_true, Bool.false_eq_true, if_false, Option.some.injEq, Prod.mk.injEq] at h
          obtain ⟨rfl, rfl, rfl, rfl, rfl⟩ := h
          exact lv_ifnonnullN hx hb (am_dec hi rfl) (kk H lsM locs cells slots rfl rfl hR hl hn hq)
        · rw [h2]
          simp only [Bool.not_false, if_true, Option.some.injEq, Prod.mk.injEq] at h
          obtain ⟨rfl, rfl, rfl, rfl, rfl⟩ := h
          exact lv_ifnonnull hx hb (am_dec hi rfl) (am_tn h0) (kk H lsM locs cells slots rfl rfl hR hl hn hq)
      · cases h
    · cases h
  · cases h
theorem am_s_dup_x1 (hG : am_Gl X) (hF : am_Fx X p l s m args meth c mi) (hR : am_Rel X g M H) (hl : lv_has lsM (am_nL mi) (am_lv X ls)) (hn : ls.length = am_nL mi) (hq : ∀ q ∈ locs, xB X ≤ q.base)
    (hi : am_ins mi pc = some (.dup_x1)) (h : am_step mi pc (.dup_x1) ls st g M = some (pc', ls', st', g', M')) (kk : am_KK X p l e R s m args below meth c cells slots Q mi g pc' ls' st' g' M') :
    W p l e R s m args below meth c H locs cells slots Q (F0 m pc lsM (st.map (am_V X))) := by
  obtain ⟨hx, hb, hml, hown, hts, -⟩ := hF
  dsimp only [am_step] at h
  split at h
  · next v w st2 =>
    split at h
    · next h1 =>
      simp only [Option.some.injEq, Prod.mk.injEq] at h
      obtain ⟨rfl, rfl, rfl, rfl, rfl⟩ := h
      exact lv_dup_x1 hx hb (am_dec hi rfl) (by rw [am_catV X hG]; exact h1.1) (by rw [am_catV X hG]; exact h1.2) (kk H lsM locs cells slots rfl rfl hR hl hn hq)
    · cases h
  · cases h
theorem am_s_ldc2_w (hG : am_Gl X) (hF : am_Fx X p l s m args meth c mi) (hR : am_Rel X g M H) (hl : lv_has lsM (am_nL mi) (am_lv X ls)) (hn : ls.length = am_nL mi) (hq : ∀ q ∈ locs, xB X ≤ q.base) {idx : Nat}
    (hi : am_ins mi pc = some (.ldc2_w idx)) (h : am_step mi pc (.ldc2_w idx) ls st g M = some (pc', ls', st', g', M')) (kk : am_KK X p l e R s m args below meth c cells slots Q mi g pc' ls' st' g' M') :
    W p l e R s m args below meth c H locs cells slots Q (F0 m pc lsM (st.map (am_V X))) := by
  have hw := fun w h => hF.2.2.2.2.1 w h
  obtain ⟨hx, hb, hml, hown, hts, -⟩ := hF
  dsimp only [am_step] at h
  split at h
  · next h1 =>
    obtain ⟨oc, rfl⟩ := h1
    simp only [Option.some.injEq, Prod.mk.injEq] at h
    obtain ⟨rfl, rfl, rfl, rfl, rfl⟩ := h
    have ho : am_own mi = "RodYardLaw" := by unfold am_own; rw [oc]; decide +kernel
    rw [ho] at hown
    exact lv_ldc2 hx hb hown (hw _ am_w_cl99) (am_dec hi rfl) (kk H lsM locs cells slots rfl rfl hR hl hn hq)
  · cases h
end SIM
end
section
/-! THE SMALL MACHINE AND THE MACHINE: the heap -/
def va_AOA (t : FieldType) (U : State) : Prop := (Cond.arrayOver (.array t)).before #[] U = true
theorem va_AOA.moved {t : FieldType} {u U : State} (hvm : u.vm.Alike U.vm) (h : va_AOA t u) : va_AOA t U := by
  obtain ⟨comp, c, k, h1, h2, h3, h4, h5⟩ := arrayOverA_spec h
  obtain ⟨k', hk', he⟩ := hvm.2.2 _ _ h3
  have hi : (U.vm.classes.findIdx? fun (x : Class) => match x.kind with | .array component _ => component == comp | _ => false) = some c := by
    rw [hvm.findIdx?_eq _ (fun _ => rfl)]
    exact h2
  have hkind : k'.kind = .array comp (.array t) := by rw [he]; exact h4
  have f1 : U.vm.findClass (FieldType.array t).toString = some comp := by rw [hvm.findClass]; exact h1
  have f2 : U.vm.findClass ("[" ++ (FieldType.array t).toString) = some c := by rw [hvm.findClass]; exact h5
  unfold va_AOA Cond.before Cond.holds
  simp only [Cond.value]
  rw [f1, Option.bind_some]
  refine (congrArg (fun o : Option Nat => (o.bind (fun c => (U.vm.classes[c]?).map fun (k : Class) => match k.kind with | .array _ ty => decide (ty = FieldType.array t) && decide (U.vm.findClass ("[" ++ (FieldType.array t).toString) = some c) | _ => false) == some true)) hi).trans ?_
  simp [hk', hkind, f2]
theorem am_ad_new {X : am_X} {r : Nat} (h : 100 ≤ r) : am_ad X r = .ref (xB X + (r - 100)) := by
  unfold am_ad
  rw [if_neg (by omega), if_neg (by omega)]
theorem am_k0_cases (r : Nat) : am_k0 r = 28 ∧ r = 1 ∨ am_k0 r = 14 ∧ (∃ j, j < 16 ∧ r = 10 + 2 * j) ∨ am_k0 r = 27 ∧ ((∃ j, j < 16 ∧ r = 11 + 2 * j) ∨ r = 50 ∨ r = 51) ∨ am_k0 r = 99 := by
  unfold am_k0
  split
  · exact Or.inl ⟨rfl, by assumption⟩
  · split
    · split
      · exact Or.inr (Or.inl ⟨rfl, (r - 10) / 2, by omega, by omega⟩)
      · exact Or.inr (Or.inr (Or.inl ⟨rfl, Or.inl ⟨(r - 11) / 2, by omega, by omega⟩⟩))
    · split
      · exact Or.inr (Or.inr (Or.inl ⟨rfl, Or.inr (by assumption)⟩))
      · exact Or.inr (Or.inr (Or.inr rfl))
theorem am_R_new {X : am_X} {g : AG} {M : AM} {H : Heap} (hR : am_Rel X g M H) {r : Nat} (h1 : gK g r < 27) (h2 : gK g r ≠ 14) : 100 ≤ r ∧ r < 100 + gN g ∧ am_OK X g M H r := by
  obtain ⟨-, -, hO, h99, hok⟩ := hR
  have ha : 100 ≤ r := by
    rcases Nat.lt_or_ge r 100 with q | q
    · have := hO.1 r q
      rcases am_k0_cases r with h | h | h | h <;> omega
    · exact q
  have hb : r < 100 + gN g := by
    rcases Nat.lt_or_ge r (100 + gN g) with q | q
    · exact q
    · have := h99 r q; omega
  exact ⟨ha, hb, hok r ha hb⟩
theorem am_R_obj {X : am_X} {g : AG} {M : AM} {H : Heap} (hR : am_Rel X g M H) {r : Nat} (h1 : am_ob (gK g r)) : 100 ≤ r ∧ r < 100 + gN g ∧ t_OB (xB X + (r - 100)) ((xD X).1 (gK g r)) (am_nf (gK g r)) ((xD X).2 (gK g r)) H (am_fv X g M r) := by
  obtain ⟨ha, hb, h⟩ := am_R_new hR (r := r) (by omega) (by omega)
  refine ⟨ha, hb, ?_⟩
  rcases h with h | h | h
  · exact h.2
  · omega
  · omega
theorem am_R_arr {X : am_X} {g : AG} {M : AM} {H : Heap} (hR : am_Rel X g M H) {r : Nat} (h0 : 20 ≤ gK g r) (h1 : gK g r < 27) : 100 ≤ r ∧ r < 100 + gN g ∧ gL g r < 1000000 ∧ H[xB X + (r - 100)]? = some (arrV (xA X (gK g r)) (gL g r) (am_av X g M r)) := by
  obtain ⟨ha, hb, h⟩ := am_R_new hR (r := r) (by omega) (by omega)
  refine ⟨ha, hb, ?_⟩
  rcases h with h | h | h
  · omega
  · exact ⟨h.2.2.1, h.2.2.2.1⟩
  · omega
theorem am_R_byt {X : am_X} {g : AG} {M : AM} {H : Heap} (hR : am_Rel X g M H) {r : Nat} (h0 : gK g r = 21) : ∀ j : Nat, j < gL g r → -128 ≤ M r j ∧ M r j < 128 := by
  obtain ⟨ha, hb, h⟩ := am_R_new hR (r := r) (by omega) (by omega)
  rcases h with h | h | h
  · have := h.1; omega
  · exact h.2.2.2.2 h0
  · omega
theorem am_idx {i : Int} {n : Nat} (h0 : 0 ≤ i) (h1 : i < n) (hn : n < 2147483648) : ¬ (Int32.ofInt i < 0 ∨ n ≤ (Int32.ofInt i).toNatClampNeg) ∧ (Int32.ofInt i).toNatClampNeg = i.toNat := by
  have e : (Int32.ofInt i).toInt = i := by rw [am_toI, wr_id (by omega) (by omega)]
  have e2 : (Int32.ofInt i).toNatClampNeg = i.toNat := by show (Int32.ofInt i).toInt.toNat = _; rw [e]
  refine ⟨?_, e2⟩
  rw [e2]
  intro q
  rcases q with q | q
  · rw [am_0I, am_ltI, wr_id (x := i) (by omega) (by omega), wr_0] at q; omega
  · omega
theorem am_Rel_set {X : am_X} {g g' : AG} {M M' : AM} {H H' : Heap} (hR : am_Rel X g M H) {a : Nat} (ha : 100 ≤ a) (ha2 : a < 100 + gN g) (hn : gN g' = gN g) (hk : gK g' = gK g) (hL : gL g' = gL g) (hr : ∀ r, r ≠ a → gR g' r = gR g r ∧ M' r = M r)
    (hz : H'.size = H.size) (ho : ∀ q, q ≠ xB X + (a - 100) → H'[q]? = H[q]?) (hOK : am_OK X g' M' H' a) : am_Rel X g' M' H' := by
  obtain ⟨h1, h2, ⟨o1, o2, o3, o4, o5, o6⟩, h4, h5⟩ := hR
  refine ⟨by rw [hz, h1, hn], fun q hq => by rw [ho q (by omega)]; exact h2 q hq, ⟨fun r hr2 => by rw [hk]; exact o1 r hr2, by rw [hL]; exact o2, fun j hj => by rw [(hr 1 (by omega)).2]; exact o3 j hj, fun j hj => ?_, ⟨by rw [hL]; exact o5.1, fun i hi => by rw [(hr 50 (by omega)).2]; exact o5.2 i hi⟩, ⟨by rw [hL]; exact o6.1, fun i hi => by rw [(hr 51 (by omega)).2]; exact o6.2 i hi⟩⟩, fun r hr2 => by rw [hk]; exact h4 r (by rw [← hn]; exact hr2), fun r hr1 hr2 => ?_⟩
  · obtain ⟨p1, p2, p3⟩ := o4 j hj
    refine ⟨by rw [(hr (10 + 2 * j) (by omega)).1]; exact p1, by rw [hL]; exact p2, fun i hi => by rw [(hr (11 + 2 * j) (by omega)).2]; exact p3 i hi⟩
  · by_cases e : r = a
    · rw [e]; exact hOK
    · have hq := ho (xB X + (r - 100)) (by omega)
      rw [hn] at hr2
      obtain ⟨e1, e2⟩ := hr r e
      have e3 : am_fv X g' M' r = am_fv X g M r := by unfold am_fv; rw [hk, e1, e2]
      have e4 : am_av X g' M' r = am_av X g M r := by unfold am_av; rw [hk, e1, e2]
      rcases h5 r hr1 hr2 with h | h | h
      · exact Or.inl ⟨by rw [hk]; exact h.1, by rw [hk, e3]; exact h.2.kept hq⟩
      · exact Or.inr (Or.inl ⟨by rw [hk]; exact h.1, by rw [hk]; exact h.2.1, by rw [hL]; exact h.2.2.1, by rw [hk, hL, e4, hq]; exact h.2.2.2.1, by rw [hk, hL, e2]; exact h.2.2.2.2⟩)
      · exact Or.inr (Or.inr (by rw [hk]; exact h))
section SIM
variable {p : Program} {l : Launch} {e : Env} {R : Room} {s : State} {m : MethodId} {args : Array Value} {below : List Frame} {meth : Method} {c : Code} {H : Heap} {locs : List Loc} {cells slots : Nat} {Q : State → Prop}
variable {X : am_X} {mi pc pc' : Nat} {ls ls' st st' : List AV} {g g' : AG} {M M' : AM} {lsM : Array Slot}
theorem am_Kof (hG : am_Gl X) (hF : am_Fx X p l s m args meth c mi) : va_K (xD X) am_cl (am_tys X) s := va_K.moved (hF.2.2.2.2.2.2.2.2.2.2.1.alike) hG.1
theorem am_arr (hG : am_Gl X) (hF : am_Fx X p l s m args meth c mi) {k : Nat} (h0 : 20 ≤ k) (h1 : k < 27) : ArrOfT s (xA X k) (am_aty k) ∧ va_RA s (xA X k) (am_aty k) := by
  have hK := am_Kof hG hF
  rcases (show k = 20 ∨ k = 21 ∨ k = 22 ∨ k = 23 ∨ k = 24 ∨ k = 25 ∨ k = 26 by omega) with rfl | rfl | rfl | rfl | rfl | rfl | rfl
  · exact hK.2 0 _ rfl
  · exact hK.2 1 _ rfl
  · exact hK.2 2 _ rfl
  · exact hK.2 3 _ rfl
  · exact hK.2 4 _ rfl
  · exact hK.2 5 _ rfl
  · exact hK.2 6 _ rfl
theorem am_wd (hF : am_Fx X p l s m args meth c mi) {w : Jvm.Cond} (h : w ∈ am_ws) : w.before args s = true := hF.2.2.2.2.1 w h
theorem am_s_getfield (hG : am_Gl X) (hF : am_Fx X p l s m args meth c mi) (hR : am_Rel X g M H) (hl : lv_has lsM (am_nL mi) (am_lv X ls)) (hn : ls.length = am_nL mi) (hq : ∀ q ∈ locs, xB X ≤ q.base) {idx : Nat}
    (hi : am_ins mi pc = some (.getfield idx)) (h : am_step mi pc (.getfield idx) ls st g M = some (pc', ls', st', g', M')) (kk : am_KK X p l e R s m args below meth c cells slots Q mi g pc' ls' st' g' M') :
    W p l e R s m args below meth c H locs cells slots Q (F0 m pc lsM (st.map (am_V X))) := by
  have hK := am_Kof hG hF
  have hw := fun w h => am_wd (w := w) hF h
  have hW : (xS X).WarmedH s.vm := hF.2.2.2.2.2.2.2.2.2.2.1
  have hal : (xS X).vm.Alike s.vm := hF.2.2.2.2.2.2.2.2.2.2.1.alike
  obtain ⟨hx, hb, hml, hown, hts, -⟩ := hF
  dsimp only [am_step, am_getf] at h
  split at h
  · next a st2 =>
    split at h
    · next h14 =>
      -- a text
      have ha : a < 100 := by
        rcases Nat.lt_or_ge a 100 with q | q
        · exact q
        · rcases Nat.lt_or_ge a (100 + gN g) with q2 | q2
          · rcases hR.2.2.2.2 a q q2 with h | h | h
            · have := h.1; omega
            · omega
            · omega
          · have := hR.2.2.2.1 a q2; omega
      obtain ⟨j, hj, rfl⟩ : ∃ j, j < 16 ∧ a = 10 + 2 * j := by
        have := hR.2.2.1.1 a ha
        rcases am_k0_cases a with h | h | h | h
        · omega
        · exact h.2
        · omega
        · omega
      obtain ⟨aa, vv, p1, p2, p3, p4, p5, p6⟩ := hG.2.2.2.1 j hj
      have e1 : am_V X (aR (10 + 2 * j)) = .ref aa := by
        show am_ad X _ = _
        unfold am_ad
        rw [if_neg (by omega), if_pos (by omega), p1]
      have e2 : am_V X (aR (11 + 2 * j)) = .ref vv := by
        show am_ad X _ = _
        unfold am_ad
        rw [if_neg (by omega), if_pos (by omega), p2]
      rw [List.map_cons, e1]
      split at h
      · next h1 =>
        simp only [Option.some.injEq, Prod.mk.injEq] at h
        obtain ⟨rfl, rfl, rfl, rfl, rfl⟩ := h
        obtain ⟨oc, rfl⟩ := h1
        rw [show am_own mi = "java/lang/String" by unfold am_own; rw [oc]; decide +kernel] at hown
        obtain ⟨cf, k, i, f, cell, q1, q2, q3, q4, q5, q6⟩ := va_OF.moved hal p5
        have k9 := kk H lsM locs cells slots rfl rfl hR hl hn hq
        rw [(hR.2.2.1.2.2.2.1 j hj).1, List.map_cons, e2] at k9
        exact W.getf hx hb hown (hw _ am_w_strv) q1 q2 (by rw [hR.2.1 aa (Nat.not_le.mp q6)]; exact q3) q4 q5 rfl rfl (am_dec hi rfl) k9
      · split at h
        · next h0 h1 =>
          simp only [Option.some.injEq, Prod.mk.injEq] at h
          obtain ⟨rfl, rfl, rfl, rfl, rfl⟩ := h
          obtain ⟨oc, rfl⟩ := h1
          rw [show am_own mi = "java/lang/String" by unfold am_own; rw [oc]; decide +kernel] at hown
          obtain ⟨cf, k, i, f, cell, q1, q2, q3, q4, q5, q6⟩ := va_OF.moved hal p4
          exact W.getf hx hb hown (hw _ am_w_strc) q1 q2 (by rw [hR.2.1 aa (Nat.not_le.mp q6)]; exact q3) q4 q5 rfl rfl (am_dec hi rfl) (kk H lsM locs cells slots rfl rfl hR hl hn hq)
        · cases h
    · next h14 =>
      split at h
      · next i0 ci k pz e1 =>
        split at h
        · next h1 =>
          obtain ⟨h1, h2⟩ := h1
          obtain ⟨-, f1, f2, f3⟩ := am_fl_ok e1
          dsimp only at f1 f2 f3
          obtain ⟨ha, hb2, cell, q1, q2, q3, q4⟩ := am_R_obj hR (r := a) (by rw [h1]; exact f1)
          rw [h1] at q2 q4
          obtain ⟨c1, c2⟩ := am_nf_ok ci (by omega)
          obtain ⟨hS, hfc, kC, hkC, hkind⟩ := hK.1 ci _ c1
          obtain ⟨cf, kf, fi, f, hi2, hsl⟩ := hS k (by rw [c2]; exact h2)
          have hst := (u_facts hfc hkC (u_lays hts (am_uok (by omega)) (k := k) (by rw [c2]; exact h2)) hi2).1
          rw [List.map_cons, show am_V X (aR a) = .ref (xB X + (a - 100)) from am_ad_new ha]
          have hv : cell.slots[f.slot]? = some (am_fv X g M a k) := by rw [hsl]; exact q4 k h2
          have key : ∀ v : Value, cell.slots[f.slot]? = some v → W p l e R s m args below meth c H locs cells slots Q (F0 m (pc + 3) lsM (v :: st2.map (am_V X))) → W p l e R s m args below meth c H locs cells slots Q (F0 m pc lsM (.ref (xB X + (a - 100)) :: st2.map (am_V X))) := by
            intro v hv k9
            rcases f3 with f3 | f3
            · exact W.getf hx hb hown (hw _ f3) hi2 hst q1 (by rw [q3]; exact fun h => by cases h) hv rfl rfl (am_dec hi rfl) k9
            · exact va_Wgetf hx hb hown (va_Nw.use rfl (va_Nw.warmF hW (hG.2.2.2.2.2.2.2.2.2.1 _ f3 rfl))) hi2 hst q1 (by rw [q3]; exact fun h => by cases h) hv rfl rfl (am_dec hi rfl) k9
          refine key _ hv ?_
          unfold am_fv
          rw [h1]
          split at h
          · next h3 =>
            simp only [Option.some.injEq, Prod.mk.injEq] at h
            obtain ⟨rfl, rfl, rfl, rfl, rfl⟩ := h
            rw [if_pos h3]
            exact kk H lsM locs cells slots rfl rfl hR hl hn hq
          · next h3 =>
            simp only [Option.some.injEq, Prod.mk.injEq] at h
            obtain ⟨rfl, rfl, rfl, rfl, rfl⟩ := h
            rw [if_neg h3]
            exact kk H lsM locs cells slots rfl rfl hR hl hn hq
        · cases h
      · cases h
  · cases h
end SIM
end
section
/-! THE SMALL MACHINE AND THE MACHINE: fields written, statics, constants -/
theorem am_fitR {ty : FieldType} (h : ty.isReference = true) {v : Value} (hv : v = .null ∨ ∃ a, v = .ref a) : narrow ty v = v ∧ fits ty v = true := by
  rcases hv with rfl | ⟨a, rfl⟩ <;> cases ty <;> first | exact ⟨rfl, rfl⟩ | cases h
section SIM
variable {p : Program} {l : Launch} {e : Env} {R : Room} {s : State} {m : MethodId} {args : Array Value} {below : List Frame} {meth : Method} {c : Code} {H : Heap} {locs : List Loc} {cells slots : Nat} {Q : State → Prop}
variable {X : am_X} {mi pc pc' : Nat} {ls ls' st st' : List AV} {g g' : AG} {M M' : AM} {lsM : Array Slot}
theorem am_ftf {ci k : Nat} (h : ci < 20) (hk : k < am_nf ci) : parseFieldDescriptor ((am_cr ci).2.1 k).2.2.1 = some (am_fty ci k) ∧ (am_fkd ci k % 4 = 1 ↔ (am_fty ci k).isReference = true) ∧ (am_fkd ci k % 4 = 0 ↔ am_fty ci k = .int) ∧ (am_fkd ci k % 4 = 2 ↔ am_fty ci k = .boolean) ∧ (4 ≤ am_fkd ci k ↔ ((am_cr ci).2.1 k).2.2.2 = true) ∧ (am_fkd ci k < 4 ∨ ((am_cr ci).2.1 k).1 = (am_cr ci).1) ∧ (am_fkd ci k % 4 = 3 ↔ am_fty ci k = .byte) := by
  have h1 := am_all (am_all am_ft_chk h) hk
  unfold am_ftok at h1
  simp only [Bool.and_eq_true, Bool.or_eq_true, decide_eq_true_eq] at h1
  obtain ⟨⟨⟨⟨⟨⟨a, b⟩, c1⟩, d⟩, d3⟩, e1⟩, f⟩ := h1
  have t : ∀ x y : Bool, (x == y) = true → (x = true ↔ y = true) := by decide
  refine ⟨a, ?_, ?_, ?_, ?_, f, ?_⟩
  · have := t _ _ b; simpa using this
  · have := t _ _ c1; simpa using this
  · have := t _ _ d; simpa using this
  · have := t _ _ e1; simpa using this
  · have := t _ _ d3; simpa using this
theorem am_putany (hG : am_Gl X) (hF : am_Fx X p l s m args meth c mi) (hR : am_Rel X g M H) (hq : ∀ q ∈ locs, xB X ≤ q.base) {idx a ci k : Nat} {v : Value} {rest : List Value} (h1 : gK g a = ci) (f1 : am_ob ci) (h2 : k < am_nf ci) (hfin : am_finok mi ci k = true)
    (hlink : Cond.fieldLink (am_own mi) idx ((am_cr ci).2.1 k).1 ((am_cr ci).2.1 k).2.1 ((am_cr ci).2.1 k).2.2.1 ∈ am_ws ∨ (Cond.fieldLinkNest (am_own mi) idx ((am_cr ci).2.1 k).1 ((am_cr ci).2.1 k).2.1 ((am_cr ci).2.1 k).2.2.1 "RodYardLaw" ∈ lw_tbl ∧ am_own mi ≠ am_cn ci)) (hnr : narrow (am_fty ci k) v = v) (hft : fits (am_fty ci k) v = true) (hi : am_ins mi pc = some (.putfield idx))
    (e1 : gN g' = gN g) (e2 : gK g' = gK g) (e3 : gL g' = gL g) (e4 : ∀ r, r ≠ a → gR g' r = gR g r ∧ M' r = M r) (hv : ∀ j, j < am_nf ci → am_fv X g' M' a j = if j = k then v else am_fv X g M a j)
    (kk : ∀ (H' : Heap) (locs' : List Loc), am_Rel X g' M' H' → (∀ q ∈ locs', xB X ≤ q.base) → W p l e R s m args below meth c H' locs' cells slots Q (F0 m (pc + 3) lsM rest)) :
    W p l e R s m args below meth c H locs cells slots Q (F0 m pc lsM (v :: .ref (xB X + (a - 100)) :: rest)) := by
  have hK := am_Kof hG hF
  have hw := fun w h => am_wd (w := w) hF h
  have hW : (xS X).WarmedH s.vm := hF.2.2.2.2.2.2.2.2.2.2.1
  obtain ⟨hx, hb, hml, hown, hts, -, -, -, hnam, -⟩ := hF
  obtain ⟨ha, hb2, cell, q1, q2, q3, q4⟩ := am_R_obj hR (r := a) (by rw [h1]; exact f1)
  rw [h1] at q2 q4
  have f1' : ci < 20 := by omega
  obtain ⟨c1, c2⟩ := am_nf_ok ci f1'
  obtain ⟨t1, t2, t3, t4, t5, t6, t7⟩ := am_ftf f1' h2
  have hk2 : k < (am_cr ci).2.2 := by rw [c2]; exact h2
  have hap := va_apart (own := am_own mi) hts (am_uok f1') (am_fty ci) (fun j hj => (am_ftf f1' (by rw [c2] at hj; exact hj)).1) (fun x hx y hy hne => by
    have h3 := am_all (am_all (am_all am_nm_chk f1') (i := x) (by rw [c2] at hx; exact hx)) (i := y) (by rw [c2] at hy; exact hy)
    simp only [Bool.or_eq_true, decide_eq_true_eq, Bool.not_eq_true', decide_eq_false_iff_not] at h3
    rcases h3 with h3 | h3
    · exact absurd h3 hne
    · exact h3) hK c1
  obtain ⟨hS, hfc, kC, hkC, hkind⟩ := hK.1 ci _ c1
  obtain ⟨cf, kf, fi, f, hi2, hsl⟩ := hS k hk2
  have hst := (u_facts hfc hkC (u_lays hts (am_uok f1') (k := k) hk2) hi2).1
  have hlay := hts _ (am_uok f1' _ (u_in_lay hk2))
  unfold u_lay at hlay
  have hlt : f.slot < cell.slots.size := by rw [hsl]; exact k2_hasslot (q4 k h2)
  have fin : ∀ H' : Heap, H'[xB X + (a - 100)]? = some (cell.setSlot f.slot v) → H'.size = H.size → (∀ q, q ≠ xB X + (a - 100) → H'[q]? = H[q]?) → W p l e R s m args below meth c H' (locs ++ [⟨xB X + (a - 100), f.slot⟩]) cells slots Q (F0 m (pc + 3) lsM rest) := by
    intro H' z1 z2 z3
    refine kk H' _ (am_Rel_set hR ha hb2 e1 e2 e3 e4 z2 z3 (Or.inl ?_)) (fun q hq2 => ?_)
    · rw [e2, h1]
      refine ⟨f1, cell.setSlot f.slot v, z1, q2, q3, fun j hj => ?_⟩
      rw [hsl, t_set q4 (fun x y hx hy => hap x y (by rw [c2]; exact hx) (by rw [c2]; exact hy)) h2 v j hj, hv j hj]
      rfl
    · rcases List.mem_append.mp hq2 with h | h
      · exact hq q h
      · rw [List.mem_singleton.mp h]; exact Nat.le_add_right _ _
  by_cases h4 : am_fkd ci k < 4
  · have h5 : ((am_cr ci).2.1 k).2.2.2 = false := by
      cases h6 : ((am_cr ci).2.1 k).2.2.2
      · rfl
      · have := t5.mpr h6; omega
    rw [if_neg (by rw [h5]; decide)] at hlay
    have h6 := u_store hfc hkC hkind hlay hi2 t1 hnr hft
    rcases hlink with hlink | ⟨hlink, -⟩
    · exact W.putK hx hb (f := f) ⟨hown, hw _ hlink, ⟨_, _, _, hi2⟩, hst⟩ (by rw [q2]; exact h6) q1 q3 hlt rfl rfl (am_dec hi rfl) fin
    · exact va_WputK hx hb (f := f) hown (va_Nw.use rfl (va_Nw.warmF hW (hG.2.2.2.2.2.2.2.2.2.1 _ hlink rfl))) hi2 hst (by rw [q2]; exact h6) q1 q3 hlt rfl rfl (am_dec hi rfl) fin
  · have h5 : ((am_cr ci).2.1 k).2.2.2 = true := t5.mp (by omega)
    rw [if_pos h5] at hlay
    unfold am_finok at hfin
    simp only [Bool.or_eq_true, Bool.and_eq_true, decide_eq_true_eq] at hfin
    rcases hfin with h7 | ⟨h7, h8⟩
    · exact absurd h7 h4
    have hcf : m.cls = cf := by
      obtain ⟨_, _, c', _, _, _, -, -, hf', -, -, -, hown2, -⟩ := Cond.laysFinal_spec hlay
      have e1 : c' = cf := by have := hi2.symm.trans hf'; simp at this; exact this.1.symm
      rw [t6.resolve_left h4, am_cn_ok ci f1, ← h8] at hown2
      rw [← e1]; exact Option.some.inj (hown.symm.trans hown2)
    have h6 := u_fits hfc hkC hkind (Or.inr hlay) hi2 t1 hnr hft
    exact W.putFinK hx hb hown (hw _ (hlink.resolve_right (fun h9 => h9.2 h8))) hi2 hst hcf (hnam.trans h7) (by rw [q2]; exact h6) q1 q3 hlt rfl rfl (am_dec hi rfl) fin
theorem am_s_putfield (hG : am_Gl X) (hF : am_Fx X p l s m args meth c mi) (hR : am_Rel X g M H) (hl : lv_has lsM (am_nL mi) (am_lv X ls)) (hn : ls.length = am_nL mi) (hq : ∀ q ∈ locs, xB X ≤ q.base) {idx : Nat}
    (hi : am_ins mi pc = some (.putfield idx)) (h : am_step mi pc (.putfield idx) ls st g M = some (pc', ls', st', g', M')) (kk : am_KK X p l e R s m args below meth c cells slots Q mi g pc' ls' st' g' M') :
    W p l e R s m args below meth c H locs cells slots Q (F0 m pc lsM (st.map (am_V X))) := by
  dsimp only [am_step, am_putf] at h
  split at h
  · next x a st2 =>
    split at h
    · next i0 ci k pz e1 =>
      split at h
      · next h1 =>
        obtain ⟨h1, h2, h3, h4⟩ := h1
        obtain ⟨-, f1, f2, f3⟩ := am_fl_ok e1
        dsimp only at f1 f2 f3
        simp only [Option.some.injEq, Prod.mk.injEq] at h
        obtain ⟨rfl, rfl, rfl, rfl, rfl⟩ := h
        obtain ⟨ha, -⟩ := am_R_obj hR (r := a) (by rw [h1]; exact f1)
        obtain ⟨t1, t2, t3, t4, -, -, t7⟩ := am_ftf (by omega) f2
        rw [List.map_cons, List.map_cons, show am_V X (aR a) = .ref (xB X + (a - 100)) from am_ad_new ha]
        have hnf : narrow (am_fty ci k) (.int (Int32.ofInt x)) = .int (Int32.ofInt x) ∧ fits (am_fty ci k) (.int (Int32.ofInt x)) = true := by
          rcases h4 with h4 | ⟨h4, h5 | h5⟩ | ⟨h4, h5⟩
          · rw [t3.mp h4]; exact ⟨rfl, rfl⟩
          · rw [t4.mp h4, h5]; exact ⟨by decide, by decide⟩
          · rw [t4.mp h4, h5]; exact ⟨by decide, by decide⟩
          · rw [t7.mp h4]
            refine ⟨?_, ?_⟩
            · rw [show narrow .byte (.int (Int32.ofInt x)) = .int (Int32.ofInt (x.bmod 256)) from congrArg Value.int (am_i2b x), Int.bmod_eq_of_le (by omega) (by omega)]
            · show ((-128 : Int32) ≤ Int32.ofInt x && Int32.ofInt x ≤ (127 : Int32)) = true
              rw [show (-128 : Int32) = Int32.ofInt (-128) by decide, show (127 : Int32) = Int32.ofInt 127 by decide]
              have e1 : wr x = x := wr_id (by omega) (by omega)
              have e2 : wr (-128) = -128 := by decide
              have e3 : wr 127 = 127 := by decide
              rw [Bool.and_eq_true, decide_eq_true_eq, decide_eq_true_eq, am_leI, am_leI, e1, e2, e3]
              omega
        refine am_putany (g' := g) (M' := up2 M a k x) hG hF hR hq h1 f1 f2 h3 (am_fl_nst e1 f3) hnf.1 hnf.2 hi rfl rfl rfl (fun r hr => ⟨rfl, by unfold up2 upM; rw [if_neg hr]⟩) (fun j hj => ?_) (fun H' locs' hR' hq' => kk H' lsM locs' cells slots rfl rfl hR' hl hn hq')
        unfold am_fv up2 upM upI
        rw [h1, if_pos rfl]
        by_cases hjk : j = k
        · subst hjk
          rw [if_pos rfl, if_neg (by omega), if_pos rfl]
          rfl
        · rw [if_neg hjk, if_neg (show ¬ ((j : Int) = (k : Int)) by omega)]
      · cases h
    · cases h
  · next x a st2 =>
    split at h
    · next i0 ci k pz e1 =>
      split at h
      · next h1 =>
        obtain ⟨h1, h2, h3, h4⟩ := h1
        obtain ⟨-, f1, f2, f3⟩ := am_fl_ok e1
        dsimp only at f1 f2 f3
        simp only [Option.some.injEq, Prod.mk.injEq] at h
        obtain ⟨rfl, rfl, rfl, rfl, rfl⟩ := h
        obtain ⟨ha, -⟩ := am_R_obj hR (r := a) (by rw [h1]; exact f1)
        obtain ⟨t1, t2, t3, t4, -, -, t7⟩ := am_ftf (by omega) f2
        rw [List.map_cons, List.map_cons, show am_V X (aR a) = .ref (xB X + (a - 100)) from am_ad_new ha]
        have hnf := am_fitR (t2.mp h4) (am_adcase X hG x)
        refine am_putany (g' := (gN g, gS g, gK g, gL g, up2R (gR g) a k x)) (M' := M) hG hF hR hq h1 f1 f2 h3 (am_fl_nst e1 f3) hnf.1 hnf.2 hi rfl rfl rfl (fun r hr => ⟨by show up2R _ _ _ _ r = _; unfold up2R upR; rw [if_neg hr], rfl⟩) (fun j hj => ?_) (fun H' locs' hR' hq' => kk H' lsM locs' cells slots rfl rfl hR' hl hn hq')
        unfold am_fv
        show (if am_fkd (gK g a) j % 4 = 1 then am_ad X (up2R (gR g) a k x a j) else _) = _
        unfold up2R upR
        rw [h1, if_pos rfl]
        by_cases hjk : j = k
        · subst hjk
          rw [if_pos rfl, if_pos h4, if_pos rfl]
          rfl
        · rw [if_neg hjk, if_neg (show ¬ ((j : Int) = (k : Int)) by omega)]
      · cases h
    · cases h
  · cases h
theorem am_s_getstatic (hG : am_Gl X) (hF : am_Fx X p l s m args meth c mi) (hR : am_Rel X g M H) (hl : lv_has lsM (am_nL mi) (am_lv X ls)) (hn : ls.length = am_nL mi) (hq : ∀ q ∈ locs, xB X ≤ q.base) {idx : Nat}
    (hi : am_ins mi pc = some (.getstatic idx)) (h : am_step mi pc (.getstatic idx) ls st g M = some (pc', ls', st', g', M')) (kk : am_KK X p l e R s m args below meth c cells slots Q mi g pc' ls' st' g' M') :
    W p l e R s m args below meth c H locs cells slots Q (F0 m pc lsM (st.map (am_V X))) := by
  have hw := fun w h => am_wd (w := w) hF h
  have hal : (xS X).vm.Alike s.vm := hF.2.2.2.2.2.2.2.2.2.2.1.alike
  obtain ⟨hx, hb, hml, hown, hts, -⟩ := hF
  have row : ∀ {C n d : String} {v : Value} {idx : Nat}, va_Z C n d v (xU X) (xS X) (xS X).heap → (Cond.fieldLink (am_own mi) idx C n d).before args s = true → am_ins mi pc = some (.getstatic idx) → W p l e R s m args below meth c H locs cells slots Q (F0 m (pc + 3) lsM (v :: st.map (am_V X))) → W p l e R s m args below meth c H locs cells slots Q (F0 m pc lsM (st.map (am_V X))) := by
    intro C n d v idx hZ hlk hi k9
    obtain ⟨cf, kf, fi, f, a, cell, z1, z2, z3, z4, z5, z6, z7, z8⟩ := va_Z.moved hal hZ
    exact W.gets hx hb hown hlk z1 z2 z3 z4 (by rw [hR.2.1 a (Nat.not_le.mp z8)]; exact z5) (fun e => by rw [e] at z6; cases z6) z7 rfl (am_dec hi rfl) k9
  dsimp only [am_step] at h
  split at h
  · next h1 =>
    simp only [Option.some.injEq, Prod.mk.injEq] at h
    obtain ⟨rfl, rfl, rfl, rfl, rfl⟩ := h
    rcases h1 with ⟨oc, rfl⟩ | ⟨oc, rfl⟩
    · have ho : am_own mi = "java/lang/String" := by unfold am_own; rw [oc]; decide +kernel
      exact row hG.2.2.1.1 (by rw [ho]; exact hw _ am_w_gs1) hi (kk H lsM locs cells slots rfl rfl hR hl hn hq)
    · have ho : am_own mi = "java/lang/AbstractStringBuilder" := by unfold am_own; rw [oc]; decide +kernel
      exact row hG.2.2.1.1 (by rw [ho]; exact hw _ am_w_gs3) hi (kk H lsM locs cells slots rfl rfl hR hl hn hq)
  · split at h
    · next h0 h1 =>
      obtain ⟨oc, rfl⟩ := h1
      simp only [Option.some.injEq, Prod.mk.injEq] at h
      obtain ⟨rfl, rfl, rfl, rfl, rfl⟩ := h
      have ho : am_own mi = "java/lang/String" := by unfold am_own; rw [oc]; decide +kernel
      exact row hG.2.2.1.2 (by rw [ho]; exact hw _ am_w_gs2) hi (kk H lsM locs cells slots rfl rfl hR hl hn hq)
    · split at h
      · next h1 =>
        obtain ⟨oc, rfl⟩ := h1
        simp only [Option.some.injEq, Prod.mk.injEq] at h
        obtain ⟨rfl, rfl, rfl, rfl, rfl⟩ := h
        have ho : am_own mi = "java/lang/Integer" := by unfold am_own; rw [oc]; decide +kernel
        obtain ⟨v, v1, v2, v3⟩ := hG.2.2.2.2.2.2.2.2.2.2.2.2.1
        have k9 := kk H lsM locs cells slots rfl rfl hR hl hn hq
        rw [List.map_cons, show am_V X (aR 50) = .ref v from v1] at k9
        exact row v2 (by rw [ho]; exact hw _ am_w_gs4) hi k9
      · split at h
        · next h1 =>
          obtain ⟨oc, rfl⟩ := h1
          simp only [Option.some.injEq, Prod.mk.injEq] at h
          obtain ⟨rfl, rfl, rfl, rfl, rfl⟩ := h
          have ho : am_own mi = "java/lang/Integer" := by unfold am_own; rw [oc]; decide +kernel
          obtain ⟨v, v1, v2, v3⟩ := hG.2.2.2.2.2.2.2.2.2.2.2.2.2
          have k9 := kk H lsM locs cells slots rfl rfl hR hl hn hq
          rw [List.map_cons, show am_V X (aR 51) = .ref v from v1] at k9
          exact row v2 (by rw [ho]; exact hw _ am_w_gs5) hi k9
        · cases h
theorem am_s_ldc (hG : am_Gl X) (hF : am_Fx X p l s m args meth c mi) (hR : am_Rel X g M H) (hl : lv_has lsM (am_nL mi) (am_lv X ls)) (hn : ls.length = am_nL mi) (hq : ∀ q ∈ locs, xB X ≤ q.base) {idx : Nat}
    (hi : am_ins mi pc = some (.ldc idx)) (h : am_step mi pc (.ldc idx) ls st g M = some (pc', ls', st', g', M')) (kk : am_KK X p l e R s m args below meth c cells slots Q mi g pc' ls' st' g' M') :
    W p l e R s m args below meth c H locs cells slots Q (F0 m pc lsM (st.map (am_V X))) := by
  have hw := fun w h => am_wd (w := w) hF h
  have hW : (xS X).WarmedH s.vm := hF.2.2.2.2.2.2.2.2.2.2.1
  obtain ⟨hx, hb, hml, hown, hts, -⟩ := hF
  dsimp only [am_step] at h
  split at h
  · next i1 x pz e0 =>
    obtain ⟨-, h1⟩ := am_ct_ok e0
    simp only [Option.some.injEq, Prod.mk.injEq] at h
    obtain ⟨rfl, rfl, rfl, rfl, rfl⟩ := h
    exact lv_ldc hx hb hown (hw _ h1) (am_dec hi rfl) (kk H lsM locs cells slots rfl rfl hR hl hn hq)
  · split at h
    · next i0 cd pz e1 =>
      simp only [Option.some.injEq, Prod.mk.injEq] at h
      obtain ⟨rfl, rfl, rfl, rfl, rfl⟩ := h
      obtain ⟨j, hj, rfl', s1, s2⟩ := am_sr_ok e1
      dsimp only at rfl'
      subst rfl'
      have hz := hG.2.2.2.2.2.2.1 j hj
      obtain ⟨aa, vv, p1, -⟩ := hG.2.2.2.1 j hj
      rw [p1, s1, s2] at hz
      have k9 := kk H lsM locs cells slots rfl rfl hR hl hn hq
      rw [List.map_cons, show am_V X (aR (10 + 2 * j)) = .ref aa by
        show am_ad X _ = _
        unfold am_ad
        rw [if_neg (by omega), if_pos (by omega), p1]] at k9
      exact va_ldcS hx hb hown (vk_R.warm hW hz) (am_dec hi rfl) k9
    · cases h
theorem am_s_ldc_w (hG : am_Gl X) (hF : am_Fx X p l s m args meth c mi) (hR : am_Rel X g M H) (hl : lv_has lsM (am_nL mi) (am_lv X ls)) (hn : ls.length = am_nL mi) (hq : ∀ q ∈ locs, xB X ≤ q.base) {idx : Nat}
    (hi : am_ins mi pc = some (.ldc_w idx)) (h : am_step mi pc (.ldc_w idx) ls st g M = some (pc', ls', st', g', M')) (kk : am_KK X p l e R s m args below meth c cells slots Q mi g pc' ls' st' g' M') :
    W p l e R s m args below meth c H locs cells slots Q (F0 m pc lsM (st.map (am_V X))) := by
  have hW : (xS X).WarmedH s.vm := hF.2.2.2.2.2.2.2.2.2.2.1
  obtain ⟨hx, hb, hml, hown, hts, -⟩ := hF
  dsimp only [am_step] at h
  split at h
  · next i0 cd pz e1 =>
    simp only [Option.some.injEq, Prod.mk.injEq] at h
    obtain ⟨rfl, rfl, rfl, rfl, rfl⟩ := h
    obtain ⟨j, hj, rfl', s1, s2⟩ := am_sr_ok e1
    dsimp only at rfl'
    subst rfl'
    have hz := hG.2.2.2.2.2.2.1 j hj
    obtain ⟨aa, vv, p1, -⟩ := hG.2.2.2.1 j hj
    rw [p1, s1, s2] at hz
    have hz := vk_R.warm hW hz
    have k9 := kk H lsM locs cells slots rfl rfl hR hl hn hq
    rw [List.map_cons, show am_V X (aR (10 + 2 * j)) = .ref aa by
      show am_ad X _ = _
      unfold am_ad
      rw [if_neg (by omega), if_pos (by omega), p1]] at k9
    intro T hT X2
    obtain ⟨t, a1, b1⟩ := k9 T hT X2
    exact ⟨t, X2.ldcStringW hx hown hz.1 hz.2 (g := F0 m pc lsM (st.map (am_V X))) rfl (by rw [hb]; exact am_dec hi rfl) t a1, b1⟩
  · cases h
end SIM
end
section
/-! THE SMALL MACHINE AND THE MACHINE: arrays, new objects -/
theorem am_ofNat (n : Nat) : Int32.ofNat n = Int32.ofInt (n : Int) := by
  apply Int32.toBitVec_inj.mp
  show BitVec.ofNat 32 n = BitVec.ofInt 32 (n : Int)
  exact (BitVec.ofInt_natCast 32 n).symm
theorem am_toNatI {i : Int} (h : 0 ≤ i) : ((i.toNat : Nat) : Int) = i := Int.toNat_of_nonneg h
theorem am_Rel_push {X : am_X} {g : AG} {M M' : AM} {H H' : Heap} (hR : am_Rel X g M H) {kind len slots : Nat} (hM : ∀ r, r ≠ 100 + gN g → M' r = M r) (hz : H'.size = H.size + 1) (ho : ∀ q, q < H.size → H'[q]? = H[q]?) (hOK : am_OK X (am_alloc g kind len slots) M' H' (100 + gN g)) : am_Rel X (am_alloc g kind len slots) M' H' := by
  obtain ⟨h1, h2, ⟨o1, o2, o3, o4, o5, o6⟩, h4, h5⟩ := hR
  have k1 : ∀ r, r ≠ 100 + gN g → gK (am_alloc g kind len slots) r = gK g r := fun r hr => by show upN _ _ _ r = _; unfold upN; rw [if_neg hr]
  have k2 : ∀ r, r ≠ 100 + gN g → gL (am_alloc g kind len slots) r = gL g r := fun r hr => by show upN _ _ _ r = _; unfold upN; rw [if_neg hr]
  have k3 : ∀ r, r ≠ 100 + gN g → gR (am_alloc g kind len slots) r = gR g r := fun r hr => by show upR _ _ _ r = _; unfold upR; rw [if_neg hr]
  have k4 : gN (am_alloc g kind len slots) = gN g + 1 := rfl
  refine ⟨by rw [hz, h1, k4]; omega, fun q hq => by rw [ho q (by omega)]; exact h2 q hq, ⟨fun r hr => by rw [k1 r (by omega)]; exact o1 r hr, by rw [k2 1 (by omega)]; exact o2, fun j hj => by rw [hM 1 (by omega)]; exact o3 j hj, fun j hj => ?_, ⟨by rw [k2 50 (by omega)]; exact o5.1, fun i hi => by rw [hM 50 (by omega)]; exact o5.2 i hi⟩, ⟨by rw [k2 51 (by omega)]; exact o6.1, fun i hi => by rw [hM 51 (by omega)]; exact o6.2 i hi⟩⟩, fun r hr => by rw [k4] at hr; rw [k1 r (by omega)]; exact h4 r (by omega), fun r hr1 hr2 => ?_⟩
  · obtain ⟨p1, p2, p3⟩ := o4 j hj
    exact ⟨by rw [k3 _ (by omega)]; exact p1, by rw [k2 _ (by omega)]; exact p2, fun i hi => by rw [hM _ (by omega)]; exact p3 i hi⟩
  · by_cases e : r = 100 + gN g
    · rw [e]; exact hOK
    · rw [k4] at hr2
      have hq := ho (xB X + (r - 100)) (by omega)
      have e3 : am_fv X (am_alloc g kind len slots) M' r = am_fv X g M r := by unfold am_fv; rw [k1 r e, k3 r e, hM r e]
      have e4 : am_av X (am_alloc g kind len slots) M' r = am_av X g M r := by unfold am_av; rw [k1 r e, k3 r e, hM r e]
      rcases h5 r hr1 (by omega) with h | h | h
      · exact Or.inl ⟨by rw [k1 r e]; exact h.1, by rw [k1 r e, e3]; exact h.2.kept hq⟩
      · exact Or.inr (Or.inl ⟨by rw [k1 r e]; exact h.1, by rw [k1 r e]; exact h.2.1, by rw [k2 r e]; exact h.2.2.1, by rw [k1 r e, k2 r e, e4, hq]; exact h.2.2.2.1, by rw [k1 r e, k2 r e, hM r e]; exact h.2.2.2.2⟩)
      · exact Or.inr (Or.inr (by rw [k1 r e]; exact h))
section SIM
variable {p : Program} {l : Launch} {e : Env} {R : Room} {s : State} {m : MethodId} {args : Array Value} {below : List Frame} {meth : Method} {c : Code} {H : Heap} {locs : List Loc} {cells slots : Nat} {Q : State → Prop}
variable {X : am_X} {mi pc pc' : Nat} {ls ls' st st' : List AV} {g g' : AG} {M M' : AM} {lsM : Array Slot}
/-- an array of ours: its cell, and that a place is in it -/
theorem am_cellA (hG : am_Gl X) (hF : am_Fx X p l s m args meth c mi) (hR : am_Rel X g M H) {a : Nat} {i : Int} (h0 : 20 ≤ gK g a) (h1 : gK g a < 27) (hi0 : 0 ≤ i) (hi1 : i < gL g a) :
    100 ≤ a ∧ a < 100 + gN g ∧ H[xB X + (a - 100)]? = some (arrV (xA X (gK g a)) (gL g a) (am_av X g M a)) ∧ (∀ N f, s.isArrayOf (arrV (xA X (gK g a)) N f) (am_aty (gK g a))) ∧ (Int32.ofInt i).toNatClampNeg = i.toNat ∧
    ¬ (Int32.ofInt i < 0 ∨ (arrV (xA X (gK g a)) (gL g a) (am_av X g M a)).slots.size ≤ (Int32.ofInt i).toNatClampNeg) ∧ (arrV (xA X (gK g a)) (gL g a) (am_av X g M a)).slots[(Int32.ofInt i).toNatClampNeg]? = some (am_av X g M a i.toNat) := by
  obtain ⟨ha, hb, hl, hc⟩ := am_R_arr hR h0 h1
  obtain ⟨e1, e2⟩ := am_idx hi0 hi1 (by omega)
  refine ⟨ha, hb, hc, (am_arr hG hF h0 h1).1, e2, by rw [arrV_size]; exact e1, ?_⟩
  rw [e2]
  exact arrV_read _ _ (by omega)
theorem am_av20 {a : Nat} (h : gK g a < 23) {i : Int} (h0 : 0 ≤ i) : am_av X g M a i.toNat = .int (Int32.ofInt (M a i)) := by
  unfold am_av
  rw [if_pos h, am_toNatI h0]
/-- the bytes that were there before -/
theorem am_R27 (hG : am_Gl X) (hR : am_Rel X g M H) {a : Nat} (h : gK g a = 27) : ∃ (vv : Nat) (f : Nat → Value), am_V X (aR a) = .ref vv ∧ va_T .byte vv (gL g a) f (xU X) (xS X) (xS X).heap ∧ gL g a < 200 ∧ ∀ i : Nat, i < gL g a → f i = .int (Int32.ofInt (M a i)) := by
  have ha : a < 100 := by
    rcases Nat.lt_or_ge a 100 with q | q
    · exact q
    · rcases Nat.lt_or_ge a (100 + gN g) with q2 | q2
      · rcases hR.2.2.2.2 a q q2 with h9 | h9 | h9
        · have := h9.1; omega
        · omega
        · omega
      · have := hR.2.2.2.1 a q2; omega
  have hk := hR.2.2.1.1 a ha
  have hlt : ∀ j, j < 16 → (am_txt.getD j []).length < 100 := by decide
  have hv : ∀ {v : Nat}, xP X a = .ref v → a ≠ 0 → am_V X (aR a) = .ref v := fun {v} h1 h2 => by
    show am_ad X _ = _
    unfold am_ad
    rw [if_neg h2, if_pos ha, h1]
  rcases am_k0_cases a with h9 | h9 | ⟨h9, ⟨j, hj, rfl⟩ | rfl | rfl⟩ | h9
  · omega
  · omega
  · obtain ⟨aa, vv, p1, p2, p3, p4, p5, p6⟩ := hG.2.2.2.1 j hj
    obtain ⟨m1, m2, m3⟩ := hR.2.2.1.2.2.2.1 j hj
    have := hlt j hj
    exact ⟨vv, _, hv p2 (by omega), by rw [m2]; exact p6, by omega, fun i hi => by rw [m3 i (by omega)]⟩
  · obtain ⟨v, v1, v2, v3⟩ := hG.2.2.2.2.2.2.2.2.2.2.2.2.1
    obtain ⟨m1, m2⟩ := hR.2.2.1.2.2.2.2.1
    exact ⟨v, _, hv v1 (by decide), by rw [m1]; exact v3, by omega, fun i hi => by rw [m2 i (by omega)]⟩
  · obtain ⟨v, v1, v2, v3⟩ := hG.2.2.2.2.2.2.2.2.2.2.2.2.2
    obtain ⟨m1, m2⟩ := hR.2.2.1.2.2.2.2.2
    exact ⟨v, _, hv v1 (by decide), by rw [m1]; exact v3, by omega, fun i hi => by rw [m2 i (by omega)]⟩
  · omega
theorem am_s_iaload (hG : am_Gl X) (hF : am_Fx X p l s m args meth c mi) (hR : am_Rel X g M H) (hl : lv_has lsM (am_nL mi) (am_lv X ls)) (hn : ls.length = am_nL mi) (hq : ∀ q ∈ locs, xB X ≤ q.base)
    (hi : am_ins mi pc = some (.iaload)) (h : am_step mi pc (.iaload) ls st g M = some (pc', ls', st', g', M')) (kk : am_KK X p l e R s m args below meth c cells slots Q mi g pc' ls' st' g' M') :
    W p l e R s m args below meth c H locs cells slots Q (F0 m pc lsM (st.map (am_V X))) := by
  have hF0 := hF
  have hal : (xS X).vm.Alike s.vm := hF.2.2.2.2.2.2.2.2.2.2.1.alike
  obtain ⟨hx, hb, hml, hown, hts, -⟩ := hF
  dsimp only [am_step, am_ald] at h
  split at h
  · next i a st2 =>
    split at h
    · next h1 =>
      obtain ⟨h1, h2, h3⟩ := h1
      simp only [Option.some.injEq, Prod.mk.injEq] at h
      obtain ⟨rfl, rfl, rfl, rfl, rfl⟩ := h
      have k9 := kk H lsM locs cells slots rfl rfl hR hl hn hq
      simp only [List.mem_cons, List.not_mem_nil, or_false] at h1
      rcases h1 with h1 | h1
      · obtain ⟨ha, ha2, hc, hA, e1, e2, e3⟩ := am_cellA hG hF0 hR (by omega) (by omega) h2 h3
        rw [List.map_cons, List.map_cons, show am_V X (aR a) = .ref (xB X + (a - 100)) from am_ad_new ha]
        rw [am_av20 (by omega) h2] at e3
        have hA := hA (gL g a) (am_av X g M a)
        rw [show am_aty (gK g a) = .int by rw [h1]; rfl] at hA
        exact W.iald hx hb hc hA (fun q => by cases q) e2 e3 rfl rfl (am_dec hi rfl) k9
      · have ha : a = 1 := by
          rcases Nat.lt_or_ge a 100 with q | q
          · have := hR.2.2.1.1 a q
            rcases am_k0_cases a with h | h | h | h
            · exact h.2
            · omega
            · omega
            · omega
          · rcases Nat.lt_or_ge a (100 + gN g) with q2 | q2
            · rcases hR.2.2.2.2 a q q2 with h | h | h <;> omega
            · have := hR.2.2.2.1 a q2; omega
        subst ha
        obtain ⟨b, hb1, hX, hb2, hL⟩ := hG.2.2.2.2.1
        obtain ⟨scr, x1, x2, x3, x4, x5⟩ := hX.moved hal
        rw [hR.2.2.1.2.1] at h3
        obtain ⟨e1, e2⟩ := am_idx h2 h3 hL
        have hv := x5 i.toNat (by omega)
        have hM := hR.2.2.1.2.2.1 i.toNat (by omega)
        rw [am_toNatI h2] at hM
        rw [List.map_cons, List.map_cons, show am_V X (aR 1) = .ref b from hb1]
        refine W.iald hx hb (by rw [hR.2.1 b hb2]; exact x1) x2 x3 (by rw [x4]; exact e1) (v := .int (Int32.ofInt (M 1 i))) (by rw [e2, hv, hM, am_ofI]) rfl rfl (am_dec hi rfl) k9
    · cases h
  · cases h
theorem am_s_baload (hG : am_Gl X) (hF : am_Fx X p l s m args meth c mi) (hR : am_Rel X g M H) (hl : lv_has lsM (am_nL mi) (am_lv X ls)) (hn : ls.length = am_nL mi) (hq : ∀ q ∈ locs, xB X ≤ q.base)
    (hi : am_ins mi pc = some (.baload)) (h : am_step mi pc (.baload) ls st g M = some (pc', ls', st', g', M')) (kk : am_KK X p l e R s m args below meth c cells slots Q mi g pc' ls' st' g' M') :
    W p l e R s m args below meth c H locs cells slots Q (F0 m pc lsM (st.map (am_V X))) := by
  have hF0 := hF
  have hal : (xS X).vm.Alike s.vm := hF.2.2.2.2.2.2.2.2.2.2.1.alike
  obtain ⟨hx, hb, hml, hown, hts, -⟩ := hF
  dsimp only [am_step, am_ald] at h
  split at h
  · next i a st2 =>
    split at h
    · next h1 =>
      obtain ⟨h1, h2, h3⟩ := h1
      simp only [Option.some.injEq, Prod.mk.injEq] at h
      obtain ⟨rfl, rfl, rfl, rfl, rfl⟩ := h
      have k9 := kk H lsM locs cells slots rfl rfl hR hl hn hq
      simp only [List.mem_cons, List.not_mem_nil, or_false] at h1
      rcases h1 with h1 | h1 | h1
      · obtain ⟨ha, ha2, hc, hA, e1, e2, e3⟩ := am_cellA hG hF0 hR (by omega) (by omega) h2 h3
        rw [List.map_cons, List.map_cons, show am_V X (aR a) = .ref (xB X + (a - 100)) from am_ad_new ha]
        rw [am_av20 (by omega) h2] at e3
        have hA := hA (gL g a) (am_av X g M a)
        rw [show am_aty (gK g a) = .byte by rw [h1]; rfl] at hA
        exact W.bald hx hb hc hA (fun q => by cases q) e2 e3 rfl rfl (am_dec hi rfl) k9
      · obtain ⟨ha, ha2, hc, hA, e1, e2, e3⟩ := am_cellA hG hF0 hR (by omega) (by omega) h2 h3
        rw [List.map_cons, List.map_cons, show am_V X (aR a) = .ref (xB X + (a - 100)) from am_ad_new ha]
        rw [am_av20 (by omega) h2] at e3
        have hA := hA (gL g a) (am_av X g M a)
        rw [show am_aty (gK g a) = .boolean by rw [h1]; rfl] at hA
        exact W.zald hx hb hc hA (fun q => by cases q) e2 e3 rfl rfl (am_dec hi rfl) k9
      · obtain ⟨vv, f, p1, p6, hlen, hf⟩ := am_R27 hG hR h1
        obtain ⟨cell, c1, c2, c3, c4, c5, c6, c7⟩ := va_T.moved hal p6
        obtain ⟨e1, e2⟩ := am_idx h2 h3 (by omega)
        have hv := c6 i.toNat (by omega)
        have hM := hf i.toNat (by omega)
        rw [am_toNatI h2] at hM
        rw [List.map_cons, List.map_cons, p1]
        refine W.bald hx hb (by rw [hR.2.1 vv (Nat.not_le.mp c7)]; exact c1) c2 c3 ?_ (v := .int (Int32.ofInt (M a i))) (by rw [e2, hv, hM]) rfl rfl (am_dec hi rfl) k9
        rw [e2]
        rw [e2] at e1
        intro q
        rcases q with q | q
        · exact e1 (Or.inl q)
        · omega
    · cases h
  · cases h
theorem am_s_aaload (hG : am_Gl X) (hF : am_Fx X p l s m args meth c mi) (hR : am_Rel X g M H) (hl : lv_has lsM (am_nL mi) (am_lv X ls)) (hn : ls.length = am_nL mi) (hq : ∀ q ∈ locs, xB X ≤ q.base)
    (hi : am_ins mi pc = some (.aaload)) (h : am_step mi pc (.aaload) ls st g M = some (pc', ls', st', g', M')) (kk : am_KK X p l e R s m args below meth c cells slots Q mi g pc' ls' st' g' M') :
    W p l e R s m args below meth c H locs cells slots Q (F0 m pc lsM (st.map (am_V X))) := by
  have hF0 := hF
  obtain ⟨hx, hb, hml, hown, hts, -⟩ := hF
  dsimp only [am_step] at h
  split at h
  · next i a st2 =>
    split at h
    · next h1 =>
      obtain ⟨h1, h2, h3⟩ := h1
      simp only [Option.some.injEq, Prod.mk.injEq] at h
      obtain ⟨rfl, rfl, rfl, rfl, rfl⟩ := h
      have k9 := kk H lsM locs cells slots rfl rfl hR hl hn hq
      simp only [List.mem_cons, List.not_mem_nil, or_false] at h1
      obtain ⟨ha, ha2, hc, hA, e1, e2, e3⟩ := am_cellA hG hF0 hR (by omega) (by omega) h2 h3
      rw [List.map_cons, List.map_cons, show am_V X (aR a) = .ref (xB X + (a - 100)) from am_ad_new ha]
      have hA := hA (gL g a) (am_av X g M a)
      have hrf : (am_aty (gK g a)).isReference = true := by rcases h1 with h1 | h1 | h1 | h1 <;> rw [h1] <;> rfl
      refine W.aald hx hb hc hA hrf (fun q => by cases q) e2 e3 rfl rfl (am_dec hi rfl) ?_
      unfold am_av
      rw [if_neg (by omega), am_toNatI h2]
      exact k9
    · cases h
  · cases h
theorem am_s_arraylength (hG : am_Gl X) (hF : am_Fx X p l s m args meth c mi) (hR : am_Rel X g M H) (hl : lv_has lsM (am_nL mi) (am_lv X ls)) (hn : ls.length = am_nL mi) (hq : ∀ q ∈ locs, xB X ≤ q.base)
    (hi : am_ins mi pc = some (.arraylength)) (h : am_step mi pc (.arraylength) ls st g M = some (pc', ls', st', g', M')) (kk : am_KK X p l e R s m args below meth c cells slots Q mi g pc' ls' st' g' M') :
    W p l e R s m args below meth c H locs cells slots Q (F0 m pc lsM (st.map (am_V X))) := by
  have hF0 := hF
  have hal : (xS X).vm.Alike s.vm := hF.2.2.2.2.2.2.2.2.2.2.1.alike
  obtain ⟨hx, hb, hml, hown, hts, -⟩ := hF
  dsimp only [am_step] at h
  split at h
  · next a st2 =>
    split at h
    · next h1 =>
      simp only [Option.some.injEq, Prod.mk.injEq] at h
      obtain ⟨rfl, rfl, rfl, rfl, rfl⟩ := h
      have k9 := kk H lsM locs cells slots rfl rfl hR hl hn hq
      simp only [List.mem_cons, List.not_mem_nil, or_false] at h1
      rcases (show (20 ≤ gK g a ∧ gK g a < 27) ∨ gK g a = 27 ∨ gK g a = 28 by omega) with h1 | h1 | h1
      · obtain ⟨ha, ha2, hl2, hc⟩ := am_R_arr hR h1.1 h1.2
        rw [List.map_cons, show am_V X (aR a) = .ref (xB X + (a - 100)) from am_ad_new ha]
        exact W.alen hx hb hc ((am_arr hG hF0 h1.1 h1.2).1 _ _) (by rw [arrV_size]; exact am_ofNat _) rfl rfl (am_dec hi rfl) k9
      · obtain ⟨vv, f, p1, p6, hlen, hf⟩ := am_R27 hG hR h1
        obtain ⟨cell, c1, c2, c3, c4, c5, c6, c7⟩ := va_T.moved hal p6
        rw [List.map_cons, p1]
        exact W.alen hx hb (by rw [hR.2.1 vv (Nat.not_le.mp c7)]; exact c1) c2 (by rw [c5]; exact am_ofNat _) rfl rfl (am_dec hi rfl) k9
      · have ha : a = 1 := by
          rcases Nat.lt_or_ge a 100 with q | q
          · have := hR.2.2.1.1 a q
            rcases am_k0_cases a with h | h | h | h
            · exact h.2
            · omega
            · omega
            · omega
          · rcases Nat.lt_or_ge a (100 + gN g) with q2 | q2
            · rcases hR.2.2.2.2 a q q2 with h | h | h <;> omega
            · have := hR.2.2.2.1 a q2; omega
        subst ha
        obtain ⟨b, hb1, hX, hb2, hL⟩ := hG.2.2.2.2.1
        obtain ⟨scr, x1, x2, x3, x4, x5⟩ := hX.moved hal
        rw [List.map_cons, show am_V X (aR 1) = .ref b from hb1]
        exact W.alen hx hb (by rw [hR.2.1 b hb2]; exact x1) x2 (by rw [x4, hR.2.2.1.2.1]; exact am_ofNat _) rfl rfl (am_dec hi rfl) k9
    · cases h
  · cases h
/-- behind a store into an array -/
theorem am_stored (hG : am_Gl X) (hR : am_Rel X g M H) {a : Nat} {i : Int} {v : Value} {H' : Heap} (h0 : 20 ≤ gK g a) (h1 : gK g a < 27) (hi0 : 0 ≤ i) (e1 : gN g' = gN g) (e2 : gK g' = gK g) (e3 : gL g' = gL g) (e4 : ∀ r, r ≠ a → gR g' r = gR g r ∧ M' r = M r)
    (hv : ∀ j : Nat, am_av X g' M' a j = if j = i.toNat then v else am_av X g M a j) (hby : gK g a = 21 → ∀ j : Nat, j < gL g a → -128 ≤ M' a j ∧ M' a j < 128)
    (z1 : H'[xB X + (a - 100)]? = some ((arrV (xA X (gK g a)) (gL g a) (am_av X g M a)).setSlot i.toNat v)) (z2 : H'.size = H.size) (z3 : ∀ q, q ≠ xB X + (a - 100) → H'[q]? = H[q]?) : am_Rel X g' M' H' := by
  obtain ⟨ha, hb, hl, hc⟩ := am_R_arr hR h0 h1
  refine am_Rel_set hR ha hb e1 e2 e3 e4 z2 z3 (Or.inr (Or.inl ⟨by rw [e2]; exact h0, by rw [e2]; exact h1, by rw [e3]; exact hl, ?_, by rw [e2, e3]; exact hby⟩))
  rw [z1, arrV_store, e2, e3]
  refine congrArg (fun f => some (arrV _ _ f)) (funext fun j => ?_)
  rw [hv j]
  rfl
theorem am_s_iastore (hG : am_Gl X) (hF : am_Fx X p l s m args meth c mi) (hR : am_Rel X g M H) (hl : lv_has lsM (am_nL mi) (am_lv X ls)) (hn : ls.length = am_nL mi) (hq : ∀ q ∈ locs, xB X ≤ q.base)
    (hi : am_ins mi pc = some (.iastore)) (h : am_step mi pc (.iastore) ls st g M = some (pc', ls', st', g', M')) (kk : am_KK X p l e R s m args below meth c cells slots Q mi g pc' ls' st' g' M') :
    W p l e R s m args below meth c H locs cells slots Q (F0 m pc lsM (st.map (am_V X))) := by
  have hF0 := hF
  obtain ⟨hx, hb, hml, hown, hts, -⟩ := hF
  dsimp only [am_step] at h
  split at h
  · next x i a st2 =>
    split at h
    · next h1 =>
      obtain ⟨h1, h2, h3⟩ := h1
      simp only [Option.some.injEq, Prod.mk.injEq] at h
      obtain ⟨rfl, rfl, rfl, rfl, rfl⟩ := h
      obtain ⟨ha, ha2, hc, hA, e1, e2, e3⟩ := am_cellA hG hF0 hR (by omega) (by omega) h2 h3
      rw [List.map_cons, List.map_cons, List.map_cons, show am_V X (aR a) = .ref (xB X + (a - 100)) from am_ad_new ha]
      have hA := hA (gL g a) (am_av X g M a)
      rw [show am_aty (gK g a) = .int by rw [h1]; rfl] at hA
      refine W.iast hx hb hc hA (fun q => by cases q) e2 rfl rfl (am_dec hi rfl) (fun H' z1 z2 z3 => ?_)
      rw [e1] at z1
      refine kk H' lsM _ cells slots rfl rfl (am_stored hG hR (by omega) (by omega) h2 rfl rfl rfl (fun r hr => ⟨rfl, by unfold up2 upM; rw [if_neg hr]⟩) (fun j => ?_) (fun h9 => by omega) z1 z2 z3) hl hn (fun q hq2 => ?_)
      · have hji : ((j : Int) = i) ↔ (j = i.toNat) := by omega
        unfold am_av up2 upM upI
        simp only [h1, hji]
        by_cases hj : j = i.toNat
        · have h5 := hji.mpr hj
          rw [if_pos hj]; simp [h5, am_V]
        · have h5 : ¬ (j : Int) = i := fun q => hj (hji.mp q)
          rw [if_neg hj]; simp [h5]
      · rcases List.mem_append.mp hq2 with h | h
        · exact hq q h
        · rw [List.mem_singleton.mp h]; exact Nat.le_add_right _ _
    · cases h
  · cases h
theorem am_s_bastore (hG : am_Gl X) (hF : am_Fx X p l s m args meth c mi) (hR : am_Rel X g M H) (hl : lv_has lsM (am_nL mi) (am_lv X ls)) (hn : ls.length = am_nL mi) (hq : ∀ q ∈ locs, xB X ≤ q.base)
    (hi : am_ins mi pc = some (.bastore)) (h : am_step mi pc (.bastore) ls st g M = some (pc', ls', st', g', M')) (kk : am_KK X p l e R s m args below meth c cells slots Q mi g pc' ls' st' g' M') :
    W p l e R s m args below meth c H locs cells slots Q (F0 m pc lsM (st.map (am_V X))) := by
  have hF0 := hF
  obtain ⟨hx, hb, hml, hown, hts, -⟩ := hF
  dsimp only [am_step] at h
  split at h
  · next x i a st2 =>
    split at h
    · next h1 =>
      obtain ⟨h1, h2, h3⟩ := h1
      simp only [Option.some.injEq, Prod.mk.injEq] at h
      obtain ⟨rfl, rfl, rfl, rfl, rfl⟩ := h
      have h9 : 20 ≤ gK g a ∧ gK g a < 23 := by omega
      obtain ⟨ha, ha2, hc, hA, e1, e2, e3⟩ := am_cellA hG hF0 hR (by omega) (by omega) h2 h3
      rw [List.map_cons, List.map_cons, List.map_cons, show am_V X (aR a) = .ref (xB X + (a - 100)) from am_ad_new ha]
      have hA := hA (gL g a) (am_av X g M a)
      have fin : ∀ H' : Heap, H'[xB X + (a - 100)]? = some ((arrV (xA X (gK g a)) (gL g a) (am_av X g M a)).setSlot (Int32.ofInt i).toNatClampNeg (.int (Int32.ofInt (x.bmod 256)))) → H'.size = H.size → (∀ q, q ≠ xB X + (a - 100) → H'[q]? = H[q]?) →
          W p l e R s m args below meth c H' (locs ++ [⟨xB X + (a - 100), (Int32.ofInt i).toNatClampNeg⟩]) cells slots Q (F0 m (pc + 1) lsM (st2.map (am_V X))) := by
        intro H' z1 z2 z3
        rw [e1] at z1
        refine kk H' lsM _ cells slots rfl rfl (am_stored hG hR (by omega) (by omega) h2 rfl rfl rfl (fun r hr => ⟨rfl, by unfold up2 upM; rw [if_neg hr]⟩) (fun j => ?_) (fun h21 j hj => ?_) z1 z2 z3) hl hn (fun q hq2 => ?_)
        · have hji : ((j : Int) = i) ↔ (j = i.toNat) := by omega
          unfold am_av up2 upM upI
          simp only [h9.2, hji]
          by_cases hj : j = i.toNat
          · have h5 := hji.mpr hj
            rw [if_pos hj]; simp [h5]
          · have h5 : ¬ (j : Int) = i := fun q => hj (hji.mp q)
            rw [if_neg hj]; simp [h5]
        · have hby := am_R_byt hR h21 j hj
          have b1 := Int.le_bmod (x := x) (m := 256) (by decide)
          have b2 := Int.bmod_lt (x := x) (m := 256) (by decide)
          unfold up2 upM upI
          rw [if_pos rfl]
          split
          · omega
          · exact hby
        · rcases List.mem_append.mp hq2 with h | h
          · exact hq q h
          · rw [List.mem_singleton.mp h]; exact Nat.le_add_right _ _
      rcases h1 with h1 | ⟨h1, h4⟩
      · rw [show am_aty (gK g a) = .byte by rw [h1]; rfl] at hA
        refine W.bast hx hb hc hA (fun q => by cases q) e2 rfl rfl (am_dec hi rfl) (fun H' z1 => fin H' ?_)
        rw [z1, show narrow .byte (.int (Int32.ofInt x)) = .int (Int32.ofInt (x.bmod 256)) from congrArg Value.int (am_i2b x)]
      · rw [show am_aty (gK g a) = .boolean by rw [h1]; rfl] at hA
        refine W.zast hx hb hc hA (fun q => by cases q) e2 rfl rfl (am_dec hi rfl) (fun H' z1 => fin H' ?_)
        rw [z1]
        rcases h4 with rfl | rfl
        · rw [show narrow .boolean (.int (Int32.ofInt 0)) = .int (Int32.ofInt ((0 : Int).bmod 256)) by decide]
        · rw [show narrow .boolean (.int (Int32.ofInt 1)) = .int (Int32.ofInt ((1 : Int).bmod 256)) by decide]
    · cases h
  · cases h
theorem am_s_aastore (hG : am_Gl X) (hF : am_Fx X p l s m args meth c mi) (hR : am_Rel X g M H) (hl : lv_has lsM (am_nL mi) (am_lv X ls)) (hn : ls.length = am_nL mi) (hq : ∀ q ∈ locs, xB X ≤ q.base)
    (hi : am_ins mi pc = some (.aastore)) (h : am_step mi pc (.aastore) ls st g M = some (pc', ls', st', g', M')) (kk : am_KK X p l e R s m args below meth c cells slots Q mi g pc' ls' st' g' M') :
    W p l e R s m args below meth c H locs cells slots Q (F0 m pc lsM (st.map (am_V X))) := by
  have hF0 := hF
  have hK := am_Kof hG hF
  obtain ⟨hx, hb, hml, hown, hts, -⟩ := hF
  dsimp only [am_step] at h
  split at h
  · next x i a st2 =>
    split at h
    · next h1 =>
      obtain ⟨h1, h2, h3⟩ := h1
      simp only [Option.some.injEq, Prod.mk.injEq] at h
      obtain ⟨rfl, rfl, rfl, rfl, rfl⟩ := h
      obtain ⟨ha, ha2, hc, hA, e1, e2, e3⟩ := am_cellA hG hF0 hR (by omega) (by omega) h2 h3
      have hx1 : 100 ≤ x := by
        rcases h1 with h1 | h1 | h1 | h1
        · exact (am_R_obj hR (r := x) (by rw [h1.2]; decide)).1
        · exact (am_R_arr hR (r := x) (by omega) (by omega)).1
        · exact (am_R_obj hR (r := x) (by rw [h1.2]; decide)).1
        · exact (am_R_obj hR (r := x) (by rw [h1.2]; decide)).1
      rw [List.map_cons, List.map_cons, List.map_cons, show am_V X (aR a) = .ref (xB X + (a - 100)) from am_ad_new ha, show am_V X (aR x) = .ref (xB X + (x - 100)) from am_ad_new hx1]
      have hge : 23 ≤ gK g a := by omega
      have fin : ∀ H' : Heap, H'[xB X + (a - 100)]? = some ((arrV (xA X (gK g a)) (gL g a) (am_av X g M a)).setSlot (Int32.ofInt i).toNatClampNeg (.ref (xB X + (x - 100)))) → H'.size = H.size → (∀ q, q ≠ xB X + (a - 100) → H'[q]? = H[q]?) → W p l e R s m args below meth c H' (locs ++ [⟨xB X + (a - 100), (Int32.ofInt i).toNatClampNeg⟩]) cells slots Q (F0 m (pc + 1) lsM (st2.map (am_V X))) := by
        intro H' z1 z2 z3
        rw [e1] at z1
        refine kk H' lsM _ cells slots rfl rfl (am_stored (g' := (gN g, gS g, gK g, gL g, up2R (gR g) a i x)) hG hR (by omega) (by omega) h2 rfl rfl rfl (fun r hr => ⟨by show up2R _ _ _ _ r = _; unfold up2R upR; rw [if_neg hr], rfl⟩) (fun j => ?_) (fun h9 => by omega) z1 z2 z3) hl hn (fun q hq2 => ?_)
        · have hji : ((j : Int) = i) ↔ (j = i.toNat) := by omega
          have hlt : ¬ gK g a < 23 := by omega
          unfold am_av
          show (if gK g a < 23 then _ else am_ad X (up2R (gR g) a i x a j)) = _
          unfold up2R upR
          simp only [hlt, if_false, if_true, hji]
          by_cases hj : j = i.toNat
          · have h5 := hji.mpr hj
            rw [if_pos hj]; simp [hj, am_ad_new hx1]
          · have h5 : ¬ (j : Int) = i := fun q => hj (hji.mp q)
            rw [if_neg hj]; simp [hj]
        · rcases List.mem_append.mp hq2 with h | h
          · exact hq q h
          · rw [List.mem_singleton.mp h]; exact Nat.le_add_right _ _
      have obj : ∀ (k cv : Nat) (C : String), gK g a = k → gK g x = cv → am_ob cv → am_cn cv = C → (am_cr cv).1 = C → va_RA s (xA X k) (.object C) → W p l e R s m args below meth c H locs cells slots Q (F0 m pc lsM (.ref (xB X + (x - 100)) :: .int (Int32.ofInt i) :: .ref (xB X + (a - 100)) :: st2.map (am_V X))) := by
        intro k cv C hk hcv hob hC hC2 hRA
        obtain ⟨hx1, hx2, cvl, v1, v2, v3, v4⟩ := am_R_obj hR (r := x) (by rw [hcv]; exact hob)
        rw [hcv] at v2
        obtain ⟨kA, comp, r1, r2, r3, r4⟩ := hRA
        obtain ⟨n1, n2⟩ := am_nf_ok cv (by omega)
        obtain ⟨-, hfc, kC, hkC, hkind⟩ := hK.1 cv _ n1
        rw [hC2] at hfc
        have hcc : comp = (xD X).1 cv := Option.some.inj (r3.symm.trans hfc)
        exact W.aast hx hb (k := kA) (kv := kC) (kcomp := kC) (comp := comp) (t := .object C) hc (fun q h => by cases h) (fun h => by cases h) (by rw [hk]; exact r1) r2 rfl (by rw [hcc]; exact hkC) ⟨fun h => e2 (Or.inl h), Nat.not_le.mp fun h => e2 (Or.inr h)⟩ v1 (fun q h => by rw [v3] at h; cases h) (by rw [v2]; exact hkC) (by rw [v2, hcc]; exact va_asg _ _) rfl rfl (am_dec hi rfl) fin
      rcases h1 with ⟨k1, k2⟩ | ⟨k1, k2⟩ | ⟨k1, k2⟩ | ⟨k1, k2⟩
      · exact obj 26 5 "RodYard$State" k1 k2 (by decide) (by decide +kernel) (by decide +kernel) (am_arr hG hF0 (k := 26) (by omega) (by omega)).2
      · obtain ⟨y1, y2, y3, y4⟩ := am_R_arr hR (r := x) (by omega) (by omega)
        rw [k2] at y4
        have hT : s.vm.findClass "[I" = some (xA X 20) := (am_arr hG hF0 (k := 20) (by omega) (by omega)).2
        obtain ⟨comp, cA, kA, q1, q2, q3, q4, q5⟩ := arrayOverA_spec (va_AOA.moved (t := .int) hF0.2.2.2.2.2.2.2.2.2.2.1.alike hG.2.2.2.2.2.2.2.2.2.2.2.1)
        have eA : cA = xA X 25 := by
          have h9 : s.vm.findClass "[[I" = some (xA X 25) := (am_arr hG hF0 (k := 25) (by omega) (by omega)).2
          exact Option.some.inj (q5.symm.trans h9)
        have eC : comp = xA X 20 := Option.some.inj (q1.symm.trans hT)
        obtain ⟨-, kI, hkI, compI, hkindI⟩ := (am_arr hG hF0 (k := 20) (by omega) (by omega)).1 0 (fun _ => .null)
        exact W.aast hx hb (k := kA) (kv := kI) (kcomp := kI) (comp := comp) (t := .array .int) hc (fun q h => by cases h) (fun h => by cases h) (by rw [k1, ← eA]; exact q3) q4 rfl (by rw [eC]; exact hkI) ⟨fun h => e2 (Or.inl h), Nat.not_le.mp fun h => e2 (Or.inr h)⟩ y4 (fun q h => by cases h) hkI (by rw [eC]; exact va_asg _ _) rfl rfl (am_dec hi rfl) fin
      · exact obj 23 16 "RodYardLaw$Rod" k1 k2 (by decide) (by decide +kernel) (by decide +kernel) (am_arr hG hF0 (k := 23) (by omega) (by omega)).2
      · exact obj 24 15 "RodYardLaw$Order" k1 k2 (by decide) (by decide +kernel) (by decide +kernel) (am_arr hG hF0 (k := 24) (by omega) (by omega)).2
    · cases h
  · cases h
end SIM
end
section
/-! THE SMALL MACHINE AND THE MACHINE: exceptions, new objects, copies (am_throwS, am_throwSW began as the kit's vx_throwS, vx_throwSW, am_multiA as its va_mna, am_copyA as its va_copyi) -/
section SIMT
variable {p : Program} {l : Launch} {e : Env} {R : Room} {s : State} {m : MethodId} {args : Array Value} {below : List Frame} {meth : Method} {c : Code} {H : Heap} {locs : List Loc} {cells slots : Nat}
variable {mc ms : Nat} {free : Addr → Prop} {A0 A1 : Nat → Prop} {H0 : Heap} {a : Array Value} {ls : Array Slot} {st0 rest : List Value}
variable {Qc : Array Value → State → Outcome → State → Prop} {XC : String → State → State → Prop}
set_option maxHeartbeats 1000000 in
theorem am_throwS {cc : ByteArray} {pc : Nat} (hexec : p.tables.exec = Jvm.exec) (hb : c.code = cc) (hl : l.stackTraces = false) {own cls text : String} {names : List String} {ik is ic mc ms sa : Nat} {A : Nat → Prop}
    (hown : s.vm.findClass own = some m.cls) (hcls : Bundle.fit cls = true) (hnames : ∀ n ∈ names, Bundle.fit n = true)
    (hk : (Cond.classLink own ik cls).before args s = true) (hini : (Cond.initialized cls).before args s = true) (hstr : vk_R own is text sa s) (hat : ∀ w ∈ vx_atS own ic cls names, w.before args s = true)
    (hgood : ∀ w ∈ Cond.classLink own ik cls :: Cond.initialized cls :: vx_atS own ic cls names, vx_ot w = true)
    (hU : vx_Zq Bundle.tN "UNASSIGNED_STACK" Bundle.steD A s H) (hN : vx_Zq Bundle.tN "SUPPRESSED_SENTINEL" Bundle.listD A s H) (hsize : ls.size = c.maxLocals)
    (d0 : decode cc pc = .ok (.new ik, 3)) (d3 : decode cc (pc + 3) = .ok (.dup, 1)) (d4 : decode cc (pc + 4) = .ok (.ldc is, 2)) (d6 : decode cc (pc + 6) = .ok (.invokespecial ic, 3)) (d9 : decode cc (pc + 9) = .ok (.athrow, 1))
    (hout : ∀ x ∈ c.exceptionTable.toList, covers x (pc + 9) = false)
    (hRframes : names.length + 3 < R.frames) (hRlocals : (rest.map fun v => v.category).sum + (13 * (names.length + 1) + 43) ≤ R.locals) (hRcells : cells + 1 ≤ R.cells) (hRslots : slots + 6 ≤ R.slots) (hlocks : meth.locks = false)
    (hx : ∀ t : State, s.vm.Alike t.vm → t.heap.size = H.size + 1 → (∀ q : Nat, q < H.size → t.heap[q]? = H[q]?) → XC cls s t)
    (hf : ∀ z ∈ locs, free z.base) (hc : cells + 1 ≤ mc) (hs : slots + 6 ≤ ms) :
    W p l e R s m args below meth c H locs cells slots (vx_MQ below Qc XC args s mc ms free) (F0 m pc ls rest) := by
  intro T hT X
  have htr : e.platform.stackTraces = false := (show e.platform.stackTraces = l.stackTraces by rw [X.admits.platform]).trans hl
  have Y := vx_rebase X (R' := { frames := R.frames, locals := R.locals, cells := 1, slots := 6 }) (Nat.le_refl _) (Nat.le_refl _) hRcells hRslots
  obtain ⟨s', hA⟩ : ∃ z, z = (T.setVm s.vm).setFrames (.invoking m args :: below) := ⟨_, rfl⟩
  rw [← hA] at Y
  have hvm : s'.vm = s.vm := by rw [hA]; rfl
  have hhp : s'.heap = H := by rw [hA]; exact hT
  have hW0 : s.WarmedH s'.vm := by rw [hvm]; exact State.WarmedH.refl s
  have hat' : ∀ w ∈ vx_atS own ic cls names, w.before args s' = true := fun w hw => vx_ot_at hW0 hvm.symm (hgood w (List.mem_cons_of_mem _ (List.mem_cons_of_mem _ hw))) (hat w hw)
  have hk' : (Cond.classLink own ik cls).before args s' = true := vx_ot_at hW0 hvm.symm (hgood _ List.mem_cons_self) hk
  have hini' : (Cond.initialized cls).before args s' = true := vx_ot_at hW0 hvm.symm (hgood _ (List.mem_cons_of_mem _ List.mem_cons_self)) hini
  have hU' : vx_Zq Bundle.tN "UNASSIGNED_STACK" Bundle.steD A s' s'.heap := by rw [hhp]; exact vx_Zq.moved hW0.alike hU
  have hN' : vx_Zq Bundle.tN "SUPPRESSED_SENTINEL" Bundle.listD A s' s'.heap := by rw [hhp]; exact vx_Zq.moved hW0.alike hN
  have h : ∀ w ∈ Bundle.ownAtoms own ic cls names, w.before args s' = true := vx_own hat' (vx_isRefq hU'.1) (vx_isRefq hN'.1) hU'.2.word hN'.2.word
  have hown' : s'.vm.findClass own = some m.cls := by rw [hvm]; exact hown
  have hins : (Cond.instantiable cls 6).before args s' = true := h _ (by simp [Bundle.ownAtoms])
  obtain ⟨vm₁, cX, kX, hfX, hkX, -, -, X₁, st1⟩ := Y.newCold hexec (own := own) (C := cls) (index := ik) (n := 6) hown' hk' hins hini'
    (g := F0 m pc ls rest) rfl (by rw [hb]; exact d0) (Nat.le_refl _) (Nat.le_refl _)
  generalize hT1 : (T.setVm vm₁).pushCell { cls := cX, slots := kX.instanceTypes.map defaultValue, vm := .none } = T1 at X₁ st1
  have hcat : (Value.ref T.heap.size).category = 1 := rfl
  have hcellA : T1.heap[T.heap.size]? = some (freshCell cX kX) := by rw [← hT1]; exact State.heap_pushCell_size _ _
  have d3' : decode c.code (pc + 3) = .ok (.dup, 1) := by rw [hb]; exact d3
  have d4' : decode c.code (pc + 4) = .ok (.ldc is, 2) := by rw [hb]; exact d4
  have hstr' : vk_R own is text sa s' := vk_R.warm hW0 hstr
  obtain ⟨U, hsteps, hrun, hend, hW, hsame, ce, hce, hO⟩ := X₁.ctorThrowS hexec htr (own := own) (cls := cls) (names := names) (ic := ic) hown' hcls hnames h (fun x hx => nomatch hx) hfX hkX hcellA (by rw [hhp, hT]; exact Nat.le_refl _) (msg := .ref sa) rfl
    (g := { method := m, pc := pc + 6, locals := ls, stack := .ref sa :: .ref T.heap.size :: .ref T.heap.size :: rest, locked := none }) rfl hsize rfl rfl (rest := rest) rfl
    (by rw [hb]; exact d6) (by rw [hb]; exact d9) hout hRframes (by simp only [List.map_cons, List.sum_cons, hcat]; omega) hlocks
  obtain ⟨f1, f2⟩ := vx_frame hsame
  rw [hhp] at f1 f2
  have f3 : U.heap.size = H.size + 1 := by
    have z1 : T.heap.size < U.heap.size := (Array.getElem?_eq_some_iff.mp hce).1
    have z2 : U.heap.size ≤ s'.heap.size + (0 + 1) := hsame.2.2.1
    rw [hhp] at z2
    rw [hT] at z1
    omega
  have hWs : s.WarmedH U.vm := State.WarmedH.trans hW0 hW
  have hcl : s.vm.findClass cls = some ce.cls := by
    have h9 := hO.cls
    rw [hvm] at h9
    exact h9
  have hall : s.sameButNew ({ U with vm := s.vm } : State) locs mc ms := by
    subst hA
    obtain ⟨e1, e2⟩ := hsame
    rw [State.setFrames_setFrames] at e1
    have h2 : (T.setVm s.vm).sameButNew ({ U with vm := s.vm } : State) [] (0 + 1) (0 + 6) := ⟨e1, e2⟩
    have h3 := X.same.trans h2
    rw [List.append_nil] at h3
    exact h3.mono hc hs
  refine ⟨U, ?_, .threw T.heap.size, hrun, hend, Or.inr ⟨T.heap.size, rfl, cls, ce, locs, hx U hWs.alike f3 (fun q hq => f2 q hq (fun z hz => nomatch hz)), hce, hO.vm, hcl, hWs, hall, hf⟩⟩
  refine st1 _ ?_
  show Steps p.tables e below (T1.setTop { method := m, pc := pc + 3, locals := ls, stack := .ref T.heap.size :: rest, locked := none }) _
  jvm_step X₁.here [X₁.here.top, hexec, d3', Value.category]
  exact X₁.ldcString hexec (own := own) (text := text) (index := is) (a := sa) hown' hstr'.1 hstr'.2
    (g := { method := m, pc := pc + 4, locals := ls, stack := .ref T.heap.size :: .ref T.heap.size :: rest, locked := none }) rfl d4' _ hsteps
set_option maxHeartbeats 1000000 in
theorem am_throwSW {cc : ByteArray} {pc : Nat} (hexec : p.tables.exec = Jvm.exec) (hb : c.code = cc) (hl : l.stackTraces = false) {own cls text : String} {names : List String} {ik is ic mc ms sa : Nat} {A : Nat → Prop}
    (hown : s.vm.findClass own = some m.cls) (hcls : Bundle.fit cls = true) (hnames : ∀ n ∈ names, Bundle.fit n = true)
    (hk : (Cond.classLink own ik cls).before args s = true) (hini : (Cond.initialized cls).before args s = true) (hstr : vk_R own is text sa s) (hat : ∀ w ∈ vx_atS own ic cls names, w.before args s = true)
    (hgood : ∀ w ∈ Cond.classLink own ik cls :: Cond.initialized cls :: vx_atS own ic cls names, vx_ot w = true)
    (hU : vx_Zq Bundle.tN "UNASSIGNED_STACK" Bundle.steD A s H) (hN : vx_Zq Bundle.tN "SUPPRESSED_SENTINEL" Bundle.listD A s H) (hsize : ls.size = c.maxLocals)
    (d0 : decode cc pc = .ok (.new ik, 3)) (d3 : decode cc (pc + 3) = .ok (.dup, 1)) (d4 : decode cc (pc + 4) = .ok (.ldc_w is, 3)) (d7 : decode cc (pc + 7) = .ok (.invokespecial ic, 3)) (d10 : decode cc (pc + 10) = .ok (.athrow, 1))
    (hout : ∀ x ∈ c.exceptionTable.toList, covers x (pc + 10) = false)
    (hRframes : names.length + 3 < R.frames) (hRlocals : (rest.map fun v => v.category).sum + (13 * (names.length + 1) + 43) ≤ R.locals) (hRcells : cells + 1 ≤ R.cells) (hRslots : slots + 6 ≤ R.slots) (hlocks : meth.locks = false)
    (hx : ∀ t : State, s.vm.Alike t.vm → t.heap.size = H.size + 1 → (∀ q : Nat, q < H.size → t.heap[q]? = H[q]?) → XC cls s t)
    (hf : ∀ z ∈ locs, free z.base) (hc : cells + 1 ≤ mc) (hs : slots + 6 ≤ ms) :
    W p l e R s m args below meth c H locs cells slots (vx_MQ below Qc XC args s mc ms free) (F0 m pc ls rest) := by
  intro T hT X
  have htr : e.platform.stackTraces = false := (show e.platform.stackTraces = l.stackTraces by rw [X.admits.platform]).trans hl
  have Y := vx_rebase X (R' := { frames := R.frames, locals := R.locals, cells := 1, slots := 6 }) (Nat.le_refl _) (Nat.le_refl _) hRcells hRslots
  obtain ⟨s', hA⟩ : ∃ z, z = (T.setVm s.vm).setFrames (.invoking m args :: below) := ⟨_, rfl⟩
  rw [← hA] at Y
  have hvm : s'.vm = s.vm := by rw [hA]; rfl
  have hhp : s'.heap = H := by rw [hA]; exact hT
  have hW0 : s.WarmedH s'.vm := by rw [hvm]; exact State.WarmedH.refl s
  have hat' : ∀ w ∈ vx_atS own ic cls names, w.before args s' = true := fun w hw => vx_ot_at hW0 hvm.symm (hgood w (List.mem_cons_of_mem _ (List.mem_cons_of_mem _ hw))) (hat w hw)
  have hk' : (Cond.classLink own ik cls).before args s' = true := vx_ot_at hW0 hvm.symm (hgood _ List.mem_cons_self) hk
  have hini' : (Cond.initialized cls).before args s' = true := vx_ot_at hW0 hvm.symm (hgood _ (List.mem_cons_of_mem _ List.mem_cons_self)) hini
  have hU' : vx_Zq Bundle.tN "UNASSIGNED_STACK" Bundle.steD A s' s'.heap := by rw [hhp]; exact vx_Zq.moved hW0.alike hU
  have hN' : vx_Zq Bundle.tN "SUPPRESSED_SENTINEL" Bundle.listD A s' s'.heap := by rw [hhp]; exact vx_Zq.moved hW0.alike hN
  have h : ∀ w ∈ Bundle.ownAtoms own ic cls names, w.before args s' = true := vx_own hat' (vx_isRefq hU'.1) (vx_isRefq hN'.1) hU'.2.word hN'.2.word
  have hown' : s'.vm.findClass own = some m.cls := by rw [hvm]; exact hown
  have hins : (Cond.instantiable cls 6).before args s' = true := h _ (by simp [Bundle.ownAtoms])
  obtain ⟨vm₁, cX, kX, hfX, hkX, -, -, X₁, st1⟩ := Y.newCold hexec (own := own) (C := cls) (index := ik) (n := 6) hown' hk' hins hini'
    (g := F0 m pc ls rest) rfl (by rw [hb]; exact d0) (Nat.le_refl _) (Nat.le_refl _)
  generalize hT1 : (T.setVm vm₁).pushCell { cls := cX, slots := kX.instanceTypes.map defaultValue, vm := .none } = T1 at X₁ st1
  have hcat : (Value.ref T.heap.size).category = 1 := rfl
  have hcellA : T1.heap[T.heap.size]? = some (freshCell cX kX) := by rw [← hT1]; exact State.heap_pushCell_size _ _
  have d3' : decode c.code (pc + 3) = .ok (.dup, 1) := by rw [hb]; exact d3
  have d4' : decode c.code (pc + 4) = .ok (.ldc_w is, 3) := by rw [hb]; exact d4
  have hstr' : vk_R own is text sa s' := vk_R.warm hW0 hstr
  obtain ⟨U, hsteps, hrun, hend, hW, hsame, ce, hce, hO⟩ := X₁.ctorThrowS hexec htr (own := own) (cls := cls) (names := names) (ic := ic) hown' hcls hnames h (fun x hx => nomatch hx) hfX hkX hcellA (by rw [hhp, hT]; exact Nat.le_refl _) (msg := .ref sa) rfl
    (g := { method := m, pc := pc + 7, locals := ls, stack := .ref sa :: .ref T.heap.size :: .ref T.heap.size :: rest, locked := none }) rfl hsize rfl rfl (rest := rest) rfl
    (by rw [hb]; exact d7) (by rw [hb]; exact d10) hout hRframes (by simp only [List.map_cons, List.sum_cons, hcat]; omega) hlocks
  obtain ⟨f1, f2⟩ := vx_frame hsame
  rw [hhp] at f1 f2
  have f3 : U.heap.size = H.size + 1 := by
    have z1 : T.heap.size < U.heap.size := (Array.getElem?_eq_some_iff.mp hce).1
    have z2 : U.heap.size ≤ s'.heap.size + (0 + 1) := hsame.2.2.1
    rw [hhp] at z2
    rw [hT] at z1
    omega
  have hWs : s.WarmedH U.vm := State.WarmedH.trans hW0 hW
  have hcl : s.vm.findClass cls = some ce.cls := by
    have h9 := hO.cls
    rw [hvm] at h9
    exact h9
  have hall : s.sameButNew ({ U with vm := s.vm } : State) locs mc ms := by
    subst hA
    obtain ⟨e1, e2⟩ := hsame
    rw [State.setFrames_setFrames] at e1
    have h2 : (T.setVm s.vm).sameButNew ({ U with vm := s.vm } : State) [] (0 + 1) (0 + 6) := ⟨e1, e2⟩
    have h3 := X.same.trans h2
    rw [List.append_nil] at h3
    exact h3.mono hc hs
  refine ⟨U, ?_, .threw T.heap.size, hrun, hend, Or.inr ⟨T.heap.size, rfl, cls, ce, locs, hx U hWs.alike f3 (fun q hq => f2 q hq (fun z hz => nomatch hz)), hce, hO.vm, hcl, hWs, hall, hf⟩⟩
  refine st1 _ ?_
  show Steps p.tables e below (T1.setTop { method := m, pc := pc + 3, locals := ls, stack := .ref T.heap.size :: rest, locked := none }) _
  jvm_step X₁.here [X₁.here.top, hexec, d3', Value.category]
  exact X₁.ldcStringW hexec (own := own) (text := text) (index := is) (a := sa) hown' hstr'.1 hstr'.2
    (g := { method := m, pc := pc + 4, locals := ls, stack := .ref T.heap.size :: .ref T.heap.size :: rest, locked := none }) rfl d4' _ hsteps
end SIMT
section SIM
variable {p : Program} {l : Launch} {e : Env} {R : Room} {s : State} {m : MethodId} {args : Array Value} {below : List Frame} {meth : Method} {c : Code} {H : Heap} {locs : List Loc} {cells slots : Nat} {Q : State → Prop}
variable {X : am_X} {mi pc pc' : Nat} {ls ls' st st' : List AV} {g g' : AG} {M M' : AM} {lsM : Array Slot}
theorem am_multiA {lsM : Array Slot} {rest : List Value} {cc : ByteArray} (hexec : p.tables.exec = Jvm.exec) (hb : c.code = cc) {own : String} {index : Nat} {cy cA0 : ClassId} (hown : s.vm.findClass own = some m.cls) (hclink : (Cond.classLink own index "[[I").before args s = true) (hover : va_AOA .int s) (harr : (Cond.arrayClass .int).before args s = true) (hcy : s.vm.findClass "[I" = some cy) (hcA : s.vm.findClass "[[I" = some cA0)
    {n k : Int32} {N K : Nat} (hn : ¬ n < 0) (hk : ¬ k < 0) (hN : n.toNatClampNeg = N) (hM : k.toNatClampNeg = K) (hN9 : N ≤ 100000) (hK9 : K ≤ 100000) (hcells : cells + (1 + N) ≤ R.cells) (hslots : slots + (N + N * K) ≤ R.slots) (hdg : decode cc pc = .ok (.multianewarray index 2, 4))
    (kk : ∀ H1 : Heap, H1.size = H.size + 1 + N → (∀ q, q < H.size → H1[q]? = H[q]?) → H1[H.size]? = some (arrV cA0 N (fun i => if i < N then .ref (H.size + 1 + i) else .null)) → (∀ j, j < N → H1[H.size + 1 + j]? = some (arrV cy K (fun _ => .int 0))) →
      W p l e R s m args below meth c H1 locs (cells + 1 + N) (slots + N + N * K) Q (F0 m (pc + 4) lsM (.ref H.size :: rest))) : W p l e R s m args below meth c H locs cells slots Q (F0 m pc lsM (.int k :: .int n :: rest)) := by
  subst hN
  subst hM
  intro T hT Xs
  obtain ⟨vm₁, cA, comp, -, fA, fC, hO, -, X', step⟩ := Jvm.Stand.multianewarray2F Xs (ty := .int) hexec hown hclink hover harr (g := F0 m pc lsM (.int k :: .int n :: rest)) rfl (by rw [hb]; exact hdg) rfl hn hk (by omega) (by show _ * 4 ≤ _; omega) (by omega) rfl rfl hcells hslots
  have ec : comp = cy := Option.some.inj (fC.symm.trans hcy)
  have eA : cA = cA0 := Option.some.inj (fA.symm.trans hcA)
  subst ec
  subst eA
  generalize hF : Jvm.Free.Multi.fill (T.setVm vm₁) cA comp n.toNatClampNeg k.toNatClampNeg (defaultValue .int) n.toNatClampNeg = F at X' step
  have hTh : (T.setVm vm₁).heap = H := hT
  obtain ⟨f1, f2, -, -⟩ := Jvm.Free.Multi.fill_facts (T.setVm vm₁) cA comp n.toNatClampNeg k.toNatClampNeg (defaultValue .int) n.toNatClampNeg
  rw [hF, hTh] at f1 f2
  have hold : ∀ x : Nat, x < H.size → F.heap[x]? = H[x]? := fun x hx => by
    have := Jvm.Free.Multi.fill_old (T.setVm vm₁) cA comp n.toNatClampNeg k.toNatClampNeg (defaultValue .int) (a := x) (by rw [hTh]; exact hx) n.toNatClampNeg
    rw [hF, hTh] at this
    exact this
  have hrow : ∀ j : Nat, j < n.toNatClampNeg → F.heap[H.size + 1 + j]? = some (arrV comp k.toNatClampNeg (fun _ => .int 0)) := fun j hj => by
    have := Jvm.Free.Multi.fill_inner (T.setVm vm₁) cA comp n.toNatClampNeg k.toNatClampNeg (defaultValue .int) n.toNatClampNeg j hj
    rw [hF, hTh] at this
    rw [this, ← arrV_new]
    rfl
  have hout : ∀ i : Nat, Jvm.Free.Multi.outerC cA n.toNatClampNeg H.size i = arrV cA n.toNatClampNeg (fun j => if j < i then .ref (H.size + 1 + j) else .null) := by
    intro i
    induction i with
    | zero =>
      show ({ cls := cA, slots := Array.replicate n.toNatClampNeg .null, vm := .none } : Cell) = _
      rw [arrV_new]
      refine congrArg (arrV cA n.toNatClampNeg) (funext fun j => ?_)
      simp
    | succ i ih =>
      show (Jvm.Free.Multi.outerC cA n.toNatClampNeg H.size i).setSlot i (.ref (H.size + 1 + i)) = _
      rw [ih, arrV_store]
      refine congrArg (arrV cA n.toNatClampNeg) (funext fun j => ?_)
      by_cases e : j = i
      · subst e
        simp [updV]
      · by_cases h : j < i
        · simp [updV, e, h, Nat.lt_succ_of_lt h]
        · simp [updV, e, h, show ¬ j < i + 1 by omega]
  rw [hout] at f2
  obtain ⟨t, a1, b1⟩ := kk F.heap (by rw [f1]) hold f2 hrow F rfl X'
  refine ⟨t, step t ?_, b1⟩
  have e : T.heap.size = H.size := by rw [hT]
  rw [e]
  exact a1
theorem am_copyA {lsM : Array Slot} {rest : List Value} {cc : ByteArray} (hexec : p.tables.exec = Jvm.exec) (hb : c.code = cc) (hml : c.maxLocals = lsM.size) {own : String} {index : Nat} (hown : s.vm.findClass own = some m.cls) (hlink : (Cond.methodLink own index arraycopyName).before args s = true) (hnat : (Cond.native arraycopyName).before args s = true) (hstat : (Cond.static arraycopyName).before args s = true) (hini : (Cond.initialized "java/lang/System").before args s = true)
    {a0 a : Nat} {c0 c1 : ClassId} {n0 n1 : Nat} {f h : Nat → Int32} (hA0 : ArrOfT s c0 .int) (hA1 : ArrOfT s c1 .int) (hc0 : H[a0]? = some (arrV c0 n0 (fun j => .int (f j)))) (hc1 : H[a]? = some (arrV c1 n1 (fun j => .int (h j))))
    {sp dp n : Int32} (h1 : ¬ sp < 0) (h2 : ¬ dp < 0) (h3 : ¬ n < 0) (h4 : sp.toNatClampNeg + n.toNatClampNeg ≤ n0) (h5 : dp.toNatClampNeg + n.toNatClampNeg ≤ n1)
    (hframes : 1 ≤ R.frames) (hlocals : (rest.map fun v => v.category).sum + (nativeFrameWords "java/lang/System" "arraycopy" 5 + 11) ≤ R.locals) (hdg : decode cc pc = .ok (.invokestatic index, 3))
    (kk : ∀ (H1 : Heap) (L1 : List Loc), H1[a]? = some (arrV c1 n1 (fun j => .int (va_cpy f h sp.toNatClampNeg dp.toNatClampNeg n.toNatClampNeg j))) → H1.size = H.size → (∀ q : Nat, q ≠ a → H1[q]? = H[q]?) → (∀ z ∈ L1, z.base = a) → W p l e R s m args below meth c H1 (locs ++ L1) cells slots Q (F0 m (pc + 3) lsM rest)) : W p l e R s m args below meth c H locs cells slots Q (F0 m pc lsM (.int n :: .int dp :: .ref a :: .int sp :: .ref a0 :: rest)) := by
  have nn : ∀ z : Int32, ¬ z < 0 → z.toInt = (z.toNatClampNeg : Int) := by
    intro z hz
    have hz0 : (0 : Int) ≤ z.toInt := by
      have := Int32.not_lt.mp hz
      simpa using Int32.le_iff_toInt_le.mp this
    show z.toInt = ((z.toInt.toNat : Nat) : Int)
    omega
  intro T hT X
  obtain ⟨-, k0, hk0, cm0, hkk0⟩ := hA0 n0 (fun j => .int (f j))
  obtain ⟨-, k1, hk1, cm1, hkk1⟩ := hA1 n1 (fun j => .int (h j))
  obtain ⟨vm', X', step⟩ := X.arraycopy hexec hown hlink hnat hstat hini (src := a0) (dst := a) (cs := arrV c0 n0 (fun j => .int (f j))) (cd := arrV c1 n1 (fun j => .int (h j))) (srcPos := sp) (destPos := dp) (n := n) (by rw [hT]; exact hc0) (by rw [hT]; exact hc1)
    (fun _ h => by cases h) (fun _ h => by cases h) (fun h => by cases h) (fun h => by cases h) hk0 hk1 hkk0 hkk1 (by simp [refKind]) h1 h2 h3
    (by rw [nn sp h1, nn n h3]; show ¬ _ > ((arrV c0 n0 (fun j => .int (f j))).slots.size : Int); rw [arrV_size]; omega)
    (by rw [nn dp h2, nn n h3]; show ¬ _ > ((arrV c1 n1 (fun j => .int (h j))).slots.size : Int); rw [arrV_size]; omega)
    (fun vm₁ _ i hi => by
      have e : (arrV c0 n0 (fun j => .int (f j))).slots.getD (sp.toNatClampNeg + i) .null = .int (f (sp.toNatClampNeg + i)) := by
        rw [Array.getD_eq_getD_getElem?, arrV_read _ _ (by omega)]
        rfl
      refine ⟨?_, ?_⟩
      · rw [e]
        rfl
      · rw [e]
        exact trivial)
    (g := F0 m pc lsM (.int n :: .int dp :: .ref a :: .int sp :: .ref a0 :: rest)) rfl (by rw [hml]) (rest := rest) rfl (by rw [hb]; exact hdg) hframes (by show 2 * 0 + _ + _ ≤ _; omega)
  have e1 : copied (arrV c0 n0 (fun j => .int (f j))) (arrV c1 n1 (fun j => .int (h j))) sp dp n = arrV c1 n1 (fun j => .int (va_cpy f h sp.toNatClampNeg dp.toNatClampNeg n.toNatClampNeg j)) := va_copied (fun z => .int z) c0 c1 f h h4
  rw [e1] at X' step
  have hl : a < H.size := (Array.getElem?_eq_some_iff.mp hc1).1
  have hheap : ((T.setVm vm').setCell a (arrV c1 n1 (fun j => .int (va_cpy f h sp.toNatClampNeg dp.toNatClampNeg n.toNatClampNeg j)))).heap = H.setIfInBounds a (arrV c1 n1 (fun j => .int (va_cpy f h sp.toNatClampNeg dp.toNatClampNeg n.toNatClampNeg j))) := by rw [← hT]; rfl
  obtain ⟨t, a1, b1⟩ := kk _ _ (show (H.setIfInBounds a _)[a]? = some _ by simp [Array.getElem?_setIfInBounds, hl]) (by simp) (fun q hq => by simp [Array.getElem?_setIfInBounds, Ne.symm hq]) (fun z hz => by
    obtain ⟨y, -, hy⟩ := List.mem_map.mp hz
    rw [← hy]) _ hheap X'
  exact ⟨t, step t a1, b1⟩
theorem am_copiedX (scr : Cell) (c1 : ClassId) {n0 n1 : Nat} (f h : Nat → Int32) (hs5 : ∀ i : Nat, i < n0 → scr.slots[i]? = some (.int (f i))) {sp dp n : Int32} (h4 : sp.toNatClampNeg + n.toNatClampNeg ≤ n0) :
    copied scr (arrV c1 n1 (fun j => .int (h j))) sp dp n = arrV c1 n1 (fun j => .int (va_cpy f h sp.toNatClampNeg dp.toNatClampNeg n.toNatClampNeg j)) := va_copiedX (fun z => .int z) scr c1 f h hs5 h4
theorem am_copyB {lsM : Array Slot} {rest : List Value} {cc : ByteArray} (hexec : p.tables.exec = Jvm.exec) (hb : c.code = cc) (hml : c.maxLocals = lsM.size) {own : String} {index : Nat} (hown : s.vm.findClass own = some m.cls) (hlink : (Cond.methodLink own index arraycopyName).before args s = true) (hnat : (Cond.native arraycopyName).before args s = true) (hstat : (Cond.static arraycopyName).before args s = true) (hini : (Cond.initialized "java/lang/System").before args s = true)
    {a0 a : Nat} {c1 : ClassId} {n0 n1 : Nat} {f h : Nat → Int32} {scr : Cell} (hA0 : s.isArrayOf scr .byte) (hkn : scr.vm ≠ .unknown) (hsz : n0 ≤ scr.slots.size) (hs5 : ∀ i : Nat, i < n0 → scr.slots[i]? = some (.int (f i))) (hft : ∀ i : Nat, i < n0 → fits .byte (.int (f i)) = true) (hA1 : ArrOfT s c1 .byte) (hc0 : H[a0]? = some scr) (hc1 : H[a]? = some (arrV c1 n1 (fun j => .int (h j))))
    {sp dp n : Int32} (h1 : ¬ sp < 0) (h2 : ¬ dp < 0) (h3 : ¬ n < 0) (h4 : sp.toNatClampNeg + n.toNatClampNeg ≤ n0) (h5 : dp.toNatClampNeg + n.toNatClampNeg ≤ n1)
    (hframes : 1 ≤ R.frames) (hlocals : (rest.map fun v => v.category).sum + (nativeFrameWords "java/lang/System" "arraycopy" 5 + 11) ≤ R.locals) (hdg : decode cc pc = .ok (.invokestatic index, 3))
    (kk : ∀ (H1 : Heap) (L1 : List Loc), H1[a]? = some (arrV c1 n1 (fun j => .int (va_cpy f h sp.toNatClampNeg dp.toNatClampNeg n.toNatClampNeg j))) → H1.size = H.size → (∀ q : Nat, q ≠ a → H1[q]? = H[q]?) → (∀ z ∈ L1, z.base = a) → W p l e R s m args below meth c H1 (locs ++ L1) cells slots Q (F0 m (pc + 3) lsM rest)) : W p l e R s m args below meth c H locs cells slots Q (F0 m pc lsM (.int n :: .int dp :: .ref a :: .int sp :: .ref a0 :: rest)) := by
  have nn : ∀ z : Int32, ¬ z < 0 → z.toInt = (z.toNatClampNeg : Int) := by
    intro z hz
    have hz0 : (0 : Int) ≤ z.toInt := by
      have := Int32.not_lt.mp hz
      simpa using Int32.le_iff_toInt_le.mp this
    show z.toInt = ((z.toInt.toNat : Nat) : Int)
    omega
  intro T hT X
  obtain ⟨hst0, k0, hk0, cm0, hkk0⟩ := hA0
  obtain ⟨-, k1, hk1, cm1, hkk1⟩ := hA1 n1 (fun j => .int (h j))
  obtain ⟨vm', X', step⟩ := X.arraycopy hexec hown hlink hnat hstat hini (src := a0) (dst := a) (cs := scr) (cd := arrV c1 n1 (fun j => .int (h j))) (srcPos := sp) (destPos := dp) (n := n) (by rw [hT]; exact hc0) (by rw [hT]; exact hc1)
    hst0 (fun _ h => by cases h) hkn (fun h => by cases h) hk0 hk1 hkk0 hkk1 (by simp [refKind]) h1 h2 h3
    (by rw [nn sp h1, nn n h3]; show ¬ _ > (scr.slots.size : Int); omega)
    (by rw [nn dp h2, nn n h3]; show ¬ _ > ((arrV c1 n1 (fun j => .int (h j))).slots.size : Int); rw [arrV_size]; omega)
    (fun vm₁ _ i hi => by
      have e : scr.slots.getD (sp.toNatClampNeg + i) .null = .int (f (sp.toNatClampNeg + i)) := by
        rw [Array.getD_eq_getD_getElem?, hs5 _ (by omega)]
        rfl
      refine ⟨?_, ?_⟩
      · rw [e]
        exact hft _ (by omega)
      · rw [e]
        exact trivial)
    (g := F0 m pc lsM (.int n :: .int dp :: .ref a :: .int sp :: .ref a0 :: rest)) rfl (by rw [hml]) (rest := rest) rfl (by rw [hb]; exact hdg) hframes (by show 2 * 0 + _ + _ ≤ _; omega)
  have e1 : copied scr (arrV c1 n1 (fun j => .int (h j))) sp dp n = arrV c1 n1 (fun j => .int (va_cpy f h sp.toNatClampNeg dp.toNatClampNeg n.toNatClampNeg j)) := am_copiedX scr c1 f h hs5 h4
  rw [e1] at X' step
  have hl : a < H.size := (Array.getElem?_eq_some_iff.mp hc1).1
  have hheap : ((T.setVm vm').setCell a (arrV c1 n1 (fun j => .int (va_cpy f h sp.toNatClampNeg dp.toNatClampNeg n.toNatClampNeg j)))).heap = H.setIfInBounds a (arrV c1 n1 (fun j => .int (va_cpy f h sp.toNatClampNeg dp.toNatClampNeg n.toNatClampNeg j))) := by rw [← hT]; rfl
  obtain ⟨t, a1, b1⟩ := kk _ _ (show (H.setIfInBounds a _)[a]? = some _ by simp [Array.getElem?_setIfInBounds, hl]) (by simp) (fun q hq => by simp [Array.getElem?_setIfInBounds, Ne.symm hq]) (fun z hz => by
    obtain ⟨y, -, hy⟩ := List.mem_map.mp hz
    rw [← hy]) _ hheap X'
  exact ⟨t, step t a1, b1⟩
end SIM
end
section
/-! THE SMALL MACHINE AND THE MACHINE: what is made; copies -/
section SIM
variable {p : Program} {l : Launch} {e : Env} {R : Room} {s : State} {m : MethodId} {args : Array Value} {below : List Frame} {meth : Method} {c : Code} {H : Heap} {locs : List Loc} {cells slots : Nat} {Q : State → Prop}
variable {X : am_X} {mi pc pc' : Nat} {ls ls' st st' : List AV} {g g' : AG} {M M' : AM} {lsM : Array Slot}
theorem am_al1 {kind len sl : Nat} : gN (am_alloc g kind len sl) = gN g + 1 ∧ gS (am_alloc g kind len sl) = gS g + sl ∧ gK (am_alloc g kind len sl) (100 + gN g) = kind ∧ gL (am_alloc g kind len sl) (100 + gN g) = len ∧ gR (am_alloc g kind len sl) (100 + gN g) = fun _ => 0 := by
  refine ⟨rfl, rfl, ?_, ?_, ?_⟩
  · show upN _ _ _ _ = _; unfold upN; rw [if_pos rfl]
  · show upN _ _ _ _ = _; unfold upN; rw [if_pos rfl]
  · show upR _ _ _ _ = _; unfold upR; rw [if_pos rfl]
theorem am_zero_same : am_zero g M (100 + gN g) = fun _ => 0 := by unfold am_zero upM; rw [if_pos rfl]
theorem am_zero_ne {r : Nat} (h : r ≠ 100 + gN g) : am_zero g M r = M r := by unfold am_zero upM; rw [if_neg h]
theorem am_ad_here : am_V X (aR (100 + gN g)) = .ref (xB X + gN g) := by
  show am_ad X _ = _
  rw [am_ad_new (by omega), show xB X + (100 + gN g - 100) = xB X + gN g by omega]
theorem am_s_new (hG : am_Gl X) (hF : am_Fx X p l s m args meth c mi) (hR : am_Rel X g M H) (hl : lv_has lsM (am_nL mi) (am_lv X ls)) (hn : ls.length = am_nL mi) (hq : ∀ q ∈ locs, xB X ≤ q.base) {idx : Nat} (hcl : cells + gN g' ≤ R.cells + gN g) (hsl : slots + gS g' ≤ R.slots + gS g)
    (hi : am_ins mi pc = some (.new idx)) (h : am_step mi pc (.new idx) ls st g M = some (pc', ls', st', g', M')) (kk : am_KK X p l e R s m args below meth c cells slots Q mi g pc' ls' st' g' M') :
    W p l e R s m args below meth c H locs cells slots Q (F0 m pc lsM (st.map (am_V X))) := by
  have hK := am_Kof hG hF
  have hw := fun w h => am_wd (w := w) hF h
  obtain ⟨hx, hb, hml, hown, hts, -⟩ := hF
  dsimp only [am_step] at h
  split at h
  · next i0 ci pz e1 =>
    split at h
    · next h1 =>
      simp only [Option.some.injEq, Prod.mk.injEq] at h
      obtain ⟨rfl, rfl, rfl, rfl, rfl⟩ := h
      obtain ⟨-, w1, -⟩ := am_cl_ok e1
      dsimp only at w1
      have h1' : ci < 20 := by omega
      rw [show am_cname ci = am_cn ci by unfold am_cname; rw [if_neg (by omega), if_neg (by omega), if_neg (by omega)]] at w1
      obtain ⟨w2, w3, w4⟩ := am_in_ok h1
      obtain ⟨c1, c2⟩ := am_nf_ok ci h1'
      have c3 := am_cn_ok ci h1
      have hKn := hK.1 ci _ c1
      have hfc := hKn.2.1
      rw [c3] at hfc
      obtain ⟨a1, a2, a3, a4, a5⟩ := am_al1 (g := g) (kind := ci) (len := 0) (sl := am_inst.getD ci 0)
      rw [a1] at hcl
      rw [a2, w4] at hsl
      refine W.newcK hx hb hown (hw _ w1) (hw _ w2) (hw _ w3) rfl (am_dec hi rfl) (by omega) (by omega) hfc hR.1 (fun H' kC hkC z1 z2 z3 => ?_)
      have k9 := kk H' lsM locs (cells + 1) (slots + am_nf ci) (by rw [a1]; omega) (by rw [a2, w4]; omega) (am_Rel_push hR (fun r hr => am_zero_ne hr) (by rw [z2, hR.1]) (fun q hq => z3 q (by rw [← hR.1]; exact hq)) (Or.inl ?_)) hl hn hq
      · rw [List.map_cons, am_ad_here] at k9
        exact k9
      · rw [a3]
        refine ⟨h1, ?_⟩
        have hbn := u_born (am_fty ci) hts (am_uok h1') hKn hkC z1 (fun k hk => (am_ftf h1' (by rw [c2] at hk; exact hk)).1)
        rw [c2] at hbn
        rw [show xB X + (100 + gN g - 100) = xB X + gN g by omega]
        refine hbn.to (fun k hk => ?_)
        obtain ⟨t1, t2, t3, t4, -, -, t7⟩ := am_ftf h1' hk
        unfold am_fv
        rw [a3, a5, am_zero_same]
        dsimp only
        by_cases hr : am_fkd ci k % 4 = 1
        · rw [if_pos hr]
          have := t2.mp hr
          show defaultValue (am_fty ci k) = am_ad X 0
          cases hty : am_fty ci k <;> rw [hty] at this <;> first | rfl | cases this
        · rw [if_neg hr]
          rcases (show am_fkd ci k % 4 = 0 ∨ am_fkd ci k % 4 = 1 ∨ am_fkd ci k % 4 = 2 ∨ am_fkd ci k % 4 = 3 by omega) with h5 | h5 | h5 | h5
          · rw [t3.mp h5]; rfl
          · exact absurd h5 hr
          · rw [t4.mp h5]; rfl
          · rw [t7.mp h5]; rfl
    · cases h
  · cases h
theorem am_s_newarray (hG : am_Gl X) (hF : am_Fx X p l s m args meth c mi) (hR : am_Rel X g M H) (hl : lv_has lsM (am_nL mi) (am_lv X ls)) (hn : ls.length = am_nL mi) (hq : ∀ q ∈ locs, xB X ≤ q.base) {t : ArrayType} (hcl : cells + gN g' ≤ R.cells + gN g) (hsl : slots + gS g' ≤ R.slots + gS g)
    (hi : am_ins mi pc = some (.newarray t)) (h : am_step mi pc (.newarray t) ls st g M = some (pc', ls', st', g', M')) (kk : am_KK X p l e R s m args below meth c cells slots Q mi g pc' ls' st' g' M') :
    W p l e R s m args below meth c H locs cells slots Q (F0 m pc lsM (st.map (am_V X))) := by
  have hw := fun w h => am_wd (w := w) hF h
  have hF0 := hF
  obtain ⟨hx, hb, hml, hown, hts, -⟩ := hF
  dsimp only [am_step] at h
  split at h
  · next n st2 =>
    split at h
    · next h1 =>
      obtain ⟨h1, h2, h3⟩ := h1
      simp only [Option.some.injEq, Prod.mk.injEq] at h
      obtain ⟨rfl, rfl, rfl, rfl, rfl⟩ := h
      have hk : 20 ≤ am_aat t ∧ am_aat t < 23 ∧ newarray.typeOf t = am_aty (am_aat t) ∧ (Cond.arrayClass (newarray.typeOf t)).before args s = true ∧ componentBytes (newarray.typeOf t) ≤ 8 := by
        cases t
        case int => exact ⟨by decide, by decide, rfl, hw _ am_w_aint, by decide⟩
        case byte => exact ⟨by decide, by decide, rfl, hw _ am_w_abyte, by decide⟩
        case boolean => exact ⟨by decide, by decide, rfl, hw _ am_w_aboolean, by decide⟩
        all_goals exact absurd rfl h1
      obtain ⟨k1, k2, k3, k4, k5⟩ := hk
      obtain ⟨a1, a2, a3, a4, a5⟩ := am_al1 (g := g) (kind := am_aat t) (len := n.toNat) (sl := n.toNat)
      rw [a1] at hcl
      rw [a2] at hsl
      obtain ⟨e1, e2⟩ := am_idx (i := n) (n := n.toNat + 1) h2 (by omega) (by omega)
      have hbytes : (Int32.ofInt n).toNatClampNeg * componentBytes (newarray.typeOf t) ≤ 536870912 := by
        rw [e2]
        have : n.toNat * componentBytes (newarray.typeOf t) ≤ 100000 * 8 := Nat.mul_le_mul (by omega) k5
        omega
      refine W.newa hx hb k4 rfl (am_dec hi rfl) rfl (fun q => e1 (Or.inl q)) hbytes (by omega) (by rw [e2]; omega) (fun cA kA comp f1 f2 f3 => ?_)
      have hA : cA = xA X (am_aat t) := by
        have hr := (am_arr hG hF0 k1 (by omega)).2
        have : s.vm.findClass ("[" ++ (am_aty (am_aat t)).toString) = some (xA X (am_aat t)) := by
          rcases (show am_aat t = 20 ∨ am_aat t = 21 ∨ am_aat t = 22 by omega) with h | h | h <;> rw [h] at hr ⊢ <;> exact hr
        rw [k3] at f1
        exact Option.some.inj (f1.symm.trans this)
      subst hA
      rw [e2]
      have k9 := kk (H.push { cls := xA X (am_aat t), slots := Array.replicate n.toNat (defaultValue (newarray.typeOf t)), vm := .none }) lsM locs (cells + 1) (slots + n.toNat) (by rw [a1]; omega) (by rw [a2]; omega) (am_Rel_push hR (fun r hr => am_zero_ne hr) (by rw [Array.size_push]) (fun q hq => by rw [Array.getElem?_push, if_neg (by omega)]) (Or.inr (Or.inl ?_))) hl hn hq
      · rw [List.map_cons, am_ad_here] at k9
        rw [hR.1]
        exact k9
      · rw [a3, a4]
        refine ⟨k1, by omega, by omega, ?_, fun _ j _ => by rw [am_zero_same]; exact ⟨(by decide : (-128 : Int) ≤ 0), (by decide : (0 : Int) < 128)⟩⟩
        rw [show xB X + (100 + gN g - 100) = H.size by rw [hR.1]; omega, Array.getElem?_push_size, arrV_new]
        refine congrArg (fun f => some (arrV _ _ f)) (funext fun j => ?_)
        unfold am_av
        rw [a3, am_zero_same, k3]
        rcases (show am_aat t = 20 ∨ am_aat t = 21 ∨ am_aat t = 22 by omega) with h | h | h <;> rw [h] <;> rfl
    · cases h
  · cases h
theorem am_s_anewarray (hG : am_Gl X) (hF : am_Fx X p l s m args meth c mi) (hR : am_Rel X g M H) (hl : lv_has lsM (am_nL mi) (am_lv X ls)) (hn : ls.length = am_nL mi) (hq : ∀ q ∈ locs, xB X ≤ q.base) {idx : Nat} (hcl : cells + gN g' ≤ R.cells + gN g) (hsl : slots + gS g' ≤ R.slots + gS g)
    (hi : am_ins mi pc = some (.anewarray idx)) (h : am_step mi pc (.anewarray idx) ls st g M = some (pc', ls', st', g', M')) (kk : am_KK X p l e R s m args below meth c cells slots Q mi g pc' ls' st' g' M') :
    W p l e R s m args below meth c H locs cells slots Q (F0 m pc lsM (st.map (am_V X))) := by
  have hw := fun w h => am_wd (w := w) hF h
  have hF0 := hF
  have hal : (xS X).vm.Alike s.vm := hF.2.2.2.2.2.2.2.2.2.2.1.alike
  obtain ⟨hx, hb, hml, hown, hts, -⟩ := hF
  dsimp only [am_step] at h
  split at h
  · next n st2 =>
    split at h
    · next i0 ci pz e0 =>
      split at h
      · next h1 =>
        obtain ⟨h1, h2, h3⟩ := h1
        simp only [Option.some.injEq, Prod.mk.injEq] at h
        obtain ⟨rfl, rfl, rfl, rfl, rfl⟩ := h
        obtain ⟨-, w1, -⟩ := am_cl_ok e0
        dsimp only at w1
        obtain ⟨a1, a2, a3, a4, a5⟩ := am_al1 (g := g) (kind := am_aar ci) (len := n.toNat) (sl := n.toNat)
        rw [a1] at hcl
        rw [a2] at hsl
        obtain ⟨e1, e2⟩ := am_idx (i := n) (n := n.toNat + 1) h2 (by omega) (by omega)
        have hk : 23 ≤ am_aar ci ∧ am_aar ci < 27 := by
          unfold am_aar at h1 ⊢
          repeat' split
          all_goals first | omega | (exfalso; simp_all)
        have fin : W p l e R s m args below meth c (H.push { cls := xA X (am_aar ci), slots := Array.replicate n.toNat .null, vm := .none }) locs (cells + 1) (slots + n.toNat) Q (F0 m (pc + 3) lsM (.ref H.size :: st2.map (am_V X))) := by
          have k9 := kk (H.push { cls := xA X (am_aar ci), slots := Array.replicate n.toNat .null, vm := .none }) lsM locs (cells + 1) (slots + n.toNat) (by rw [a1]; omega) (by rw [a2]; omega) (am_Rel_push hR (fun r hr => am_zero_ne hr) (by rw [Array.size_push]) (fun q hq => by rw [Array.getElem?_push, if_neg (by omega)]) (Or.inr (Or.inl ?_))) hl hn hq
          · rw [List.map_cons, am_ad_here] at k9
            rw [hR.1]
            exact k9
          · rw [a3, a4]
            refine ⟨by omega, by omega, by omega, ?_, fun h9 => by omega⟩
            rw [show xB X + (100 + gN g - 100) = H.size by rw [hR.1]; omega, Array.getElem?_push_size, arrV_new]
            refine congrArg (fun f => some (arrV _ _ f)) (funext fun j => ?_)
            unfold am_av
            rw [a3, a5, if_neg (by omega)]
            rfl
        have obj : ∀ (k : Nat) (C : String), am_aar ci = k → am_cname ci = C → va_RA s (xA X k) (.object C) → va_AO C s → W p l e R s m args below meth c H locs cells slots Q (F0 m pc lsM (.int (Int32.ofInt n) :: st2.map (am_V X))) := by
          intro k C hk1 hC hRA hAO
          rw [hC] at w1
          refine W.anew hx hb hown (hw _ w1) (va_AO.use hAO) rfl (am_dec hi rfl) rfl (fun q => e1 (Or.inl q)) (by rw [e2]; omega) (by omega) (by rw [e2]; omega) (fun cA kA comp f1 f2 f3 f4 => ?_)
          obtain ⟨kB, compB, r1, r2, r3, r4⟩ := hRA
          have hA : cA = xA X k := Option.some.inj (f1.symm.trans r4)
          subst hA
          rw [e2, ← hk1]
          exact fin
        rw [List.map_cons]
        have hcase : (ci = 5 ∧ am_aar ci = 26) ∨ (ci = 20 ∧ am_aar ci = 25) ∨ (ci = 16 ∧ am_aar ci = 23) ∨ (ci = 15 ∧ am_aar ci = 24) := by
          unfold am_aar at h1 ⊢
          repeat' split
          all_goals first | (simp_all; done) | omega
        have hAO := hG.2.2.2.2.2.2.2.2.2.2.1
        rcases hcase with ⟨h4, h5⟩ | ⟨h4, h5⟩ | ⟨h4, h5⟩ | ⟨h4, h5⟩
        · exact obj 26 "RodYard$State" h5 (by rw [h4]; decide +kernel) (am_arr hG hF0 (k := 26) (by omega) (by omega)).2 (va_AO.moved hal hAO.1)
        · rw [show am_cname ci = (FieldType.array .int).toString by rw [h4]; decide +kernel] at w1
          refine W.anewA (t := .int) hx hb hown (hw _ w1) (va_AOA.moved (t := .int) hal hG.2.2.2.2.2.2.2.2.2.2.2.1) rfl (am_dec hi rfl) rfl (fun q => e1 (Or.inl q)) (by rw [e2]; omega) (by omega) (by rw [e2]; omega) (fun cA kA comp f1 f2 f3 f4 => ?_)
          have r4 : s.vm.findClass "[[I" = some (xA X 25) := (am_arr hG hF0 (k := 25) (by omega) (by omega)).2
          have hA : cA = xA X 25 := Option.some.inj (f1.symm.trans r4)
          subst hA
          rw [e2, ← h5]
          exact fin
        · exact obj 23 "RodYardLaw$Rod" h5 (by rw [h4]; decide +kernel) (am_arr hG hF0 (k := 23) (by omega) (by omega)).2 (va_AO.moved hal hAO.2.1)
        · exact obj 24 "RodYardLaw$Order" h5 (by rw [h4]; decide +kernel) (am_arr hG hF0 (k := 24) (by omega) (by omega)).2 (va_AO.moved hal hAO.2.2)
      · cases h
    · cases h
  · cases h
theorem am_s_multi (hG : am_Gl X) (hF : am_Fx X p l s m args meth c mi) (hR : am_Rel X g M H) (hl : lv_has lsM (am_nL mi) (am_lv X ls)) (hn : ls.length = am_nL mi) (hq : ∀ q ∈ locs, xB X ≤ q.base) {idx dm : Nat} (hcl : cells + gN g' ≤ R.cells + gN g) (hsl : slots + gS g' ≤ R.slots + gS g)
    (hi : am_ins mi pc = some (.multianewarray idx dm)) (h : am_step mi pc (.multianewarray idx dm) ls st g M = some (pc', ls', st', g', M')) (kk : am_KK X p l e R s m args below meth c cells slots Q mi g pc' ls' st' g' M') :
    W p l e R s m args below meth c H locs cells slots Q (F0 m pc lsM (st.map (am_V X))) := by
  have hw := fun w h => am_wd (w := w) hF h
  have hF0 := hF
  have hal : (xS X).vm.Alike s.vm := hF.2.2.2.2.2.2.2.2.2.2.1.alike
  obtain ⟨hx, hb, hml, hown, hts, -⟩ := hF
  dsimp only [am_step] at h
  split at h
  · next k n st2 =>
    split at h
    · next i0 ci pz e0 =>
      split at h
      · next h1 =>
        obtain ⟨rfl, rfl, h2, h3, h4, h5⟩ := h1
        simp only [Option.some.injEq, Prod.mk.injEq] at h
        obtain ⟨rfl, rfl, rfl, rfl, rfl⟩ := h
        obtain ⟨-, w1, -⟩ := am_cl_ok e0
        dsimp only at w1
        rw [show am_cname 25 = "[[I" by decide +kernel] at w1
        have g1 : gN (am_multi g n.toNat k.toNat) = gN g + (1 + n.toNat) := rfl
        have g2 : gS (am_multi g n.toNat k.toNat) = gS g + (n.toNat + n.toNat * k.toNat) := rfl
        rw [g1] at hcl
        rw [g2] at hsl
        obtain ⟨e1, e2⟩ := am_idx (i := n) (n := n.toNat + 1) h2 (by omega) (by omega)
        obtain ⟨e3, e4⟩ := am_idx (i := k) (n := k.toNat + 1) h4 (by omega) (by omega)
        have ho : va_AOA .int s := va_AOA.moved hal hG.2.2.2.2.2.2.2.2.2.2.2.1
        have r1 : s.vm.findClass "[I" = some (xA X 20) := (am_arr hG hF0 (k := 20) (by omega) (by omega)).2
        have r2 : s.vm.findClass "[[I" = some (xA X 25) := (am_arr hG hF0 (k := 25) (by omega) (by omega)).2
        refine am_multiA hx hb hown (hw _ w1) ho (hw _ am_w_aint) r1 r2 (fun q => e1 (Or.inl q)) (fun q => e3 (Or.inl q)) e2 e4 (by omega) (by omega) (by omega) (by omega) (am_dec hi rfl) (fun H1 z1 z2 z3 z4 => ?_)
        have k9 := kk H1 lsM locs (cells + 1 + n.toNat) (slots + n.toNat + n.toNat * k.toNat) (by rw [g1]; omega) (by rw [g2]; omega) ?_ hl hn hq
        · rw [List.map_cons, am_ad_here] at k9
          rw [hR.1]
          exact k9
        · have K1 : ∀ r, (r < 100 + gN g ∨ 100 + gN g + n.toNat < r) → gK (am_multi g n.toNat k.toNat) r = gK g r ∧ gL (am_multi g n.toNat k.toNat) r = gL g r ∧ gR (am_multi g n.toNat k.toNat) r = gR g r ∧ am_zeros g M n.toNat r = M r := by
            intro r hr
            refine ⟨?_, ?_, ?_, ?_⟩
            · show (if r = 100 + gN g then 25 else if 100 + gN g < r ∧ r ≤ 100 + gN g + n.toNat then 20 else gK g r) = _
              rw [if_neg (by omega), if_neg (by omega)]
            · show (if r = 100 + gN g then n.toNat else if 100 + gN g < r ∧ r ≤ 100 + gN g + n.toNat then k.toNat else gL g r) = _
              rw [if_neg (by omega), if_neg (by omega)]
            · show (if r = 100 + gN g then _ else if 100 + gN g < r ∧ r ≤ 100 + gN g + n.toNat then _ else gR g r) = _
              rw [if_neg (by omega), if_neg (by omega)]
            · unfold am_zeros
              rw [if_neg (by omega)]
          obtain ⟨s1, s2, ⟨o1, o2, o3, o4, o5, o6⟩, s4, s5⟩ := hR
          refine ⟨by rw [z1, s1, g1]; omega, fun q hq => by rw [z2 q (by omega)]; exact s2 q hq, ⟨fun r hr => by rw [(K1 r (by omega)).1]; exact o1 r hr, by rw [(K1 1 (by omega)).2.1]; exact o2, fun j hj => by rw [(K1 1 (by omega)).2.2.2]; exact o3 j hj, fun j hj => ?_, ⟨by rw [(K1 50 (by omega)).2.1]; exact o5.1, fun i hi => by rw [(K1 50 (by omega)).2.2.2]; exact o5.2 i hi⟩, ⟨by rw [(K1 51 (by omega)).2.1]; exact o6.1, fun i hi => by rw [(K1 51 (by omega)).2.2.2]; exact o6.2 i hi⟩⟩, fun r hr => by rw [g1] at hr; rw [(K1 r (by omega)).1]; exact s4 r (by omega), fun r hr1 hr2 => ?_⟩
          · obtain ⟨p1, p2, p3⟩ := o4 j hj
            exact ⟨by rw [(K1 _ (by omega)).2.2.1]; exact p1, by rw [(K1 _ (by omega)).2.1]; exact p2, fun i hi => by rw [(K1 _ (by omega)).2.2.2]; exact p3 i hi⟩
          · rw [g1] at hr2
            rcases (show r < 100 + gN g ∨ r = 100 + gN g ∨ (100 + gN g < r ∧ r ≤ 100 + gN g + n.toNat) by omega) with hr | hr | hr
            · obtain ⟨q1, q2, q3, q4⟩ := K1 r (Or.inl hr)
              have hq := z2 (xB X + (r - 100)) (by omega)
              have e3 : am_fv X (am_multi g n.toNat k.toNat) (am_zeros g M n.toNat) r = am_fv X g M r := by unfold am_fv; rw [q1, q3, q4]
              have e4 : am_av X (am_multi g n.toNat k.toNat) (am_zeros g M n.toNat) r = am_av X g M r := by unfold am_av; rw [q1, q3, q4]
              rcases s5 r hr1 hr with h | h | h
              · exact Or.inl ⟨by rw [q1]; exact h.1, by rw [q1, e3]; exact h.2.kept hq⟩
              · exact Or.inr (Or.inl ⟨by rw [q1]; exact h.1, by rw [q1]; exact h.2.1, by rw [q2]; exact h.2.2.1, by rw [q1, q2, e4, hq]; exact h.2.2.2.1, by rw [q1, q2, q4]; exact h.2.2.2.2⟩)
              · exact Or.inr (Or.inr (by rw [q1]; exact h))
            · have q1 : gK (am_multi g n.toNat k.toNat) r = 25 := by
                show (if r = 100 + gN g then 25 else _) = _
                rw [if_pos hr]
              have q2 : gL (am_multi g n.toNat k.toNat) r = n.toNat := by
                show (if r = 100 + gN g then n.toNat else _) = _
                rw [if_pos hr]
              have q3 : gR (am_multi g n.toNat k.toNat) r = fun (j : Int) => if 0 ≤ j ∧ j < (n.toNat : Int) then 100 + gN g + 1 + j.toNat else 0 := by
                show (if r = 100 + gN g then _ else _) = _
                rw [if_pos hr]
              refine Or.inr (Or.inl ⟨by rw [q1]; omega, by rw [q1]; omega, by rw [q2]; omega, ?_, fun h9 => by rw [q1] at h9; omega⟩)
              rw [q1, q2, show xB X + (r - 100) = Array.size H by omega, z3]
              refine congrArg (fun f => some (arrV _ _ f)) (funext fun j => ?_)
              unfold am_av
              rw [q1, q3]
              show _ = am_ad X (if 0 ≤ (j : Int) ∧ (j : Int) < (n.toNat : Int) then 100 + gN g + 1 + ((j : Int)).toNat else 0)
              by_cases hj : j < n.toNat
              · rw [if_pos hj, if_pos ⟨by omega, by omega⟩, am_ad_new (by omega)]
                have ej : ((j : Int)).toNat = j := Int.toNat_natCast j
                rw [ej, s1]
                exact congrArg Value.ref (show (xB X + gN g + 1 + j : Nat) = xB X + (100 + gN g + 1 + j - 100) by omega)
              · rw [if_neg hj, if_neg (by omega)]
                rfl
            · have q1 : gK (am_multi g n.toNat k.toNat) r = 20 := by
                show (if r = 100 + gN g then 25 else if 100 + gN g < r ∧ r ≤ 100 + gN g + n.toNat then 20 else gK g r) = _
                rw [if_neg (by omega), if_pos hr]
              have q2 : gL (am_multi g n.toNat k.toNat) r = k.toNat := by
                show (if r = 100 + gN g then n.toNat else if 100 + gN g < r ∧ r ≤ 100 + gN g + n.toNat then k.toNat else gL g r) = _
                rw [if_neg (by omega), if_pos hr]
              have q4 : am_zeros g M n.toNat r = fun _ => 0 := by
                unfold am_zeros
                rw [if_pos (by omega)]
              refine Or.inr (Or.inl ⟨by rw [q1]; omega, by rw [q1]; omega, by rw [q2]; omega, ?_, fun h9 => by rw [q1] at h9; omega⟩)
              have hz := z4 (r - 100 - gN g - 1) (by omega)
              rw [show Array.size H + 1 + (r - 100 - gN g - 1) = xB X + (r - 100) by omega] at hz
              rw [q1, q2, hz]
              refine congrArg (fun f => some (arrV _ _ f)) (funext fun j => ?_)
              unfold am_av
              rw [q1, q4]
              rfl
      · cases h
    · cases h
  · cases h
theorem am_szge {cell : Cell} {n : Nat} {f : Nat → Value} (h : ∀ i : Nat, i < n → cell.slots[i]? = some (f i)) : n ≤ cell.slots.size := by
  rcases Nat.eq_zero_or_pos n with h0 | h0
  · omega
  · have := (Array.getElem?_eq_some_iff.mp (h (n - 1) (by omega))).1
    omega
theorem am_R27r (hG : am_Gl X) (hR : am_Rel X g M H) {a : Nat} (h : gK g a = 27) : ∀ j : Nat, j < gL g a → -128 ≤ M a j ∧ M a j < 128 := by
  have ha : a < 100 := by
    rcases Nat.lt_or_ge a 100 with q | q
    · exact q
    · rcases Nat.lt_or_ge a (100 + gN g) with q2 | q2
      · rcases hR.2.2.2.2 a q q2 with h9 | h9 | h9
        · have := h9.1; omega
        · omega
        · omega
      · have := hR.2.2.2.1 a q2; omega
  have hk := hR.2.2.1.1 a ha
  have hlt : ∀ j, j < 16 → ∀ i, i < (am_txt.getD j []).length → -128 ≤ (am_txt.getD j []).getD i 0 ∧ (am_txt.getD j []).getD i 0 < 128 := by decide +kernel
  intro i hi
  rcases am_k0_cases a with h9 | h9 | ⟨h9, ⟨j, hj, rfl⟩ | rfl | rfl⟩ | h9
  · omega
  · omega
  · obtain ⟨m1, m2, m3⟩ := hR.2.2.1.2.2.2.1 j hj
    rw [m3 i (by omega)]
    exact hlt j hj i (by omega)
  · obtain ⟨m1, m2⟩ := hR.2.2.1.2.2.2.2.1
    rw [m2 i (by omega)]
    omega
  · obtain ⟨m1, m2⟩ := hR.2.2.1.2.2.2.2.2
    rw [m2 i (by omega)]
    omega
  · omega
theorem am_s_copy (hG : am_Gl X) (hF : am_Fx X p l s m args meth c mi) (hR : am_Rel X g M H) (hl : lv_has lsM (am_nL mi) (am_lv X ls)) (hn : ls.length = am_nL mi) (hq : ∀ q ∈ locs, xB X ≤ q.base) {idx : Nat} (hfr : 1 ≤ R.frames) (hlo : 40 ≤ R.locals)
    (hi : am_ins mi pc = some (.invokestatic idx)) (hlk : Cond.methodLink (am_own mi) idx arraycopyName ∈ am_ws) (h : am_cp pc ls st g M = some (pc', ls', st', g', M')) (kk : am_KK X p l e R s m args below meth c cells slots Q mi g pc' ls' st' g' M') :
    W p l e R s m args below meth c H locs cells slots Q (F0 m pc lsM (st.map (am_V X))) := by
  have hw := fun w h => am_wd (w := w) hF h
  have hF0 := hF
  obtain ⟨hx, hb, hml, hown, hts, -⟩ := hF
  unfold am_cp at h
  split at h
  · next n dp a sp a0 st2 =>
    split at h
    · next h1 =>
      obtain ⟨k1, b1, b2, b3, b4, b5, b6⟩ := h1
      simp only [Option.some.injEq, Prod.mk.injEq] at h
      obtain ⟨rfl, rfl, rfl, rfl, rfl⟩ := h
      obtain ⟨p1, p2, p3, p4⟩ := am_R_arr hR (r := a) (by omega) (by omega)
      have hv : ∀ r, gK g r < 23 → am_av X g M r = fun j => .int (Int32.ofInt (M r j)) := fun r hr => by
        funext j
        unfold am_av
        rw [if_pos (by omega)]
      rw [hv a (by omega)] at p4
      have hl0 : gL g a0 < 1000000 := by
        rcases k1 with ⟨k1, k2⟩ | ⟨k1, k2 | k2⟩
        · exact (am_R_arr hR (r := a0) (by omega) (by omega)).2.2.1
        · exact (am_R_arr hR (r := a0) (by omega) (by omega)).2.2.1
        · obtain ⟨-, -, -, -, h9, -⟩ := am_R27 hG hR k2
          omega
      obtain ⟨x1, x2⟩ := am_idx (i := sp) (n := 2000001) b1 (by omega) (by omega)
      obtain ⟨y1, y2⟩ := am_idx (i := dp) (n := 2000001) b2 (by omega) (by omega)
      obtain ⟨w1, w2⟩ := am_idx (i := n) (n := 2000001) b3 (by omega) (by omega)
      have hsum : ((st2.map (am_V X)).map fun v => v.category).sum = (st2.map am_cat).sum := by
        rw [List.map_map]
        congr 1
        exact List.map_congr_left fun v _ => am_catV X hG v
      have hwords : nativeFrameWords "java/lang/System" "arraycopy" 5 = 7 := by decide
      have fin : ∀ (fs : Nat → Int32), (∀ j : Nat, j < gL g a0 → fs j = Int32.ofInt (M a0 j)) → (gK g a = 21 → ∀ j : Nat, j < gL g a0 → -128 ≤ M a0 j ∧ M a0 j < 128) → ∀ (H1 : Heap) (L1 : List Loc), H1[xB X + (a - 100)]? = some (arrV (xA X (gK g a)) (gL g a) (fun j => .int (va_cpy fs (fun j => Int32.ofInt (M a j)) (Int32.ofInt sp).toNatClampNeg (Int32.ofInt dp).toNatClampNeg (Int32.ofInt n).toNatClampNeg j))) → H1.size = H.size → (∀ q : Nat, q ≠ xB X + (a - 100) → H1[q]? = H[q]?) → (∀ z ∈ L1, z.base = xB X + (a - 100)) →
          W p l e R s m args below meth c H1 (locs ++ L1) cells slots Q (F0 m (pc + 3) lsM (st2.map (am_V X))) := by
        intro fs hfs hby H1 L1 z1 z2 z3 z4
        refine kk H1 lsM _ cells slots rfl rfl (am_Rel_set hR p1 p2 rfl rfl rfl (fun r hr => ⟨rfl, by unfold upM; rw [if_neg hr]⟩) z2 z3 (Or.inr (Or.inl ⟨by omega, by omega, p3, ?_, fun h21 j hj => ?_⟩))) hl hn (fun q hq2 => ?_)
        · rw [z1]
          refine congrArg (fun f => some (arrV _ _ f)) (funext fun j => ?_)
          unfold am_av upM am_cpy va_cpy
          rw [if_pos (show gK g a < 23 by omega), if_pos rfl, x2, y2, w2]
          by_cases hj : dp.toNat ≤ j ∧ j < dp.toNat + n.toNat
          · rw [if_pos hj, if_pos (by omega), hfs _ (by omega)]
            rw [show sp + ((j : Int) - dp) = ((sp.toNat + (j - dp.toNat) : Nat) : Int) by omega]
          · rw [if_neg hj, if_neg (by omega)]
        · unfold upM am_cpy
          rw [if_pos rfl]
          split
          · next h9 =>
            have := hby h21 (sp.toNat + (j - dp.toNat)) (by omega)
            rw [show sp + ((j : Int) - dp) = ((sp.toNat + (j - dp.toNat) : Nat) : Int) by omega]
            exact this
          · exact am_R_byt hR h21 j hj
        · rcases List.mem_append.mp hq2 with h | h
          · exact hq q h
          · rw [z4 q h]; exact Nat.le_add_right _ _
      have hbyte : ∀ x : Int, -128 ≤ x ∧ x < 128 → fits .byte (.int (Int32.ofInt x)) = true := by
        intro x hx
        show ((-128 : Int32) ≤ Int32.ofInt x && Int32.ofInt x ≤ (127 : Int32)) = true
        rw [show (-128 : Int32) = Int32.ofInt (-128) by decide, show (127 : Int32) = Int32.ofInt 127 by decide]
        have e1 : wr x = x := wr_id (by omega) (by omega)
        have e2 : wr (-128) = -128 := by decide
        have e3 : wr 127 = 127 := by decide
        rw [Bool.and_eq_true, decide_eq_true_eq, decide_eq_true_eq, am_leI, am_leI, e1, e2, e3]
        omega
      rw [List.map_cons, List.map_cons, List.map_cons, List.map_cons, List.map_cons, show am_V X (aR a) = .ref (xB X + (a - 100)) from am_ad_new p1]
      rcases k1 with ⟨k1, k2⟩ | ⟨k1, k2 | k2⟩
      · obtain ⟨q1, q2, q3, q4⟩ := am_R_arr hR (r := a0) (by omega) (by omega)
        rw [hv a0 (by omega)] at q4
        have hA := (am_arr hG hF0 (k := 20) (by omega) (by omega)).1
        rw [show am_V X (aR a0) = .ref (xB X + (a0 - 100)) from am_ad_new q1]
        exact am_copyA hx hb (by rw [hml]; exact hl.1.symm) hown (hw _ hlk) (hw _ am_w_cn) (hw _ am_w_cs) (hw _ am_w_ci) (by rw [k2]; exact hA) (by rw [k1]; exact hA) q4 p4 (fun q => x1 (Or.inl q)) (fun q => y1 (Or.inl q)) (fun q => w1 (Or.inl q)) (by rw [x2, w2]; omega) (by rw [y2, w2]; omega) hfr (by rw [hsum]; omega) (am_dec hi rfl) (fin _ (fun _ _ => rfl) (fun h9 => by omega))
      · obtain ⟨q1, q2, q3, q4⟩ := am_R_arr hR (r := a0) (by omega) (by omega)
        rw [hv a0 (by omega)] at q4
        have hA := (am_arr hG hF0 (k := 21) (by omega) (by omega)).1
        rw [show am_V X (aR a0) = .ref (xB X + (a0 - 100)) from am_ad_new q1]
        exact am_copyB hx hb (by rw [hml]; exact hl.1.symm) hown (hw _ hlk) (hw _ am_w_cn) (hw _ am_w_cs) (hw _ am_w_ci) (n0 := gL g a0) (f := fun j => Int32.ofInt (M a0 j)) (by rw [k2]; exact hA _ _) (fun h9 => by cases h9) (Nat.le_of_eq (arrV_size _ _ _).symm) (fun i hi => arrV_read _ _ hi) (fun i hi => hbyte _ (am_R_byt hR k2 i hi)) (by rw [k1]; exact hA) q4 p4 (fun q => x1 (Or.inl q)) (fun q => y1 (Or.inl q)) (fun q => w1 (Or.inl q)) (by rw [x2, w2]; omega) (by rw [y2, w2]; omega) hfr (by rw [hsum]; omega) (am_dec hi rfl) (fin _ (fun _ _ => rfl) (fun _ => am_R_byt hR k2))
      · obtain ⟨vv, f, f1, f2, f3, f4⟩ := am_R27 hG hR k2
        obtain ⟨cell, c1, c2, c3, c4, c5, c6, c7⟩ := va_T.moved hF0.2.2.2.2.2.2.2.2.2.2.1.alike f2
        have hA := (am_arr hG hF0 (k := 21) (by omega) (by omega)).1
        rw [f1]
        have hrg : ∀ j : Nat, j < gL g a0 → -128 ≤ M a0 j ∧ M a0 j < 128 := am_R27r hG hR k2
        exact am_copyB hx hb (by rw [hml]; exact hl.1.symm) hown (hw _ hlk) (hw _ am_w_cn) (hw _ am_w_cs) (hw _ am_w_ci) (n0 := gL g a0) (f := fun j => Int32.ofInt (M a0 j)) c2 c3 (am_szge (fun i hi => c6 i hi)) (fun i hi => by rw [c6 i hi, f4 i hi]) (fun i hi => hbyte _ (hrg i hi)) (by rw [k1]; exact hA) (by rw [hR.2.1 vv (Nat.not_le.mp c7)]; exact c1) p4 (fun q => x1 (Or.inl q)) (fun q => y1 (Or.inl q)) (fun q => w1 (Or.inl q)) (by rw [x2, w2]; omega) (by rw [y2, w2]; omega) hfr (by rw [hsum]; omega) (am_dec hi rfl) (fin _ (fun _ _ => rfl) (fun _ => hrg))
    · cases h
  · cases h
theorem am_s_mx (hG : am_Gl X) (hF : am_Fx X p l s m args meth c mi) (hR : am_Rel X g M H) (hl : lv_has lsM (am_nL mi) (am_lv X ls)) (hn : ls.length = am_nL mi) (hq : ∀ q ∈ locs, xB X ≤ q.base) {idx : Nat} (hfr : 1 ≤ R.frames) (hlo : 40 ≤ R.locals) (hcl : cells ≤ R.cells) (hsl : slots ≤ R.slots)
    (hst : Cond.static Lib.Math.max.name ∈ am_ws) (hco : Cond.code Lib.Math.max.name Lib.Math.max.code 2 (some .int) ∈ am_ws) (hin : Cond.initialized "java/lang/Math" ∈ am_ws) (hi : am_ins mi pc = some (.invokestatic idx)) (hlk : Cond.methodLink (am_own mi) idx Lib.Math.max.name ∈ am_ws) (h : am_mx pc ls st g M = some (pc', ls', st', g', M')) (kk : am_KK X p l e R s m args below meth c cells slots Q mi g pc' ls' st' g' M') :
    W p l e R s m args below meth c H locs cells slots Q (F0 m pc lsM (st.map (am_V X))) := by
  have hw := fun w h => am_wd (w := w) hF h
  obtain ⟨hx, hb, hml, hown, hts, -⟩ := hF
  unfold am_mx at h
  split at h
  · next y x st2 =>
    split at h
    · next h1 =>
      simp only [Option.some.injEq, Prod.mk.injEq] at h
      obtain ⟨rfl, rfl, rfl, rfl, rfl⟩ := h
      have hsum : ((st2.map (am_V X)).map fun v => v.category).sum = (st2.map am_cat).sum := by
        rw [List.map_map]
        congr 1
        exact List.map_congr_left fun v _ => am_catV X hG v
      refine va_mmax hx hb (by rw [hml]; exact hl.1.symm) hown (hw _ hlk) (hw _ hst) (hw _ hin) (hw _ hco) hfr (by rw [hsum]; omega) hcl hsl (am_dec hi rfl) ?_
      have k9 := kk H lsM locs cells slots rfl rfl hR hl hn hq
      rw [List.map_cons, show am_V X (aI (if wr x < wr y then y else x)) = .int (if Int32.ofInt x < Int32.ofInt y then Int32.ofInt y else Int32.ofInt x) by
        show Value.int (Int32.ofInt _) = _
        by_cases hc : wr x < wr y
        · rw [if_pos hc, if_pos ((am_ltI x y).mpr hc)]
        · rw [if_neg hc, if_neg (fun q => hc ((am_ltI x y).mp q))]] at k9
      exact k9
    · cases h
  · cases h
theorem am_s_mn (hG : am_Gl X) (hF : am_Fx X p l s m args meth c mi) (hR : am_Rel X g M H) (hl : lv_has lsM (am_nL mi) (am_lv X ls)) (hn : ls.length = am_nL mi) (hq : ∀ q ∈ locs, xB X ≤ q.base) {idx : Nat} (hfr : 1 ≤ R.frames) (hlo : 40 ≤ R.locals) (hcl : cells ≤ R.cells) (hsl : slots ≤ R.slots)
    (hst : Cond.static Lib.Math.min.name ∈ am_ws) (hco : Cond.code Lib.Math.min.name Lib.Math.min.code 2 (some .int) ∈ am_ws) (hin : Cond.initialized "java/lang/Math" ∈ am_ws) (hi : am_ins mi pc = some (.invokestatic idx)) (hlk : Cond.methodLink (am_own mi) idx Lib.Math.min.name ∈ am_ws) (h : am_mn pc ls st g M = some (pc', ls', st', g', M')) (kk : am_KK X p l e R s m args below meth c cells slots Q mi g pc' ls' st' g' M') :
    W p l e R s m args below meth c H locs cells slots Q (F0 m pc lsM (st.map (am_V X))) := by
  have hw := fun w h => am_wd (w := w) hF h
  obtain ⟨hx, hb, hml, hown, hts, -⟩ := hF
  unfold am_mn at h
  split at h
  · next y x st2 =>
    split at h
    · next h1 =>
      simp only [Option.some.injEq, Prod.mk.injEq] at h
      obtain ⟨rfl, rfl, rfl, rfl, rfl⟩ := h
      have hsum : ((st2.map (am_V X)).map fun v => v.category).sum = (st2.map am_cat).sum := by
        rw [List.map_map]
        congr 1
        exact List.map_congr_left fun v _ => am_catV X hG v
      refine va_mmin hx hb (by rw [hml]; exact hl.1.symm) hown (hw _ hlk) (hw _ hst) (hw _ hin) (hw _ hco) hfr (by rw [hsum]; omega) hcl hsl (am_dec hi rfl) ?_
      have k9 := kk H lsM locs cells slots rfl rfl hR hl hn hq
      rw [List.map_cons, show am_V X (aI (if wr y < wr x then y else x)) = .int (if Int32.ofInt y < Int32.ofInt x then Int32.ofInt y else Int32.ofInt x) by
        show Value.int (Int32.ofInt _) = _
        by_cases hc : wr y < wr x
        · rw [if_pos hc, if_pos ((am_ltI y x).mpr hc)]
        · rw [if_neg hc, if_neg (fun q => hc ((am_ltI y x).mp q))]] at k9
      exact k9
    · cases h
  · cases h
theorem am_s_objinit (hG : am_Gl X) (hF : am_Fx X p l s m args meth c mi) (hR : am_Rel X g M H) (hl : lv_has lsM (am_nL mi) (am_lv X ls)) (hn : ls.length = am_nL mi) (hq : ∀ q ∈ locs, xB X ≤ q.base) {idx : Nat} (hfr : 1 ≤ R.frames) (hlo : 40 ≤ R.locals)
    (hin : Cond.instanceMethod Lib.objectInit ∈ am_ws) (hco : Cond.code Lib.objectInit ⟨#[0xb1]⟩ 1 none ∈ am_ws) (hlk : ∀ q, am_ml (am_oc mi) idx = some q → q.2.1 = 5 → Cond.methodLink (am_own mi) idx Lib.objectInit ∈ am_ws)
    (hi : am_ins mi pc = some (.invokespecial idx)) (h : am_step mi pc (.invokespecial idx) ls st g M = some (pc', ls', st', g', M')) (kk : am_KK X p l e R s m args below meth c cells slots Q mi g pc' ls' st' g' M') :
    W p l e R s m args below meth c H locs cells slots Q (F0 m pc lsM (st.map (am_V X))) := by
  have hw := fun w h => am_wd (w := w) hF h
  obtain ⟨hx, hb, hml, hown, hts, -⟩ := hF
  dsimp only [am_step] at h
  split at h
  · next e0 =>
    split at h
    · next a st2 =>
      split at h
      · next h1 =>
        simp only [Option.some.injEq, Prod.mk.injEq] at h
        obtain ⟨rfl, rfl, rfl, rfl, rfl⟩ := h
        obtain ⟨ha, -⟩ := am_R_obj hR h1.1
        have hsum : ((st2.map (am_V X)).map fun v => v.category).sum = (st2.map am_cat).sum := by
          rw [List.map_map]
          congr 1
          exact List.map_congr_left fun v _ => am_catV X hG v
        rw [List.map_cons, show am_V X (aR a) = .ref (xB X + (a - 100)) from am_ad_new ha]
        exact W.objInit hx hb hown (hw _ (hlk _ e0 rfl)) (hw _ hin) (hw _ hco) rfl (by rw [hml]; exact hl.1) rfl (am_dec hi rfl) hfr (by show 2 * 0 + _ + 12 ≤ _; rw [hsum]; omega) (kk H lsM locs cells slots rfl rfl hR hl hn hq)
      · cases h
    · cases h
  · cases h
theorem am_s_clone (hG : am_Gl X) (hF : am_Fx X p l s m args meth c mi) (hR : am_Rel X g M H) (hl : lv_has lsM (am_nL mi) (am_lv X ls)) (hn : ls.length = am_nL mi) (hq : ∀ q ∈ locs, xB X ≤ q.base) {idx : Nat} (hfr : 1 ≤ R.frames) (hlo : 40 ≤ R.locals) (hcl : cells + gN g' ≤ R.cells + gN g) (hsl : slots + gS g' ≤ R.slots + gS g) (hlk : ∀ q, am_ml (am_oc mi) idx = some q → q.2.1 = 11 → Cond.methodLink (am_own mi) idx ⟨"[B", "clone", "()Ljava/lang/Object;"⟩ ∈ am_ws ∧ Cond.selects "[B" ⟨"[B", "clone", "()Ljava/lang/Object;"⟩ ⟨"java/lang/Object", "clone", "()Ljava/lang/Object;"⟩ ∈ am_ws ∧ Cond.castable "[B" "java/lang/Cloneable" ∈ lw_tbl)
    (hi : am_ins mi pc = some (.invokevirtual idx)) (h : am_step mi pc (.invokevirtual idx) ls st g M = some (pc', ls', st', g', M')) (kk : am_KK X p l e R s m args below meth c cells slots Q mi g pc' ls' st' g' M') :
    W p l e R s m args below meth c H locs cells slots Q (F0 m pc lsM (st.map (am_V X))) := by
  have hw := fun w h => am_wd (w := w) hF h
  have hF0 := hF
  have hW : (xS X).WarmedH s.vm := hF.2.2.2.2.2.2.2.2.2.2.1
  obtain ⟨hx, hb, hml, hown, hts, -⟩ := hF
  dsimp only [am_step] at h
  split at h
  · next e0 =>
    obtain ⟨l1, l2, l3⟩ := hlk _ e0 rfl
    unfold am_clone at h
    split at h
    · next a st2 =>
      split at h
      · next h1 =>
        obtain ⟨h1, h2⟩ := h1
        simp only [Option.some.injEq, Prod.mk.injEq] at h
        obtain ⟨rfl, rfl, rfl, rfl, rfl⟩ := h
        obtain ⟨a1, a2, a3, a4, a5⟩ := am_al1 (g := g) (kind := 21) (len := gL g a) (sl := gL g a)
        rw [a1] at hcl
        rw [a2] at hsl
        obtain ⟨p1, p2, p3, p4⟩ := am_R_arr hR (r := a) (by omega) (by omega)
        have hby := am_R_byt hR h1
        have hsum : ((st2.map (am_V X)).map fun v => v.category).sum = (st2.map am_cat).sum := by
          rw [List.map_map]
          congr 1
          exact List.map_congr_left fun v _ => am_catV X hG v
        rw [List.map_cons, show am_V X (aR a) = .ref (xB X + (a - 100)) from am_ad_new p1]
        have hA := (am_arr hG hF0 (k := 21) (by omega) (by omega))
        rw [h1] at p4
        have hnm : s.vm.findClass "[B" = some (xA X 21) := hA.2
        have hAO : ArrOfT s (xA X 21) .byte := hA.1
        obtain ⟨-, kS, hkS, compS, hkindS⟩ := hAO 0 (fun _ => .null)
        have hcl9 : va_Nw (.castable "[B" "java/lang/Cloneable") s := va_Nw.warmC hW (hG.2.2.2.2.2.2.2.2.2.1 _ l3 rfl)
        obtain ⟨c0, t0', f1, f2, f3⟩ := Cond.castable_spec (va_Nw.use (A := args) rfl hcl9)
        cases hnm.symm.trans f1
        intro T hT Xs
        obtain ⟨-, kA, hkA, comp, hkind⟩ := State.isArrayOf_alike Xs.warmed.alike (hAO 0 (fun _ => .null))
        obtain ⟨vm', X', st⟩ := Xs.cloneArray hx hown (hw _ l1) (hw _ am_w_ols) (hw _ am_w_oln) (hw _ am_w_oli) (hw _ l2) (a := xB X + (a - 100)) (cell := arrV (xA X 21) (gL g a) (am_av X g M a)) (by rw [hT]; exact p4) (fun k h => by cases h) (fun h => by cases h) hnm f2 f3
          (fun i v hv => by
            have hk' : T.vm.classes[xA X 21]? = some kA := hkA
            have hi9 : i < gL g a := by
              have := (Array.getElem?_eq_some_iff.mp hv).1
              rw [arrV_size] at this
              exact this
            rw [arrV_read _ _ hi9] at hv
            cases hv
            unfold am_av
            rw [if_pos (by omega)]
            have hf9 : fits .byte (.int (Int32.ofInt (M a i))) = true := by
              have hx9 := hby i hi9
              show ((-128 : Int32) ≤ Int32.ofInt (M a i) && Int32.ofInt (M a i) ≤ (127 : Int32)) = true
              rw [show (-128 : Int32) = Int32.ofInt (-128) by decide, show (127 : Int32) = Int32.ofInt 127 by decide]
              have e1 : wr (M a i) = M a i := wr_id (by omega) (by omega)
              have e2 : wr (-128) = -128 := by decide
              have e3 : wr 127 = 127 := by decide
              rw [Bool.and_eq_true, decide_eq_true_eq, decide_eq_true_eq, am_leI, am_leI, e1, e2, e3]
              omega
            show T.fitsSlot (xA X 21) .none i _ = true
            simpa [State.fitsSlot, State.slotType?, hk', hkind] using hf9)
          (g := F0 m pc lsM (.ref (xB X + (a - 100)) :: st2.map (am_V X))) rfl (by rw [hml]; exact hl.1) rfl (by rw [hb]; exact am_dec hi rfl) hfr (by show 2 * 0 + _ + 14 ≤ _; rw [hsum]; omega) (by omega) (by rw [arrV_size]; omega) (hloader := Vm.clonesLoader_of_array hkS hkindS)
        rw [arrV_size] at X'
        have k9 := kk (H.push (arrV (xA X 21) (gL g a) (am_av X g M a))) lsM locs (cells + 1) (slots + gL g a) (by rw [a1]; omega) (by rw [a2]; omega) (am_Rel_push (M' := upM M (100 + gN g) (M a)) hR (fun r hr => by unfold upM; rw [if_neg hr]) (by rw [Array.size_push]) (fun q hq => by rw [Array.getElem?_push, if_neg (by omega)]) (Or.inr (Or.inl ?_))) hl hn hq
        · rw [List.map_cons, am_ad_here] at k9
          obtain ⟨t, b1, b2⟩ := k9 ((T.setVm vm').pushCell (arrV (xA X 21) (gL g a) (am_av X g M a))) (by rw [← hT]; rfl) X'
          refine ⟨t, st t ?_, b2⟩
          rw [hT, hR.1]
          exact b1
        · rw [a3, a4]
          refine ⟨by omega, by omega, p3, ?_, fun _ j hj => by unfold upM; rw [if_pos rfl]; exact hby j hj⟩
          rw [show xB X + (100 + gN g - 100) = H.size by rw [hR.1]; omega, Array.getElem?_push_size]
          refine congrArg (fun f => some (arrV _ _ f)) (funext fun j => ?_)
          unfold am_av upM
          rw [a3, if_pos (by omega), if_pos (by omega), if_pos rfl]
      · cases h
    · cases h
  · cases h
theorem am_s_checkcast (hG : am_Gl X) (hF : am_Fx X p l s m args meth c mi) (hR : am_Rel X g M H) (hl : lv_has lsM (am_nL mi) (am_lv X ls)) (hn : ls.length = am_nL mi) (hq : ∀ q ∈ locs, xB X ≤ q.base) {idx : Nat}
    (hi : am_ins mi pc = some (.checkcast idx)) (h : am_step mi pc (.checkcast idx) ls st g M = some (pc', ls', st', g', M')) (kk : am_KK X p l e R s m args below meth c cells slots Q mi g pc' ls' st' g' M') :
    W p l e R s m args below meth c H locs cells slots Q (F0 m pc lsM (st.map (am_V X))) := by
  have hw := fun w h => am_wd (w := w) hF h
  have hF0 := hF
  obtain ⟨hx, hb, hml, hown, hts, -⟩ := hF
  dsimp only [am_step] at h
  split at h
  · next a st2 =>
    split at h
    · next i0 ci pz e0 =>
      split at h
      · next h1 =>
        obtain ⟨rfl, h1⟩ := h1
        simp only [Option.some.injEq, Prod.mk.injEq] at h
        obtain ⟨rfl, rfl, rfl, rfl, rfl⟩ := h
        obtain ⟨-, w1, -⟩ := am_cl_ok e0
        dsimp only at w1
        rw [show am_cname 21 = "[B" by decide +kernel] at w1
        obtain ⟨p1, p2, p3, p4⟩ := am_R_arr hR (r := a) (by omega) (by omega)
        rw [h1] at p4
        have hnm : s.vm.findClass "[B" = some (xA X 21) := (am_arr hG hF0 (k := 21) (by omega) (by omega)).2
        have k9 := kk H lsM locs cells slots rfl rfl hR hl hn hq
        rw [List.map_cons, show am_V X (aR a) = .ref (xB X + (a - 100)) from am_ad_new p1] at k9 ⊢
        intro T hT Xs
        obtain ⟨vm', X', st⟩ := Xs.checkcastYes hx hown (hw _ w1) (by rw [hT]; exact p4) rfl hnm (va_asg _ _) (g := F0 m pc lsM (.ref (xB X + (a - 100)) :: st2.map (am_V X))) rfl rfl (by rw [hb]; exact am_dec hi rfl)
        obtain ⟨t, a1, b1⟩ := k9 (T.setVm vm') hT X'
        exact ⟨t, st t a1, b1⟩
      · cases h
    · cases h
  · cases h
end SIM
end
section
/-! THE SMALL MACHINE: its methods are the claim's own -/
def am_ph : List Nat := [54, 57, 58, 93, 127, 129, 131, 133, 134]
abbrev am_vd (y : Nat) : Prop := 1 ≤ y ∧ y < 220 ∧ am_ph.contains y = false
def am_cw (y : Nat) : Jvm.Cond := if am_hh y = [] then .code (am_name y) (am_code y) (am_nL y) (am_rt y) else .codeWith (am_name y) (am_code y) (am_nL y) (am_rt y) (am_hh y)
theorem am_mlen : am_mt.length = 220 := by decide +kernel
set_option maxRecDepth 100000 in
theorem am_cwi_1 : lw_tbl[516]? = some (am_cw 1) := rfl
set_option maxRecDepth 100000 in
theorem am_cwi_2 : lw_tbl[887]? = some (am_cw 2) := rfl
set_option maxRecDepth 100000 in
theorem am_cwi_3 : lw_tbl[891]? = some (am_cw 3) := rfl
set_option maxRecDepth 100000 in
theorem am_cwi_4 : lw_tbl[520]? = some (am_cw 4) := rfl
set_option maxRecDepth 100000 in
theorem am_cwi_5 : lw_tbl[714]? = some (am_cw 5) := rfl
set_option maxRecDepth 100000 in
theorem am_cwi_6 : lw_tbl[894]? = some (am_cw 6) := rfl
set_option maxRecDepth 100000 in
theorem am_cwi_7 : lw_tbl[717]? = some (am_cw 7) := rfl
set_option maxRecDepth 100000 in
theorem am_cwi_8 : lw_tbl[84]? = some (am_cw 8) := rfl
set_option maxRecDepth 100000 in
theorem am_cwi_9 : lw_tbl[983]? = some (am_cw 9) := rfl
set_option maxRecDepth 100000 in
theorem am_cwi_10 : lw_tbl[987]? = some (am_cw 10) := rfl
set_option maxRecDepth 100000 in
theorem am_cwi_11 : lw_tbl[1014]? = some (am_cw 11) := rfl
set_option maxRecDepth 100000 in
theorem am_cwi_12 : lw_tbl[1018]? = some (am_cw 12) := rfl
set_option maxRecDepth 100000 in
theorem am_cwi_13 : lw_tbl[1050]? = some (am_cw 13) := rfl
set_option maxRecDepth 100000 in
theorem am_cwi_14 : lw_tbl[127]? = some (am_cw 14) := rfl
set_option maxRecDepth 100000 in
theorem am_cwi_15 : lw_tbl[996]? = some (am_cw 15) := rfl
set_option maxRecDepth 100000 in
theorem am_cwi_16 : lw_tbl[1005]? = some (am_cw 16) := rfl
set_option maxRecDepth 100000 in
theorem am_cwi_17 : lw_tbl[1055]? = some (am_cw 17) := rfl
set_option maxRecDepth 100000 in
theorem am_cwi_18 : lw_tbl[1073]? = some (am_cw 18) := rfl
set_option maxRecDepth 100000 in
theorem am_cwi_19 : lw_tbl[1077]? = some (am_cw 19) := rfl
set_option maxRecDepth 100000 in
theorem am_cwi_20 : lw_tbl[1081]? = some (am_cw 20) := rfl
set_option maxRecDepth 100000 in
theorem am_cwi_21 : lw_tbl[1085]? = some (am_cw 21) := rfl
set_option maxRecDepth 100000 in
theorem am_cwi_22 : lw_tbl[1129]? = some (am_cw 22) := rfl
set_option maxRecDepth 100000 in
theorem am_cwi_23 : lw_tbl[1227]? = some (am_cw 23) := rfl
set_option maxRecDepth 100000 in
theorem am_cwi_24 : lw_tbl[1235]? = some (am_cw 24) := rfl
set_option maxRecDepth 100000 in
theorem am_cwi_25 : lw_tbl[1207]? = some (am_cw 25) := rfl
set_option maxRecDepth 100000 in
theorem am_cwi_26 : lw_tbl[1215]? = some (am_cw 26) := rfl
set_option maxRecDepth 100000 in
theorem am_cwi_27 : lw_tbl[1231]? = some (am_cw 27) := rfl
set_option maxRecDepth 100000 in
theorem am_cwi_28 : lw_tbl[301]? = some (am_cw 28) := rfl
set_option maxRecDepth 100000 in
theorem am_cwi_29 : lw_tbl[1281]? = some (am_cw 29) := rfl
set_option maxRecDepth 100000 in
theorem am_cwi_30 : lw_tbl[1276]? = some (am_cw 30) := rfl
set_option maxRecDepth 100000 in
theorem am_cwi_31 : lw_tbl[1287]? = some (am_cw 31) := rfl
set_option maxRecDepth 100000 in
theorem am_cwi_32 : lw_tbl[225]? = some (am_cw 32) := rfl
set_option maxRecDepth 100000 in
theorem am_cwi_33 : lw_tbl[1137]? = some (am_cw 33) := rfl
set_option maxRecDepth 100000 in
theorem am_cwi_34 : lw_tbl[1146]? = some (am_cw 34) := rfl
set_option maxRecDepth 100000 in
theorem am_cwi_35 : lw_tbl[1150]? = some (am_cw 35) := rfl
set_option maxRecDepth 100000 in
theorem am_cwi_36 : lw_tbl[1203]? = some (am_cw 36) := rfl
set_option maxRecDepth 100000 in
theorem am_cwi_37 : lw_tbl[1158]? = some (am_cw 37) := rfl
set_option maxRecDepth 100000 in
theorem am_cwi_38 : lw_tbl[1189]? = some (am_cw 38) := rfl
set_option maxRecDepth 100000 in
theorem am_cwi_39 : lw_tbl[1180]? = some (am_cw 39) := rfl
set_option maxRecDepth 100000 in
theorem am_cwi_40 : lw_tbl[1184]? = some (am_cw 40) := rfl
set_option maxRecDepth 100000 in
theorem am_cwi_41 : lw_tbl[1172]? = some (am_cw 41) := rfl
set_option maxRecDepth 100000 in
theorem am_cwi_42 : lw_tbl[1176]? = some (am_cw 42) := rfl
set_option maxRecDepth 100000 in
theorem am_cwi_43 : lw_tbl[1194]? = some (am_cw 43) := rfl
set_option maxRecDepth 100000 in
theorem am_cwi_44 : lw_tbl[1198]? = some (am_cw 44) := rfl
set_option maxRecDepth 100000 in
theorem am_cwi_45 : lw_tbl[1211]? = some (am_cw 45) := rfl
set_option maxRecDepth 100000 in
theorem am_cwi_46 : lw_tbl[1219]? = some (am_cw 46) := rfl
set_option maxRecDepth 100000 in
theorem am_cwi_47 : lw_tbl[1223]? = some (am_cw 47) := rfl
set_option maxRecDepth 100000 in
theorem am_cwi_48 : lw_tbl[1325]? = some (am_cw 48) := rfl
set_option maxRecDepth 100000 in
theorem am_cwi_49 : lw_tbl[1329]? = some (am_cw 49) := rfl
set_option maxRecDepth 100000 in
theorem am_cwi_50 : lw_tbl[1256]? = some (am_cw 50) := rfl
set_option maxRecDepth 100000 in
theorem am_cwi_51 : lw_tbl[1345]? = some (am_cw 51) := rfl
set_option maxRecDepth 100000 in
theorem am_cwi_52 : lw_tbl[238]? = some (am_cw 52) := rfl
set_option maxRecDepth 100000 in
theorem am_cwi_53 : lw_tbl[1167]? = some (am_cw 53) := rfl
set_option maxRecDepth 100000 in
theorem am_cwi_55 : lw_tbl[1244]? = some (am_cw 55) := rfl
set_option maxRecDepth 100000 in
theorem am_cwi_56 : lw_tbl[1252]? = some (am_cw 56) := rfl
set_option maxRecDepth 100000 in
theorem am_cwi_59 : lw_tbl[261]? = some (am_cw 59) := rfl
set_option maxRecDepth 100000 in
theorem am_cwi_60 : lw_tbl[1390]? = some (am_cw 60) := rfl
set_option maxRecDepth 100000 in
theorem am_cwi_61 : lw_tbl[1395]? = some (am_cw 61) := rfl
set_option maxRecDepth 100000 in
theorem am_cwi_62 : lw_tbl[1399]? = some (am_cw 62) := rfl
set_option maxRecDepth 100000 in
theorem am_cwi_63 : lw_tbl[281]? = some (am_cw 63) := rfl
set_option maxRecDepth 100000 in
theorem am_cwi_64 : lw_tbl[1303]? = some (am_cw 64) := rfl
set_option maxRecDepth 100000 in
theorem am_cwi_65 : lw_tbl[1369]? = some (am_cw 65) := rfl
set_option maxRecDepth 100000 in
theorem am_cwi_66 : lw_tbl[78]? = some (am_cw 66) := rfl
set_option maxRecDepth 100000 in
theorem am_cwi_67 : lw_tbl[918]? = some (am_cw 67) := rfl
set_option maxRecDepth 100000 in
theorem am_cwi_68 : lw_tbl[922]? = some (am_cw 68) := rfl
set_option maxRecDepth 100000 in
theorem am_cwi_69 : lw_tbl[927]? = some (am_cw 69) := rfl
set_option maxRecDepth 100000 in
theorem am_cwi_70 : lw_tbl[932]? = some (am_cw 70) := rfl
set_option maxRecDepth 100000 in
theorem am_cwi_71 : lw_tbl[936]? = some (am_cw 71) := rfl
set_option maxRecDepth 100000 in
theorem am_cwi_72 : lw_tbl[940]? = some (am_cw 72) := rfl
set_option maxRecDepth 100000 in
theorem am_cwi_73 : lw_tbl[943]? = some (am_cw 73) := rfl
set_option maxRecDepth 100000 in
theorem am_cwi_74 : lw_tbl[947]? = some (am_cw 74) := rfl
set_option maxRecDepth 100000 in
theorem am_cwi_75 : lw_tbl[950]? = some (am_cw 75) := rfl
set_option maxRecDepth 100000 in
theorem am_cwi_76 : lw_tbl[954]? = some (am_cw 76) := rfl
set_option maxRecDepth 100000 in
theorem am_cwi_77 : lw_tbl[958]? = some (am_cw 77) := rfl
set_option maxRecDepth 100000 in
theorem am_cwi_78 : lw_tbl[964]? = some (am_cw 78) := rfl
set_option maxRecDepth 100000 in
theorem am_cwi_79 : lw_tbl[969]? = some (am_cw 79) := rfl
set_option maxRecDepth 100000 in
theorem am_cwi_80 : lw_tbl[974]? = some (am_cw 80) := rfl
set_option maxRecDepth 100000 in
theorem am_cwi_81 : lw_tbl[979]? = some (am_cw 81) := rfl
set_option maxRecDepth 100000 in
theorem am_cwi_82 : lw_tbl[992]? = some (am_cw 82) := rfl
set_option maxRecDepth 100000 in
theorem am_cwi_83 : lw_tbl[1001]? = some (am_cw 83) := rfl
set_option maxRecDepth 100000 in
theorem am_cwi_84 : lw_tbl[1010]? = some (am_cw 84) := rfl
set_option maxRecDepth 100000 in
theorem am_cwi_85 : lw_tbl[1022]? = some (am_cw 85) := rfl
set_option maxRecDepth 100000 in
theorem am_cwi_86 : lw_tbl[1026]? = some (am_cw 86) := rfl
set_option maxRecDepth 100000 in
theorem am_cwi_87 : lw_tbl[70]? = some (am_cw 87) := rfl
set_option maxRecDepth 100000 in
theorem am_cwi_88 : lw_tbl[905]? = some (am_cw 88) := rfl
set_option maxRecDepth 100000 in
theorem am_cwi_89 : lw_tbl[909]? = some (am_cw 89) := rfl
set_option maxRecDepth 100000 in
theorem am_cwi_90 : lw_tbl[365]? = some (am_cw 90) := rfl
set_option maxRecDepth 100000 in
theorem am_cwi_91 : lw_tbl[369]? = some (am_cw 91) := rfl
set_option maxRecDepth 100000 in
theorem am_cwi_92 : lw_tbl[373]? = some (am_cw 92) := rfl
set_option maxRecDepth 100000 in
theorem am_cwi_94 : lw_tbl[474]? = some (am_cw 94) := rfl
set_option maxRecDepth 100000 in
theorem am_cwi_95 : lw_tbl[478]? = some (am_cw 95) := rfl
set_option maxRecDepth 100000 in
theorem am_cwi_96 : lw_tbl[913]? = some (am_cw 96) := rfl
set_option maxRecDepth 100000 in
theorem am_cwi_97 : lw_tbl[1046]? = some (am_cw 97) := rfl
set_option maxRecDepth 100000 in
theorem am_cwi_98 : lw_tbl[1069]? = some (am_cw 98) := rfl
set_option maxRecDepth 100000 in
theorem am_cwi_99 : lw_tbl[381]? = some (am_cw 99) := rfl
set_option maxRecDepth 100000 in
theorem am_cwi_100 : lw_tbl[377]? = some (am_cw 100) := rfl
set_option maxRecDepth 100000 in
theorem am_cwi_101 : lw_tbl[454]? = some (am_cw 101) := rfl
set_option maxRecDepth 100000 in
theorem am_cwi_102 : lw_tbl[1090]? = some (am_cw 102) := rfl
set_option maxRecDepth 100000 in
theorem am_cwi_103 : lw_tbl[1094]? = some (am_cw 103) := rfl
set_option maxRecDepth 100000 in
theorem am_cwi_104 : lw_tbl[1098]? = some (am_cw 104) := rfl
set_option maxRecDepth 100000 in
theorem am_cwi_105 : lw_tbl[1103]? = some (am_cw 105) := rfl
set_option maxRecDepth 100000 in
theorem am_cwi_106 : lw_tbl[1107]? = some (am_cw 106) := rfl
set_option maxRecDepth 100000 in
theorem am_cwi_107 : lw_tbl[1518]? = some (am_cw 107) := rfl
set_option maxRecDepth 100000 in
theorem am_cwi_108 : lw_tbl[1116]? = some (am_cw 108) := rfl
set_option maxRecDepth 100000 in
theorem am_cwi_109 : lw_tbl[1112]? = some (am_cw 109) := rfl
set_option maxRecDepth 100000 in
theorem am_cwi_110 : lw_tbl[1404]? = some (am_cw 110) := rfl
set_option maxRecDepth 100000 in
theorem am_cwi_111 : lw_tbl[1408]? = some (am_cw 111) := rfl
set_option maxRecDepth 100000 in
theorem am_cwi_112 : lw_tbl[1122]? = some (am_cw 112) := rfl
set_option maxRecDepth 100000 in
theorem am_cwi_113 : lw_tbl[1125]? = some (am_cw 113) := rfl
set_option maxRecDepth 100000 in
theorem am_cwi_114 : lw_tbl[1416]? = some (am_cw 114) := rfl
set_option maxRecDepth 100000 in
theorem am_cwi_115 : lw_tbl[1133]? = some (am_cw 115) := rfl
set_option maxRecDepth 100000 in
theorem am_cwi_116 : lw_tbl[1142]? = some (am_cw 116) := rfl
set_option maxRecDepth 100000 in
theorem am_cwi_117 : lw_tbl[1500]? = some (am_cw 117) := rfl
set_option maxRecDepth 100000 in
theorem am_cwi_118 : lw_tbl[1482]? = some (am_cw 118) := rfl
set_option maxRecDepth 100000 in
theorem am_cwi_119 : lw_tbl[1486]? = some (am_cw 119) := rfl
set_option maxRecDepth 100000 in
theorem am_cwi_120 : lw_tbl[1495]? = some (am_cw 120) := rfl
set_option maxRecDepth 100000 in
theorem am_cwi_121 : lw_tbl[1491]? = some (am_cw 121) := rfl
set_option maxRecDepth 100000 in
theorem am_cwi_122 : lw_tbl[1527]? = some (am_cw 122) := rfl
set_option maxRecDepth 100000 in
theorem am_cwi_123 : lw_tbl[1154]? = some (am_cw 123) := rfl
set_option maxRecDepth 100000 in
theorem am_cwi_124 : lw_tbl[1522]? = some (am_cw 124) := rfl
set_option maxRecDepth 100000 in
theorem am_cwi_125 : lw_tbl[1531]? = some (am_cw 125) := rfl
set_option maxRecDepth 100000 in
theorem am_cwi_126 : lw_tbl[1386]? = some (am_cw 126) := rfl
set_option maxRecDepth 100000 in
theorem am_cwi_128 : lw_tbl[1163]? = some (am_cw 128) := rfl
set_option maxRecDepth 100000 in
theorem am_cwi_130 : lw_tbl[1240]? = some (am_cw 130) := rfl
set_option maxRecDepth 100000 in
theorem am_cwi_132 : lw_tbl[1248]? = some (am_cw 132) := rfl
set_option maxRecDepth 100000 in
theorem am_cwi_135 : lw_tbl[1263]? = some (am_cw 135) := rfl
set_option maxRecDepth 100000 in
theorem am_cwi_136 : lw_tbl[1505]? = some (am_cw 136) := rfl
set_option maxRecDepth 100000 in
theorem am_cwi_137 : lw_tbl[1509]? = some (am_cw 137) := rfl
set_option maxRecDepth 100000 in
theorem am_cwi_138 : lw_tbl[1267]? = some (am_cw 138) := rfl
set_option maxRecDepth 100000 in
theorem am_cwi_139 : lw_tbl[1555]? = some (am_cw 139) := rfl
set_option maxRecDepth 100000 in
theorem am_cwi_140 : lw_tbl[1559]? = some (am_cw 140) := rfl
set_option maxRecDepth 100000 in
theorem am_cwi_141 : lw_tbl[1272]? = some (am_cw 141) := rfl
set_option maxRecDepth 100000 in
theorem am_cwi_142 : lw_tbl[1293]? = some (am_cw 142) := rfl
set_option maxRecDepth 100000 in
theorem am_cwi_143 : lw_tbl[1298]? = some (am_cw 143) := rfl
set_option maxRecDepth 100000 in
theorem am_cwi_144 : lw_tbl[1310]? = some (am_cw 144) := rfl
set_option maxRecDepth 100000 in
theorem am_cwi_145 : lw_tbl[1316]? = some (am_cw 145) := rfl
set_option maxRecDepth 100000 in
theorem am_cwi_146 : lw_tbl[1321]? = some (am_cw 146) := rfl
set_option maxRecDepth 100000 in
theorem am_cwi_147 : lw_tbl[1333]? = some (am_cw 147) := rfl
set_option maxRecDepth 100000 in
theorem am_cwi_148 : lw_tbl[1339]? = some (am_cw 148) := rfl
set_option maxRecDepth 100000 in
theorem am_cwi_149 : lw_tbl[1349]? = some (am_cw 149) := rfl
set_option maxRecDepth 100000 in
theorem am_cwi_150 : lw_tbl[1354]? = some (am_cw 150) := rfl
set_option maxRecDepth 100000 in
theorem am_cwi_151 : lw_tbl[1360]? = some (am_cw 151) := rfl
set_option maxRecDepth 100000 in
theorem am_cwi_152 : lw_tbl[1364]? = some (am_cw 152) := rfl
set_option maxRecDepth 100000 in
theorem am_cwi_153 : lw_tbl[1373]? = some (am_cw 153) := rfl
set_option maxRecDepth 100000 in
theorem am_cwi_154 : lw_tbl[1376]? = some (am_cw 154) := rfl
set_option maxRecDepth 100000 in
theorem am_cwi_155 : lw_tbl[1381]? = some (am_cw 155) := rfl
set_option maxRecDepth 100000 in
theorem am_cwi_156 : lw_tbl[646]? = some (am_cw 156) := rfl
set_option maxRecDepth 100000 in
theorem am_cwi_157 : lw_tbl[1598]? = some (am_cw 157) := rfl
set_option maxRecDepth 100000 in
theorem am_cwi_158 : lw_tbl[1601]? = some (am_cw 158) := rfl
set_option maxRecDepth 100000 in
theorem am_cwi_159 : lw_tbl[705]? = some (am_cw 159) := rfl
set_option maxRecDepth 100000 in
theorem am_cwi_160 : lw_tbl[570]? = some (am_cw 160) := rfl
set_option maxRecDepth 100000 in
theorem am_cwi_161 : lw_tbl[1612]? = some (am_cw 161) := rfl
set_option maxRecDepth 100000 in
theorem am_cwi_162 : lw_tbl[1615]? = some (am_cw 162) := rfl
set_option maxRecDepth 100000 in
theorem am_cwi_163 : lw_tbl[1618]? = some (am_cw 163) := rfl
set_option maxRecDepth 100000 in
theorem am_cwi_164 : lw_tbl[560]? = some (am_cw 164) := rfl
set_option maxRecDepth 100000 in
theorem am_cwi_165 : lw_tbl[677]? = some (am_cw 165) := rfl
set_option maxRecDepth 100000 in
theorem am_cwi_166 : lw_tbl[680]? = some (am_cw 166) := rfl
set_option maxRecDepth 100000 in
theorem am_cwi_167 : lw_tbl[511]? = some (am_cw 167) := rfl
set_option maxRecDepth 100000 in
theorem am_cwi_168 : lw_tbl[545]? = some (am_cw 168) := rfl
set_option maxRecDepth 100000 in
theorem am_cwi_169 : lw_tbl[553]? = some (am_cw 169) := rfl
set_option maxRecDepth 100000 in
theorem am_cwi_170 : lw_tbl[557]? = some (am_cw 170) := rfl
set_option maxRecDepth 100000 in
theorem am_cwi_171 : lw_tbl[588]? = some (am_cw 171) := rfl
set_option maxRecDepth 100000 in
theorem am_cwi_172 : lw_tbl[619]? = some (am_cw 172) := rfl
set_option maxRecDepth 100000 in
theorem am_cwi_173 : lw_tbl[623]? = some (am_cw 173) := rfl
set_option maxRecDepth 100000 in
theorem am_cwi_174 : lw_tbl[674]? = some (am_cw 174) := rfl
set_option maxRecDepth 100000 in
theorem am_cwi_175 : lw_tbl[702]? = some (am_cw 175) := rfl
set_option maxRecDepth 100000 in
theorem am_cwi_176 : lw_tbl[1542]? = some (am_cw 176) := rfl
set_option maxRecDepth 100000 in
theorem am_cwi_177 : lw_tbl[1549]? = some (am_cw 177) := rfl
set_option maxRecDepth 100000 in
theorem am_cwi_178 : lw_tbl[1569]? = some (am_cw 178) := rfl
set_option maxRecDepth 100000 in
theorem am_cwi_179 : lw_tbl[1579]? = some (am_cw 179) := rfl
set_option maxRecDepth 100000 in
theorem am_cwi_180 : lw_tbl[1607]? = some (am_cw 180) := rfl
set_option maxRecDepth 100000 in
theorem am_cwi_181 : lw_tbl[508]? = some (am_cw 181) := rfl
set_option maxRecDepth 100000 in
theorem am_cwi_182 : lw_tbl[538]? = some (am_cw 182) := rfl
set_option maxRecDepth 100000 in
theorem am_cwi_183 : lw_tbl[542]? = some (am_cw 183) := rfl
set_option maxRecDepth 100000 in
theorem am_cwi_184 : lw_tbl[671]? = some (am_cw 184) := rfl
set_option maxRecDepth 100000 in
theorem am_cwi_185 : lw_tbl[699]? = some (am_cw 185) := rfl
set_option maxRecDepth 100000 in
theorem am_cwi_186 : lw_tbl[1539]? = some (am_cw 186) := rfl
set_option maxRecDepth 100000 in
theorem am_cwi_187 : lw_tbl[1546]? = some (am_cw 187) := rfl
set_option maxRecDepth 100000 in
theorem am_cwi_188 : lw_tbl[1566]? = some (am_cw 188) := rfl
set_option maxRecDepth 100000 in
theorem am_cwi_189 : lw_tbl[1576]? = some (am_cw 189) := rfl
set_option maxRecDepth 100000 in
theorem am_cwi_190 : lw_tbl[1593]? = some (am_cw 190) := rfl
set_option maxRecDepth 100000 in
theorem am_cwi_191 : lw_tbl[483]? = some (am_cw 191) := rfl
set_option maxRecDepth 100000 in
theorem am_cwi_192 : lw_tbl[495]? = some (am_cw 192) := rfl
set_option maxRecDepth 100000 in
theorem am_cwi_193 : lw_tbl[726]? = some (am_cw 193) := rfl
set_option maxRecDepth 100000 in
theorem am_cwi_194 : lw_tbl[764]? = some (am_cw 194) := rfl
set_option maxRecDepth 100000 in
theorem am_cwi_195 : lw_tbl[501]? = some (am_cw 195) := rfl
set_option maxRecDepth 100000 in
theorem am_cwi_196 : lw_tbl[722]? = some (am_cw 196) := rfl
set_option maxRecDepth 100000 in
theorem am_cwi_197 : lw_tbl[760]? = some (am_cw 197) := rfl
set_option maxRecDepth 100000 in
theorem am_cwi_198 : lw_tbl[810]? = some (am_cw 198) := rfl
set_option maxRecDepth 100000 in
theorem am_cwi_199 : lw_tbl[1427]? = some (am_cw 199) := rfl
set_option maxRecDepth 100000 in
theorem am_cwi_200 : lw_tbl[1431]? = some (am_cw 200) := rfl
set_option maxRecDepth 100000 in
theorem am_cwi_201 : lw_tbl[1436]? = some (am_cw 201) := rfl
set_option maxRecDepth 100000 in
theorem am_cwi_202 : lw_tbl[1440]? = some (am_cw 202) := rfl
set_option maxRecDepth 100000 in
theorem am_cwi_203 : lw_tbl[1444]? = some (am_cw 203) := rfl
set_option maxRecDepth 100000 in
theorem am_cwi_204 : lw_tbl[1449]? = some (am_cw 204) := rfl
set_option maxRecDepth 100000 in
theorem am_cwi_205 : lw_tbl[1453]? = some (am_cw 205) := rfl
set_option maxRecDepth 100000 in
theorem am_cwi_206 : lw_tbl[1457]? = some (am_cw 206) := rfl
set_option maxRecDepth 100000 in
theorem am_cwi_207 : lw_tbl[1461]? = some (am_cw 207) := rfl
set_option maxRecDepth 100000 in
theorem am_cwi_208 : lw_tbl[1478]? = some (am_cw 208) := rfl
set_option maxRecDepth 100000 in
theorem am_cwi_209 : lw_tbl[879]? = some (am_cw 209) := rfl
set_option maxRecDepth 100000 in
theorem am_cwi_210 : lw_tbl[882]? = some (am_cw 210) := rfl
set_option maxRecDepth 100000 in
theorem am_cwi_211 : lw_tbl[1059]? = some (am_cw 211) := rfl
set_option maxRecDepth 100000 in
theorem am_cwi_212 : lw_tbl[1065]? = some (am_cw 212) := rfl
set_option maxRecDepth 100000 in
theorem am_cwi_213 : lw_tbl[1412]? = some (am_cw 213) := rfl
set_option maxRecDepth 100000 in
theorem am_cwi_214 : lw_tbl[1419]? = some (am_cw 214) := rfl
set_option maxRecDepth 100000 in
theorem am_cwi_215 : lw_tbl[1466]? = some (am_cw 215) := rfl
set_option maxRecDepth 100000 in
theorem am_cwi_216 : lw_tbl[1472]? = some (am_cw 216) := rfl
set_option maxRecDepth 100000 in
theorem am_cwi_217 : lw_tbl[1512]? = some (am_cw 217) := rfl
set_option maxRecDepth 100000 in
theorem am_cwi_218 : lw_tbl[1535]? = some (am_cw 218) := rfl
set_option maxRecDepth 100000 in
theorem am_cwi_219 : lw_tbl[1562]? = some (am_cw 219) := rfl
theorem am_cw_in : ∀ y, am_vd y → am_cw y ∈ lw_tbl := by
  intro y h0
  obtain ⟨h1, h2, h3⟩ := h0
  rcases Nat.lt_or_ge y 21 with h | h
  · rcases (show y = 1 ∨ y = 2 ∨ y = 3 ∨ y = 4 ∨ y = 5 ∨ y = 6 ∨ y = 7 ∨ y = 8 ∨ y = 9 ∨ y = 10 ∨ y = 11 ∨ y = 12 ∨ y = 13 ∨ y = 14 ∨ y = 15 ∨ y = 16 ∨ y = 17 ∨ y = 18 ∨ y = 19 ∨ y = 20 by omega) with rfl | rfl | rfl | rfl | rfl | rfl | rfl | rfl | rfl | rfl | rfl | rfl | rfl | rfl | rfl | rfl | rfl | rfl | rfl | rfl
    · exact List.mem_of_getElem? am_cwi_1
    · exact List.mem_of_getElem? am_cwi_2
    · exact List.mem_of_getElem? am_cwi_3
    · exact List.mem_of_getElem? am_cwi_4
    · exact List.mem_of_getElem? am_cwi_5
    · exact List.mem_of_getElem? am_cwi_6
    · exact List.mem_of_getElem? am_cwi_7
    · exact List.mem_of_getElem? am_cwi_8
    · exact List.mem_of_getElem? am_cwi_9
    · exact List.mem_of_getElem? am_cwi_10
    · exact List.mem_of_getElem? am_cwi_11
    · exact List.mem_of_getElem? am_cwi_12
    · exact List.mem_of_getElem? am_cwi_13
    · exact List.mem_of_getElem? am_cwi_14
    · exact List.mem_of_getElem? am_cwi_15
    · exact List.mem_of_getElem? am_cwi_16
    · exact List.mem_of_getElem? am_cwi_17
    · exact List.mem_of_getElem? am_cwi_18
    · exact List.mem_of_getElem? am_cwi_19
    · exact List.mem_of_getElem? am_cwi_20
  rcases Nat.lt_or_ge y 41 with h | h
  · rcases (show y = 21 ∨ y = 22 ∨ y = 23 ∨ y = 24 ∨ y = 25 ∨ y = 26 ∨ y = 27 ∨ y = 28 ∨ y = 29 ∨ y = 30 ∨ y = 31 ∨ y = 32 ∨ y = 33 ∨ y = 34 ∨ y = 35 ∨ y = 36 ∨ y = 37 ∨ y = 38 ∨ y = 39 ∨ y = 40 by omega) with rfl | rfl | rfl | rfl | rfl | rfl | rfl | rfl | rfl | rfl | rfl | rfl | rfl | rfl | rfl | rfl | rfl | rfl | rfl | rfl
    · exact List.mem_of_getElem? am_cwi_21
    · exact List.mem_of_getElem? am_cwi_22
    · exact List.mem_of_getElem? am_cwi_23
    · exact List.mem_of_getElem? am_cwi_24
    · exact List.mem_of_getElem? am_cwi_25
    · exact List.mem_of_getElem? am_cwi_26
    · exact List.mem_of_getElem? am_cwi_27
    · exact List.mem_of_getElem? am_cwi_28
    · exact List.mem_of_getElem? am_cwi_29
    · exact List.mem_of_getElem? am_cwi_30
    · exact List.mem_of_getElem? am_cwi_31
    · exact List.mem_of_getElem? am_cwi_32
    · exact List.mem_of_getElem? am_cwi_33
    · exact List.mem_of_getElem? am_cwi_34
    · exact List.mem_of_getElem? am_cwi_35
    · exact List.mem_of_getElem? am_cwi_36
    · exact List.mem_of_getElem? am_cwi_37
    · exact List.mem_of_getElem? am_cwi_38
    · exact List.mem_of_getElem? am_cwi_39
    · exact List.mem_of_getElem? am_cwi_40
  rcases Nat.lt_or_ge y 61 with h | h
  · rcases (show y = 41 ∨ y = 42 ∨ y = 43 ∨ y = 44 ∨ y = 45 ∨ y = 46 ∨ y = 47 ∨ y = 48 ∨ y = 49 ∨ y = 50 ∨ y = 51 ∨ y = 52 ∨ y = 53 ∨ y = 54 ∨ y = 55 ∨ y = 56 ∨ y = 57 ∨ y = 58 ∨ y = 59 ∨ y = 60 by omega) with rfl | rfl | rfl | rfl | rfl | rfl | rfl | rfl | rfl | rfl | rfl | rfl | rfl | rfl | rfl | rfl | rfl | rfl | rfl | rfl
    · exact List.mem_of_getElem? am_cwi_41
    · exact List.mem_of_getElem? am_cwi_42
    · exact List.mem_of_getElem? am_cwi_43
    · exact List.mem_of_getElem? am_cwi_44
    · exact List.mem_of_getElem? am_cwi_45
    · exact List.mem_of_getElem? am_cwi_46
    · exact List.mem_of_getElem? am_cwi_47
    · exact List.mem_of_getElem? am_cwi_48
    · exact List.mem_of_getElem? am_cwi_49
    · exact List.mem_of_getElem? am_cwi_50
    · exact List.mem_of_getElem? am_cwi_51
    · exact List.mem_of_getElem? am_cwi_52
    · exact List.mem_of_getElem? am_cwi_53
    · cases h3
    · exact List.mem_of_getElem? am_cwi_55
    · exact List.mem_of_getElem? am_cwi_56
    · cases h3
    · cases h3
    · exact List.mem_of_getElem? am_cwi_59
    · exact List.mem_of_getElem? am_cwi_60
  rcases Nat.lt_or_ge y 81 with h | h
  · rcases (show y = 61 ∨ y = 62 ∨ y = 63 ∨ y = 64 ∨ y = 65 ∨ y = 66 ∨ y = 67 ∨ y = 68 ∨ y = 69 ∨ y = 70 ∨ y = 71 ∨ y = 72 ∨ y = 73 ∨ y = 74 ∨ y = 75 ∨ y = 76 ∨ y = 77 ∨ y = 78 ∨ y = 79 ∨ y = 80 by omega) with rfl | rfl | rfl | rfl | rfl | rfl | rfl | rfl | rfl | rfl | rfl | rfl | rfl | rfl | rfl | rfl | rfl | rfl | rfl | rfl
    · exact List.mem_of_getElem? am_cwi_61
    · exact List.mem_of_getElem? am_cwi_62
    · exact List.mem_of_getElem? am_cwi_63
    · exact List.mem_of_getElem? am_cwi_64
    · exact List.mem_of_getElem? am_cwi_65
    · exact List.mem_of_getElem? am_cwi_66
    · exact List.mem_of_getElem? am_cwi_67
    · exact List.mem_of_getElem? am_cwi_68
    · exact List.mem_of_getElem? am_cwi_69
    · exact List.mem_of_getElem? am_cwi_70
    · exact List.mem_of_getElem? am_cwi_71
    · exact List.mem_of_getElem? am_cwi_72
    · exact List.mem_of_getElem? am_cwi_73
    · exact List.mem_of_getElem? am_cwi_74
    · exact List.mem_of_getElem? am_cwi_75
    · exact List.mem_of_getElem? am_cwi_76
    · exact List.mem_of_getElem? am_cwi_77
    · exact List.mem_of_getElem? am_cwi_78
    · exact List.mem_of_getElem? am_cwi_79
    · exact List.mem_of_getElem? am_cwi_80
  rcases Nat.lt_or_ge y 101 with h | h
  · rcases (show y = 81 ∨ y = 82 ∨ y = 83 ∨ y = 84 ∨ y = 85 ∨ y = 86 ∨ y = 87 ∨ y = 88 ∨ y = 89 ∨ y = 90 ∨ y = 91 ∨ y = 92 ∨ y = 93 ∨ y = 94 ∨ y = 95 ∨ y = 96 ∨ y = 97 ∨ y = 98 ∨ y = 99 ∨ y = 100 by omega) with rfl | rfl | rfl | rfl | rfl | rfl | rfl | rfl | rfl | rfl | rfl | rfl | rfl | rfl | rfl | rfl | rfl | rfl | rfl | rfl
    · exact List.mem_of_getElem? am_cwi_81
    · exact List.mem_of_getElem? am_cwi_82
    · exact List.mem_of_getElem? am_cwi_83
    · exact List.mem_of_getElem? am_cwi_84
    · exact List.mem_of_getElem? am_cwi_85
    · exact List.mem_of_getElem? am_cwi_86
    · exact List.mem_of_getElem? am_cwi_87
    · exact List.mem_of_getElem? am_cwi_88
    · exact List.mem_of_getElem? am_cwi_89
    · exact List.mem_of_getElem? am_cwi_90
    · exact List.mem_of_getElem? am_cwi_91
    · exact List.mem_of_getElem? am_cwi_92
    · cases h3
    · exact List.mem_of_getElem? am_cwi_94
    · exact List.mem_of_getElem? am_cwi_95
    · exact List.mem_of_getElem? am_cwi_96
    · exact List.mem_of_getElem? am_cwi_97
    · exact List.mem_of_getElem? am_cwi_98
    · exact List.mem_of_getElem? am_cwi_99
    · exact List.mem_of_getElem? am_cwi_100
  rcases Nat.lt_or_ge y 121 with h | h
  · rcases (show y = 101 ∨ y = 102 ∨ y = 103 ∨ y = 104 ∨ y = 105 ∨ y = 106 ∨ y = 107 ∨ y = 108 ∨ y = 109 ∨ y = 110 ∨ y = 111 ∨ y = 112 ∨ y = 113 ∨ y = 114 ∨ y = 115 ∨ y = 116 ∨ y = 117 ∨ y = 118 ∨ y = 119 ∨ y = 120 by omega) with rfl | rfl | rfl | rfl | rfl | rfl | rfl | rfl | rfl | rfl | rfl | rfl | rfl | rfl | rfl | rfl | rfl | rfl | rfl | rfl
    · exact List.mem_of_getElem? am_cwi_101
    · exact List.mem_of_getElem? am_cwi_102
    · exact List.mem_of_getElem? am_cwi_103
    · exact List.mem_of_getElem? am_cwi_104
    · exact List.mem_of_getElem? am_cwi_105
    · exact List.mem_of_getElem? am_cwi_106
    · exact List.mem_of_getElem? am_cwi_107
    · exact List.mem_of_getElem? am_cwi_108
    · exact List.mem_of_getElem? am_cwi_109
    · exact List.mem_of_getElem? am_cwi_110
    · exact List.mem_of_getElem? am_cwi_111
    · exact List.mem_of_getElem? am_cwi_112
    · exact List.mem_of_getElem? am_cwi_113
    · exact List.mem_of_getElem? am_cwi_114
    · exact List.mem_of_getElem? am_cwi_115
    · exact List.mem_of_getElem? am_cwi_116
    · exact List.mem_of_getElem? am_cwi_117
    · exact List.mem_of_getElem? am_cwi_118
    · exact List.mem_of_getElem? am_cwi_119
    · exact List.mem_of_getElem? am_cwi_120
  rcases Nat.lt_or_ge y 141 with h | h
  · rcases (show y = 121 ∨ y = 122 ∨ y = 123 ∨ y = 124 ∨ y = 125 ∨ y = 126 ∨ y = 127 ∨ y = 128 ∨ y = 129 ∨ y = 130 ∨ y = 131 ∨ y = 132 ∨ y = 133 ∨ y = 134 ∨ y = 135 ∨ y = 136 ∨ y = 137 ∨ y = 138 ∨ y = 139 ∨ y = 140 by omega) with rfl | rfl | rfl | rfl | rfl | rfl | rfl | rfl | rfl | rfl | rfl | rfl | rfl | rfl | rfl | rfl | rfl | rfl | rfl | rfl
    · exact List.mem_of_getElem? am_cwi_121
    · exact List.mem_of_getElem? am_cwi_122
    · exact List.mem_of_getElem? am_cwi_123
    · exact List.mem_of_getElem? am_cwi_124
    · exact List.mem_of_getElem? am_cwi_125
    · exact List.mem_of_getElem? am_cwi_126
    · cases h3
    · exact List.mem_of_getElem? am_cwi_128
    · cases h3
    · exact List.mem_of_getElem? am_cwi_130
    · cases h3
    · exact List.mem_of_getElem? am_cwi_132
    · cases h3
    · cases h3
    · exact List.mem_of_getElem? am_cwi_135
    · exact List.mem_of_getElem? am_cwi_136
    · exact List.mem_of_getElem? am_cwi_137
    · exact List.mem_of_getElem? am_cwi_138
    · exact List.mem_of_getElem? am_cwi_139
    · exact List.mem_of_getElem? am_cwi_140
  rcases Nat.lt_or_ge y 161 with h | h
  · rcases (show y = 141 ∨ y = 142 ∨ y = 143 ∨ y = 144 ∨ y = 145 ∨ y = 146 ∨ y = 147 ∨ y = 148 ∨ y = 149 ∨ y = 150 ∨ y = 151 ∨ y = 152 ∨ y = 153 ∨ y = 154 ∨ y = 155 ∨ y = 156 ∨ y = 157 ∨ y = 158 ∨ y = 159 ∨ y = 160 by omega) with rfl | rfl | rfl | rfl | rfl | rfl | rfl | rfl | rfl | rfl | rfl | rfl | rfl | rfl | rfl | rfl | rfl | rfl | rfl | rfl
    · exact List.mem_of_getElem? am_cwi_141
    · exact List.mem_of_getElem? am_cwi_142
    · exact List.mem_of_getElem? am_cwi_143
    · exact List.mem_of_getElem? am_cwi_144
    · exact List.mem_of_getElem? am_cwi_145
    · exact List.mem_of_getElem? am_cwi_146
    · exact List.mem_of_getElem? am_cwi_147
    · exact List.mem_of_getElem? am_cwi_148
    · exact List.mem_of_getElem? am_cwi_149
    · exact List.mem_of_getElem? am_cwi_150
    · exact List.mem_of_getElem? am_cwi_151
    · exact List.mem_of_getElem? am_cwi_152
    · exact List.mem_of_getElem? am_cwi_153
    · exact List.mem_of_getElem? am_cwi_154
    · exact List.mem_of_getElem? am_cwi_155
    · exact List.mem_of_getElem? am_cwi_156
    · exact List.mem_of_getElem? am_cwi_157
    · exact List.mem_of_getElem? am_cwi_158
    · exact List.mem_of_getElem? am_cwi_159
    · exact List.mem_of_getElem? am_cwi_160
  rcases Nat.lt_or_ge y 181 with h | h
  · rcases (show y = 161 ∨ y = 162 ∨ y = 163 ∨ y = 164 ∨ y = 165 ∨ y = 166 ∨ y = 167 ∨ y = 168 ∨ y = 169 ∨ y = 170 ∨ y = 171 ∨ y = 172 ∨ y = 173 ∨ y = 174 ∨ y = 175 ∨ y = 176 ∨ y = 177 ∨ y = 178 ∨ y = 179 ∨ y = 180 by omega) with rfl | rfl | rfl | rfl | rfl | rfl | rfl | rfl | rfl | rfl | rfl | rfl | rfl | rfl | rfl | rfl | rfl | rfl | rfl | rfl
    · exact List.mem_of_getElem? am_cwi_161
    · exact List.mem_of_getElem? am_cwi_162
    · exact List.mem_of_getElem? am_cwi_163
    · exact List.mem_of_getElem? am_cwi_164
    · exact List.mem_of_getElem? am_cwi_165
    · exact List.mem_of_getElem? am_cwi_166
    · exact List.mem_of_getElem? am_cwi_167
    · exact List.mem_of_getElem? am_cwi_168
    · exact List.mem_of_getElem? am_cwi_169
    · exact List.mem_of_getElem? am_cwi_170
    · exact List.mem_of_getElem? am_cwi_171
    · exact List.mem_of_getElem? am_cwi_172
    · exact List.mem_of_getElem? am_cwi_173
    · exact List.mem_of_getElem? am_cwi_174
    · exact List.mem_of_getElem? am_cwi_175
    · exact List.mem_of_getElem? am_cwi_176
    · exact List.mem_of_getElem? am_cwi_177
    · exact List.mem_of_getElem? am_cwi_178
    · exact List.mem_of_getElem? am_cwi_179
    · exact List.mem_of_getElem? am_cwi_180
  rcases Nat.lt_or_ge y 201 with h | h
  · rcases (show y = 181 ∨ y = 182 ∨ y = 183 ∨ y = 184 ∨ y = 185 ∨ y = 186 ∨ y = 187 ∨ y = 188 ∨ y = 189 ∨ y = 190 ∨ y = 191 ∨ y = 192 ∨ y = 193 ∨ y = 194 ∨ y = 195 ∨ y = 196 ∨ y = 197 ∨ y = 198 ∨ y = 199 ∨ y = 200 by omega) with rfl | rfl | rfl | rfl | rfl | rfl | rfl | rfl | rfl | rfl | rfl | rfl | rfl | rfl | rfl | rfl | rfl | rfl | rfl | rfl
    · exact List.mem_of_getElem? am_cwi_181
    · exact List.mem_of_getElem? am_cwi_182
    · exact List.mem_of_getElem? am_cwi_183
    · exact List.mem_of_getElem? am_cwi_184
    · exact List.mem_of_getElem? am_cwi_185
    · exact List.mem_of_getElem? am_cwi_186
    · exact List.mem_of_getElem? am_cwi_187
    · exact List.mem_of_getElem? am_cwi_188
    · exact List.mem_of_getElem? am_cwi_189
    · exact List.mem_of_getElem? am_cwi_190
    · exact List.mem_of_getElem? am_cwi_191
    · exact List.mem_of_getElem? am_cwi_192
    · exact List.mem_of_getElem? am_cwi_193
    · exact List.mem_of_getElem? am_cwi_194
    · exact List.mem_of_getElem? am_cwi_195
    · exact List.mem_of_getElem? am_cwi_196
    · exact List.mem_of_getElem? am_cwi_197
    · exact List.mem_of_getElem? am_cwi_198
    · exact List.mem_of_getElem? am_cwi_199
    · exact List.mem_of_getElem? am_cwi_200
  rcases Nat.lt_or_ge y 220 with h | h
  · rcases (show y = 201 ∨ y = 202 ∨ y = 203 ∨ y = 204 ∨ y = 205 ∨ y = 206 ∨ y = 207 ∨ y = 208 ∨ y = 209 ∨ y = 210 ∨ y = 211 ∨ y = 212 ∨ y = 213 ∨ y = 214 ∨ y = 215 ∨ y = 216 ∨ y = 217 ∨ y = 218 ∨ y = 219 by omega) with rfl | rfl | rfl | rfl | rfl | rfl | rfl | rfl | rfl | rfl | rfl | rfl | rfl | rfl | rfl | rfl | rfl | rfl | rfl
    · exact List.mem_of_getElem? am_cwi_201
    · exact List.mem_of_getElem? am_cwi_202
    · exact List.mem_of_getElem? am_cwi_203
    · exact List.mem_of_getElem? am_cwi_204
    · exact List.mem_of_getElem? am_cwi_205
    · exact List.mem_of_getElem? am_cwi_206
    · exact List.mem_of_getElem? am_cwi_207
    · exact List.mem_of_getElem? am_cwi_208
    · exact List.mem_of_getElem? am_cwi_209
    · exact List.mem_of_getElem? am_cwi_210
    · exact List.mem_of_getElem? am_cwi_211
    · exact List.mem_of_getElem? am_cwi_212
    · exact List.mem_of_getElem? am_cwi_213
    · exact List.mem_of_getElem? am_cwi_214
    · exact List.mem_of_getElem? am_cwi_215
    · exact List.mem_of_getElem? am_cwi_216
    · exact List.mem_of_getElem? am_cwi_217
    · exact List.mem_of_getElem? am_cwi_218
    · exact List.mem_of_getElem? am_cwi_219
  omega
end
section
/-! THE SMALL MACHINE: its links are the claim's own -/
def am_mok (y : Nat) : Bool := am_ph.contains y || (goodWord (am_cw y) && plainName (am_name y).cls && decide (am_own y = (am_name y).cls) && decide (am_nL y ≤ 40) && decide ((am_name y).cls ≠ "java/lang/invoke/MethodHandle" ∧ (am_name y).cls ≠ "java/lang/invoke/VarHandle") && decide ((parseMethodDescriptor (am_name y).desc).map (fun d => d.parameters.length) = some (am_na y)))
theorem am_m_chk1 : (List.range 40).all (fun k => am_mok (1 + k)) = true := by decide +kernel
theorem am_m_chk41 : (List.range 40).all (fun k => am_mok (41 + k)) = true := by decide +kernel
theorem am_m_chk81 : (List.range 40).all (fun k => am_mok (81 + k)) = true := by decide +kernel
theorem am_m_chk121 : (List.range 40).all (fun k => am_mok (121 + k)) = true := by decide +kernel
theorem am_m_chk161 : (List.range 40).all (fun k => am_mok (161 + k)) = true := by decide +kernel
theorem am_m_chk201 : (List.range 19).all (fun k => am_mok (201 + k)) = true := by decide +kernel
theorem am_m_ok : ∀ y, 1 ≤ y → y < 220 → am_mok y = true := by
  intro y h1 h2
  rcases Nat.lt_or_ge y 41 with h | h
  · have := am_all am_m_chk1 (i := y - 1) (by omega)
    rw [show 1 + (y - 1) = y by omega] at this
    exact this
  rcases Nat.lt_or_ge y 81 with h | h
  · have := am_all am_m_chk41 (i := y - 41) (by omega)
    rw [show 41 + (y - 41) = y by omega] at this
    exact this
  rcases Nat.lt_or_ge y 121 with h | h
  · have := am_all am_m_chk81 (i := y - 81) (by omega)
    rw [show 81 + (y - 81) = y by omega] at this
    exact this
  rcases Nat.lt_or_ge y 161 with h | h
  · have := am_all am_m_chk121 (i := y - 121) (by omega)
    rw [show 121 + (y - 121) = y by omega] at this
    exact this
  rcases Nat.lt_or_ge y 201 with h | h
  · have := am_all am_m_chk161 (i := y - 161) (by omega)
    rw [show 161 + (y - 161) = y by omega] at this
    exact this
  rcases Nat.lt_or_ge y 220 with h | h
  · have := am_all am_m_chk201 (i := y - 201) (by omega)
    rw [show 201 + (y - 201) = y by omega] at this
    exact this
  omega
def am_hasA (w : Jvm.Cond) : Bool := decide (w ∈ lw_tbl) && goodWord w
theorem am_hasA_in {w : Jvm.Cond} (h : am_hasA w = true) : w ∈ am_ws := by
  unfold am_hasA at h
  rw [Bool.and_eq_true, decide_eq_true_eq] at h
  exact List.mem_filter.mpr ⟨List.mem_append_left _ h.1, h.2⟩
def am_mlok (oc : Nat) (q : Nat × Nat × Nat × Nat × Nat × Nat × Nat) : Bool :=
  match q.2.1 with
  | 0 => am_has q.2.2.2.1 (.methodLink (am_cn oc) q.1 (am_name q.2.2.1)) && am_has q.2.2.2.2.1 (.instanceMethod (am_name q.2.2.1)) && am_has q.2.2.2.2.2.1 (.initialized (am_name q.2.2.1).cls) && am_has q.2.2.2.2.2.2 (.selects (am_name q.2.2.1).cls (am_name q.2.2.1) (am_name q.2.2.1)) && decide (am_vd q.2.2.1 ∧ (am_ob (am_oc q.2.2.1) ∨ am_oc q.2.2.1 = 14) ∧ am_hh q.2.2.1 = [])
  | 1 => am_has q.2.2.2.1 (.methodLink (am_cn oc) q.1 (am_name q.2.2.1)) && am_has q.2.2.2.2.1 (.static (am_name q.2.2.1)) && am_has q.2.2.2.2.2.1 (.initialized (am_name q.2.2.1).cls) && decide (am_vd q.2.2.1)
  | 2 => am_has q.2.2.2.1 (.methodLink (am_cn oc) q.1 (am_name q.2.2.1)) && am_has q.2.2.2.2.1 (.instanceMethod (am_name q.2.2.1)) && am_has q.2.2.2.2.2.1 (.initialized (am_name q.2.2.1).cls) && decide (am_vd q.2.2.1 ∧ (am_name q.2.2.1).name = "<init>" ∧ am_hh q.2.2.1 = [] ∧ am_rt q.2.2.1 = none)
  | 3 => am_hasN q.2.2.2.1 (.methodLinkNest (am_cn oc) q.1 (am_name q.2.2.1) "RodYard") && am_has q.2.2.2.2.1 (.instanceMethod (am_name q.2.2.1)) && am_has q.2.2.2.2.2.1 (.initialized (am_name q.2.2.1).cls) && decide (am_vd q.2.2.1 ∧ (am_name q.2.2.1).name = "<init>" ∧ am_hh q.2.2.1 = [] ∧ am_rt q.2.2.1 = none)
  | 4 => am_has q.2.2.2.1 (.methodLink (am_cn oc) q.1 arraycopyName)
  | 5 => am_has q.2.2.2.1 (.methodLink (am_cn oc) q.1 Lib.objectInit)
  | 6 => am_has q.2.2.2.1 (.methodLink (am_cn oc) q.1 Lib.Math.max.name)
  | 7 => am_has q.2.2.2.1 (.methodLink (am_cn oc) q.1 Lib.Math.min.name)
  | 8 => am_has q.2.2.2.1 (.methodLink (am_cn oc) q.1 (am_name q.2.2.2.2.2.1)) && am_has q.2.2.2.2.1 (.instanceMethod (am_name q.2.2.1)) && am_has q.2.2.2.2.2.2 (.selects "java/lang/StringBuilder" (am_name q.2.2.2.2.2.1) (am_name q.2.2.1)) && am_hasA (.sameMethod (am_name q.2.2.2.2.2.1).cls (am_name q.2.2.2.2.2.1).cls (am_name q.2.2.2.2.2.1).name (am_name q.2.2.2.2.2.1).desc) && am_hasA (.instanceMethod (am_name q.2.2.2.2.2.1)) && am_hasA (.initialized (am_name q.2.2.1).cls) && decide (am_vd q.2.2.1 ∧ am_vd q.2.2.2.2.2.1 ∧ am_hh q.2.2.1 = [] ∧ am_hh q.2.2.2.2.2.1 = [] ∧ am_na q.2.2.2.2.2.1 = am_na q.2.2.1)
  | 10 => am_has q.2.2.2.1 (.methodLink (am_cn oc) q.1 (am_name q.2.2.1)) && am_has q.2.2.2.2.1 (.instanceMethod (am_name q.2.2.1)) && am_has q.2.2.2.2.2.1 (.initialized (am_name q.2.2.1).cls) && am_has q.2.2.2.2.2.2 (.sameMethod (am_name q.2.2.1).cls (am_name q.2.2.1).cls (am_name q.2.2.1).name (am_name q.2.2.1).desc) && am_hasA (.superclass (am_cn oc) (am_name q.2.2.1).cls) && decide (am_vd q.2.2.1 ∧ am_hh q.2.2.1 = [] ∧ (am_name q.2.2.1).name ≠ "<init>" ∧ oc = 18)
  | 11 => am_has q.2.2.2.1 (.methodLink (am_cn oc) q.1 ⟨"[B", "clone", "()Ljava/lang/Object;"⟩)
  | _ => false
theorem am_ml_len : am_mlT.length = 29 := by decide +kernel
theorem am_ml_chk0_0 : (((am_mlT.getD 0 []).drop 0).take 60).all (am_mlok 0) = true := by decide +kernel
theorem am_ml_chk1_0 : (((am_mlT.getD 1 []).drop 0).take 60).all (am_mlok 1) = true := by decide +kernel
theorem am_ml_chk2_0 : (((am_mlT.getD 2 []).drop 0).take 60).all (am_mlok 2) = true := by decide +kernel
theorem am_ml_chk3_0 : (((am_mlT.getD 3 []).drop 0).take 60).all (am_mlok 3) = true := by decide +kernel
theorem am_ml_chk4_0 : (((am_mlT.getD 4 []).drop 0).take 60).all (am_mlok 4) = true := by decide +kernel
theorem am_ml_chk5_0 : (((am_mlT.getD 5 []).drop 0).take 60).all (am_mlok 5) = true := by decide +kernel
theorem am_ml_chk6_0 : (((am_mlT.getD 6 []).drop 0).take 60).all (am_mlok 6) = true := by decide +kernel
theorem am_ml_chk7_0 : (((am_mlT.getD 7 []).drop 0).take 60).all (am_mlok 7) = true := by decide +kernel
theorem am_ml_chk8_0 : (((am_mlT.getD 8 []).drop 0).take 60).all (am_mlok 8) = true := by decide +kernel
theorem am_ml_chk9_0 : (((am_mlT.getD 9 []).drop 0).take 60).all (am_mlok 9) = true := by decide +kernel
theorem am_ml_chk13_0 : (((am_mlT.getD 13 []).drop 0).take 60).all (am_mlok 13) = true := by decide +kernel
theorem am_ml_chk13_60 : (((am_mlT.getD 13 []).drop 60).take 60).all (am_mlok 13) = true := by decide +kernel
theorem am_ml_chk14_0 : (((am_mlT.getD 14 []).drop 0).take 60).all (am_mlok 14) = true := by decide +kernel
theorem am_ml_chk15_0 : (((am_mlT.getD 15 []).drop 0).take 60).all (am_mlok 15) = true := by decide +kernel
theorem am_ml_chk16_0 : (((am_mlT.getD 16 []).drop 0).take 60).all (am_mlok 16) = true := by decide +kernel
theorem am_ml_chk17_0 : (((am_mlT.getD 17 []).drop 0).take 60).all (am_mlok 17) = true := by decide +kernel
theorem am_ml_chk18_0 : (((am_mlT.getD 18 []).drop 0).take 60).all (am_mlok 18) = true := by decide +kernel
theorem am_ml_chk20_0 : (((am_mlT.getD 20 []).drop 0).take 60).all (am_mlok 20) = true := by decide +kernel
theorem am_ml_chk24_0 : (((am_mlT.getD 24 []).drop 0).take 60).all (am_mlok 24) = true := by decide +kernel
theorem am_ml_chk25_0 : (((am_mlT.getD 25 []).drop 0).take 60).all (am_mlok 25) = true := by decide +kernel
theorem am_ml_chk26_0 : (((am_mlT.getD 26 []).drop 0).take 60).all (am_mlok 26) = true := by decide +kernel
theorem am_tk {α : Type} {f : α → Bool} {l : List α} (n : Nat) (h1 : (l.take n).all f = true) (h2 : (l.drop n).all f = true) : l.all f = true := by
  rw [← List.take_append_drop n l, List.all_append, h1, h2]
  rfl
theorem am_ml_d0_60 : ((am_mlT.getD 0 []).drop 60).all (am_mlok 0) = true := by decide +kernel
theorem am_ml_d0_0 : ((am_mlT.getD 0 []).drop 0).all (am_mlok 0) = true := am_tk 60 am_ml_chk0_0 (by rw [List.drop_drop]; exact am_ml_d0_60)
theorem am_ml_k0 : (am_mlT.getD 0 []).all (am_mlok 0) = true := am_ml_d0_0
theorem am_ml_d1_60 : ((am_mlT.getD 1 []).drop 60).all (am_mlok 1) = true := by decide +kernel
theorem am_ml_d1_0 : ((am_mlT.getD 1 []).drop 0).all (am_mlok 1) = true := am_tk 60 am_ml_chk1_0 (by rw [List.drop_drop]; exact am_ml_d1_60)
theorem am_ml_k1 : (am_mlT.getD 1 []).all (am_mlok 1) = true := am_ml_d1_0
theorem am_ml_d2_60 : ((am_mlT.getD 2 []).drop 60).all (am_mlok 2) = true := by decide +kernel
theorem am_ml_d2_0 : ((am_mlT.getD 2 []).drop 0).all (am_mlok 2) = true := am_tk 60 am_ml_chk2_0 (by rw [List.drop_drop]; exact am_ml_d2_60)
theorem am_ml_k2 : (am_mlT.getD 2 []).all (am_mlok 2) = true := am_ml_d2_0
theorem am_ml_d3_60 : ((am_mlT.getD 3 []).drop 60).all (am_mlok 3) = true := by decide +kernel
theorem am_ml_d3_0 : ((am_mlT.getD 3 []).drop 0).all (am_mlok 3) = true := am_tk 60 am_ml_chk3_0 (by rw [List.drop_drop]; exact am_ml_d3_60)
theorem am_ml_k3 : (am_mlT.getD 3 []).all (am_mlok 3) = true := am_ml_d3_0
theorem am_ml_d4_60 : ((am_mlT.getD 4 []).drop 60).all (am_mlok 4) = true := by decide +kernel
theorem am_ml_d4_0 : ((am_mlT.getD 4 []).drop 0).all (am_mlok 4) = true := am_tk 60 am_ml_chk4_0 (by rw [List.drop_drop]; exact am_ml_d4_60)
theorem am_ml_k4 : (am_mlT.getD 4 []).all (am_mlok 4) = true := am_ml_d4_0
theorem am_ml_d5_60 : ((am_mlT.getD 5 []).drop 60).all (am_mlok 5) = true := by decide +kernel
theorem am_ml_d5_0 : ((am_mlT.getD 5 []).drop 0).all (am_mlok 5) = true := am_tk 60 am_ml_chk5_0 (by rw [List.drop_drop]; exact am_ml_d5_60)
theorem am_ml_k5 : (am_mlT.getD 5 []).all (am_mlok 5) = true := am_ml_d5_0
theorem am_ml_d6_60 : ((am_mlT.getD 6 []).drop 60).all (am_mlok 6) = true := by decide +kernel
theorem am_ml_d6_0 : ((am_mlT.getD 6 []).drop 0).all (am_mlok 6) = true := am_tk 60 am_ml_chk6_0 (by rw [List.drop_drop]; exact am_ml_d6_60)
theorem am_ml_k6 : (am_mlT.getD 6 []).all (am_mlok 6) = true := am_ml_d6_0
theorem am_ml_d7_60 : ((am_mlT.getD 7 []).drop 60).all (am_mlok 7) = true := by decide +kernel
theorem am_ml_d7_0 : ((am_mlT.getD 7 []).drop 0).all (am_mlok 7) = true := am_tk 60 am_ml_chk7_0 (by rw [List.drop_drop]; exact am_ml_d7_60)
theorem am_ml_k7 : (am_mlT.getD 7 []).all (am_mlok 7) = true := am_ml_d7_0
theorem am_ml_d8_60 : ((am_mlT.getD 8 []).drop 60).all (am_mlok 8) = true := by decide +kernel
theorem am_ml_d8_0 : ((am_mlT.getD 8 []).drop 0).all (am_mlok 8) = true := am_tk 60 am_ml_chk8_0 (by rw [List.drop_drop]; exact am_ml_d8_60)
theorem am_ml_k8 : (am_mlT.getD 8 []).all (am_mlok 8) = true := am_ml_d8_0
theorem am_ml_d9_60 : ((am_mlT.getD 9 []).drop 60).all (am_mlok 9) = true := by decide +kernel
theorem am_ml_d9_0 : ((am_mlT.getD 9 []).drop 0).all (am_mlok 9) = true := am_tk 60 am_ml_chk9_0 (by rw [List.drop_drop]; exact am_ml_d9_60)
theorem am_ml_k9 : (am_mlT.getD 9 []).all (am_mlok 9) = true := am_ml_d9_0
theorem am_ml_d13_120 : ((am_mlT.getD 13 []).drop 120).all (am_mlok 13) = true := by decide +kernel
theorem am_ml_d13_60 : ((am_mlT.getD 13 []).drop 60).all (am_mlok 13) = true := am_tk 60 am_ml_chk13_60 (by rw [List.drop_drop]; exact am_ml_d13_120)
theorem am_ml_d13_0 : ((am_mlT.getD 13 []).drop 0).all (am_mlok 13) = true := am_tk 60 am_ml_chk13_0 (by rw [List.drop_drop]; exact am_ml_d13_60)
theorem am_ml_k13 : (am_mlT.getD 13 []).all (am_mlok 13) = true := am_ml_d13_0
theorem am_ml_d14_60 : ((am_mlT.getD 14 []).drop 60).all (am_mlok 14) = true := by decide +kernel
theorem am_ml_d14_0 : ((am_mlT.getD 14 []).drop 0).all (am_mlok 14) = true := am_tk 60 am_ml_chk14_0 (by rw [List.drop_drop]; exact am_ml_d14_60)
theorem am_ml_k14 : (am_mlT.getD 14 []).all (am_mlok 14) = true := am_ml_d14_0
theorem am_ml_d15_60 : ((am_mlT.getD 15 []).drop 60).all (am_mlok 15) = true := by decide +kernel
theorem am_ml_d15_0 : ((am_mlT.getD 15 []).drop 0).all (am_mlok 15) = true := am_tk 60 am_ml_chk15_0 (by rw [List.drop_drop]; exact am_ml_d15_60)
theorem am_ml_k15 : (am_mlT.getD 15 []).all (am_mlok 15) = true := am_ml_d15_0
theorem am_ml_d16_60 : ((am_mlT.getD 16 []).drop 60).all (am_mlok 16) = true := by decide +kernel
theorem am_ml_d16_0 : ((am_mlT.getD 16 []).drop 0).all (am_mlok 16) = true := am_tk 60 am_ml_chk16_0 (by rw [List.drop_drop]; exact am_ml_d16_60)
theorem am_ml_k16 : (am_mlT.getD 16 []).all (am_mlok 16) = true := am_ml_d16_0
theorem am_ml_d17_60 : ((am_mlT.getD 17 []).drop 60).all (am_mlok 17) = true := by decide +kernel
theorem am_ml_d17_0 : ((am_mlT.getD 17 []).drop 0).all (am_mlok 17) = true := am_tk 60 am_ml_chk17_0 (by rw [List.drop_drop]; exact am_ml_d17_60)
theorem am_ml_k17 : (am_mlT.getD 17 []).all (am_mlok 17) = true := am_ml_d17_0
theorem am_ml_d18_60 : ((am_mlT.getD 18 []).drop 60).all (am_mlok 18) = true := by decide +kernel
theorem am_ml_d18_0 : ((am_mlT.getD 18 []).drop 0).all (am_mlok 18) = true := am_tk 60 am_ml_chk18_0 (by rw [List.drop_drop]; exact am_ml_d18_60)
theorem am_ml_k18 : (am_mlT.getD 18 []).all (am_mlok 18) = true := am_ml_d18_0
theorem am_ml_d20_60 : ((am_mlT.getD 20 []).drop 60).all (am_mlok 20) = true := by decide +kernel
theorem am_ml_d20_0 : ((am_mlT.getD 20 []).drop 0).all (am_mlok 20) = true := am_tk 60 am_ml_chk20_0 (by rw [List.drop_drop]; exact am_ml_d20_60)
theorem am_ml_k20 : (am_mlT.getD 20 []).all (am_mlok 20) = true := am_ml_d20_0
theorem am_ml_d24_60 : ((am_mlT.getD 24 []).drop 60).all (am_mlok 24) = true := by decide +kernel
theorem am_ml_d24_0 : ((am_mlT.getD 24 []).drop 0).all (am_mlok 24) = true := am_tk 60 am_ml_chk24_0 (by rw [List.drop_drop]; exact am_ml_d24_60)
theorem am_ml_k24 : (am_mlT.getD 24 []).all (am_mlok 24) = true := am_ml_d24_0
theorem am_ml_d25_60 : ((am_mlT.getD 25 []).drop 60).all (am_mlok 25) = true := by decide +kernel
theorem am_ml_d25_0 : ((am_mlT.getD 25 []).drop 0).all (am_mlok 25) = true := am_tk 60 am_ml_chk25_0 (by rw [List.drop_drop]; exact am_ml_d25_60)
theorem am_ml_k25 : (am_mlT.getD 25 []).all (am_mlok 25) = true := am_ml_d25_0
theorem am_ml_d26_60 : ((am_mlT.getD 26 []).drop 60).all (am_mlok 26) = true := by decide +kernel
theorem am_ml_d26_0 : ((am_mlT.getD 26 []).drop 0).all (am_mlok 26) = true := am_tk 60 am_ml_chk26_0 (by rw [List.drop_drop]; exact am_ml_d26_60)
theorem am_ml_k26 : (am_mlT.getD 26 []).all (am_mlok 26) = true := am_ml_d26_0
theorem am_ml_all : ∀ oc, oc < 29 → (am_mlT.getD oc []).all (am_mlok oc) = true := by
  intro oc h
  rcases (show oc = 0 ∨ oc = 1 ∨ oc = 2 ∨ oc = 3 ∨ oc = 4 ∨ oc = 5 ∨ oc = 6 ∨ oc = 7 ∨ oc = 8 ∨ oc = 9 ∨ oc = 10 ∨ oc = 11 ∨ oc = 12 ∨ oc = 13 ∨ oc = 14 ∨ oc = 15 ∨ oc = 16 ∨ oc = 17 ∨ oc = 18 ∨ oc = 19 ∨ oc = 20 ∨ oc = 21 ∨ oc = 22 ∨ oc = 23 ∨ oc = 24 ∨ oc = 25 ∨ oc = 26 ∨ oc = 27 ∨ oc = 28 by omega) with rfl | rfl | rfl | rfl | rfl | rfl | rfl | rfl | rfl | rfl | rfl | rfl | rfl | rfl | rfl | rfl | rfl | rfl | rfl | rfl | rfl | rfl | rfl | rfl | rfl | rfl | rfl | rfl | rfl
  · exact am_ml_k0
  · exact am_ml_k1
  · exact am_ml_k2
  · exact am_ml_k3
  · exact am_ml_k4
  · exact am_ml_k5
  · exact am_ml_k6
  · exact am_ml_k7
  · exact am_ml_k8
  · exact am_ml_k9
  · decide +kernel
  · decide +kernel
  · decide +kernel
  · exact am_ml_k13
  · exact am_ml_k14
  · exact am_ml_k15
  · exact am_ml_k16
  · exact am_ml_k17
  · exact am_ml_k18
  · decide +kernel
  · exact am_ml_k20
  · decide +kernel
  · decide +kernel
  · decide +kernel
  · exact am_ml_k24
  · exact am_ml_k25
  · exact am_ml_k26
  · decide +kernel
  · decide +kernel
theorem am_ml_ok {oc idx : Nat} {q : Nat × Nat × Nat × Nat × Nat × Nat × Nat} (h : am_ml oc idx = some q) : q.1 = idx ∧ am_mlok oc q = true := by
  unfold am_ml at h
  have h1 := List.mem_of_find?_eq_some h
  have h2 : q.1 = idx := by simpa using List.find?_some h
  exact ⟨h2, List.all_eq_true.mp (am_ml_all oc (am_out (by decide) h1)) q h1⟩
theorem am_w_stmax : Cond.static Lib.Math.max.name ∈ am_ws := am_has_in (k := 562) (by decide +kernel)
theorem am_w_comax : Cond.code Lib.Math.max.name Lib.Math.max.code 2 (some .int) ∈ am_ws := am_has_in (k := 563) (by decide +kernel)
theorem am_w_stmin : Cond.static Lib.Math.min.name ∈ am_ws := am_has_in (k := 579) (by decide +kernel)
theorem am_w_comin : Cond.code Lib.Math.min.name Lib.Math.min.code 2 (some .int) ∈ am_ws := am_has_in (k := 580) (by decide +kernel)
theorem am_w_mi : (Jvm.Cond.initialized "java/lang/Math") ∈ am_ws := am_has_in (k := 41) (by decide +kernel)
theorem am_w_oi : Cond.instanceMethod Lib.objectInit ∈ am_ws := am_has_in (k := 72) (by decide +kernel)
theorem am_w_oc : Cond.code Lib.objectInit ⟨#[0xb1]⟩ 1 none ∈ am_ws := am_has_in (k := 73) (by decide +kernel)
theorem am_w_bsel : Cond.selects "[B" ⟨"[B", "clone", "()Ljava/lang/Object;"⟩ ⟨"java/lang/Object", "clone", "()Ljava/lang/Object;"⟩ ∈ am_ws := am_has_in (k := 575) (by decide +kernel)
theorem am_w_bcl : Cond.castable "[B" "java/lang/Cloneable" ∈ lw_tbl := am_hasN_in (k := 576) (by decide +kernel)
abbrev am_at10 : List Jvm.Cond := vx_atS "RodYard" 101 "java/lang/IndexOutOfBoundsException" ["java/lang/RuntimeException", "java/lang/Exception"]
theorem am_at10_in : ∀ w ∈ am_at10, w ∈ lw_tbl := by decide +kernel
theorem am_at10_g : am_at10.all (fun w => goodWord w || (match w with | .declares _ => true | .castable _ _ => true | _ => false)) = true := by decide +kernel
theorem am_at10_o : am_at10.all vx_ot = true := by decide +kernel
theorem am_w_i10 : (Jvm.Cond.initialized "java/lang/IndexOutOfBoundsException") ∈ am_ws := am_has_in (k := 63) (by decide +kernel)
theorem am_w_k10 : Cond.castable "java/lang/IndexOutOfBoundsException" "java/lang/IndexOutOfBoundsException" ∈ lw_tbl := am_hasN_in (k := 457) (by decide +kernel)
abbrev am_at11 : List Jvm.Cond := vx_atS "RodYard" 125 "java/lang/IllegalArgumentException" ["java/lang/RuntimeException", "java/lang/Exception"]
theorem am_at11_in : ∀ w ∈ am_at11, w ∈ lw_tbl := by decide +kernel
theorem am_at11_g : am_at11.all (fun w => goodWord w || (match w with | .declares _ => true | .castable _ _ => true | _ => false)) = true := by decide +kernel
theorem am_at11_o : am_at11.all vx_ot = true := by decide +kernel
theorem am_w_i11 : (Jvm.Cond.initialized "java/lang/IllegalArgumentException") ∈ am_ws := am_has_in (k := 62) (by decide +kernel)
theorem am_w_k11 : Cond.castable "java/lang/IllegalArgumentException" "java/lang/IllegalArgumentException" ∈ lw_tbl := am_hasN_in (k := 1029) (by decide +kernel)
abbrev am_at12 : List Jvm.Cond := vx_atS "RodYard" 348 "java/lang/IllegalStateException" ["java/lang/RuntimeException", "java/lang/Exception"]
theorem am_at12_in : ∀ w ∈ am_at12, w ∈ lw_tbl := by decide +kernel
theorem am_at12_g : am_at12.all (fun w => goodWord w || (match w with | .declares _ => true | .castable _ _ => true | _ => false)) = true := by decide +kernel
theorem am_at12_o : am_at12.all vx_ot = true := by decide +kernel
theorem am_w_i12 : (Jvm.Cond.initialized "java/lang/IllegalStateException") ∈ am_ws := am_has_in (k := 61) (by decide +kernel)
theorem am_w_k12 : Cond.castable "java/lang/IllegalStateException" "java/lang/IllegalStateException" ∈ lw_tbl := am_hasN_in (k := 384) (by decide +kernel)
end
section
/-! THE SMALL MACHINE AND THE MACHINE: a step, a call, a run -/
theorem am_step_mono {mi pc : Nat} {i : Instr} {ls st : List AV} {g : AG} {M : AM} {r : Nat × List AV × List AV × AG × AM} (h : am_step mi pc i ls st g M = some r) : gN g ≤ gN r.2.2.2.1 ∧ gS g ≤ gS r.2.2.2.1 := by
  have same : ∀ {a b c M2}, some (a, b, c, g, M2) = some r → gN g ≤ gN r.2.2.2.1 ∧ gS g ≤ gS r.2.2.2.1 := by
    intro a b c M2 e
    cases e
    exact ⟨Nat.le_refl _, Nat.le_refl _⟩
  cases i
  case new idx =>
    dsimp only [am_step] at h
    split at h
    · split at h
      · cases h
        exact ⟨Nat.le_succ _, Nat.le_add_right _ _⟩
      · cases h
    · cases h
  case invokevirtual idx =>
    dsimp only [am_step, am_clone] at h
    split at h
    · split at h
      · split at h
        · cases h
          exact ⟨Nat.le_succ _, Nat.le_add_right _ _⟩
        · cases h
      · cases h
    · cases h
  case newarray t =>
    dsimp only [am_step] at h
    split at h
    · split at h
      · cases h
        exact ⟨Nat.le_succ _, Nat.le_add_right _ _⟩
      · cases h
    · cases h
  case anewarray idx =>
    dsimp only [am_step] at h
    split at h
    · split at h
      · split at h
        · cases h
          exact ⟨Nat.le_succ _, Nat.le_add_right _ _⟩
        · cases h
      · cases h
    · cases h
  case multianewarray idx dm =>
    dsimp only [am_step] at h
    split at h
    · split at h
      · split at h
        · cases h
          exact ⟨Nat.le_add_right _ _, Nat.le_add_right _ _⟩
        · cases h
      · cases h
    · cases h
  case putfield idx =>
    dsimp only [am_step, am_putf] at h
    split at h
    · split at h
      · split at h
        · exact same h
        · cases h
      · cases h
    · split at h
      · split at h
        · cases h
          exact ⟨Nat.le_refl _, Nat.le_refl _⟩
        · cases h
      · cases h
    · cases h
  case aastore =>
    dsimp only [am_step] at h
    split at h
    · split at h
      · cases h
        exact ⟨Nat.le_refl _, Nat.le_refl _⟩
      · cases h
    · cases h
  all_goals
    first
    | (exfalso; simp only [am_step] at h; cases h; done)
    | (dsimp only [am_step, am_ldI, am_ldA, am_ldF, am_ldD, am_stI, am_stA, am_stF, am_stD, am_bin, am_un, am_if, am_jmp, am_ald, am_getf, am_cp, am_mx, am_mn] at h
       repeat' (first | exact same h | (cases h; done) | split at h))
theorem am_exec_mono : ∀ (f d mi pc : Nat) (ls st : List AV) (g : AG) (M : AM) (o : AO) (g' : AG) (M' : AM), am_exec f d mi pc ls st g M = some (o, g', M') → gN g ≤ gN g' ∧ gS g ≤ gS g'
  | 0, _, _, _, _, _, _, _, _, _, _, h => by cases h
  | f + 1, d, mi, pc, ls, st, g, M, o, g', M', h => by
    have ih := am_exec_mono f
    rw [am_exec] at h
    split at h
    · cases h
    · next i hi =>
      split at h
      · next o1 g1 e1 =>
        have : g1 = g := by
          unfold am_ret at e1
          repeat' (first | (cases e1; done) | (cases e1; rfl) | split at e1)
        cases h
        rw [this]
        exact ⟨Nat.le_refl _, Nat.le_refl _⟩
      · split at h
        · next y as rest e1 =>
          split at h
          · cases h
          · next d' =>
            split at h
            · split at h
              · cases h
              · next v g1 M1 e2 =>
                have a := ih _ _ _ _ _ _ _ _ _ _ e2
                have b := ih _ _ _ _ _ _ _ _ _ _ h
                exact ⟨Nat.le_trans a.1 b.1, Nat.le_trans a.2 b.2⟩
              · next E g1 M1 e2 =>
                have a := ih _ _ _ _ _ _ _ _ _ _ e2
                split at h
                · cases h; exact a
                · split at h
                  · next hh hx e3 =>
                    cases hr : am_hret mi hh with
                    | none => rw [hr] at h; cases h
                    | some n => rw [hr] at h; cases h; exact a
                  · cases h
            · cases h
        · split at h
          · next pc1 ls1 st1 g1 M1 e2 =>
            have a := am_step_mono e2
            have b := ih _ _ _ _ _ _ _ _ _ _ h
            exact ⟨Nat.le_trans a.1 b.1, Nat.le_trans a.2 b.2⟩
          · split at h
            · split at h
              · split at h
                · cases h
                  exact ⟨Nat.le_succ _, Nat.le_add_right _ _⟩
                · cases h
              · cases h
            · cases h
section SIM
variable {p : Program} {l : Launch} {e : Env} {R : Room} {s : State} {m : MethodId} {args : Array Value} {below : List Frame} {meth : Method} {c : Code} {H : Heap} {locs : List Loc} {cells slots : Nat} {Q : State → Prop}
variable {X : am_X} {mi pc pc' : Nat} {ls ls' st st' : List AV} {g g' : AG} {M M' : AM} {lsM : Array Slot}
theorem am_mlw {oc idx : Nat} {q : Nat × Nat × Nat × Nat × Nat × Nat × Nat} (h : am_ml oc idx = some q) : q.1 = idx ∧ (q.2.1 = 4 → Cond.methodLink (am_cn oc) idx arraycopyName ∈ am_ws) ∧ (q.2.1 = 5 → Cond.methodLink (am_cn oc) idx Lib.objectInit ∈ am_ws) ∧ (q.2.1 = 11 → Cond.methodLink (am_cn oc) idx ⟨"[B", "clone", "()Ljava/lang/Object;"⟩ ∈ am_ws) ∧ (q.2.1 = 6 → Cond.methodLink (am_cn oc) idx Lib.Math.max.name ∈ am_ws) ∧ (q.2.1 = 7 → Cond.methodLink (am_cn oc) idx Lib.Math.min.name ∈ am_ws) := by
  obtain ⟨h1, h2⟩ := am_ml_ok h
  obtain ⟨a, k, b, c, d, e, f⟩ := q
  dsimp only at h1 ⊢
  subst h1
  unfold am_mlok at h2
  dsimp only at h2
  refine ⟨rfl, ?_, ?_, ?_, ?_, ?_⟩ <;> intro hk <;> subst hk <;> exact am_has_in h2
set_option maxHeartbeats 4000000 in
/-- a step of the small machine is a step of the machine -/
theorem am_sim (hG : am_Gl X) (hF : am_Fx X p l s m args meth c mi) (hR : am_Rel X g M H) (hl : lv_has lsM (am_nL mi) (am_lv X ls)) (hn : ls.length = am_nL mi) (hq : ∀ q ∈ locs, xB X ≤ q.base) {i : Instr} (hfr : 1 ≤ R.frames) (hlo : 40 ≤ R.locals) (hcl : cells + gN g' ≤ R.cells + gN g) (hsl : slots + gS g' ≤ R.slots + gS g)
    (hi : am_ins mi pc = some i) (h : am_step mi pc i ls st g M = some (pc', ls', st', g', M')) (kk : am_KK X p l e R s m args below meth c cells slots Q mi g pc' ls' st' g' M') :
    W p l e R s m args below meth c H locs cells slots Q (F0 m pc lsM (st.map (am_V X))) := by
  have hmono := am_step_mono h
  dsimp only at hmono
  cases i
  case iconst => exact am_s_iconst hG hF hR hl hn hq hi h kk
  case bipush => exact am_s_bipush hG hF hR hl hn hq hi h kk
  case sipush => exact am_s_sipush hG hF hR hl hn hq hi h kk
  case lconst => exact am_s_lconst hG hF hR hl hn hq hi h kk
  case fconst => exact am_s_fconst hG hF hR hl hn hq hi h kk
  case dconst => exact am_s_dconst hG hF hR hl hn hq hi h kk
  case iload => exact am_s_iload hG hF hR hl hn hq hi h kk
  case iload_n => exact am_s_iload_n hG hF hR hl hn hq hi h kk
  case aload => exact am_s_aload hG hF hR hl hn hq hi h kk
  case aload_n => exact am_s_aload_n hG hF hR hl hn hq hi h kk
  case fload => exact am_s_fload hG hF hR hl hn hq hi h kk
  case dload => exact am_s_dload hG hF hR hl hn hq hi h kk
  case istore => exact am_s_istore hG hF hR hl hn hq hi h kk
  case istore_n => exact am_s_istore_n hG hF hR hl hn hq hi h kk
  case astore => exact am_s_astore hG hF hR hl hn hq hi h kk
  case astore_n => exact am_s_astore_n hG hF hR hl hn hq hi h kk
  case fstore => exact am_s_fstore hG hF hR hl hn hq hi h kk
  case dstore => exact am_s_dstore hG hF hR hl hn hq hi h kk
  case iinc => exact am_s_iinc hG hF hR hl hn hq hi h kk
  case iadd => exact am_s_iadd hG hF hR hl hn hq hi h kk
  case isub => exact am_s_isub hG hF hR hl hn hq hi h kk
  case imul => exact am_s_imul hG hF hR hl hn hq hi h kk
  case iand => exact am_s_iand hG hF hR hl hn hq hi h kk
  case ior => exact am_s_ior hG hF hR hl hn hq hi h kk
  case ishl => exact am_s_ishl hG hF hR hl hn hq hi h kk
  case ishr => exact am_s_ishr hG hF hR hl hn hq hi h kk
  case iushr => exact am_s_iushr hG hF hR hl hn hq hi h kk
  case idiv => exact am_s_idiv hG hF hR hl hn hq hi h kk
  case irem => exact am_s_irem hG hF hR hl hn hq hi h kk
  case i2l => exact am_s_i2l hG hF hR hl hn hq hi h kk
  case i2b => exact am_s_i2b hG hF hR hl hn hq hi h kk
  case i2c => exact am_s_i2c hG hF hR hl hn hq hi h kk
  case i2d => exact am_s_i2d hG hF hR hl hn hq hi h kk
  case i2f => exact am_s_i2f hG hF hR hl hn hq hi h kk
  case lcmp => exact am_s_lcmp hG hF hR hl hn hq hi h kk
  case ddiv => exact am_s_ddiv hG hF hR hl hn hq hi h kk
  case fdiv => exact am_s_fdiv hG hF hR hl hn hq hi h kk
  case f2d => exact am_s_f2d hG hF hR hl hn hq hi h kk
  case dcmp => exact am_s_dcmp hG hF hR hl hn hq hi h kk
  case fcmp => exact am_s_fcmp hG hF hR hl hn hq hi h kk
  case dup => exact am_s_dup hG hF hR hl hn hq hi h kk
  case pop => exact am_s_pop hG hF hR hl hn hq hi h kk
  case dup2 => exact am_s_dup2 hG hF hR hl hn hq hi h kk
  case ineg => exact am_s_ineg hG hF hR hl hn hq hi h kk
  case aconst_null => exact am_s_aconst_null hG hF hR hl hn hq hi h kk
  case ifnull => exact am_s_ifnull hG hF hR hl hn hq hi h kk
  case ifnonnull => exact am_s_ifnonnull hG hF hR hl hn hq hi h kk
  case dup_x1 => exact am_s_dup_x1 hG hF hR hl hn hq hi h kk
  case ldc2_w => exact am_s_ldc2_w hG hF hR hl hn hq hi h kk
  case checkcast => exact am_s_checkcast hG hF hR hl hn hq hi h kk
  case invokevirtual idx => exact am_s_clone hG hF hR hl hn hq hfr hlo hcl hsl (fun q e1 e2 => ⟨(am_mlw e1).2.2.2.1 e2, am_w_bsel, am_w_bcl⟩) hi h kk
  case ifCond => exact am_s_ifCond hG hF hR hl hn hq hi h kk
  case if_icmp => exact am_s_if_icmp hG hF hR hl hn hq hi h kk
  case goto => exact am_s_goto hG hF hR hl hn hq hi h kk
  case tableswitch => exact am_s_switch hG hF hR hl hn hq hi h kk
  case iaload => exact am_s_iaload hG hF hR hl hn hq hi h kk
  case baload => exact am_s_baload hG hF hR hl hn hq hi h kk
  case aaload => exact am_s_aaload hG hF hR hl hn hq hi h kk
  case arraylength => exact am_s_arraylength hG hF hR hl hn hq hi h kk
  case iastore => exact am_s_iastore hG hF hR hl hn hq hi h kk
  case bastore => exact am_s_bastore hG hF hR hl hn hq hi h kk
  case aastore => exact am_s_aastore hG hF hR hl hn hq hi h kk
  case getfield => exact am_s_getfield hG hF hR hl hn hq hi h kk
  case putfield => exact am_s_putfield hG hF hR hl hn hq hi h kk
  case getstatic => exact am_s_getstatic hG hF hR hl hn hq hi h kk
  case ldc => exact am_s_ldc hG hF hR hl hn hq hi h kk
  case ldc_w => exact am_s_ldc_w hG hF hR hl hn hq hi h kk
  case new => exact am_s_new hG hF hR hl hn hq hcl hsl hi h kk
  case newarray => exact am_s_newarray hG hF hR hl hn hq hcl hsl hi h kk
  case anewarray => exact am_s_anewarray hG hF hR hl hn hq hcl hsl hi h kk
  case multianewarray => exact am_s_multi hG hF hR hl hn hq hcl hsl hi h kk
  case invokestatic idx =>
    have h0 := h
    dsimp only [am_step] at h
    split at h
    · next q e1 =>
      exact am_s_copy hG hF hR hl hn hq hfr hlo hi ((am_mlw e1).2.1 rfl) h kk
    · next q e1 =>
      exact am_s_mx hG hF hR hl hn hq hfr hlo (by omega) (by omega) am_w_stmax am_w_comax am_w_mi hi ((am_mlw e1).2.2.2.2.1 rfl) h kk
    · next q e1 =>
      exact am_s_mn hG hF hR hl hn hq hfr hlo (by omega) (by omega) am_w_stmin am_w_comin am_w_mi hi ((am_mlw e1).2.2.2.2.2 rfl) h kk
    · cases h
  case invokespecial idx => exact am_s_objinit hG hF hR hl hn hq hfr hlo am_w_oi am_w_oc (fun q e1 e2 => (am_mlw e1).2.2.1 e2) hi h kk
  all_goals (exfalso; simp only [am_step] at h; cases h; done)
end SIM
end
section
/-! THE SMALL MACHINE AND THE MACHINE: ends, calls, a whole run -/
def am_Qc (X : am_X) (out : AO) (g' : AG) (M' : AM) : Array Value → State → Outcome → State → Prop := fun _ _ o t => ∃ v : Option AV, out = .inl v ∧ o = .returned (v.map (am_V X)) ∧ am_Rel X g' M' t.heap
def am_XC (X : am_X) (out : AO) (g' : AG) (M' : AM) : String → State → State → Prop := fun E _ t => ∃ ci : Nat, out = .inr ci ∧ E = am_cn ci ∧ 10 ≤ ci ∧ ci < 13 ∧ am_Rel X g' M' t.heap
def am_rm (d mc ms : Nat) : Room := { frames := d + 10, cells := mc, slots := ms, locals := 60 * d + 300 }
/-- what a run of the small machine from here says of the machine, for f steps -/
def am_Bd (X : am_X) (l : Launch) (f : Nat) : Prop :=
  ∀ (d mi pc : Nat) (ls st : List AV) (g : AG) (M : AM) (out : AO) (g' : AG) (M' : AM), am_exec f d mi pc ls st g M = some (out, g', M') →
    ∀ (p : Program) (e : Env) (R : Room) (s : State) (m : MethodId) (args : Array Value) (below : List Frame) (meth : Method) (c : Code) (H : Heap) (locs : List Loc) (cells slots mc ms : Nat) (lsM : Array Slot),
      am_Fx X p l s m args meth c mi → am_Rel X g M H → lv_has lsM (am_nL mi) (am_lv X ls) → ls.length = am_nL mi → (∀ q ∈ locs, xB X ≤ q.base) → d + 10 ≤ R.frames → 60 * d + 300 ≤ R.locals →
      cells + gN g' ≤ mc + gN g → slots + gS g' ≤ ms + gS g → mc ≤ R.cells → ms ≤ R.slots →
      W p l e R s m args below meth c H locs cells slots (vx_MQ below (am_Qc X out g' M') (am_XC X out g' M') args s mc ms (xU X)) (F0 m pc lsM (st.map (am_V X)))
theorem am_cats {as : List AV} : as.length ≤ (as.map am_cat).sum := by
  induction as with
  | nil => exact Nat.le_refl _
  | cons a l ih =>
    rw [List.map_cons, List.sum_cons, List.length_cons]
    have : 1 ≤ am_cat a := by rcases a with x | r | x | x | x | x <;> first | exact Nat.le_refl 1 | exact Nat.le_succ 1
    omega
theorem am_cat1 {as : List AV} (h : (as.map am_cat).sum = as.length) : ∀ v ∈ as, am_cat v = 1 := by
  induction as with
  | nil => intro v hv; cases hv
  | cons a l ih =>
    rw [List.map_cons, List.sum_cons, List.length_cons] at h
    have h1 : 1 ≤ am_cat a := by rcases a with x | r | x | x | x | x <;> first | exact Nat.le_refl 1 | exact Nat.le_succ 1
    have h2 := am_cats (as := l)
    intro v hv
    rcases List.mem_cons.mp hv with rfl | hv
    · omega
    · exact ih (by omega) v hv
theorem am_lvargs {vs : List Value} (h : ∀ v ∈ vs, v.category = 1) : ∀ (k i : Nat) (v : Value), vs[i]? = some v → (k + i, v) ∈ lv_args k vs := by
  induction vs with
  | nil => intro k i v hv; cases hv
  | cons a l ih =>
    intro k i v hv
    rw [lv_args, if_neg (by rw [h a List.mem_cons_self]; decide)]
    cases i with
    | zero => cases hv; exact List.mem_cons_self
    | succ j =>
      have := ih (fun v hv => h v (List.mem_cons_of_mem _ hv)) (k + 1) j v hv
      rw [show k + 1 + j = k + (j + 1) by omega] at this
      exact List.mem_cons_of_mem _ this
theorem am_lgsl {vs : List Value} (h : ∀ v ∈ vs, v.category = 1) : (lg_sl vs).length = vs.length := by
  induction vs with
  | nil => rfl
  | cons a l ih =>
    show (List.flatMap _ (a :: l)).length = _
    rw [List.flatMap_cons, List.length_append, if_neg (by rw [h a List.mem_cons_self]; decide)]
    have := ih (fun v hv => h v (List.mem_cons_of_mem _ hv))
    unfold lg_sl at this
    rw [this, List.length_cons, List.length_cons]
    simp
    omega
theorem am_entry {X : am_X} (hG : am_Gl X) {as : List AV} {n : Nat} (h : ∀ v ∈ as, am_cat v = 1) (hn : as.length ≤ n) : lv_has ((lg_sl (as.map (am_V X)) ++ List.replicate (n - (lg_sl (as.map (am_V X))).length) Slot.unset).toArray) n (am_lv X (as ++ List.replicate (n - as.length) aU)) := by
  have hc : ∀ v ∈ as.map (am_V X), v.category = 1 := fun v hv => by
    obtain ⟨w, hw, rfl⟩ := List.mem_map.mp hv
    rw [am_catV X hG]; exact h w hw
  have hl : (lg_sl (as.map (am_V X))).length = as.length := by rw [am_lgsl hc, List.length_map]
  refine am_lv_sub (lv_entry (as.map (am_V X)) (n := n) (by omega)) fun i v hv hu => ?_
  by_cases hi : i < as.length
  · rw [List.getElem?_append_left hi] at hv
    have := am_lvargs hc 0 i (am_V X v) (by rw [List.getElem?_map, hv]; rfl)
    rw [Nat.zero_add] at this
    exact this
  · rw [List.getElem?_append_right (by omega)] at hv
    have := List.eq_of_mem_replicate (List.mem_of_getElem? hv)
    subst this
    cases hu
section SIM
variable {p : Program} {l : Launch} {e : Env} {R : Room} {s : State} {m : MethodId} {args : Array Value} {below : List Frame} {meth : Method} {c : Code} {H : Heap} {locs : List Loc} {cells slots : Nat} {Q : State → Prop}
variable {X : am_X} {mi pc pc' : Nat} {ls ls' st st' : List AV} {g g' : AG} {M M' : AM} {lsM : Array Slot}
theorem am_mokf {y : Nat} (h0 : am_vd y) : am_cw y ∈ am_ws ∧ plainName (am_name y).cls = true ∧ am_own y = (am_name y).cls ∧ am_nL y ≤ 40 ∧ ((am_name y).cls ≠ "java/lang/invoke/MethodHandle" ∧ (am_name y).cls ≠ "java/lang/invoke/VarHandle") ∧ (parseMethodDescriptor (am_name y).desc).map (fun d => d.parameters.length) = some (am_na y) := by
  have h := am_m_ok y h0.1 h0.2.1
  unfold am_mok at h
  rw [h0.2.2, Bool.false_or] at h
  simp only [Bool.and_eq_true, decide_eq_true_eq] at h
  obtain ⟨⟨⟨⟨⟨a, b⟩, c1⟩, d⟩, e1⟩, f⟩ := h
  exact ⟨List.mem_filter.mpr ⟨List.mem_append_left _ (am_cw_in y h0), a⟩, b, c1, d, e1, f⟩
theorem am_ws_good : ∀ w ∈ am_ws, (w.onTables && w.keeps) = true ∨ ∃ ty, w = .arrayClass ty := fun w h => good_of_word (List.mem_filter.mp h).2
/-- the contract of a method, out of its run in the small machine -/
theorem am_met (hG : am_Gl X) (hlt : l.stackTraces = false) {f : Nat} (hB : am_Bd X l f) {d y : Nat} {as : List AV} {out : AO} (h1 : am_vd y) (hx : am_exec f d y 0 (am_pad y as) [] g M = some (out, g', M')) (hlen : as.length ≤ am_nL y) (hcat : ∀ v ∈ as, am_cat v = 1) :
    vx_Met l (am_name y) (am_cw y :: am_ws) (am_rm d (gN g' - gN g) (gS g' - gS g)) (fun a U => a = (as.map (am_V X)).toArray ∧ am_Rel X g M U.heap ∧ (xS X).WarmedH U.vm) (am_Qc X out g' M') (am_XC X out g' M') (gN g' - gN g) (gS g' - gS g) (xU X) := by
  obtain ⟨k1, k2, k3, k4, k5, k6⟩ := am_mokf h1
  have hm := am_exec_mono _ _ _ _ _ _ _ _ _ _ _ hx
  have core : ∀ (p : Program) (e : Env) (s : State) (m : MethodId) (args : Array Value) (below : List Frame) (meth : Method) (c : Code) (s₁ : State), BodyLoose p l (am_name y) (headSpec (am_cw y :: am_ws) (am_rm d (gN g' - gN g) (gS g' - gS g))) (am_code y) (am_nL y) (am_rt y) e s m args below meth c s₁ → c.maxLocals = am_nL y →
      c.exceptionTable.toList = tableOf (am_hh y) → args = (as.map (am_V X)).toArray → am_Rel X g M s.heap → (xS X).WarmedH s.vm →
      W p l e (am_rm d (gN g' - gN g) (gS g' - gS g)) s m args below meth c s.heap [] 0 0 (vx_MQ below (am_Qc X out g' M') (am_XC X out g' M') args s (gN g' - gN g) (gS g' - gS g) (xU X)) (entryFrame m args (am_nL y)) := by
    intro p e s m args below meth c s₁ B hml htab ha hRel hW
    subst ha
    rw [lg_entry_eq]
    have hown := findClass_of_methodNamed B.named
    have hF : am_Fx X p l s m (as.map (am_V X)).toArray meth c y := ⟨B.exec, B.bytes, hml, by rw [k3]; exact hown, fun w hw => atoms_spec (ws := am_cw y :: am_ws) B.pre w (List.mem_cons_of_mem _ hw), B.returns, B.notSynchronized, htab, (name_of_methodNamed B.named B.method).1, hlt, hW, by rw [hRel.1]; exact Nat.le_add_right _ _, hRel.2.1⟩
    have hgo := hB d y 0 (am_pad y as) [] g M out g' M' hx p e (am_rm d (gN g' - gN g) (gS g' - gS g)) s m (as.map (am_V X)).toArray below meth c s.heap [] 0 0 (gN g' - gN g) (gS g' - gS g) _ hF hRel (am_entry hG hcat hlen) (by unfold am_pad; rw [List.length_append, List.length_replicate]; omega) (fun q hq => by cases hq) (Nat.le_refl _) (Nat.le_refl _) (by omega) (by omega) (Nat.le_refl _) (Nat.le_refl _)
    exact hgo
  by_cases hh : am_hh y = []
  · refine vx_ofW (cc := am_code y) (maxL := am_nL y) (ret := am_rt y) k2 (show am_cw y :: am_ws = Cond.code (am_name y) (am_code y) (am_nL y) (am_rt y) :: am_ws by unfold am_cw; rw [if_pos hh]) ?_
    intro p e s m args below meth c s₁ B hml hno hv
    obtain ⟨ha, hRel, hW⟩ := hv
    refine core p e s m args below meth c s₁ B hml ?_ ha hRel hW
    rw [hh]
    cases ht : c.exceptionTable.toList with
    | nil => rfl
    | cons x r => exact absurd (hno x (by rw [ht]; exact List.mem_cons_self)) (fun h => h)
  · have hcw : am_cw y = Cond.codeWith (am_name y) (am_code y) (am_nL y) (am_rt y) (am_hh y) := by unfold am_cw; rw [if_neg hh]
    refine vx_ofWH (cc := am_code y) (maxL := am_nL y) (ret := am_rt y) (hh := am_hh y) k2 (show am_cw y :: am_ws = Cond.codeWith (am_name y) (am_code y) (am_nL y) (am_rt y) (am_hh y) :: am_ws by rw [hcw]) ?_
    intro p e s m args below meth c s₁ B hml hv
    obtain ⟨ha, hRel, hW⟩ := hv
    refine core p e s m args below meth c s₁ B hml ?_ ha hRel hW
    have hw := atoms_spec (ws := am_cw y :: am_ws) B.pre (am_cw y) List.mem_cons_self
    rw [hcw] at hw
    exact vx_table (x := am_name y) B hw
/-- the ends by a return -/
theorem am_end (hG : am_Gl X) (hF : am_Fx X p l s m args meth c mi) (hR : am_Rel X g M H) (hq : ∀ q ∈ locs, xB X ≤ q.base) {i : Instr} {out : AO} {mc ms : Nat} (hc : cells ≤ mc) (hs : slots ≤ ms) (hi : am_ins mi pc = some i) (h : am_ret mi pc i st g = some (out, g')) :
    W p l e R s m args below meth c H locs cells slots (vx_MQ below (am_Qc X out g' M) (am_XC X out g' M) args s mc ms (xU X)) (F0 m pc lsM (st.map (am_V X))) := by
  obtain ⟨hx, hb, hml, hown, hts, hrt, hlk, -⟩ := hF
  refine vx_ret ?_
  refine W.widen (k := mc) (n := ms) hc hs ?_
  unfold am_ret at h
  split at h
  · split at h
    · next x =>
      split at h
      · next hok =>
        cases h
        have hq1 : ∀ t : State, t.heap = H → s.WarmedH t.vm → am_Qc X (.inl (some (aI x))) g M args s (.returned (some (.int (Int32.ofInt x)))) t := fun t ht _ => ⟨_, rfl, rfl, by rw [ht]; exact hR⟩
        unfold am_rok at hok
        split at hok
        · next e1 => exact W.iret hx hb (hrt.trans e1) hq1 hq (am_dec hi rfl) hlk
        · next e1 =>
          simp only [Bool.or_eq_true, decide_eq_true_eq] at hok
          refine W.zret hx hb (hrt.trans e1) ?_ hq1 hq (am_dec hi rfl) hlk
          rcases hok with rfl | rfl <;> decide
        · next e1 =>
          simp only [Bool.and_eq_true, decide_eq_true_eq] at hok
          refine W.zret hx hb (hrt.trans e1) ?_ hq1 hq (am_dec hi rfl) hlk
          have h1 := (pk_charN (q := x.toNat) (by omega)).1
          unfold nI at h1
          rw [am_ofNat, Int.toNat_of_nonneg hok.1] at h1
          exact h1
        · next e1 =>
          simp only [Bool.and_eq_true, decide_eq_true_eq] at hok
          refine W.zret hx hb (hrt.trans e1) ?_ hq1 hq (am_dec hi rfl) hlk
          show Value.int _ = _
          rw [am_i2b, Int.bmod_eq_of_le (by omega) (by omega)]
        · cases hok
      · cases h
    · cases h
  · split at h
    · next r =>
      split at h
      · next n e1 =>
        cases h
        exact W.aret hx hb (hrt.trans e1) (Or.inl ⟨_, rfl⟩) (am_adcase X hG r) (fun t ht _ => ⟨_, rfl, rfl, by rw [ht]; exact hR⟩) hq (am_dec hi rfl) hlk
      · next n e1 =>
        cases h
        exact W.aret hx hb (hrt.trans e1) (Or.inr ⟨_, rfl⟩) (am_adcase X hG r) (fun t ht _ => ⟨_, rfl, rfl, by rw [ht]; exact hR⟩) hq (am_dec hi rfl) hlk
      · cases h
    · cases h
  · split at h
    · next x =>
      split at h
      · next e1 =>
        cases h
        exact W.lret hx hb (hrt.trans e1) (fun t ht _ => ⟨_, rfl, rfl, by rw [ht]; exact hR⟩) hq (am_dec hi rfl) hlk
      · cases h
    · cases h
  · split at h
    · next x =>
      split at h
      · next e1 =>
        cases h
        exact W.dret hx hb (hrt.trans e1) (fun t ht _ => ⟨_, rfl, rfl, by rw [ht]; exact hR⟩) hq (am_dec hi rfl) hlk
      · cases h
    · cases h
  · split at h
    · next x =>
      split at h
      · next e1 =>
        cases h
        exact W.fret hx hb (hrt.trans e1) (fun t ht _ => ⟨_, rfl, rfl, by rw [ht]; exact hR⟩) hq (am_dec hi rfl) hlk
      · cases h
    · cases h
  · split at h
    · split at h
      · next e1 =>
        cases h
        exact W.vret hx hb (hrt.trans e1) (fun t ht _ => ⟨none, rfl, rfl, by rw [ht]; exact hR⟩) hq (am_dec hi rfl) hlk
      · cases h
    · cases h
  · cases h
end SIM
end
section
/-! THE SMALL MACHINE AND THE MACHINE: throws and calls -/
section SIM
variable {p : Program} {l : Launch} {e : Env} {R : Room} {s : State} {m : MethodId} {args : Array Value} {below : List Frame} {meth : Method} {c : Code} {H : Heap} {locs : List Loc} {cells slots : Nat} {Q : State → Prop}
variable {X : am_X} {mi pc pc' : Nat} {ls ls' st st' : List AV} {g g' : AG} {M M' : AM} {lsM : Array Slot}
theorem am_sumV (hG : am_Gl X) (st : List AV) : ((st.map (am_V X)).map fun v => v.category).sum = (st.map am_cat).sum := by
  rw [List.map_map]
  congr 1
  exact List.map_congr_left fun v _ => am_catV X hG v
theorem am_thr1 (hG : am_Gl X) (hF : am_Fx X p l s m args meth c mi) (hR : am_Rel X g M H) (hl : lv_has lsM (am_nL mi) (am_lv X ls)) (hq : ∀ q ∈ locs, xB X ≤ q.base) {mc ms ik is ic k E : Nat} {wd : Bool} (hfr : 10 ≤ R.frames) (hlo : 300 ≤ R.locals) (hc : cells + 1 ≤ mc) (hs : slots + 6 ≤ ms) (hmc : mc ≤ R.cells) (hms : ms ≤ R.slots)
    (hE : 10 ≤ E ∧ E < 13) (hfit : Bundle.fit (am_cn E) = true) (hini : Cond.initialized (am_cn E) ∈ am_ws) (hat0 : ∀ w ∈ vx_atS "RodYard" ic (am_cn E) ["java/lang/RuntimeException", "java/lang/Exception"], w ∈ lw_tbl)
    (hat1 : (vx_atS "RodYard" ic (am_cn E) ["java/lang/RuntimeException", "java/lang/Exception"]).all (fun w => goodWord w || (match w with | .declares _ => true | .castable _ _ => true | _ => false)) = true) (hat2 : (vx_atS "RodYard" ic (am_cn E) ["java/lang/RuntimeException", "java/lang/Exception"]).all vx_ot = true)
    (hoc : am_oc mi = 0) (hms2 : ∃ tx, Cond.stringRef "RodYard" is tx ∈ tables_1) (hh : am_hh mi = []) (hsum : (st.map am_cat).sum ≤ 8) (ht : am_thr mi pc = some (ik, is, ic, k, wd)) (hx : am_exc mi pc ik = some E) :
    W p l e R s m args below meth c H locs cells slots (vx_MQ below (am_Qc X (.inr E) (am_alloc g 30 0 6) M) (am_XC X (.inr E) (am_alloc g 30 0 6) M) args s mc ms (xU X)) (F0 m pc lsM (st.map (am_V X))) := by
  have hw := fun w h => am_wd (w := w) hF h
  have hW : (xS X).WarmedH s.vm := hF.2.2.2.2.2.2.2.2.2.2.1
  obtain ⟨hex, hb, hml, hown, hts, hrt, hlk, htab, hnm, hst, -⟩ := hF
  have ho : am_own mi = "RodYard" := by unfold am_own; rw [hoc]; decide +kernel
  rw [ho] at hown
  unfold am_exc at hx
  split at hx
  · next i0 ci pz e1 =>
    split at hx
    · next h10 =>
      cases hx
      obtain ⟨-, w1, -⟩ := am_cl_ok e1
      dsimp only at w1
      rw [hoc, show am_cn 0 = "RodYard" by decide +kernel, show am_cname E = am_cn E by unfold am_cname; rw [if_neg (by omega), if_neg (by omega), if_neg (by omega)]] at w1
      obtain ⟨tx, htx⟩ := hms2
      obtain ⟨sa, hsa⟩ := hG.2.2.2.2.2.1 _ _ _ htx
      have hsa := vk_R.warm hW hsa
      have hat : ∀ w ∈ vx_atS "RodYard" ic (am_cn E) ["java/lang/RuntimeException", "java/lang/Exception"], w.before args s = true := by
        intro w hwm
        have h1 := List.all_eq_true.mp hat1 w hwm
        simp only [Bool.or_eq_true] at h1
        rcases h1 with h1 | h1
        · exact hw w (List.mem_filter.mpr ⟨List.mem_append_left _ (hat0 w hwm), h1⟩)
        · have h2 : va_Nw w (xS X) := hG.2.2.2.2.2.2.2.2.2.1 w (hat0 w hwm) (List.all_eq_true.mp hat2 w hwm)
          cases w
          case declares x => exact va_Nw.use rfl (va_Nw.warmD hW h2)
          case castable a b => exact va_Nw.use rfl (va_Nw.warmC hW h2)
          all_goals cases h1
      have hgood : ∀ w ∈ Cond.classLink "RodYard" ik (am_cn E) :: Cond.initialized (am_cn E) :: vx_atS "RodYard" ic (am_cn E) ["java/lang/RuntimeException", "java/lang/Exception"], vx_ot w = true := by
        intro w hwm
        rcases List.mem_cons.mp hwm with rfl | hwm
        · rfl
        · rcases List.mem_cons.mp hwm with rfl | hwm
          · rfl
          · exact List.all_eq_true.mp hat2 w hwm
      have hold : ∀ a : Nat, a < (xS X).heap.size → ¬ xU X a → H[a]? = (xS X).heap[a]? := fun a h1 h2 => hR.2.1 a (Nat.not_le.mp h2)
      have hU : vx_Zq Bundle.tN "UNASSIGNED_STACK" Bundle.steD (xU X) s H := vx_Zq.moved hW.alike (hG.2.1.1.kept hold)
      have hN : vx_Zq Bundle.tN "SUPPRESSED_SENTINEL" Bundle.listD (xU X) s H := vx_Zq.moved hW.alike (hG.2.1.2.kept hold)
      have hout : ∀ z, ∀ x ∈ c.exceptionTable.toList, covers x z = false := by
        intro z x hx
        rw [htab, hh] at hx
        cases hx
      have hx9 : ∀ t : State, s.vm.Alike t.vm → t.heap.size = H.size + 1 → (∀ q : Nat, q < H.size → t.heap[q]? = H[q]?) → am_XC X (.inr E) (am_alloc g 30 0 6) M (am_cn E) s t :=
        fun t _ z1 z2 => ⟨E, rfl, rfl, hE.1, hE.2, am_Rel_push hR (fun _ _ => rfl) z1 z2 (Or.inr (Or.inr (am_al1 (g := g) (kind := 30) (len := 0) (sl := 6)).2.2.1))⟩
      have hnames : ∀ n ∈ ["java/lang/RuntimeException", "java/lang/Exception"], Bundle.fit n = true := by decide +kernel
      have hsz : lsM.size = c.maxLocals := by rw [hml]; exact hl.1
      have hsm : ((st.map (am_V X)).map fun v => v.category).sum + (13 * ((["java/lang/RuntimeException", "java/lang/Exception"] : List String).length + 1) + 43) ≤ R.locals := by rw [am_sumV hG]; show _ + (13 * (2 + 1) + 43) ≤ _; omega
      unfold am_thr at ht
      split at ht
      · next ik2 i1 =>
        split at ht
        · next is2 i2 =>
          split at ht
          · next ic2 i3 =>
            split at ht
            · next hd =>
              cases ht
              exact am_throwS hex hb hst hown hfit hnames (hw _ w1) (hw _ hini) hsa hat hgood hU hN hsz (am_dec i1 rfl) (am_dec hd.1 rfl) (am_dec i2 rfl) (am_dec i3 rfl) (am_dec hd.2 rfl) (hout _) (by show 2 + 3 < _; omega) hsm (by omega) (by omega) hlk hx9 hq hc hs
            · cases ht
          · cases ht
        · next is2 i2 =>
          split at ht
          · next ic2 i3 =>
            split at ht
            · next hd =>
              cases ht
              exact am_throwSW hex hb hst hown hfit hnames (hw _ w1) (hw _ hini) hsa hat hgood hU hN hsz (am_dec i1 rfl) (am_dec hd.1 rfl) (am_dec i2 rfl) (am_dec i3 rfl) (am_dec hd.2 rfl) (hout _) (by show 2 + 3 < _; omega) hsm (by omega) (by omega) hlk hx9 hq hc hs
            · cases ht
          · cases ht
        · cases ht
      · cases ht
    · cases hx
  · cases hx
theorem am_msg_chk : am_msgT.all (fun q => am_hasN q.2.2 (.stringRef "RodYard" q.1 q.2.1)) = true := by decide +kernel
theorem am_tbl_split {w : Jvm.Cond} (h : w ∈ lw_tbl) (hs : ∀ C x y, w ≠ .selects C x y) : w ∈ tables_1 := by
  unfold lw_tbl at h
  rcases List.mem_append.mp h with h | h
  · unfold k2_sels at h
    obtain ⟨q, -, rfl⟩ := List.mem_map.mp h
    exact absurd rfl (hs _ _ _)
  · exact h
theorem am_msg_ok {is : Nat} (h : (am_msgT.find? (fun q => q.1 == is)).isSome = true) : ∃ tx, Cond.stringRef "RodYard" is tx ∈ tables_1 := by
  obtain ⟨q, hq⟩ := Option.isSome_iff_exists.mp h
  have h1 := List.mem_of_find?_eq_some hq
  have h2 : q.1 = is := by simpa using List.find?_some hq
  have h3 := am_hasN_in (List.all_eq_true.mp am_msg_chk q h1)
  rw [h2] at h3
  exact ⟨q.2.1, am_tbl_split h3 (fun _ _ _ h => by cases h)⟩
theorem am_throw (hG : am_Gl X) (hF : am_Fx X p l s m args meth c mi) (hR : am_Rel X g M H) (hl : lv_has lsM (am_nL mi) (am_lv X ls)) (hq : ∀ q ∈ locs, xB X ≤ q.base) {mc ms ik is ic k E : Nat} {wd : Bool} (hfr : 10 ≤ R.frames) (hlo : 300 ≤ R.locals) (hc : cells + 1 ≤ mc) (hs : slots + 6 ≤ ms) (hmc : mc ≤ R.cells) (hms : ms ≤ R.slots)
    (hh : am_hh mi = []) (hsum : (st.map am_cat).sum ≤ 8) (hok : am_exok mi E is ic = true) (ht : am_thr mi pc = some (ik, is, ic, k, wd)) (hx : am_exc mi pc ik = some E) :
    W p l e R s m args below meth c H locs cells slots (vx_MQ below (am_Qc X (.inr E) (am_alloc g 30 0 6) M) (am_XC X (.inr E) (am_alloc g 30 0 6) M) args s mc ms (xU X)) (F0 m pc lsM (st.map (am_V X))) := by
  unfold am_exok at hok
  simp only [Bool.and_eq_true, Bool.or_eq_true, decide_eq_true_eq] at hok
  obtain ⟨⟨h1, h2⟩, h3⟩ := hok
  rcases h2 with (⟨rfl, rfl⟩ | ⟨rfl, rfl⟩) | ⟨rfl, rfl⟩
  · exact am_thr1 hG hF hR hl hq hfr hlo hc hs hmc hms (by omega) (by decide +kernel) am_w_i10 am_at10_in am_at10_g am_at10_o h1 (am_msg_ok h3) hh hsum ht hx
  · exact am_thr1 hG hF hR hl hq hfr hlo hc hs hmc hms (by omega) (by decide +kernel) am_w_i11 am_at11_in am_at11_g am_at11_o h1 (am_msg_ok h3) hh hsum ht hx
  · exact am_thr1 hG hF hR hl hq hfr hlo hc hs hmc hms (by omega) (by decide +kernel) am_w_i12 am_at12_in am_at12_g am_at12_o h1 (am_msg_ok h3) hh hsum ht hx
/-- behind a call -/
theorem am_after {mc1 ms1 : Nat} {o1 : AO} {g1 : AG} {M1 : AM} {a : Array Value} {stM : List Value} {rest : List AV} (hq : ∀ q ∈ locs, xB X ≤ q.base)
    (hr : vx_Run p l e R s m args below meth c H locs cells slots mc1 ms1 (F0 m pc lsM stM) (rest.map (am_V X)) (am_Qc X o1 g1 M1 a) (am_XC X o1 g1 M1) (xU X))
    (k1 : ∀ (v : Option AV) (H' : Heap) (locs' : List Loc), o1 = .inl v → am_Rel X g1 M1 H' → (∀ q ∈ locs', xB X ≤ q.base) → W p l e R s m args below meth c H' locs' (cells + mc1) (slots + ms1) Q (F0 m (pc + 3) lsM ((am_push v rest).map (am_V X))))
    (k2 : ∀ (E : Nat) (H' : Heap) (locs' : List Loc) (q : Addr) (ce : Cell), o1 = .inr E → 10 ≤ E → E < 13 → am_Rel X g1 M1 H' → (∀ q ∈ locs', xB X ≤ q.base) → H'[q]? = some ce → ce.vm = .none → s.vm.findClass (am_cn E) = some ce.cls → vx_W p l e R s m args below meth c H' locs' (cells + mc1) (slots + ms1) Q (F0 m pc lsM (rest.map (am_V X))) q) :
    W p l e R s m args below meth c H locs cells slots Q (F0 m pc lsM stM) := by
  intro T hT Xs
  have hlc : ∀ L : List Loc, (∀ q ∈ L, xU X q.base) → ∀ q ∈ locs ++ L, xB X ≤ q.base := fun L hL q h => by
    rcases List.mem_append.mp h with h | h
    · exact hq q h
    · exact hL q h
  rcases hr T hT Xs with ⟨v, st₀, t, T', L, h0, X', hL, e1, e2, ⟨v', hv', ho, hRel⟩, hgo⟩ | ⟨q, st₀, t, T', L, E, ce, h0, X', hL, e1, e2, ⟨ci, hci, hE, hE1, hE2, hRel⟩, hce, hcv, hcl, hgo⟩
  · have hv : v = v'.map (am_V X) := Outcome.returned.inj ho
    subst hv
    obtain ⟨t2, a1, b1⟩ := k1 v' T'.heap (locs ++ L) hv' (by rw [e1]; exact hRel) (hlc L hL) T' rfl X'
    refine ⟨t2, hgo t2 ?_, b1⟩
    cases v' with
    | none => exact a1
    | some w => exact a1
  · subst hE
    obtain ⟨t2, a1, b1⟩ := k2 ci T'.heap (locs ++ L) q ce hci hE1 hE2 (by rw [e1]; exact hRel) (hlc L hL) (by rw [e1]; exact hce) hcv hcl T' rfl X'
    exact ⟨t2, hgo.trans a1, b1⟩
theorem am_find_spec {mi pc E h t : Nat} : ∀ {hs : List (Nat × Nat × Nat × Nat)}, am_find mi pc E hs = some (h, t) →
    ∃ (pre : List (Nat × Nat × Nat × Nat)) (a b : Nat) (suf : List (Nat × Nat × Nat × Nat)) (z1 z2 : Nat), hs = pre ++ (a, b, h, t) :: suf ∧ a ≤ pc ∧ pc < b ∧ t ≠ 0 ∧ am_cs (am_oc mi) t = some (z1, E, z2) ∧
      ∀ z ∈ pre, ¬ (z.1 ≤ pc ∧ pc < z.2.1) ∨ (z.2.2.2 ≠ 0 ∧ ∃ T y1 y2, am_cs (am_oc mi) z.2.2.2 = some (y1, T, y2) ∧ (10 ≤ T ∧ T < 13) ∧ T ≠ E)
  | [], h9 => by cases h9
  | (a, b, h2, t2) :: r, h9 => by
    rw [am_find] at h9
    split at h9
    · next z1 ci z2 e1 =>
      split at h9
      · next hc =>
        obtain ⟨c1, c2, rfl, c4⟩ := hc
        cases h9
        exact ⟨[], a, b, r, z1, z2, rfl, c1, c2, c4, e1, fun z hz => by cases hz⟩
      · next hc =>
        split at h9
        · next hd =>
          obtain ⟨pre, a', b', suf, y1, y2, p1, p2, p3, p4, p5, p6⟩ := am_find_spec h9
          refine ⟨(a, b, h2, t2) :: pre, a', b', suf, y1, y2, by rw [p1]; rfl, p2, p3, p4, p5, fun z hz => ?_⟩
          rcases List.mem_cons.mp hz with rfl | hz
          · dsimp only
            by_cases hcv : a ≤ pc ∧ pc < b
            · refine Or.inr ⟨hd.2, ci, z1, z2, e1, hd.1, fun he => hc ⟨hcv.1, hcv.2, he, hd.2⟩⟩
            · exact Or.inl hcv
          · exact p6 z hz
        · cases h9
    · cases h9
theorem am_cov (x : ExceptionTableEntry) (z : Nat) : covers x z = true ↔ (x.startPc ≤ z ∧ z < x.endPc) := by
  unfold covers
  simp
/-- an exception that is caught here -/
theorem am_caught (hG : am_Gl X) (hF : am_Fx X p l s m args meth c mi) (hR : am_Rel X g M H) (hl : lv_has lsM (am_nL mi) (am_lv X ls)) (hq : ∀ q ∈ locs, xB X ≤ q.base) {E h t : Nat} {n : Int} {mc ms : Nat} {q : Addr} {ce : Cell} {rest : List Value} (hc : cells ≤ mc) (hs : slots ≤ ms)
    (hf : am_find mi pc E (am_hh mi) = some (h, t)) (hn : am_hret mi h = some n) (hE1 : 10 ≤ E) (hE2 : E < 13) (hce : H[q]? = some ce) (hcv : ce.vm = .none) (hcl : s.vm.findClass (am_cn E) = some ce.cls) :
    vx_W p l e R s m args below meth c H locs cells slots (vx_MQ below (am_Qc X (.inl (some (aI n))) g M) (am_XC X (.inl (some (aI n))) g M) args s mc ms (xU X)) (F0 m pc lsM rest) q := by
  have hw := fun w h => am_wd (w := w) hF h
  have hW : (xS X).WarmedH s.vm := hF.2.2.2.2.2.2.2.2.2.2.1
  obtain ⟨hx, hb, hml, hown, hts, hrt, hlk, htab, -⟩ := hF
  obtain ⟨pre, a, b, suf, z1, z2, p1, p2, p3, p4, p5, p6⟩ := am_find_spec hf
  obtain ⟨-, w1, w2⟩ := am_cl_ok p5
  dsimp only at w1
  rw [show am_cname E = am_cn E by unfold am_cname; rw [if_neg (by omega), if_neg (by omega), if_neg (by omega)]] at w1
  have hcast : (Cond.castable (am_cn E) (am_cn E)).before args s = true := by
    have h0 : Cond.castable (am_cn E) (am_cn E) ∈ lw_tbl := by
      rcases (show E = 10 ∨ E = 11 ∨ E = 12 by omega) with rfl | rfl | rfl
      · exact am_w_k10
      · exact am_w_k11
      · exact am_w_k12
    exact va_Nw.use rfl (va_Nw.warmC hW (hG.2.2.2.2.2.2.2.2.2.1 _ h0 rfl))
  refine vx_catch hown (tableOf pre) ⟨a, b, h, t⟩ (tableOf suf) (by rw [htab, p1]; unfold tableOf; rw [List.map_append]; rfl) (fun z hz => ?_) ((am_cov _ _).mpr ⟨p2, p3⟩) p4 (hw _ w1) hcast hce hcv hcl ?_
  · unfold tableOf at hz
    obtain ⟨y, hy, rfl⟩ := List.mem_map.mp hz
    rcases p6 y hy with h9 | ⟨h9, T, y1, y2, e1, e2, e3⟩
    · refine Or.inl ?_
      cases hcc : covers ⟨y.1, y.2.1, y.2.2.1, y.2.2.2⟩ pc with
      | false => rfl
      | true => exact absurd ((am_cov _ _).mp hcc) h9
    · obtain ⟨-, v1, v2⟩ := am_cl_ok e1
      dsimp only at v1 v2
      rw [show am_cname T = am_cn T by unfold am_cname; rw [if_neg (by omega), if_neg (by omega), if_neg (by omega)]] at v1
      exact Or.inr ⟨h9, am_cn T, hw _ v1, va_Nc.moved hW.alike (hG.2.2.2.2.2.2.2.1 E T hE1 hE2 e2.1 e2.2 (Ne.symm e3))⟩
  · show W p l e R s m args below meth c H locs cells slots _ (F0 m h lsM [.ref q])
    refine vx_ret ?_
    unfold am_hret at hn
    split at hn
    · next k i1 =>
      split at hn
      · next n2 i2 =>
        split at hn
        · next hd =>
          cases hn
          obtain ⟨d1, d2, d3⟩ := hd
          refine lv_astore_n hx hb (am_dec i1 rfl) rfl hl d2 rfl (fun ls2 h2 => ?_)
          refine lv_iconst hx hb (am_dec i2 rfl) rfl ?_
          refine W.widen (k := mc) (n := ms) hc hs ?_
          exact W.iret hx hb (hrt.trans d3) (fun t ht _ => ⟨_, rfl, rfl, by rw [ht]; exact hR⟩) hq (am_dec d1 rfl) hlk
        · cases hn
      · cases hn
    · next k i1 =>
      split at hn
      · next n2 i2 =>
        split at hn
        · next hd =>
          cases hn
          obtain ⟨d1, d2, d3⟩ := hd
          refine lv_astore hx hb (am_dec i1 rfl) hl d2 rfl (fun ls2 h2 => ?_)
          refine lv_iconst hx hb (am_dec i2 rfl) rfl ?_
          refine W.widen (k := mc) (n := ms) hc hs ?_
          exact W.iret hx hb (hrt.trans d3) (fun t ht _ => ⟨_, rfl, rfl, by rw [ht]; exact hR⟩) hq (am_dec d1 rfl) hlk
        · cases hn
      · cases hn
    · cases hn
end SIM
end
section
/-! THE SMALL MACHINE AND THE MACHINE: the whole run -/
section SIM
variable {p : Program} {l : Launch} {e : Env} {R : Room} {s : State} {m : MethodId} {args : Array Value} {below : List Frame} {meth : Method} {c : Code} {H : Heap} {locs : List Loc} {cells slots : Nat} {Q : State → Prop}
variable {X : am_X} {mi pc pc' : Nat} {ls ls' st st' : List AV} {g g' : AG} {M M' : AM} {lsM : Array Slot}
set_option maxRecDepth 20000 in
theorem am_lo1 {d q L : Nat} (h : 60 * d + 360 ≤ L) (hq : q ≤ 40) : 8 + (q + 11) + (60 * d + 300) ≤ L := by omega
theorem am_take {na : Nat} {a : Nat} {rest : List AV} (h : st.drop na = .inr (.inl a) :: rest) : st.map (am_V X) = ((st.take na).reverse.map (am_V X)).reverse ++ am_V X (aR a) :: rest.map (am_V X) := by
  rw [← List.map_reverse, List.reverse_reverse, ← List.map_cons, ← h, ← List.map_append, List.take_append_drop]
theorem am_takeS {na : Nat} : st.map (am_V X) = ((st.take na).reverse.map (am_V X)).reverse ++ (st.drop na).map (am_V X) := by
  rw [← List.map_reverse, List.reverse_reverse, ← List.map_append, List.take_append_drop]
/-- a call: the contract of the callee, at the place of the call -/
theorem am_run (hG : am_Gl X) (hF : am_Fx X p l s m args meth c mi) (hR : am_Rel X g M H) (hl : lv_has lsM (am_nL mi) (am_lv X ls)) {f d y : Nat} {i : Instr} {as rest : List AV} {o1 : AO} {g1 : AG} {M1 : AM} (hB : am_Bd X l f)
    (hi : am_ins mi pc = some i) (hc : am_call mi i st g = some (y, as, rest)) (hlen : as.length ≤ am_nL y) (hx : am_exec f d y 0 (am_pad y as) [] g M = some (o1, g1, M1)) (hfr : d + 11 ≤ R.frames) (hlo : 60 * d + 360 ≤ R.locals) (hcl : cells + (gN g1 - gN g) ≤ R.cells) (hsl : slots + (gS g1 - gS g) ≤ R.slots) :
    ∃ a, vx_Run p l e R s m args below meth c H locs cells slots (gN g1 - gN g) (gS g1 - gS g) (F0 m pc lsM (st.map (am_V X))) (rest.map (am_V X)) (am_Qc X o1 g1 M1 a) (am_XC X o1 g1 M1) (xU X) := by
  have hst : l.stackTraces = false := hF.2.2.2.2.2.2.2.2.2.1
  have hW : (xS X).WarmedH s.vm := hF.2.2.2.2.2.2.2.2.2.2.1
  have hw := fun w h => am_wd (w := w) hF h
  have hK := am_Kof hG hF
  obtain ⟨hex, hb, hml, hown, hts, -⟩ := hF
  have S : CallFix p m c (am_code mi) (am_nL mi) s args am_ws (am_own mi) := ⟨hex, hb, hml, hown, hts⟩
  have hroom : (rest.map am_cat).sum ≤ 8 → 2 * (F0 m pc lsM (st.map (am_V X))).monitorRoom + ((rest.map (am_V X)).map fun v => v.category).sum ≤ 8 := fun h => by
    rw [am_sumV hG]
    show 2 * 0 + _ ≤ 8
    omega
  have pay : ∀ y, am_cw y ∈ am_ws → ∀ w ∈ am_cw y :: am_ws, ∀ (a' : Array Value) (U : State), s.WarmedH U.vm → w.before a' U = true := fun y hy w hwm a' U hWU => by
    have hm : w ∈ am_ws := by
      rcases List.mem_cons.mp hwm with rfl | h
      · exact hy
      · exact h
    exact word_at hWU (am_ws_good w hm) (hts w hm)
  have hPre : ∀ (asV : List AV), FrameBlind (fun a U => a = (asV.map (am_V X)).toArray ∧ am_Rel X g M U.heap ∧ (xS X).WarmedH U.vm) ∧ ∀ U : State, U.heap = H → s.WarmedH U.vm → ((asV.map (am_V X)).toArray = (asV.map (am_V X)).toArray ∧ am_Rel X g M U.heap ∧ (xS X).WarmedH U.vm) :=
    fun asV => ⟨fun a U g9 mk h => h, fun U hU hWU => ⟨rfl, by rw [hU]; exact hR, hW.trans hWU⟩⟩
  have hcats : ∀ na, na ≤ st.length → ((st.take na).map am_cat).sum = na → ∀ v ∈ (st.take na).reverse, am_cat v = 1 := fun na h1 h2 v hv => am_cat1 (by rw [h2, List.length_take]; omega) v (List.mem_reverse.mp hv)
  have hfr1 : ∀ a b : Nat, (am_rm d a b).frames + 1 ≤ R.frames := fun a b => by show d + 10 + 1 ≤ R.frames; omega
  have hlo1 : ∀ q a b : Nat, q ≤ 40 → 8 + (q + 11) + (am_rm d a b).locals ≤ R.locals := fun q a b hq => am_lo1 hlo hq
  unfold am_call at hc
  split at hc
  · next idx =>
    split at hc
    · next i0 y2 pz e1 =>
      split at hc
      · next a rest2 e2 =>
        split at hc
        · next h1 =>
          cases hc
          obtain ⟨h1, h2, h3, h4⟩ := h1
          obtain ⟨hi0, hml2⟩ := am_ml_ok e1
          unfold am_mlok at hml2
          obtain ⟨q1, q2, q3, q4⟩ := pz
          dsimp only at hi0
          subst hi0
          simp only [Bool.and_eq_true, decide_eq_true_eq] at hml2
          obtain ⟨⟨⟨⟨m1, m2⟩, m3⟩, m4⟩, m5, m7, m8⟩ := hml2
          obtain ⟨k1, k2, k3, k4, k5, k6⟩ := am_mokf m5
          have hcc : ∀ v ∈ aR a :: (st.take (am_na y)).reverse, am_cat v = 1 := fun v hv => by
            rcases List.mem_cons.mp hv with rfl | hv
            · rfl
            · exact hcats _ h3 h4 v hv
          have hM := am_met hG hst hB m5 hx hlen hcc
          have hcw : am_cw y = Cond.code (am_name y) (am_code y) (am_nL y) (am_rt y) := by unfold am_cw; rw [if_pos m8]
          have hrecv : ∃ (b : Nat) (cellB : Cell), am_V X (aR a) = .ref b ∧ H[b]? = some cellB ∧ cellB.vm.isStatics = false ∧ s.vm.findClass (am_name y).cls = some cellB.cls := by
            rw [← k3]
            have obj : am_ob (gK g a) → am_cn (gK g a) = am_own y → ∃ (b : Nat) (cellB : Cell), am_V X (aR a) = .ref b ∧ H[b]? = some cellB ∧ cellB.vm.isStatics = false ∧ s.vm.findClass (am_own y) = some cellB.cls := by
              intro m7 hcn
              obtain ⟨ha, -, cell, c1, c2, c3, -⟩ := am_R_obj hR (r := a) m7
              obtain ⟨n1, n2⟩ := am_nf_ok _ (show gK g a < 20 by omega)
              have := (hK.1 _ _ n1).2.1
              refine ⟨_, cell, am_ad_new ha, c1, by rw [c3]; rfl, ?_⟩
              rw [c2, ← hcn, ← am_cn_ok _ m7]
              exact this
            rcases h1 with h1 | ⟨h1, h19⟩
            · rcases m7 with m7 | m7
              · exact obj (by rw [h1]; exact m7) (by rw [h1]; rfl)
              · have ha : a < 100 := by
                  rcases Nat.lt_or_ge a 100 with q | q
                  · exact q
                  · rcases Nat.lt_or_ge a (100 + gN g) with q2 | q2
                    · rcases hR.2.2.2.2 a q q2 with h | h | h
                      · have := h.1; omega
                      · omega
                      · omega
                    · have := hR.2.2.2.1 a q2; omega
                obtain ⟨j, hj, rfl⟩ : ∃ j, j < 16 ∧ a = 10 + 2 * j := by
                  have := hR.2.2.1.1 a ha
                  rcases am_k0_cases a with h | h | h | h
                  · omega
                  · exact h.2
                  · omega
                  · omega
                obtain ⟨aa, vv, p1, p2, p3, -⟩ := hG.2.2.2.1 j hj
                obtain ⟨cell, c1, c2, c3, c4⟩ := va_O.moved hW.alike p3
                refine ⟨aa, cell, ?_, by rw [hR.2.1 aa (Nat.not_le.mp c4)]; exact c1, c2, ?_⟩
                · show am_ad X _ = _
                  unfold am_ad
                  rw [if_neg (by omega), if_pos (by omega), p1]
                · unfold am_own
                  rw [m7]
                  exact c3
            · exact obj (by rw [h19]; decide) (by unfold am_own; rw [h19, h1]; decide +kernel)
          obtain ⟨b, cellB, r1, r2, r3, r4⟩ := hrecv
          refine ⟨_, vx_runV (C := (am_name y).cls) (bytes := am_code y) (maxL := am_nL y) (ret := am_rt y) (As := (st.take (am_na y)).reverse.map (am_V X)) (b := b) (rest := rest.map (am_V X)) (n := am_na y) S hM ?_ ?_ rfl (by rw [List.length_map, List.length_reverse, List.length_take]; omega) hl.1 ?_ (hroom h2) (am_dec hi rfl) ⟨hcl, hsl⟩⟩
          · refine ⟨⟨rfl, rfl, hfr1 _ _, hlo1 _ _ _ k4, pay y k1, by rw [← hcw]; exact List.mem_cons_self, by rw [← hcw]; exact hw _ k1, hw _ (am_has_in m3), k5, fun sig hs => ?_, hw _ (am_has_in m1)⟩, hw _ (am_has_in m2), hw _ (am_has_in m4)⟩
            rw [hs] at k6
            exact (Option.some.inj k6).symm
          · obtain ⟨g1, g2⟩ := hPre (aR a :: (st.take (am_na y)).reverse)
            refine ⟨g1, ⟨cellB, r2, r3, r4⟩, fun U hU hWU => ?_⟩
            have := g2 U hU hWU
            rw [← r1]
            exact this
          · rw [← r1]
            exact am_take e2
        · cases hc
      · cases hc
    · next i0 y2 pz e1 =>
      split at hc
      · next a rest2 e2 =>
        split at hc
        · next h1 =>
          cases hc
          obtain ⟨h1, h2, h3, h4⟩ := h1
          obtain ⟨hi0, hml2⟩ := am_ml_ok e1
          unfold am_mlok at hml2
          obtain ⟨q1, q2, x0, q4⟩ := pz
          dsimp only at hi0
          subst hi0
          simp only [Bool.and_eq_true, decide_eq_true_eq] at hml2
          obtain ⟨⟨⟨⟨⟨⟨m1, m2⟩, m3⟩, m4⟩, m4b⟩, m4c⟩, m5, m6, m8, m9, m10⟩ := hml2
          obtain ⟨k1, k2, k3, k4, k5, k6⟩ := am_mokf m5
          obtain ⟨kx1, kx2, kx3, kx4, kx5, kx6⟩ := am_mokf m6
          have hcc : ∀ v ∈ aR a :: (st.take (am_na y)).reverse, am_cat v = 1 := fun v hv => by
            rcases List.mem_cons.mp hv with rfl | hv
            · rfl
            · exact hcats _ h3 h4 v hv
          have hM := am_met hG hst hB m5 hx hlen hcc
          have hcw : am_cw y = Cond.code (am_name y) (am_code y) (am_nL y) (am_rt y) := by unfold am_cw; rw [if_pos m8]
          have hcx : am_cw x0 = Cond.code (am_name x0) (am_code x0) (am_nL x0) (am_rt x0) := by unfold am_cw; rw [if_pos m9]
          obtain ⟨ha, -, cell, c1, c2, c3, -⟩ := am_R_obj hR (r := a) (by rw [h1]; decide)
          have hfc : s.vm.findClass "java/lang/StringBuilder" = some cell.cls := by
            rw [c2, h1]
            exact (hK.1 18 _ rfl).2.1
          have hcx2 := hw _ kx1
          rw [hcx] at hcx2
          refine ⟨_, vx_runU (C := "java/lang/StringBuilder") (owner := (am_name x0).cls) (x := am_name x0) (y := am_name y) (bytes := am_code y) (maxL := am_nL y) (ret := am_rt y) (As := (st.take (am_na y)).reverse.map (am_V X)) (b := xB X + (a - 100)) (rest := rest.map (am_V X)) (n := am_na y) S hM ?_ ?_ rfl (by rw [List.length_map, List.length_reverse, List.length_take]; omega) hl.1 ?_ (hroom h2) (am_dec hi rfl) ⟨hcl, hsl⟩⟩
          · refine ⟨⟨rfl, rfl, hfr1 _ _, hlo1 _ _ _ k4, pay y k1, by rw [← hcw]; exact List.mem_cons_self⟩, by rw [← hcw]; exact hw _ k1, hw _ (am_hasA_in m4c), kx5, fun sig hs => ?_, hw _ (am_has_in m1), hw _ (am_hasA_in m4), va_Decl.of (hw _ (am_hasA_in m4b)) hcx2, hw _ (am_has_in m3), hw _ (am_has_in m2)⟩
            rw [hs] at kx6
            rw [← m10]
            exact (Option.some.inj kx6).symm
          · obtain ⟨g1, g2⟩ := hPre (aR a :: (st.take (am_na y)).reverse)
            refine ⟨g1, ⟨cell, c1, by rw [c3]; rfl, hfc⟩, fun U hU hWU => ?_⟩
            have := g2 U hU hWU
            rw [← am_ad_new (X := X) ha]
            exact this
          · rw [← am_ad_new (X := X) ha]
            exact am_take e2
        · cases hc
      · cases hc
    · cases hc
  · next idx =>
    split at hc
    · next i0 y2 pz e1 =>
      split at hc
      · next h1 =>
        cases hc
        obtain ⟨h2, h3, h4⟩ := h1
        obtain ⟨hi0, hml2⟩ := am_ml_ok e1
        unfold am_mlok at hml2
        obtain ⟨q1, q2, q3, q4⟩ := pz
        dsimp only at hi0
        subst hi0
        simp only [Bool.and_eq_true, decide_eq_true_eq] at hml2
        obtain ⟨⟨⟨m1, m2⟩, m3⟩, m5⟩ := hml2
        obtain ⟨k1, k2, k3, k4, k5, k6⟩ := am_mokf m5
        have hM := am_met hG hst hB m5 hx hlen (hcats _ h3 h4)
        have hsig : ∀ sig, parseMethodDescriptor (am_name y).desc = some sig → am_na y = sig.parameters.length := fun sig hs => by
          rw [hs] at k6
          exact (Option.some.inj k6).symm
        by_cases hh : am_hh y = []
        · have hcw : am_cw y = Cond.code (am_name y) (am_code y) (am_nL y) (am_rt y) := by unfold am_cw; rw [if_pos hh]
          refine ⟨_, vx_runS (bytes := am_code y) (maxL := am_nL y) (ret := am_rt y) (As := (st.take (am_na y)).reverse.map (am_V X)) (rest := (st.drop (am_na y)).map (am_V X)) (n := am_na y) S hM ⟨⟨rfl, rfl, hfr1 _ _, hlo1 _ _ _ k4, pay y k1, by rw [← hcw]; exact List.mem_cons_self, by rw [← hcw]; exact hw _ k1, hw _ (am_has_in m3), k5, hsig, hw _ (am_has_in m1)⟩, hw _ (am_has_in m2)⟩ (hPre (st.take (am_na y)).reverse) rfl (by rw [List.length_map, List.length_reverse, List.length_take]; omega) hl.1 am_takeS (hroom h2) (am_dec hi rfl) ⟨hcl, hsl⟩⟩
        · have hcw : am_cw y = Cond.codeWith (am_name y) (am_code y) (am_nL y) (am_rt y) (am_hh y) := by unfold am_cw; rw [if_neg hh]
          refine ⟨_, vx_runSX (hh := am_hh y) (bytes := am_code y) (maxL := am_nL y) (ret := am_rt y) (As := (st.take (am_na y)).reverse.map (am_V X)) (rest := (st.drop (am_na y)).map (am_V X)) (n := am_na y) S hM ⟨⟨rfl, rfl, hfr1 _ _, hlo1 _ _ _ k4, pay y k1, by rw [← hcw]; exact List.mem_cons_self⟩, by rw [← hcw]; exact hw _ k1, hw _ (am_has_in m3), k5, hsig, hw _ (am_has_in m1), hw _ (am_has_in m2)⟩ (hPre (st.take (am_na y)).reverse) rfl (by rw [List.length_map, List.length_reverse, List.length_take]; omega) hl.1 am_takeS (hroom h2) (am_dec hi rfl) ⟨hcl, hsl⟩⟩
      · cases hc
    · cases hc
  · next idx =>
    split at hc
    · next i0 y2 pz e1 =>
      split at hc
      · next a rest2 e2 =>
        split at hc
        · next h1 =>
          cases hc
          obtain ⟨h1, h2, h3, h4⟩ := h1
          obtain ⟨hi0, hml2⟩ := am_ml_ok e1
          unfold am_mlok at hml2
          obtain ⟨q1, q2, q3, q4⟩ := pz
          dsimp only at hi0
          subst hi0
          simp only [Bool.and_eq_true, decide_eq_true_eq] at hml2
          obtain ⟨⟨⟨m1, m2⟩, m3⟩, m5, m7, m8, m9⟩ := hml2
          obtain ⟨k1, k2, k3, k4, k5, k6⟩ := am_mokf m5
          have hcc : ∀ v ∈ aR a :: (st.take (am_na y)).reverse, am_cat v = 1 := fun v hv => by
            rcases List.mem_cons.mp hv with rfl | hv
            · rfl
            · exact hcats _ h3 h4 v hv
          have hM := am_met hG hst hB m5 hx hlen hcc
          have hcw : am_cw y = Cond.code (am_name y) (am_code y) (am_nL y) none := by unfold am_cw; rw [if_pos m8, m9]
          have r1 : am_V X (aR a) = .ref (xB X + (a - 100)) := am_ad_new (am_R_obj hR h1).1
          refine ⟨_, vx_runI (bytes := am_code y) (maxL := am_nL y) (As := (st.take (am_na y)).reverse.map (am_V X)) (b := xB X + (a - 100)) (rest := rest.map (am_V X)) (n := am_na y) S hM ⟨⟨rfl, rfl, hfr1 _ _, hlo1 _ _ _ k4, pay y k1, by rw [← hcw]; exact List.mem_cons_self, by rw [← hcw]; exact hw _ k1, hw _ (am_has_in m3), k5, fun sig hs => ?_, hw _ (am_has_in m1)⟩, m7, hw _ (am_has_in m2)⟩ ?_ rfl (by rw [List.length_map, List.length_reverse, List.length_take]; omega) hl.1 (by rw [← r1]; exact am_take e2) (hroom h2) (am_dec hi rfl) ⟨hcl, hsl⟩⟩
          · rw [hs] at k6
            exact (Option.some.inj k6).symm
          · obtain ⟨g1, g2⟩ := hPre (aR a :: (st.take (am_na y)).reverse)
            refine ⟨g1, fun U hU hWU => ?_⟩
            have := g2 U hU hWU
            rw [← r1]
            exact this
        · cases hc
      · cases hc
    · next i0 y2 pz e1 =>
      split at hc
      · next a rest2 e2 =>
        split at hc
        · next h1 =>
          cases hc
          obtain ⟨h1, h2, h3, h4⟩ := h1
          obtain ⟨hi0, hml2⟩ := am_ml_ok e1
          unfold am_mlok at hml2
          obtain ⟨q1, q2, q3, q4⟩ := pz
          dsimp only at hi0
          subst hi0
          simp only [Bool.and_eq_true, decide_eq_true_eq] at hml2
          obtain ⟨⟨⟨m1, m2⟩, m3⟩, m5, m7, m8, m9⟩ := hml2
          obtain ⟨k1, k2, k3, k4, k5, k6⟩ := am_mokf m5
          have hcc : ∀ v ∈ aR a :: (st.take (am_na y)).reverse, am_cat v = 1 := fun v hv => by
            rcases List.mem_cons.mp hv with rfl | hv
            · rfl
            · exact hcats _ h3 h4 v hv
          have hM := am_met hG hst hB m5 hx hlen hcc
          have hcw : am_cw y = Cond.code (am_name y) (am_code y) (am_nL y) none := by unfold am_cw; rw [if_pos m8, m9]
          have r1 : am_V X (aR a) = .ref (xB X + (a - 100)) := am_ad_new (am_R_obj hR h1).1
          have hnest : (Cond.methodLinkNest (am_own mi) i0 (am_name y) "RodYard").before args s = true := by
            have h0 := am_hasN_in m1
            exact va_Nw.use rfl (va_Nw.warmM hW (hG.2.2.2.2.2.2.2.2.2.1 _ h0 rfl))
          refine ⟨_, vx_runIN (host := "RodYard") (bytes := am_code y) (maxL := am_nL y) (As := (st.take (am_na y)).reverse.map (am_V X)) (b := xB X + (a - 100)) (rest := rest.map (am_V X)) (n := am_na y) S hM ⟨⟨⟨rfl, rfl, hfr1 _ _, hlo1 _ _ _ k4, pay y k1, by rw [← hcw]; exact List.mem_cons_self⟩, by rw [← hcw]; exact hw _ k1, hw _ (am_has_in m3), k5, fun sig hs => ?_, hnest⟩, m7, hw _ (am_has_in m2)⟩ ?_ rfl (by rw [List.length_map, List.length_reverse, List.length_take]; omega) hl.1 (by rw [← r1]; exact am_take e2) (hroom h2) (am_dec hi rfl) ⟨hcl, hsl⟩⟩
          · rw [hs] at k6
            exact (Option.some.inj k6).symm
          · obtain ⟨g1, g2⟩ := hPre (aR a :: (st.take (am_na y)).reverse)
            refine ⟨g1, fun U hU hWU => ?_⟩
            have := g2 U hU hWU
            rw [← r1]
            exact this
        · cases hc
      · cases hc
    · next i0 y2 pz e1 =>
      split at hc
      · next a rest2 e2 =>
        split at hc
        · next h1 =>
          cases hc
          obtain ⟨h1, h2, h3, h4⟩ := h1
          obtain ⟨hi0, hml2⟩ := am_ml_ok e1
          unfold am_mlok at hml2
          obtain ⟨q1, q2, q3, q4⟩ := pz
          dsimp only at hi0
          subst hi0
          simp only [Bool.and_eq_true, decide_eq_true_eq] at hml2
          obtain ⟨⟨⟨⟨⟨m1, m2⟩, m3⟩, m4⟩, m4b⟩, m5, m8, m9, m10⟩ := hml2
          obtain ⟨k1, k2, k3, k4, k5, k6⟩ := am_mokf m5
          have hcc : ∀ v ∈ aR a :: (st.take (am_na y)).reverse, am_cat v = 1 := fun v hv => by
            rcases List.mem_cons.mp hv with rfl | hv
            · rfl
            · exact hcats _ h3 h4 v hv
          have hM := am_met hG hst hB m5 hx hlen hcc
          have hcw : am_cw y = Cond.code (am_name y) (am_code y) (am_nL y) (am_rt y) := by unfold am_cw; rw [if_pos m8]
          obtain ⟨ha, -, cell, c1, c2, c3, -⟩ := am_R_obj hR (r := a) (by rw [h1]; decide)
          have hat : ClassAt s "java/lang/StringBuilder" ((xD X).1 18) := (hK.1 18 _ rfl).2
          have hfc : s.vm.findClass "java/lang/StringBuilder" = some cell.cls := by
            rw [c2, h1]
            exact hat.1
          refine ⟨_, vx_runSU (C := "java/lang/StringBuilder") (y := am_name y) (bytes := am_code y) (maxL := am_nL y) (ret := am_rt y) (As := (st.take (am_na y)).reverse.map (am_V X)) (b := xB X + (a - 100)) (rest := rest.map (am_V X)) (n := am_na y) hat S hM ⟨⟨rfl, rfl, hfr1 _ _, hlo1 _ _ _ k4, pay y k1, by rw [← hcw]; exact List.mem_cons_self⟩, hw _ (am_has_in m1), hw _ (am_has_in m4), hw _ (am_hasA_in m4b), hw _ (am_has_in m2), hw _ (am_has_in m3), by rw [← hcw]; exact hw _ k1, m9, fun sig hs => ?_⟩ ?_ rfl (by rw [List.length_map, List.length_reverse, List.length_take]; omega) hl.1 ?_ (hroom h2) (am_dec hi rfl) ⟨hcl, hsl⟩⟩
          · rw [hs] at k6
            exact (Option.some.inj k6).symm
          · obtain ⟨g1, g2⟩ := hPre (aR a :: (st.take (am_na y)).reverse)
            refine ⟨g1, ⟨cell, c1, by rw [c3]; rfl, hfc⟩, fun U hU hWU => ?_⟩
            have := g2 U hU hWU
            rw [← am_ad_new (X := X) ha]
            exact this
          · rw [← am_ad_new (X := X) ha]
            exact am_take e2
        · cases hc
      · cases hc
    · cases hc
  · cases hc
set_option maxHeartbeats 4000000 in
theorem am_main (hG : am_Gl X) (hst : l.stackTraces = false) : ∀ f, am_Bd X l f := by
  intro f
  induction f with
  | zero =>
    intro d mi pc ls st g M out g' M' h
    cases h
  | succ f ih =>
    intro d mi pc ls st g M out g' M' h p e R s m args below meth c H locs cells slots mc ms lsM hF hR hl hn hq hfr hlo hcl hsl hmc hms
    rw [am_exec] at h
    split at h
    · cases h
    · next i hi =>
      split at h
      · next o1 g1 e1 =>
        cases h
        have : g' = g := by
          unfold am_ret at e1
          repeat' (first | (cases e1; done) | (cases e1; rfl) | split at e1)
        subst this
        exact am_end hG hF hR hq (by omega) (by omega) hi e1
      · split at h
        · next y as rest e1 =>
          split at h
          · cases h
          · next d' =>
            split at h
            · next hlen =>
              have hmn : ∀ o1 g1 M1, am_exec f d' y 0 (am_pad y as) [] g M = some (o1, g1, M1) → gN g ≤ gN g1 ∧ gS g ≤ gS g1 := fun o1 g1 M1 h => am_exec_mono _ _ _ _ _ _ _ _ _ _ _ h
              split at h
              · cases h
              · next v g1 M1 e2 =>
                have a1 := hmn _ _ _ e2
                have a2 := am_exec_mono _ _ _ _ _ _ _ _ _ _ _ h
                obtain ⟨a, hr⟩ := am_run (e := e) (below := below) (locs := locs) (cells := cells) (slots := slots) (R := R) hG hF hR hl ih hi e1 hlen e2 (by omega) (by omega) (by omega) (by omega)
                refine am_after hq hr (fun v2 H' locs' hv hR' hq' => ?_) (fun E H' locs' q ce hv => by cases hv)
                cases hv
                exact ih (d' + 1) mi (pc + 3) ls (am_push v rest) g1 M1 out g' M' h p e R s m args below meth c H' locs' (cells + (gN g1 - gN g)) (slots + (gS g1 - gS g)) mc ms lsM hF hR' hl hn hq' hfr hlo (by omega) (by omega) hmc hms
              · next E g1 M1 e2 =>
                have a1 := hmn _ _ _ e2
                have hgg : gN g' = gN g1 ∧ gS g' = gS g1 := by
                  split at h
                  · cases h; exact ⟨rfl, rfl⟩
                  · split at h
                    · next hh hx e3 =>
                      cases hr : am_hret mi hh with
                      | none => rw [hr] at h; cases h
                      | some n => rw [hr] at h; cases h; exact ⟨rfl, rfl⟩
                    · cases h
                obtain ⟨a, hr⟩ := am_run (e := e) (below := below) (locs := locs) (cells := cells) (slots := slots) (R := R) hG hF hR hl ih hi e1 hlen e2 (by omega) (by omega) (by omega) (by omega)
                refine am_after hq hr (fun v2 H' locs' hv => by cases hv) (fun E2 H' locs' q ce hv hE1 hE2 hR' hq' hce hcv hcl2 => ?_)
                cases hv
                split at h
                · next hnil =>
                  cases h
                  obtain ⟨-, -, -, -, -, -, hlk, htab, -⟩ := hF
                  refine vx_out (fun x hx => ?_) hlk hce hcv hcl2 (fun t ht _ => ⟨E, rfl, rfl, hE1, hE2, by rw [ht]; exact hR'⟩) hq' (by omega) (by omega)
                  rw [htab, hnil] at hx
                  cases hx
                · split at h
                  · next hh hx e3 =>
                    cases hr2 : am_hret mi hh with
                    | none => rw [hr2] at h; cases h
                    | some n =>
                      rw [hr2] at h
                      cases h
                      exact am_caught hG hF hR' hl hq' (by omega) (by omega) e3 hr2 hE1 hE2 hce hcv hcl2
                  · cases h
            · cases h
        · split at h
          · next pc1 ls1 st1 g1 M1 e2 =>
            have a2 := am_exec_mono _ _ _ _ _ _ _ _ _ _ _ h
            refine am_sim hG hF hR hl hn hq (by omega) (by omega) (by omega) (by omega) hi e2 ?_
            intro H' lsM' locs' cells' slots' c1 c2 hR' hl' hn' hq'
            exact ih d mi pc1 ls1 st1 g1 M1 out g' M' h p e R s m args below meth c H' locs' cells' slots' mc ms lsM' hF hR' hl' hn' hq' hfr hlo (by omega) (by omega) hmc hms
          · split at h
            · next ik is ic k e3 =>
              split at h
              · next E e4 =>
                split at h
                · next h5 =>
                  cases h
                  obtain ⟨h5, h6, h7⟩ := h5
                  have g2 : gN (am_alloc g 30 0 6) = gN g + 1 := rfl
                  have g3 : gS (am_alloc g 30 0 6) = gS g + 6 := rfl
                  rw [g2] at hcl
                  rw [g3] at hsl
                  exact am_throw hG hF hR hl hq (by omega) (by omega) (by omega) (by omega) hmc hms h5 h6 h7 e3 e4
                · cases h
              · cases h
            · cases h
end SIM
end
section
/-! THE CLAIM OUT OF ONE WALK OF THE LAW'S BODY. Your part is whole_start (and what it stands on); all else here is the same for every law, but numbers. -/
def R_law : String := "RodYardLaw"
def lw_P (b : Addr) (xs : List Int32) (args : Array Value) (s : State) : Prop := args = #[.ref b] ∧ s.IntsAt b xs ∧ xs.length ≤ 260 ∧ (Jvm.Cond.and given_1 narrow_1).before args s = true
/-- what a walk over the start with the record d0 says of its end, said of the start itself -/
theorem lw_closed {s t : State} {o : Outcome} {d0 : Drawn} {L : List Loc} {k n : Nat} (hd0 : s.drawn.sameBut d0 lw_cs) (hv : ∃ v, o = .returned v) (hW : (s.setDrawn d0).WarmedH t.vm) (hs : (s.setDrawn d0).sameButNew ({ t with vm := s.vm } : State) L k n) : State.butDraws s t lw_cs (fun t1 => Framed s o t1 L k n) := by
  have h2 : t.drawn = d0 := congrArg State.drawn hs.1
  refine ⟨⟨hv, hW, State.sameButNew.setDrawn hs s.drawn⟩, ?_, by decide⟩
  rw [h2]
  exact hd0
def lw_Q (_ : Array Value) (s : State) (o : Outcome) (t : State) : Prop := o = .returned (some (.int 1)) ∧ State.butDraws s t lw_cs (fun t1 => Framed s o t1 [] 600086 7301442)
def lw_Z (below : List Frame) (a : Array Value) (s : State) : State → Prop := fun t => ∃ o, t.status = .running ∧ Ended t below o ∧ lw_Q a s o t
/-- what holds at the law's entry: the machine, the code, the tables' words (any of lw_tbl by 'hts w (by decide +kernel)'), the script of L ints xs at the cell b, what the Statement gives of the start (any of its parts by flat_of_before) -/
def lw_At (p : Program) (s : State) (m : MethodId) (meth : Method) (c : Code) (b L : Nat) (xs : Nat → Int32) : Prop :=
  p.tables.exec = Jvm.exec ∧ c.code = code ∧ meth.sig.returnType = ret ∧ c.maxLocals = 5 ∧ s.vm.findClass R_law = some m.cls ∧ (∀ w ∈ lw_tbl, w.before #[Value.ref b] s = true) ∧ va_X b L xs s s.heap ∧ b < s.heap.size ∧ meth.locks = false ∧ (Jvm.Cond.and given_1 narrow_1).before #[Value.ref b] s = true ∧ c.exceptionTable.toList = [] ∧ meth.name = x.name
def am_nar : List Jvm.Cond := flatC (Jvm.Cond.and given_1 narrow_1)
def am_np : List Nat := [469, 477, 485, 493, 501, 509, 518, 705, 368, 382, 392, 402, 412, 423, 1098, 1104]
def am_tmS (j : Nat) : Term := .string (am_strs.getD j ("", 0, "")).1 (am_strs.getD j ("", 0, "")).2.1
def am_tmV (j : Nat) : Term := .field (am_tmS j) "java/lang/String" "value" "[B"
def am_nw (j : Nat) : List Jvm.Cond := .exactly (am_tmS j) "java/lang/String" :: .eq (.field (am_tmS j) "java/lang/String" "coder" "B") (.int 0) :: .arrayOf (am_tmV j) .byte :: .eq (.length (am_tmV j)) (.int (Int32.ofNat (am_txt.getD j []).length)) :: (List.range (am_txt.getD j []).length).map (fun i => .eq (.elem (am_tmV j) (.int (Int32.ofNat i))) (.int (Int32.ofInt ((am_txt.getD j []).getD i 0))))
theorem am_nchk : (List.range 16).all (fun j => decide ((am_nar.drop (am_np.getD j 0)).take (am_nw j).length = am_nw j)) = true := by decide +kernel
theorem am_nin {j : Nat} (hj : j < 16) : ∀ w ∈ am_nw j, w ∈ am_nar := by
  intro w hw
  have h := of_decide_eq_true (am_all am_nchk hj)
  rw [← h] at hw
  exact List.mem_of_mem_drop (List.mem_of_mem_take hw)
theorem am_srchk : (List.range 16).all (fun j => decide (Cond.stringRef (am_strs.getD j ("", 0, "")).1 (am_strs.getD j ("", 0, "")).2.1 (am_strs.getD j ("", 0, "")).2.2 ∈ lw_tbl)) = true := by decide +kernel
theorem am_ncchk : [(10, 11), (10, 12), (11, 10), (11, 12), (12, 10), (12, 11)].all (fun q => decide (Cond.not (.castable (am_cn q.1) (am_cn q.2)) ∈ am_nar)) = true := by decide +kernel
theorem am_ls1 : Cond.laysStatic Bundle.tN "UNASSIGNED_STACK" Bundle.steD ∈ lw_tbl := by decide +kernel
theorem am_ls2 : Cond.laysStatic Bundle.tN "SUPPRESSED_SENTINEL" Bundle.listD ∈ lw_tbl := by decide +kernel
theorem am_ls3 : Cond.laysStatic "java/lang/String" "COMPACT_STRINGS" "Z" ∈ lw_tbl := by decide +kernel
theorem am_ls4 : Cond.laysStatic "jdk/internal/util/Preconditions" "SIOOBE_FORMATTER" "Ljava/util/function/BiFunction;" ∈ lw_tbl := by decide +kernel
theorem am_li1 : Cond.initialized Bundle.tN ∈ lw_tbl := by decide +kernel
theorem am_li3 : Cond.initialized "java/lang/String" ∈ lw_tbl := by decide +kernel
theorem am_li4 : Cond.initialized "jdk/internal/util/Preconditions" ∈ lw_tbl := by decide +kernel
theorem am_lo1' : Cond.arrayOver (.object "RodYard$State") ∈ lw_tbl := by decide +kernel
theorem am_lo2' : Cond.arrayOver (.array .int) ∈ lw_tbl := by decide +kernel
theorem am_nr1 : Cond.isRef (.static Bundle.tN "UNASSIGNED_STACK" Bundle.steD) ∈ am_nar := by decide +kernel
theorem am_nr2 : Cond.isRef (.static Bundle.tN "SUPPRESSED_SENTINEL" Bundle.listD) ∈ am_nar := by decide +kernel
theorem am_nr3 : Cond.eq (.static "java/lang/String" "COMPACT_STRINGS" "Z") (.int 1) ∈ am_nar := by decide +kernel
theorem am_nr4 : Cond.isRef (.static "jdk/internal/util/Preconditions" "SIOOBE_FORMATTER" "Ljava/util/function/BiFunction;") ∈ am_nar := by decide +kernel
theorem am_lo3' : Cond.arrayOver (.object "RodYardLaw$Rod") ∈ lw_tbl := by decide +kernel
theorem am_lo4' : Cond.arrayOver (.object "RodYardLaw$Order") ∈ lw_tbl := by decide +kernel
theorem am_ls5 : Cond.laysStatic "java/lang/Integer" "DigitOnes" "[B" ∈ lw_tbl := by decide +kernel
theorem am_ls6 : Cond.laysStatic "java/lang/Integer" "DigitTens" "[B" ∈ lw_tbl := by decide +kernel
theorem am_li5 : Cond.initialized "java/lang/Integer" ∈ lw_tbl := by decide +kernel
def am_dt (f : String) : Term := .static "java/lang/Integer" f "[B"
def am_dw (f : String) (h : Nat → Int) : List Jvm.Cond := .arrayOf (am_dt f) .byte :: .eq (.length (am_dt f)) (.int (Int32.ofNat 100)) :: (List.range 100).map (fun i => .eq (.elem (am_dt f) (.int (Int32.ofNat i))) (.int (Int32.ofInt (h i))))
theorem am_dchk1 : (am_nar.drop 12).take 102 = am_dw "DigitOnes" (fun i => 48 + (i : Int) % 10) := by decide +kernel
theorem am_dchk2 : (am_nar.drop 115).take 102 = am_dw "DigitTens" (fun i => 48 + (i : Int) / 10) := by decide +kernel
theorem am_din1 : ∀ w ∈ am_dw "DigitOnes" (fun i => 48 + (i : Int) % 10), w ∈ am_nar := by
  intro w hw
  rw [← am_dchk1] at hw
  exact List.mem_of_mem_drop (List.mem_of_mem_take hw)
theorem am_din2 : ∀ w ∈ am_dw "DigitTens" (fun i => 48 + (i : Int) / 10), w ∈ am_nar := by
  intro w hw
  rw [← am_dchk2] at hw
  exact List.mem_of_mem_drop (List.mem_of_mem_take hw)
/-- a private method of the superclass is selected on an object of the subclass -/
theorem am_selprv {y : MethodName} {C : String} {s : State} {args : Array Value} {n : Nat} (hy : y.cls ≠ "java/lang/invoke/MethodHandle" ∧ y.cls ≠ "java/lang/invoke/VarHandle")
    (hins : (Cond.instantiable C n).before args s = true) (hpriv : (Cond.privateMethod y).before args s = true) (hinst : (Cond.instanceMethod y).before args s = true) (hsame : (Cond.sameMethod y.cls y.cls y.name y.desc).before args s = true) :
    (Cond.selects C y y).before args s = true := by
  obtain ⟨c, k, hc, hk, -, hniab, -, -⟩ := Cond.instantiable_spec hins
  obtain ⟨mk, methM, hnamed, hmethM, -, -⟩ := Cond.instanceMethod_spec hinst
  obtain ⟨cn, ck, r1, hcn, hck, hni, hf, hn1⟩ := Cond.sameMethod_found hsame
  have hfound : s.methodFound? y.cls y.name y.desc = some mk := State.methodFound?_of_named hnamed hy
  have hcls : mk.cls = cn := Option.some.inj ((findClass_of_methodNamed hnamed).symm.trans hcn)
  have hsel : selectMethod {} s.vm c mk = .method mk := selectMethod_private hmethM (Cond.privateMethod_at hpriv mk methM hnamed hmethM)
  simp only [Cond.before, Cond.holds, Cond.value, hc, hfound, hnamed, hsel, hcls, hck]
  simp
  exact hni
theorem am_sound_t {w : Jvm.Cond} (h : w ∈ am_ws) : w ∈ am_tb2 := (List.mem_filter.mp h).1
theorem am_pv0 : Cond.privateMethod ⟨"java/lang/AbstractStringBuilder", "ensureCapacityInternal", "(I)V"⟩ ∈ lw_tbl ∧ Cond.instanceMethod ⟨"java/lang/AbstractStringBuilder", "ensureCapacityInternal", "(I)V"⟩ ∈ lw_tbl ∧ Cond.sameMethod "java/lang/AbstractStringBuilder" "java/lang/AbstractStringBuilder" "ensureCapacityInternal" "(I)V" ∈ lw_tbl := ⟨by decide +kernel, by decide +kernel, by decide +kernel⟩
theorem am_pv1 : Cond.privateMethod ⟨"java/lang/AbstractStringBuilder", "newCapacity", "(I)I"⟩ ∈ lw_tbl ∧ Cond.instanceMethod ⟨"java/lang/AbstractStringBuilder", "newCapacity", "(I)I"⟩ ∈ lw_tbl ∧ Cond.sameMethod "java/lang/AbstractStringBuilder" "java/lang/AbstractStringBuilder" "newCapacity" "(I)I" ∈ lw_tbl := ⟨by decide +kernel, by decide +kernel, by decide +kernel⟩
theorem am_pv2 : Cond.privateMethod ⟨"java/lang/AbstractStringBuilder", "putStringAt", "(ILjava/lang/String;)V"⟩ ∈ lw_tbl ∧ Cond.instanceMethod ⟨"java/lang/AbstractStringBuilder", "putStringAt", "(ILjava/lang/String;)V"⟩ ∈ lw_tbl ∧ Cond.sameMethod "java/lang/AbstractStringBuilder" "java/lang/AbstractStringBuilder" "putStringAt" "(ILjava/lang/String;)V" ∈ lw_tbl := ⟨by decide +kernel, by decide +kernel, by decide +kernel⟩
theorem am_pv3 : Cond.privateMethod ⟨"java/lang/AbstractStringBuilder", "inflateIfNeededFor", "(Ljava/lang/String;)V"⟩ ∈ lw_tbl ∧ Cond.instanceMethod ⟨"java/lang/AbstractStringBuilder", "inflateIfNeededFor", "(Ljava/lang/String;)V"⟩ ∈ lw_tbl ∧ Cond.sameMethod "java/lang/AbstractStringBuilder" "java/lang/AbstractStringBuilder" "inflateIfNeededFor" "(Ljava/lang/String;)V" ∈ lw_tbl := ⟨by decide +kernel, by decide +kernel, by decide +kernel⟩
theorem am_isb : Cond.instantiable "java/lang/StringBuilder" 4 ∈ lw_tbl := by decide +kernel
theorem am_hts2 {args : Array Value} {s : State} (hts : ∀ w ∈ lw_tbl, w.before args s = true) : ∀ w ∈ am_tb2, w.before args s = true := by
  intro w hw
  rcases List.mem_append.mp hw with h | h
  · exact hts w h
  · unfold am_sel2 at h
    simp only [List.mem_cons, List.not_mem_nil, or_false] at h
    rcases h with rfl | rfl | rfl | rfl
    · exact am_selprv ⟨by decide, by decide⟩ (hts _ am_isb) (hts _ am_pv0.1) (hts _ am_pv0.2.1) (hts _ am_pv0.2.2)
    · exact am_selprv ⟨by decide, by decide⟩ (hts _ am_isb) (hts _ am_pv1.1) (hts _ am_pv1.2.1) (hts _ am_pv1.2.2)
    · exact am_selprv ⟨by decide, by decide⟩ (hts _ am_isb) (hts _ am_pv2.1) (hts _ am_pv2.2.1) (hts _ am_pv2.2.2)
    · exact am_selprv ⟨by decide, by decide⟩ (hts _ am_isb) (hts _ am_pv3.1) (hts _ am_pv3.2.1) (hts _ am_pv3.2.2)
end
section
/-! THE LAW'S START: the world that the small machine stands for -/
theorem am_gw {A A' : Array Value} {s : State} {w : Jvm.Cond} (h : vx_ot w = true) (hb : w.before A s = true) : w.before A' s = true := by
  simp only [vx_ot, Bool.or_eq_true] at h
  rcases h with h | h
  · exact va_tabs h rfl hb
  · rcases good_of_word h with h | ⟨ty, rfl⟩
    · rw [Bool.and_eq_true] at h
      exact va_tabs h.1 rfl hb
    · exact hb
theorem am_txtlen : (List.range 16).all (fun j => decide ((am_txt.getD j []).length < 100)) = true := by decide +kernel
theorem am_clen : am_cl.length = 20 := rfl
theorem am_primA {s : State} {ty : FieldType} (A : Array Value) (hp : ∀ c, va_RA s c ty = (s.vm.findClass ("[" ++ ty.toString) = some c)) (hn : ty.isReference = false) (h : (Cond.arrayClass ty).before A s = true) : ∃ c : ClassId, ArrOfT s c ty ∧ va_RA s c ty := by
  obtain ⟨c, k, comp, h1, h2, h3⟩ := Cond.arrayClass_spec h
  refine ⟨c, fun N z => ⟨(fun k h => by cases h), k, h2, comp, h3⟩, by rw [hp]; exact h1⟩
def am_P0 (d1 d2 b : Nat) (v2 : Value) (fS : Nat → Nat × Nat) : Nat → Value := fun r => if r = 1 then .ref b else if r = 2 then v2 else if 10 ≤ r ∧ r < 42 then (if r % 2 = 0 then .ref (fS ((r - 10) / 2)).1 else .ref (fS ((r - 10) / 2)).2) else if r = 50 then .ref d1 else if r = 51 then .ref d2 else .null
theorem am_P0e {d1 d2 b : Nat} {v2 : Value} {fS : Nat → Nat × Nat} {j : Nat} (h : j < 16) : am_P0 d1 d2 b v2 fS (10 + 2 * j) = .ref (fS j).1 := by
  unfold am_P0
  rw [if_neg (by omega), if_neg (by omega), if_pos (by omega), if_pos (by omega), show (10 + 2 * j - 10) / 2 = j by omega]
theorem am_P0o {d1 d2 b : Nat} {v2 : Value} {fS : Nat → Nat × Nat} {j : Nat} (h : j < 16) : am_P0 d1 d2 b v2 fS (11 + 2 * j) = .ref (fS j).2 := by
  unfold am_P0
  rw [if_neg (by omega), if_neg (by omega), if_pos (by omega), if_neg (by omega), show (11 + 2 * j - 10) / 2 = j by omega]
theorem am_start {p : Program} {s : State} {m : MethodId} {meth : Method} {c : Code} {b L : Nat} {xs : Nat → Int32} (hL : L ≤ 260) (C0 : lw_At p s m meth c b L xs) : ∃ X : am_X, am_Gl X ∧ xS X = s ∧ xP X 1 = .ref b ∧ xL X = L ∧ xX X = xs := by
  obtain ⟨hx, hb, hr, hml, hown, hts0, hX, hbl, hlk, hgv, -⟩ := C0
  have hts : ∀ w ∈ am_tb2, w.before #[Value.ref b] s = true := am_hts2 hts0
  have hn : ∀ w ∈ am_nar, w.before #[Value.ref b] s = true := flat_of_before _ hgv
  have hA : ∀ a : Nat, a < s.heap.size → ¬ (fun q => s.heap.size ≤ q) a := fun a h1 h2 => Nat.not_le.mpr h1 h2
  have hD : ∀ ci : Nat, ∃ q : ClassId × (Nat → Nat), ci < 20 → u_Kn s (am_cr ci).1 (am_cr ci).2.1 (am_cr ci).2.2 q.1 q.2 := by
    intro ci
    by_cases h : ci < 20
    · obtain ⟨c, i, hk⟩ := u_known (C := (am_cr ci).1) (n := am_nf ci) (ws := am_tb2) (T := (am_cr ci).2.1) (N := (am_cr ci).2.2) hts (fun w hw => am_sound_t (am_uok h w hw)) (hts _ (am_sound_t (am_in_okr h).1))
      exact ⟨(c, i), fun _ => hk⟩
    · exact ⟨(0, fun _ => 0), fun h' => absurd h' h⟩
  obtain ⟨fD, hfD⟩ := Classical.axiomOfChoice hD
  have hAr : ∀ k : Nat, ∃ c : ClassId, 20 ≤ k → k < 27 → ArrOfT s c (am_aty k) ∧ va_RA s c (am_aty k) := by
    intro k
    by_cases h : 20 ≤ k ∧ k < 27
    · rcases (show k = 20 ∨ k = 21 ∨ k = 22 ∨ k = 23 ∨ k = 24 ∨ k = 25 ∨ k = 26 by omega) with rfl | rfl | rfl | rfl | rfl | rfl | rfl
      · obtain ⟨c, h⟩ := am_primA _ (fun _ => rfl) rfl (hts _ (am_sound_t am_w_aint)); exact ⟨c, fun _ _ => h⟩
      · obtain ⟨c, h⟩ := am_primA _ (fun _ => rfl) rfl (hts _ (am_sound_t am_w_abyte)); exact ⟨c, fun _ _ => h⟩
      · obtain ⟨c, h⟩ := am_primA _ (fun _ => rfl) rfl (hts _ (am_sound_t am_w_aboolean)); exact ⟨c, fun _ _ => h⟩
      · obtain ⟨comp, c, k, h1, h2, h3, h4, h5⟩ := Cond.arrayOver_spec (hts0 _ am_lo3')
        exact ⟨c, fun _ _ => ⟨fun N z => ⟨(fun k h => by cases h), k, h3, comp, h4⟩, k, comp, h3, h4, h1, h5⟩⟩
      · obtain ⟨comp, c, k, h1, h2, h3, h4, h5⟩ := Cond.arrayOver_spec (hts0 _ am_lo4')
        exact ⟨c, fun _ _ => ⟨fun N z => ⟨(fun k h => by cases h), k, h3, comp, h4⟩, k, comp, h3, h4, h1, h5⟩⟩
      · obtain ⟨comp, c, k, h1, h2, h3, h4, h5⟩ := arrayOverA_spec (hts0 _ am_lo2')
        exact ⟨c, fun _ _ => ⟨fun N z => ⟨(fun k h => by cases h), k, h3, comp, h4⟩, h5⟩⟩
      · obtain ⟨comp, c, k, h1, h2, h3, h4, h5⟩ := Cond.arrayOver_spec (hts0 _ am_lo1')
        exact ⟨c, fun _ _ => ⟨fun N z => ⟨(fun k h => by cases h), k, h3, comp, h4⟩, k, comp, h3, h4, h1, h5⟩⟩
    · exact ⟨0, fun h1 h2 => absurd ⟨h1, h2⟩ h⟩
  obtain ⟨fA, hfA⟩ := Classical.axiomOfChoice hAr
  have hS : ∀ j : Nat, ∃ q : Nat × Nat, j < 16 → (am_tmS j).eval #[Value.ref b] s none [] s = some (.ref q.1) ∧ va_O "java/lang/String" q.1 (fun q => s.heap.size ≤ q) s s.heap ∧ va_OF "java/lang/String" "coder" "B" (.int 0) q.1 (fun q => s.heap.size ≤ q) s s.heap ∧ va_OF "java/lang/String" "value" "[B" (.ref q.2) q.1 (fun q => s.heap.size ≤ q) s s.heap ∧
      va_T .byte q.2 (am_txt.getD j []).length (fun i => .int (Int32.ofInt ((am_txt.getD j []).getD i 0))) (fun q => s.heap.size ≤ q) s s.heap := by
    intro j
    by_cases hj : j < 16
    · have hw : ∀ w ∈ am_nw j, w.before #[Value.ref b] s = true := fun w h => hn w (am_nin hj w h)
      unfold am_nw at hw
      have e1 := hw _ List.mem_cons_self
      have e2 := hw _ (List.mem_cons_of_mem _ List.mem_cons_self)
      have e3 := hw _ (List.mem_cons_of_mem _ (List.mem_cons_of_mem _ List.mem_cons_self))
      have e4 := hw _ (List.mem_cons_of_mem _ (List.mem_cons_of_mem _ (List.mem_cons_of_mem _ List.mem_cons_self)))
      have e5 : ∀ i : Nat, i < (am_txt.getD j []).length → (Cond.eq (.elem (am_tmV j) (.int (Int32.ofNat i))) (.int (Int32.ofInt ((am_txt.getD j []).getD i 0)))).before #[Value.ref b] s = true := fun i hi =>
        hw _ (List.mem_cons_of_mem _ (List.mem_cons_of_mem _ (List.mem_cons_of_mem _ (List.mem_cons_of_mem _ (List.mem_map.mpr ⟨i, List.mem_range.mpr hi, rfl⟩)))))
      obtain ⟨a, c, cA, kA, q1, q2, q3, q4, q5, q6, -⟩ := Cond.exactly_spec (args := #[Value.ref b]) (first := s) (o := none) (s := s) (idx := []) (t := am_tmS j) (cls := "java/lang/String") e1
      have hlt : (am_txt.getD j []).length < 2 ^ 31 := Nat.lt_trans (of_decide_eq_true (am_all am_txtlen hj)) (by decide)
      obtain ⟨t, ht, hT⟩ := va_Tof (f := fun i => .int (Int32.ofInt ((am_txt.getD j []).getD i 0))) (A := fun q => s.heap.size ≤ q) hlt e3 (va_eqt e4) (fun i hi => va_eqt (e5 i hi)) hA
      exact ⟨(a, t), fun _ => ⟨q1, ⟨cA, q3, q5, by rw [q6]; exact q2, hA a (Array.getElem?_eq_some_iff.mp q3).1⟩, vk_OFof q1 (va_eqt e2) hA, vk_OFof q1 ht hA, hT⟩⟩
    · exact ⟨(0, 0), fun h => absurd h hj⟩
  obtain ⟨fS, hfS⟩ := Classical.axiomOfChoice hS
  obtain ⟨v2, hv2, hz2⟩ : ∃ v2 : Value, (v2 = .null ∨ ∃ a, v2 = .ref a) ∧ va_Z "jdk/internal/util/Preconditions" "SIOOBE_FORMATTER" "Ljava/util/function/BiFunction;" v2 (fun q => s.heap.size ≤ q) s s.heap := by
    rcases va_Zqof (hts0 _ am_ls4) (hts0 _ am_li4) (hn _ am_nr4) hA with h | ⟨t, h⟩
    · exact ⟨_, Or.inl rfl, h⟩
    · exact ⟨_, Or.inr ⟨t, rfl⟩, h⟩
  have hDg : ∀ (f : String) (h : Nat → Int), (∀ w ∈ am_dw f h, w.before #[Value.ref b] s = true) → (Cond.laysStatic "java/lang/Integer" f "[B").before #[Value.ref b] s = true → ∃ d : Nat, va_Z "java/lang/Integer" f "[B" (.ref d) (fun q => s.heap.size ≤ q) s s.heap ∧ va_T .byte d 100 (fun i => .int (Int32.ofInt (h i))) (fun q => s.heap.size ≤ q) s s.heap := by
    intro f h hw hl
    unfold am_dw at hw
    have e3 := hw _ List.mem_cons_self
    have e4 := hw _ (List.mem_cons_of_mem _ List.mem_cons_self)
    have e5 : ∀ i : Nat, i < 100 → (Cond.eq (.elem (am_dt f) (.int (Int32.ofNat i))) (.int (Int32.ofInt (h i)))).before #[Value.ref b] s = true := fun i hi =>
      hw _ (List.mem_cons_of_mem _ (List.mem_cons_of_mem _ (List.mem_map.mpr ⟨i, List.mem_range.mpr hi, rfl⟩)))
    obtain ⟨t, ht, hT⟩ := va_Tof (f := fun i => .int (Int32.ofInt (h i))) (A := fun q => s.heap.size ≤ q) (show 100 < 2 ^ 31 by decide) e3 (va_eqt e4) (fun i hi => va_eqt (e5 i hi)) hA
    exact ⟨t, va_Zof hl (hts0 _ am_li5) ht hA, hT⟩
  obtain ⟨d1, hd1⟩ := hDg "DigitOnes" (fun i => 48 + (i : Int) % 10) (fun w h => hn w (am_din1 w h)) (hts0 _ am_ls5)
  obtain ⟨d2, hd2⟩ := hDg "DigitTens" (fun i => 48 + (i : Int) / 10) (fun w h => hn w (am_din2 w h)) (hts0 _ am_ls6)
  have hsr : ∀ own is tx, Cond.stringRef own is tx ∈ lw_tbl → ∃ sa, vk_R own is tx sa s ∧ (Term.string own is).eval #[Value.ref b] s none [] s = some (.ref sa) := by
    intro own is tx h
    have h1 := hts0 _ h
    have hcur : ∃ cur, s.vm.findClass own = some cur := by
      have h1 := h1
      simp only [Cond.before, Cond.holds, Cond.value] at h1
      cases hc : s.vm.findClass own with
      | none => simp [hc] at h1
      | some cur => exact ⟨cur, rfl⟩
    obtain ⟨cur, hcur⟩ := hcur
    obtain ⟨k, cf, i, a, -, -, -, -, -, hev⟩ := Cond.stringRef_spec hcur h1
    exact ⟨a, vk_R.of h1 hev, hev⟩
  refine ⟨(s, (fun ci => (fD ci).1, fun ci => (fD ci).2), fA, am_P0 d1 d2 b v2 fS, L, xs), ?_, rfl, rfl, rfl, rfl⟩
  refine ⟨⟨fun c q hq => ?_, fun k q hk => ?_⟩, ⟨?_, ?_⟩, ⟨?_, ?_⟩, ?_, ?_, ?_, ?_, ?_, ?_, ?_, ⟨?_, ?_, ?_⟩, ?_, ⟨d1, rfl, hd1⟩, ⟨d2, rfl, hd2⟩⟩
  · have hc : c < 20 := by rw [← am_clen]; exact (List.getElem?_eq_some_iff.mp hq).1
    have := hfD c hc
    rw [(am_nf_ok c hc).1] at hq
    cases hq
    exact this
  · have hk7 : k < 7 := (List.getElem?_eq_some_iff.mp hk).1
    rcases (show k = 0 ∨ k = 1 ∨ k = 2 ∨ k = 3 ∨ k = 4 ∨ k = 5 ∨ k = 6 by omega) with rfl | rfl | rfl | rfl | rfl | rfl | rfl <;> cases hk
    · exact hfA 20 (by decide) (by decide)
    · exact hfA 21 (by decide) (by decide)
    · exact hfA 22 (by decide) (by decide)
    · exact hfA 23 (by decide) (by decide)
    · exact hfA 24 (by decide) (by decide)
    · exact hfA 25 (by decide) (by decide)
    · exact hfA 26 (by decide) (by decide)
  · exact vx_Zqof (hts0 _ am_ls1) (hts0 _ am_li1) (hn _ am_nr1) hA
  · exact vx_Zqof (hts0 _ am_ls2) (hts0 _ am_li1) (hn _ am_nr2) hA
  · exact va_Zof (hts0 _ am_ls3) (hts0 _ am_li3) (va_eqt (hn _ am_nr3)) hA
  · exact hz2
  · intro j hj
    obtain ⟨h1, h2⟩ := hfS j hj
    exact ⟨(fS j).1, (fS j).2, am_P0e hj, am_P0o hj, h2⟩
  · exact ⟨b, rfl, hX, hbl, by show L < 2147483648; omega⟩
  · intro own is tx h
    obtain ⟨sa, h1, -⟩ := hsr own is tx (List.mem_append_right _ h)
    exact ⟨sa, h1⟩
  · intro j hj
    obtain ⟨sa, h1, h2⟩ := hsr _ _ _ (of_decide_eq_true (am_all am_srchk hj))
    have h3 := (hfS j hj).1
    unfold am_tmS at h3
    rw [h3] at h2
    cases h2
    show vk_R _ _ _ (match am_P0 d1 d2 b v2 fS (10 + 2 * j) with | .ref a => a | _ => 0) s
    rw [am_P0e hj]
    exact h1
  · intro E T h1 h2 h3 h4 h5
    have hc : ∀ q : Nat × Nat, q ∈ [(10, 11), (10, 12), (11, 10), (11, 12), (12, 10), (12, 11)] → va_Nc (am_cn q.1) (am_cn q.2) s := fun q hq => va_Nc.of (hn _ (of_decide_eq_true (List.all_eq_true.mp am_ncchk q hq)))
    rcases (show E = 10 ∨ E = 11 ∨ E = 12 by omega) with rfl | rfl | rfl <;> rcases (show T = 10 ∨ T = 11 ∨ T = 12 by omega) with rfl | rfl | rfl
    · exact absurd rfl h5
    · exact hc (10, 11) (by decide)
    · exact hc (10, 12) (by decide)
    · exact hc (11, 10) (by decide)
    · exact absurd rfl h5
    · exact hc (11, 12) (by decide)
    · exact hc (12, 10) (by decide)
    · exact hc (12, 11) (by decide)
    · exact absurd rfl h5
  · intro r hr
    show am_P0 d1 d2 b v2 fS r = .null ∨ ∃ a, am_P0 d1 d2 b v2 fS r = .ref a
    unfold am_P0
    split
    · exact Or.inr ⟨_, rfl⟩
    · split
      · exact hv2
      · split
        · split
          · exact Or.inr ⟨_, rfl⟩
          · exact Or.inr ⟨_, rfl⟩
        · split
          · exact Or.inr ⟨_, rfl⟩
          · split
            · exact Or.inr ⟨_, rfl⟩
            · exact Or.inl rfl
  · exact fun w hw h => am_gw h (hts0 w hw)
  · exact va_AO.of (hts0 _ am_lo1')
  · exact va_AO.of (hts0 _ am_lo3')
  · exact va_AO.of (hts0 _ am_lo4')
  · exact hts0 _ am_lo2'
def am_g0 (L : Nat) : AG := (0, 0, fun r => if r < 100 then am_k0 r else 99, fun r => if r = 1 then L else if r < 50 then (am_txt.getD ((r - 11) / 2) []).length else 100, fun r _ => r + 1)
def am_M0 (xs : Nat → Int32) : AM := fun r i => if r = 1 then (xs i.toNat).toInt else if r = 50 then 48 + i % 10 else if r = 51 then 48 + i / 10 else (am_txt.getD ((r - 11) / 2) []).getD i.toNat 0
theorem am_Rel0 {X : am_X} : am_Rel X (am_g0 (xL X)) (am_M0 (xX X)) (xS X).heap := by
  refine ⟨rfl, fun q _ => rfl, ⟨fun r hr => if_pos hr, rfl, fun j hj => rfl, fun j hj => ⟨?_, ?_, fun i hi => ?_⟩, ⟨rfl, fun i hi => rfl⟩, ⟨rfl, fun i hi => rfl⟩⟩, fun r hr => ?_, fun r h1 h2 => ?_⟩
  · show 10 + 2 * j + 1 = 11 + 2 * j
    omega
  · show (if 11 + 2 * j = 1 then _ else if 11 + 2 * j < 50 then _ else _) = _
    rw [if_neg (by omega), if_pos (by omega), show (11 + 2 * j - 11) / 2 = j by omega]
  · show (if 11 + 2 * j = 1 then _ else if 11 + 2 * j = 50 then _ else if 11 + 2 * j = 51 then _ else _) = _
    rw [if_neg (by omega), if_neg (by omega), if_neg (by omega), show (11 + 2 * j - 11) / 2 = j by omega]
    rfl
  · show (if r < 100 then _ else _) = _
    rw [if_neg (by have h9 : 100 + 0 ≤ r := hr; omega)]
  · exfalso
    have h9 : r < 100 + 0 := h2
    omega
theorem am_flags {l : Launch} (h : l.flags = flags0) : l.stackTraces = false := by
  unfold Launch.stackTraces
  rw [h]
  decide +kernel
def am_goal (L : Nat) (xs : Nat → Int32) : Prop := ∃ (f : Nat) (g' : AG) (M' : AM), am_exec f 1000 0 0 (am_pad 0 [aR 1]) [] (am_g0 L) (am_M0 xs) = some (.inl (some (aI 1)), g', M') ∧ gN g' ≤ 600086 ∧ gS g' ≤ 7301442
theorem am_r0 : am_mr 0 = am_mt0.getD 0 am_md := rfl
theorem am_c0 : am_code 0 = code := rfl
theorem am_l0 : am_nL 0 = 5 := by decide +kernel
theorem am_t0 : am_rt 0 = ret := rfl
theorem am_h0 : am_hh 0 = [] := rfl
theorem am_n0 : (am_name 0).name = x.name := by decide +kernel
theorem am_o0 : am_own 0 = R_law := by decide +kernel
theorem am_room {a b : Nat} (h1 : a ≤ 600086) (h2 : b ≤ 7301442) : 1000 + 10 ≤ room_1.frames ∧ 60 * 1000 + 300 ≤ room_1.locals ∧ 600086 ≤ room_1.cells ∧ 7301442 ≤ room_1.slots := ⟨by decide, by decide, by decide, by decide⟩
theorem am_law {p : Program} {e : Env} {s : State} {m : MethodId} {below : List Frame} {meth : Method} {c : Code} (l : Launch) (hflags : l.flags = flags0) {b L : Nat} {xs : Nat → Int32} (hL : L ≤ 260) (C0 : lw_At p s m meth c b L xs) (hgoal : am_goal L xs) : W p l e room_1 s m #[Value.ref b] below meth c s.heap [] 0 0 (lw_Z below #[Value.ref b] s) (entryFrame m ([Value.ref b] : List Value).toArray 5) := by
  obtain ⟨X, hG, hs, h1, h2, h3⟩ := am_start hL C0
  obtain ⟨hx, hb, hr, hml, hown, hts, hX, hbl, hlk, hgv, htab, hnm⟩ := C0
  obtain ⟨f, g', M', hrun, hg1, hg2⟩ := hgoal
  have hR0 := am_Rel0 (X := X)
  rw [h2, h3, hs] at hR0
  have hF : am_Fx X p l s m #[Value.ref b] meth c 0 := ⟨hx, by rw [hb, am_c0], by rw [hml, am_l0], by rw [am_o0]; exact hown, fun w hw => am_hts2 hts w (am_sound_t hw), by rw [hr, am_t0], hlk, by rw [htab, am_h0]; rfl, by rw [hnm, am_n0], am_flags hflags, by rw [hs]; exact State.WarmedH.refl s, by unfold xB; rw [show X.1 = s from hs]; exact Nat.le_refl _, fun q _ => by rw [hs]⟩
  have hcat : ∀ v ∈ [aR 1], am_cat v = 1 := fun v hv => by
    rcases List.mem_cons.mp hv with rfl | h
    · rfl
    · cases h
  have hV : am_V X (aR 1) = .ref b := h1
  have hlv := am_entry hG (as := [aR 1]) (n := 5) hcat (by decide)
  have hgo := am_main hG (am_flags hflags) f 1000 0 0 (am_pad 0 [aR 1]) [] (am_g0 L) (am_M0 xs) _ g' M' hrun p e room_1 s m #[Value.ref b] below meth c s.heap [] 0 0 600086 7301442 _ hF hR0 (by rw [am_l0]; exact hlv) (by unfold am_pad; rw [am_l0]; rfl) (fun q hq => by cases hq) (am_room hg1 hg2).1 (am_room hg1 hg2).2.1 (by rw [Nat.zero_add, show gN (am_g0 L) = 0 from rfl]; exact hg1) (by rw [Nat.zero_add, show gS (am_g0 L) = 0 from rfl]; exact hg2) (am_room hg1 hg2).2.2.1 (am_room hg1 hg2).2.2.2
  rw [lg_entry_eq]
  rw [show ([aR 1] : List AV).map (am_V X) = [Value.ref b] by rw [List.map_cons, hV]; rfl] at hgo
  intro T hT Xs
  obtain ⟨t, a1, o, b1, b2, b3⟩ := hgo T hT Xs
  refine ⟨t, a1, o, b1, b2, ?_⟩
  have hB : xB X = s.heap.size := by unfold xB; rw [show X.1 = s from hs]
  rcases b3 with ⟨⟨v, hv, ho, -⟩, Ls, hFE, hfree⟩ | ⟨q, ho, E, ce, Ls, ⟨ci, hci, -⟩, -⟩
  · cases hv
    subst ho
    have hs2 : (s.setDrawn s.drawn).sameButNew ({ t with vm := s.vm } : State) [] 600086 7301442 := State.sameButNew.sift hFE.2.2 (fun q hq => Or.inr (by have h9 : xB X ≤ q.base := hfree q hq; rw [hB] at h9; exact h9))
    exact ⟨rfl, lw_closed (Drawn.sameBut.refl s.drawn lw_cs) ⟨_, rfl⟩ hFE.2.1 hs2⟩
  · cases hci
end
